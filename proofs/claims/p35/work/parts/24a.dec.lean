def lzddJ6_bitCount_0f7a4_0 : List (Nat × Instr × Nat) := [(0, .iload_n 0, 1), (1, .iload_n 0, 1), (2, .iconst 1, 1), (3, .iushr, 1), (4, .ldc_w 265, 3), (7, .iand, 1), (8, .isub, 1), (9, .istore_n 0, 1), (10, .iload_n 0, 1), (11, .ldc_w 266, 3), (14, .iand, 1), (15, .iload_n 0, 1), (16, .iconst 2, 1), (17, .iushr, 1), (18, .ldc_w 266, 3), (21, .iand, 1), (22, .iadd, 1), (23, .istore_n 0, 1), (24, .iload_n 0, 1), (25, .iload_n 0, 1)]
theorem zddJ6_bitCount_0f7a4_0 : dqW lzddJ6_bitCount_0f7a4_0 (cJ6_bitCount_0f7a4.data.toList.drop 0) 0 = true := by decide +kernel
theorem dJ6_bitCount_0f7a4_0 : decode cJ6_bitCount_0f7a4 0 = .ok (.iload_n 0, 1) := dq_get (L := lzddJ6_bitCount_0f7a4_0) 0 rfl zddJ6_bitCount_0f7a4_0 rfl
theorem dJ6_bitCount_0f7a4_1 : decode cJ6_bitCount_0f7a4 1 = .ok (.iload_n 0, 1) := dq_get (L := lzddJ6_bitCount_0f7a4_0) 1 rfl zddJ6_bitCount_0f7a4_0 rfl
theorem dJ6_bitCount_0f7a4_2 : decode cJ6_bitCount_0f7a4 2 = .ok (.iconst 1, 1) := dq_get (L := lzddJ6_bitCount_0f7a4_0) 2 rfl zddJ6_bitCount_0f7a4_0 rfl
theorem dJ6_bitCount_0f7a4_3 : decode cJ6_bitCount_0f7a4 3 = .ok (.iushr, 1) := dq_get (L := lzddJ6_bitCount_0f7a4_0) 3 rfl zddJ6_bitCount_0f7a4_0 rfl
theorem dJ6_bitCount_0f7a4_4 : decode cJ6_bitCount_0f7a4 4 = .ok (.ldc_w 265, 3) := dq_get (L := lzddJ6_bitCount_0f7a4_0) 4 rfl zddJ6_bitCount_0f7a4_0 rfl
theorem dJ6_bitCount_0f7a4_7 : decode cJ6_bitCount_0f7a4 7 = .ok (.iand, 1) := dq_get (L := lzddJ6_bitCount_0f7a4_0) 5 rfl zddJ6_bitCount_0f7a4_0 rfl
theorem dJ6_bitCount_0f7a4_8 : decode cJ6_bitCount_0f7a4 8 = .ok (.isub, 1) := dq_get (L := lzddJ6_bitCount_0f7a4_0) 6 rfl zddJ6_bitCount_0f7a4_0 rfl
theorem dJ6_bitCount_0f7a4_9 : decode cJ6_bitCount_0f7a4 9 = .ok (.istore_n 0, 1) := dq_get (L := lzddJ6_bitCount_0f7a4_0) 7 rfl zddJ6_bitCount_0f7a4_0 rfl
theorem dJ6_bitCount_0f7a4_10 : decode cJ6_bitCount_0f7a4 10 = .ok (.iload_n 0, 1) := dq_get (L := lzddJ6_bitCount_0f7a4_0) 8 rfl zddJ6_bitCount_0f7a4_0 rfl
theorem dJ6_bitCount_0f7a4_11 : decode cJ6_bitCount_0f7a4 11 = .ok (.ldc_w 266, 3) := dq_get (L := lzddJ6_bitCount_0f7a4_0) 9 rfl zddJ6_bitCount_0f7a4_0 rfl
theorem dJ6_bitCount_0f7a4_14 : decode cJ6_bitCount_0f7a4 14 = .ok (.iand, 1) := dq_get (L := lzddJ6_bitCount_0f7a4_0) 10 rfl zddJ6_bitCount_0f7a4_0 rfl
theorem dJ6_bitCount_0f7a4_15 : decode cJ6_bitCount_0f7a4 15 = .ok (.iload_n 0, 1) := dq_get (L := lzddJ6_bitCount_0f7a4_0) 11 rfl zddJ6_bitCount_0f7a4_0 rfl
theorem dJ6_bitCount_0f7a4_16 : decode cJ6_bitCount_0f7a4 16 = .ok (.iconst 2, 1) := dq_get (L := lzddJ6_bitCount_0f7a4_0) 12 rfl zddJ6_bitCount_0f7a4_0 rfl
theorem dJ6_bitCount_0f7a4_17 : decode cJ6_bitCount_0f7a4 17 = .ok (.iushr, 1) := dq_get (L := lzddJ6_bitCount_0f7a4_0) 13 rfl zddJ6_bitCount_0f7a4_0 rfl
theorem dJ6_bitCount_0f7a4_18 : decode cJ6_bitCount_0f7a4 18 = .ok (.ldc_w 266, 3) := dq_get (L := lzddJ6_bitCount_0f7a4_0) 14 rfl zddJ6_bitCount_0f7a4_0 rfl
theorem dJ6_bitCount_0f7a4_21 : decode cJ6_bitCount_0f7a4 21 = .ok (.iand, 1) := dq_get (L := lzddJ6_bitCount_0f7a4_0) 15 rfl zddJ6_bitCount_0f7a4_0 rfl
theorem dJ6_bitCount_0f7a4_22 : decode cJ6_bitCount_0f7a4 22 = .ok (.iadd, 1) := dq_get (L := lzddJ6_bitCount_0f7a4_0) 16 rfl zddJ6_bitCount_0f7a4_0 rfl
theorem dJ6_bitCount_0f7a4_23 : decode cJ6_bitCount_0f7a4 23 = .ok (.istore_n 0, 1) := dq_get (L := lzddJ6_bitCount_0f7a4_0) 17 rfl zddJ6_bitCount_0f7a4_0 rfl
theorem dJ6_bitCount_0f7a4_24 : decode cJ6_bitCount_0f7a4 24 = .ok (.iload_n 0, 1) := dq_get (L := lzddJ6_bitCount_0f7a4_0) 18 rfl zddJ6_bitCount_0f7a4_0 rfl
theorem dJ6_bitCount_0f7a4_25 : decode cJ6_bitCount_0f7a4 25 = .ok (.iload_n 0, 1) := dq_get (L := lzddJ6_bitCount_0f7a4_0) 19 rfl zddJ6_bitCount_0f7a4_0 rfl
def lzddJ6_bitCount_0f7a4_26 : List (Nat × Instr × Nat) := [(26, .iconst 4, 1), (27, .iushr, 1), (28, .iadd, 1), (29, .ldc_w 267, 3), (32, .iand, 1), (33, .istore_n 0, 1), (34, .iload_n 0, 1), (35, .iload_n 0, 1), (36, .bipush 8, 2), (38, .iushr, 1), (39, .iadd, 1), (40, .istore_n 0, 1), (41, .iload_n 0, 1), (42, .iload_n 0, 1), (43, .bipush 16, 2), (45, .iushr, 1), (46, .iadd, 1), (47, .istore_n 0, 1), (48, .iload_n 0, 1), (49, .bipush 63, 2)]
theorem zddJ6_bitCount_0f7a4_26 : dqW lzddJ6_bitCount_0f7a4_26 (cJ6_bitCount_0f7a4.data.toList.drop 26) 26 = true := by decide +kernel
theorem dJ6_bitCount_0f7a4_26 : decode cJ6_bitCount_0f7a4 26 = .ok (.iconst 4, 1) := dq_get (L := lzddJ6_bitCount_0f7a4_26) 0 rfl zddJ6_bitCount_0f7a4_26 rfl
theorem dJ6_bitCount_0f7a4_27 : decode cJ6_bitCount_0f7a4 27 = .ok (.iushr, 1) := dq_get (L := lzddJ6_bitCount_0f7a4_26) 1 rfl zddJ6_bitCount_0f7a4_26 rfl
theorem dJ6_bitCount_0f7a4_28 : decode cJ6_bitCount_0f7a4 28 = .ok (.iadd, 1) := dq_get (L := lzddJ6_bitCount_0f7a4_26) 2 rfl zddJ6_bitCount_0f7a4_26 rfl
theorem dJ6_bitCount_0f7a4_29 : decode cJ6_bitCount_0f7a4 29 = .ok (.ldc_w 267, 3) := dq_get (L := lzddJ6_bitCount_0f7a4_26) 3 rfl zddJ6_bitCount_0f7a4_26 rfl
theorem dJ6_bitCount_0f7a4_32 : decode cJ6_bitCount_0f7a4 32 = .ok (.iand, 1) := dq_get (L := lzddJ6_bitCount_0f7a4_26) 4 rfl zddJ6_bitCount_0f7a4_26 rfl
theorem dJ6_bitCount_0f7a4_33 : decode cJ6_bitCount_0f7a4 33 = .ok (.istore_n 0, 1) := dq_get (L := lzddJ6_bitCount_0f7a4_26) 5 rfl zddJ6_bitCount_0f7a4_26 rfl
theorem dJ6_bitCount_0f7a4_34 : decode cJ6_bitCount_0f7a4 34 = .ok (.iload_n 0, 1) := dq_get (L := lzddJ6_bitCount_0f7a4_26) 6 rfl zddJ6_bitCount_0f7a4_26 rfl
theorem dJ6_bitCount_0f7a4_35 : decode cJ6_bitCount_0f7a4 35 = .ok (.iload_n 0, 1) := dq_get (L := lzddJ6_bitCount_0f7a4_26) 7 rfl zddJ6_bitCount_0f7a4_26 rfl
theorem dJ6_bitCount_0f7a4_36 : decode cJ6_bitCount_0f7a4 36 = .ok (.bipush 8, 2) := dq_get (L := lzddJ6_bitCount_0f7a4_26) 8 rfl zddJ6_bitCount_0f7a4_26 rfl
theorem dJ6_bitCount_0f7a4_38 : decode cJ6_bitCount_0f7a4 38 = .ok (.iushr, 1) := dq_get (L := lzddJ6_bitCount_0f7a4_26) 9 rfl zddJ6_bitCount_0f7a4_26 rfl
theorem dJ6_bitCount_0f7a4_39 : decode cJ6_bitCount_0f7a4 39 = .ok (.iadd, 1) := dq_get (L := lzddJ6_bitCount_0f7a4_26) 10 rfl zddJ6_bitCount_0f7a4_26 rfl
theorem dJ6_bitCount_0f7a4_40 : decode cJ6_bitCount_0f7a4 40 = .ok (.istore_n 0, 1) := dq_get (L := lzddJ6_bitCount_0f7a4_26) 11 rfl zddJ6_bitCount_0f7a4_26 rfl
theorem dJ6_bitCount_0f7a4_41 : decode cJ6_bitCount_0f7a4 41 = .ok (.iload_n 0, 1) := dq_get (L := lzddJ6_bitCount_0f7a4_26) 12 rfl zddJ6_bitCount_0f7a4_26 rfl
theorem dJ6_bitCount_0f7a4_42 : decode cJ6_bitCount_0f7a4 42 = .ok (.iload_n 0, 1) := dq_get (L := lzddJ6_bitCount_0f7a4_26) 13 rfl zddJ6_bitCount_0f7a4_26 rfl
theorem dJ6_bitCount_0f7a4_43 : decode cJ6_bitCount_0f7a4 43 = .ok (.bipush 16, 2) := dq_get (L := lzddJ6_bitCount_0f7a4_26) 14 rfl zddJ6_bitCount_0f7a4_26 rfl
theorem dJ6_bitCount_0f7a4_45 : decode cJ6_bitCount_0f7a4 45 = .ok (.iushr, 1) := dq_get (L := lzddJ6_bitCount_0f7a4_26) 15 rfl zddJ6_bitCount_0f7a4_26 rfl
theorem dJ6_bitCount_0f7a4_46 : decode cJ6_bitCount_0f7a4 46 = .ok (.iadd, 1) := dq_get (L := lzddJ6_bitCount_0f7a4_26) 16 rfl zddJ6_bitCount_0f7a4_26 rfl
theorem dJ6_bitCount_0f7a4_47 : decode cJ6_bitCount_0f7a4 47 = .ok (.istore_n 0, 1) := dq_get (L := lzddJ6_bitCount_0f7a4_26) 17 rfl zddJ6_bitCount_0f7a4_26 rfl
theorem dJ6_bitCount_0f7a4_48 : decode cJ6_bitCount_0f7a4 48 = .ok (.iload_n 0, 1) := dq_get (L := lzddJ6_bitCount_0f7a4_26) 18 rfl zddJ6_bitCount_0f7a4_26 rfl
theorem dJ6_bitCount_0f7a4_49 : decode cJ6_bitCount_0f7a4 49 = .ok (.bipush 63, 2) := dq_get (L := lzddJ6_bitCount_0f7a4_26) 19 rfl zddJ6_bitCount_0f7a4_26 rfl
def lzddJ6_bitCount_0f7a4_51 : List (Nat × Instr × Nat) := [(51, .iand, 1), (52, .ireturn, 1)]
theorem zddJ6_bitCount_0f7a4_51 : dqW lzddJ6_bitCount_0f7a4_51 (cJ6_bitCount_0f7a4.data.toList.drop 51) 51 = true := by decide +kernel
theorem dJ6_bitCount_0f7a4_51 : decode cJ6_bitCount_0f7a4 51 = .ok (.iand, 1) := dq_get (L := lzddJ6_bitCount_0f7a4_51) 0 rfl zddJ6_bitCount_0f7a4_51 rfl
theorem dJ6_bitCount_0f7a4_52 : decode cJ6_bitCount_0f7a4 52 = .ok (.ireturn, 1) := dq_get (L := lzddJ6_bitCount_0f7a4_51) 1 rfl zddJ6_bitCount_0f7a4_51 rfl
def lzddJ7_fill_53178_0 : List (Nat × Instr × Nat) := [(0, .iconst 0, 1), (1, .istore_n 2, 1), (2, .aload_n 0, 1), (3, .arraylength, 1), (4, .istore_n 3, 1), (5, .iload_n 2, 1), (6, .iload_n 3, 1), (7, .if_icmp .ge 13, 3), (10, .aload_n 0, 1), (11, .iload_n 2, 1), (12, .iload_n 1, 1), (13, .iastore, 1), (14, .iinc 2 1, 3), (17, .goto (-12), 3), (20, .return_, 1)]
theorem zddJ7_fill_53178_0 : dqW lzddJ7_fill_53178_0 (cJ7_fill_53178.data.toList.drop 0) 0 = true := by decide +kernel
theorem dJ7_fill_53178_0 : decode cJ7_fill_53178 0 = .ok (.iconst 0, 1) := dq_get (L := lzddJ7_fill_53178_0) 0 rfl zddJ7_fill_53178_0 rfl
theorem dJ7_fill_53178_1 : decode cJ7_fill_53178 1 = .ok (.istore_n 2, 1) := dq_get (L := lzddJ7_fill_53178_0) 1 rfl zddJ7_fill_53178_0 rfl
theorem dJ7_fill_53178_2 : decode cJ7_fill_53178 2 = .ok (.aload_n 0, 1) := dq_get (L := lzddJ7_fill_53178_0) 2 rfl zddJ7_fill_53178_0 rfl
theorem dJ7_fill_53178_3 : decode cJ7_fill_53178 3 = .ok (.arraylength, 1) := dq_get (L := lzddJ7_fill_53178_0) 3 rfl zddJ7_fill_53178_0 rfl
theorem dJ7_fill_53178_4 : decode cJ7_fill_53178 4 = .ok (.istore_n 3, 1) := dq_get (L := lzddJ7_fill_53178_0) 4 rfl zddJ7_fill_53178_0 rfl
theorem dJ7_fill_53178_5 : decode cJ7_fill_53178 5 = .ok (.iload_n 2, 1) := dq_get (L := lzddJ7_fill_53178_0) 5 rfl zddJ7_fill_53178_0 rfl
theorem dJ7_fill_53178_6 : decode cJ7_fill_53178 6 = .ok (.iload_n 3, 1) := dq_get (L := lzddJ7_fill_53178_0) 6 rfl zddJ7_fill_53178_0 rfl
theorem dJ7_fill_53178_7 : decode cJ7_fill_53178 7 = .ok (.if_icmp .ge 13, 3) := dq_get (L := lzddJ7_fill_53178_0) 7 rfl zddJ7_fill_53178_0 rfl
theorem dJ7_fill_53178_10 : decode cJ7_fill_53178 10 = .ok (.aload_n 0, 1) := dq_get (L := lzddJ7_fill_53178_0) 8 rfl zddJ7_fill_53178_0 rfl
theorem dJ7_fill_53178_11 : decode cJ7_fill_53178 11 = .ok (.iload_n 2, 1) := dq_get (L := lzddJ7_fill_53178_0) 9 rfl zddJ7_fill_53178_0 rfl
theorem dJ7_fill_53178_12 : decode cJ7_fill_53178 12 = .ok (.iload_n 1, 1) := dq_get (L := lzddJ7_fill_53178_0) 10 rfl zddJ7_fill_53178_0 rfl
theorem dJ7_fill_53178_13 : decode cJ7_fill_53178 13 = .ok (.iastore, 1) := dq_get (L := lzddJ7_fill_53178_0) 11 rfl zddJ7_fill_53178_0 rfl
theorem dJ7_fill_53178_14 : decode cJ7_fill_53178 14 = .ok (.iinc 2 1, 3) := dq_get (L := lzddJ7_fill_53178_0) 12 rfl zddJ7_fill_53178_0 rfl
theorem dJ7_fill_53178_17 : decode cJ7_fill_53178 17 = .ok (.goto (-12), 3) := dq_get (L := lzddJ7_fill_53178_0) 13 rfl zddJ7_fill_53178_0 rfl
theorem dJ7_fill_53178_20 : decode cJ7_fill_53178 20 = .ok (.return_, 1) := dq_get (L := lzddJ7_fill_53178_0) 14 rfl zddJ7_fill_53178_0 rfl
def lzddX0_cheesesIn_0 : List (Nat × Instr × Nat) := [(0, .iconst 0, 1), (1, .istore_n 2, 1), (2, .iconst 0, 1), (3, .istore_n 3, 1), (4, .iload_n 3, 1), (5, .aload_n 0, 1), (6, .getfield 60, 3), (9, .if_icmp .ge 22, 3), (12, .iload_n 2, 1), (13, .iload_n 1, 1), (14, .aload_n 0, 1), (15, .getfield 21, 3), (18, .iload_n 3, 1), (19, .iaload, 1), (20, .invokestatic 78, 3), (23, .iadd, 1), (24, .istore_n 2, 1), (25, .iinc 3 1, 3), (28, .goto (-24), 3), (31, .iload_n 2, 1)]
theorem zddX0_cheesesIn_0 : dqW lzddX0_cheesesIn_0 (cX0_cheesesIn.data.toList.drop 0) 0 = true := by decide +kernel
theorem dX0_cheesesIn_0 : decode cX0_cheesesIn 0 = .ok (.iconst 0, 1) := dq_get (L := lzddX0_cheesesIn_0) 0 rfl zddX0_cheesesIn_0 rfl
theorem dX0_cheesesIn_1 : decode cX0_cheesesIn 1 = .ok (.istore_n 2, 1) := dq_get (L := lzddX0_cheesesIn_0) 1 rfl zddX0_cheesesIn_0 rfl
theorem dX0_cheesesIn_2 : decode cX0_cheesesIn 2 = .ok (.iconst 0, 1) := dq_get (L := lzddX0_cheesesIn_0) 2 rfl zddX0_cheesesIn_0 rfl
theorem dX0_cheesesIn_3 : decode cX0_cheesesIn 3 = .ok (.istore_n 3, 1) := dq_get (L := lzddX0_cheesesIn_0) 3 rfl zddX0_cheesesIn_0 rfl
theorem dX0_cheesesIn_4 : decode cX0_cheesesIn 4 = .ok (.iload_n 3, 1) := dq_get (L := lzddX0_cheesesIn_0) 4 rfl zddX0_cheesesIn_0 rfl
theorem dX0_cheesesIn_5 : decode cX0_cheesesIn 5 = .ok (.aload_n 0, 1) := dq_get (L := lzddX0_cheesesIn_0) 5 rfl zddX0_cheesesIn_0 rfl
theorem dX0_cheesesIn_6 : decode cX0_cheesesIn 6 = .ok (.getfield 60, 3) := dq_get (L := lzddX0_cheesesIn_0) 6 rfl zddX0_cheesesIn_0 rfl
theorem dX0_cheesesIn_9 : decode cX0_cheesesIn 9 = .ok (.if_icmp .ge 22, 3) := dq_get (L := lzddX0_cheesesIn_0) 7 rfl zddX0_cheesesIn_0 rfl
theorem dX0_cheesesIn_12 : decode cX0_cheesesIn 12 = .ok (.iload_n 2, 1) := dq_get (L := lzddX0_cheesesIn_0) 8 rfl zddX0_cheesesIn_0 rfl
theorem dX0_cheesesIn_13 : decode cX0_cheesesIn 13 = .ok (.iload_n 1, 1) := dq_get (L := lzddX0_cheesesIn_0) 9 rfl zddX0_cheesesIn_0 rfl
theorem dX0_cheesesIn_14 : decode cX0_cheesesIn 14 = .ok (.aload_n 0, 1) := dq_get (L := lzddX0_cheesesIn_0) 10 rfl zddX0_cheesesIn_0 rfl
theorem dX0_cheesesIn_15 : decode cX0_cheesesIn 15 = .ok (.getfield 21, 3) := dq_get (L := lzddX0_cheesesIn_0) 11 rfl zddX0_cheesesIn_0 rfl
theorem dX0_cheesesIn_18 : decode cX0_cheesesIn 18 = .ok (.iload_n 3, 1) := dq_get (L := lzddX0_cheesesIn_0) 12 rfl zddX0_cheesesIn_0 rfl
theorem dX0_cheesesIn_19 : decode cX0_cheesesIn 19 = .ok (.iaload, 1) := dq_get (L := lzddX0_cheesesIn_0) 13 rfl zddX0_cheesesIn_0 rfl
theorem dX0_cheesesIn_20 : decode cX0_cheesesIn 20 = .ok (.invokestatic 78, 3) := dq_get (L := lzddX0_cheesesIn_0) 14 rfl zddX0_cheesesIn_0 rfl
theorem dX0_cheesesIn_23 : decode cX0_cheesesIn 23 = .ok (.iadd, 1) := dq_get (L := lzddX0_cheesesIn_0) 15 rfl zddX0_cheesesIn_0 rfl
theorem dX0_cheesesIn_24 : decode cX0_cheesesIn 24 = .ok (.istore_n 2, 1) := dq_get (L := lzddX0_cheesesIn_0) 16 rfl zddX0_cheesesIn_0 rfl
theorem dX0_cheesesIn_25 : decode cX0_cheesesIn 25 = .ok (.iinc 3 1, 3) := dq_get (L := lzddX0_cheesesIn_0) 17 rfl zddX0_cheesesIn_0 rfl
theorem dX0_cheesesIn_28 : decode cX0_cheesesIn 28 = .ok (.goto (-24), 3) := dq_get (L := lzddX0_cheesesIn_0) 18 rfl zddX0_cheesesIn_0 rfl
theorem dX0_cheesesIn_31 : decode cX0_cheesesIn 31 = .ok (.iload_n 2, 1) := dq_get (L := lzddX0_cheesesIn_0) 19 rfl zddX0_cheesesIn_0 rfl
def lzddX0_cheesesIn_32 : List (Nat × Instr × Nat) := [(32, .ireturn, 1)]
theorem zddX0_cheesesIn_32 : dqW lzddX0_cheesesIn_32 (cX0_cheesesIn.data.toList.drop 32) 32 = true := by decide +kernel
theorem dX0_cheesesIn_32 : decode cX0_cheesesIn 32 = .ok (.ireturn, 1) := dq_get (L := lzddX0_cheesesIn_32) 0 rfl zddX0_cheesesIn_32 rfl
def lzddX0_clear_0 : List (Nat × Instr × Nat) := [(0, .aload_n 0, 1), (1, .iconst 0, 1), (2, .putfield 50, 3), (5, .aload_n 0, 1), (6, .iconst 0, 1), (7, .putfield 54, 3), (10, .aload_n 0, 1), (11, .iconst 0, 1), (12, .putfield 57, 3), (15, .aload_n 0, 1), (16, .iconst 0, 1), (17, .putfield 60, 3), (20, .aload_n 0, 1), (21, .iconst 0, 1), (22, .putfield 63, 3), (25, .aload_n 0, 1), (26, .getfield 27, 3), (29, .iconst 0, 1), (30, .putfield 66, 3), (33, .aload_n 0, 1)]
theorem zddX0_clear_0 : dqW lzddX0_clear_0 (cX0_clear.data.toList.drop 0) 0 = true := by decide +kernel
theorem dX0_clear_0 : decode cX0_clear 0 = .ok (.aload_n 0, 1) := dq_get (L := lzddX0_clear_0) 0 rfl zddX0_clear_0 rfl
theorem dX0_clear_1 : decode cX0_clear 1 = .ok (.iconst 0, 1) := dq_get (L := lzddX0_clear_0) 1 rfl zddX0_clear_0 rfl
theorem dX0_clear_2 : decode cX0_clear 2 = .ok (.putfield 50, 3) := dq_get (L := lzddX0_clear_0) 2 rfl zddX0_clear_0 rfl
theorem dX0_clear_5 : decode cX0_clear 5 = .ok (.aload_n 0, 1) := dq_get (L := lzddX0_clear_0) 3 rfl zddX0_clear_0 rfl
theorem dX0_clear_6 : decode cX0_clear 6 = .ok (.iconst 0, 1) := dq_get (L := lzddX0_clear_0) 4 rfl zddX0_clear_0 rfl
theorem dX0_clear_7 : decode cX0_clear 7 = .ok (.putfield 54, 3) := dq_get (L := lzddX0_clear_0) 5 rfl zddX0_clear_0 rfl
theorem dX0_clear_10 : decode cX0_clear 10 = .ok (.aload_n 0, 1) := dq_get (L := lzddX0_clear_0) 6 rfl zddX0_clear_0 rfl
theorem dX0_clear_11 : decode cX0_clear 11 = .ok (.iconst 0, 1) := dq_get (L := lzddX0_clear_0) 7 rfl zddX0_clear_0 rfl
theorem dX0_clear_12 : decode cX0_clear 12 = .ok (.putfield 57, 3) := dq_get (L := lzddX0_clear_0) 8 rfl zddX0_clear_0 rfl
theorem dX0_clear_15 : decode cX0_clear 15 = .ok (.aload_n 0, 1) := dq_get (L := lzddX0_clear_0) 9 rfl zddX0_clear_0 rfl
theorem dX0_clear_16 : decode cX0_clear 16 = .ok (.iconst 0, 1) := dq_get (L := lzddX0_clear_0) 10 rfl zddX0_clear_0 rfl
theorem dX0_clear_17 : decode cX0_clear 17 = .ok (.putfield 60, 3) := dq_get (L := lzddX0_clear_0) 11 rfl zddX0_clear_0 rfl
theorem dX0_clear_20 : decode cX0_clear 20 = .ok (.aload_n 0, 1) := dq_get (L := lzddX0_clear_0) 12 rfl zddX0_clear_0 rfl
theorem dX0_clear_21 : decode cX0_clear 21 = .ok (.iconst 0, 1) := dq_get (L := lzddX0_clear_0) 13 rfl zddX0_clear_0 rfl
theorem dX0_clear_22 : decode cX0_clear 22 = .ok (.putfield 63, 3) := dq_get (L := lzddX0_clear_0) 14 rfl zddX0_clear_0 rfl
theorem dX0_clear_25 : decode cX0_clear 25 = .ok (.aload_n 0, 1) := dq_get (L := lzddX0_clear_0) 15 rfl zddX0_clear_0 rfl
theorem dX0_clear_26 : decode cX0_clear 26 = .ok (.getfield 27, 3) := dq_get (L := lzddX0_clear_0) 16 rfl zddX0_clear_0 rfl
theorem dX0_clear_29 : decode cX0_clear 29 = .ok (.iconst 0, 1) := dq_get (L := lzddX0_clear_0) 17 rfl zddX0_clear_0 rfl
theorem dX0_clear_30 : decode cX0_clear 30 = .ok (.putfield 66, 3) := dq_get (L := lzddX0_clear_0) 18 rfl zddX0_clear_0 rfl
theorem dX0_clear_33 : decode cX0_clear 33 = .ok (.aload_n 0, 1) := dq_get (L := lzddX0_clear_0) 19 rfl zddX0_clear_0 rfl
def lzddX0_clear_34 : List (Nat × Instr × Nat) := [(34, .iconst 0, 1), (35, .putfield 69, 3), (38, .aload_n 0, 1), (39, .iconst 0, 1), (40, .putfield 72, 3), (43, .aload_n 0, 1), (44, .iconst 0, 1), (45, .putfield 75, 3), (48, .return_, 1)]
theorem zddX0_clear_34 : dqW lzddX0_clear_34 (cX0_clear.data.toList.drop 34) 34 = true := by decide +kernel
theorem dX0_clear_34 : decode cX0_clear 34 = .ok (.iconst 0, 1) := dq_get (L := lzddX0_clear_34) 0 rfl zddX0_clear_34 rfl
theorem dX0_clear_35 : decode cX0_clear 35 = .ok (.putfield 69, 3) := dq_get (L := lzddX0_clear_34) 1 rfl zddX0_clear_34 rfl
theorem dX0_clear_38 : decode cX0_clear 38 = .ok (.aload_n 0, 1) := dq_get (L := lzddX0_clear_34) 2 rfl zddX0_clear_34 rfl
theorem dX0_clear_39 : decode cX0_clear 39 = .ok (.iconst 0, 1) := dq_get (L := lzddX0_clear_34) 3 rfl zddX0_clear_34 rfl
theorem dX0_clear_40 : decode cX0_clear 40 = .ok (.putfield 72, 3) := dq_get (L := lzddX0_clear_34) 4 rfl zddX0_clear_34 rfl
theorem dX0_clear_43 : decode cX0_clear 43 = .ok (.aload_n 0, 1) := dq_get (L := lzddX0_clear_34) 5 rfl zddX0_clear_34 rfl
theorem dX0_clear_44 : decode cX0_clear 44 = .ok (.iconst 0, 1) := dq_get (L := lzddX0_clear_34) 6 rfl zddX0_clear_34 rfl
theorem dX0_clear_45 : decode cX0_clear 45 = .ok (.putfield 75, 3) := dq_get (L := lzddX0_clear_34) 7 rfl zddX0_clear_34 rfl
theorem dX0_clear_48 : decode cX0_clear 48 = .ok (.return_, 1) := dq_get (L := lzddX0_clear_34) 8 rfl zddX0_clear_34 rfl
def lzddX0_costOf_0 : List (Nat × Instr × Nat) := [(0, .iconst 0, 1), (1, .istore_n 2, 1), (2, .iconst 0, 1), (3, .istore_n 3, 1), (4, .iload_n 3, 1), (5, .aload_n 0, 1), (6, .getfield 72, 3), (9, .if_icmp .ge 30, 3), (12, .iload_n 1, 1), (13, .iload_n 3, 1), (14, .invokestatic 78, 3), (17, .iconst 1, 1), (18, .if_icmp .ne 15, 3), (21, .iload_n 2, 1), (22, .aload_n 0, 1), (23, .getfield 39, 3), (26, .iload_n 3, 1), (27, .aaload, 1), (28, .getfield 82, 3), (31, .iadd, 1)]
theorem zddX0_costOf_0 : dqW lzddX0_costOf_0 (cX0_costOf.data.toList.drop 0) 0 = true := by decide +kernel
theorem dX0_costOf_0 : decode cX0_costOf 0 = .ok (.iconst 0, 1) := dq_get (L := lzddX0_costOf_0) 0 rfl zddX0_costOf_0 rfl
theorem dX0_costOf_1 : decode cX0_costOf 1 = .ok (.istore_n 2, 1) := dq_get (L := lzddX0_costOf_0) 1 rfl zddX0_costOf_0 rfl
theorem dX0_costOf_2 : decode cX0_costOf 2 = .ok (.iconst 0, 1) := dq_get (L := lzddX0_costOf_0) 2 rfl zddX0_costOf_0 rfl
theorem dX0_costOf_3 : decode cX0_costOf 3 = .ok (.istore_n 3, 1) := dq_get (L := lzddX0_costOf_0) 3 rfl zddX0_costOf_0 rfl
theorem dX0_costOf_4 : decode cX0_costOf 4 = .ok (.iload_n 3, 1) := dq_get (L := lzddX0_costOf_0) 4 rfl zddX0_costOf_0 rfl
theorem dX0_costOf_5 : decode cX0_costOf 5 = .ok (.aload_n 0, 1) := dq_get (L := lzddX0_costOf_0) 5 rfl zddX0_costOf_0 rfl
theorem dX0_costOf_6 : decode cX0_costOf 6 = .ok (.getfield 72, 3) := dq_get (L := lzddX0_costOf_0) 6 rfl zddX0_costOf_0 rfl
theorem dX0_costOf_9 : decode cX0_costOf 9 = .ok (.if_icmp .ge 30, 3) := dq_get (L := lzddX0_costOf_0) 7 rfl zddX0_costOf_0 rfl
theorem dX0_costOf_12 : decode cX0_costOf 12 = .ok (.iload_n 1, 1) := dq_get (L := lzddX0_costOf_0) 8 rfl zddX0_costOf_0 rfl
theorem dX0_costOf_13 : decode cX0_costOf 13 = .ok (.iload_n 3, 1) := dq_get (L := lzddX0_costOf_0) 9 rfl zddX0_costOf_0 rfl
theorem dX0_costOf_14 : decode cX0_costOf 14 = .ok (.invokestatic 78, 3) := dq_get (L := lzddX0_costOf_0) 10 rfl zddX0_costOf_0 rfl
theorem dX0_costOf_17 : decode cX0_costOf 17 = .ok (.iconst 1, 1) := dq_get (L := lzddX0_costOf_0) 11 rfl zddX0_costOf_0 rfl
theorem dX0_costOf_18 : decode cX0_costOf 18 = .ok (.if_icmp .ne 15, 3) := dq_get (L := lzddX0_costOf_0) 12 rfl zddX0_costOf_0 rfl
theorem dX0_costOf_21 : decode cX0_costOf 21 = .ok (.iload_n 2, 1) := dq_get (L := lzddX0_costOf_0) 13 rfl zddX0_costOf_0 rfl
theorem dX0_costOf_22 : decode cX0_costOf 22 = .ok (.aload_n 0, 1) := dq_get (L := lzddX0_costOf_0) 14 rfl zddX0_costOf_0 rfl
theorem dX0_costOf_23 : decode cX0_costOf 23 = .ok (.getfield 39, 3) := dq_get (L := lzddX0_costOf_0) 15 rfl zddX0_costOf_0 rfl
theorem dX0_costOf_26 : decode cX0_costOf 26 = .ok (.iload_n 3, 1) := dq_get (L := lzddX0_costOf_0) 16 rfl zddX0_costOf_0 rfl
theorem dX0_costOf_27 : decode cX0_costOf 27 = .ok (.aaload, 1) := dq_get (L := lzddX0_costOf_0) 17 rfl zddX0_costOf_0 rfl
theorem dX0_costOf_28 : decode cX0_costOf 28 = .ok (.getfield 82, 3) := dq_get (L := lzddX0_costOf_0) 18 rfl zddX0_costOf_0 rfl
theorem dX0_costOf_31 : decode cX0_costOf 31 = .ok (.iadd, 1) := dq_get (L := lzddX0_costOf_0) 19 rfl zddX0_costOf_0 rfl
def lzddX0_costOf_32 : List (Nat × Instr × Nat) := [(32, .istore_n 2, 1), (33, .iinc 3 1, 3), (36, .goto (-32), 3), (39, .iload_n 2, 1), (40, .ireturn, 1)]
theorem zddX0_costOf_32 : dqW lzddX0_costOf_32 (cX0_costOf.data.toList.drop 32) 32 = true := by decide +kernel
theorem dX0_costOf_32 : decode cX0_costOf 32 = .ok (.istore_n 2, 1) := dq_get (L := lzddX0_costOf_32) 0 rfl zddX0_costOf_32 rfl
theorem dX0_costOf_33 : decode cX0_costOf 33 = .ok (.iinc 3 1, 3) := dq_get (L := lzddX0_costOf_32) 1 rfl zddX0_costOf_32 rfl
theorem dX0_costOf_36 : decode cX0_costOf 36 = .ok (.goto (-32), 3) := dq_get (L := lzddX0_costOf_32) 2 rfl zddX0_costOf_32 rfl
theorem dX0_costOf_39 : decode cX0_costOf 39 = .ok (.iload_n 2, 1) := dq_get (L := lzddX0_costOf_32) 3 rfl zddX0_costOf_32 rfl
theorem dX0_costOf_40 : decode cX0_costOf 40 = .ok (.ireturn, 1) := dq_get (L := lzddX0_costOf_32) 4 rfl zddX0_costOf_32 rfl
def lzddX10_allCalls_0 : List (Nat × Instr × Nat) := [(0, .iconst 1, 1), (1, .aload_n 0, 1), (2, .getfield 16, 3), (5, .getfield 278, 3), (8, .ishl, 1), (9, .iconst 1, 1), (10, .isub, 1), (11, .ireturn, 1)]
theorem zddX10_allCalls_0 : dqW lzddX10_allCalls_0 (cX10_allCalls.data.toList.drop 0) 0 = true := by decide +kernel
theorem dX10_allCalls_0 : decode cX10_allCalls 0 = .ok (.iconst 1, 1) := dq_get (L := lzddX10_allCalls_0) 0 rfl zddX10_allCalls_0 rfl
theorem dX10_allCalls_1 : decode cX10_allCalls 1 = .ok (.aload_n 0, 1) := dq_get (L := lzddX10_allCalls_0) 1 rfl zddX10_allCalls_0 rfl
theorem dX10_allCalls_2 : decode cX10_allCalls 2 = .ok (.getfield 16, 3) := dq_get (L := lzddX10_allCalls_0) 2 rfl zddX10_allCalls_0 rfl
theorem dX10_allCalls_5 : decode cX10_allCalls 5 = .ok (.getfield 278, 3) := dq_get (L := lzddX10_allCalls_0) 3 rfl zddX10_allCalls_0 rfl
theorem dX10_allCalls_8 : decode cX10_allCalls 8 = .ok (.ishl, 1) := dq_get (L := lzddX10_allCalls_0) 4 rfl zddX10_allCalls_0 rfl
theorem dX10_allCalls_9 : decode cX10_allCalls 9 = .ok (.iconst 1, 1) := dq_get (L := lzddX10_allCalls_0) 5 rfl zddX10_allCalls_0 rfl
theorem dX10_allCalls_10 : decode cX10_allCalls 10 = .ok (.isub, 1) := dq_get (L := lzddX10_allCalls_0) 6 rfl zddX10_allCalls_0 rfl
theorem dX10_allCalls_11 : decode cX10_allCalls 11 = .ok (.ireturn, 1) := dq_get (L := lzddX10_allCalls_0) 7 rfl zddX10_allCalls_0 rfl
def lzddX10_allTurners_0 : List (Nat × Instr × Nat) := [(0, .iconst 1, 1), (1, .aload_n 0, 1), (2, .getfield 16, 3), (5, .getfield 335, 3), (8, .ishl, 1), (9, .iconst 1, 1), (10, .isub, 1), (11, .ireturn, 1)]
theorem zddX10_allTurners_0 : dqW lzddX10_allTurners_0 (cX10_allTurners.data.toList.drop 0) 0 = true := by decide +kernel
theorem dX10_allTurners_0 : decode cX10_allTurners 0 = .ok (.iconst 1, 1) := dq_get (L := lzddX10_allTurners_0) 0 rfl zddX10_allTurners_0 rfl
theorem dX10_allTurners_1 : decode cX10_allTurners 1 = .ok (.aload_n 0, 1) := dq_get (L := lzddX10_allTurners_0) 1 rfl zddX10_allTurners_0 rfl
theorem dX10_allTurners_2 : decode cX10_allTurners 2 = .ok (.getfield 16, 3) := dq_get (L := lzddX10_allTurners_0) 2 rfl zddX10_allTurners_0 rfl
theorem dX10_allTurners_5 : decode cX10_allTurners 5 = .ok (.getfield 335, 3) := dq_get (L := lzddX10_allTurners_0) 3 rfl zddX10_allTurners_0 rfl
theorem dX10_allTurners_8 : decode cX10_allTurners 8 = .ok (.ishl, 1) := dq_get (L := lzddX10_allTurners_0) 4 rfl zddX10_allTurners_0 rfl
theorem dX10_allTurners_9 : decode cX10_allTurners 9 = .ok (.iconst 1, 1) := dq_get (L := lzddX10_allTurners_0) 5 rfl zddX10_allTurners_0 rfl
theorem dX10_allTurners_10 : decode cX10_allTurners 10 = .ok (.isub, 1) := dq_get (L := lzddX10_allTurners_0) 6 rfl zddX10_allTurners_0 rfl
theorem dX10_allTurners_11 : decode cX10_allTurners 11 = .ok (.ireturn, 1) := dq_get (L := lzddX10_allTurners_0) 7 rfl zddX10_allTurners_0 rfl
def lzddX10_allowed_0 : List (Nat × Instr × Nat) := [(0, .aload_n 0, 1), (1, .iconst 0, 1), (2, .putfield 112, 3), (5, .iconst 1, 1), (6, .ireturn, 1)]
theorem zddX10_allowed_0 : dqW lzddX10_allowed_0 (cX10_allowed.data.toList.drop 0) 0 = true := by decide +kernel
theorem dX10_allowed_0 : decode cX10_allowed 0 = .ok (.aload_n 0, 1) := dq_get (L := lzddX10_allowed_0) 0 rfl zddX10_allowed_0 rfl
theorem dX10_allowed_1 : decode cX10_allowed 1 = .ok (.iconst 0, 1) := dq_get (L := lzddX10_allowed_0) 1 rfl zddX10_allowed_0 rfl
theorem dX10_allowed_2 : decode cX10_allowed 2 = .ok (.putfield 112, 3) := dq_get (L := lzddX10_allowed_0) 2 rfl zddX10_allowed_0 rfl
theorem dX10_allowed_5 : decode cX10_allowed 5 = .ok (.iconst 1, 1) := dq_get (L := lzddX10_allowed_0) 3 rfl zddX10_allowed_0 rfl
theorem dX10_allowed_6 : decode cX10_allowed 6 = .ok (.ireturn, 1) := dq_get (L := lzddX10_allowed_0) 4 rfl zddX10_allowed_0 rfl
def lzddX10_alp_0 : List (Nat × Instr × Nat) := [(0, .iload_n 1, 1), (1, .ifCond .lt 11, 3), (4, .iload_n 1, 1), (5, .aload_n 0, 1), (6, .getfield 71, 3), (9, .if_icmp .le 9, 3), (12, .aload_n 0, 1), (13, .iconst 2, 1), (14, .invokevirtual 79, 3), (17, .ireturn, 1), (18, .aload_n 0, 1), (19, .getfield 28, 3), (22, .aload_n 0, 1), (23, .getfield 20, 3), (26, .iload_n 1, 1), (27, .invokevirtual 83, 3), (30, .istore_n 2, 1), (31, .aload_n 0, 1), (32, .iconst 0, 1), (33, .putfield 71, 3)]
theorem zddX10_alp_0 : dqW lzddX10_alp_0 (cX10_alp.data.toList.drop 0) 0 = true := by decide +kernel
theorem dX10_alp_0 : decode cX10_alp 0 = .ok (.iload_n 1, 1) := dq_get (L := lzddX10_alp_0) 0 rfl zddX10_alp_0 rfl
theorem dX10_alp_1 : decode cX10_alp 1 = .ok (.ifCond .lt 11, 3) := dq_get (L := lzddX10_alp_0) 1 rfl zddX10_alp_0 rfl
theorem dX10_alp_4 : decode cX10_alp 4 = .ok (.iload_n 1, 1) := dq_get (L := lzddX10_alp_0) 2 rfl zddX10_alp_0 rfl
theorem dX10_alp_5 : decode cX10_alp 5 = .ok (.aload_n 0, 1) := dq_get (L := lzddX10_alp_0) 3 rfl zddX10_alp_0 rfl
theorem dX10_alp_6 : decode cX10_alp 6 = .ok (.getfield 71, 3) := dq_get (L := lzddX10_alp_0) 4 rfl zddX10_alp_0 rfl
theorem dX10_alp_9 : decode cX10_alp 9 = .ok (.if_icmp .le 9, 3) := dq_get (L := lzddX10_alp_0) 5 rfl zddX10_alp_0 rfl
theorem dX10_alp_12 : decode cX10_alp 12 = .ok (.aload_n 0, 1) := dq_get (L := lzddX10_alp_0) 6 rfl zddX10_alp_0 rfl
theorem dX10_alp_13 : decode cX10_alp 13 = .ok (.iconst 2, 1) := dq_get (L := lzddX10_alp_0) 7 rfl zddX10_alp_0 rfl
theorem dX10_alp_14 : decode cX10_alp 14 = .ok (.invokevirtual 79, 3) := dq_get (L := lzddX10_alp_0) 8 rfl zddX10_alp_0 rfl
theorem dX10_alp_17 : decode cX10_alp 17 = .ok (.ireturn, 1) := dq_get (L := lzddX10_alp_0) 9 rfl zddX10_alp_0 rfl
theorem dX10_alp_18 : decode cX10_alp 18 = .ok (.aload_n 0, 1) := dq_get (L := lzddX10_alp_0) 10 rfl zddX10_alp_0 rfl
theorem dX10_alp_19 : decode cX10_alp 19 = .ok (.getfield 28, 3) := dq_get (L := lzddX10_alp_0) 11 rfl zddX10_alp_0 rfl
theorem dX10_alp_22 : decode cX10_alp 22 = .ok (.aload_n 0, 1) := dq_get (L := lzddX10_alp_0) 12 rfl zddX10_alp_0 rfl
theorem dX10_alp_23 : decode cX10_alp 23 = .ok (.getfield 20, 3) := dq_get (L := lzddX10_alp_0) 13 rfl zddX10_alp_0 rfl
theorem dX10_alp_26 : decode cX10_alp 26 = .ok (.iload_n 1, 1) := dq_get (L := lzddX10_alp_0) 14 rfl zddX10_alp_0 rfl
theorem dX10_alp_27 : decode cX10_alp 27 = .ok (.invokevirtual 83, 3) := dq_get (L := lzddX10_alp_0) 15 rfl zddX10_alp_0 rfl
theorem dX10_alp_30 : decode cX10_alp 30 = .ok (.istore_n 2, 1) := dq_get (L := lzddX10_alp_0) 16 rfl zddX10_alp_0 rfl
theorem dX10_alp_31 : decode cX10_alp 31 = .ok (.aload_n 0, 1) := dq_get (L := lzddX10_alp_0) 17 rfl zddX10_alp_0 rfl
theorem dX10_alp_32 : decode cX10_alp 32 = .ok (.iconst 0, 1) := dq_get (L := lzddX10_alp_0) 18 rfl zddX10_alp_0 rfl
theorem dX10_alp_33 : decode cX10_alp 33 = .ok (.putfield 71, 3) := dq_get (L := lzddX10_alp_0) 19 rfl zddX10_alp_0 rfl
def lzddX10_alp_36 : List (Nat × Instr × Nat) := [(36, .aload_n 0, 1), (37, .aload_n 0, 1), (38, .getfield 28, 3), (41, .getfield 87, 3), (44, .putfield 90, 3), (47, .aload_n 0, 1), (48, .aload_n 0, 1), (49, .getfield 28, 3), (52, .getfield 91, 3), (55, .putfield 94, 3), (58, .iload_n 2, 1), (59, .ifCond .ne 9, 3), (62, .aload_n 0, 1), (63, .iconst 4, 1), (64, .invokevirtual 79, 3), (67, .ireturn, 1), (68, .aload_n 0, 1), (69, .getfield 16, 3), (72, .astore_n 3, 1), (73, .aload_n 0, 1)]
theorem zddX10_alp_36 : dqW lzddX10_alp_36 (cX10_alp.data.toList.drop 36) 36 = true := by decide +kernel
theorem dX10_alp_36 : decode cX10_alp 36 = .ok (.aload_n 0, 1) := dq_get (L := lzddX10_alp_36) 0 rfl zddX10_alp_36 rfl
theorem dX10_alp_37 : decode cX10_alp 37 = .ok (.aload_n 0, 1) := dq_get (L := lzddX10_alp_36) 1 rfl zddX10_alp_36 rfl
theorem dX10_alp_38 : decode cX10_alp 38 = .ok (.getfield 28, 3) := dq_get (L := lzddX10_alp_36) 2 rfl zddX10_alp_36 rfl
theorem dX10_alp_41 : decode cX10_alp 41 = .ok (.getfield 87, 3) := dq_get (L := lzddX10_alp_36) 3 rfl zddX10_alp_36 rfl
theorem dX10_alp_44 : decode cX10_alp 44 = .ok (.putfield 90, 3) := dq_get (L := lzddX10_alp_36) 4 rfl zddX10_alp_36 rfl
theorem dX10_alp_47 : decode cX10_alp 47 = .ok (.aload_n 0, 1) := dq_get (L := lzddX10_alp_36) 5 rfl zddX10_alp_36 rfl
theorem dX10_alp_48 : decode cX10_alp 48 = .ok (.aload_n 0, 1) := dq_get (L := lzddX10_alp_36) 6 rfl zddX10_alp_36 rfl
theorem dX10_alp_49 : decode cX10_alp 49 = .ok (.getfield 28, 3) := dq_get (L := lzddX10_alp_36) 7 rfl zddX10_alp_36 rfl
theorem dX10_alp_52 : decode cX10_alp 52 = .ok (.getfield 91, 3) := dq_get (L := lzddX10_alp_36) 8 rfl zddX10_alp_36 rfl
theorem dX10_alp_55 : decode cX10_alp 55 = .ok (.putfield 94, 3) := dq_get (L := lzddX10_alp_36) 9 rfl zddX10_alp_36 rfl
theorem dX10_alp_58 : decode cX10_alp 58 = .ok (.iload_n 2, 1) := dq_get (L := lzddX10_alp_36) 10 rfl zddX10_alp_36 rfl
theorem dX10_alp_59 : decode cX10_alp 59 = .ok (.ifCond .ne 9, 3) := dq_get (L := lzddX10_alp_36) 11 rfl zddX10_alp_36 rfl
theorem dX10_alp_62 : decode cX10_alp 62 = .ok (.aload_n 0, 1) := dq_get (L := lzddX10_alp_36) 12 rfl zddX10_alp_36 rfl
theorem dX10_alp_63 : decode cX10_alp 63 = .ok (.iconst 4, 1) := dq_get (L := lzddX10_alp_36) 13 rfl zddX10_alp_36 rfl
theorem dX10_alp_64 : decode cX10_alp 64 = .ok (.invokevirtual 79, 3) := dq_get (L := lzddX10_alp_36) 14 rfl zddX10_alp_36 rfl
theorem dX10_alp_67 : decode cX10_alp 67 = .ok (.ireturn, 1) := dq_get (L := lzddX10_alp_36) 15 rfl zddX10_alp_36 rfl
theorem dX10_alp_68 : decode cX10_alp 68 = .ok (.aload_n 0, 1) := dq_get (L := lzddX10_alp_36) 16 rfl zddX10_alp_36 rfl
theorem dX10_alp_69 : decode cX10_alp 69 = .ok (.getfield 16, 3) := dq_get (L := lzddX10_alp_36) 17 rfl zddX10_alp_36 rfl
theorem dX10_alp_72 : decode cX10_alp 72 = .ok (.astore_n 3, 1) := dq_get (L := lzddX10_alp_36) 18 rfl zddX10_alp_36 rfl
theorem dX10_alp_73 : decode cX10_alp 73 = .ok (.aload_n 0, 1) := dq_get (L := lzddX10_alp_36) 19 rfl zddX10_alp_36 rfl
def lzddX10_alp_74 : List (Nat × Instr × Nat) := [(74, .aload_n 0, 1), (75, .getfield 20, 3), (78, .putfield 16, 3), (81, .aload_n 0, 1), (82, .aload_n 3, 1), (83, .putfield 20, 3), (86, .aload_n 0, 1), (87, .iconst 1, 1), (88, .putfield 95, 3), (91, .aload_n 0, 1), (92, .getfield 35, 3), (95, .invokevirtual 99, 3), (98, .aload_n 0, 1), (99, .getfield 42, 3), (102, .invokevirtual 102, 3), (105, .aload_n 0, 1), (106, .invokevirtual 103, 3), (109, .aload_n 0, 1), (110, .aload_n 0, 1), (111, .getfield 16, 3)]
theorem zddX10_alp_74 : dqW lzddX10_alp_74 (cX10_alp.data.toList.drop 74) 74 = true := by decide +kernel
theorem dX10_alp_74 : decode cX10_alp 74 = .ok (.aload_n 0, 1) := dq_get (L := lzddX10_alp_74) 0 rfl zddX10_alp_74 rfl
theorem dX10_alp_75 : decode cX10_alp 75 = .ok (.getfield 20, 3) := dq_get (L := lzddX10_alp_74) 1 rfl zddX10_alp_74 rfl
theorem dX10_alp_78 : decode cX10_alp 78 = .ok (.putfield 16, 3) := dq_get (L := lzddX10_alp_74) 2 rfl zddX10_alp_74 rfl
theorem dX10_alp_81 : decode cX10_alp 81 = .ok (.aload_n 0, 1) := dq_get (L := lzddX10_alp_74) 3 rfl zddX10_alp_74 rfl
theorem dX10_alp_82 : decode cX10_alp 82 = .ok (.aload_n 3, 1) := dq_get (L := lzddX10_alp_74) 4 rfl zddX10_alp_74 rfl
theorem dX10_alp_83 : decode cX10_alp 83 = .ok (.putfield 20, 3) := dq_get (L := lzddX10_alp_74) 5 rfl zddX10_alp_74 rfl
theorem dX10_alp_86 : decode cX10_alp 86 = .ok (.aload_n 0, 1) := dq_get (L := lzddX10_alp_74) 6 rfl zddX10_alp_74 rfl
theorem dX10_alp_87 : decode cX10_alp 87 = .ok (.iconst 1, 1) := dq_get (L := lzddX10_alp_74) 7 rfl zddX10_alp_74 rfl
theorem dX10_alp_88 : decode cX10_alp 88 = .ok (.putfield 95, 3) := dq_get (L := lzddX10_alp_74) 8 rfl zddX10_alp_74 rfl
theorem dX10_alp_91 : decode cX10_alp 91 = .ok (.aload_n 0, 1) := dq_get (L := lzddX10_alp_74) 9 rfl zddX10_alp_74 rfl
theorem dX10_alp_92 : decode cX10_alp 92 = .ok (.getfield 35, 3) := dq_get (L := lzddX10_alp_74) 10 rfl zddX10_alp_74 rfl
theorem dX10_alp_95 : decode cX10_alp 95 = .ok (.invokevirtual 99, 3) := dq_get (L := lzddX10_alp_74) 11 rfl zddX10_alp_74 rfl
theorem dX10_alp_98 : decode cX10_alp 98 = .ok (.aload_n 0, 1) := dq_get (L := lzddX10_alp_74) 12 rfl zddX10_alp_74 rfl
theorem dX10_alp_99 : decode cX10_alp 99 = .ok (.getfield 42, 3) := dq_get (L := lzddX10_alp_74) 13 rfl zddX10_alp_74 rfl
theorem dX10_alp_102 : decode cX10_alp 102 = .ok (.invokevirtual 102, 3) := dq_get (L := lzddX10_alp_74) 14 rfl zddX10_alp_74 rfl
theorem dX10_alp_105 : decode cX10_alp 105 = .ok (.aload_n 0, 1) := dq_get (L := lzddX10_alp_74) 15 rfl zddX10_alp_74 rfl
theorem dX10_alp_106 : decode cX10_alp 106 = .ok (.invokevirtual 103, 3) := dq_get (L := lzddX10_alp_74) 16 rfl zddX10_alp_74 rfl
theorem dX10_alp_109 : decode cX10_alp 109 = .ok (.aload_n 0, 1) := dq_get (L := lzddX10_alp_74) 17 rfl zddX10_alp_74 rfl
theorem dX10_alp_110 : decode cX10_alp 110 = .ok (.aload_n 0, 1) := dq_get (L := lzddX10_alp_74) 18 rfl zddX10_alp_74 rfl
theorem dX10_alp_111 : decode cX10_alp 111 = .ok (.getfield 16, 3) := dq_get (L := lzddX10_alp_74) 19 rfl zddX10_alp_74 rfl
def lzddX10_alp_114 : List (Nat × Instr × Nat) := [(114, .getfield 106, 3), (117, .invokevirtual 109, 3), (120, .ireturn, 1)]
theorem zddX10_alp_114 : dqW lzddX10_alp_114 (cX10_alp.data.toList.drop 114) 114 = true := by decide +kernel
theorem dX10_alp_114 : decode cX10_alp 114 = .ok (.getfield 106, 3) := dq_get (L := lzddX10_alp_114) 0 rfl zddX10_alp_114 rfl
theorem dX10_alp_117 : decode cX10_alp 117 = .ok (.invokevirtual 109, 3) := dq_get (L := lzddX10_alp_114) 1 rfl zddX10_alp_114 rfl
theorem dX10_alp_120 : decode cX10_alp 120 = .ok (.ireturn, 1) := dq_get (L := lzddX10_alp_114) 2 rfl zddX10_alp_114 rfl
def lzddX10_answered_0 : List (Nat × Instr × Nat) := [(0, .aload_n 0, 1), (1, .iconst 0, 1), (2, .putfield 112, 3), (5, .iload_n 1, 1), (6, .ireturn, 1)]
theorem zddX10_answered_0 : dqW lzddX10_answered_0 (cX10_answered.data.toList.drop 0) 0 = true := by decide +kernel
theorem dX10_answered_0 : decode cX10_answered 0 = .ok (.aload_n 0, 1) := dq_get (L := lzddX10_answered_0) 0 rfl zddX10_answered_0 rfl
theorem dX10_answered_1 : decode cX10_answered 1 = .ok (.iconst 0, 1) := dq_get (L := lzddX10_answered_0) 1 rfl zddX10_answered_0 rfl
theorem dX10_answered_2 : decode cX10_answered 2 = .ok (.putfield 112, 3) := dq_get (L := lzddX10_answered_0) 2 rfl zddX10_answered_0 rfl
theorem dX10_answered_5 : decode cX10_answered 5 = .ok (.iload_n 1, 1) := dq_get (L := lzddX10_answered_0) 3 rfl zddX10_answered_0 rfl
theorem dX10_answered_6 : decode cX10_answered 6 = .ok (.ireturn, 1) := dq_get (L := lzddX10_answered_0) 4 rfl zddX10_answered_0 rfl
def lzddX10_awake_0 : List (Nat × Instr × Nat) := [(0, .aload_n 0, 1), (1, .iload_n 1, 1), (2, .invokevirtual 152, 3), (5, .ifCond .ne 9, 3), (8, .aload_n 0, 1), (9, .iconst 1, 1), (10, .invokevirtual 79, 3), (13, .ireturn, 1), (14, .aload_n 0, 1), (15, .iload_n 2, 1), (16, .invokevirtual 115, 3), (19, .ifCond .ne 9, 3), (22, .aload_n 0, 1), (23, .iconst 2, 1), (24, .invokevirtual 79, 3), (27, .ireturn, 1), (28, .aload_n 0, 1), (29, .aload_n 0, 1), (30, .invokevirtual 155, 3), (33, .iload_n 1, 1)]
theorem zddX10_awake_0 : dqW lzddX10_awake_0 (cX10_awake.data.toList.drop 0) 0 = true := by decide +kernel
theorem dX10_awake_0 : decode cX10_awake 0 = .ok (.aload_n 0, 1) := dq_get (L := lzddX10_awake_0) 0 rfl zddX10_awake_0 rfl
theorem dX10_awake_1 : decode cX10_awake 1 = .ok (.iload_n 1, 1) := dq_get (L := lzddX10_awake_0) 1 rfl zddX10_awake_0 rfl
theorem dX10_awake_2 : decode cX10_awake 2 = .ok (.invokevirtual 152, 3) := dq_get (L := lzddX10_awake_0) 2 rfl zddX10_awake_0 rfl
theorem dX10_awake_5 : decode cX10_awake 5 = .ok (.ifCond .ne 9, 3) := dq_get (L := lzddX10_awake_0) 3 rfl zddX10_awake_0 rfl
theorem dX10_awake_8 : decode cX10_awake 8 = .ok (.aload_n 0, 1) := dq_get (L := lzddX10_awake_0) 4 rfl zddX10_awake_0 rfl
theorem dX10_awake_9 : decode cX10_awake 9 = .ok (.iconst 1, 1) := dq_get (L := lzddX10_awake_0) 5 rfl zddX10_awake_0 rfl
theorem dX10_awake_10 : decode cX10_awake 10 = .ok (.invokevirtual 79, 3) := dq_get (L := lzddX10_awake_0) 6 rfl zddX10_awake_0 rfl
theorem dX10_awake_13 : decode cX10_awake 13 = .ok (.ireturn, 1) := dq_get (L := lzddX10_awake_0) 7 rfl zddX10_awake_0 rfl
theorem dX10_awake_14 : decode cX10_awake 14 = .ok (.aload_n 0, 1) := dq_get (L := lzddX10_awake_0) 8 rfl zddX10_awake_0 rfl
theorem dX10_awake_15 : decode cX10_awake 15 = .ok (.iload_n 2, 1) := dq_get (L := lzddX10_awake_0) 9 rfl zddX10_awake_0 rfl
theorem dX10_awake_16 : decode cX10_awake 16 = .ok (.invokevirtual 115, 3) := dq_get (L := lzddX10_awake_0) 10 rfl zddX10_awake_0 rfl
theorem dX10_awake_19 : decode cX10_awake 19 = .ok (.ifCond .ne 9, 3) := dq_get (L := lzddX10_awake_0) 11 rfl zddX10_awake_0 rfl
theorem dX10_awake_22 : decode cX10_awake 22 = .ok (.aload_n 0, 1) := dq_get (L := lzddX10_awake_0) 12 rfl zddX10_awake_0 rfl
theorem dX10_awake_23 : decode cX10_awake 23 = .ok (.iconst 2, 1) := dq_get (L := lzddX10_awake_0) 13 rfl zddX10_awake_0 rfl
theorem dX10_awake_24 : decode cX10_awake 24 = .ok (.invokevirtual 79, 3) := dq_get (L := lzddX10_awake_0) 14 rfl zddX10_awake_0 rfl
theorem dX10_awake_27 : decode cX10_awake 27 = .ok (.ireturn, 1) := dq_get (L := lzddX10_awake_0) 15 rfl zddX10_awake_0 rfl
theorem dX10_awake_28 : decode cX10_awake 28 = .ok (.aload_n 0, 1) := dq_get (L := lzddX10_awake_0) 16 rfl zddX10_awake_0 rfl
theorem dX10_awake_29 : decode cX10_awake 29 = .ok (.aload_n 0, 1) := dq_get (L := lzddX10_awake_0) 17 rfl zddX10_awake_0 rfl
theorem dX10_awake_30 : decode cX10_awake 30 = .ok (.invokevirtual 155, 3) := dq_get (L := lzddX10_awake_0) 18 rfl zddX10_awake_0 rfl
theorem dX10_awake_33 : decode cX10_awake 33 = .ok (.iload_n 1, 1) := dq_get (L := lzddX10_awake_0) 19 rfl zddX10_awake_0 rfl
def lzddX10_awake_34 : List (Nat × Instr × Nat) := [(34, .iload_n 2, 1), (35, .invokevirtual 159, 3), (38, .ifCond .eq 7, 3), (41, .iconst 1, 1), (42, .goto 4, 3), (45, .iconst 0, 1), (46, .invokevirtual 109, 3), (49, .ireturn, 1)]
theorem zddX10_awake_34 : dqW lzddX10_awake_34 (cX10_awake.data.toList.drop 34) 34 = true := by decide +kernel
theorem dX10_awake_34 : decode cX10_awake 34 = .ok (.iload_n 2, 1) := dq_get (L := lzddX10_awake_34) 0 rfl zddX10_awake_34 rfl
theorem dX10_awake_35 : decode cX10_awake 35 = .ok (.invokevirtual 159, 3) := dq_get (L := lzddX10_awake_34) 1 rfl zddX10_awake_34 rfl
theorem dX10_awake_38 : decode cX10_awake 38 = .ok (.ifCond .eq 7, 3) := dq_get (L := lzddX10_awake_34) 2 rfl zddX10_awake_34 rfl
theorem dX10_awake_41 : decode cX10_awake 41 = .ok (.iconst 1, 1) := dq_get (L := lzddX10_awake_34) 3 rfl zddX10_awake_34 rfl
theorem dX10_awake_42 : decode cX10_awake 42 = .ok (.goto 4, 3) := dq_get (L := lzddX10_awake_34) 4 rfl zddX10_awake_34 rfl
theorem dX10_awake_45 : decode cX10_awake 45 = .ok (.iconst 0, 1) := dq_get (L := lzddX10_awake_34) 5 rfl zddX10_awake_34 rfl
theorem dX10_awake_46 : decode cX10_awake 46 = .ok (.invokevirtual 109, 3) := dq_get (L := lzddX10_awake_34) 6 rfl zddX10_awake_34 rfl
theorem dX10_awake_49 : decode cX10_awake 49 = .ok (.ireturn, 1) := dq_get (L := lzddX10_awake_34) 7 rfl zddX10_awake_34 rfl
def lzddX10_back_0 : List (Nat × Instr × Nat) := [(0, .aload_n 0, 1), (1, .getfield 42, 3), (4, .aload_n 0, 1), (5, .getfield 35, 3), (8, .iload_n 1, 1), (9, .invokevirtual 307, 3), (12, .ifCond .ne 9, 3), (15, .aload_n 0, 1), (16, .iconst 1, 1), (17, .invokevirtual 281, 3), (20, .ireturn, 1), (21, .aload_n 0, 1), (22, .invokevirtual 103, 3), (25, .aload_n 0, 1), (26, .invokevirtual 291, 3), (29, .ireturn, 1)]
theorem zddX10_back_0 : dqW lzddX10_back_0 (cX10_back.data.toList.drop 0) 0 = true := by decide +kernel
theorem dX10_back_0 : decode cX10_back 0 = .ok (.aload_n 0, 1) := dq_get (L := lzddX10_back_0) 0 rfl zddX10_back_0 rfl
theorem dX10_back_1 : decode cX10_back 1 = .ok (.getfield 42, 3) := dq_get (L := lzddX10_back_0) 1 rfl zddX10_back_0 rfl
theorem dX10_back_4 : decode cX10_back 4 = .ok (.aload_n 0, 1) := dq_get (L := lzddX10_back_0) 2 rfl zddX10_back_0 rfl
theorem dX10_back_5 : decode cX10_back 5 = .ok (.getfield 35, 3) := dq_get (L := lzddX10_back_0) 3 rfl zddX10_back_0 rfl
theorem dX10_back_8 : decode cX10_back 8 = .ok (.iload_n 1, 1) := dq_get (L := lzddX10_back_0) 4 rfl zddX10_back_0 rfl
theorem dX10_back_9 : decode cX10_back 9 = .ok (.invokevirtual 307, 3) := dq_get (L := lzddX10_back_0) 5 rfl zddX10_back_0 rfl
theorem dX10_back_12 : decode cX10_back 12 = .ok (.ifCond .ne 9, 3) := dq_get (L := lzddX10_back_0) 6 rfl zddX10_back_0 rfl
theorem dX10_back_15 : decode cX10_back 15 = .ok (.aload_n 0, 1) := dq_get (L := lzddX10_back_0) 7 rfl zddX10_back_0 rfl
theorem dX10_back_16 : decode cX10_back 16 = .ok (.iconst 1, 1) := dq_get (L := lzddX10_back_0) 8 rfl zddX10_back_0 rfl
theorem dX10_back_17 : decode cX10_back 17 = .ok (.invokevirtual 281, 3) := dq_get (L := lzddX10_back_0) 9 rfl zddX10_back_0 rfl
theorem dX10_back_20 : decode cX10_back 20 = .ok (.ireturn, 1) := dq_get (L := lzddX10_back_0) 10 rfl zddX10_back_0 rfl
theorem dX10_back_21 : decode cX10_back 21 = .ok (.aload_n 0, 1) := dq_get (L := lzddX10_back_0) 11 rfl zddX10_back_0 rfl
theorem dX10_back_22 : decode cX10_back 22 = .ok (.invokevirtual 103, 3) := dq_get (L := lzddX10_back_0) 12 rfl zddX10_back_0 rfl
theorem dX10_back_25 : decode cX10_back 25 = .ok (.aload_n 0, 1) := dq_get (L := lzddX10_back_0) 13 rfl zddX10_back_0 rfl
theorem dX10_back_26 : decode cX10_back 26 = .ok (.invokevirtual 291, 3) := dq_get (L := lzddX10_back_0) 14 rfl zddX10_back_0 rfl
theorem dX10_back_29 : decode cX10_back 29 = .ok (.ireturn, 1) := dq_get (L := lzddX10_back_0) 15 rfl zddX10_back_0 rfl
def lzddX10_bestCalls_0 : List (Nat × Instr × Nat) := [(0, .iconst 0, 1), (1, .istore_n 1, 1), (2, .ldc_w 356, 3), (5, .istore_n 2, 1), (6, .iconst 0, 1), (7, .istore_n 3, 1), (8, .iload_n 3, 1), (9, .aload_n 0, 1), (10, .invokevirtual 263, 3), (13, .if_icmp .gt 78, 3), (16, .aload_n 0, 1), (17, .getfield 68, 3), (20, .aload_n 0, 1), (21, .getfield 16, 3), (24, .aload_n 0, 1), (25, .invokevirtual 119, 3), (28, .iload_n 3, 1), (29, .aload_n 0, 1), (30, .invokevirtual 184, 3), (33, .invokevirtual 188, 3)]
theorem zddX10_bestCalls_0 : dqW lzddX10_bestCalls_0 (cX10_bestCalls.data.toList.drop 0) 0 = true := by decide +kernel
theorem dX10_bestCalls_0 : decode cX10_bestCalls 0 = .ok (.iconst 0, 1) := dq_get (L := lzddX10_bestCalls_0) 0 rfl zddX10_bestCalls_0 rfl
theorem dX10_bestCalls_1 : decode cX10_bestCalls 1 = .ok (.istore_n 1, 1) := dq_get (L := lzddX10_bestCalls_0) 1 rfl zddX10_bestCalls_0 rfl
theorem dX10_bestCalls_2 : decode cX10_bestCalls 2 = .ok (.ldc_w 356, 3) := dq_get (L := lzddX10_bestCalls_0) 2 rfl zddX10_bestCalls_0 rfl
theorem dX10_bestCalls_5 : decode cX10_bestCalls 5 = .ok (.istore_n 2, 1) := dq_get (L := lzddX10_bestCalls_0) 3 rfl zddX10_bestCalls_0 rfl
theorem dX10_bestCalls_6 : decode cX10_bestCalls 6 = .ok (.iconst 0, 1) := dq_get (L := lzddX10_bestCalls_0) 4 rfl zddX10_bestCalls_0 rfl
theorem dX10_bestCalls_7 : decode cX10_bestCalls 7 = .ok (.istore_n 3, 1) := dq_get (L := lzddX10_bestCalls_0) 5 rfl zddX10_bestCalls_0 rfl
theorem dX10_bestCalls_8 : decode cX10_bestCalls 8 = .ok (.iload_n 3, 1) := dq_get (L := lzddX10_bestCalls_0) 6 rfl zddX10_bestCalls_0 rfl
theorem dX10_bestCalls_9 : decode cX10_bestCalls 9 = .ok (.aload_n 0, 1) := dq_get (L := lzddX10_bestCalls_0) 7 rfl zddX10_bestCalls_0 rfl
theorem dX10_bestCalls_10 : decode cX10_bestCalls 10 = .ok (.invokevirtual 263, 3) := dq_get (L := lzddX10_bestCalls_0) 8 rfl zddX10_bestCalls_0 rfl
theorem dX10_bestCalls_13 : decode cX10_bestCalls 13 = .ok (.if_icmp .gt 78, 3) := dq_get (L := lzddX10_bestCalls_0) 9 rfl zddX10_bestCalls_0 rfl
theorem dX10_bestCalls_16 : decode cX10_bestCalls 16 = .ok (.aload_n 0, 1) := dq_get (L := lzddX10_bestCalls_0) 10 rfl zddX10_bestCalls_0 rfl
theorem dX10_bestCalls_17 : decode cX10_bestCalls 17 = .ok (.getfield 68, 3) := dq_get (L := lzddX10_bestCalls_0) 11 rfl zddX10_bestCalls_0 rfl
theorem dX10_bestCalls_20 : decode cX10_bestCalls 20 = .ok (.aload_n 0, 1) := dq_get (L := lzddX10_bestCalls_0) 12 rfl zddX10_bestCalls_0 rfl
theorem dX10_bestCalls_21 : decode cX10_bestCalls 21 = .ok (.getfield 16, 3) := dq_get (L := lzddX10_bestCalls_0) 13 rfl zddX10_bestCalls_0 rfl
theorem dX10_bestCalls_24 : decode cX10_bestCalls 24 = .ok (.aload_n 0, 1) := dq_get (L := lzddX10_bestCalls_0) 14 rfl zddX10_bestCalls_0 rfl
theorem dX10_bestCalls_25 : decode cX10_bestCalls 25 = .ok (.invokevirtual 119, 3) := dq_get (L := lzddX10_bestCalls_0) 15 rfl zddX10_bestCalls_0 rfl
theorem dX10_bestCalls_28 : decode cX10_bestCalls 28 = .ok (.iload_n 3, 1) := dq_get (L := lzddX10_bestCalls_0) 16 rfl zddX10_bestCalls_0 rfl
theorem dX10_bestCalls_29 : decode cX10_bestCalls 29 = .ok (.aload_n 0, 1) := dq_get (L := lzddX10_bestCalls_0) 17 rfl zddX10_bestCalls_0 rfl
theorem dX10_bestCalls_30 : decode cX10_bestCalls 30 = .ok (.invokevirtual 184, 3) := dq_get (L := lzddX10_bestCalls_0) 18 rfl zddX10_bestCalls_0 rfl
theorem dX10_bestCalls_33 : decode cX10_bestCalls 33 = .ok (.invokevirtual 188, 3) := dq_get (L := lzddX10_bestCalls_0) 19 rfl zddX10_bestCalls_0 rfl
def lzddX10_bestCalls_36 : List (Nat × Instr × Nat) := [(36, .aload_n 0, 1), (37, .getfield 68, 3), (40, .invokevirtual 192, 3), (43, .istore 4, 2), (45, .iload_n 3, 1), (46, .invokestatic 247, 3), (49, .iload_n 1, 1), (50, .invokestatic 247, 3), (53, .if_icmp .ge 7, 3), (56, .iconst 1, 1), (57, .goto 4, 3), (60, .iconst 0, 1), (61, .istore 5, 2), (63, .iload 4, 2), (65, .iload_n 2, 1), (66, .if_icmp .gt 14, 3), (69, .iload 4, 2), (71, .iload_n 2, 1), (72, .if_icmp .ne 13, 3), (75, .iload 5, 2)]
theorem zddX10_bestCalls_36 : dqW lzddX10_bestCalls_36 (cX10_bestCalls.data.toList.drop 36) 36 = true := by decide +kernel
theorem dX10_bestCalls_36 : decode cX10_bestCalls 36 = .ok (.aload_n 0, 1) := dq_get (L := lzddX10_bestCalls_36) 0 rfl zddX10_bestCalls_36 rfl
theorem dX10_bestCalls_37 : decode cX10_bestCalls 37 = .ok (.getfield 68, 3) := dq_get (L := lzddX10_bestCalls_36) 1 rfl zddX10_bestCalls_36 rfl
theorem dX10_bestCalls_40 : decode cX10_bestCalls 40 = .ok (.invokevirtual 192, 3) := dq_get (L := lzddX10_bestCalls_36) 2 rfl zddX10_bestCalls_36 rfl
theorem dX10_bestCalls_43 : decode cX10_bestCalls 43 = .ok (.istore 4, 2) := dq_get (L := lzddX10_bestCalls_36) 3 rfl zddX10_bestCalls_36 rfl
theorem dX10_bestCalls_45 : decode cX10_bestCalls 45 = .ok (.iload_n 3, 1) := dq_get (L := lzddX10_bestCalls_36) 4 rfl zddX10_bestCalls_36 rfl
theorem dX10_bestCalls_46 : decode cX10_bestCalls 46 = .ok (.invokestatic 247, 3) := dq_get (L := lzddX10_bestCalls_36) 5 rfl zddX10_bestCalls_36 rfl
theorem dX10_bestCalls_49 : decode cX10_bestCalls 49 = .ok (.iload_n 1, 1) := dq_get (L := lzddX10_bestCalls_36) 6 rfl zddX10_bestCalls_36 rfl
theorem dX10_bestCalls_50 : decode cX10_bestCalls 50 = .ok (.invokestatic 247, 3) := dq_get (L := lzddX10_bestCalls_36) 7 rfl zddX10_bestCalls_36 rfl
theorem dX10_bestCalls_53 : decode cX10_bestCalls 53 = .ok (.if_icmp .ge 7, 3) := dq_get (L := lzddX10_bestCalls_36) 8 rfl zddX10_bestCalls_36 rfl
theorem dX10_bestCalls_56 : decode cX10_bestCalls 56 = .ok (.iconst 1, 1) := dq_get (L := lzddX10_bestCalls_36) 9 rfl zddX10_bestCalls_36 rfl
theorem dX10_bestCalls_57 : decode cX10_bestCalls 57 = .ok (.goto 4, 3) := dq_get (L := lzddX10_bestCalls_36) 10 rfl zddX10_bestCalls_36 rfl
theorem dX10_bestCalls_60 : decode cX10_bestCalls 60 = .ok (.iconst 0, 1) := dq_get (L := lzddX10_bestCalls_36) 11 rfl zddX10_bestCalls_36 rfl
theorem dX10_bestCalls_61 : decode cX10_bestCalls 61 = .ok (.istore 5, 2) := dq_get (L := lzddX10_bestCalls_36) 12 rfl zddX10_bestCalls_36 rfl
theorem dX10_bestCalls_63 : decode cX10_bestCalls 63 = .ok (.iload 4, 2) := dq_get (L := lzddX10_bestCalls_36) 13 rfl zddX10_bestCalls_36 rfl
theorem dX10_bestCalls_65 : decode cX10_bestCalls 65 = .ok (.iload_n 2, 1) := dq_get (L := lzddX10_bestCalls_36) 14 rfl zddX10_bestCalls_36 rfl
theorem dX10_bestCalls_66 : decode cX10_bestCalls 66 = .ok (.if_icmp .gt 14, 3) := dq_get (L := lzddX10_bestCalls_36) 15 rfl zddX10_bestCalls_36 rfl
theorem dX10_bestCalls_69 : decode cX10_bestCalls 69 = .ok (.iload 4, 2) := dq_get (L := lzddX10_bestCalls_36) 16 rfl zddX10_bestCalls_36 rfl
theorem dX10_bestCalls_71 : decode cX10_bestCalls 71 = .ok (.iload_n 2, 1) := dq_get (L := lzddX10_bestCalls_36) 17 rfl zddX10_bestCalls_36 rfl
theorem dX10_bestCalls_72 : decode cX10_bestCalls 72 = .ok (.if_icmp .ne 13, 3) := dq_get (L := lzddX10_bestCalls_36) 18 rfl zddX10_bestCalls_36 rfl
theorem dX10_bestCalls_75 : decode cX10_bestCalls 75 = .ok (.iload 5, 2) := dq_get (L := lzddX10_bestCalls_36) 19 rfl zddX10_bestCalls_36 rfl
def lzddX10_bestCalls_77 : List (Nat × Instr × Nat) := [(77, .ifCond .eq 8, 3), (80, .iload 4, 2), (82, .istore_n 2, 1), (83, .iload_n 3, 1), (84, .istore_n 1, 1), (85, .iinc 3 1, 3), (88, .goto (-80), 3), (91, .iload_n 1, 1), (92, .ireturn, 1)]
theorem zddX10_bestCalls_77 : dqW lzddX10_bestCalls_77 (cX10_bestCalls.data.toList.drop 77) 77 = true := by decide +kernel
theorem dX10_bestCalls_77 : decode cX10_bestCalls 77 = .ok (.ifCond .eq 8, 3) := dq_get (L := lzddX10_bestCalls_77) 0 rfl zddX10_bestCalls_77 rfl
theorem dX10_bestCalls_80 : decode cX10_bestCalls 80 = .ok (.iload 4, 2) := dq_get (L := lzddX10_bestCalls_77) 1 rfl zddX10_bestCalls_77 rfl
theorem dX10_bestCalls_82 : decode cX10_bestCalls 82 = .ok (.istore_n 2, 1) := dq_get (L := lzddX10_bestCalls_77) 2 rfl zddX10_bestCalls_77 rfl
theorem dX10_bestCalls_83 : decode cX10_bestCalls 83 = .ok (.iload_n 3, 1) := dq_get (L := lzddX10_bestCalls_77) 3 rfl zddX10_bestCalls_77 rfl
theorem dX10_bestCalls_84 : decode cX10_bestCalls 84 = .ok (.istore_n 1, 1) := dq_get (L := lzddX10_bestCalls_77) 4 rfl zddX10_bestCalls_77 rfl
theorem dX10_bestCalls_85 : decode cX10_bestCalls 85 = .ok (.iinc 3 1, 3) := dq_get (L := lzddX10_bestCalls_77) 5 rfl zddX10_bestCalls_77 rfl
theorem dX10_bestCalls_88 : decode cX10_bestCalls 88 = .ok (.goto (-80), 3) := dq_get (L := lzddX10_bestCalls_77) 6 rfl zddX10_bestCalls_77 rfl
theorem dX10_bestCalls_91 : decode cX10_bestCalls 91 = .ok (.iload_n 1, 1) := dq_get (L := lzddX10_bestCalls_77) 7 rfl zddX10_bestCalls_77 rfl
theorem dX10_bestCalls_92 : decode cX10_bestCalls 92 = .ok (.ireturn, 1) := dq_get (L := lzddX10_bestCalls_77) 8 rfl zddX10_bestCalls_77 rfl
def lzddX10_bit_0 : List (Nat × Instr × Nat) := [(0, .iload_n 0, 1), (1, .iload_n 1, 1), (2, .iushr, 1), (3, .iconst 1, 1), (4, .iand, 1), (5, .ireturn, 1)]
theorem zddX10_bit_0 : dqW lzddX10_bit_0 (cX10_bit.data.toList.drop 0) 0 = true := by decide +kernel
theorem dX10_bit_0 : decode cX10_bit 0 = .ok (.iload_n 0, 1) := dq_get (L := lzddX10_bit_0) 0 rfl zddX10_bit_0 rfl
theorem dX10_bit_1 : decode cX10_bit 1 = .ok (.iload_n 1, 1) := dq_get (L := lzddX10_bit_0) 1 rfl zddX10_bit_0 rfl
theorem dX10_bit_2 : decode cX10_bit 2 = .ok (.iushr, 1) := dq_get (L := lzddX10_bit_0) 2 rfl zddX10_bit_0 rfl
theorem dX10_bit_3 : decode cX10_bit 3 = .ok (.iconst 1, 1) := dq_get (L := lzddX10_bit_0) 3 rfl zddX10_bit_0 rfl
theorem dX10_bit_4 : decode cX10_bit 4 = .ok (.iand, 1) := dq_get (L := lzddX10_bit_0) 4 rfl zddX10_bit_0 rfl
theorem dX10_bit_5 : decode cX10_bit 5 = .ok (.ireturn, 1) := dq_get (L := lzddX10_bit_0) 5 rfl zddX10_bit_0 rfl
def lzddX10_by_0 : List (Nat × Instr × Nat) := [(0, .aload_n 0, 1), (1, .iload_n 1, 1), (2, .invokevirtual 252, 3), (5, .ifCond .ne 9, 3), (8, .aload_n 0, 1), (9, .iconst 1, 1), (10, .invokevirtual 79, 3), (13, .ireturn, 1), (14, .bipush (-2), 2), (16, .istore_n 2, 1), (17, .iconst 0, 1), (18, .istore_n 3, 1), (19, .iload_n 3, 1), (20, .aload_n 0, 1), (21, .invokevirtual 263, 3), (24, .if_icmp .gt 67, 3), (27, .iload_n 2, 1), (28, .bipush (-2), 2), (30, .if_icmp .eq 14, 3), (33, .iload_n 3, 1)]
theorem zddX10_by_0 : dqW lzddX10_by_0 (cX10_by.data.toList.drop 0) 0 = true := by decide +kernel
theorem dX10_by_0 : decode cX10_by 0 = .ok (.aload_n 0, 1) := dq_get (L := lzddX10_by_0) 0 rfl zddX10_by_0 rfl
theorem dX10_by_1 : decode cX10_by 1 = .ok (.iload_n 1, 1) := dq_get (L := lzddX10_by_0) 1 rfl zddX10_by_0 rfl
theorem dX10_by_2 : decode cX10_by 2 = .ok (.invokevirtual 252, 3) := dq_get (L := lzddX10_by_0) 2 rfl zddX10_by_0 rfl
theorem dX10_by_5 : decode cX10_by 5 = .ok (.ifCond .ne 9, 3) := dq_get (L := lzddX10_by_0) 3 rfl zddX10_by_0 rfl
theorem dX10_by_8 : decode cX10_by 8 = .ok (.aload_n 0, 1) := dq_get (L := lzddX10_by_0) 4 rfl zddX10_by_0 rfl
theorem dX10_by_9 : decode cX10_by 9 = .ok (.iconst 1, 1) := dq_get (L := lzddX10_by_0) 5 rfl zddX10_by_0 rfl
theorem dX10_by_10 : decode cX10_by 10 = .ok (.invokevirtual 79, 3) := dq_get (L := lzddX10_by_0) 6 rfl zddX10_by_0 rfl
theorem dX10_by_13 : decode cX10_by 13 = .ok (.ireturn, 1) := dq_get (L := lzddX10_by_0) 7 rfl zddX10_by_0 rfl
theorem dX10_by_14 : decode cX10_by 14 = .ok (.bipush (-2), 2) := dq_get (L := lzddX10_by_0) 8 rfl zddX10_by_0 rfl
theorem dX10_by_16 : decode cX10_by 16 = .ok (.istore_n 2, 1) := dq_get (L := lzddX10_by_0) 9 rfl zddX10_by_0 rfl
theorem dX10_by_17 : decode cX10_by 17 = .ok (.iconst 0, 1) := dq_get (L := lzddX10_by_0) 10 rfl zddX10_by_0 rfl
theorem dX10_by_18 : decode cX10_by 18 = .ok (.istore_n 3, 1) := dq_get (L := lzddX10_by_0) 11 rfl zddX10_by_0 rfl
theorem dX10_by_19 : decode cX10_by 19 = .ok (.iload_n 3, 1) := dq_get (L := lzddX10_by_0) 12 rfl zddX10_by_0 rfl
theorem dX10_by_20 : decode cX10_by 20 = .ok (.aload_n 0, 1) := dq_get (L := lzddX10_by_0) 13 rfl zddX10_by_0 rfl
theorem dX10_by_21 : decode cX10_by 21 = .ok (.invokevirtual 263, 3) := dq_get (L := lzddX10_by_0) 14 rfl zddX10_by_0 rfl
theorem dX10_by_24 : decode cX10_by 24 = .ok (.if_icmp .gt 67, 3) := dq_get (L := lzddX10_by_0) 15 rfl zddX10_by_0 rfl
theorem dX10_by_27 : decode cX10_by 27 = .ok (.iload_n 2, 1) := dq_get (L := lzddX10_by_0) 16 rfl zddX10_by_0 rfl
theorem dX10_by_28 : decode cX10_by 28 = .ok (.bipush (-2), 2) := dq_get (L := lzddX10_by_0) 17 rfl zddX10_by_0 rfl
theorem dX10_by_30 : decode cX10_by 30 = .ok (.if_icmp .eq 14, 3) := dq_get (L := lzddX10_by_0) 18 rfl zddX10_by_0 rfl
theorem dX10_by_33 : decode cX10_by 33 = .ok (.iload_n 3, 1) := dq_get (L := lzddX10_by_0) 19 rfl zddX10_by_0 rfl
def lzddX10_by_34 : List (Nat × Instr × Nat) := [(34, .invokestatic 247, 3), (37, .iload_n 2, 1), (38, .invokestatic 247, 3), (41, .if_icmp .ge 44, 3), (44, .aload_n 0, 1), (45, .getfield 68, 3), (48, .aload_n 0, 1), (49, .getfield 16, 3), (52, .aload_n 0, 1), (53, .invokevirtual 119, 3), (56, .iload_n 3, 1), (57, .aload_n 0, 1), (58, .invokevirtual 184, 3), (61, .invokevirtual 188, 3), (64, .aload_n 0, 1), (65, .getfield 68, 3), (68, .aload_n 0, 1), (69, .getfield 16, 3), (72, .getfield 255, 3), (75, .iload_n 1, 1)]
theorem zddX10_by_34 : dqW lzddX10_by_34 (cX10_by.data.toList.drop 34) 34 = true := by decide +kernel
theorem dX10_by_34 : decode cX10_by 34 = .ok (.invokestatic 247, 3) := dq_get (L := lzddX10_by_34) 0 rfl zddX10_by_34 rfl
theorem dX10_by_37 : decode cX10_by 37 = .ok (.iload_n 2, 1) := dq_get (L := lzddX10_by_34) 1 rfl zddX10_by_34 rfl
theorem dX10_by_38 : decode cX10_by 38 = .ok (.invokestatic 247, 3) := dq_get (L := lzddX10_by_34) 2 rfl zddX10_by_34 rfl
theorem dX10_by_41 : decode cX10_by 41 = .ok (.if_icmp .ge 44, 3) := dq_get (L := lzddX10_by_34) 3 rfl zddX10_by_34 rfl
theorem dX10_by_44 : decode cX10_by 44 = .ok (.aload_n 0, 1) := dq_get (L := lzddX10_by_34) 4 rfl zddX10_by_34 rfl
theorem dX10_by_45 : decode cX10_by 45 = .ok (.getfield 68, 3) := dq_get (L := lzddX10_by_34) 5 rfl zddX10_by_34 rfl
theorem dX10_by_48 : decode cX10_by 48 = .ok (.aload_n 0, 1) := dq_get (L := lzddX10_by_34) 6 rfl zddX10_by_34 rfl
theorem dX10_by_49 : decode cX10_by 49 = .ok (.getfield 16, 3) := dq_get (L := lzddX10_by_34) 7 rfl zddX10_by_34 rfl
theorem dX10_by_52 : decode cX10_by 52 = .ok (.aload_n 0, 1) := dq_get (L := lzddX10_by_34) 8 rfl zddX10_by_34 rfl
theorem dX10_by_53 : decode cX10_by 53 = .ok (.invokevirtual 119, 3) := dq_get (L := lzddX10_by_34) 9 rfl zddX10_by_34 rfl
theorem dX10_by_56 : decode cX10_by 56 = .ok (.iload_n 3, 1) := dq_get (L := lzddX10_by_34) 10 rfl zddX10_by_34 rfl
theorem dX10_by_57 : decode cX10_by 57 = .ok (.aload_n 0, 1) := dq_get (L := lzddX10_by_34) 11 rfl zddX10_by_34 rfl
theorem dX10_by_58 : decode cX10_by 58 = .ok (.invokevirtual 184, 3) := dq_get (L := lzddX10_by_34) 12 rfl zddX10_by_34 rfl
theorem dX10_by_61 : decode cX10_by 61 = .ok (.invokevirtual 188, 3) := dq_get (L := lzddX10_by_34) 13 rfl zddX10_by_34 rfl
theorem dX10_by_64 : decode cX10_by 64 = .ok (.aload_n 0, 1) := dq_get (L := lzddX10_by_34) 14 rfl zddX10_by_34 rfl
theorem dX10_by_65 : decode cX10_by 65 = .ok (.getfield 68, 3) := dq_get (L := lzddX10_by_34) 15 rfl zddX10_by_34 rfl
theorem dX10_by_68 : decode cX10_by 68 = .ok (.aload_n 0, 1) := dq_get (L := lzddX10_by_34) 16 rfl zddX10_by_34 rfl
theorem dX10_by_69 : decode cX10_by 69 = .ok (.getfield 16, 3) := dq_get (L := lzddX10_by_34) 17 rfl zddX10_by_34 rfl
theorem dX10_by_72 : decode cX10_by 72 = .ok (.getfield 255, 3) := dq_get (L := lzddX10_by_34) 18 rfl zddX10_by_34 rfl
theorem dX10_by_75 : decode cX10_by 75 = .ok (.iload_n 1, 1) := dq_get (L := lzddX10_by_34) 19 rfl zddX10_by_34 rfl
def lzddX10_by_76 : List (Nat × Instr × Nat) := [(76, .aaload, 1), (77, .invokevirtual 259, 3), (80, .ifCond .eq 5, 3), (83, .iload_n 3, 1), (84, .istore_n 2, 1), (85, .iinc 3 1, 3), (88, .goto (-69), 3), (91, .aload_n 0, 1), (92, .iload_n 2, 1), (93, .invokevirtual 109, 3), (96, .ireturn, 1)]
theorem zddX10_by_76 : dqW lzddX10_by_76 (cX10_by.data.toList.drop 76) 76 = true := by decide +kernel
theorem dX10_by_76 : decode cX10_by 76 = .ok (.aaload, 1) := dq_get (L := lzddX10_by_76) 0 rfl zddX10_by_76 rfl
theorem dX10_by_77 : decode cX10_by 77 = .ok (.invokevirtual 259, 3) := dq_get (L := lzddX10_by_76) 1 rfl zddX10_by_76 rfl
theorem dX10_by_80 : decode cX10_by 80 = .ok (.ifCond .eq 5, 3) := dq_get (L := lzddX10_by_76) 2 rfl zddX10_by_76 rfl
theorem dX10_by_83 : decode cX10_by 83 = .ok (.iload_n 3, 1) := dq_get (L := lzddX10_by_76) 3 rfl zddX10_by_76 rfl
theorem dX10_by_84 : decode cX10_by 84 = .ok (.istore_n 2, 1) := dq_get (L := lzddX10_by_76) 4 rfl zddX10_by_76 rfl
theorem dX10_by_85 : decode cX10_by 85 = .ok (.iinc 3 1, 3) := dq_get (L := lzddX10_by_76) 5 rfl zddX10_by_76 rfl
theorem dX10_by_88 : decode cX10_by 88 = .ok (.goto (-69), 3) := dq_get (L := lzddX10_by_76) 6 rfl zddX10_by_76 rfl
theorem dX10_by_91 : decode cX10_by 91 = .ok (.aload_n 0, 1) := dq_get (L := lzddX10_by_76) 7 rfl zddX10_by_76 rfl
theorem dX10_by_92 : decode cX10_by 92 = .ok (.iload_n 2, 1) := dq_get (L := lzddX10_by_76) 8 rfl zddX10_by_76 rfl
theorem dX10_by_93 : decode cX10_by 93 = .ok (.invokevirtual 109, 3) := dq_get (L := lzddX10_by_76) 9 rfl zddX10_by_76 rfl
theorem dX10_by_96 : decode cX10_by 96 = .ok (.ireturn, 1) := dq_get (L := lzddX10_by_76) 10 rfl zddX10_by_76 rfl
def lzddX10_call_0 : List (Nat × Instr × Nat) := [(0, .iload_n 1, 1), (1, .ifCond .lt 14, 3), (4, .iload_n 1, 1), (5, .aload_n 0, 1), (6, .getfield 16, 3), (9, .getfield 278, 3), (12, .if_icmp .lt 9, 3), (15, .aload_n 0, 1), (16, .iconst 1, 1), (17, .invokevirtual 281, 3), (20, .ireturn, 1), (21, .aload_n 0, 1), (22, .getfield 35, 3), (25, .getfield 181, 3), (28, .iload_n 1, 1), (29, .invokestatic 136, 3), (32, .iconst 1, 1), (33, .if_icmp .ne 7, 3), (36, .iconst 1, 1), (37, .goto 4, 3)]
theorem zddX10_call_0 : dqW lzddX10_call_0 (cX10_call.data.toList.drop 0) 0 = true := by decide +kernel
theorem dX10_call_0 : decode cX10_call 0 = .ok (.iload_n 1, 1) := dq_get (L := lzddX10_call_0) 0 rfl zddX10_call_0 rfl
theorem dX10_call_1 : decode cX10_call 1 = .ok (.ifCond .lt 14, 3) := dq_get (L := lzddX10_call_0) 1 rfl zddX10_call_0 rfl
theorem dX10_call_4 : decode cX10_call 4 = .ok (.iload_n 1, 1) := dq_get (L := lzddX10_call_0) 2 rfl zddX10_call_0 rfl
theorem dX10_call_5 : decode cX10_call 5 = .ok (.aload_n 0, 1) := dq_get (L := lzddX10_call_0) 3 rfl zddX10_call_0 rfl
theorem dX10_call_6 : decode cX10_call 6 = .ok (.getfield 16, 3) := dq_get (L := lzddX10_call_0) 4 rfl zddX10_call_0 rfl
theorem dX10_call_9 : decode cX10_call 9 = .ok (.getfield 278, 3) := dq_get (L := lzddX10_call_0) 5 rfl zddX10_call_0 rfl
theorem dX10_call_12 : decode cX10_call 12 = .ok (.if_icmp .lt 9, 3) := dq_get (L := lzddX10_call_0) 6 rfl zddX10_call_0 rfl
theorem dX10_call_15 : decode cX10_call 15 = .ok (.aload_n 0, 1) := dq_get (L := lzddX10_call_0) 7 rfl zddX10_call_0 rfl
theorem dX10_call_16 : decode cX10_call 16 = .ok (.iconst 1, 1) := dq_get (L := lzddX10_call_0) 8 rfl zddX10_call_0 rfl
theorem dX10_call_17 : decode cX10_call 17 = .ok (.invokevirtual 281, 3) := dq_get (L := lzddX10_call_0) 9 rfl zddX10_call_0 rfl
theorem dX10_call_20 : decode cX10_call 20 = .ok (.ireturn, 1) := dq_get (L := lzddX10_call_0) 10 rfl zddX10_call_0 rfl
theorem dX10_call_21 : decode cX10_call 21 = .ok (.aload_n 0, 1) := dq_get (L := lzddX10_call_0) 11 rfl zddX10_call_0 rfl
theorem dX10_call_22 : decode cX10_call 22 = .ok (.getfield 35, 3) := dq_get (L := lzddX10_call_0) 12 rfl zddX10_call_0 rfl
theorem dX10_call_25 : decode cX10_call 25 = .ok (.getfield 181, 3) := dq_get (L := lzddX10_call_0) 13 rfl zddX10_call_0 rfl
theorem dX10_call_28 : decode cX10_call 28 = .ok (.iload_n 1, 1) := dq_get (L := lzddX10_call_0) 14 rfl zddX10_call_0 rfl
theorem dX10_call_29 : decode cX10_call 29 = .ok (.invokestatic 136, 3) := dq_get (L := lzddX10_call_0) 15 rfl zddX10_call_0 rfl
theorem dX10_call_32 : decode cX10_call 32 = .ok (.iconst 1, 1) := dq_get (L := lzddX10_call_0) 16 rfl zddX10_call_0 rfl
theorem dX10_call_33 : decode cX10_call 33 = .ok (.if_icmp .ne 7, 3) := dq_get (L := lzddX10_call_0) 17 rfl zddX10_call_0 rfl
theorem dX10_call_36 : decode cX10_call 36 = .ok (.iconst 1, 1) := dq_get (L := lzddX10_call_0) 18 rfl zddX10_call_0 rfl
theorem dX10_call_37 : decode cX10_call 37 = .ok (.goto 4, 3) := dq_get (L := lzddX10_call_0) 19 rfl zddX10_call_0 rfl
def lzddX10_call_40 : List (Nat × Instr × Nat) := [(40, .iconst 0, 1), (41, .iload_n 2, 1), (42, .if_icmp .ne 9, 3), (45, .aload_n 0, 1), (46, .iconst 5, 1), (47, .invokevirtual 281, 3), (50, .ireturn, 1), (51, .aload_n 0, 1), (52, .getfield 42, 3), (55, .aload_n 0, 1), (56, .getfield 35, 3), (59, .invokevirtual 284, 3), (62, .aload_n 0, 1), (63, .getfield 35, 3), (66, .dup, 1), (67, .getfield 181, 3), (70, .iconst 1, 1), (71, .iload_n 1, 1), (72, .ishl, 1), (73, .ixor, 1)]
theorem zddX10_call_40 : dqW lzddX10_call_40 (cX10_call.data.toList.drop 40) 40 = true := by decide +kernel
theorem dX10_call_40 : decode cX10_call 40 = .ok (.iconst 0, 1) := dq_get (L := lzddX10_call_40) 0 rfl zddX10_call_40 rfl
theorem dX10_call_41 : decode cX10_call 41 = .ok (.iload_n 2, 1) := dq_get (L := lzddX10_call_40) 1 rfl zddX10_call_40 rfl
theorem dX10_call_42 : decode cX10_call 42 = .ok (.if_icmp .ne 9, 3) := dq_get (L := lzddX10_call_40) 2 rfl zddX10_call_40 rfl
theorem dX10_call_45 : decode cX10_call 45 = .ok (.aload_n 0, 1) := dq_get (L := lzddX10_call_40) 3 rfl zddX10_call_40 rfl
theorem dX10_call_46 : decode cX10_call 46 = .ok (.iconst 5, 1) := dq_get (L := lzddX10_call_40) 4 rfl zddX10_call_40 rfl
theorem dX10_call_47 : decode cX10_call 47 = .ok (.invokevirtual 281, 3) := dq_get (L := lzddX10_call_40) 5 rfl zddX10_call_40 rfl
theorem dX10_call_50 : decode cX10_call 50 = .ok (.ireturn, 1) := dq_get (L := lzddX10_call_40) 6 rfl zddX10_call_40 rfl
theorem dX10_call_51 : decode cX10_call 51 = .ok (.aload_n 0, 1) := dq_get (L := lzddX10_call_40) 7 rfl zddX10_call_40 rfl
theorem dX10_call_52 : decode cX10_call 52 = .ok (.getfield 42, 3) := dq_get (L := lzddX10_call_40) 8 rfl zddX10_call_40 rfl
theorem dX10_call_55 : decode cX10_call 55 = .ok (.aload_n 0, 1) := dq_get (L := lzddX10_call_40) 9 rfl zddX10_call_40 rfl
theorem dX10_call_56 : decode cX10_call 56 = .ok (.getfield 35, 3) := dq_get (L := lzddX10_call_40) 10 rfl zddX10_call_40 rfl
theorem dX10_call_59 : decode cX10_call 59 = .ok (.invokevirtual 284, 3) := dq_get (L := lzddX10_call_40) 11 rfl zddX10_call_40 rfl
theorem dX10_call_62 : decode cX10_call 62 = .ok (.aload_n 0, 1) := dq_get (L := lzddX10_call_40) 12 rfl zddX10_call_40 rfl
theorem dX10_call_63 : decode cX10_call 63 = .ok (.getfield 35, 3) := dq_get (L := lzddX10_call_40) 13 rfl zddX10_call_40 rfl
theorem dX10_call_66 : decode cX10_call 66 = .ok (.dup, 1) := dq_get (L := lzddX10_call_40) 14 rfl zddX10_call_40 rfl
theorem dX10_call_67 : decode cX10_call 67 = .ok (.getfield 181, 3) := dq_get (L := lzddX10_call_40) 15 rfl zddX10_call_40 rfl
theorem dX10_call_70 : decode cX10_call 70 = .ok (.iconst 1, 1) := dq_get (L := lzddX10_call_40) 16 rfl zddX10_call_40 rfl
theorem dX10_call_71 : decode cX10_call 71 = .ok (.iload_n 1, 1) := dq_get (L := lzddX10_call_40) 17 rfl zddX10_call_40 rfl
theorem dX10_call_72 : decode cX10_call 72 = .ok (.ishl, 1) := dq_get (L := lzddX10_call_40) 18 rfl zddX10_call_40 rfl
theorem dX10_call_73 : decode cX10_call 73 = .ok (.ixor, 1) := dq_get (L := lzddX10_call_40) 19 rfl zddX10_call_40 rfl
def lzddX10_call_74 : List (Nat × Instr × Nat) := [(74, .putfield 181, 3), (77, .aload_n 0, 1), (78, .iconst 0, 1), (79, .putfield 288, 3), (82, .aload_n 0, 1), (83, .invokevirtual 291, 3), (86, .ireturn, 1)]
theorem zddX10_call_74 : dqW lzddX10_call_74 (cX10_call.data.toList.drop 74) 74 = true := by decide +kernel
theorem dX10_call_74 : decode cX10_call 74 = .ok (.putfield 181, 3) := dq_get (L := lzddX10_call_74) 0 rfl zddX10_call_74 rfl
theorem dX10_call_77 : decode cX10_call 77 = .ok (.aload_n 0, 1) := dq_get (L := lzddX10_call_74) 1 rfl zddX10_call_74 rfl
theorem dX10_call_78 : decode cX10_call 78 = .ok (.iconst 0, 1) := dq_get (L := lzddX10_call_74) 2 rfl zddX10_call_74 rfl
theorem dX10_call_79 : decode cX10_call 79 = .ok (.putfield 288, 3) := dq_get (L := lzddX10_call_74) 3 rfl zddX10_call_74 rfl
theorem dX10_call_82 : decode cX10_call 82 = .ok (.aload_n 0, 1) := dq_get (L := lzddX10_call_74) 4 rfl zddX10_call_74 rfl
theorem dX10_call_83 : decode cX10_call 83 = .ok (.invokevirtual 291, 3) := dq_get (L := lzddX10_call_74) 5 rfl zddX10_call_74 rfl
theorem dX10_call_86 : decode cX10_call 86 = .ok (.ireturn, 1) := dq_get (L := lzddX10_call_74) 6 rfl zddX10_call_74 rfl
def lzddX10_calls_0 : List (Nat × Instr × Nat) := [(0, .aload_n 0, 1), (1, .getfield 95, 3), (4, .ifCond .eq 17, 3), (7, .aload_n 0, 1), (8, .aload_n 0, 1), (9, .getfield 35, 3), (12, .getfield 181, 3), (15, .invokevirtual 109, 3), (18, .goto 8, 3), (21, .aload_n 0, 1), (22, .iconst 1, 1), (23, .invokevirtual 79, 3), (26, .ireturn, 1)]
theorem zddX10_calls_0 : dqW lzddX10_calls_0 (cX10_calls.data.toList.drop 0) 0 = true := by decide +kernel
theorem dX10_calls_0 : decode cX10_calls 0 = .ok (.aload_n 0, 1) := dq_get (L := lzddX10_calls_0) 0 rfl zddX10_calls_0 rfl
theorem dX10_calls_1 : decode cX10_calls 1 = .ok (.getfield 95, 3) := dq_get (L := lzddX10_calls_0) 1 rfl zddX10_calls_0 rfl
theorem dX10_calls_4 : decode cX10_calls 4 = .ok (.ifCond .eq 17, 3) := dq_get (L := lzddX10_calls_0) 2 rfl zddX10_calls_0 rfl
theorem dX10_calls_7 : decode cX10_calls 7 = .ok (.aload_n 0, 1) := dq_get (L := lzddX10_calls_0) 3 rfl zddX10_calls_0 rfl
theorem dX10_calls_8 : decode cX10_calls 8 = .ok (.aload_n 0, 1) := dq_get (L := lzddX10_calls_0) 4 rfl zddX10_calls_0 rfl
theorem dX10_calls_9 : decode cX10_calls 9 = .ok (.getfield 35, 3) := dq_get (L := lzddX10_calls_0) 5 rfl zddX10_calls_0 rfl
theorem dX10_calls_12 : decode cX10_calls 12 = .ok (.getfield 181, 3) := dq_get (L := lzddX10_calls_0) 6 rfl zddX10_calls_0 rfl
theorem dX10_calls_15 : decode cX10_calls 15 = .ok (.invokevirtual 109, 3) := dq_get (L := lzddX10_calls_0) 7 rfl zddX10_calls_0 rfl
theorem dX10_calls_18 : decode cX10_calls 18 = .ok (.goto 8, 3) := dq_get (L := lzddX10_calls_0) 8 rfl zddX10_calls_0 rfl
theorem dX10_calls_21 : decode cX10_calls 21 = .ok (.aload_n 0, 1) := dq_get (L := lzddX10_calls_0) 9 rfl zddX10_calls_0 rfl
theorem dX10_calls_22 : decode cX10_calls 22 = .ok (.iconst 1, 1) := dq_get (L := lzddX10_calls_0) 10 rfl zddX10_calls_0 rfl
theorem dX10_calls_23 : decode cX10_calls 23 = .ok (.invokevirtual 79, 3) := dq_get (L := lzddX10_calls_0) 11 rfl zddX10_calls_0 rfl
theorem dX10_calls_26 : decode cX10_calls 26 = .ok (.ireturn, 1) := dq_get (L := lzddX10_calls_0) 12 rfl zddX10_calls_0 rfl
def lzddX10_cause_0 : List (Nat × Instr × Nat) := [(0, .aload_n 0, 1), (1, .iload_n 1, 1), (2, .iload_n 2, 1), (3, .invokevirtual 222, 3), (6, .istore_n 3, 1), (7, .iload_n 3, 1), (8, .iconst (-1), 1), (9, .if_icmp .ne 9, 3), (12, .aload_n 0, 1), (13, .iconst 1, 1), (14, .invokevirtual 79, 3), (17, .ireturn, 1), (18, .iconst 0, 1), (19, .istore 4, 2), (21, .iload 4, 2), (23, .aload_n 0, 1), (24, .invokevirtual 225, 3), (27, .if_icmp .ge 36, 3), (30, .aload_n 0, 1), (31, .iload 4, 2)]
theorem zddX10_cause_0 : dqW lzddX10_cause_0 (cX10_cause.data.toList.drop 0) 0 = true := by decide +kernel
theorem dX10_cause_0 : decode cX10_cause 0 = .ok (.aload_n 0, 1) := dq_get (L := lzddX10_cause_0) 0 rfl zddX10_cause_0 rfl
theorem dX10_cause_1 : decode cX10_cause 1 = .ok (.iload_n 1, 1) := dq_get (L := lzddX10_cause_0) 1 rfl zddX10_cause_0 rfl
theorem dX10_cause_2 : decode cX10_cause 2 = .ok (.iload_n 2, 1) := dq_get (L := lzddX10_cause_0) 2 rfl zddX10_cause_0 rfl
theorem dX10_cause_3 : decode cX10_cause 3 = .ok (.invokevirtual 222, 3) := dq_get (L := lzddX10_cause_0) 3 rfl zddX10_cause_0 rfl
theorem dX10_cause_6 : decode cX10_cause 6 = .ok (.istore_n 3, 1) := dq_get (L := lzddX10_cause_0) 4 rfl zddX10_cause_0 rfl
theorem dX10_cause_7 : decode cX10_cause 7 = .ok (.iload_n 3, 1) := dq_get (L := lzddX10_cause_0) 5 rfl zddX10_cause_0 rfl
theorem dX10_cause_8 : decode cX10_cause 8 = .ok (.iconst (-1), 1) := dq_get (L := lzddX10_cause_0) 6 rfl zddX10_cause_0 rfl
theorem dX10_cause_9 : decode cX10_cause 9 = .ok (.if_icmp .ne 9, 3) := dq_get (L := lzddX10_cause_0) 7 rfl zddX10_cause_0 rfl
theorem dX10_cause_12 : decode cX10_cause 12 = .ok (.aload_n 0, 1) := dq_get (L := lzddX10_cause_0) 8 rfl zddX10_cause_0 rfl
theorem dX10_cause_13 : decode cX10_cause 13 = .ok (.iconst 1, 1) := dq_get (L := lzddX10_cause_0) 9 rfl zddX10_cause_0 rfl
theorem dX10_cause_14 : decode cX10_cause 14 = .ok (.invokevirtual 79, 3) := dq_get (L := lzddX10_cause_0) 10 rfl zddX10_cause_0 rfl
theorem dX10_cause_17 : decode cX10_cause 17 = .ok (.ireturn, 1) := dq_get (L := lzddX10_cause_0) 11 rfl zddX10_cause_0 rfl
theorem dX10_cause_18 : decode cX10_cause 18 = .ok (.iconst 0, 1) := dq_get (L := lzddX10_cause_0) 12 rfl zddX10_cause_0 rfl
theorem dX10_cause_19 : decode cX10_cause 19 = .ok (.istore 4, 2) := dq_get (L := lzddX10_cause_0) 13 rfl zddX10_cause_0 rfl
theorem dX10_cause_21 : decode cX10_cause 21 = .ok (.iload 4, 2) := dq_get (L := lzddX10_cause_0) 14 rfl zddX10_cause_0 rfl
theorem dX10_cause_23 : decode cX10_cause 23 = .ok (.aload_n 0, 1) := dq_get (L := lzddX10_cause_0) 15 rfl zddX10_cause_0 rfl
theorem dX10_cause_24 : decode cX10_cause 24 = .ok (.invokevirtual 225, 3) := dq_get (L := lzddX10_cause_0) 16 rfl zddX10_cause_0 rfl
theorem dX10_cause_27 : decode cX10_cause 27 = .ok (.if_icmp .ge 36, 3) := dq_get (L := lzddX10_cause_0) 17 rfl zddX10_cause_0 rfl
theorem dX10_cause_30 : decode cX10_cause 30 = .ok (.aload_n 0, 1) := dq_get (L := lzddX10_cause_0) 18 rfl zddX10_cause_0 rfl
theorem dX10_cause_31 : decode cX10_cause 31 = .ok (.iload 4, 2) := dq_get (L := lzddX10_cause_0) 19 rfl zddX10_cause_0 rfl
def lzddX10_cause_33 : List (Nat × Instr × Nat) := [(33, .invokevirtual 228, 3), (36, .iload_n 3, 1), (37, .if_icmp .eq 13, 3), (40, .aload_n 0, 1), (41, .iload 4, 2), (43, .invokevirtual 231, 3), (46, .iload_n 3, 1), (47, .if_icmp .ne 10, 3), (50, .aload_n 0, 1), (51, .iload 4, 2), (53, .invokevirtual 109, 3), (56, .ireturn, 1), (57, .iinc 4 1, 3), (60, .goto (-39), 3), (63, .aload_n 0, 1), (64, .bipush (-2), 2), (66, .invokevirtual 109, 3), (69, .ireturn, 1)]
theorem zddX10_cause_33 : dqW lzddX10_cause_33 (cX10_cause.data.toList.drop 33) 33 = true := by decide +kernel
theorem dX10_cause_33 : decode cX10_cause 33 = .ok (.invokevirtual 228, 3) := dq_get (L := lzddX10_cause_33) 0 rfl zddX10_cause_33 rfl
theorem dX10_cause_36 : decode cX10_cause 36 = .ok (.iload_n 3, 1) := dq_get (L := lzddX10_cause_33) 1 rfl zddX10_cause_33 rfl
theorem dX10_cause_37 : decode cX10_cause 37 = .ok (.if_icmp .eq 13, 3) := dq_get (L := lzddX10_cause_33) 2 rfl zddX10_cause_33 rfl
theorem dX10_cause_40 : decode cX10_cause 40 = .ok (.aload_n 0, 1) := dq_get (L := lzddX10_cause_33) 3 rfl zddX10_cause_33 rfl
theorem dX10_cause_41 : decode cX10_cause 41 = .ok (.iload 4, 2) := dq_get (L := lzddX10_cause_33) 4 rfl zddX10_cause_33 rfl
theorem dX10_cause_43 : decode cX10_cause 43 = .ok (.invokevirtual 231, 3) := dq_get (L := lzddX10_cause_33) 5 rfl zddX10_cause_33 rfl
theorem dX10_cause_46 : decode cX10_cause 46 = .ok (.iload_n 3, 1) := dq_get (L := lzddX10_cause_33) 6 rfl zddX10_cause_33 rfl
theorem dX10_cause_47 : decode cX10_cause 47 = .ok (.if_icmp .ne 10, 3) := dq_get (L := lzddX10_cause_33) 7 rfl zddX10_cause_33 rfl
theorem dX10_cause_50 : decode cX10_cause 50 = .ok (.aload_n 0, 1) := dq_get (L := lzddX10_cause_33) 8 rfl zddX10_cause_33 rfl
theorem dX10_cause_51 : decode cX10_cause 51 = .ok (.iload 4, 2) := dq_get (L := lzddX10_cause_33) 9 rfl zddX10_cause_33 rfl
theorem dX10_cause_53 : decode cX10_cause 53 = .ok (.invokevirtual 109, 3) := dq_get (L := lzddX10_cause_33) 10 rfl zddX10_cause_33 rfl
theorem dX10_cause_56 : decode cX10_cause 56 = .ok (.ireturn, 1) := dq_get (L := lzddX10_cause_33) 11 rfl zddX10_cause_33 rfl
theorem dX10_cause_57 : decode cX10_cause 57 = .ok (.iinc 4 1, 3) := dq_get (L := lzddX10_cause_33) 12 rfl zddX10_cause_33 rfl
theorem dX10_cause_60 : decode cX10_cause 60 = .ok (.goto (-39), 3) := dq_get (L := lzddX10_cause_33) 13 rfl zddX10_cause_33 rfl
theorem dX10_cause_63 : decode cX10_cause 63 = .ok (.aload_n 0, 1) := dq_get (L := lzddX10_cause_33) 14 rfl zddX10_cause_33 rfl
theorem dX10_cause_64 : decode cX10_cause 64 = .ok (.bipush (-2), 2) := dq_get (L := lzddX10_cause_33) 15 rfl zddX10_cause_33 rfl
theorem dX10_cause_66 : decode cX10_cause 66 = .ok (.invokevirtual 109, 3) := dq_get (L := lzddX10_cause_33) 16 rfl zddX10_cause_33 rfl
theorem dX10_cause_69 : decode cX10_cause 69 = .ok (.ireturn, 1) := dq_get (L := lzddX10_cause_33) 17 rfl zddX10_cause_33 rfl
def lzddX10_change_0 : List (Nat × Instr × Nat) := [(0, .aload_n 0, 1), (1, .iload_n 1, 1), (2, .invokevirtual 126, 3), (5, .ifCond .ne 9, 3), (8, .aload_n 0, 1), (9, .iconst 1, 1), (10, .invokevirtual 79, 3), (13, .ireturn, 1), (14, .aload_n 0, 1), (15, .invokevirtual 119, 3), (18, .astore_n 3, 1), (19, .iconst 0, 1), (20, .istore 4, 2), (22, .iconst 0, 1), (23, .istore 5, 2), (25, .iload 5, 2), (27, .aload_n 0, 1), (28, .getfield 16, 3), (31, .getfield 146, 3), (34, .if_icmp .ge 40, 3)]
theorem zddX10_change_0 : dqW lzddX10_change_0 (cX10_change.data.toList.drop 0) 0 = true := by decide +kernel
theorem dX10_change_0 : decode cX10_change 0 = .ok (.aload_n 0, 1) := dq_get (L := lzddX10_change_0) 0 rfl zddX10_change_0 rfl
theorem dX10_change_1 : decode cX10_change 1 = .ok (.iload_n 1, 1) := dq_get (L := lzddX10_change_0) 1 rfl zddX10_change_0 rfl
theorem dX10_change_2 : decode cX10_change 2 = .ok (.invokevirtual 126, 3) := dq_get (L := lzddX10_change_0) 2 rfl zddX10_change_0 rfl
theorem dX10_change_5 : decode cX10_change 5 = .ok (.ifCond .ne 9, 3) := dq_get (L := lzddX10_change_0) 3 rfl zddX10_change_0 rfl
theorem dX10_change_8 : decode cX10_change 8 = .ok (.aload_n 0, 1) := dq_get (L := lzddX10_change_0) 4 rfl zddX10_change_0 rfl
theorem dX10_change_9 : decode cX10_change 9 = .ok (.iconst 1, 1) := dq_get (L := lzddX10_change_0) 5 rfl zddX10_change_0 rfl
theorem dX10_change_10 : decode cX10_change 10 = .ok (.invokevirtual 79, 3) := dq_get (L := lzddX10_change_0) 6 rfl zddX10_change_0 rfl
theorem dX10_change_13 : decode cX10_change 13 = .ok (.ireturn, 1) := dq_get (L := lzddX10_change_0) 7 rfl zddX10_change_0 rfl
theorem dX10_change_14 : decode cX10_change 14 = .ok (.aload_n 0, 1) := dq_get (L := lzddX10_change_0) 8 rfl zddX10_change_0 rfl
theorem dX10_change_15 : decode cX10_change 15 = .ok (.invokevirtual 119, 3) := dq_get (L := lzddX10_change_0) 9 rfl zddX10_change_0 rfl
theorem dX10_change_18 : decode cX10_change 18 = .ok (.astore_n 3, 1) := dq_get (L := lzddX10_change_0) 10 rfl zddX10_change_0 rfl
theorem dX10_change_19 : decode cX10_change 19 = .ok (.iconst 0, 1) := dq_get (L := lzddX10_change_0) 11 rfl zddX10_change_0 rfl
theorem dX10_change_20 : decode cX10_change 20 = .ok (.istore 4, 2) := dq_get (L := lzddX10_change_0) 12 rfl zddX10_change_0 rfl
theorem dX10_change_22 : decode cX10_change 22 = .ok (.iconst 0, 1) := dq_get (L := lzddX10_change_0) 13 rfl zddX10_change_0 rfl
theorem dX10_change_23 : decode cX10_change 23 = .ok (.istore 5, 2) := dq_get (L := lzddX10_change_0) 14 rfl zddX10_change_0 rfl
theorem dX10_change_25 : decode cX10_change 25 = .ok (.iload 5, 2) := dq_get (L := lzddX10_change_0) 15 rfl zddX10_change_0 rfl
theorem dX10_change_27 : decode cX10_change 27 = .ok (.aload_n 0, 1) := dq_get (L := lzddX10_change_0) 16 rfl zddX10_change_0 rfl
theorem dX10_change_28 : decode cX10_change 28 = .ok (.getfield 16, 3) := dq_get (L := lzddX10_change_0) 17 rfl zddX10_change_0 rfl
theorem dX10_change_31 : decode cX10_change 31 = .ok (.getfield 146, 3) := dq_get (L := lzddX10_change_0) 18 rfl zddX10_change_0 rfl
theorem dX10_change_34 : decode cX10_change 34 = .ok (.if_icmp .ge 40, 3) := dq_get (L := lzddX10_change_0) 19 rfl zddX10_change_0 rfl
def lzddX10_change_37 : List (Nat × Instr × Nat) := [(37, .aload_n 3, 1), (38, .getfield 143, 3), (41, .iload 5, 2), (43, .iaload, 1), (44, .iload_n 1, 1), (45, .invokestatic 136, 3), (48, .iconst 1, 1), (49, .if_icmp .ne 19, 3), (52, .iload 4, 2), (54, .iload_n 2, 1), (55, .if_icmp .ne 10, 3), (58, .aload_n 0, 1), (59, .iload 5, 2), (61, .invokevirtual 109, 3), (64, .ireturn, 1), (65, .iinc 4 1, 3), (68, .iinc 5 1, 3), (71, .goto (-46), 3), (74, .aload_n 0, 1), (75, .iconst 1, 1)]
theorem zddX10_change_37 : dqW lzddX10_change_37 (cX10_change.data.toList.drop 37) 37 = true := by decide +kernel
theorem dX10_change_37 : decode cX10_change 37 = .ok (.aload_n 3, 1) := dq_get (L := lzddX10_change_37) 0 rfl zddX10_change_37 rfl
theorem dX10_change_38 : decode cX10_change 38 = .ok (.getfield 143, 3) := dq_get (L := lzddX10_change_37) 1 rfl zddX10_change_37 rfl
theorem dX10_change_41 : decode cX10_change 41 = .ok (.iload 5, 2) := dq_get (L := lzddX10_change_37) 2 rfl zddX10_change_37 rfl
theorem dX10_change_43 : decode cX10_change 43 = .ok (.iaload, 1) := dq_get (L := lzddX10_change_37) 3 rfl zddX10_change_37 rfl
theorem dX10_change_44 : decode cX10_change 44 = .ok (.iload_n 1, 1) := dq_get (L := lzddX10_change_37) 4 rfl zddX10_change_37 rfl
theorem dX10_change_45 : decode cX10_change 45 = .ok (.invokestatic 136, 3) := dq_get (L := lzddX10_change_37) 5 rfl zddX10_change_37 rfl
theorem dX10_change_48 : decode cX10_change 48 = .ok (.iconst 1, 1) := dq_get (L := lzddX10_change_37) 6 rfl zddX10_change_37 rfl
theorem dX10_change_49 : decode cX10_change 49 = .ok (.if_icmp .ne 19, 3) := dq_get (L := lzddX10_change_37) 7 rfl zddX10_change_37 rfl
theorem dX10_change_52 : decode cX10_change 52 = .ok (.iload 4, 2) := dq_get (L := lzddX10_change_37) 8 rfl zddX10_change_37 rfl
theorem dX10_change_54 : decode cX10_change 54 = .ok (.iload_n 2, 1) := dq_get (L := lzddX10_change_37) 9 rfl zddX10_change_37 rfl
theorem dX10_change_55 : decode cX10_change 55 = .ok (.if_icmp .ne 10, 3) := dq_get (L := lzddX10_change_37) 10 rfl zddX10_change_37 rfl
theorem dX10_change_58 : decode cX10_change 58 = .ok (.aload_n 0, 1) := dq_get (L := lzddX10_change_37) 11 rfl zddX10_change_37 rfl
theorem dX10_change_59 : decode cX10_change 59 = .ok (.iload 5, 2) := dq_get (L := lzddX10_change_37) 12 rfl zddX10_change_37 rfl
theorem dX10_change_61 : decode cX10_change 61 = .ok (.invokevirtual 109, 3) := dq_get (L := lzddX10_change_37) 13 rfl zddX10_change_37 rfl
theorem dX10_change_64 : decode cX10_change 64 = .ok (.ireturn, 1) := dq_get (L := lzddX10_change_37) 14 rfl zddX10_change_37 rfl
theorem dX10_change_65 : decode cX10_change 65 = .ok (.iinc 4 1, 3) := dq_get (L := lzddX10_change_37) 15 rfl zddX10_change_37 rfl
theorem dX10_change_68 : decode cX10_change 68 = .ok (.iinc 5 1, 3) := dq_get (L := lzddX10_change_37) 16 rfl zddX10_change_37 rfl
theorem dX10_change_71 : decode cX10_change 71 = .ok (.goto (-46), 3) := dq_get (L := lzddX10_change_37) 17 rfl zddX10_change_37 rfl
theorem dX10_change_74 : decode cX10_change 74 = .ok (.aload_n 0, 1) := dq_get (L := lzddX10_change_37) 18 rfl zddX10_change_37 rfl
theorem dX10_change_75 : decode cX10_change 75 = .ok (.iconst 1, 1) := dq_get (L := lzddX10_change_37) 19 rfl zddX10_change_37 rfl
def lzddX10_change_76 : List (Nat × Instr × Nat) := [(76, .invokevirtual 79, 3), (79, .ireturn, 1)]
theorem zddX10_change_76 : dqW lzddX10_change_76 (cX10_change.data.toList.drop 76) 76 = true := by decide +kernel
theorem dX10_change_76 : decode cX10_change 76 = .ok (.invokevirtual 79, 3) := dq_get (L := lzddX10_change_76) 0 rfl zddX10_change_76 rfl
theorem dX10_change_79 : decode cX10_change 79 = .ok (.ireturn, 1) := dq_get (L := lzddX10_change_76) 1 rfl zddX10_change_76 rfl
def lzddX10_changes_0 : List (Nat × Instr × Nat) := [(0, .aload_n 0, 1), (1, .iload_n 1, 1), (2, .invokevirtual 126, 3), (5, .ifCond .ne 9, 3), (8, .aload_n 0, 1), (9, .iconst 1, 1), (10, .invokevirtual 79, 3), (13, .ireturn, 1), (14, .aload_n 0, 1), (15, .invokevirtual 119, 3), (18, .astore_n 3, 1), (19, .iload_n 2, 1), (20, .ifCond .eq 10, 3), (23, .aload_n 3, 1), (24, .getfield 140, 3), (27, .goto 7, 3), (30, .aload_n 3, 1), (31, .getfield 143, 3), (34, .astore 4, 2), (36, .iconst 0, 1)]
theorem zddX10_changes_0 : dqW lzddX10_changes_0 (cX10_changes.data.toList.drop 0) 0 = true := by decide +kernel
theorem dX10_changes_0 : decode cX10_changes 0 = .ok (.aload_n 0, 1) := dq_get (L := lzddX10_changes_0) 0 rfl zddX10_changes_0 rfl
theorem dX10_changes_1 : decode cX10_changes 1 = .ok (.iload_n 1, 1) := dq_get (L := lzddX10_changes_0) 1 rfl zddX10_changes_0 rfl
theorem dX10_changes_2 : decode cX10_changes 2 = .ok (.invokevirtual 126, 3) := dq_get (L := lzddX10_changes_0) 2 rfl zddX10_changes_0 rfl
theorem dX10_changes_5 : decode cX10_changes 5 = .ok (.ifCond .ne 9, 3) := dq_get (L := lzddX10_changes_0) 3 rfl zddX10_changes_0 rfl
theorem dX10_changes_8 : decode cX10_changes 8 = .ok (.aload_n 0, 1) := dq_get (L := lzddX10_changes_0) 4 rfl zddX10_changes_0 rfl
theorem dX10_changes_9 : decode cX10_changes 9 = .ok (.iconst 1, 1) := dq_get (L := lzddX10_changes_0) 5 rfl zddX10_changes_0 rfl
theorem dX10_changes_10 : decode cX10_changes 10 = .ok (.invokevirtual 79, 3) := dq_get (L := lzddX10_changes_0) 6 rfl zddX10_changes_0 rfl
theorem dX10_changes_13 : decode cX10_changes 13 = .ok (.ireturn, 1) := dq_get (L := lzddX10_changes_0) 7 rfl zddX10_changes_0 rfl
theorem dX10_changes_14 : decode cX10_changes 14 = .ok (.aload_n 0, 1) := dq_get (L := lzddX10_changes_0) 8 rfl zddX10_changes_0 rfl
theorem dX10_changes_15 : decode cX10_changes 15 = .ok (.invokevirtual 119, 3) := dq_get (L := lzddX10_changes_0) 9 rfl zddX10_changes_0 rfl
theorem dX10_changes_18 : decode cX10_changes 18 = .ok (.astore_n 3, 1) := dq_get (L := lzddX10_changes_0) 10 rfl zddX10_changes_0 rfl
theorem dX10_changes_19 : decode cX10_changes 19 = .ok (.iload_n 2, 1) := dq_get (L := lzddX10_changes_0) 11 rfl zddX10_changes_0 rfl
theorem dX10_changes_20 : decode cX10_changes 20 = .ok (.ifCond .eq 10, 3) := dq_get (L := lzddX10_changes_0) 12 rfl zddX10_changes_0 rfl
theorem dX10_changes_23 : decode cX10_changes 23 = .ok (.aload_n 3, 1) := dq_get (L := lzddX10_changes_0) 13 rfl zddX10_changes_0 rfl
theorem dX10_changes_24 : decode cX10_changes 24 = .ok (.getfield 140, 3) := dq_get (L := lzddX10_changes_0) 14 rfl zddX10_changes_0 rfl
theorem dX10_changes_27 : decode cX10_changes 27 = .ok (.goto 7, 3) := dq_get (L := lzddX10_changes_0) 15 rfl zddX10_changes_0 rfl
theorem dX10_changes_30 : decode cX10_changes 30 = .ok (.aload_n 3, 1) := dq_get (L := lzddX10_changes_0) 16 rfl zddX10_changes_0 rfl
theorem dX10_changes_31 : decode cX10_changes 31 = .ok (.getfield 143, 3) := dq_get (L := lzddX10_changes_0) 17 rfl zddX10_changes_0 rfl
theorem dX10_changes_34 : decode cX10_changes 34 = .ok (.astore 4, 2) := dq_get (L := lzddX10_changes_0) 18 rfl zddX10_changes_0 rfl
theorem dX10_changes_36 : decode cX10_changes 36 = .ok (.iconst 0, 1) := dq_get (L := lzddX10_changes_0) 19 rfl zddX10_changes_0 rfl
def lzddX10_changes_37 : List (Nat × Instr × Nat) := [(37, .istore 5, 2), (39, .iconst 0, 1), (40, .istore 6, 2), (42, .iload 6, 2), (44, .aload_n 0, 1), (45, .getfield 16, 3), (48, .getfield 146, 3), (51, .if_icmp .ge 23, 3), (54, .iload 5, 2), (56, .aload 4, 2), (58, .iload 6, 2), (60, .iaload, 1), (61, .iload_n 1, 1), (62, .invokestatic 136, 3), (65, .iadd, 1), (66, .istore 5, 2), (68, .iinc 6 1, 3), (71, .goto (-29), 3), (74, .aload_n 0, 1), (75, .iload 5, 2)]
theorem zddX10_changes_37 : dqW lzddX10_changes_37 (cX10_changes.data.toList.drop 37) 37 = true := by decide +kernel
theorem dX10_changes_37 : decode cX10_changes 37 = .ok (.istore 5, 2) := dq_get (L := lzddX10_changes_37) 0 rfl zddX10_changes_37 rfl
theorem dX10_changes_39 : decode cX10_changes 39 = .ok (.iconst 0, 1) := dq_get (L := lzddX10_changes_37) 1 rfl zddX10_changes_37 rfl
theorem dX10_changes_40 : decode cX10_changes 40 = .ok (.istore 6, 2) := dq_get (L := lzddX10_changes_37) 2 rfl zddX10_changes_37 rfl
theorem dX10_changes_42 : decode cX10_changes 42 = .ok (.iload 6, 2) := dq_get (L := lzddX10_changes_37) 3 rfl zddX10_changes_37 rfl
theorem dX10_changes_44 : decode cX10_changes 44 = .ok (.aload_n 0, 1) := dq_get (L := lzddX10_changes_37) 4 rfl zddX10_changes_37 rfl
theorem dX10_changes_45 : decode cX10_changes 45 = .ok (.getfield 16, 3) := dq_get (L := lzddX10_changes_37) 5 rfl zddX10_changes_37 rfl
theorem dX10_changes_48 : decode cX10_changes 48 = .ok (.getfield 146, 3) := dq_get (L := lzddX10_changes_37) 6 rfl zddX10_changes_37 rfl
theorem dX10_changes_51 : decode cX10_changes 51 = .ok (.if_icmp .ge 23, 3) := dq_get (L := lzddX10_changes_37) 7 rfl zddX10_changes_37 rfl
theorem dX10_changes_54 : decode cX10_changes 54 = .ok (.iload 5, 2) := dq_get (L := lzddX10_changes_37) 8 rfl zddX10_changes_37 rfl
theorem dX10_changes_56 : decode cX10_changes 56 = .ok (.aload 4, 2) := dq_get (L := lzddX10_changes_37) 9 rfl zddX10_changes_37 rfl
theorem dX10_changes_58 : decode cX10_changes 58 = .ok (.iload 6, 2) := dq_get (L := lzddX10_changes_37) 10 rfl zddX10_changes_37 rfl
theorem dX10_changes_60 : decode cX10_changes 60 = .ok (.iaload, 1) := dq_get (L := lzddX10_changes_37) 11 rfl zddX10_changes_37 rfl
theorem dX10_changes_61 : decode cX10_changes 61 = .ok (.iload_n 1, 1) := dq_get (L := lzddX10_changes_37) 12 rfl zddX10_changes_37 rfl
theorem dX10_changes_62 : decode cX10_changes 62 = .ok (.invokestatic 136, 3) := dq_get (L := lzddX10_changes_37) 13 rfl zddX10_changes_37 rfl
theorem dX10_changes_65 : decode cX10_changes 65 = .ok (.iadd, 1) := dq_get (L := lzddX10_changes_37) 14 rfl zddX10_changes_37 rfl
theorem dX10_changes_66 : decode cX10_changes 66 = .ok (.istore 5, 2) := dq_get (L := lzddX10_changes_37) 15 rfl zddX10_changes_37 rfl
theorem dX10_changes_68 : decode cX10_changes 68 = .ok (.iinc 6 1, 3) := dq_get (L := lzddX10_changes_37) 16 rfl zddX10_changes_37 rfl
theorem dX10_changes_71 : decode cX10_changes 71 = .ok (.goto (-29), 3) := dq_get (L := lzddX10_changes_37) 17 rfl zddX10_changes_37 rfl
theorem dX10_changes_74 : decode cX10_changes 74 = .ok (.aload_n 0, 1) := dq_get (L := lzddX10_changes_37) 18 rfl zddX10_changes_37 rfl
theorem dX10_changes_75 : decode cX10_changes 75 = .ok (.iload 5, 2) := dq_get (L := lzddX10_changes_37) 19 rfl zddX10_changes_37 rfl
def lzddX10_changes_77 : List (Nat × Instr × Nat) := [(77, .invokevirtual 109, 3), (80, .ireturn, 1)]
theorem zddX10_changes_77 : dqW lzddX10_changes_77 (cX10_changes.data.toList.drop 77) 77 = true := by decide +kernel
theorem dX10_changes_77 : decode cX10_changes 77 = .ok (.invokevirtual 109, 3) := dq_get (L := lzddX10_changes_77) 0 rfl zddX10_changes_77 rfl
theorem dX10_changes_80 : decode cX10_changes 80 = .ok (.ireturn, 1) := dq_get (L := lzddX10_changes_77) 1 rfl zddX10_changes_77 rfl
def lzddX10_cheese_0 : List (Nat × Instr × Nat) := [(0, .aload_n 0, 1), (1, .iload_n 1, 1), (2, .invokevirtual 195, 3), (5, .ifCond .ne 9, 3), (8, .aload_n 0, 1), (9, .iconst 1, 1), (10, .invokevirtual 79, 3), (13, .ireturn, 1), (14, .aload_n 0, 1), (15, .invokevirtual 155, 3), (18, .astore_n 3, 1), (19, .iload_n 2, 1)]
theorem zddX10_cheese_0 : dqW lzddX10_cheese_0 (cX10_cheese.data.toList.drop 0) 0 = true := by decide +kernel
theorem dX10_cheese_0 : decode cX10_cheese 0 = .ok (.aload_n 0, 1) := dq_get (L := lzddX10_cheese_0) 0 rfl zddX10_cheese_0 rfl
theorem dX10_cheese_1 : decode cX10_cheese 1 = .ok (.iload_n 1, 1) := dq_get (L := lzddX10_cheese_0) 1 rfl zddX10_cheese_0 rfl
theorem dX10_cheese_2 : decode cX10_cheese 2 = .ok (.invokevirtual 195, 3) := dq_get (L := lzddX10_cheese_0) 2 rfl zddX10_cheese_0 rfl
theorem dX10_cheese_5 : decode cX10_cheese 5 = .ok (.ifCond .ne 9, 3) := dq_get (L := lzddX10_cheese_0) 3 rfl zddX10_cheese_0 rfl
theorem dX10_cheese_8 : decode cX10_cheese 8 = .ok (.aload_n 0, 1) := dq_get (L := lzddX10_cheese_0) 4 rfl zddX10_cheese_0 rfl
theorem dX10_cheese_9 : decode cX10_cheese 9 = .ok (.iconst 1, 1) := dq_get (L := lzddX10_cheese_0) 5 rfl zddX10_cheese_0 rfl
theorem dX10_cheese_10 : decode cX10_cheese 10 = .ok (.invokevirtual 79, 3) := dq_get (L := lzddX10_cheese_0) 6 rfl zddX10_cheese_0 rfl
theorem dX10_cheese_13 : decode cX10_cheese 13 = .ok (.ireturn, 1) := dq_get (L := lzddX10_cheese_0) 7 rfl zddX10_cheese_0 rfl
theorem dX10_cheese_14 : decode cX10_cheese 14 = .ok (.aload_n 0, 1) := dq_get (L := lzddX10_cheese_0) 8 rfl zddX10_cheese_0 rfl
theorem dX10_cheese_15 : decode cX10_cheese 15 = .ok (.invokevirtual 155, 3) := dq_get (L := lzddX10_cheese_0) 9 rfl zddX10_cheese_0 rfl
theorem dX10_cheese_18 : decode cX10_cheese 18 = .ok (.astore_n 3, 1) := dq_get (L := lzddX10_cheese_0) 10 rfl zddX10_cheese_0 rfl
theorem dX10_cheese_19 : decode cX10_cheese 19 = .ok (.iload_n 2, 1) := dq_get (L := lzddX10_cheese_0) 11 rfl zddX10_cheese_0 rfl
theorem dX10_cheese_20 : decode cX10_cheese 20 = .ok (.tableswitch 130 0 6 #[44, 58, 76, 87, 98, 109, 120], 44) := by decide +kernel
def lzddX10_cheese_64 : List (Nat × Instr × Nat) := [(64, .aload_n 0, 1), (65, .aload_n 0, 1), (66, .getfield 16, 3), (69, .getfield 204, 3), (72, .iload_n 1, 1), (73, .iaload, 1), (74, .invokevirtual 109, 3), (77, .ireturn, 1), (78, .aload_n 0, 1), (79, .aload_n 3, 1), (80, .getfield 207, 3), (83, .iload_n 1, 1), (84, .iaload, 1), (85, .aload_n 3, 1), (86, .getfield 210, 3), (89, .iload_n 1, 1), (90, .iaload, 1), (91, .iadd, 1), (92, .invokevirtual 109, 3), (95, .ireturn, 1)]
theorem zddX10_cheese_64 : dqW lzddX10_cheese_64 (cX10_cheese.data.toList.drop 64) 64 = true := by decide +kernel
theorem dX10_cheese_64 : decode cX10_cheese 64 = .ok (.aload_n 0, 1) := dq_get (L := lzddX10_cheese_64) 0 rfl zddX10_cheese_64 rfl
theorem dX10_cheese_65 : decode cX10_cheese 65 = .ok (.aload_n 0, 1) := dq_get (L := lzddX10_cheese_64) 1 rfl zddX10_cheese_64 rfl
theorem dX10_cheese_66 : decode cX10_cheese 66 = .ok (.getfield 16, 3) := dq_get (L := lzddX10_cheese_64) 2 rfl zddX10_cheese_64 rfl
theorem dX10_cheese_69 : decode cX10_cheese 69 = .ok (.getfield 204, 3) := dq_get (L := lzddX10_cheese_64) 3 rfl zddX10_cheese_64 rfl
theorem dX10_cheese_72 : decode cX10_cheese 72 = .ok (.iload_n 1, 1) := dq_get (L := lzddX10_cheese_64) 4 rfl zddX10_cheese_64 rfl
theorem dX10_cheese_73 : decode cX10_cheese 73 = .ok (.iaload, 1) := dq_get (L := lzddX10_cheese_64) 5 rfl zddX10_cheese_64 rfl
theorem dX10_cheese_74 : decode cX10_cheese 74 = .ok (.invokevirtual 109, 3) := dq_get (L := lzddX10_cheese_64) 6 rfl zddX10_cheese_64 rfl
theorem dX10_cheese_77 : decode cX10_cheese 77 = .ok (.ireturn, 1) := dq_get (L := lzddX10_cheese_64) 7 rfl zddX10_cheese_64 rfl
theorem dX10_cheese_78 : decode cX10_cheese 78 = .ok (.aload_n 0, 1) := dq_get (L := lzddX10_cheese_64) 8 rfl zddX10_cheese_64 rfl
theorem dX10_cheese_79 : decode cX10_cheese 79 = .ok (.aload_n 3, 1) := dq_get (L := lzddX10_cheese_64) 9 rfl zddX10_cheese_64 rfl
theorem dX10_cheese_80 : decode cX10_cheese 80 = .ok (.getfield 207, 3) := dq_get (L := lzddX10_cheese_64) 10 rfl zddX10_cheese_64 rfl
theorem dX10_cheese_83 : decode cX10_cheese 83 = .ok (.iload_n 1, 1) := dq_get (L := lzddX10_cheese_64) 11 rfl zddX10_cheese_64 rfl
theorem dX10_cheese_84 : decode cX10_cheese 84 = .ok (.iaload, 1) := dq_get (L := lzddX10_cheese_64) 12 rfl zddX10_cheese_64 rfl
theorem dX10_cheese_85 : decode cX10_cheese 85 = .ok (.aload_n 3, 1) := dq_get (L := lzddX10_cheese_64) 13 rfl zddX10_cheese_64 rfl
theorem dX10_cheese_86 : decode cX10_cheese 86 = .ok (.getfield 210, 3) := dq_get (L := lzddX10_cheese_64) 14 rfl zddX10_cheese_64 rfl
theorem dX10_cheese_89 : decode cX10_cheese 89 = .ok (.iload_n 1, 1) := dq_get (L := lzddX10_cheese_64) 15 rfl zddX10_cheese_64 rfl
theorem dX10_cheese_90 : decode cX10_cheese 90 = .ok (.iaload, 1) := dq_get (L := lzddX10_cheese_64) 16 rfl zddX10_cheese_64 rfl
theorem dX10_cheese_91 : decode cX10_cheese 91 = .ok (.iadd, 1) := dq_get (L := lzddX10_cheese_64) 17 rfl zddX10_cheese_64 rfl
theorem dX10_cheese_92 : decode cX10_cheese 92 = .ok (.invokevirtual 109, 3) := dq_get (L := lzddX10_cheese_64) 18 rfl zddX10_cheese_64 rfl
theorem dX10_cheese_95 : decode cX10_cheese 95 = .ok (.ireturn, 1) := dq_get (L := lzddX10_cheese_64) 19 rfl zddX10_cheese_64 rfl
def lzddX10_cheese_96 : List (Nat × Instr × Nat) := [(96, .aload_n 0, 1), (97, .aload_n 3, 1), (98, .getfield 207, 3), (101, .iload_n 1, 1), (102, .iaload, 1), (103, .invokevirtual 109, 3), (106, .ireturn, 1), (107, .aload_n 0, 1), (108, .aload_n 3, 1), (109, .getfield 213, 3), (112, .iload_n 1, 1), (113, .iaload, 1), (114, .invokevirtual 109, 3), (117, .ireturn, 1), (118, .aload_n 0, 1), (119, .aload_n 3, 1), (120, .getfield 210, 3), (123, .iload_n 1, 1), (124, .iaload, 1), (125, .invokevirtual 109, 3)]
theorem zddX10_cheese_96 : dqW lzddX10_cheese_96 (cX10_cheese.data.toList.drop 96) 96 = true := by decide +kernel
theorem dX10_cheese_96 : decode cX10_cheese 96 = .ok (.aload_n 0, 1) := dq_get (L := lzddX10_cheese_96) 0 rfl zddX10_cheese_96 rfl
theorem dX10_cheese_97 : decode cX10_cheese 97 = .ok (.aload_n 3, 1) := dq_get (L := lzddX10_cheese_96) 1 rfl zddX10_cheese_96 rfl
theorem dX10_cheese_98 : decode cX10_cheese 98 = .ok (.getfield 207, 3) := dq_get (L := lzddX10_cheese_96) 2 rfl zddX10_cheese_96 rfl
theorem dX10_cheese_101 : decode cX10_cheese 101 = .ok (.iload_n 1, 1) := dq_get (L := lzddX10_cheese_96) 3 rfl zddX10_cheese_96 rfl
theorem dX10_cheese_102 : decode cX10_cheese 102 = .ok (.iaload, 1) := dq_get (L := lzddX10_cheese_96) 4 rfl zddX10_cheese_96 rfl
theorem dX10_cheese_103 : decode cX10_cheese 103 = .ok (.invokevirtual 109, 3) := dq_get (L := lzddX10_cheese_96) 5 rfl zddX10_cheese_96 rfl
theorem dX10_cheese_106 : decode cX10_cheese 106 = .ok (.ireturn, 1) := dq_get (L := lzddX10_cheese_96) 6 rfl zddX10_cheese_96 rfl
theorem dX10_cheese_107 : decode cX10_cheese 107 = .ok (.aload_n 0, 1) := dq_get (L := lzddX10_cheese_96) 7 rfl zddX10_cheese_96 rfl
theorem dX10_cheese_108 : decode cX10_cheese 108 = .ok (.aload_n 3, 1) := dq_get (L := lzddX10_cheese_96) 8 rfl zddX10_cheese_96 rfl
theorem dX10_cheese_109 : decode cX10_cheese 109 = .ok (.getfield 213, 3) := dq_get (L := lzddX10_cheese_96) 9 rfl zddX10_cheese_96 rfl
theorem dX10_cheese_112 : decode cX10_cheese 112 = .ok (.iload_n 1, 1) := dq_get (L := lzddX10_cheese_96) 10 rfl zddX10_cheese_96 rfl
theorem dX10_cheese_113 : decode cX10_cheese 113 = .ok (.iaload, 1) := dq_get (L := lzddX10_cheese_96) 11 rfl zddX10_cheese_96 rfl
theorem dX10_cheese_114 : decode cX10_cheese 114 = .ok (.invokevirtual 109, 3) := dq_get (L := lzddX10_cheese_96) 12 rfl zddX10_cheese_96 rfl
theorem dX10_cheese_117 : decode cX10_cheese 117 = .ok (.ireturn, 1) := dq_get (L := lzddX10_cheese_96) 13 rfl zddX10_cheese_96 rfl
theorem dX10_cheese_118 : decode cX10_cheese 118 = .ok (.aload_n 0, 1) := dq_get (L := lzddX10_cheese_96) 14 rfl zddX10_cheese_96 rfl
theorem dX10_cheese_119 : decode cX10_cheese 119 = .ok (.aload_n 3, 1) := dq_get (L := lzddX10_cheese_96) 15 rfl zddX10_cheese_96 rfl
theorem dX10_cheese_120 : decode cX10_cheese 120 = .ok (.getfield 210, 3) := dq_get (L := lzddX10_cheese_96) 16 rfl zddX10_cheese_96 rfl
theorem dX10_cheese_123 : decode cX10_cheese 123 = .ok (.iload_n 1, 1) := dq_get (L := lzddX10_cheese_96) 17 rfl zddX10_cheese_96 rfl
theorem dX10_cheese_124 : decode cX10_cheese 124 = .ok (.iaload, 1) := dq_get (L := lzddX10_cheese_96) 18 rfl zddX10_cheese_96 rfl
theorem dX10_cheese_125 : decode cX10_cheese 125 = .ok (.invokevirtual 109, 3) := dq_get (L := lzddX10_cheese_96) 19 rfl zddX10_cheese_96 rfl
def lzddX10_cheese_128 : List (Nat × Instr × Nat) := [(128, .ireturn, 1), (129, .aload_n 0, 1), (130, .aload_n 3, 1), (131, .getfield 216, 3), (134, .iload_n 1, 1), (135, .iaload, 1), (136, .invokevirtual 109, 3), (139, .ireturn, 1), (140, .aload_n 0, 1), (141, .aload_n 3, 1), (142, .iload_n 1, 1), (143, .invokevirtual 219, 3), (146, .invokevirtual 109, 3), (149, .ireturn, 1), (150, .aload_n 0, 1), (151, .iconst 1, 1), (152, .invokevirtual 79, 3), (155, .ireturn, 1)]
theorem zddX10_cheese_128 : dqW lzddX10_cheese_128 (cX10_cheese.data.toList.drop 128) 128 = true := by decide +kernel
theorem dX10_cheese_128 : decode cX10_cheese 128 = .ok (.ireturn, 1) := dq_get (L := lzddX10_cheese_128) 0 rfl zddX10_cheese_128 rfl
theorem dX10_cheese_129 : decode cX10_cheese 129 = .ok (.aload_n 0, 1) := dq_get (L := lzddX10_cheese_128) 1 rfl zddX10_cheese_128 rfl
theorem dX10_cheese_130 : decode cX10_cheese 130 = .ok (.aload_n 3, 1) := dq_get (L := lzddX10_cheese_128) 2 rfl zddX10_cheese_128 rfl
theorem dX10_cheese_131 : decode cX10_cheese 131 = .ok (.getfield 216, 3) := dq_get (L := lzddX10_cheese_128) 3 rfl zddX10_cheese_128 rfl
theorem dX10_cheese_134 : decode cX10_cheese 134 = .ok (.iload_n 1, 1) := dq_get (L := lzddX10_cheese_128) 4 rfl zddX10_cheese_128 rfl
theorem dX10_cheese_135 : decode cX10_cheese 135 = .ok (.iaload, 1) := dq_get (L := lzddX10_cheese_128) 5 rfl zddX10_cheese_128 rfl
theorem dX10_cheese_136 : decode cX10_cheese 136 = .ok (.invokevirtual 109, 3) := dq_get (L := lzddX10_cheese_128) 6 rfl zddX10_cheese_128 rfl
theorem dX10_cheese_139 : decode cX10_cheese 139 = .ok (.ireturn, 1) := dq_get (L := lzddX10_cheese_128) 7 rfl zddX10_cheese_128 rfl
theorem dX10_cheese_140 : decode cX10_cheese 140 = .ok (.aload_n 0, 1) := dq_get (L := lzddX10_cheese_128) 8 rfl zddX10_cheese_128 rfl
theorem dX10_cheese_141 : decode cX10_cheese 141 = .ok (.aload_n 3, 1) := dq_get (L := lzddX10_cheese_128) 9 rfl zddX10_cheese_128 rfl
theorem dX10_cheese_142 : decode cX10_cheese 142 = .ok (.iload_n 1, 1) := dq_get (L := lzddX10_cheese_128) 10 rfl zddX10_cheese_128 rfl
theorem dX10_cheese_143 : decode cX10_cheese 143 = .ok (.invokevirtual 219, 3) := dq_get (L := lzddX10_cheese_128) 11 rfl zddX10_cheese_128 rfl
theorem dX10_cheese_146 : decode cX10_cheese 146 = .ok (.invokevirtual 109, 3) := dq_get (L := lzddX10_cheese_128) 12 rfl zddX10_cheese_128 rfl
theorem dX10_cheese_149 : decode cX10_cheese 149 = .ok (.ireturn, 1) := dq_get (L := lzddX10_cheese_128) 13 rfl zddX10_cheese_128 rfl
theorem dX10_cheese_150 : decode cX10_cheese 150 = .ok (.aload_n 0, 1) := dq_get (L := lzddX10_cheese_128) 14 rfl zddX10_cheese_128 rfl
theorem dX10_cheese_151 : decode cX10_cheese 151 = .ok (.iconst 1, 1) := dq_get (L := lzddX10_cheese_128) 15 rfl zddX10_cheese_128 rfl
theorem dX10_cheese_152 : decode cX10_cheese 152 = .ok (.invokevirtual 79, 3) := dq_get (L := lzddX10_cheese_128) 16 rfl zddX10_cheese_128 rfl
theorem dX10_cheese_155 : decode cX10_cheese 155 = .ok (.ireturn, 1) := dq_get (L := lzddX10_cheese_128) 17 rfl zddX10_cheese_128 rfl
def lzddX10_cloud_0 : List (Nat × Instr × Nat) := [(0, .aload_n 0, 1), (1, .getfield 95, 3), (4, .ifCond .ne 9, 3), (7, .aload_n 0, 1), (8, .iconst 1, 1), (9, .invokevirtual 281, 3), (12, .ireturn, 1), (13, .aload_n 0, 1), (14, .iload_n 1, 1), (15, .invokevirtual 115, 3), (18, .ifCond .eq 19, 3), (21, .iload_n 2, 1), (22, .iload_n 1, 1), (23, .if_icmp .le 14, 3), (26, .iload_n 2, 1), (27, .aload_n 0, 1), (28, .getfield 16, 3), (31, .getfield 146, 3), (34, .if_icmp .le 9, 3), (37, .aload_n 0, 1)]
theorem zddX10_cloud_0 : dqW lzddX10_cloud_0 (cX10_cloud.data.toList.drop 0) 0 = true := by decide +kernel
theorem dX10_cloud_0 : decode cX10_cloud 0 = .ok (.aload_n 0, 1) := dq_get (L := lzddX10_cloud_0) 0 rfl zddX10_cloud_0 rfl
theorem dX10_cloud_1 : decode cX10_cloud 1 = .ok (.getfield 95, 3) := dq_get (L := lzddX10_cloud_0) 1 rfl zddX10_cloud_0 rfl
theorem dX10_cloud_4 : decode cX10_cloud 4 = .ok (.ifCond .ne 9, 3) := dq_get (L := lzddX10_cloud_0) 2 rfl zddX10_cloud_0 rfl
theorem dX10_cloud_7 : decode cX10_cloud 7 = .ok (.aload_n 0, 1) := dq_get (L := lzddX10_cloud_0) 3 rfl zddX10_cloud_0 rfl
theorem dX10_cloud_8 : decode cX10_cloud 8 = .ok (.iconst 1, 1) := dq_get (L := lzddX10_cloud_0) 4 rfl zddX10_cloud_0 rfl
theorem dX10_cloud_9 : decode cX10_cloud 9 = .ok (.invokevirtual 281, 3) := dq_get (L := lzddX10_cloud_0) 5 rfl zddX10_cloud_0 rfl
theorem dX10_cloud_12 : decode cX10_cloud 12 = .ok (.ireturn, 1) := dq_get (L := lzddX10_cloud_0) 6 rfl zddX10_cloud_0 rfl
theorem dX10_cloud_13 : decode cX10_cloud 13 = .ok (.aload_n 0, 1) := dq_get (L := lzddX10_cloud_0) 7 rfl zddX10_cloud_0 rfl
theorem dX10_cloud_14 : decode cX10_cloud 14 = .ok (.iload_n 1, 1) := dq_get (L := lzddX10_cloud_0) 8 rfl zddX10_cloud_0 rfl
theorem dX10_cloud_15 : decode cX10_cloud 15 = .ok (.invokevirtual 115, 3) := dq_get (L := lzddX10_cloud_0) 9 rfl zddX10_cloud_0 rfl
theorem dX10_cloud_18 : decode cX10_cloud 18 = .ok (.ifCond .eq 19, 3) := dq_get (L := lzddX10_cloud_0) 10 rfl zddX10_cloud_0 rfl
theorem dX10_cloud_21 : decode cX10_cloud 21 = .ok (.iload_n 2, 1) := dq_get (L := lzddX10_cloud_0) 11 rfl zddX10_cloud_0 rfl
theorem dX10_cloud_22 : decode cX10_cloud 22 = .ok (.iload_n 1, 1) := dq_get (L := lzddX10_cloud_0) 12 rfl zddX10_cloud_0 rfl
theorem dX10_cloud_23 : decode cX10_cloud 23 = .ok (.if_icmp .le 14, 3) := dq_get (L := lzddX10_cloud_0) 13 rfl zddX10_cloud_0 rfl
theorem dX10_cloud_26 : decode cX10_cloud 26 = .ok (.iload_n 2, 1) := dq_get (L := lzddX10_cloud_0) 14 rfl zddX10_cloud_0 rfl
theorem dX10_cloud_27 : decode cX10_cloud 27 = .ok (.aload_n 0, 1) := dq_get (L := lzddX10_cloud_0) 15 rfl zddX10_cloud_0 rfl
theorem dX10_cloud_28 : decode cX10_cloud 28 = .ok (.getfield 16, 3) := dq_get (L := lzddX10_cloud_0) 16 rfl zddX10_cloud_0 rfl
theorem dX10_cloud_31 : decode cX10_cloud 31 = .ok (.getfield 146, 3) := dq_get (L := lzddX10_cloud_0) 17 rfl zddX10_cloud_0 rfl
theorem dX10_cloud_34 : decode cX10_cloud 34 = .ok (.if_icmp .le 9, 3) := dq_get (L := lzddX10_cloud_0) 18 rfl zddX10_cloud_0 rfl
theorem dX10_cloud_37 : decode cX10_cloud 37 = .ok (.aload_n 0, 1) := dq_get (L := lzddX10_cloud_0) 19 rfl zddX10_cloud_0 rfl
def lzddX10_cloud_38 : List (Nat × Instr × Nat) := [(38, .iconst 2, 1), (39, .invokevirtual 281, 3), (42, .ireturn, 1), (43, .aload_n 0, 1), (44, .getfield 35, 3), (47, .getfield 272, 3), (50, .bipush 6, 2), (52, .if_icmp .lt 9, 3), (55, .aload_n 0, 1), (56, .iconst 3, 1), (57, .invokevirtual 281, 3), (60, .ireturn, 1), (61, .aload_n 0, 1), (62, .getfield 42, 3), (65, .aload_n 0, 1), (66, .getfield 35, 3), (69, .invokevirtual 284, 3), (72, .aload_n 0, 1), (73, .getfield 35, 3), (76, .iload_n 1, 1)]
theorem zddX10_cloud_38 : dqW lzddX10_cloud_38 (cX10_cloud.data.toList.drop 38) 38 = true := by decide +kernel
theorem dX10_cloud_38 : decode cX10_cloud 38 = .ok (.iconst 2, 1) := dq_get (L := lzddX10_cloud_38) 0 rfl zddX10_cloud_38 rfl
theorem dX10_cloud_39 : decode cX10_cloud 39 = .ok (.invokevirtual 281, 3) := dq_get (L := lzddX10_cloud_38) 1 rfl zddX10_cloud_38 rfl
theorem dX10_cloud_42 : decode cX10_cloud 42 = .ok (.ireturn, 1) := dq_get (L := lzddX10_cloud_38) 2 rfl zddX10_cloud_38 rfl
theorem dX10_cloud_43 : decode cX10_cloud 43 = .ok (.aload_n 0, 1) := dq_get (L := lzddX10_cloud_38) 3 rfl zddX10_cloud_38 rfl
theorem dX10_cloud_44 : decode cX10_cloud 44 = .ok (.getfield 35, 3) := dq_get (L := lzddX10_cloud_38) 4 rfl zddX10_cloud_38 rfl
theorem dX10_cloud_47 : decode cX10_cloud 47 = .ok (.getfield 272, 3) := dq_get (L := lzddX10_cloud_38) 5 rfl zddX10_cloud_38 rfl
theorem dX10_cloud_50 : decode cX10_cloud 50 = .ok (.bipush 6, 2) := dq_get (L := lzddX10_cloud_38) 6 rfl zddX10_cloud_38 rfl
theorem dX10_cloud_52 : decode cX10_cloud 52 = .ok (.if_icmp .lt 9, 3) := dq_get (L := lzddX10_cloud_38) 7 rfl zddX10_cloud_38 rfl
theorem dX10_cloud_55 : decode cX10_cloud 55 = .ok (.aload_n 0, 1) := dq_get (L := lzddX10_cloud_38) 8 rfl zddX10_cloud_38 rfl
theorem dX10_cloud_56 : decode cX10_cloud 56 = .ok (.iconst 3, 1) := dq_get (L := lzddX10_cloud_38) 9 rfl zddX10_cloud_38 rfl
theorem dX10_cloud_57 : decode cX10_cloud 57 = .ok (.invokevirtual 281, 3) := dq_get (L := lzddX10_cloud_38) 10 rfl zddX10_cloud_38 rfl
theorem dX10_cloud_60 : decode cX10_cloud 60 = .ok (.ireturn, 1) := dq_get (L := lzddX10_cloud_38) 11 rfl zddX10_cloud_38 rfl
theorem dX10_cloud_61 : decode cX10_cloud 61 = .ok (.aload_n 0, 1) := dq_get (L := lzddX10_cloud_38) 12 rfl zddX10_cloud_38 rfl
theorem dX10_cloud_62 : decode cX10_cloud 62 = .ok (.getfield 42, 3) := dq_get (L := lzddX10_cloud_38) 13 rfl zddX10_cloud_38 rfl
theorem dX10_cloud_65 : decode cX10_cloud 65 = .ok (.aload_n 0, 1) := dq_get (L := lzddX10_cloud_38) 14 rfl zddX10_cloud_38 rfl
theorem dX10_cloud_66 : decode cX10_cloud 66 = .ok (.getfield 35, 3) := dq_get (L := lzddX10_cloud_38) 15 rfl zddX10_cloud_38 rfl
theorem dX10_cloud_69 : decode cX10_cloud 69 = .ok (.invokevirtual 284, 3) := dq_get (L := lzddX10_cloud_38) 16 rfl zddX10_cloud_38 rfl
theorem dX10_cloud_72 : decode cX10_cloud 72 = .ok (.aload_n 0, 1) := dq_get (L := lzddX10_cloud_38) 17 rfl zddX10_cloud_38 rfl
theorem dX10_cloud_73 : decode cX10_cloud 73 = .ok (.getfield 35, 3) := dq_get (L := lzddX10_cloud_38) 18 rfl zddX10_cloud_38 rfl
theorem dX10_cloud_76 : decode cX10_cloud 76 = .ok (.iload_n 1, 1) := dq_get (L := lzddX10_cloud_38) 19 rfl zddX10_cloud_38 rfl
def lzddX10_cloud_77 : List (Nat × Instr × Nat) := [(77, .iload_n 2, 1), (78, .invokevirtual 295, 3), (81, .aload_n 0, 1), (82, .invokevirtual 103, 3), (85, .aload_n 0, 1), (86, .invokevirtual 291, 3), (89, .ireturn, 1)]
theorem zddX10_cloud_77 : dqW lzddX10_cloud_77 (cX10_cloud.data.toList.drop 77) 77 = true := by decide +kernel
theorem dX10_cloud_77 : decode cX10_cloud 77 = .ok (.iload_n 2, 1) := dq_get (L := lzddX10_cloud_77) 0 rfl zddX10_cloud_77 rfl
theorem dX10_cloud_78 : decode cX10_cloud 78 = .ok (.invokevirtual 295, 3) := dq_get (L := lzddX10_cloud_77) 1 rfl zddX10_cloud_77 rfl
theorem dX10_cloud_81 : decode cX10_cloud 81 = .ok (.aload_n 0, 1) := dq_get (L := lzddX10_cloud_77) 2 rfl zddX10_cloud_77 rfl
theorem dX10_cloud_82 : decode cX10_cloud 82 = .ok (.invokevirtual 103, 3) := dq_get (L := lzddX10_cloud_77) 3 rfl zddX10_cloud_77 rfl
theorem dX10_cloud_85 : decode cX10_cloud 85 = .ok (.aload_n 0, 1) := dq_get (L := lzddX10_cloud_77) 4 rfl zddX10_cloud_77 rfl
theorem dX10_cloud_86 : decode cX10_cloud 86 = .ok (.invokevirtual 291, 3) := dq_get (L := lzddX10_cloud_77) 5 rfl zddX10_cloud_77 rfl
theorem dX10_cloud_89 : decode cX10_cloud 89 = .ok (.ireturn, 1) := dq_get (L := lzddX10_cloud_77) 6 rfl zddX10_cloud_77 rfl
def lzddX10_cloudsMoved_0 : List (Nat × Instr × Nat) := [(0, .aload_n 0, 1), (1, .iconst 0, 1), (2, .putfield 358, 3), (5, .aload_n 0, 1), (6, .iconst 0, 1), (7, .putfield 288, 3), (10, .return_, 1)]
theorem zddX10_cloudsMoved_0 : dqW lzddX10_cloudsMoved_0 (cX10_cloudsMoved.data.toList.drop 0) 0 = true := by decide +kernel
theorem dX10_cloudsMoved_0 : decode cX10_cloudsMoved 0 = .ok (.aload_n 0, 1) := dq_get (L := lzddX10_cloudsMoved_0) 0 rfl zddX10_cloudsMoved_0 rfl
theorem dX10_cloudsMoved_1 : decode cX10_cloudsMoved 1 = .ok (.iconst 0, 1) := dq_get (L := lzddX10_cloudsMoved_0) 1 rfl zddX10_cloudsMoved_0 rfl
theorem dX10_cloudsMoved_2 : decode cX10_cloudsMoved 2 = .ok (.putfield 358, 3) := dq_get (L := lzddX10_cloudsMoved_0) 2 rfl zddX10_cloudsMoved_0 rfl
theorem dX10_cloudsMoved_5 : decode cX10_cloudsMoved 5 = .ok (.aload_n 0, 1) := dq_get (L := lzddX10_cloudsMoved_0) 3 rfl zddX10_cloudsMoved_0 rfl
theorem dX10_cloudsMoved_6 : decode cX10_cloudsMoved 6 = .ok (.iconst 0, 1) := dq_get (L := lzddX10_cloudsMoved_0) 4 rfl zddX10_cloudsMoved_0 rfl
theorem dX10_cloudsMoved_7 : decode cX10_cloudsMoved 7 = .ok (.putfield 288, 3) := dq_get (L := lzddX10_cloudsMoved_0) 5 rfl zddX10_cloudsMoved_0 rfl
theorem dX10_cloudsMoved_10 : decode cX10_cloudsMoved 10 = .ok (.return_, 1) := dq_get (L := lzddX10_cloudsMoved_0) 6 rfl zddX10_cloudsMoved_0 rfl
def lzddX10_draw_0 : List (Nat × Instr × Nat) := [(0, .aload_n 0, 1), (1, .getfield 95, 3), (4, .ifCond .ne 9, 3), (7, .aload_n 0, 1), (8, .iconst 1, 1), (9, .invokevirtual 79, 3), (12, .ireturn, 1), (13, .aload_n 0, 1), (14, .getfield 35, 3), (17, .getfield 272, 3), (20, .bipush 6, 2), (22, .if_icmp .lt 9, 3), (25, .aload_n 0, 1), (26, .iconst 3, 1), (27, .invokevirtual 79, 3), (30, .ireturn, 1), (31, .aload_n 0, 1), (32, .getfield 42, 3), (35, .aload_n 0, 1), (36, .getfield 35, 3)]
theorem zddX10_draw_0 : dqW lzddX10_draw_0 (cX10_draw.data.toList.drop 0) 0 = true := by decide +kernel
theorem dX10_draw_0 : decode cX10_draw 0 = .ok (.aload_n 0, 1) := dq_get (L := lzddX10_draw_0) 0 rfl zddX10_draw_0 rfl
theorem dX10_draw_1 : decode cX10_draw 1 = .ok (.getfield 95, 3) := dq_get (L := lzddX10_draw_0) 1 rfl zddX10_draw_0 rfl
theorem dX10_draw_4 : decode cX10_draw 4 = .ok (.ifCond .ne 9, 3) := dq_get (L := lzddX10_draw_0) 2 rfl zddX10_draw_0 rfl
theorem dX10_draw_7 : decode cX10_draw 7 = .ok (.aload_n 0, 1) := dq_get (L := lzddX10_draw_0) 3 rfl zddX10_draw_0 rfl
theorem dX10_draw_8 : decode cX10_draw 8 = .ok (.iconst 1, 1) := dq_get (L := lzddX10_draw_0) 4 rfl zddX10_draw_0 rfl
theorem dX10_draw_9 : decode cX10_draw 9 = .ok (.invokevirtual 79, 3) := dq_get (L := lzddX10_draw_0) 5 rfl zddX10_draw_0 rfl
theorem dX10_draw_12 : decode cX10_draw 12 = .ok (.ireturn, 1) := dq_get (L := lzddX10_draw_0) 6 rfl zddX10_draw_0 rfl
theorem dX10_draw_13 : decode cX10_draw 13 = .ok (.aload_n 0, 1) := dq_get (L := lzddX10_draw_0) 7 rfl zddX10_draw_0 rfl
theorem dX10_draw_14 : decode cX10_draw 14 = .ok (.getfield 35, 3) := dq_get (L := lzddX10_draw_0) 8 rfl zddX10_draw_0 rfl
theorem dX10_draw_17 : decode cX10_draw 17 = .ok (.getfield 272, 3) := dq_get (L := lzddX10_draw_0) 9 rfl zddX10_draw_0 rfl
theorem dX10_draw_20 : decode cX10_draw 20 = .ok (.bipush 6, 2) := dq_get (L := lzddX10_draw_0) 10 rfl zddX10_draw_0 rfl
theorem dX10_draw_22 : decode cX10_draw 22 = .ok (.if_icmp .lt 9, 3) := dq_get (L := lzddX10_draw_0) 11 rfl zddX10_draw_0 rfl
theorem dX10_draw_25 : decode cX10_draw 25 = .ok (.aload_n 0, 1) := dq_get (L := lzddX10_draw_0) 12 rfl zddX10_draw_0 rfl
theorem dX10_draw_26 : decode cX10_draw 26 = .ok (.iconst 3, 1) := dq_get (L := lzddX10_draw_0) 13 rfl zddX10_draw_0 rfl
theorem dX10_draw_27 : decode cX10_draw 27 = .ok (.invokevirtual 79, 3) := dq_get (L := lzddX10_draw_0) 14 rfl zddX10_draw_0 rfl
theorem dX10_draw_30 : decode cX10_draw 30 = .ok (.ireturn, 1) := dq_get (L := lzddX10_draw_0) 15 rfl zddX10_draw_0 rfl
theorem dX10_draw_31 : decode cX10_draw 31 = .ok (.aload_n 0, 1) := dq_get (L := lzddX10_draw_0) 16 rfl zddX10_draw_0 rfl
theorem dX10_draw_32 : decode cX10_draw 32 = .ok (.getfield 42, 3) := dq_get (L := lzddX10_draw_0) 17 rfl zddX10_draw_0 rfl
theorem dX10_draw_35 : decode cX10_draw 35 = .ok (.aload_n 0, 1) := dq_get (L := lzddX10_draw_0) 18 rfl zddX10_draw_0 rfl
theorem dX10_draw_36 : decode cX10_draw 36 = .ok (.getfield 35, 3) := dq_get (L := lzddX10_draw_0) 19 rfl zddX10_draw_0 rfl
def lzddX10_draw_39 : List (Nat × Instr × Nat) := [(39, .invokevirtual 284, 3), (42, .aload_n 0, 1), (43, .getfield 35, 3), (46, .aload_n 0, 1), (47, .getfield 16, 3), (50, .getfield 146, 3), (53, .invokevirtual 275, 3), (56, .istore_n 1, 1), (57, .aload_n 0, 1), (58, .invokevirtual 103, 3), (61, .aload_n 0, 1), (62, .iload_n 1, 1), (63, .invokevirtual 109, 3), (66, .ireturn, 1)]
theorem zddX10_draw_39 : dqW lzddX10_draw_39 (cX10_draw.data.toList.drop 39) 39 = true := by decide +kernel
theorem dX10_draw_39 : decode cX10_draw 39 = .ok (.invokevirtual 284, 3) := dq_get (L := lzddX10_draw_39) 0 rfl zddX10_draw_39 rfl
theorem dX10_draw_42 : decode cX10_draw 42 = .ok (.aload_n 0, 1) := dq_get (L := lzddX10_draw_39) 1 rfl zddX10_draw_39 rfl
theorem dX10_draw_43 : decode cX10_draw 43 = .ok (.getfield 35, 3) := dq_get (L := lzddX10_draw_39) 2 rfl zddX10_draw_39 rfl
theorem dX10_draw_46 : decode cX10_draw 46 = .ok (.aload_n 0, 1) := dq_get (L := lzddX10_draw_39) 3 rfl zddX10_draw_39 rfl
theorem dX10_draw_47 : decode cX10_draw 47 = .ok (.getfield 16, 3) := dq_get (L := lzddX10_draw_39) 4 rfl zddX10_draw_39 rfl
theorem dX10_draw_50 : decode cX10_draw 50 = .ok (.getfield 146, 3) := dq_get (L := lzddX10_draw_39) 5 rfl zddX10_draw_39 rfl
theorem dX10_draw_53 : decode cX10_draw 53 = .ok (.invokevirtual 275, 3) := dq_get (L := lzddX10_draw_39) 6 rfl zddX10_draw_39 rfl
theorem dX10_draw_56 : decode cX10_draw 56 = .ok (.istore_n 1, 1) := dq_get (L := lzddX10_draw_39) 7 rfl zddX10_draw_39 rfl
theorem dX10_draw_57 : decode cX10_draw 57 = .ok (.aload_n 0, 1) := dq_get (L := lzddX10_draw_39) 8 rfl zddX10_draw_39 rfl
theorem dX10_draw_58 : decode cX10_draw 58 = .ok (.invokevirtual 103, 3) := dq_get (L := lzddX10_draw_39) 9 rfl zddX10_draw_39 rfl
theorem dX10_draw_61 : decode cX10_draw 61 = .ok (.aload_n 0, 1) := dq_get (L := lzddX10_draw_39) 10 rfl zddX10_draw_39 rfl
theorem dX10_draw_62 : decode cX10_draw 62 = .ok (.iload_n 1, 1) := dq_get (L := lzddX10_draw_39) 11 rfl zddX10_draw_39 rfl
theorem dX10_draw_63 : decode cX10_draw 63 = .ok (.invokevirtual 109, 3) := dq_get (L := lzddX10_draw_39) 12 rfl zddX10_draw_39 rfl
theorem dX10_draw_66 : decode cX10_draw 66 = .ok (.ireturn, 1) := dq_get (L := lzddX10_draw_39) 13 rfl zddX10_draw_39 rfl
def lzddX10_due_0 : List (Nat × Instr × Nat) := [(0, .aload_n 0, 1), (1, .getfield 95, 3), (4, .ifCond .ne 9, 3), (7, .aload_n 0, 1), (8, .iconst 1, 1), (9, .invokevirtual 79, 3), (12, .ireturn, 1), (13, .aload_n 0, 1), (14, .iload_n 1, 1), (15, .invokevirtual 115, 3), (18, .ifCond .ne 9, 3), (21, .aload_n 0, 1), (22, .iconst 2, 1), (23, .invokevirtual 79, 3), (26, .ireturn, 1), (27, .aload_n 0, 1), (28, .aload_n 0, 1), (29, .getfield 16, 3), (32, .aload_n 0, 1), (33, .invokevirtual 119, 3)]
theorem zddX10_due_0 : dqW lzddX10_due_0 (cX10_due.data.toList.drop 0) 0 = true := by decide +kernel
theorem dX10_due_0 : decode cX10_due 0 = .ok (.aload_n 0, 1) := dq_get (L := lzddX10_due_0) 0 rfl zddX10_due_0 rfl
theorem dX10_due_1 : decode cX10_due 1 = .ok (.getfield 95, 3) := dq_get (L := lzddX10_due_0) 1 rfl zddX10_due_0 rfl
theorem dX10_due_4 : decode cX10_due 4 = .ok (.ifCond .ne 9, 3) := dq_get (L := lzddX10_due_0) 2 rfl zddX10_due_0 rfl
theorem dX10_due_7 : decode cX10_due 7 = .ok (.aload_n 0, 1) := dq_get (L := lzddX10_due_0) 3 rfl zddX10_due_0 rfl
theorem dX10_due_8 : decode cX10_due 8 = .ok (.iconst 1, 1) := dq_get (L := lzddX10_due_0) 4 rfl zddX10_due_0 rfl
theorem dX10_due_9 : decode cX10_due 9 = .ok (.invokevirtual 79, 3) := dq_get (L := lzddX10_due_0) 5 rfl zddX10_due_0 rfl
theorem dX10_due_12 : decode cX10_due 12 = .ok (.ireturn, 1) := dq_get (L := lzddX10_due_0) 6 rfl zddX10_due_0 rfl
theorem dX10_due_13 : decode cX10_due 13 = .ok (.aload_n 0, 1) := dq_get (L := lzddX10_due_0) 7 rfl zddX10_due_0 rfl
theorem dX10_due_14 : decode cX10_due 14 = .ok (.iload_n 1, 1) := dq_get (L := lzddX10_due_0) 8 rfl zddX10_due_0 rfl
theorem dX10_due_15 : decode cX10_due 15 = .ok (.invokevirtual 115, 3) := dq_get (L := lzddX10_due_0) 9 rfl zddX10_due_0 rfl
theorem dX10_due_18 : decode cX10_due 18 = .ok (.ifCond .ne 9, 3) := dq_get (L := lzddX10_due_0) 10 rfl zddX10_due_0 rfl
theorem dX10_due_21 : decode cX10_due 21 = .ok (.aload_n 0, 1) := dq_get (L := lzddX10_due_0) 11 rfl zddX10_due_0 rfl
theorem dX10_due_22 : decode cX10_due 22 = .ok (.iconst 2, 1) := dq_get (L := lzddX10_due_0) 12 rfl zddX10_due_0 rfl
theorem dX10_due_23 : decode cX10_due 23 = .ok (.invokevirtual 79, 3) := dq_get (L := lzddX10_due_0) 13 rfl zddX10_due_0 rfl
theorem dX10_due_26 : decode cX10_due 26 = .ok (.ireturn, 1) := dq_get (L := lzddX10_due_0) 14 rfl zddX10_due_0 rfl
theorem dX10_due_27 : decode cX10_due 27 = .ok (.aload_n 0, 1) := dq_get (L := lzddX10_due_0) 15 rfl zddX10_due_0 rfl
theorem dX10_due_28 : decode cX10_due 28 = .ok (.aload_n 0, 1) := dq_get (L := lzddX10_due_0) 16 rfl zddX10_due_0 rfl
theorem dX10_due_29 : decode cX10_due 29 = .ok (.getfield 16, 3) := dq_get (L := lzddX10_due_0) 17 rfl zddX10_due_0 rfl
theorem dX10_due_32 : decode cX10_due 32 = .ok (.aload_n 0, 1) := dq_get (L := lzddX10_due_0) 18 rfl zddX10_due_0 rfl
theorem dX10_due_33 : decode cX10_due 33 = .ok (.invokevirtual 119, 3) := dq_get (L := lzddX10_due_0) 19 rfl zddX10_due_0 rfl
def lzddX10_due_36 : List (Nat × Instr × Nat) := [(36, .getfield 143, 3), (39, .iload_n 1, 1), (40, .iaload, 1), (41, .invokevirtual 149, 3), (44, .invokevirtual 109, 3), (47, .ireturn, 1)]
theorem zddX10_due_36 : dqW lzddX10_due_36 (cX10_due.data.toList.drop 36) 36 = true := by decide +kernel
theorem dX10_due_36 : decode cX10_due 36 = .ok (.getfield 143, 3) := dq_get (L := lzddX10_due_36) 0 rfl zddX10_due_36 rfl
theorem dX10_due_39 : decode cX10_due 39 = .ok (.iload_n 1, 1) := dq_get (L := lzddX10_due_36) 1 rfl zddX10_due_36 rfl
theorem dX10_due_40 : decode cX10_due 40 = .ok (.iaload, 1) := dq_get (L := lzddX10_due_36) 2 rfl zddX10_due_36 rfl
theorem dX10_due_41 : decode cX10_due 41 = .ok (.invokevirtual 149, 3) := dq_get (L := lzddX10_due_36) 3 rfl zddX10_due_36 rfl
theorem dX10_due_44 : decode cX10_due 44 = .ok (.invokevirtual 109, 3) := dq_get (L := lzddX10_due_36) 4 rfl zddX10_due_36 rfl
theorem dX10_due_47 : decode cX10_due 47 = .ok (.ireturn, 1) := dq_get (L := lzddX10_due_36) 5 rfl zddX10_due_36 rfl
def lzddX10_event_0 : List (Nat × Instr × Nat) := [(0, .aload_n 0, 1), (1, .iload_n 1, 1), (2, .invokevirtual 234, 3), (5, .ifCond .ne 9, 3), (8, .aload_n 0, 1), (9, .iconst 1, 1), (10, .invokevirtual 79, 3), (13, .ireturn, 1), (14, .iload_n 1, 1), (15, .aload_n 0, 1), (16, .getfield 16, 3), (19, .getfield 311, 3), (22, .if_icmp .ge 7, 3), (25, .iconst 1, 1), (26, .goto 4, 3), (29, .iconst 0, 1), (30, .istore_n 3, 1), (31, .iload_n 2, 1)]
theorem zddX10_event_0 : dqW lzddX10_event_0 (cX10_event.data.toList.drop 0) 0 = true := by decide +kernel
theorem dX10_event_0 : decode cX10_event 0 = .ok (.aload_n 0, 1) := dq_get (L := lzddX10_event_0) 0 rfl zddX10_event_0 rfl
theorem dX10_event_1 : decode cX10_event 1 = .ok (.iload_n 1, 1) := dq_get (L := lzddX10_event_0) 1 rfl zddX10_event_0 rfl
theorem dX10_event_2 : decode cX10_event 2 = .ok (.invokevirtual 234, 3) := dq_get (L := lzddX10_event_0) 2 rfl zddX10_event_0 rfl
theorem dX10_event_5 : decode cX10_event 5 = .ok (.ifCond .ne 9, 3) := dq_get (L := lzddX10_event_0) 3 rfl zddX10_event_0 rfl
theorem dX10_event_8 : decode cX10_event 8 = .ok (.aload_n 0, 1) := dq_get (L := lzddX10_event_0) 4 rfl zddX10_event_0 rfl
theorem dX10_event_9 : decode cX10_event 9 = .ok (.iconst 1, 1) := dq_get (L := lzddX10_event_0) 5 rfl zddX10_event_0 rfl
theorem dX10_event_10 : decode cX10_event 10 = .ok (.invokevirtual 79, 3) := dq_get (L := lzddX10_event_0) 6 rfl zddX10_event_0 rfl
theorem dX10_event_13 : decode cX10_event 13 = .ok (.ireturn, 1) := dq_get (L := lzddX10_event_0) 7 rfl zddX10_event_0 rfl
theorem dX10_event_14 : decode cX10_event 14 = .ok (.iload_n 1, 1) := dq_get (L := lzddX10_event_0) 8 rfl zddX10_event_0 rfl
theorem dX10_event_15 : decode cX10_event 15 = .ok (.aload_n 0, 1) := dq_get (L := lzddX10_event_0) 9 rfl zddX10_event_0 rfl
theorem dX10_event_16 : decode cX10_event 16 = .ok (.getfield 16, 3) := dq_get (L := lzddX10_event_0) 10 rfl zddX10_event_0 rfl
theorem dX10_event_19 : decode cX10_event 19 = .ok (.getfield 311, 3) := dq_get (L := lzddX10_event_0) 11 rfl zddX10_event_0 rfl
theorem dX10_event_22 : decode cX10_event 22 = .ok (.if_icmp .ge 7, 3) := dq_get (L := lzddX10_event_0) 12 rfl zddX10_event_0 rfl
theorem dX10_event_25 : decode cX10_event 25 = .ok (.iconst 1, 1) := dq_get (L := lzddX10_event_0) 13 rfl zddX10_event_0 rfl
theorem dX10_event_26 : decode cX10_event 26 = .ok (.goto 4, 3) := dq_get (L := lzddX10_event_0) 14 rfl zddX10_event_0 rfl
theorem dX10_event_29 : decode cX10_event 29 = .ok (.iconst 0, 1) := dq_get (L := lzddX10_event_0) 15 rfl zddX10_event_0 rfl
theorem dX10_event_30 : decode cX10_event 30 = .ok (.istore_n 3, 1) := dq_get (L := lzddX10_event_0) 16 rfl zddX10_event_0 rfl
theorem dX10_event_31 : decode cX10_event 31 = .ok (.iload_n 2, 1) := dq_get (L := lzddX10_event_0) 17 rfl zddX10_event_0 rfl
theorem dX10_event_32 : decode cX10_event 32 = .ok (.tableswitch 103 0 3 #[32, 57, 83, 93], 32) := by decide +kernel
def lzddX10_event_64 : List (Nat × Instr × Nat) := [(64, .aload_n 0, 1), (65, .iload_n 3, 1), (66, .ifCond .eq 18, 3), (69, .aload_n 0, 1), (70, .getfield 16, 3), (73, .getfield 313, 3), (76, .iload_n 1, 1), (77, .aaload, 1), (78, .getfield 317, 3), (81, .goto 4, 3), (84, .iconst 0, 1), (85, .invokevirtual 109, 3), (88, .ireturn, 1), (89, .aload_n 0, 1), (90, .iload_n 3, 1), (91, .ifCond .eq 18, 3), (94, .aload_n 0, 1), (95, .getfield 16, 3), (98, .getfield 313, 3), (101, .iload_n 1, 1)]
theorem zddX10_event_64 : dqW lzddX10_event_64 (cX10_event.data.toList.drop 64) 64 = true := by decide +kernel
theorem dX10_event_64 : decode cX10_event 64 = .ok (.aload_n 0, 1) := dq_get (L := lzddX10_event_64) 0 rfl zddX10_event_64 rfl
theorem dX10_event_65 : decode cX10_event 65 = .ok (.iload_n 3, 1) := dq_get (L := lzddX10_event_64) 1 rfl zddX10_event_64 rfl
theorem dX10_event_66 : decode cX10_event 66 = .ok (.ifCond .eq 18, 3) := dq_get (L := lzddX10_event_64) 2 rfl zddX10_event_64 rfl
theorem dX10_event_69 : decode cX10_event 69 = .ok (.aload_n 0, 1) := dq_get (L := lzddX10_event_64) 3 rfl zddX10_event_64 rfl
theorem dX10_event_70 : decode cX10_event 70 = .ok (.getfield 16, 3) := dq_get (L := lzddX10_event_64) 4 rfl zddX10_event_64 rfl
theorem dX10_event_73 : decode cX10_event 73 = .ok (.getfield 313, 3) := dq_get (L := lzddX10_event_64) 5 rfl zddX10_event_64 rfl
theorem dX10_event_76 : decode cX10_event 76 = .ok (.iload_n 1, 1) := dq_get (L := lzddX10_event_64) 6 rfl zddX10_event_64 rfl
theorem dX10_event_77 : decode cX10_event 77 = .ok (.aaload, 1) := dq_get (L := lzddX10_event_64) 7 rfl zddX10_event_64 rfl
theorem dX10_event_78 : decode cX10_event 78 = .ok (.getfield 317, 3) := dq_get (L := lzddX10_event_64) 8 rfl zddX10_event_64 rfl
theorem dX10_event_81 : decode cX10_event 81 = .ok (.goto 4, 3) := dq_get (L := lzddX10_event_64) 9 rfl zddX10_event_64 rfl
theorem dX10_event_84 : decode cX10_event 84 = .ok (.iconst 0, 1) := dq_get (L := lzddX10_event_64) 10 rfl zddX10_event_64 rfl
theorem dX10_event_85 : decode cX10_event 85 = .ok (.invokevirtual 109, 3) := dq_get (L := lzddX10_event_64) 11 rfl zddX10_event_64 rfl
theorem dX10_event_88 : decode cX10_event 88 = .ok (.ireturn, 1) := dq_get (L := lzddX10_event_64) 12 rfl zddX10_event_64 rfl
theorem dX10_event_89 : decode cX10_event 89 = .ok (.aload_n 0, 1) := dq_get (L := lzddX10_event_64) 13 rfl zddX10_event_64 rfl
theorem dX10_event_90 : decode cX10_event 90 = .ok (.iload_n 3, 1) := dq_get (L := lzddX10_event_64) 14 rfl zddX10_event_64 rfl
theorem dX10_event_91 : decode cX10_event 91 = .ok (.ifCond .eq 18, 3) := dq_get (L := lzddX10_event_64) 15 rfl zddX10_event_64 rfl
theorem dX10_event_94 : decode cX10_event 94 = .ok (.aload_n 0, 1) := dq_get (L := lzddX10_event_64) 16 rfl zddX10_event_64 rfl
theorem dX10_event_95 : decode cX10_event 95 = .ok (.getfield 16, 3) := dq_get (L := lzddX10_event_64) 17 rfl zddX10_event_64 rfl
theorem dX10_event_98 : decode cX10_event 98 = .ok (.getfield 313, 3) := dq_get (L := lzddX10_event_64) 18 rfl zddX10_event_64 rfl
theorem dX10_event_101 : decode cX10_event 101 = .ok (.iload_n 1, 1) := dq_get (L := lzddX10_event_64) 19 rfl zddX10_event_64 rfl
def lzddX10_event_102 : List (Nat × Instr × Nat) := [(102, .aaload, 1), (103, .getfield 322, 3), (106, .goto 5, 3), (109, .bipush (-2), 2), (111, .invokevirtual 109, 3), (114, .ireturn, 1), (115, .aload_n 0, 1), (116, .aload_n 0, 1), (117, .iload_n 1, 1), (118, .invokevirtual 228, 3), (121, .invokevirtual 109, 3), (124, .ireturn, 1), (125, .aload_n 0, 1), (126, .aload_n 0, 1), (127, .iload_n 1, 1), (128, .invokevirtual 231, 3), (131, .invokevirtual 109, 3), (134, .ireturn, 1), (135, .aload_n 0, 1), (136, .iconst 1, 1)]
theorem zddX10_event_102 : dqW lzddX10_event_102 (cX10_event.data.toList.drop 102) 102 = true := by decide +kernel
theorem dX10_event_102 : decode cX10_event 102 = .ok (.aaload, 1) := dq_get (L := lzddX10_event_102) 0 rfl zddX10_event_102 rfl
theorem dX10_event_103 : decode cX10_event 103 = .ok (.getfield 322, 3) := dq_get (L := lzddX10_event_102) 1 rfl zddX10_event_102 rfl
theorem dX10_event_106 : decode cX10_event 106 = .ok (.goto 5, 3) := dq_get (L := lzddX10_event_102) 2 rfl zddX10_event_102 rfl
theorem dX10_event_109 : decode cX10_event 109 = .ok (.bipush (-2), 2) := dq_get (L := lzddX10_event_102) 3 rfl zddX10_event_102 rfl
theorem dX10_event_111 : decode cX10_event 111 = .ok (.invokevirtual 109, 3) := dq_get (L := lzddX10_event_102) 4 rfl zddX10_event_102 rfl
theorem dX10_event_114 : decode cX10_event 114 = .ok (.ireturn, 1) := dq_get (L := lzddX10_event_102) 5 rfl zddX10_event_102 rfl
theorem dX10_event_115 : decode cX10_event 115 = .ok (.aload_n 0, 1) := dq_get (L := lzddX10_event_102) 6 rfl zddX10_event_102 rfl
theorem dX10_event_116 : decode cX10_event 116 = .ok (.aload_n 0, 1) := dq_get (L := lzddX10_event_102) 7 rfl zddX10_event_102 rfl
theorem dX10_event_117 : decode cX10_event 117 = .ok (.iload_n 1, 1) := dq_get (L := lzddX10_event_102) 8 rfl zddX10_event_102 rfl
theorem dX10_event_118 : decode cX10_event 118 = .ok (.invokevirtual 228, 3) := dq_get (L := lzddX10_event_102) 9 rfl zddX10_event_102 rfl
theorem dX10_event_121 : decode cX10_event 121 = .ok (.invokevirtual 109, 3) := dq_get (L := lzddX10_event_102) 10 rfl zddX10_event_102 rfl
theorem dX10_event_124 : decode cX10_event 124 = .ok (.ireturn, 1) := dq_get (L := lzddX10_event_102) 11 rfl zddX10_event_102 rfl
theorem dX10_event_125 : decode cX10_event 125 = .ok (.aload_n 0, 1) := dq_get (L := lzddX10_event_102) 12 rfl zddX10_event_102 rfl
theorem dX10_event_126 : decode cX10_event 126 = .ok (.aload_n 0, 1) := dq_get (L := lzddX10_event_102) 13 rfl zddX10_event_102 rfl
theorem dX10_event_127 : decode cX10_event 127 = .ok (.iload_n 1, 1) := dq_get (L := lzddX10_event_102) 14 rfl zddX10_event_102 rfl
theorem dX10_event_128 : decode cX10_event 128 = .ok (.invokevirtual 231, 3) := dq_get (L := lzddX10_event_102) 15 rfl zddX10_event_102 rfl
theorem dX10_event_131 : decode cX10_event 131 = .ok (.invokevirtual 109, 3) := dq_get (L := lzddX10_event_102) 16 rfl zddX10_event_102 rfl
theorem dX10_event_134 : decode cX10_event 134 = .ok (.ireturn, 1) := dq_get (L := lzddX10_event_102) 17 rfl zddX10_event_102 rfl
theorem dX10_event_135 : decode cX10_event 135 = .ok (.aload_n 0, 1) := dq_get (L := lzddX10_event_102) 18 rfl zddX10_event_102 rfl
theorem dX10_event_136 : decode cX10_event 136 = .ok (.iconst 1, 1) := dq_get (L := lzddX10_event_102) 19 rfl zddX10_event_102 rfl
def lzddX10_event_137 : List (Nat × Instr × Nat) := [(137, .invokevirtual 79, 3), (140, .ireturn, 1)]
theorem zddX10_event_137 : dqW lzddX10_event_137 (cX10_event.data.toList.drop 137) 137 = true := by decide +kernel
theorem dX10_event_137 : decode cX10_event 137 = .ok (.invokevirtual 79, 3) := dq_get (L := lzddX10_event_137) 0 rfl zddX10_event_137 rfl
theorem dX10_event_140 : decode cX10_event 140 = .ok (.ireturn, 1) := dq_get (L := lzddX10_event_137) 1 rfl zddX10_event_137 rfl
def lzddX10_eventCount_0 : List (Nat × Instr × Nat) := [(0, .aload_n 0, 1), (1, .getfield 16, 3), (4, .getfield 311, 3), (7, .aload_n 0, 1), (8, .getfield 35, 3), (11, .getfield 272, 3), (14, .iadd, 1), (15, .ireturn, 1)]
theorem zddX10_eventCount_0 : dqW lzddX10_eventCount_0 (cX10_eventCount.data.toList.drop 0) 0 = true := by decide +kernel
theorem dX10_eventCount_0 : decode cX10_eventCount 0 = .ok (.aload_n 0, 1) := dq_get (L := lzddX10_eventCount_0) 0 rfl zddX10_eventCount_0 rfl
theorem dX10_eventCount_1 : decode cX10_eventCount 1 = .ok (.getfield 16, 3) := dq_get (L := lzddX10_eventCount_0) 1 rfl zddX10_eventCount_0 rfl
theorem dX10_eventCount_4 : decode cX10_eventCount 4 = .ok (.getfield 311, 3) := dq_get (L := lzddX10_eventCount_0) 2 rfl zddX10_eventCount_0 rfl
theorem dX10_eventCount_7 : decode cX10_eventCount 7 = .ok (.aload_n 0, 1) := dq_get (L := lzddX10_eventCount_0) 3 rfl zddX10_eventCount_0 rfl
theorem dX10_eventCount_8 : decode cX10_eventCount 8 = .ok (.getfield 35, 3) := dq_get (L := lzddX10_eventCount_0) 4 rfl zddX10_eventCount_0 rfl
theorem dX10_eventCount_11 : decode cX10_eventCount 11 = .ok (.getfield 272, 3) := dq_get (L := lzddX10_eventCount_0) 5 rfl zddX10_eventCount_0 rfl
theorem dX10_eventCount_14 : decode cX10_eventCount 14 = .ok (.iadd, 1) := dq_get (L := lzddX10_eventCount_0) 6 rfl zddX10_eventCount_0 rfl
theorem dX10_eventCount_15 : decode cX10_eventCount 15 = .ok (.ireturn, 1) := dq_get (L := lzddX10_eventCount_0) 7 rfl zddX10_eventCount_0 rfl
def lzddX10_eventFrom_0 : List (Nat × Instr × Nat) := [(0, .iload_n 1, 1), (1, .aload_n 0, 1), (2, .getfield 16, 3), (5, .getfield 311, 3), (8, .if_icmp .ge 18, 3), (11, .aload_n 0, 1), (12, .getfield 16, 3), (15, .getfield 313, 3), (18, .iload_n 1, 1), (19, .aaload, 1), (20, .getfield 361, 3), (23, .goto 20, 3), (26, .aload_n 0, 1), (27, .getfield 35, 3), (30, .getfield 364, 3), (33, .iload_n 1, 1), (34, .aload_n 0, 1), (35, .getfield 16, 3), (38, .getfield 311, 3), (41, .isub, 1)]
theorem zddX10_eventFrom_0 : dqW lzddX10_eventFrom_0 (cX10_eventFrom.data.toList.drop 0) 0 = true := by decide +kernel
theorem dX10_eventFrom_0 : decode cX10_eventFrom 0 = .ok (.iload_n 1, 1) := dq_get (L := lzddX10_eventFrom_0) 0 rfl zddX10_eventFrom_0 rfl
theorem dX10_eventFrom_1 : decode cX10_eventFrom 1 = .ok (.aload_n 0, 1) := dq_get (L := lzddX10_eventFrom_0) 1 rfl zddX10_eventFrom_0 rfl
theorem dX10_eventFrom_2 : decode cX10_eventFrom 2 = .ok (.getfield 16, 3) := dq_get (L := lzddX10_eventFrom_0) 2 rfl zddX10_eventFrom_0 rfl
theorem dX10_eventFrom_5 : decode cX10_eventFrom 5 = .ok (.getfield 311, 3) := dq_get (L := lzddX10_eventFrom_0) 3 rfl zddX10_eventFrom_0 rfl
theorem dX10_eventFrom_8 : decode cX10_eventFrom 8 = .ok (.if_icmp .ge 18, 3) := dq_get (L := lzddX10_eventFrom_0) 4 rfl zddX10_eventFrom_0 rfl
theorem dX10_eventFrom_11 : decode cX10_eventFrom 11 = .ok (.aload_n 0, 1) := dq_get (L := lzddX10_eventFrom_0) 5 rfl zddX10_eventFrom_0 rfl
theorem dX10_eventFrom_12 : decode cX10_eventFrom 12 = .ok (.getfield 16, 3) := dq_get (L := lzddX10_eventFrom_0) 6 rfl zddX10_eventFrom_0 rfl
theorem dX10_eventFrom_15 : decode cX10_eventFrom 15 = .ok (.getfield 313, 3) := dq_get (L := lzddX10_eventFrom_0) 7 rfl zddX10_eventFrom_0 rfl
theorem dX10_eventFrom_18 : decode cX10_eventFrom 18 = .ok (.iload_n 1, 1) := dq_get (L := lzddX10_eventFrom_0) 8 rfl zddX10_eventFrom_0 rfl
theorem dX10_eventFrom_19 : decode cX10_eventFrom 19 = .ok (.aaload, 1) := dq_get (L := lzddX10_eventFrom_0) 9 rfl zddX10_eventFrom_0 rfl
theorem dX10_eventFrom_20 : decode cX10_eventFrom 20 = .ok (.getfield 361, 3) := dq_get (L := lzddX10_eventFrom_0) 10 rfl zddX10_eventFrom_0 rfl
theorem dX10_eventFrom_23 : decode cX10_eventFrom 23 = .ok (.goto 20, 3) := dq_get (L := lzddX10_eventFrom_0) 11 rfl zddX10_eventFrom_0 rfl
theorem dX10_eventFrom_26 : decode cX10_eventFrom 26 = .ok (.aload_n 0, 1) := dq_get (L := lzddX10_eventFrom_0) 12 rfl zddX10_eventFrom_0 rfl
theorem dX10_eventFrom_27 : decode cX10_eventFrom 27 = .ok (.getfield 35, 3) := dq_get (L := lzddX10_eventFrom_0) 13 rfl zddX10_eventFrom_0 rfl
theorem dX10_eventFrom_30 : decode cX10_eventFrom 30 = .ok (.getfield 364, 3) := dq_get (L := lzddX10_eventFrom_0) 14 rfl zddX10_eventFrom_0 rfl
theorem dX10_eventFrom_33 : decode cX10_eventFrom 33 = .ok (.iload_n 1, 1) := dq_get (L := lzddX10_eventFrom_0) 15 rfl zddX10_eventFrom_0 rfl
theorem dX10_eventFrom_34 : decode cX10_eventFrom 34 = .ok (.aload_n 0, 1) := dq_get (L := lzddX10_eventFrom_0) 16 rfl zddX10_eventFrom_0 rfl
theorem dX10_eventFrom_35 : decode cX10_eventFrom 35 = .ok (.getfield 16, 3) := dq_get (L := lzddX10_eventFrom_0) 17 rfl zddX10_eventFrom_0 rfl
theorem dX10_eventFrom_38 : decode cX10_eventFrom 38 = .ok (.getfield 311, 3) := dq_get (L := lzddX10_eventFrom_0) 18 rfl zddX10_eventFrom_0 rfl
theorem dX10_eventFrom_41 : decode cX10_eventFrom 41 = .ok (.isub, 1) := dq_get (L := lzddX10_eventFrom_0) 19 rfl zddX10_eventFrom_0 rfl
def lzddX10_eventFrom_42 : List (Nat × Instr × Nat) := [(42, .iaload, 1), (43, .ireturn, 1)]
theorem zddX10_eventFrom_42 : dqW lzddX10_eventFrom_42 (cX10_eventFrom.data.toList.drop 42) 42 = true := by decide +kernel
theorem dX10_eventFrom_42 : decode cX10_eventFrom 42 = .ok (.iaload, 1) := dq_get (L := lzddX10_eventFrom_42) 0 rfl zddX10_eventFrom_42 rfl
theorem dX10_eventFrom_43 : decode cX10_eventFrom 43 = .ok (.ireturn, 1) := dq_get (L := lzddX10_eventFrom_42) 1 rfl zddX10_eventFrom_42 rfl
def lzddX10_eventTo_0 : List (Nat × Instr × Nat) := [(0, .iload_n 1, 1), (1, .aload_n 0, 1), (2, .getfield 16, 3), (5, .getfield 311, 3), (8, .if_icmp .ge 18, 3), (11, .aload_n 0, 1), (12, .getfield 16, 3), (15, .getfield 313, 3), (18, .iload_n 1, 1), (19, .aaload, 1), (20, .getfield 366, 3), (23, .goto 20, 3), (26, .aload_n 0, 1), (27, .getfield 35, 3), (30, .getfield 369, 3), (33, .iload_n 1, 1), (34, .aload_n 0, 1), (35, .getfield 16, 3), (38, .getfield 311, 3), (41, .isub, 1)]
theorem zddX10_eventTo_0 : dqW lzddX10_eventTo_0 (cX10_eventTo.data.toList.drop 0) 0 = true := by decide +kernel
theorem dX10_eventTo_0 : decode cX10_eventTo 0 = .ok (.iload_n 1, 1) := dq_get (L := lzddX10_eventTo_0) 0 rfl zddX10_eventTo_0 rfl
theorem dX10_eventTo_1 : decode cX10_eventTo 1 = .ok (.aload_n 0, 1) := dq_get (L := lzddX10_eventTo_0) 1 rfl zddX10_eventTo_0 rfl
theorem dX10_eventTo_2 : decode cX10_eventTo 2 = .ok (.getfield 16, 3) := dq_get (L := lzddX10_eventTo_0) 2 rfl zddX10_eventTo_0 rfl
theorem dX10_eventTo_5 : decode cX10_eventTo 5 = .ok (.getfield 311, 3) := dq_get (L := lzddX10_eventTo_0) 3 rfl zddX10_eventTo_0 rfl
theorem dX10_eventTo_8 : decode cX10_eventTo 8 = .ok (.if_icmp .ge 18, 3) := dq_get (L := lzddX10_eventTo_0) 4 rfl zddX10_eventTo_0 rfl
theorem dX10_eventTo_11 : decode cX10_eventTo 11 = .ok (.aload_n 0, 1) := dq_get (L := lzddX10_eventTo_0) 5 rfl zddX10_eventTo_0 rfl
theorem dX10_eventTo_12 : decode cX10_eventTo 12 = .ok (.getfield 16, 3) := dq_get (L := lzddX10_eventTo_0) 6 rfl zddX10_eventTo_0 rfl
theorem dX10_eventTo_15 : decode cX10_eventTo 15 = .ok (.getfield 313, 3) := dq_get (L := lzddX10_eventTo_0) 7 rfl zddX10_eventTo_0 rfl
theorem dX10_eventTo_18 : decode cX10_eventTo 18 = .ok (.iload_n 1, 1) := dq_get (L := lzddX10_eventTo_0) 8 rfl zddX10_eventTo_0 rfl
theorem dX10_eventTo_19 : decode cX10_eventTo 19 = .ok (.aaload, 1) := dq_get (L := lzddX10_eventTo_0) 9 rfl zddX10_eventTo_0 rfl
theorem dX10_eventTo_20 : decode cX10_eventTo 20 = .ok (.getfield 366, 3) := dq_get (L := lzddX10_eventTo_0) 10 rfl zddX10_eventTo_0 rfl
theorem dX10_eventTo_23 : decode cX10_eventTo 23 = .ok (.goto 20, 3) := dq_get (L := lzddX10_eventTo_0) 11 rfl zddX10_eventTo_0 rfl
theorem dX10_eventTo_26 : decode cX10_eventTo 26 = .ok (.aload_n 0, 1) := dq_get (L := lzddX10_eventTo_0) 12 rfl zddX10_eventTo_0 rfl
theorem dX10_eventTo_27 : decode cX10_eventTo 27 = .ok (.getfield 35, 3) := dq_get (L := lzddX10_eventTo_0) 13 rfl zddX10_eventTo_0 rfl
theorem dX10_eventTo_30 : decode cX10_eventTo 30 = .ok (.getfield 369, 3) := dq_get (L := lzddX10_eventTo_0) 14 rfl zddX10_eventTo_0 rfl
theorem dX10_eventTo_33 : decode cX10_eventTo 33 = .ok (.iload_n 1, 1) := dq_get (L := lzddX10_eventTo_0) 15 rfl zddX10_eventTo_0 rfl
theorem dX10_eventTo_34 : decode cX10_eventTo 34 = .ok (.aload_n 0, 1) := dq_get (L := lzddX10_eventTo_0) 16 rfl zddX10_eventTo_0 rfl
theorem dX10_eventTo_35 : decode cX10_eventTo 35 = .ok (.getfield 16, 3) := dq_get (L := lzddX10_eventTo_0) 17 rfl zddX10_eventTo_0 rfl
theorem dX10_eventTo_38 : decode cX10_eventTo 38 = .ok (.getfield 311, 3) := dq_get (L := lzddX10_eventTo_0) 18 rfl zddX10_eventTo_0 rfl
theorem dX10_eventTo_41 : decode cX10_eventTo 41 = .ok (.isub, 1) := dq_get (L := lzddX10_eventTo_0) 19 rfl zddX10_eventTo_0 rfl
def lzddX10_eventTo_42 : List (Nat × Instr × Nat) := [(42, .iaload, 1), (43, .ireturn, 1)]
theorem zddX10_eventTo_42 : dqW lzddX10_eventTo_42 (cX10_eventTo.data.toList.drop 42) 42 = true := by decide +kernel
theorem dX10_eventTo_42 : decode cX10_eventTo 42 = .ok (.iaload, 1) := dq_get (L := lzddX10_eventTo_42) 0 rfl zddX10_eventTo_42 rfl
theorem dX10_eventTo_43 : decode cX10_eventTo 43 = .ok (.ireturn, 1) := dq_get (L := lzddX10_eventTo_42) 1 rfl zddX10_eventTo_42 rfl
def lzddX10_fault_0 : List (Nat × Instr × Nat) := [(0, .aload_n 0, 1), (1, .getfield 90, 3), (4, .ireturn, 1)]
theorem zddX10_fault_0 : dqW lzddX10_fault_0 (cX10_fault.data.toList.drop 0) 0 = true := by decide +kernel
theorem dX10_fault_0 : decode cX10_fault 0 = .ok (.aload_n 0, 1) := dq_get (L := lzddX10_fault_0) 0 rfl zddX10_fault_0 rfl
theorem dX10_fault_1 : decode cX10_fault 1 = .ok (.getfield 90, 3) := dq_get (L := lzddX10_fault_0) 1 rfl zddX10_fault_0 rfl
theorem dX10_fault_4 : decode cX10_fault 4 = .ok (.ireturn, 1) := dq_get (L := lzddX10_fault_0) 2 rfl zddX10_fault_0 rfl
def lzddX10_feed_0 : List (Nat × Instr × Nat) := [(0, .aload_n 0, 1), (1, .getfield 71, 3), (4, .bipush 20, 2), (6, .iadd, 1), (7, .sipush 900, 3), (10, .if_icmp .le 5, 3), (13, .iconst (-1), 1), (14, .ireturn, 1), (15, .aload_n 0, 1), (16, .iload_n 1, 1), (17, .invokevirtual 75, 3), (20, .aload_n 0, 1), (21, .iload_n 2, 1), (22, .invokevirtual 75, 3), (25, .aload_n 0, 1), (26, .iload_n 3, 1), (27, .invokevirtual 75, 3), (30, .aload_n 0, 1), (31, .iload 4, 2), (33, .invokevirtual 75, 3)]
theorem zddX10_feed_0 : dqW lzddX10_feed_0 (cX10_feed.data.toList.drop 0) 0 = true := by decide +kernel
theorem dX10_feed_0 : decode cX10_feed 0 = .ok (.aload_n 0, 1) := dq_get (L := lzddX10_feed_0) 0 rfl zddX10_feed_0 rfl
theorem dX10_feed_1 : decode cX10_feed 1 = .ok (.getfield 71, 3) := dq_get (L := lzddX10_feed_0) 1 rfl zddX10_feed_0 rfl
theorem dX10_feed_4 : decode cX10_feed 4 = .ok (.bipush 20, 2) := dq_get (L := lzddX10_feed_0) 2 rfl zddX10_feed_0 rfl
theorem dX10_feed_6 : decode cX10_feed 6 = .ok (.iadd, 1) := dq_get (L := lzddX10_feed_0) 3 rfl zddX10_feed_0 rfl
theorem dX10_feed_7 : decode cX10_feed 7 = .ok (.sipush 900, 3) := dq_get (L := lzddX10_feed_0) 4 rfl zddX10_feed_0 rfl
theorem dX10_feed_10 : decode cX10_feed 10 = .ok (.if_icmp .le 5, 3) := dq_get (L := lzddX10_feed_0) 5 rfl zddX10_feed_0 rfl
theorem dX10_feed_13 : decode cX10_feed 13 = .ok (.iconst (-1), 1) := dq_get (L := lzddX10_feed_0) 6 rfl zddX10_feed_0 rfl
theorem dX10_feed_14 : decode cX10_feed 14 = .ok (.ireturn, 1) := dq_get (L := lzddX10_feed_0) 7 rfl zddX10_feed_0 rfl
theorem dX10_feed_15 : decode cX10_feed 15 = .ok (.aload_n 0, 1) := dq_get (L := lzddX10_feed_0) 8 rfl zddX10_feed_0 rfl
theorem dX10_feed_16 : decode cX10_feed 16 = .ok (.iload_n 1, 1) := dq_get (L := lzddX10_feed_0) 9 rfl zddX10_feed_0 rfl
theorem dX10_feed_17 : decode cX10_feed 17 = .ok (.invokevirtual 75, 3) := dq_get (L := lzddX10_feed_0) 10 rfl zddX10_feed_0 rfl
theorem dX10_feed_20 : decode cX10_feed 20 = .ok (.aload_n 0, 1) := dq_get (L := lzddX10_feed_0) 11 rfl zddX10_feed_0 rfl
theorem dX10_feed_21 : decode cX10_feed 21 = .ok (.iload_n 2, 1) := dq_get (L := lzddX10_feed_0) 12 rfl zddX10_feed_0 rfl
theorem dX10_feed_22 : decode cX10_feed 22 = .ok (.invokevirtual 75, 3) := dq_get (L := lzddX10_feed_0) 13 rfl zddX10_feed_0 rfl
theorem dX10_feed_25 : decode cX10_feed 25 = .ok (.aload_n 0, 1) := dq_get (L := lzddX10_feed_0) 14 rfl zddX10_feed_0 rfl
theorem dX10_feed_26 : decode cX10_feed 26 = .ok (.iload_n 3, 1) := dq_get (L := lzddX10_feed_0) 15 rfl zddX10_feed_0 rfl
theorem dX10_feed_27 : decode cX10_feed 27 = .ok (.invokevirtual 75, 3) := dq_get (L := lzddX10_feed_0) 16 rfl zddX10_feed_0 rfl
theorem dX10_feed_30 : decode cX10_feed 30 = .ok (.aload_n 0, 1) := dq_get (L := lzddX10_feed_0) 17 rfl zddX10_feed_0 rfl
theorem dX10_feed_31 : decode cX10_feed 31 = .ok (.iload 4, 2) := dq_get (L := lzddX10_feed_0) 18 rfl zddX10_feed_0 rfl
theorem dX10_feed_33 : decode cX10_feed 33 = .ok (.invokevirtual 75, 3) := dq_get (L := lzddX10_feed_0) 19 rfl zddX10_feed_0 rfl
def lzddX10_feed_36 : List (Nat × Instr × Nat) := [(36, .aload_n 0, 1), (37, .iload 5, 2), (39, .invokevirtual 75, 3), (42, .aload_n 0, 1), (43, .getfield 71, 3), (46, .ireturn, 1)]
theorem zddX10_feed_36 : dqW lzddX10_feed_36 (cX10_feed.data.toList.drop 36) 36 = true := by decide +kernel
theorem dX10_feed_36 : decode cX10_feed 36 = .ok (.aload_n 0, 1) := dq_get (L := lzddX10_feed_36) 0 rfl zddX10_feed_36 rfl
theorem dX10_feed_37 : decode cX10_feed 37 = .ok (.iload 5, 2) := dq_get (L := lzddX10_feed_36) 1 rfl zddX10_feed_36 rfl
theorem dX10_feed_39 : decode cX10_feed 39 = .ok (.invokevirtual 75, 3) := dq_get (L := lzddX10_feed_36) 2 rfl zddX10_feed_36 rfl
theorem dX10_feed_42 : decode cX10_feed 42 = .ok (.aload_n 0, 1) := dq_get (L := lzddX10_feed_36) 3 rfl zddX10_feed_36 rfl
theorem dX10_feed_43 : decode cX10_feed 43 = .ok (.getfield 71, 3) := dq_get (L := lzddX10_feed_36) 4 rfl zddX10_feed_36 rfl
theorem dX10_feed_46 : decode cX10_feed 46 = .ok (.ireturn, 1) := dq_get (L := lzddX10_feed_36) 5 rfl zddX10_feed_36 rfl
def lzddX10_fewest_0 : List (Nat × Instr × Nat) := [(0, .aload_n 0, 1), (1, .getfield 95, 3), (4, .ifCond .ne 9, 3), (7, .aload_n 0, 1), (8, .iconst 1, 1), (9, .invokevirtual 79, 3), (12, .ireturn, 1), (13, .aload_n 0, 1), (14, .invokevirtual 244, 3), (17, .istore_n 1, 1), (18, .aload_n 0, 1), (19, .iload_n 1, 1), (20, .bipush (-2), 2), (22, .if_icmp .ne 8, 3), (25, .bipush (-2), 2), (27, .goto 7, 3), (30, .iload_n 1, 1), (31, .invokestatic 247, 3), (34, .invokevirtual 109, 3), (37, .ireturn, 1)]
theorem zddX10_fewest_0 : dqW lzddX10_fewest_0 (cX10_fewest.data.toList.drop 0) 0 = true := by decide +kernel
theorem dX10_fewest_0 : decode cX10_fewest 0 = .ok (.aload_n 0, 1) := dq_get (L := lzddX10_fewest_0) 0 rfl zddX10_fewest_0 rfl
theorem dX10_fewest_1 : decode cX10_fewest 1 = .ok (.getfield 95, 3) := dq_get (L := lzddX10_fewest_0) 1 rfl zddX10_fewest_0 rfl
theorem dX10_fewest_4 : decode cX10_fewest 4 = .ok (.ifCond .ne 9, 3) := dq_get (L := lzddX10_fewest_0) 2 rfl zddX10_fewest_0 rfl
theorem dX10_fewest_7 : decode cX10_fewest 7 = .ok (.aload_n 0, 1) := dq_get (L := lzddX10_fewest_0) 3 rfl zddX10_fewest_0 rfl
theorem dX10_fewest_8 : decode cX10_fewest 8 = .ok (.iconst 1, 1) := dq_get (L := lzddX10_fewest_0) 4 rfl zddX10_fewest_0 rfl
theorem dX10_fewest_9 : decode cX10_fewest 9 = .ok (.invokevirtual 79, 3) := dq_get (L := lzddX10_fewest_0) 5 rfl zddX10_fewest_0 rfl
theorem dX10_fewest_12 : decode cX10_fewest 12 = .ok (.ireturn, 1) := dq_get (L := lzddX10_fewest_0) 6 rfl zddX10_fewest_0 rfl
theorem dX10_fewest_13 : decode cX10_fewest 13 = .ok (.aload_n 0, 1) := dq_get (L := lzddX10_fewest_0) 7 rfl zddX10_fewest_0 rfl
theorem dX10_fewest_14 : decode cX10_fewest 14 = .ok (.invokevirtual 244, 3) := dq_get (L := lzddX10_fewest_0) 8 rfl zddX10_fewest_0 rfl
theorem dX10_fewest_17 : decode cX10_fewest 17 = .ok (.istore_n 1, 1) := dq_get (L := lzddX10_fewest_0) 9 rfl zddX10_fewest_0 rfl
theorem dX10_fewest_18 : decode cX10_fewest 18 = .ok (.aload_n 0, 1) := dq_get (L := lzddX10_fewest_0) 10 rfl zddX10_fewest_0 rfl
theorem dX10_fewest_19 : decode cX10_fewest 19 = .ok (.iload_n 1, 1) := dq_get (L := lzddX10_fewest_0) 11 rfl zddX10_fewest_0 rfl
theorem dX10_fewest_20 : decode cX10_fewest 20 = .ok (.bipush (-2), 2) := dq_get (L := lzddX10_fewest_0) 12 rfl zddX10_fewest_0 rfl
theorem dX10_fewest_22 : decode cX10_fewest 22 = .ok (.if_icmp .ne 8, 3) := dq_get (L := lzddX10_fewest_0) 13 rfl zddX10_fewest_0 rfl
theorem dX10_fewest_25 : decode cX10_fewest 25 = .ok (.bipush (-2), 2) := dq_get (L := lzddX10_fewest_0) 14 rfl zddX10_fewest_0 rfl
theorem dX10_fewest_27 : decode cX10_fewest 27 = .ok (.goto 7, 3) := dq_get (L := lzddX10_fewest_0) 15 rfl zddX10_fewest_0 rfl
theorem dX10_fewest_30 : decode cX10_fewest 30 = .ok (.iload_n 1, 1) := dq_get (L := lzddX10_fewest_0) 16 rfl zddX10_fewest_0 rfl
theorem dX10_fewest_31 : decode cX10_fewest 31 = .ok (.invokestatic 247, 3) := dq_get (L := lzddX10_fewest_0) 17 rfl zddX10_fewest_0 rfl
theorem dX10_fewest_34 : decode cX10_fewest 34 = .ok (.invokevirtual 109, 3) := dq_get (L := lzddX10_fewest_0) 18 rfl zddX10_fewest_0 rfl
theorem dX10_fewest_37 : decode cX10_fewest 37 = .ok (.ireturn, 1) := dq_get (L := lzddX10_fewest_0) 19 rfl zddX10_fewest_0 rfl
def lzddX10_fewestBy_0 : List (Nat × Instr × Nat) := [(0, .aload_n 0, 1), (1, .getfield 95, 3), (4, .ifCond .eq 14, 3), (7, .aload_n 0, 1), (8, .aload_n 0, 1), (9, .invokevirtual 244, 3), (12, .invokevirtual 109, 3), (15, .goto 8, 3), (18, .aload_n 0, 1), (19, .iconst 1, 1), (20, .invokevirtual 79, 3), (23, .ireturn, 1)]
theorem zddX10_fewestBy_0 : dqW lzddX10_fewestBy_0 (cX10_fewestBy.data.toList.drop 0) 0 = true := by decide +kernel
theorem dX10_fewestBy_0 : decode cX10_fewestBy 0 = .ok (.aload_n 0, 1) := dq_get (L := lzddX10_fewestBy_0) 0 rfl zddX10_fewestBy_0 rfl
theorem dX10_fewestBy_1 : decode cX10_fewestBy 1 = .ok (.getfield 95, 3) := dq_get (L := lzddX10_fewestBy_0) 1 rfl zddX10_fewestBy_0 rfl
theorem dX10_fewestBy_4 : decode cX10_fewestBy 4 = .ok (.ifCond .eq 14, 3) := dq_get (L := lzddX10_fewestBy_0) 2 rfl zddX10_fewestBy_0 rfl
theorem dX10_fewestBy_7 : decode cX10_fewestBy 7 = .ok (.aload_n 0, 1) := dq_get (L := lzddX10_fewestBy_0) 3 rfl zddX10_fewestBy_0 rfl
theorem dX10_fewestBy_8 : decode cX10_fewestBy 8 = .ok (.aload_n 0, 1) := dq_get (L := lzddX10_fewestBy_0) 4 rfl zddX10_fewestBy_0 rfl
theorem dX10_fewestBy_9 : decode cX10_fewestBy 9 = .ok (.invokevirtual 244, 3) := dq_get (L := lzddX10_fewestBy_0) 5 rfl zddX10_fewestBy_0 rfl
theorem dX10_fewestBy_12 : decode cX10_fewestBy 12 = .ok (.invokevirtual 109, 3) := dq_get (L := lzddX10_fewestBy_0) 6 rfl zddX10_fewestBy_0 rfl
theorem dX10_fewestBy_15 : decode cX10_fewestBy 15 = .ok (.goto 8, 3) := dq_get (L := lzddX10_fewestBy_0) 7 rfl zddX10_fewestBy_0 rfl
theorem dX10_fewestBy_18 : decode cX10_fewestBy 18 = .ok (.aload_n 0, 1) := dq_get (L := lzddX10_fewestBy_0) 8 rfl zddX10_fewestBy_0 rfl
theorem dX10_fewestBy_19 : decode cX10_fewestBy 19 = .ok (.iconst 1, 1) := dq_get (L := lzddX10_fewestBy_0) 9 rfl zddX10_fewestBy_0 rfl
theorem dX10_fewestBy_20 : decode cX10_fewestBy 20 = .ok (.invokevirtual 79, 3) := dq_get (L := lzddX10_fewestBy_0) 10 rfl zddX10_fewestBy_0 rfl
theorem dX10_fewestBy_23 : decode cX10_fewestBy 23 = .ok (.ireturn, 1) := dq_get (L := lzddX10_fewestBy_0) 11 rfl zddX10_fewestBy_0 rfl
def lzddX10_fewestTurners_0 : List (Nat × Instr × Nat) := [(0, .aload_n 0, 1), (1, .invokevirtual 155, 3), (4, .invokevirtual 374, 3), (7, .ifCond .eq 6, 3), (10, .bipush (-2), 2), (12, .ireturn, 1), (13, .aload_n 0, 1), (14, .invokevirtual 184, 3), (17, .istore_n 1, 1), (18, .iconst 0, 1), (19, .istore_n 2, 1), (20, .iload_n 2, 1), (21, .aload_n 0, 1), (22, .invokevirtual 184, 3), (25, .if_icmp .ge 55, 3), (28, .iload_n 2, 1), (29, .invokestatic 247, 3), (32, .iload_n 1, 1), (33, .invokestatic 247, 3), (36, .if_icmp .ge 38, 3)]
theorem zddX10_fewestTurners_0 : dqW lzddX10_fewestTurners_0 (cX10_fewestTurners.data.toList.drop 0) 0 = true := by decide +kernel
theorem dX10_fewestTurners_0 : decode cX10_fewestTurners 0 = .ok (.aload_n 0, 1) := dq_get (L := lzddX10_fewestTurners_0) 0 rfl zddX10_fewestTurners_0 rfl
theorem dX10_fewestTurners_1 : decode cX10_fewestTurners 1 = .ok (.invokevirtual 155, 3) := dq_get (L := lzddX10_fewestTurners_0) 1 rfl zddX10_fewestTurners_0 rfl
theorem dX10_fewestTurners_4 : decode cX10_fewestTurners 4 = .ok (.invokevirtual 374, 3) := dq_get (L := lzddX10_fewestTurners_0) 2 rfl zddX10_fewestTurners_0 rfl
theorem dX10_fewestTurners_7 : decode cX10_fewestTurners 7 = .ok (.ifCond .eq 6, 3) := dq_get (L := lzddX10_fewestTurners_0) 3 rfl zddX10_fewestTurners_0 rfl
theorem dX10_fewestTurners_10 : decode cX10_fewestTurners 10 = .ok (.bipush (-2), 2) := dq_get (L := lzddX10_fewestTurners_0) 4 rfl zddX10_fewestTurners_0 rfl
theorem dX10_fewestTurners_12 : decode cX10_fewestTurners 12 = .ok (.ireturn, 1) := dq_get (L := lzddX10_fewestTurners_0) 5 rfl zddX10_fewestTurners_0 rfl
theorem dX10_fewestTurners_13 : decode cX10_fewestTurners 13 = .ok (.aload_n 0, 1) := dq_get (L := lzddX10_fewestTurners_0) 6 rfl zddX10_fewestTurners_0 rfl
theorem dX10_fewestTurners_14 : decode cX10_fewestTurners 14 = .ok (.invokevirtual 184, 3) := dq_get (L := lzddX10_fewestTurners_0) 7 rfl zddX10_fewestTurners_0 rfl
theorem dX10_fewestTurners_17 : decode cX10_fewestTurners 17 = .ok (.istore_n 1, 1) := dq_get (L := lzddX10_fewestTurners_0) 8 rfl zddX10_fewestTurners_0 rfl
theorem dX10_fewestTurners_18 : decode cX10_fewestTurners 18 = .ok (.iconst 0, 1) := dq_get (L := lzddX10_fewestTurners_0) 9 rfl zddX10_fewestTurners_0 rfl
theorem dX10_fewestTurners_19 : decode cX10_fewestTurners 19 = .ok (.istore_n 2, 1) := dq_get (L := lzddX10_fewestTurners_0) 10 rfl zddX10_fewestTurners_0 rfl
theorem dX10_fewestTurners_20 : decode cX10_fewestTurners 20 = .ok (.iload_n 2, 1) := dq_get (L := lzddX10_fewestTurners_0) 11 rfl zddX10_fewestTurners_0 rfl
theorem dX10_fewestTurners_21 : decode cX10_fewestTurners 21 = .ok (.aload_n 0, 1) := dq_get (L := lzddX10_fewestTurners_0) 12 rfl zddX10_fewestTurners_0 rfl
theorem dX10_fewestTurners_22 : decode cX10_fewestTurners 22 = .ok (.invokevirtual 184, 3) := dq_get (L := lzddX10_fewestTurners_0) 13 rfl zddX10_fewestTurners_0 rfl
theorem dX10_fewestTurners_25 : decode cX10_fewestTurners 25 = .ok (.if_icmp .ge 55, 3) := dq_get (L := lzddX10_fewestTurners_0) 14 rfl zddX10_fewestTurners_0 rfl
theorem dX10_fewestTurners_28 : decode cX10_fewestTurners 28 = .ok (.iload_n 2, 1) := dq_get (L := lzddX10_fewestTurners_0) 15 rfl zddX10_fewestTurners_0 rfl
theorem dX10_fewestTurners_29 : decode cX10_fewestTurners 29 = .ok (.invokestatic 247, 3) := dq_get (L := lzddX10_fewestTurners_0) 16 rfl zddX10_fewestTurners_0 rfl
theorem dX10_fewestTurners_32 : decode cX10_fewestTurners 32 = .ok (.iload_n 1, 1) := dq_get (L := lzddX10_fewestTurners_0) 17 rfl zddX10_fewestTurners_0 rfl
theorem dX10_fewestTurners_33 : decode cX10_fewestTurners 33 = .ok (.invokestatic 247, 3) := dq_get (L := lzddX10_fewestTurners_0) 18 rfl zddX10_fewestTurners_0 rfl
theorem dX10_fewestTurners_36 : decode cX10_fewestTurners 36 = .ok (.if_icmp .ge 38, 3) := dq_get (L := lzddX10_fewestTurners_0) 19 rfl zddX10_fewestTurners_0 rfl
def lzddX10_fewestTurners_39 : List (Nat × Instr × Nat) := [(39, .aload_n 0, 1), (40, .getfield 68, 3), (43, .aload_n 0, 1), (44, .getfield 16, 3), (47, .aload_n 0, 1), (48, .invokevirtual 119, 3), (51, .aload_n 0, 1), (52, .getfield 35, 3), (55, .getfield 181, 3), (58, .iload_n 2, 1), (59, .invokevirtual 188, 3), (62, .aload_n 0, 1), (63, .getfield 68, 3), (66, .invokevirtual 374, 3), (69, .ifCond .ne 5, 3), (72, .iload_n 2, 1), (73, .istore_n 1, 1), (74, .iinc 2 1, 3), (77, .goto (-57), 3), (80, .iload_n 1, 1)]
theorem zddX10_fewestTurners_39 : dqW lzddX10_fewestTurners_39 (cX10_fewestTurners.data.toList.drop 39) 39 = true := by decide +kernel
theorem dX10_fewestTurners_39 : decode cX10_fewestTurners 39 = .ok (.aload_n 0, 1) := dq_get (L := lzddX10_fewestTurners_39) 0 rfl zddX10_fewestTurners_39 rfl
theorem dX10_fewestTurners_40 : decode cX10_fewestTurners 40 = .ok (.getfield 68, 3) := dq_get (L := lzddX10_fewestTurners_39) 1 rfl zddX10_fewestTurners_39 rfl
theorem dX10_fewestTurners_43 : decode cX10_fewestTurners 43 = .ok (.aload_n 0, 1) := dq_get (L := lzddX10_fewestTurners_39) 2 rfl zddX10_fewestTurners_39 rfl
theorem dX10_fewestTurners_44 : decode cX10_fewestTurners 44 = .ok (.getfield 16, 3) := dq_get (L := lzddX10_fewestTurners_39) 3 rfl zddX10_fewestTurners_39 rfl
theorem dX10_fewestTurners_47 : decode cX10_fewestTurners 47 = .ok (.aload_n 0, 1) := dq_get (L := lzddX10_fewestTurners_39) 4 rfl zddX10_fewestTurners_39 rfl
theorem dX10_fewestTurners_48 : decode cX10_fewestTurners 48 = .ok (.invokevirtual 119, 3) := dq_get (L := lzddX10_fewestTurners_39) 5 rfl zddX10_fewestTurners_39 rfl
theorem dX10_fewestTurners_51 : decode cX10_fewestTurners 51 = .ok (.aload_n 0, 1) := dq_get (L := lzddX10_fewestTurners_39) 6 rfl zddX10_fewestTurners_39 rfl
theorem dX10_fewestTurners_52 : decode cX10_fewestTurners 52 = .ok (.getfield 35, 3) := dq_get (L := lzddX10_fewestTurners_39) 7 rfl zddX10_fewestTurners_39 rfl
theorem dX10_fewestTurners_55 : decode cX10_fewestTurners 55 = .ok (.getfield 181, 3) := dq_get (L := lzddX10_fewestTurners_39) 8 rfl zddX10_fewestTurners_39 rfl
theorem dX10_fewestTurners_58 : decode cX10_fewestTurners 58 = .ok (.iload_n 2, 1) := dq_get (L := lzddX10_fewestTurners_39) 9 rfl zddX10_fewestTurners_39 rfl
theorem dX10_fewestTurners_59 : decode cX10_fewestTurners 59 = .ok (.invokevirtual 188, 3) := dq_get (L := lzddX10_fewestTurners_39) 10 rfl zddX10_fewestTurners_39 rfl
theorem dX10_fewestTurners_62 : decode cX10_fewestTurners 62 = .ok (.aload_n 0, 1) := dq_get (L := lzddX10_fewestTurners_39) 11 rfl zddX10_fewestTurners_39 rfl
theorem dX10_fewestTurners_63 : decode cX10_fewestTurners 63 = .ok (.getfield 68, 3) := dq_get (L := lzddX10_fewestTurners_39) 12 rfl zddX10_fewestTurners_39 rfl
theorem dX10_fewestTurners_66 : decode cX10_fewestTurners 66 = .ok (.invokevirtual 374, 3) := dq_get (L := lzddX10_fewestTurners_39) 13 rfl zddX10_fewestTurners_39 rfl
theorem dX10_fewestTurners_69 : decode cX10_fewestTurners 69 = .ok (.ifCond .ne 5, 3) := dq_get (L := lzddX10_fewestTurners_39) 14 rfl zddX10_fewestTurners_39 rfl
theorem dX10_fewestTurners_72 : decode cX10_fewestTurners 72 = .ok (.iload_n 2, 1) := dq_get (L := lzddX10_fewestTurners_39) 15 rfl zddX10_fewestTurners_39 rfl
theorem dX10_fewestTurners_73 : decode cX10_fewestTurners 73 = .ok (.istore_n 1, 1) := dq_get (L := lzddX10_fewestTurners_39) 16 rfl zddX10_fewestTurners_39 rfl
theorem dX10_fewestTurners_74 : decode cX10_fewestTurners 74 = .ok (.iinc 2 1, 3) := dq_get (L := lzddX10_fewestTurners_39) 17 rfl zddX10_fewestTurners_39 rfl
theorem dX10_fewestTurners_77 : decode cX10_fewestTurners 77 = .ok (.goto (-57), 3) := dq_get (L := lzddX10_fewestTurners_39) 18 rfl zddX10_fewestTurners_39 rfl
theorem dX10_fewestTurners_80 : decode cX10_fewestTurners 80 = .ok (.iload_n 1, 1) := dq_get (L := lzddX10_fewestTurners_39) 19 rfl zddX10_fewestTurners_39 rfl
def lzddX10_fewestTurners_81 : List (Nat × Instr × Nat) := [(81, .ireturn, 1)]
theorem zddX10_fewestTurners_81 : dqW lzddX10_fewestTurners_81 (cX10_fewestTurners.data.toList.drop 81) 81 = true := by decide +kernel
theorem dX10_fewestTurners_81 : decode cX10_fewestTurners 81 = .ok (.ireturn, 1) := dq_get (L := lzddX10_fewestTurners_81) 0 rfl zddX10_fewestTurners_81 rfl
def lzddX10_fits_0 : List (Nat × Instr × Nat) := [(0, .aload_n 0, 1), (1, .iload_n 1, 1), (2, .invokevirtual 252, 3), (5, .ifCond .ne 9, 3), (8, .aload_n 0, 1), (9, .iconst 1, 1), (10, .invokevirtual 79, 3), (13, .ireturn, 1), (14, .aload_n 0, 1), (15, .aload_n 0, 1), (16, .invokevirtual 155, 3), (19, .aload_n 0, 1), (20, .getfield 16, 3), (23, .getfield 255, 3), (26, .iload_n 1, 1), (27, .aaload, 1), (28, .invokevirtual 259, 3), (31, .invokevirtual 109, 3), (34, .ireturn, 1)]
theorem zddX10_fits_0 : dqW lzddX10_fits_0 (cX10_fits.data.toList.drop 0) 0 = true := by decide +kernel
theorem dX10_fits_0 : decode cX10_fits 0 = .ok (.aload_n 0, 1) := dq_get (L := lzddX10_fits_0) 0 rfl zddX10_fits_0 rfl
theorem dX10_fits_1 : decode cX10_fits 1 = .ok (.iload_n 1, 1) := dq_get (L := lzddX10_fits_0) 1 rfl zddX10_fits_0 rfl
theorem dX10_fits_2 : decode cX10_fits 2 = .ok (.invokevirtual 252, 3) := dq_get (L := lzddX10_fits_0) 2 rfl zddX10_fits_0 rfl
theorem dX10_fits_5 : decode cX10_fits 5 = .ok (.ifCond .ne 9, 3) := dq_get (L := lzddX10_fits_0) 3 rfl zddX10_fits_0 rfl
theorem dX10_fits_8 : decode cX10_fits 8 = .ok (.aload_n 0, 1) := dq_get (L := lzddX10_fits_0) 4 rfl zddX10_fits_0 rfl
theorem dX10_fits_9 : decode cX10_fits 9 = .ok (.iconst 1, 1) := dq_get (L := lzddX10_fits_0) 5 rfl zddX10_fits_0 rfl
theorem dX10_fits_10 : decode cX10_fits 10 = .ok (.invokevirtual 79, 3) := dq_get (L := lzddX10_fits_0) 6 rfl zddX10_fits_0 rfl
theorem dX10_fits_13 : decode cX10_fits 13 = .ok (.ireturn, 1) := dq_get (L := lzddX10_fits_0) 7 rfl zddX10_fits_0 rfl
theorem dX10_fits_14 : decode cX10_fits 14 = .ok (.aload_n 0, 1) := dq_get (L := lzddX10_fits_0) 8 rfl zddX10_fits_0 rfl
theorem dX10_fits_15 : decode cX10_fits 15 = .ok (.aload_n 0, 1) := dq_get (L := lzddX10_fits_0) 9 rfl zddX10_fits_0 rfl
theorem dX10_fits_16 : decode cX10_fits 16 = .ok (.invokevirtual 155, 3) := dq_get (L := lzddX10_fits_0) 10 rfl zddX10_fits_0 rfl
theorem dX10_fits_19 : decode cX10_fits 19 = .ok (.aload_n 0, 1) := dq_get (L := lzddX10_fits_0) 11 rfl zddX10_fits_0 rfl
theorem dX10_fits_20 : decode cX10_fits 20 = .ok (.getfield 16, 3) := dq_get (L := lzddX10_fits_0) 12 rfl zddX10_fits_0 rfl
theorem dX10_fits_23 : decode cX10_fits 23 = .ok (.getfield 255, 3) := dq_get (L := lzddX10_fits_0) 13 rfl zddX10_fits_0 rfl
theorem dX10_fits_26 : decode cX10_fits 26 = .ok (.iload_n 1, 1) := dq_get (L := lzddX10_fits_0) 14 rfl zddX10_fits_0 rfl
theorem dX10_fits_27 : decode cX10_fits 27 = .ok (.aaload, 1) := dq_get (L := lzddX10_fits_0) 15 rfl zddX10_fits_0 rfl
theorem dX10_fits_28 : decode cX10_fits 28 = .ok (.invokevirtual 259, 3) := dq_get (L := lzddX10_fits_0) 16 rfl zddX10_fits_0 rfl
theorem dX10_fits_31 : decode cX10_fits 31 = .ok (.invokevirtual 109, 3) := dq_get (L := lzddX10_fits_0) 17 rfl zddX10_fits_0 rfl
theorem dX10_fits_34 : decode cX10_fits 34 = .ok (.ireturn, 1) := dq_get (L := lzddX10_fits_0) 18 rfl zddX10_fits_0 rfl
def lzddX10_isCheese_0 : List (Nat × Instr × Nat) := [(0, .iload_n 1, 1), (1, .ifCond .lt 18, 3), (4, .iload_n 1, 1), (5, .aload_n 0, 1), (6, .getfield 16, 3), (9, .getfield 106, 3), (12, .if_icmp .ge 7, 3), (15, .iconst 1, 1), (16, .goto 4, 3), (19, .iconst 0, 1), (20, .ireturn, 1)]
theorem zddX10_isCheese_0 : dqW lzddX10_isCheese_0 (cX10_isCheese.data.toList.drop 0) 0 = true := by decide +kernel
theorem dX10_isCheese_0 : decode cX10_isCheese 0 = .ok (.iload_n 1, 1) := dq_get (L := lzddX10_isCheese_0) 0 rfl zddX10_isCheese_0 rfl
theorem dX10_isCheese_1 : decode cX10_isCheese 1 = .ok (.ifCond .lt 18, 3) := dq_get (L := lzddX10_isCheese_0) 1 rfl zddX10_isCheese_0 rfl
theorem dX10_isCheese_4 : decode cX10_isCheese 4 = .ok (.iload_n 1, 1) := dq_get (L := lzddX10_isCheese_0) 2 rfl zddX10_isCheese_0 rfl
theorem dX10_isCheese_5 : decode cX10_isCheese 5 = .ok (.aload_n 0, 1) := dq_get (L := lzddX10_isCheese_0) 3 rfl zddX10_isCheese_0 rfl
theorem dX10_isCheese_6 : decode cX10_isCheese 6 = .ok (.getfield 16, 3) := dq_get (L := lzddX10_isCheese_0) 4 rfl zddX10_isCheese_0 rfl
theorem dX10_isCheese_9 : decode cX10_isCheese 9 = .ok (.getfield 106, 3) := dq_get (L := lzddX10_isCheese_0) 5 rfl zddX10_isCheese_0 rfl
theorem dX10_isCheese_12 : decode cX10_isCheese 12 = .ok (.if_icmp .ge 7, 3) := dq_get (L := lzddX10_isCheese_0) 6 rfl zddX10_isCheese_0 rfl
theorem dX10_isCheese_15 : decode cX10_isCheese 15 = .ok (.iconst 1, 1) := dq_get (L := lzddX10_isCheese_0) 7 rfl zddX10_isCheese_0 rfl
theorem dX10_isCheese_16 : decode cX10_isCheese 16 = .ok (.goto 4, 3) := dq_get (L := lzddX10_isCheese_0) 8 rfl zddX10_isCheese_0 rfl
theorem dX10_isCheese_19 : decode cX10_isCheese 19 = .ok (.iconst 0, 1) := dq_get (L := lzddX10_isCheese_0) 9 rfl zddX10_isCheese_0 rfl
theorem dX10_isCheese_20 : decode cX10_isCheese 20 = .ok (.ireturn, 1) := dq_get (L := lzddX10_isCheese_0) 10 rfl zddX10_isCheese_0 rfl
def lzddX10_isEvent_0 : List (Nat × Instr × Nat) := [(0, .iload_n 1, 1), (1, .ifCond .lt 15, 3), (4, .iload_n 1, 1), (5, .aload_n 0, 1), (6, .invokevirtual 225, 3), (9, .if_icmp .ge 7, 3), (12, .iconst 1, 1), (13, .goto 4, 3), (16, .iconst 0, 1), (17, .ireturn, 1)]
theorem zddX10_isEvent_0 : dqW lzddX10_isEvent_0 (cX10_isEvent.data.toList.drop 0) 0 = true := by decide +kernel
theorem dX10_isEvent_0 : decode cX10_isEvent 0 = .ok (.iload_n 1, 1) := dq_get (L := lzddX10_isEvent_0) 0 rfl zddX10_isEvent_0 rfl
theorem dX10_isEvent_1 : decode cX10_isEvent 1 = .ok (.ifCond .lt 15, 3) := dq_get (L := lzddX10_isEvent_0) 1 rfl zddX10_isEvent_0 rfl
theorem dX10_isEvent_4 : decode cX10_isEvent 4 = .ok (.iload_n 1, 1) := dq_get (L := lzddX10_isEvent_0) 2 rfl zddX10_isEvent_0 rfl
theorem dX10_isEvent_5 : decode cX10_isEvent 5 = .ok (.aload_n 0, 1) := dq_get (L := lzddX10_isEvent_0) 3 rfl zddX10_isEvent_0 rfl
theorem dX10_isEvent_6 : decode cX10_isEvent 6 = .ok (.invokevirtual 225, 3) := dq_get (L := lzddX10_isEvent_0) 4 rfl zddX10_isEvent_0 rfl
theorem dX10_isEvent_9 : decode cX10_isEvent 9 = .ok (.if_icmp .ge 7, 3) := dq_get (L := lzddX10_isEvent_0) 5 rfl zddX10_isEvent_0 rfl
theorem dX10_isEvent_12 : decode cX10_isEvent 12 = .ok (.iconst 1, 1) := dq_get (L := lzddX10_isEvent_0) 6 rfl zddX10_isEvent_0 rfl
theorem dX10_isEvent_13 : decode cX10_isEvent 13 = .ok (.goto 4, 3) := dq_get (L := lzddX10_isEvent_0) 7 rfl zddX10_isEvent_0 rfl
theorem dX10_isEvent_16 : decode cX10_isEvent 16 = .ok (.iconst 0, 1) := dq_get (L := lzddX10_isEvent_0) 8 rfl zddX10_isEvent_0 rfl
theorem dX10_isEvent_17 : decode cX10_isEvent 17 = .ok (.ireturn, 1) := dq_get (L := lzddX10_isEvent_0) 9 rfl zddX10_isEvent_0 rfl
def lzddX10_isHut_0 : List (Nat × Instr × Nat) := [(0, .iload_n 1, 1), (1, .ifCond .lt 18, 3), (4, .iload_n 1, 1), (5, .aload_n 0, 1), (6, .getfield 16, 3), (9, .getfield 332, 3), (12, .if_icmp .ge 7, 3), (15, .iconst 1, 1), (16, .goto 4, 3), (19, .iconst 0, 1), (20, .ireturn, 1)]
theorem zddX10_isHut_0 : dqW lzddX10_isHut_0 (cX10_isHut.data.toList.drop 0) 0 = true := by decide +kernel
theorem dX10_isHut_0 : decode cX10_isHut 0 = .ok (.iload_n 1, 1) := dq_get (L := lzddX10_isHut_0) 0 rfl zddX10_isHut_0 rfl
theorem dX10_isHut_1 : decode cX10_isHut 1 = .ok (.ifCond .lt 18, 3) := dq_get (L := lzddX10_isHut_0) 1 rfl zddX10_isHut_0 rfl
theorem dX10_isHut_4 : decode cX10_isHut 4 = .ok (.iload_n 1, 1) := dq_get (L := lzddX10_isHut_0) 2 rfl zddX10_isHut_0 rfl
theorem dX10_isHut_5 : decode cX10_isHut 5 = .ok (.aload_n 0, 1) := dq_get (L := lzddX10_isHut_0) 3 rfl zddX10_isHut_0 rfl
theorem dX10_isHut_6 : decode cX10_isHut 6 = .ok (.getfield 16, 3) := dq_get (L := lzddX10_isHut_0) 4 rfl zddX10_isHut_0 rfl
theorem dX10_isHut_9 : decode cX10_isHut 9 = .ok (.getfield 332, 3) := dq_get (L := lzddX10_isHut_0) 5 rfl zddX10_isHut_0 rfl
theorem dX10_isHut_12 : decode cX10_isHut 12 = .ok (.if_icmp .ge 7, 3) := dq_get (L := lzddX10_isHut_0) 6 rfl zddX10_isHut_0 rfl
theorem dX10_isHut_15 : decode cX10_isHut 15 = .ok (.iconst 1, 1) := dq_get (L := lzddX10_isHut_0) 7 rfl zddX10_isHut_0 rfl
theorem dX10_isHut_16 : decode cX10_isHut 16 = .ok (.goto 4, 3) := dq_get (L := lzddX10_isHut_0) 8 rfl zddX10_isHut_0 rfl
theorem dX10_isHut_19 : decode cX10_isHut 19 = .ok (.iconst 0, 1) := dq_get (L := lzddX10_isHut_0) 9 rfl zddX10_isHut_0 rfl
theorem dX10_isHut_20 : decode cX10_isHut 20 = .ok (.ireturn, 1) := dq_get (L := lzddX10_isHut_0) 10 rfl zddX10_isHut_0 rfl
def lzddX10_isMinute_0 : List (Nat × Instr × Nat) := [(0, .iload_n 1, 1), (1, .ifCond .lt 18, 3), (4, .iload_n 1, 1), (5, .aload_n 0, 1), (6, .getfield 16, 3), (9, .getfield 146, 3), (12, .if_icmp .ge 7, 3), (15, .iconst 1, 1), (16, .goto 4, 3), (19, .iconst 0, 1), (20, .ireturn, 1)]
theorem zddX10_isMinute_0 : dqW lzddX10_isMinute_0 (cX10_isMinute.data.toList.drop 0) 0 = true := by decide +kernel
theorem dX10_isMinute_0 : decode cX10_isMinute 0 = .ok (.iload_n 1, 1) := dq_get (L := lzddX10_isMinute_0) 0 rfl zddX10_isMinute_0 rfl
theorem dX10_isMinute_1 : decode cX10_isMinute 1 = .ok (.ifCond .lt 18, 3) := dq_get (L := lzddX10_isMinute_0) 1 rfl zddX10_isMinute_0 rfl
theorem dX10_isMinute_4 : decode cX10_isMinute 4 = .ok (.iload_n 1, 1) := dq_get (L := lzddX10_isMinute_0) 2 rfl zddX10_isMinute_0 rfl
theorem dX10_isMinute_5 : decode cX10_isMinute 5 = .ok (.aload_n 0, 1) := dq_get (L := lzddX10_isMinute_0) 3 rfl zddX10_isMinute_0 rfl
theorem dX10_isMinute_6 : decode cX10_isMinute 6 = .ok (.getfield 16, 3) := dq_get (L := lzddX10_isMinute_0) 4 rfl zddX10_isMinute_0 rfl
theorem dX10_isMinute_9 : decode cX10_isMinute 9 = .ok (.getfield 146, 3) := dq_get (L := lzddX10_isMinute_0) 5 rfl zddX10_isMinute_0 rfl
theorem dX10_isMinute_12 : decode cX10_isMinute 12 = .ok (.if_icmp .ge 7, 3) := dq_get (L := lzddX10_isMinute_0) 6 rfl zddX10_isMinute_0 rfl
theorem dX10_isMinute_15 : decode cX10_isMinute 15 = .ok (.iconst 1, 1) := dq_get (L := lzddX10_isMinute_0) 7 rfl zddX10_isMinute_0 rfl
theorem dX10_isMinute_16 : decode cX10_isMinute 16 = .ok (.goto 4, 3) := dq_get (L := lzddX10_isMinute_0) 8 rfl zddX10_isMinute_0 rfl
theorem dX10_isMinute_19 : decode cX10_isMinute 19 = .ok (.iconst 0, 1) := dq_get (L := lzddX10_isMinute_0) 9 rfl zddX10_isMinute_0 rfl
theorem dX10_isMinute_20 : decode cX10_isMinute 20 = .ok (.ireturn, 1) := dq_get (L := lzddX10_isMinute_0) 10 rfl zddX10_isMinute_0 rfl
def lzddX10_isSeed_0 : List (Nat × Instr × Nat) := [(0, .iload_n 0, 1), (1, .ifCond .lt 14, 3), (4, .iload_n 0, 1), (5, .ldc_w 357, 3), (8, .if_icmp .ge 7, 3), (11, .iconst 1, 1), (12, .goto 4, 3), (15, .iconst 0, 1), (16, .ireturn, 1)]
theorem zddX10_isSeed_0 : dqW lzddX10_isSeed_0 (cX10_isSeed.data.toList.drop 0) 0 = true := by decide +kernel
theorem dX10_isSeed_0 : decode cX10_isSeed 0 = .ok (.iload_n 0, 1) := dq_get (L := lzddX10_isSeed_0) 0 rfl zddX10_isSeed_0 rfl
theorem dX10_isSeed_1 : decode cX10_isSeed 1 = .ok (.ifCond .lt 14, 3) := dq_get (L := lzddX10_isSeed_0) 1 rfl zddX10_isSeed_0 rfl
theorem dX10_isSeed_4 : decode cX10_isSeed 4 = .ok (.iload_n 0, 1) := dq_get (L := lzddX10_isSeed_0) 2 rfl zddX10_isSeed_0 rfl
theorem dX10_isSeed_5 : decode cX10_isSeed 5 = .ok (.ldc_w 357, 3) := dq_get (L := lzddX10_isSeed_0) 3 rfl zddX10_isSeed_0 rfl
theorem dX10_isSeed_8 : decode cX10_isSeed 8 = .ok (.if_icmp .ge 7, 3) := dq_get (L := lzddX10_isSeed_0) 4 rfl zddX10_isSeed_0 rfl
theorem dX10_isSeed_11 : decode cX10_isSeed 11 = .ok (.iconst 1, 1) := dq_get (L := lzddX10_isSeed_0) 5 rfl zddX10_isSeed_0 rfl
theorem dX10_isSeed_12 : decode cX10_isSeed 12 = .ok (.goto 4, 3) := dq_get (L := lzddX10_isSeed_0) 6 rfl zddX10_isSeed_0 rfl
theorem dX10_isSeed_15 : decode cX10_isSeed 15 = .ok (.iconst 0, 1) := dq_get (L := lzddX10_isSeed_0) 7 rfl zddX10_isSeed_0 rfl
theorem dX10_isSeed_16 : decode cX10_isSeed 16 = .ok (.ireturn, 1) := dq_get (L := lzddX10_isSeed_0) 8 rfl zddX10_isSeed_0 rfl
def lzddX10_isSlice_0 : List (Nat × Instr × Nat) := [(0, .iload_n 1, 1), (1, .ifCond .lt 18, 3), (4, .iload_n 1, 1), (5, .aload_n 0, 1), (6, .getfield 16, 3), (9, .getfield 338, 3), (12, .if_icmp .ge 7, 3), (15, .iconst 1, 1), (16, .goto 4, 3), (19, .iconst 0, 1), (20, .ireturn, 1)]
theorem zddX10_isSlice_0 : dqW lzddX10_isSlice_0 (cX10_isSlice.data.toList.drop 0) 0 = true := by decide +kernel
theorem dX10_isSlice_0 : decode cX10_isSlice 0 = .ok (.iload_n 1, 1) := dq_get (L := lzddX10_isSlice_0) 0 rfl zddX10_isSlice_0 rfl
theorem dX10_isSlice_1 : decode cX10_isSlice 1 = .ok (.ifCond .lt 18, 3) := dq_get (L := lzddX10_isSlice_0) 1 rfl zddX10_isSlice_0 rfl
theorem dX10_isSlice_4 : decode cX10_isSlice 4 = .ok (.iload_n 1, 1) := dq_get (L := lzddX10_isSlice_0) 2 rfl zddX10_isSlice_0 rfl
theorem dX10_isSlice_5 : decode cX10_isSlice 5 = .ok (.aload_n 0, 1) := dq_get (L := lzddX10_isSlice_0) 3 rfl zddX10_isSlice_0 rfl
theorem dX10_isSlice_6 : decode cX10_isSlice 6 = .ok (.getfield 16, 3) := dq_get (L := lzddX10_isSlice_0) 4 rfl zddX10_isSlice_0 rfl
theorem dX10_isSlice_9 : decode cX10_isSlice 9 = .ok (.getfield 338, 3) := dq_get (L := lzddX10_isSlice_0) 5 rfl zddX10_isSlice_0 rfl
theorem dX10_isSlice_12 : decode cX10_isSlice 12 = .ok (.if_icmp .ge 7, 3) := dq_get (L := lzddX10_isSlice_0) 6 rfl zddX10_isSlice_0 rfl
theorem dX10_isSlice_15 : decode cX10_isSlice 15 = .ok (.iconst 1, 1) := dq_get (L := lzddX10_isSlice_0) 7 rfl zddX10_isSlice_0 rfl
theorem dX10_isSlice_16 : decode cX10_isSlice 16 = .ok (.goto 4, 3) := dq_get (L := lzddX10_isSlice_0) 8 rfl zddX10_isSlice_0 rfl
theorem dX10_isSlice_19 : decode cX10_isSlice 19 = .ok (.iconst 0, 1) := dq_get (L := lzddX10_isSlice_0) 9 rfl zddX10_isSlice_0 rfl
theorem dX10_isSlice_20 : decode cX10_isSlice 20 = .ok (.ireturn, 1) := dq_get (L := lzddX10_isSlice_0) 10 rfl zddX10_isSlice_0 rfl
def lzddX10_isTurner_0 : List (Nat × Instr × Nat) := [(0, .iload_n 1, 1), (1, .ifCond .lt 18, 3), (4, .iload_n 1, 1), (5, .aload_n 0, 1), (6, .getfield 16, 3), (9, .getfield 335, 3), (12, .if_icmp .ge 7, 3), (15, .iconst 1, 1), (16, .goto 4, 3), (19, .iconst 0, 1), (20, .ireturn, 1)]
theorem zddX10_isTurner_0 : dqW lzddX10_isTurner_0 (cX10_isTurner.data.toList.drop 0) 0 = true := by decide +kernel
theorem dX10_isTurner_0 : decode cX10_isTurner 0 = .ok (.iload_n 1, 1) := dq_get (L := lzddX10_isTurner_0) 0 rfl zddX10_isTurner_0 rfl
theorem dX10_isTurner_1 : decode cX10_isTurner 1 = .ok (.ifCond .lt 18, 3) := dq_get (L := lzddX10_isTurner_0) 1 rfl zddX10_isTurner_0 rfl
theorem dX10_isTurner_4 : decode cX10_isTurner 4 = .ok (.iload_n 1, 1) := dq_get (L := lzddX10_isTurner_0) 2 rfl zddX10_isTurner_0 rfl
theorem dX10_isTurner_5 : decode cX10_isTurner 5 = .ok (.aload_n 0, 1) := dq_get (L := lzddX10_isTurner_0) 3 rfl zddX10_isTurner_0 rfl
theorem dX10_isTurner_6 : decode cX10_isTurner 6 = .ok (.getfield 16, 3) := dq_get (L := lzddX10_isTurner_0) 4 rfl zddX10_isTurner_0 rfl
theorem dX10_isTurner_9 : decode cX10_isTurner 9 = .ok (.getfield 335, 3) := dq_get (L := lzddX10_isTurner_0) 5 rfl zddX10_isTurner_0 rfl
theorem dX10_isTurner_12 : decode cX10_isTurner 12 = .ok (.if_icmp .ge 7, 3) := dq_get (L := lzddX10_isTurner_0) 6 rfl zddX10_isTurner_0 rfl
theorem dX10_isTurner_15 : decode cX10_isTurner 15 = .ok (.iconst 1, 1) := dq_get (L := lzddX10_isTurner_0) 7 rfl zddX10_isTurner_0 rfl
theorem dX10_isTurner_16 : decode cX10_isTurner 16 = .ok (.goto 4, 3) := dq_get (L := lzddX10_isTurner_0) 8 rfl zddX10_isTurner_0 rfl
theorem dX10_isTurner_19 : decode cX10_isTurner 19 = .ok (.iconst 0, 1) := dq_get (L := lzddX10_isTurner_0) 9 rfl zddX10_isTurner_0 rfl
theorem dX10_isTurner_20 : decode cX10_isTurner 20 = .ok (.ireturn, 1) := dq_get (L := lzddX10_isTurner_0) 10 rfl zddX10_isTurner_0 rfl
def lzddX10_lift_0 : List (Nat × Instr × Nat) := [(0, .aload_n 0, 1), (1, .getfield 35, 3), (4, .getfield 272, 3), (7, .ifCond .ne 10, 3), (10, .aload_n 0, 1), (11, .bipush 6, 2), (13, .invokevirtual 281, 3), (16, .ireturn, 1), (17, .aload_n 0, 1), (18, .getfield 42, 3), (21, .aload_n 0, 1), (22, .getfield 35, 3), (25, .invokevirtual 284, 3), (28, .aload_n 0, 1), (29, .getfield 35, 3), (32, .dup, 1), (33, .getfield 272, 3), (36, .iconst 1, 1), (37, .isub, 1), (38, .putfield 272, 3)]
theorem zddX10_lift_0 : dqW lzddX10_lift_0 (cX10_lift.data.toList.drop 0) 0 = true := by decide +kernel
theorem dX10_lift_0 : decode cX10_lift 0 = .ok (.aload_n 0, 1) := dq_get (L := lzddX10_lift_0) 0 rfl zddX10_lift_0 rfl
theorem dX10_lift_1 : decode cX10_lift 1 = .ok (.getfield 35, 3) := dq_get (L := lzddX10_lift_0) 1 rfl zddX10_lift_0 rfl
theorem dX10_lift_4 : decode cX10_lift 4 = .ok (.getfield 272, 3) := dq_get (L := lzddX10_lift_0) 2 rfl zddX10_lift_0 rfl
theorem dX10_lift_7 : decode cX10_lift 7 = .ok (.ifCond .ne 10, 3) := dq_get (L := lzddX10_lift_0) 3 rfl zddX10_lift_0 rfl
theorem dX10_lift_10 : decode cX10_lift 10 = .ok (.aload_n 0, 1) := dq_get (L := lzddX10_lift_0) 4 rfl zddX10_lift_0 rfl
theorem dX10_lift_11 : decode cX10_lift 11 = .ok (.bipush 6, 2) := dq_get (L := lzddX10_lift_0) 5 rfl zddX10_lift_0 rfl
theorem dX10_lift_13 : decode cX10_lift 13 = .ok (.invokevirtual 281, 3) := dq_get (L := lzddX10_lift_0) 6 rfl zddX10_lift_0 rfl
theorem dX10_lift_16 : decode cX10_lift 16 = .ok (.ireturn, 1) := dq_get (L := lzddX10_lift_0) 7 rfl zddX10_lift_0 rfl
theorem dX10_lift_17 : decode cX10_lift 17 = .ok (.aload_n 0, 1) := dq_get (L := lzddX10_lift_0) 8 rfl zddX10_lift_0 rfl
theorem dX10_lift_18 : decode cX10_lift 18 = .ok (.getfield 42, 3) := dq_get (L := lzddX10_lift_0) 9 rfl zddX10_lift_0 rfl
theorem dX10_lift_21 : decode cX10_lift 21 = .ok (.aload_n 0, 1) := dq_get (L := lzddX10_lift_0) 10 rfl zddX10_lift_0 rfl
theorem dX10_lift_22 : decode cX10_lift 22 = .ok (.getfield 35, 3) := dq_get (L := lzddX10_lift_0) 11 rfl zddX10_lift_0 rfl
theorem dX10_lift_25 : decode cX10_lift 25 = .ok (.invokevirtual 284, 3) := dq_get (L := lzddX10_lift_0) 12 rfl zddX10_lift_0 rfl
theorem dX10_lift_28 : decode cX10_lift 28 = .ok (.aload_n 0, 1) := dq_get (L := lzddX10_lift_0) 13 rfl zddX10_lift_0 rfl
theorem dX10_lift_29 : decode cX10_lift 29 = .ok (.getfield 35, 3) := dq_get (L := lzddX10_lift_0) 14 rfl zddX10_lift_0 rfl
theorem dX10_lift_32 : decode cX10_lift 32 = .ok (.dup, 1) := dq_get (L := lzddX10_lift_0) 15 rfl zddX10_lift_0 rfl
theorem dX10_lift_33 : decode cX10_lift 33 = .ok (.getfield 272, 3) := dq_get (L := lzddX10_lift_0) 16 rfl zddX10_lift_0 rfl
theorem dX10_lift_36 : decode cX10_lift 36 = .ok (.iconst 1, 1) := dq_get (L := lzddX10_lift_0) 17 rfl zddX10_lift_0 rfl
theorem dX10_lift_37 : decode cX10_lift 37 = .ok (.isub, 1) := dq_get (L := lzddX10_lift_0) 18 rfl zddX10_lift_0 rfl
theorem dX10_lift_38 : decode cX10_lift 38 = .ok (.putfield 272, 3) := dq_get (L := lzddX10_lift_0) 19 rfl zddX10_lift_0 rfl
def lzddX10_lift_41 : List (Nat × Instr × Nat) := [(41, .aload_n 0, 1), (42, .invokevirtual 103, 3), (45, .aload_n 0, 1), (46, .invokevirtual 291, 3), (49, .ireturn, 1)]
theorem zddX10_lift_41 : dqW lzddX10_lift_41 (cX10_lift.data.toList.drop 41) 41 = true := by decide +kernel
theorem dX10_lift_41 : decode cX10_lift 41 = .ok (.aload_n 0, 1) := dq_get (L := lzddX10_lift_41) 0 rfl zddX10_lift_41 rfl
theorem dX10_lift_42 : decode cX10_lift 42 = .ok (.invokevirtual 103, 3) := dq_get (L := lzddX10_lift_41) 1 rfl zddX10_lift_41 rfl
theorem dX10_lift_45 : decode cX10_lift 45 = .ok (.aload_n 0, 1) := dq_get (L := lzddX10_lift_41) 2 rfl zddX10_lift_41 rfl
theorem dX10_lift_46 : decode cX10_lift 46 = .ok (.invokevirtual 291, 3) := dq_get (L := lzddX10_lift_41) 3 rfl zddX10_lift_41 rfl
theorem dX10_lift_49 : decode cX10_lift 49 = .ok (.ireturn, 1) := dq_get (L := lzddX10_lift_41) 4 rfl zddX10_lift_41 rfl
def lzddX10_light_0 : List (Nat × Instr × Nat) := [(0, .aload_n 0, 1), (1, .iload_n 1, 1), (2, .invokevirtual 126, 3), (5, .ifCond .ne 9, 3), (8, .aload_n 0, 1), (9, .iconst 1, 1), (10, .invokevirtual 79, 3), (13, .ireturn, 1), (14, .aload_n 0, 1), (15, .iload_n 2, 1), (16, .invokevirtual 115, 3), (19, .ifCond .ne 9, 3), (22, .aload_n 0, 1), (23, .iconst 2, 1), (24, .invokevirtual 79, 3), (27, .ireturn, 1), (28, .aload_n 0, 1), (29, .invokevirtual 119, 3), (32, .astore 4, 2), (34, .iload_n 3, 1)]
theorem zddX10_light_0 : dqW lzddX10_light_0 (cX10_light.data.toList.drop 0) 0 = true := by decide +kernel
theorem dX10_light_0 : decode cX10_light 0 = .ok (.aload_n 0, 1) := dq_get (L := lzddX10_light_0) 0 rfl zddX10_light_0 rfl
theorem dX10_light_1 : decode cX10_light 1 = .ok (.iload_n 1, 1) := dq_get (L := lzddX10_light_0) 1 rfl zddX10_light_0 rfl
theorem dX10_light_2 : decode cX10_light 2 = .ok (.invokevirtual 126, 3) := dq_get (L := lzddX10_light_0) 2 rfl zddX10_light_0 rfl
theorem dX10_light_5 : decode cX10_light 5 = .ok (.ifCond .ne 9, 3) := dq_get (L := lzddX10_light_0) 3 rfl zddX10_light_0 rfl
theorem dX10_light_8 : decode cX10_light 8 = .ok (.aload_n 0, 1) := dq_get (L := lzddX10_light_0) 4 rfl zddX10_light_0 rfl
theorem dX10_light_9 : decode cX10_light 9 = .ok (.iconst 1, 1) := dq_get (L := lzddX10_light_0) 5 rfl zddX10_light_0 rfl
theorem dX10_light_10 : decode cX10_light 10 = .ok (.invokevirtual 79, 3) := dq_get (L := lzddX10_light_0) 6 rfl zddX10_light_0 rfl
theorem dX10_light_13 : decode cX10_light 13 = .ok (.ireturn, 1) := dq_get (L := lzddX10_light_0) 7 rfl zddX10_light_0 rfl
theorem dX10_light_14 : decode cX10_light 14 = .ok (.aload_n 0, 1) := dq_get (L := lzddX10_light_0) 8 rfl zddX10_light_0 rfl
theorem dX10_light_15 : decode cX10_light 15 = .ok (.iload_n 2, 1) := dq_get (L := lzddX10_light_0) 9 rfl zddX10_light_0 rfl
theorem dX10_light_16 : decode cX10_light 16 = .ok (.invokevirtual 115, 3) := dq_get (L := lzddX10_light_0) 10 rfl zddX10_light_0 rfl
theorem dX10_light_19 : decode cX10_light 19 = .ok (.ifCond .ne 9, 3) := dq_get (L := lzddX10_light_0) 11 rfl zddX10_light_0 rfl
theorem dX10_light_22 : decode cX10_light 22 = .ok (.aload_n 0, 1) := dq_get (L := lzddX10_light_0) 12 rfl zddX10_light_0 rfl
theorem dX10_light_23 : decode cX10_light 23 = .ok (.iconst 2, 1) := dq_get (L := lzddX10_light_0) 13 rfl zddX10_light_0 rfl
theorem dX10_light_24 : decode cX10_light 24 = .ok (.invokevirtual 79, 3) := dq_get (L := lzddX10_light_0) 14 rfl zddX10_light_0 rfl
theorem dX10_light_27 : decode cX10_light 27 = .ok (.ireturn, 1) := dq_get (L := lzddX10_light_0) 15 rfl zddX10_light_0 rfl
theorem dX10_light_28 : decode cX10_light 28 = .ok (.aload_n 0, 1) := dq_get (L := lzddX10_light_0) 16 rfl zddX10_light_0 rfl
theorem dX10_light_29 : decode cX10_light 29 = .ok (.invokevirtual 119, 3) := dq_get (L := lzddX10_light_0) 17 rfl zddX10_light_0 rfl
theorem dX10_light_32 : decode cX10_light 32 = .ok (.astore 4, 2) := dq_get (L := lzddX10_light_0) 18 rfl zddX10_light_0 rfl
theorem dX10_light_34 : decode cX10_light 34 = .ok (.iload_n 3, 1) := dq_get (L := lzddX10_light_0) 19 rfl zddX10_light_0 rfl
def lzddX10_light_35 : List (Nat × Instr × Nat) := [(35, .ifCond .eq 11, 3), (38, .aload 4, 2), (40, .getfield 129, 3), (43, .goto 8, 3), (46, .aload 4, 2), (48, .getfield 133, 3), (51, .astore 5, 2), (53, .aload_n 0, 1), (54, .aload 5, 2), (56, .iload_n 2, 1), (57, .iaload, 1), (58, .iload_n 1, 1), (59, .invokestatic 136, 3), (62, .invokevirtual 109, 3), (65, .ireturn, 1)]
theorem zddX10_light_35 : dqW lzddX10_light_35 (cX10_light.data.toList.drop 35) 35 = true := by decide +kernel
theorem dX10_light_35 : decode cX10_light 35 = .ok (.ifCond .eq 11, 3) := dq_get (L := lzddX10_light_35) 0 rfl zddX10_light_35 rfl
theorem dX10_light_38 : decode cX10_light 38 = .ok (.aload 4, 2) := dq_get (L := lzddX10_light_35) 1 rfl zddX10_light_35 rfl
theorem dX10_light_40 : decode cX10_light 40 = .ok (.getfield 129, 3) := dq_get (L := lzddX10_light_35) 2 rfl zddX10_light_35 rfl
theorem dX10_light_43 : decode cX10_light 43 = .ok (.goto 8, 3) := dq_get (L := lzddX10_light_35) 3 rfl zddX10_light_35 rfl
theorem dX10_light_46 : decode cX10_light 46 = .ok (.aload 4, 2) := dq_get (L := lzddX10_light_35) 4 rfl zddX10_light_35 rfl
theorem dX10_light_48 : decode cX10_light 48 = .ok (.getfield 133, 3) := dq_get (L := lzddX10_light_35) 5 rfl zddX10_light_35 rfl
theorem dX10_light_51 : decode cX10_light 51 = .ok (.astore 5, 2) := dq_get (L := lzddX10_light_35) 6 rfl zddX10_light_35 rfl
theorem dX10_light_53 : decode cX10_light 53 = .ok (.aload_n 0, 1) := dq_get (L := lzddX10_light_35) 7 rfl zddX10_light_35 rfl
theorem dX10_light_54 : decode cX10_light 54 = .ok (.aload 5, 2) := dq_get (L := lzddX10_light_35) 8 rfl zddX10_light_35 rfl
theorem dX10_light_56 : decode cX10_light 56 = .ok (.iload_n 2, 1) := dq_get (L := lzddX10_light_35) 9 rfl zddX10_light_35 rfl
theorem dX10_light_57 : decode cX10_light 57 = .ok (.iaload, 1) := dq_get (L := lzddX10_light_35) 10 rfl zddX10_light_35 rfl
theorem dX10_light_58 : decode cX10_light 58 = .ok (.iload_n 1, 1) := dq_get (L := lzddX10_light_35) 11 rfl zddX10_light_35 rfl
theorem dX10_light_59 : decode cX10_light 59 = .ok (.invokestatic 136, 3) := dq_get (L := lzddX10_light_35) 12 rfl zddX10_light_35 rfl
theorem dX10_light_62 : decode cX10_light 62 = .ok (.invokevirtual 109, 3) := dq_get (L := lzddX10_light_35) 13 rfl zddX10_light_35 rfl
theorem dX10_light_65 : decode cX10_light 65 = .ok (.ireturn, 1) := dq_get (L := lzddX10_light_35) 14 rfl zddX10_light_35 rfl
def lzddX10_mark_0 : List (Nat × Instr × Nat) := [(0, .aload_n 0, 1), (1, .getfield 95, 3), (4, .ifCond .ne 9, 3), (7, .aload_n 0, 1), (8, .iconst 1, 1), (9, .invokevirtual 79, 3), (12, .ireturn, 1), (13, .aload_n 0, 1), (14, .getfield 42, 3), (17, .aload_n 0, 1), (18, .getfield 35, 3), (21, .invokevirtual 303, 3), (24, .istore_n 1, 1), (25, .iload_n 1, 1), (26, .iconst (-1), 1), (27, .if_icmp .ne 11, 3), (30, .aload_n 0, 1), (31, .iconst 3, 1), (32, .invokevirtual 79, 3), (35, .goto 8, 3)]
theorem zddX10_mark_0 : dqW lzddX10_mark_0 (cX10_mark.data.toList.drop 0) 0 = true := by decide +kernel
theorem dX10_mark_0 : decode cX10_mark 0 = .ok (.aload_n 0, 1) := dq_get (L := lzddX10_mark_0) 0 rfl zddX10_mark_0 rfl
theorem dX10_mark_1 : decode cX10_mark 1 = .ok (.getfield 95, 3) := dq_get (L := lzddX10_mark_0) 1 rfl zddX10_mark_0 rfl
theorem dX10_mark_4 : decode cX10_mark 4 = .ok (.ifCond .ne 9, 3) := dq_get (L := lzddX10_mark_0) 2 rfl zddX10_mark_0 rfl
theorem dX10_mark_7 : decode cX10_mark 7 = .ok (.aload_n 0, 1) := dq_get (L := lzddX10_mark_0) 3 rfl zddX10_mark_0 rfl
theorem dX10_mark_8 : decode cX10_mark 8 = .ok (.iconst 1, 1) := dq_get (L := lzddX10_mark_0) 4 rfl zddX10_mark_0 rfl
theorem dX10_mark_9 : decode cX10_mark 9 = .ok (.invokevirtual 79, 3) := dq_get (L := lzddX10_mark_0) 5 rfl zddX10_mark_0 rfl
theorem dX10_mark_12 : decode cX10_mark 12 = .ok (.ireturn, 1) := dq_get (L := lzddX10_mark_0) 6 rfl zddX10_mark_0 rfl
theorem dX10_mark_13 : decode cX10_mark 13 = .ok (.aload_n 0, 1) := dq_get (L := lzddX10_mark_0) 7 rfl zddX10_mark_0 rfl
theorem dX10_mark_14 : decode cX10_mark 14 = .ok (.getfield 42, 3) := dq_get (L := lzddX10_mark_0) 8 rfl zddX10_mark_0 rfl
theorem dX10_mark_17 : decode cX10_mark 17 = .ok (.aload_n 0, 1) := dq_get (L := lzddX10_mark_0) 9 rfl zddX10_mark_0 rfl
theorem dX10_mark_18 : decode cX10_mark 18 = .ok (.getfield 35, 3) := dq_get (L := lzddX10_mark_0) 10 rfl zddX10_mark_0 rfl
theorem dX10_mark_21 : decode cX10_mark 21 = .ok (.invokevirtual 303, 3) := dq_get (L := lzddX10_mark_0) 11 rfl zddX10_mark_0 rfl
theorem dX10_mark_24 : decode cX10_mark 24 = .ok (.istore_n 1, 1) := dq_get (L := lzddX10_mark_0) 12 rfl zddX10_mark_0 rfl
theorem dX10_mark_25 : decode cX10_mark 25 = .ok (.iload_n 1, 1) := dq_get (L := lzddX10_mark_0) 13 rfl zddX10_mark_0 rfl
theorem dX10_mark_26 : decode cX10_mark 26 = .ok (.iconst (-1), 1) := dq_get (L := lzddX10_mark_0) 14 rfl zddX10_mark_0 rfl
theorem dX10_mark_27 : decode cX10_mark 27 = .ok (.if_icmp .ne 11, 3) := dq_get (L := lzddX10_mark_0) 15 rfl zddX10_mark_0 rfl
theorem dX10_mark_30 : decode cX10_mark 30 = .ok (.aload_n 0, 1) := dq_get (L := lzddX10_mark_0) 16 rfl zddX10_mark_0 rfl
theorem dX10_mark_31 : decode cX10_mark 31 = .ok (.iconst 3, 1) := dq_get (L := lzddX10_mark_0) 17 rfl zddX10_mark_0 rfl
theorem dX10_mark_32 : decode cX10_mark 32 = .ok (.invokevirtual 79, 3) := dq_get (L := lzddX10_mark_0) 18 rfl zddX10_mark_0 rfl
theorem dX10_mark_35 : decode cX10_mark 35 = .ok (.goto 8, 3) := dq_get (L := lzddX10_mark_0) 19 rfl zddX10_mark_0 rfl
def lzddX10_mark_38 : List (Nat × Instr × Nat) := [(38, .aload_n 0, 1), (39, .iload_n 1, 1), (40, .invokevirtual 109, 3), (43, .ireturn, 1)]
theorem zddX10_mark_38 : dqW lzddX10_mark_38 (cX10_mark.data.toList.drop 38) 38 = true := by decide +kernel
theorem dX10_mark_38 : decode cX10_mark 38 = .ok (.aload_n 0, 1) := dq_get (L := lzddX10_mark_38) 0 rfl zddX10_mark_38 rfl
theorem dX10_mark_39 : decode cX10_mark 39 = .ok (.iload_n 1, 1) := dq_get (L := lzddX10_mark_38) 1 rfl zddX10_mark_38 rfl
theorem dX10_mark_40 : decode cX10_mark 40 = .ok (.invokevirtual 109, 3) := dq_get (L := lzddX10_mark_38) 2 rfl zddX10_mark_38 rfl
theorem dX10_mark_43 : decode cX10_mark 43 = .ok (.ireturn, 1) := dq_get (L := lzddX10_mark_38) 3 rfl zddX10_mark_38 rfl
def lzddX10_nights_0 : List (Nat × Instr × Nat) := [(0, .aload_n 0, 1), (1, .getfield 95, 3), (4, .ifCond .ne 9, 3), (7, .aload_n 0, 1), (8, .iconst 1, 1), (9, .invokevirtual 178, 3), (12, .ireturn, 1), (13, .iload_n 1, 1), (14, .invokestatic 266, 3), (17, .ifCond .eq 24, 3), (20, .iload_n 2, 1), (21, .iconst 1, 1), (22, .if_icmp .lt 19, 3), (25, .iload_n 2, 1), (26, .bipush 8, 2), (28, .if_icmp .gt 13, 3), (31, .iload_n 3, 1), (32, .ifCond .lt 9, 3), (35, .iload_n 3, 1), (36, .bipush 6, 2)]
theorem zddX10_nights_0 : dqW lzddX10_nights_0 (cX10_nights.data.toList.drop 0) 0 = true := by decide +kernel
theorem dX10_nights_0 : decode cX10_nights 0 = .ok (.aload_n 0, 1) := dq_get (L := lzddX10_nights_0) 0 rfl zddX10_nights_0 rfl
theorem dX10_nights_1 : decode cX10_nights 1 = .ok (.getfield 95, 3) := dq_get (L := lzddX10_nights_0) 1 rfl zddX10_nights_0 rfl
theorem dX10_nights_4 : decode cX10_nights 4 = .ok (.ifCond .ne 9, 3) := dq_get (L := lzddX10_nights_0) 2 rfl zddX10_nights_0 rfl
theorem dX10_nights_7 : decode cX10_nights 7 = .ok (.aload_n 0, 1) := dq_get (L := lzddX10_nights_0) 3 rfl zddX10_nights_0 rfl
theorem dX10_nights_8 : decode cX10_nights 8 = .ok (.iconst 1, 1) := dq_get (L := lzddX10_nights_0) 4 rfl zddX10_nights_0 rfl
theorem dX10_nights_9 : decode cX10_nights 9 = .ok (.invokevirtual 178, 3) := dq_get (L := lzddX10_nights_0) 5 rfl zddX10_nights_0 rfl
theorem dX10_nights_12 : decode cX10_nights 12 = .ok (.ireturn, 1) := dq_get (L := lzddX10_nights_0) 6 rfl zddX10_nights_0 rfl
theorem dX10_nights_13 : decode cX10_nights 13 = .ok (.iload_n 1, 1) := dq_get (L := lzddX10_nights_0) 7 rfl zddX10_nights_0 rfl
theorem dX10_nights_14 : decode cX10_nights 14 = .ok (.invokestatic 266, 3) := dq_get (L := lzddX10_nights_0) 8 rfl zddX10_nights_0 rfl
theorem dX10_nights_17 : decode cX10_nights 17 = .ok (.ifCond .eq 24, 3) := dq_get (L := lzddX10_nights_0) 9 rfl zddX10_nights_0 rfl
theorem dX10_nights_20 : decode cX10_nights 20 = .ok (.iload_n 2, 1) := dq_get (L := lzddX10_nights_0) 10 rfl zddX10_nights_0 rfl
theorem dX10_nights_21 : decode cX10_nights 21 = .ok (.iconst 1, 1) := dq_get (L := lzddX10_nights_0) 11 rfl zddX10_nights_0 rfl
theorem dX10_nights_22 : decode cX10_nights 22 = .ok (.if_icmp .lt 19, 3) := dq_get (L := lzddX10_nights_0) 12 rfl zddX10_nights_0 rfl
theorem dX10_nights_25 : decode cX10_nights 25 = .ok (.iload_n 2, 1) := dq_get (L := lzddX10_nights_0) 13 rfl zddX10_nights_0 rfl
theorem dX10_nights_26 : decode cX10_nights 26 = .ok (.bipush 8, 2) := dq_get (L := lzddX10_nights_0) 14 rfl zddX10_nights_0 rfl
theorem dX10_nights_28 : decode cX10_nights 28 = .ok (.if_icmp .gt 13, 3) := dq_get (L := lzddX10_nights_0) 15 rfl zddX10_nights_0 rfl
theorem dX10_nights_31 : decode cX10_nights 31 = .ok (.iload_n 3, 1) := dq_get (L := lzddX10_nights_0) 16 rfl zddX10_nights_0 rfl
theorem dX10_nights_32 : decode cX10_nights 32 = .ok (.ifCond .lt 9, 3) := dq_get (L := lzddX10_nights_0) 17 rfl zddX10_nights_0 rfl
theorem dX10_nights_35 : decode cX10_nights 35 = .ok (.iload_n 3, 1) := dq_get (L := lzddX10_nights_0) 18 rfl zddX10_nights_0 rfl
theorem dX10_nights_36 : decode cX10_nights 36 = .ok (.bipush 6, 2) := dq_get (L := lzddX10_nights_0) 19 rfl zddX10_nights_0 rfl
def lzddX10_nights_38 : List (Nat × Instr × Nat) := [(38, .if_icmp .le 9, 3), (41, .aload_n 0, 1), (42, .iconst 2, 1), (43, .invokevirtual 178, 3), (46, .ireturn, 1), (47, .aload_n 0, 1), (48, .getfield 62, 3), (51, .invokevirtual 99, 3), (54, .aload_n 0, 1), (55, .getfield 62, 3), (58, .iload_n 1, 1), (59, .putfield 269, 3), (62, .iconst 0, 1), (63, .istore 4, 2), (65, .iconst 0, 1), (66, .istore 5, 2), (68, .iload 5, 2), (70, .iload_n 2, 1), (71, .if_icmp .ge 101, 3), (74, .aload_n 0, 1)]
theorem zddX10_nights_38 : dqW lzddX10_nights_38 (cX10_nights.data.toList.drop 38) 38 = true := by decide +kernel
theorem dX10_nights_38 : decode cX10_nights 38 = .ok (.if_icmp .le 9, 3) := dq_get (L := lzddX10_nights_38) 0 rfl zddX10_nights_38 rfl
theorem dX10_nights_41 : decode cX10_nights 41 = .ok (.aload_n 0, 1) := dq_get (L := lzddX10_nights_38) 1 rfl zddX10_nights_38 rfl
theorem dX10_nights_42 : decode cX10_nights 42 = .ok (.iconst 2, 1) := dq_get (L := lzddX10_nights_38) 2 rfl zddX10_nights_38 rfl
theorem dX10_nights_43 : decode cX10_nights 43 = .ok (.invokevirtual 178, 3) := dq_get (L := lzddX10_nights_38) 3 rfl zddX10_nights_38 rfl
theorem dX10_nights_46 : decode cX10_nights 46 = .ok (.ireturn, 1) := dq_get (L := lzddX10_nights_38) 4 rfl zddX10_nights_38 rfl
theorem dX10_nights_47 : decode cX10_nights 47 = .ok (.aload_n 0, 1) := dq_get (L := lzddX10_nights_38) 5 rfl zddX10_nights_38 rfl
theorem dX10_nights_48 : decode cX10_nights 48 = .ok (.getfield 62, 3) := dq_get (L := lzddX10_nights_38) 6 rfl zddX10_nights_38 rfl
theorem dX10_nights_51 : decode cX10_nights 51 = .ok (.invokevirtual 99, 3) := dq_get (L := lzddX10_nights_38) 7 rfl zddX10_nights_38 rfl
theorem dX10_nights_54 : decode cX10_nights 54 = .ok (.aload_n 0, 1) := dq_get (L := lzddX10_nights_38) 8 rfl zddX10_nights_38 rfl
theorem dX10_nights_55 : decode cX10_nights 55 = .ok (.getfield 62, 3) := dq_get (L := lzddX10_nights_38) 9 rfl zddX10_nights_38 rfl
theorem dX10_nights_58 : decode cX10_nights 58 = .ok (.iload_n 1, 1) := dq_get (L := lzddX10_nights_38) 10 rfl zddX10_nights_38 rfl
theorem dX10_nights_59 : decode cX10_nights 59 = .ok (.putfield 269, 3) := dq_get (L := lzddX10_nights_38) 11 rfl zddX10_nights_38 rfl
theorem dX10_nights_62 : decode cX10_nights 62 = .ok (.iconst 0, 1) := dq_get (L := lzddX10_nights_38) 12 rfl zddX10_nights_38 rfl
theorem dX10_nights_63 : decode cX10_nights 63 = .ok (.istore 4, 2) := dq_get (L := lzddX10_nights_38) 13 rfl zddX10_nights_38 rfl
theorem dX10_nights_65 : decode cX10_nights 65 = .ok (.iconst 0, 1) := dq_get (L := lzddX10_nights_38) 14 rfl zddX10_nights_38 rfl
theorem dX10_nights_66 : decode cX10_nights 66 = .ok (.istore 5, 2) := dq_get (L := lzddX10_nights_38) 15 rfl zddX10_nights_38 rfl
theorem dX10_nights_68 : decode cX10_nights 68 = .ok (.iload 5, 2) := dq_get (L := lzddX10_nights_38) 16 rfl zddX10_nights_38 rfl
theorem dX10_nights_70 : decode cX10_nights 70 = .ok (.iload_n 2, 1) := dq_get (L := lzddX10_nights_38) 17 rfl zddX10_nights_38 rfl
theorem dX10_nights_71 : decode cX10_nights 71 = .ok (.if_icmp .ge 101, 3) := dq_get (L := lzddX10_nights_38) 18 rfl zddX10_nights_38 rfl
theorem dX10_nights_74 : decode cX10_nights 74 = .ok (.aload_n 0, 1) := dq_get (L := lzddX10_nights_38) 19 rfl zddX10_nights_38 rfl
def lzddX10_nights_75 : List (Nat × Instr × Nat) := [(75, .getfield 62, 3), (78, .iconst 0, 1), (79, .putfield 272, 3), (82, .iconst 0, 1), (83, .istore 6, 2), (85, .iload 6, 2), (87, .iload_n 3, 1), (88, .if_icmp .ge 24, 3), (91, .aload_n 0, 1), (92, .getfield 62, 3), (95, .aload_n 0, 1), (96, .getfield 16, 3), (99, .getfield 146, 3), (102, .invokevirtual 275, 3), (105, .pop, 1), (106, .iinc 6 1, 3), (109, .goto (-24), 3), (112, .aload_n 0, 1), (113, .getfield 65, 3), (116, .aload_n 0, 1)]
theorem zddX10_nights_75 : dqW lzddX10_nights_75 (cX10_nights.data.toList.drop 75) 75 = true := by decide +kernel
theorem dX10_nights_75 : decode cX10_nights 75 = .ok (.getfield 62, 3) := dq_get (L := lzddX10_nights_75) 0 rfl zddX10_nights_75 rfl
theorem dX10_nights_78 : decode cX10_nights 78 = .ok (.iconst 0, 1) := dq_get (L := lzddX10_nights_75) 1 rfl zddX10_nights_75 rfl
theorem dX10_nights_79 : decode cX10_nights 79 = .ok (.putfield 272, 3) := dq_get (L := lzddX10_nights_75) 2 rfl zddX10_nights_75 rfl
theorem dX10_nights_82 : decode cX10_nights 82 = .ok (.iconst 0, 1) := dq_get (L := lzddX10_nights_75) 3 rfl zddX10_nights_75 rfl
theorem dX10_nights_83 : decode cX10_nights 83 = .ok (.istore 6, 2) := dq_get (L := lzddX10_nights_75) 4 rfl zddX10_nights_75 rfl
theorem dX10_nights_85 : decode cX10_nights 85 = .ok (.iload 6, 2) := dq_get (L := lzddX10_nights_75) 5 rfl zddX10_nights_75 rfl
theorem dX10_nights_87 : decode cX10_nights 87 = .ok (.iload_n 3, 1) := dq_get (L := lzddX10_nights_75) 6 rfl zddX10_nights_75 rfl
theorem dX10_nights_88 : decode cX10_nights 88 = .ok (.if_icmp .ge 24, 3) := dq_get (L := lzddX10_nights_75) 7 rfl zddX10_nights_75 rfl
theorem dX10_nights_91 : decode cX10_nights 91 = .ok (.aload_n 0, 1) := dq_get (L := lzddX10_nights_75) 8 rfl zddX10_nights_75 rfl
theorem dX10_nights_92 : decode cX10_nights 92 = .ok (.getfield 62, 3) := dq_get (L := lzddX10_nights_75) 9 rfl zddX10_nights_75 rfl
theorem dX10_nights_95 : decode cX10_nights 95 = .ok (.aload_n 0, 1) := dq_get (L := lzddX10_nights_75) 10 rfl zddX10_nights_75 rfl
theorem dX10_nights_96 : decode cX10_nights 96 = .ok (.getfield 16, 3) := dq_get (L := lzddX10_nights_75) 11 rfl zddX10_nights_75 rfl
theorem dX10_nights_99 : decode cX10_nights 99 = .ok (.getfield 146, 3) := dq_get (L := lzddX10_nights_75) 12 rfl zddX10_nights_75 rfl
theorem dX10_nights_102 : decode cX10_nights 102 = .ok (.invokevirtual 275, 3) := dq_get (L := lzddX10_nights_75) 13 rfl zddX10_nights_75 rfl
theorem dX10_nights_105 : decode cX10_nights 105 = .ok (.pop, 1) := dq_get (L := lzddX10_nights_75) 14 rfl zddX10_nights_75 rfl
theorem dX10_nights_106 : decode cX10_nights 106 = .ok (.iinc 6 1, 3) := dq_get (L := lzddX10_nights_75) 15 rfl zddX10_nights_75 rfl
theorem dX10_nights_109 : decode cX10_nights 109 = .ok (.goto (-24), 3) := dq_get (L := lzddX10_nights_75) 16 rfl zddX10_nights_75 rfl
theorem dX10_nights_112 : decode cX10_nights 112 = .ok (.aload_n 0, 1) := dq_get (L := lzddX10_nights_75) 17 rfl zddX10_nights_75 rfl
theorem dX10_nights_113 : decode cX10_nights 113 = .ok (.getfield 65, 3) := dq_get (L := lzddX10_nights_75) 18 rfl zddX10_nights_75 rfl
theorem dX10_nights_116 : decode cX10_nights 116 = .ok (.aload_n 0, 1) := dq_get (L := lzddX10_nights_75) 19 rfl zddX10_nights_75 rfl
def lzddX10_nights_117 : List (Nat × Instr × Nat) := [(117, .getfield 16, 3), (120, .aload_n 0, 1), (121, .getfield 62, 3), (124, .iconst (-1), 1), (125, .invokevirtual 237, 3), (128, .aload_n 0, 1), (129, .getfield 68, 3), (132, .aload_n 0, 1), (133, .getfield 16, 3), (136, .aload_n 0, 1), (137, .getfield 65, 3), (140, .aload_n 0, 1), (141, .getfield 35, 3), (144, .getfield 181, 3), (147, .aload_n 0, 1), (148, .invokevirtual 184, 3), (151, .invokevirtual 188, 3), (154, .iload 4, 2), (156, .aload_n 0, 1), (157, .getfield 68, 3)]
theorem zddX10_nights_117 : dqW lzddX10_nights_117 (cX10_nights.data.toList.drop 117) 117 = true := by decide +kernel
theorem dX10_nights_117 : decode cX10_nights 117 = .ok (.getfield 16, 3) := dq_get (L := lzddX10_nights_117) 0 rfl zddX10_nights_117 rfl
theorem dX10_nights_120 : decode cX10_nights 120 = .ok (.aload_n 0, 1) := dq_get (L := lzddX10_nights_117) 1 rfl zddX10_nights_117 rfl
theorem dX10_nights_121 : decode cX10_nights 121 = .ok (.getfield 62, 3) := dq_get (L := lzddX10_nights_117) 2 rfl zddX10_nights_117 rfl
theorem dX10_nights_124 : decode cX10_nights 124 = .ok (.iconst (-1), 1) := dq_get (L := lzddX10_nights_117) 3 rfl zddX10_nights_117 rfl
theorem dX10_nights_125 : decode cX10_nights 125 = .ok (.invokevirtual 237, 3) := dq_get (L := lzddX10_nights_117) 4 rfl zddX10_nights_117 rfl
theorem dX10_nights_128 : decode cX10_nights 128 = .ok (.aload_n 0, 1) := dq_get (L := lzddX10_nights_117) 5 rfl zddX10_nights_117 rfl
theorem dX10_nights_129 : decode cX10_nights 129 = .ok (.getfield 68, 3) := dq_get (L := lzddX10_nights_117) 6 rfl zddX10_nights_117 rfl
theorem dX10_nights_132 : decode cX10_nights 132 = .ok (.aload_n 0, 1) := dq_get (L := lzddX10_nights_117) 7 rfl zddX10_nights_117 rfl
theorem dX10_nights_133 : decode cX10_nights 133 = .ok (.getfield 16, 3) := dq_get (L := lzddX10_nights_117) 8 rfl zddX10_nights_117 rfl
theorem dX10_nights_136 : decode cX10_nights 136 = .ok (.aload_n 0, 1) := dq_get (L := lzddX10_nights_117) 9 rfl zddX10_nights_117 rfl
theorem dX10_nights_137 : decode cX10_nights 137 = .ok (.getfield 65, 3) := dq_get (L := lzddX10_nights_117) 10 rfl zddX10_nights_117 rfl
theorem dX10_nights_140 : decode cX10_nights 140 = .ok (.aload_n 0, 1) := dq_get (L := lzddX10_nights_117) 11 rfl zddX10_nights_117 rfl
theorem dX10_nights_141 : decode cX10_nights 141 = .ok (.getfield 35, 3) := dq_get (L := lzddX10_nights_117) 12 rfl zddX10_nights_117 rfl
theorem dX10_nights_144 : decode cX10_nights 144 = .ok (.getfield 181, 3) := dq_get (L := lzddX10_nights_117) 13 rfl zddX10_nights_117 rfl
theorem dX10_nights_147 : decode cX10_nights 147 = .ok (.aload_n 0, 1) := dq_get (L := lzddX10_nights_117) 14 rfl zddX10_nights_117 rfl
theorem dX10_nights_148 : decode cX10_nights 148 = .ok (.invokevirtual 184, 3) := dq_get (L := lzddX10_nights_117) 15 rfl zddX10_nights_117 rfl
theorem dX10_nights_151 : decode cX10_nights 151 = .ok (.invokevirtual 188, 3) := dq_get (L := lzddX10_nights_117) 16 rfl zddX10_nights_117 rfl
theorem dX10_nights_154 : decode cX10_nights 154 = .ok (.iload 4, 2) := dq_get (L := lzddX10_nights_117) 17 rfl zddX10_nights_117 rfl
theorem dX10_nights_156 : decode cX10_nights 156 = .ok (.aload_n 0, 1) := dq_get (L := lzddX10_nights_117) 18 rfl zddX10_nights_117 rfl
theorem dX10_nights_157 : decode cX10_nights 157 = .ok (.getfield 68, 3) := dq_get (L := lzddX10_nights_117) 19 rfl zddX10_nights_117 rfl
def lzddX10_nights_160 : List (Nat × Instr × Nat) := [(160, .invokevirtual 192, 3), (163, .iadd, 1), (164, .istore 4, 2), (166, .iinc 5 1, 3), (169, .goto (-101), 3), (172, .aload_n 0, 1), (173, .iload 4, 2), (175, .invokevirtual 109, 3), (178, .ireturn, 1)]
theorem zddX10_nights_160 : dqW lzddX10_nights_160 (cX10_nights.data.toList.drop 160) 160 = true := by decide +kernel
theorem dX10_nights_160 : decode cX10_nights 160 = .ok (.invokevirtual 192, 3) := dq_get (L := lzddX10_nights_160) 0 rfl zddX10_nights_160 rfl
theorem dX10_nights_163 : decode cX10_nights 163 = .ok (.iadd, 1) := dq_get (L := lzddX10_nights_160) 1 rfl zddX10_nights_160 rfl
theorem dX10_nights_164 : decode cX10_nights 164 = .ok (.istore 4, 2) := dq_get (L := lzddX10_nights_160) 2 rfl zddX10_nights_160 rfl
theorem dX10_nights_166 : decode cX10_nights 166 = .ok (.iinc 5 1, 3) := dq_get (L := lzddX10_nights_160) 3 rfl zddX10_nights_160 rfl
theorem dX10_nights_169 : decode cX10_nights 169 = .ok (.goto (-101), 3) := dq_get (L := lzddX10_nights_160) 4 rfl zddX10_nights_160 rfl
theorem dX10_nights_172 : decode cX10_nights 172 = .ok (.aload_n 0, 1) := dq_get (L := lzddX10_nights_160) 5 rfl zddX10_nights_160 rfl
theorem dX10_nights_173 : decode cX10_nights 173 = .ok (.iload 4, 2) := dq_get (L := lzddX10_nights_160) 6 rfl zddX10_nights_160 rfl
theorem dX10_nights_175 : decode cX10_nights 175 = .ok (.invokevirtual 109, 3) := dq_get (L := lzddX10_nights_160) 7 rfl zddX10_nights_160 rfl
theorem dX10_nights_178 : decode cX10_nights 178 = .ok (.ireturn, 1) := dq_get (L := lzddX10_nights_160) 8 rfl zddX10_nights_160 rfl
def lzddX10_notices_0 : List (Nat × Instr × Nat) := [(0, .aload_n 0, 1), (1, .iload_n 1, 1), (2, .invokevirtual 152, 3), (5, .ifCond .eq 11, 3), (8, .aload_n 0, 1), (9, .iload_n 2, 1), (10, .invokevirtual 126, 3), (13, .ifCond .ne 9, 3), (16, .aload_n 0, 1), (17, .iconst 1, 1), (18, .invokevirtual 79, 3), (21, .ireturn, 1), (22, .aload_n 0, 1), (23, .iload_n 3, 1), (24, .invokevirtual 115, 3), (27, .ifCond .ne 9, 3), (30, .aload_n 0, 1), (31, .iconst 2, 1), (32, .invokevirtual 79, 3), (35, .ireturn, 1)]
theorem zddX10_notices_0 : dqW lzddX10_notices_0 (cX10_notices.data.toList.drop 0) 0 = true := by decide +kernel
theorem dX10_notices_0 : decode cX10_notices 0 = .ok (.aload_n 0, 1) := dq_get (L := lzddX10_notices_0) 0 rfl zddX10_notices_0 rfl
theorem dX10_notices_1 : decode cX10_notices 1 = .ok (.iload_n 1, 1) := dq_get (L := lzddX10_notices_0) 1 rfl zddX10_notices_0 rfl
theorem dX10_notices_2 : decode cX10_notices 2 = .ok (.invokevirtual 152, 3) := dq_get (L := lzddX10_notices_0) 2 rfl zddX10_notices_0 rfl
theorem dX10_notices_5 : decode cX10_notices 5 = .ok (.ifCond .eq 11, 3) := dq_get (L := lzddX10_notices_0) 3 rfl zddX10_notices_0 rfl
theorem dX10_notices_8 : decode cX10_notices 8 = .ok (.aload_n 0, 1) := dq_get (L := lzddX10_notices_0) 4 rfl zddX10_notices_0 rfl
theorem dX10_notices_9 : decode cX10_notices 9 = .ok (.iload_n 2, 1) := dq_get (L := lzddX10_notices_0) 5 rfl zddX10_notices_0 rfl
theorem dX10_notices_10 : decode cX10_notices 10 = .ok (.invokevirtual 126, 3) := dq_get (L := lzddX10_notices_0) 6 rfl zddX10_notices_0 rfl
theorem dX10_notices_13 : decode cX10_notices 13 = .ok (.ifCond .ne 9, 3) := dq_get (L := lzddX10_notices_0) 7 rfl zddX10_notices_0 rfl
theorem dX10_notices_16 : decode cX10_notices 16 = .ok (.aload_n 0, 1) := dq_get (L := lzddX10_notices_0) 8 rfl zddX10_notices_0 rfl
theorem dX10_notices_17 : decode cX10_notices 17 = .ok (.iconst 1, 1) := dq_get (L := lzddX10_notices_0) 9 rfl zddX10_notices_0 rfl
theorem dX10_notices_18 : decode cX10_notices 18 = .ok (.invokevirtual 79, 3) := dq_get (L := lzddX10_notices_0) 10 rfl zddX10_notices_0 rfl
theorem dX10_notices_21 : decode cX10_notices 21 = .ok (.ireturn, 1) := dq_get (L := lzddX10_notices_0) 11 rfl zddX10_notices_0 rfl
theorem dX10_notices_22 : decode cX10_notices 22 = .ok (.aload_n 0, 1) := dq_get (L := lzddX10_notices_0) 12 rfl zddX10_notices_0 rfl
theorem dX10_notices_23 : decode cX10_notices 23 = .ok (.iload_n 3, 1) := dq_get (L := lzddX10_notices_0) 13 rfl zddX10_notices_0 rfl
theorem dX10_notices_24 : decode cX10_notices 24 = .ok (.invokevirtual 115, 3) := dq_get (L := lzddX10_notices_0) 14 rfl zddX10_notices_0 rfl
theorem dX10_notices_27 : decode cX10_notices 27 = .ok (.ifCond .ne 9, 3) := dq_get (L := lzddX10_notices_0) 15 rfl zddX10_notices_0 rfl
theorem dX10_notices_30 : decode cX10_notices 30 = .ok (.aload_n 0, 1) := dq_get (L := lzddX10_notices_0) 16 rfl zddX10_notices_0 rfl
theorem dX10_notices_31 : decode cX10_notices 31 = .ok (.iconst 2, 1) := dq_get (L := lzddX10_notices_0) 17 rfl zddX10_notices_0 rfl
theorem dX10_notices_32 : decode cX10_notices 32 = .ok (.invokevirtual 79, 3) := dq_get (L := lzddX10_notices_0) 18 rfl zddX10_notices_0 rfl
theorem dX10_notices_35 : decode cX10_notices 35 = .ok (.ireturn, 1) := dq_get (L := lzddX10_notices_0) 19 rfl zddX10_notices_0 rfl
def lzddX10_notices_36 : List (Nat × Instr × Nat) := [(36, .aload_n 0, 1), (37, .aload_n 0, 1), (38, .invokevirtual 155, 3), (41, .iload_n 1, 1), (42, .iload_n 3, 1), (43, .invokevirtual 163, 3), (46, .iload_n 2, 1), (47, .invokestatic 136, 3), (50, .invokevirtual 109, 3), (53, .ireturn, 1)]
theorem zddX10_notices_36 : dqW lzddX10_notices_36 (cX10_notices.data.toList.drop 36) 36 = true := by decide +kernel
theorem dX10_notices_36 : decode cX10_notices 36 = .ok (.aload_n 0, 1) := dq_get (L := lzddX10_notices_36) 0 rfl zddX10_notices_36 rfl
theorem dX10_notices_37 : decode cX10_notices 37 = .ok (.aload_n 0, 1) := dq_get (L := lzddX10_notices_36) 1 rfl zddX10_notices_36 rfl
theorem dX10_notices_38 : decode cX10_notices 38 = .ok (.invokevirtual 155, 3) := dq_get (L := lzddX10_notices_36) 2 rfl zddX10_notices_36 rfl
theorem dX10_notices_41 : decode cX10_notices 41 = .ok (.iload_n 1, 1) := dq_get (L := lzddX10_notices_36) 3 rfl zddX10_notices_36 rfl
theorem dX10_notices_42 : decode cX10_notices 42 = .ok (.iload_n 3, 1) := dq_get (L := lzddX10_notices_36) 4 rfl zddX10_notices_36 rfl
theorem dX10_notices_43 : decode cX10_notices 43 = .ok (.invokevirtual 163, 3) := dq_get (L := lzddX10_notices_36) 5 rfl zddX10_notices_36 rfl
theorem dX10_notices_46 : decode cX10_notices 46 = .ok (.iload_n 2, 1) := dq_get (L := lzddX10_notices_36) 6 rfl zddX10_notices_36 rfl
theorem dX10_notices_47 : decode cX10_notices 47 = .ok (.invokestatic 136, 3) := dq_get (L := lzddX10_notices_36) 7 rfl zddX10_notices_36 rfl
theorem dX10_notices_50 : decode cX10_notices 50 = .ok (.invokevirtual 109, 3) := dq_get (L := lzddX10_notices_36) 8 rfl zddX10_notices_36 rfl
theorem dX10_notices_53 : decode cX10_notices 53 = .ok (.ireturn, 1) := dq_get (L := lzddX10_notices_36) 9 rfl zddX10_notices_36 rfl
def lzddX10_peak_0 : List (Nat × Instr × Nat) := [(0, .aload_n 0, 1), (1, .getfield 95, 3), (4, .ifCond .ne 9, 3), (7, .aload_n 0, 1), (8, .iconst 1, 1), (9, .invokevirtual 79, 3), (12, .ireturn, 1), (13, .aload_n 0, 1), (14, .invokevirtual 119, 3), (17, .astore_n 1, 1), (18, .iconst 0, 1), (19, .istore_n 2, 1), (20, .bipush (-2), 2), (22, .istore_n 3, 1), (23, .iconst 0, 1), (24, .istore 4, 2), (26, .iload 4, 2), (28, .aload_n 0, 1), (29, .getfield 16, 3), (32, .getfield 146, 3)]
theorem zddX10_peak_0 : dqW lzddX10_peak_0 (cX10_peak.data.toList.drop 0) 0 = true := by decide +kernel
theorem dX10_peak_0 : decode cX10_peak 0 = .ok (.aload_n 0, 1) := dq_get (L := lzddX10_peak_0) 0 rfl zddX10_peak_0 rfl
theorem dX10_peak_1 : decode cX10_peak 1 = .ok (.getfield 95, 3) := dq_get (L := lzddX10_peak_0) 1 rfl zddX10_peak_0 rfl
theorem dX10_peak_4 : decode cX10_peak 4 = .ok (.ifCond .ne 9, 3) := dq_get (L := lzddX10_peak_0) 2 rfl zddX10_peak_0 rfl
theorem dX10_peak_7 : decode cX10_peak 7 = .ok (.aload_n 0, 1) := dq_get (L := lzddX10_peak_0) 3 rfl zddX10_peak_0 rfl
theorem dX10_peak_8 : decode cX10_peak 8 = .ok (.iconst 1, 1) := dq_get (L := lzddX10_peak_0) 4 rfl zddX10_peak_0 rfl
theorem dX10_peak_9 : decode cX10_peak 9 = .ok (.invokevirtual 79, 3) := dq_get (L := lzddX10_peak_0) 5 rfl zddX10_peak_0 rfl
theorem dX10_peak_12 : decode cX10_peak 12 = .ok (.ireturn, 1) := dq_get (L := lzddX10_peak_0) 6 rfl zddX10_peak_0 rfl
theorem dX10_peak_13 : decode cX10_peak 13 = .ok (.aload_n 0, 1) := dq_get (L := lzddX10_peak_0) 7 rfl zddX10_peak_0 rfl
theorem dX10_peak_14 : decode cX10_peak 14 = .ok (.invokevirtual 119, 3) := dq_get (L := lzddX10_peak_0) 8 rfl zddX10_peak_0 rfl
theorem dX10_peak_17 : decode cX10_peak 17 = .ok (.astore_n 1, 1) := dq_get (L := lzddX10_peak_0) 9 rfl zddX10_peak_0 rfl
theorem dX10_peak_18 : decode cX10_peak 18 = .ok (.iconst 0, 1) := dq_get (L := lzddX10_peak_0) 10 rfl zddX10_peak_0 rfl
theorem dX10_peak_19 : decode cX10_peak 19 = .ok (.istore_n 2, 1) := dq_get (L := lzddX10_peak_0) 11 rfl zddX10_peak_0 rfl
theorem dX10_peak_20 : decode cX10_peak 20 = .ok (.bipush (-2), 2) := dq_get (L := lzddX10_peak_0) 12 rfl zddX10_peak_0 rfl
theorem dX10_peak_22 : decode cX10_peak 22 = .ok (.istore_n 3, 1) := dq_get (L := lzddX10_peak_0) 13 rfl zddX10_peak_0 rfl
theorem dX10_peak_23 : decode cX10_peak 23 = .ok (.iconst 0, 1) := dq_get (L := lzddX10_peak_0) 14 rfl zddX10_peak_0 rfl
theorem dX10_peak_24 : decode cX10_peak 24 = .ok (.istore 4, 2) := dq_get (L := lzddX10_peak_0) 15 rfl zddX10_peak_0 rfl
theorem dX10_peak_26 : decode cX10_peak 26 = .ok (.iload 4, 2) := dq_get (L := lzddX10_peak_0) 16 rfl zddX10_peak_0 rfl
theorem dX10_peak_28 : decode cX10_peak 28 = .ok (.aload_n 0, 1) := dq_get (L := lzddX10_peak_0) 17 rfl zddX10_peak_0 rfl
theorem dX10_peak_29 : decode cX10_peak 29 = .ok (.getfield 16, 3) := dq_get (L := lzddX10_peak_0) 18 rfl zddX10_peak_0 rfl
theorem dX10_peak_32 : decode cX10_peak 32 = .ok (.getfield 146, 3) := dq_get (L := lzddX10_peak_0) 19 rfl zddX10_peak_0 rfl
def lzddX10_peak_35 : List (Nat × Instr × Nat) := [(35, .if_icmp .ge 37, 3), (38, .aload_n 0, 1), (39, .getfield 16, 3), (42, .aload_n 1, 1), (43, .getfield 143, 3), (46, .iload 4, 2), (48, .iaload, 1), (49, .invokevirtual 149, 3), (52, .istore 5, 2), (54, .iload 5, 2), (56, .iload_n 2, 1), (57, .if_icmp .le 9, 3), (60, .iload 5, 2), (62, .istore_n 2, 1), (63, .iload 4, 2), (65, .istore_n 3, 1), (66, .iinc 4 1, 3), (69, .goto (-43), 3), (72, .aload_n 0, 1), (73, .iload_n 3, 1)]
theorem zddX10_peak_35 : dqW lzddX10_peak_35 (cX10_peak.data.toList.drop 35) 35 = true := by decide +kernel
theorem dX10_peak_35 : decode cX10_peak 35 = .ok (.if_icmp .ge 37, 3) := dq_get (L := lzddX10_peak_35) 0 rfl zddX10_peak_35 rfl
theorem dX10_peak_38 : decode cX10_peak 38 = .ok (.aload_n 0, 1) := dq_get (L := lzddX10_peak_35) 1 rfl zddX10_peak_35 rfl
theorem dX10_peak_39 : decode cX10_peak 39 = .ok (.getfield 16, 3) := dq_get (L := lzddX10_peak_35) 2 rfl zddX10_peak_35 rfl
theorem dX10_peak_42 : decode cX10_peak 42 = .ok (.aload_n 1, 1) := dq_get (L := lzddX10_peak_35) 3 rfl zddX10_peak_35 rfl
theorem dX10_peak_43 : decode cX10_peak 43 = .ok (.getfield 143, 3) := dq_get (L := lzddX10_peak_35) 4 rfl zddX10_peak_35 rfl
theorem dX10_peak_46 : decode cX10_peak 46 = .ok (.iload 4, 2) := dq_get (L := lzddX10_peak_35) 5 rfl zddX10_peak_35 rfl
theorem dX10_peak_48 : decode cX10_peak 48 = .ok (.iaload, 1) := dq_get (L := lzddX10_peak_35) 6 rfl zddX10_peak_35 rfl
theorem dX10_peak_49 : decode cX10_peak 49 = .ok (.invokevirtual 149, 3) := dq_get (L := lzddX10_peak_35) 7 rfl zddX10_peak_35 rfl
theorem dX10_peak_52 : decode cX10_peak 52 = .ok (.istore 5, 2) := dq_get (L := lzddX10_peak_35) 8 rfl zddX10_peak_35 rfl
theorem dX10_peak_54 : decode cX10_peak 54 = .ok (.iload 5, 2) := dq_get (L := lzddX10_peak_35) 9 rfl zddX10_peak_35 rfl
theorem dX10_peak_56 : decode cX10_peak 56 = .ok (.iload_n 2, 1) := dq_get (L := lzddX10_peak_35) 10 rfl zddX10_peak_35 rfl
theorem dX10_peak_57 : decode cX10_peak 57 = .ok (.if_icmp .le 9, 3) := dq_get (L := lzddX10_peak_35) 11 rfl zddX10_peak_35 rfl
theorem dX10_peak_60 : decode cX10_peak 60 = .ok (.iload 5, 2) := dq_get (L := lzddX10_peak_35) 12 rfl zddX10_peak_35 rfl
theorem dX10_peak_62 : decode cX10_peak 62 = .ok (.istore_n 2, 1) := dq_get (L := lzddX10_peak_35) 13 rfl zddX10_peak_35 rfl
theorem dX10_peak_63 : decode cX10_peak 63 = .ok (.iload 4, 2) := dq_get (L := lzddX10_peak_35) 14 rfl zddX10_peak_35 rfl
theorem dX10_peak_65 : decode cX10_peak 65 = .ok (.istore_n 3, 1) := dq_get (L := lzddX10_peak_35) 15 rfl zddX10_peak_35 rfl
theorem dX10_peak_66 : decode cX10_peak 66 = .ok (.iinc 4 1, 3) := dq_get (L := lzddX10_peak_35) 16 rfl zddX10_peak_35 rfl
theorem dX10_peak_69 : decode cX10_peak 69 = .ok (.goto (-43), 3) := dq_get (L := lzddX10_peak_35) 17 rfl zddX10_peak_35 rfl
theorem dX10_peak_72 : decode cX10_peak 72 = .ok (.aload_n 0, 1) := dq_get (L := lzddX10_peak_35) 18 rfl zddX10_peak_35 rfl
theorem dX10_peak_73 : decode cX10_peak 73 = .ok (.iload_n 3, 1) := dq_get (L := lzddX10_peak_35) 19 rfl zddX10_peak_35 rfl
def lzddX10_peak_74 : List (Nat × Instr × Nat) := [(74, .invokevirtual 109, 3), (77, .ireturn, 1)]
theorem zddX10_peak_74 : dqW lzddX10_peak_74 (cX10_peak.data.toList.drop 74) 74 = true := by decide +kernel
theorem dX10_peak_74 : decode cX10_peak 74 = .ok (.invokevirtual 109, 3) := dq_get (L := lzddX10_peak_74) 0 rfl zddX10_peak_74 rfl
theorem dX10_peak_77 : decode cX10_peak 77 = .ok (.ireturn, 1) := dq_get (L := lzddX10_peak_74) 1 rfl zddX10_peak_74 rfl
def lzddX10_presentNight_0 : List (Nat × Instr × Nat) := [(0, .aload_n 0, 1), (1, .getfield 288, 3), (4, .ifCond .ne 34, 3), (7, .aload_n 0, 1), (8, .getfield 58, 3), (11, .aload_n 0, 1), (12, .getfield 16, 3), (15, .aload_n 0, 1), (16, .invokevirtual 119, 3), (19, .aload_n 0, 1), (20, .getfield 35, 3), (23, .getfield 181, 3), (26, .aload_n 0, 1), (27, .invokevirtual 184, 3), (30, .invokevirtual 188, 3), (33, .aload_n 0, 1), (34, .iconst 1, 1), (35, .putfield 288, 3), (38, .aload_n 0, 1), (39, .getfield 58, 3)]
theorem zddX10_presentNight_0 : dqW lzddX10_presentNight_0 (cX10_presentNight.data.toList.drop 0) 0 = true := by decide +kernel
theorem dX10_presentNight_0 : decode cX10_presentNight 0 = .ok (.aload_n 0, 1) := dq_get (L := lzddX10_presentNight_0) 0 rfl zddX10_presentNight_0 rfl
theorem dX10_presentNight_1 : decode cX10_presentNight 1 = .ok (.getfield 288, 3) := dq_get (L := lzddX10_presentNight_0) 1 rfl zddX10_presentNight_0 rfl
theorem dX10_presentNight_4 : decode cX10_presentNight 4 = .ok (.ifCond .ne 34, 3) := dq_get (L := lzddX10_presentNight_0) 2 rfl zddX10_presentNight_0 rfl
theorem dX10_presentNight_7 : decode cX10_presentNight 7 = .ok (.aload_n 0, 1) := dq_get (L := lzddX10_presentNight_0) 3 rfl zddX10_presentNight_0 rfl
theorem dX10_presentNight_8 : decode cX10_presentNight 8 = .ok (.getfield 58, 3) := dq_get (L := lzddX10_presentNight_0) 4 rfl zddX10_presentNight_0 rfl
theorem dX10_presentNight_11 : decode cX10_presentNight 11 = .ok (.aload_n 0, 1) := dq_get (L := lzddX10_presentNight_0) 5 rfl zddX10_presentNight_0 rfl
theorem dX10_presentNight_12 : decode cX10_presentNight 12 = .ok (.getfield 16, 3) := dq_get (L := lzddX10_presentNight_0) 6 rfl zddX10_presentNight_0 rfl
theorem dX10_presentNight_15 : decode cX10_presentNight 15 = .ok (.aload_n 0, 1) := dq_get (L := lzddX10_presentNight_0) 7 rfl zddX10_presentNight_0 rfl
theorem dX10_presentNight_16 : decode cX10_presentNight 16 = .ok (.invokevirtual 119, 3) := dq_get (L := lzddX10_presentNight_0) 8 rfl zddX10_presentNight_0 rfl
theorem dX10_presentNight_19 : decode cX10_presentNight 19 = .ok (.aload_n 0, 1) := dq_get (L := lzddX10_presentNight_0) 9 rfl zddX10_presentNight_0 rfl
theorem dX10_presentNight_20 : decode cX10_presentNight 20 = .ok (.getfield 35, 3) := dq_get (L := lzddX10_presentNight_0) 10 rfl zddX10_presentNight_0 rfl
theorem dX10_presentNight_23 : decode cX10_presentNight 23 = .ok (.getfield 181, 3) := dq_get (L := lzddX10_presentNight_0) 11 rfl zddX10_presentNight_0 rfl
theorem dX10_presentNight_26 : decode cX10_presentNight 26 = .ok (.aload_n 0, 1) := dq_get (L := lzddX10_presentNight_0) 12 rfl zddX10_presentNight_0 rfl
theorem dX10_presentNight_27 : decode cX10_presentNight 27 = .ok (.invokevirtual 184, 3) := dq_get (L := lzddX10_presentNight_0) 13 rfl zddX10_presentNight_0 rfl
theorem dX10_presentNight_30 : decode cX10_presentNight 30 = .ok (.invokevirtual 188, 3) := dq_get (L := lzddX10_presentNight_0) 14 rfl zddX10_presentNight_0 rfl
theorem dX10_presentNight_33 : decode cX10_presentNight 33 = .ok (.aload_n 0, 1) := dq_get (L := lzddX10_presentNight_0) 15 rfl zddX10_presentNight_0 rfl
theorem dX10_presentNight_34 : decode cX10_presentNight 34 = .ok (.iconst 1, 1) := dq_get (L := lzddX10_presentNight_0) 16 rfl zddX10_presentNight_0 rfl
theorem dX10_presentNight_35 : decode cX10_presentNight 35 = .ok (.putfield 288, 3) := dq_get (L := lzddX10_presentNight_0) 17 rfl zddX10_presentNight_0 rfl
theorem dX10_presentNight_38 : decode cX10_presentNight 38 = .ok (.aload_n 0, 1) := dq_get (L := lzddX10_presentNight_0) 18 rfl zddX10_presentNight_0 rfl
theorem dX10_presentNight_39 : decode cX10_presentNight 39 = .ok (.getfield 58, 3) := dq_get (L := lzddX10_presentNight_0) 19 rfl zddX10_presentNight_0 rfl
def lzddX10_presentNight_42 : List (Nat × Instr × Nat) := [(42, .areturn, 1)]
theorem zddX10_presentNight_42 : dqW lzddX10_presentNight_42 (cX10_presentNight.data.toList.drop 42) 42 = true := by decide +kernel
theorem dX10_presentNight_42 : decode cX10_presentNight 42 = .ok (.areturn, 1) := dq_get (L := lzddX10_presentNight_42) 0 rfl zddX10_presentNight_42 rfl
def lzddX10_presentSky_0 : List (Nat × Instr × Nat) := [(0, .aload_n 0, 1), (1, .getfield 358, 3), (4, .ifCond .ne 24, 3), (7, .aload_n 0, 1), (8, .getfield 49, 3), (11, .aload_n 0, 1), (12, .getfield 16, 3), (15, .aload_n 0, 1), (16, .getfield 35, 3), (19, .iconst (-1), 1), (20, .invokevirtual 237, 3), (23, .aload_n 0, 1), (24, .iconst 1, 1), (25, .putfield 358, 3), (28, .aload_n 0, 1), (29, .getfield 49, 3), (32, .areturn, 1)]
theorem zddX10_presentSky_0 : dqW lzddX10_presentSky_0 (cX10_presentSky.data.toList.drop 0) 0 = true := by decide +kernel
theorem dX10_presentSky_0 : decode cX10_presentSky 0 = .ok (.aload_n 0, 1) := dq_get (L := lzddX10_presentSky_0) 0 rfl zddX10_presentSky_0 rfl
theorem dX10_presentSky_1 : decode cX10_presentSky 1 = .ok (.getfield 358, 3) := dq_get (L := lzddX10_presentSky_0) 1 rfl zddX10_presentSky_0 rfl
theorem dX10_presentSky_4 : decode cX10_presentSky 4 = .ok (.ifCond .ne 24, 3) := dq_get (L := lzddX10_presentSky_0) 2 rfl zddX10_presentSky_0 rfl
theorem dX10_presentSky_7 : decode cX10_presentSky 7 = .ok (.aload_n 0, 1) := dq_get (L := lzddX10_presentSky_0) 3 rfl zddX10_presentSky_0 rfl
theorem dX10_presentSky_8 : decode cX10_presentSky 8 = .ok (.getfield 49, 3) := dq_get (L := lzddX10_presentSky_0) 4 rfl zddX10_presentSky_0 rfl
theorem dX10_presentSky_11 : decode cX10_presentSky 11 = .ok (.aload_n 0, 1) := dq_get (L := lzddX10_presentSky_0) 5 rfl zddX10_presentSky_0 rfl
theorem dX10_presentSky_12 : decode cX10_presentSky 12 = .ok (.getfield 16, 3) := dq_get (L := lzddX10_presentSky_0) 6 rfl zddX10_presentSky_0 rfl
theorem dX10_presentSky_15 : decode cX10_presentSky 15 = .ok (.aload_n 0, 1) := dq_get (L := lzddX10_presentSky_0) 7 rfl zddX10_presentSky_0 rfl
theorem dX10_presentSky_16 : decode cX10_presentSky 16 = .ok (.getfield 35, 3) := dq_get (L := lzddX10_presentSky_0) 8 rfl zddX10_presentSky_0 rfl
theorem dX10_presentSky_19 : decode cX10_presentSky 19 = .ok (.iconst (-1), 1) := dq_get (L := lzddX10_presentSky_0) 9 rfl zddX10_presentSky_0 rfl
theorem dX10_presentSky_20 : decode cX10_presentSky 20 = .ok (.invokevirtual 237, 3) := dq_get (L := lzddX10_presentSky_0) 10 rfl zddX10_presentSky_0 rfl
theorem dX10_presentSky_23 : decode cX10_presentSky 23 = .ok (.aload_n 0, 1) := dq_get (L := lzddX10_presentSky_0) 11 rfl zddX10_presentSky_0 rfl
theorem dX10_presentSky_24 : decode cX10_presentSky 24 = .ok (.iconst 1, 1) := dq_get (L := lzddX10_presentSky_0) 12 rfl zddX10_presentSky_0 rfl
theorem dX10_presentSky_25 : decode cX10_presentSky 25 = .ok (.putfield 358, 3) := dq_get (L := lzddX10_presentSky_0) 13 rfl zddX10_presentSky_0 rfl
theorem dX10_presentSky_28 : decode cX10_presentSky 28 = .ok (.aload_n 0, 1) := dq_get (L := lzddX10_presentSky_0) 14 rfl zddX10_presentSky_0 rfl
theorem dX10_presentSky_29 : decode cX10_presentSky 29 = .ok (.getfield 49, 3) := dq_get (L := lzddX10_presentSky_0) 15 rfl zddX10_presentSky_0 rfl
theorem dX10_presentSky_32 : decode cX10_presentSky 32 = .ok (.areturn, 1) := dq_get (L := lzddX10_presentSky_0) 16 rfl zddX10_presentSky_0 rfl
def lzddX10_putBytes_0 : List (Nat × Instr × Nat) := [(0, .bipush 24, 2), (2, .istore_n 2, 1), (3, .iload_n 2, 1), (4, .ifCond .lt 32, 3), (7, .aload_n 0, 1), (8, .getfield 9, 3), (11, .aload_n 0, 1), (12, .getfield 71, 3), (15, .iload_n 1, 1), (16, .iload_n 2, 1), (17, .ishr, 1), (18, .i2b, 1), (19, .bastore, 1), (20, .aload_n 0, 1), (21, .dup, 1), (22, .getfield 71, 3), (25, .iconst 1, 1), (26, .iadd, 1), (27, .putfield 71, 3), (30, .iinc 2 (-8), 3)]
theorem zddX10_putBytes_0 : dqW lzddX10_putBytes_0 (cX10_putBytes.data.toList.drop 0) 0 = true := by decide +kernel
theorem dX10_putBytes_0 : decode cX10_putBytes 0 = .ok (.bipush 24, 2) := dq_get (L := lzddX10_putBytes_0) 0 rfl zddX10_putBytes_0 rfl
theorem dX10_putBytes_2 : decode cX10_putBytes 2 = .ok (.istore_n 2, 1) := dq_get (L := lzddX10_putBytes_0) 1 rfl zddX10_putBytes_0 rfl
theorem dX10_putBytes_3 : decode cX10_putBytes 3 = .ok (.iload_n 2, 1) := dq_get (L := lzddX10_putBytes_0) 2 rfl zddX10_putBytes_0 rfl
theorem dX10_putBytes_4 : decode cX10_putBytes 4 = .ok (.ifCond .lt 32, 3) := dq_get (L := lzddX10_putBytes_0) 3 rfl zddX10_putBytes_0 rfl
theorem dX10_putBytes_7 : decode cX10_putBytes 7 = .ok (.aload_n 0, 1) := dq_get (L := lzddX10_putBytes_0) 4 rfl zddX10_putBytes_0 rfl
theorem dX10_putBytes_8 : decode cX10_putBytes 8 = .ok (.getfield 9, 3) := dq_get (L := lzddX10_putBytes_0) 5 rfl zddX10_putBytes_0 rfl
theorem dX10_putBytes_11 : decode cX10_putBytes 11 = .ok (.aload_n 0, 1) := dq_get (L := lzddX10_putBytes_0) 6 rfl zddX10_putBytes_0 rfl
theorem dX10_putBytes_12 : decode cX10_putBytes 12 = .ok (.getfield 71, 3) := dq_get (L := lzddX10_putBytes_0) 7 rfl zddX10_putBytes_0 rfl
theorem dX10_putBytes_15 : decode cX10_putBytes 15 = .ok (.iload_n 1, 1) := dq_get (L := lzddX10_putBytes_0) 8 rfl zddX10_putBytes_0 rfl
theorem dX10_putBytes_16 : decode cX10_putBytes 16 = .ok (.iload_n 2, 1) := dq_get (L := lzddX10_putBytes_0) 9 rfl zddX10_putBytes_0 rfl
theorem dX10_putBytes_17 : decode cX10_putBytes 17 = .ok (.ishr, 1) := dq_get (L := lzddX10_putBytes_0) 10 rfl zddX10_putBytes_0 rfl
theorem dX10_putBytes_18 : decode cX10_putBytes 18 = .ok (.i2b, 1) := dq_get (L := lzddX10_putBytes_0) 11 rfl zddX10_putBytes_0 rfl
theorem dX10_putBytes_19 : decode cX10_putBytes 19 = .ok (.bastore, 1) := dq_get (L := lzddX10_putBytes_0) 12 rfl zddX10_putBytes_0 rfl
theorem dX10_putBytes_20 : decode cX10_putBytes 20 = .ok (.aload_n 0, 1) := dq_get (L := lzddX10_putBytes_0) 13 rfl zddX10_putBytes_0 rfl
theorem dX10_putBytes_21 : decode cX10_putBytes 21 = .ok (.dup, 1) := dq_get (L := lzddX10_putBytes_0) 14 rfl zddX10_putBytes_0 rfl
theorem dX10_putBytes_22 : decode cX10_putBytes 22 = .ok (.getfield 71, 3) := dq_get (L := lzddX10_putBytes_0) 15 rfl zddX10_putBytes_0 rfl
theorem dX10_putBytes_25 : decode cX10_putBytes 25 = .ok (.iconst 1, 1) := dq_get (L := lzddX10_putBytes_0) 16 rfl zddX10_putBytes_0 rfl
theorem dX10_putBytes_26 : decode cX10_putBytes 26 = .ok (.iadd, 1) := dq_get (L := lzddX10_putBytes_0) 17 rfl zddX10_putBytes_0 rfl
theorem dX10_putBytes_27 : decode cX10_putBytes 27 = .ok (.putfield 71, 3) := dq_get (L := lzddX10_putBytes_0) 18 rfl zddX10_putBytes_0 rfl
theorem dX10_putBytes_30 : decode cX10_putBytes 30 = .ok (.iinc 2 (-8), 3) := dq_get (L := lzddX10_putBytes_0) 19 rfl zddX10_putBytes_0 rfl
def lzddX10_putBytes_33 : List (Nat × Instr × Nat) := [(33, .goto (-30), 3), (36, .return_, 1)]
theorem zddX10_putBytes_33 : dqW lzddX10_putBytes_33 (cX10_putBytes.data.toList.drop 33) 33 = true := by decide +kernel
theorem dX10_putBytes_33 : decode cX10_putBytes 33 = .ok (.goto (-30), 3) := dq_get (L := lzddX10_putBytes_33) 0 rfl zddX10_putBytes_33 rfl
theorem dX10_putBytes_36 : decode cX10_putBytes 36 = .ok (.return_, 1) := dq_get (L := lzddX10_putBytes_33) 1 rfl zddX10_putBytes_33 rfl
def lzddX10_refused_0 : List (Nat × Instr × Nat) := [(0, .aload_n 0, 1), (1, .iload_n 1, 1), (2, .putfield 112, 3), (5, .iconst (-1), 1), (6, .ireturn, 1)]
theorem zddX10_refused_0 : dqW lzddX10_refused_0 (cX10_refused.data.toList.drop 0) 0 = true := by decide +kernel
theorem dX10_refused_0 : decode cX10_refused 0 = .ok (.aload_n 0, 1) := dq_get (L := lzddX10_refused_0) 0 rfl zddX10_refused_0 rfl
theorem dX10_refused_1 : decode cX10_refused 1 = .ok (.iload_n 1, 1) := dq_get (L := lzddX10_refused_0) 1 rfl zddX10_refused_0 rfl
theorem dX10_refused_2 : decode cX10_refused 2 = .ok (.putfield 112, 3) := dq_get (L := lzddX10_refused_0) 2 rfl zddX10_refused_0 rfl
theorem dX10_refused_5 : decode cX10_refused 5 = .ok (.iconst (-1), 1) := dq_get (L := lzddX10_refused_0) 3 rfl zddX10_refused_0 rfl
theorem dX10_refused_6 : decode cX10_refused 6 = .ok (.ireturn, 1) := dq_get (L := lzddX10_refused_0) 4 rfl zddX10_refused_0 rfl
def lzddX10_refusedAct_0 : List (Nat × Instr × Nat) := [(0, .aload_n 0, 1), (1, .iload_n 1, 1), (2, .putfield 112, 3), (5, .iconst 0, 1), (6, .ireturn, 1)]
theorem zddX10_refusedAct_0 : dqW lzddX10_refusedAct_0 (cX10_refusedAct.data.toList.drop 0) 0 = true := by decide +kernel
theorem dX10_refusedAct_0 : decode cX10_refusedAct 0 = .ok (.aload_n 0, 1) := dq_get (L := lzddX10_refusedAct_0) 0 rfl zddX10_refusedAct_0 rfl
theorem dX10_refusedAct_1 : decode cX10_refusedAct 1 = .ok (.iload_n 1, 1) := dq_get (L := lzddX10_refusedAct_0) 1 rfl zddX10_refusedAct_0 rfl
theorem dX10_refusedAct_2 : decode cX10_refusedAct 2 = .ok (.putfield 112, 3) := dq_get (L := lzddX10_refusedAct_0) 2 rfl zddX10_refusedAct_0 rfl
theorem dX10_refusedAct_5 : decode cX10_refusedAct 5 = .ok (.iconst 0, 1) := dq_get (L := lzddX10_refusedAct_0) 3 rfl zddX10_refusedAct_0 rfl
theorem dX10_refusedAct_6 : decode cX10_refusedAct 6 = .ok (.ireturn, 1) := dq_get (L := lzddX10_refusedAct_0) 4 rfl zddX10_refusedAct_0 rfl
def lzddX10_refusedTotal_0 : List (Nat × Instr × Nat) := [(0, .aload_n 0, 1), (1, .iload_n 1, 1), (2, .putfield 112, 3), (5, .ldc_w 356, 3), (8, .ireturn, 1)]
theorem zddX10_refusedTotal_0 : dqW lzddX10_refusedTotal_0 (cX10_refusedTotal.data.toList.drop 0) 0 = true := by decide +kernel
theorem dX10_refusedTotal_0 : decode cX10_refusedTotal 0 = .ok (.aload_n 0, 1) := dq_get (L := lzddX10_refusedTotal_0) 0 rfl zddX10_refusedTotal_0 rfl
theorem dX10_refusedTotal_1 : decode cX10_refusedTotal 1 = .ok (.iload_n 1, 1) := dq_get (L := lzddX10_refusedTotal_0) 1 rfl zddX10_refusedTotal_0 rfl
theorem dX10_refusedTotal_2 : decode cX10_refusedTotal 2 = .ok (.putfield 112, 3) := dq_get (L := lzddX10_refusedTotal_0) 2 rfl zddX10_refusedTotal_0 rfl
theorem dX10_refusedTotal_5 : decode cX10_refusedTotal 5 = .ok (.ldc_w 356, 3) := dq_get (L := lzddX10_refusedTotal_0) 3 rfl zddX10_refusedTotal_0 rfl
theorem dX10_refusedTotal_8 : decode cX10_refusedTotal 8 = .ok (.ireturn, 1) := dq_get (L := lzddX10_refusedTotal_0) 4 rfl zddX10_refusedTotal_0 rfl
def lzddX10_seed_0 : List (Nat × Instr × Nat) := [(0, .aload_n 0, 1), (1, .getfield 95, 3), (4, .ifCond .ne 9, 3), (7, .aload_n 0, 1), (8, .iconst 1, 1), (9, .invokevirtual 281, 3), (12, .ireturn, 1), (13, .iload_n 1, 1), (14, .invokestatic 266, 3), (17, .ifCond .ne 9, 3), (20, .aload_n 0, 1), (21, .iconst 2, 1), (22, .invokevirtual 281, 3), (25, .ireturn, 1), (26, .aload_n 0, 1), (27, .getfield 35, 3), (30, .iload_n 1, 1), (31, .putfield 269, 3), (34, .aload_n 0, 1), (35, .invokevirtual 291, 3)]
theorem zddX10_seed_0 : dqW lzddX10_seed_0 (cX10_seed.data.toList.drop 0) 0 = true := by decide +kernel
theorem dX10_seed_0 : decode cX10_seed 0 = .ok (.aload_n 0, 1) := dq_get (L := lzddX10_seed_0) 0 rfl zddX10_seed_0 rfl
theorem dX10_seed_1 : decode cX10_seed 1 = .ok (.getfield 95, 3) := dq_get (L := lzddX10_seed_0) 1 rfl zddX10_seed_0 rfl
theorem dX10_seed_4 : decode cX10_seed 4 = .ok (.ifCond .ne 9, 3) := dq_get (L := lzddX10_seed_0) 2 rfl zddX10_seed_0 rfl
theorem dX10_seed_7 : decode cX10_seed 7 = .ok (.aload_n 0, 1) := dq_get (L := lzddX10_seed_0) 3 rfl zddX10_seed_0 rfl
theorem dX10_seed_8 : decode cX10_seed 8 = .ok (.iconst 1, 1) := dq_get (L := lzddX10_seed_0) 4 rfl zddX10_seed_0 rfl
theorem dX10_seed_9 : decode cX10_seed 9 = .ok (.invokevirtual 281, 3) := dq_get (L := lzddX10_seed_0) 5 rfl zddX10_seed_0 rfl
theorem dX10_seed_12 : decode cX10_seed 12 = .ok (.ireturn, 1) := dq_get (L := lzddX10_seed_0) 6 rfl zddX10_seed_0 rfl
theorem dX10_seed_13 : decode cX10_seed 13 = .ok (.iload_n 1, 1) := dq_get (L := lzddX10_seed_0) 7 rfl zddX10_seed_0 rfl
theorem dX10_seed_14 : decode cX10_seed 14 = .ok (.invokestatic 266, 3) := dq_get (L := lzddX10_seed_0) 8 rfl zddX10_seed_0 rfl
theorem dX10_seed_17 : decode cX10_seed 17 = .ok (.ifCond .ne 9, 3) := dq_get (L := lzddX10_seed_0) 9 rfl zddX10_seed_0 rfl
theorem dX10_seed_20 : decode cX10_seed 20 = .ok (.aload_n 0, 1) := dq_get (L := lzddX10_seed_0) 10 rfl zddX10_seed_0 rfl
theorem dX10_seed_21 : decode cX10_seed 21 = .ok (.iconst 2, 1) := dq_get (L := lzddX10_seed_0) 11 rfl zddX10_seed_0 rfl
theorem dX10_seed_22 : decode cX10_seed 22 = .ok (.invokevirtual 281, 3) := dq_get (L := lzddX10_seed_0) 12 rfl zddX10_seed_0 rfl
theorem dX10_seed_25 : decode cX10_seed 25 = .ok (.ireturn, 1) := dq_get (L := lzddX10_seed_0) 13 rfl zddX10_seed_0 rfl
theorem dX10_seed_26 : decode cX10_seed 26 = .ok (.aload_n 0, 1) := dq_get (L := lzddX10_seed_0) 14 rfl zddX10_seed_0 rfl
theorem dX10_seed_27 : decode cX10_seed 27 = .ok (.getfield 35, 3) := dq_get (L := lzddX10_seed_0) 15 rfl zddX10_seed_0 rfl
theorem dX10_seed_30 : decode cX10_seed 30 = .ok (.iload_n 1, 1) := dq_get (L := lzddX10_seed_0) 16 rfl zddX10_seed_0 rfl
theorem dX10_seed_31 : decode cX10_seed 31 = .ok (.putfield 269, 3) := dq_get (L := lzddX10_seed_0) 17 rfl zddX10_seed_0 rfl
theorem dX10_seed_34 : decode cX10_seed 34 = .ok (.aload_n 0, 1) := dq_get (L := lzddX10_seed_0) 18 rfl zddX10_seed_0 rfl
theorem dX10_seed_35 : decode cX10_seed 35 = .ok (.invokevirtual 291, 3) := dq_get (L := lzddX10_seed_0) 19 rfl zddX10_seed_0 rfl
def lzddX10_seed_38 : List (Nat × Instr × Nat) := [(38, .ireturn, 1)]
theorem zddX10_seed_38 : dqW lzddX10_seed_38 (cX10_seed.data.toList.drop 38) 38 = true := by decide +kernel
theorem dX10_seed_38 : decode cX10_seed 38 = .ok (.ireturn, 1) := dq_get (L := lzddX10_seed_38) 0 rfl zddX10_seed_38 rfl
def lzddX10_size_0 : List (Nat × Instr × Nat) := [(0, .iload_n 1, 1)]
theorem zddX10_size_0 : dqW lzddX10_size_0 (cX10_size.data.toList.drop 0) 0 = true := by decide +kernel
theorem dX10_size_0 : decode cX10_size 0 = .ok (.iload_n 1, 1) := dq_get (L := lzddX10_size_0) 0 rfl zddX10_size_0 rfl
theorem dX10_size_1 : decode cX10_size 1 = .ok (.tableswitch 171 0 12 #[67, 75, 83, 91, 99, 107, 115, 123, 131, 142, 150, 158, 166], 67) := by decide +kernel
def lzddX10_size_68 : List (Nat × Instr × Nat) := [(68, .aload_n 0, 1), (69, .getfield 16, 3), (72, .getfield 146, 3), (75, .ireturn, 1), (76, .aload_n 0, 1), (77, .getfield 16, 3), (80, .getfield 332, 3), (83, .ireturn, 1), (84, .aload_n 0, 1), (85, .getfield 16, 3), (88, .getfield 311, 3), (91, .ireturn, 1), (92, .aload_n 0, 1), (93, .getfield 35, 3), (96, .getfield 272, 3), (99, .ireturn, 1), (100, .aload_n 0, 1), (101, .getfield 16, 3), (104, .getfield 106, 3), (107, .ireturn, 1)]
theorem zddX10_size_68 : dqW lzddX10_size_68 (cX10_size.data.toList.drop 68) 68 = true := by decide +kernel
theorem dX10_size_68 : decode cX10_size 68 = .ok (.aload_n 0, 1) := dq_get (L := lzddX10_size_68) 0 rfl zddX10_size_68 rfl
theorem dX10_size_69 : decode cX10_size 69 = .ok (.getfield 16, 3) := dq_get (L := lzddX10_size_68) 1 rfl zddX10_size_68 rfl
theorem dX10_size_72 : decode cX10_size 72 = .ok (.getfield 146, 3) := dq_get (L := lzddX10_size_68) 2 rfl zddX10_size_68 rfl
theorem dX10_size_75 : decode cX10_size 75 = .ok (.ireturn, 1) := dq_get (L := lzddX10_size_68) 3 rfl zddX10_size_68 rfl
theorem dX10_size_76 : decode cX10_size 76 = .ok (.aload_n 0, 1) := dq_get (L := lzddX10_size_68) 4 rfl zddX10_size_68 rfl
theorem dX10_size_77 : decode cX10_size 77 = .ok (.getfield 16, 3) := dq_get (L := lzddX10_size_68) 5 rfl zddX10_size_68 rfl
theorem dX10_size_80 : decode cX10_size 80 = .ok (.getfield 332, 3) := dq_get (L := lzddX10_size_68) 6 rfl zddX10_size_68 rfl
theorem dX10_size_83 : decode cX10_size 83 = .ok (.ireturn, 1) := dq_get (L := lzddX10_size_68) 7 rfl zddX10_size_68 rfl
theorem dX10_size_84 : decode cX10_size 84 = .ok (.aload_n 0, 1) := dq_get (L := lzddX10_size_68) 8 rfl zddX10_size_68 rfl
theorem dX10_size_85 : decode cX10_size 85 = .ok (.getfield 16, 3) := dq_get (L := lzddX10_size_68) 9 rfl zddX10_size_68 rfl
theorem dX10_size_88 : decode cX10_size 88 = .ok (.getfield 311, 3) := dq_get (L := lzddX10_size_68) 10 rfl zddX10_size_68 rfl
theorem dX10_size_91 : decode cX10_size 91 = .ok (.ireturn, 1) := dq_get (L := lzddX10_size_68) 11 rfl zddX10_size_68 rfl
theorem dX10_size_92 : decode cX10_size 92 = .ok (.aload_n 0, 1) := dq_get (L := lzddX10_size_68) 12 rfl zddX10_size_68 rfl
theorem dX10_size_93 : decode cX10_size 93 = .ok (.getfield 35, 3) := dq_get (L := lzddX10_size_68) 13 rfl zddX10_size_68 rfl
theorem dX10_size_96 : decode cX10_size 96 = .ok (.getfield 272, 3) := dq_get (L := lzddX10_size_68) 14 rfl zddX10_size_68 rfl
theorem dX10_size_99 : decode cX10_size 99 = .ok (.ireturn, 1) := dq_get (L := lzddX10_size_68) 15 rfl zddX10_size_68 rfl
theorem dX10_size_100 : decode cX10_size 100 = .ok (.aload_n 0, 1) := dq_get (L := lzddX10_size_68) 16 rfl zddX10_size_68 rfl
theorem dX10_size_101 : decode cX10_size 101 = .ok (.getfield 16, 3) := dq_get (L := lzddX10_size_68) 17 rfl zddX10_size_68 rfl
theorem dX10_size_104 : decode cX10_size 104 = .ok (.getfield 106, 3) := dq_get (L := lzddX10_size_68) 18 rfl zddX10_size_68 rfl
theorem dX10_size_107 : decode cX10_size 107 = .ok (.ireturn, 1) := dq_get (L := lzddX10_size_68) 19 rfl zddX10_size_68 rfl
def lzddX10_size_108 : List (Nat × Instr × Nat) := [(108, .aload_n 0, 1), (109, .getfield 16, 3), (112, .getfield 335, 3), (115, .ireturn, 1), (116, .aload_n 0, 1), (117, .getfield 16, 3), (120, .getfield 278, 3), (123, .ireturn, 1), (124, .aload_n 0, 1), (125, .getfield 16, 3), (128, .getfield 338, 3), (131, .ireturn, 1), (132, .aload_n 0, 1), (133, .getfield 16, 3), (136, .getfield 341, 3), (139, .getfield 345, 3), (142, .ireturn, 1), (143, .aload_n 0, 1), (144, .getfield 35, 3), (147, .getfield 269, 3)]
theorem zddX10_size_108 : dqW lzddX10_size_108 (cX10_size.data.toList.drop 108) 108 = true := by decide +kernel
theorem dX10_size_108 : decode cX10_size 108 = .ok (.aload_n 0, 1) := dq_get (L := lzddX10_size_108) 0 rfl zddX10_size_108 rfl
theorem dX10_size_109 : decode cX10_size 109 = .ok (.getfield 16, 3) := dq_get (L := lzddX10_size_108) 1 rfl zddX10_size_108 rfl
theorem dX10_size_112 : decode cX10_size 112 = .ok (.getfield 335, 3) := dq_get (L := lzddX10_size_108) 2 rfl zddX10_size_108 rfl
theorem dX10_size_115 : decode cX10_size 115 = .ok (.ireturn, 1) := dq_get (L := lzddX10_size_108) 3 rfl zddX10_size_108 rfl
theorem dX10_size_116 : decode cX10_size 116 = .ok (.aload_n 0, 1) := dq_get (L := lzddX10_size_108) 4 rfl zddX10_size_108 rfl
theorem dX10_size_117 : decode cX10_size 117 = .ok (.getfield 16, 3) := dq_get (L := lzddX10_size_108) 5 rfl zddX10_size_108 rfl
theorem dX10_size_120 : decode cX10_size 120 = .ok (.getfield 278, 3) := dq_get (L := lzddX10_size_108) 6 rfl zddX10_size_108 rfl
theorem dX10_size_123 : decode cX10_size 123 = .ok (.ireturn, 1) := dq_get (L := lzddX10_size_108) 7 rfl zddX10_size_108 rfl
theorem dX10_size_124 : decode cX10_size 124 = .ok (.aload_n 0, 1) := dq_get (L := lzddX10_size_108) 8 rfl zddX10_size_108 rfl
theorem dX10_size_125 : decode cX10_size 125 = .ok (.getfield 16, 3) := dq_get (L := lzddX10_size_108) 9 rfl zddX10_size_108 rfl
theorem dX10_size_128 : decode cX10_size 128 = .ok (.getfield 338, 3) := dq_get (L := lzddX10_size_108) 10 rfl zddX10_size_108 rfl
theorem dX10_size_131 : decode cX10_size 131 = .ok (.ireturn, 1) := dq_get (L := lzddX10_size_108) 11 rfl zddX10_size_108 rfl
theorem dX10_size_132 : decode cX10_size 132 = .ok (.aload_n 0, 1) := dq_get (L := lzddX10_size_108) 12 rfl zddX10_size_108 rfl
theorem dX10_size_133 : decode cX10_size 133 = .ok (.getfield 16, 3) := dq_get (L := lzddX10_size_108) 13 rfl zddX10_size_108 rfl
theorem dX10_size_136 : decode cX10_size 136 = .ok (.getfield 341, 3) := dq_get (L := lzddX10_size_108) 14 rfl zddX10_size_108 rfl
theorem dX10_size_139 : decode cX10_size 139 = .ok (.getfield 345, 3) := dq_get (L := lzddX10_size_108) 15 rfl zddX10_size_108 rfl
theorem dX10_size_142 : decode cX10_size 142 = .ok (.ireturn, 1) := dq_get (L := lzddX10_size_108) 16 rfl zddX10_size_108 rfl
theorem dX10_size_143 : decode cX10_size 143 = .ok (.aload_n 0, 1) := dq_get (L := lzddX10_size_108) 17 rfl zddX10_size_108 rfl
theorem dX10_size_144 : decode cX10_size 144 = .ok (.getfield 35, 3) := dq_get (L := lzddX10_size_108) 18 rfl zddX10_size_108 rfl
theorem dX10_size_147 : decode cX10_size 147 = .ok (.getfield 269, 3) := dq_get (L := lzddX10_size_108) 19 rfl zddX10_size_108 rfl
def lzddX10_size_150 : List (Nat × Instr × Nat) := [(150, .ireturn, 1), (151, .aload_n 0, 1), (152, .getfield 42, 3), (155, .getfield 350, 3), (158, .ireturn, 1), (159, .aload_n 0, 1), (160, .getfield 42, 3), (163, .getfield 353, 3), (166, .ireturn, 1), (167, .aload_n 0, 1), (168, .getfield 71, 3), (171, .ireturn, 1), (172, .iconst (-1), 1), (173, .ireturn, 1)]
theorem zddX10_size_150 : dqW lzddX10_size_150 (cX10_size.data.toList.drop 150) 150 = true := by decide +kernel
theorem dX10_size_150 : decode cX10_size 150 = .ok (.ireturn, 1) := dq_get (L := lzddX10_size_150) 0 rfl zddX10_size_150 rfl
theorem dX10_size_151 : decode cX10_size 151 = .ok (.aload_n 0, 1) := dq_get (L := lzddX10_size_150) 1 rfl zddX10_size_150 rfl
theorem dX10_size_152 : decode cX10_size 152 = .ok (.getfield 42, 3) := dq_get (L := lzddX10_size_150) 2 rfl zddX10_size_150 rfl
theorem dX10_size_155 : decode cX10_size 155 = .ok (.getfield 350, 3) := dq_get (L := lzddX10_size_150) 3 rfl zddX10_size_150 rfl
theorem dX10_size_158 : decode cX10_size 158 = .ok (.ireturn, 1) := dq_get (L := lzddX10_size_150) 4 rfl zddX10_size_150 rfl
theorem dX10_size_159 : decode cX10_size 159 = .ok (.aload_n 0, 1) := dq_get (L := lzddX10_size_150) 5 rfl zddX10_size_150 rfl
theorem dX10_size_160 : decode cX10_size 160 = .ok (.getfield 42, 3) := dq_get (L := lzddX10_size_150) 6 rfl zddX10_size_150 rfl
theorem dX10_size_163 : decode cX10_size 163 = .ok (.getfield 353, 3) := dq_get (L := lzddX10_size_150) 7 rfl zddX10_size_150 rfl
theorem dX10_size_166 : decode cX10_size 166 = .ok (.ireturn, 1) := dq_get (L := lzddX10_size_150) 8 rfl zddX10_size_150 rfl
theorem dX10_size_167 : decode cX10_size 167 = .ok (.aload_n 0, 1) := dq_get (L := lzddX10_size_150) 9 rfl zddX10_size_150 rfl
theorem dX10_size_168 : decode cX10_size 168 = .ok (.getfield 71, 3) := dq_get (L := lzddX10_size_150) 10 rfl zddX10_size_150 rfl
theorem dX10_size_171 : decode cX10_size 171 = .ok (.ireturn, 1) := dq_get (L := lzddX10_size_150) 11 rfl zddX10_size_150 rfl
theorem dX10_size_172 : decode cX10_size 172 = .ok (.iconst (-1), 1) := dq_get (L := lzddX10_size_150) 12 rfl zddX10_size_150 rfl
theorem dX10_size_173 : decode cX10_size 173 = .ok (.ireturn, 1) := dq_get (L := lzddX10_size_150) 13 rfl zddX10_size_150 rfl
def lzddX10_sky_0 : List (Nat × Instr × Nat) := [(0, .aload_n 0, 1), (1, .getfield 95, 3), (4, .ifCond .ne 9, 3), (7, .aload_n 0, 1), (8, .iconst 1, 1), (9, .invokevirtual 79, 3), (12, .ireturn, 1), (13, .aload_n 0, 1), (14, .iload_n 1, 1), (15, .invokevirtual 115, 3), (18, .ifCond .ne 9, 3), (21, .aload_n 0, 1), (22, .iconst 2, 1), (23, .invokevirtual 79, 3), (26, .ireturn, 1), (27, .aload_n 0, 1), (28, .aload_n 0, 1), (29, .invokevirtual 119, 3), (32, .iload_n 1, 1), (33, .invokevirtual 123, 3)]
theorem zddX10_sky_0 : dqW lzddX10_sky_0 (cX10_sky.data.toList.drop 0) 0 = true := by decide +kernel
theorem dX10_sky_0 : decode cX10_sky 0 = .ok (.aload_n 0, 1) := dq_get (L := lzddX10_sky_0) 0 rfl zddX10_sky_0 rfl
theorem dX10_sky_1 : decode cX10_sky 1 = .ok (.getfield 95, 3) := dq_get (L := lzddX10_sky_0) 1 rfl zddX10_sky_0 rfl
theorem dX10_sky_4 : decode cX10_sky 4 = .ok (.ifCond .ne 9, 3) := dq_get (L := lzddX10_sky_0) 2 rfl zddX10_sky_0 rfl
theorem dX10_sky_7 : decode cX10_sky 7 = .ok (.aload_n 0, 1) := dq_get (L := lzddX10_sky_0) 3 rfl zddX10_sky_0 rfl
theorem dX10_sky_8 : decode cX10_sky 8 = .ok (.iconst 1, 1) := dq_get (L := lzddX10_sky_0) 4 rfl zddX10_sky_0 rfl
theorem dX10_sky_9 : decode cX10_sky 9 = .ok (.invokevirtual 79, 3) := dq_get (L := lzddX10_sky_0) 5 rfl zddX10_sky_0 rfl
theorem dX10_sky_12 : decode cX10_sky 12 = .ok (.ireturn, 1) := dq_get (L := lzddX10_sky_0) 6 rfl zddX10_sky_0 rfl
theorem dX10_sky_13 : decode cX10_sky 13 = .ok (.aload_n 0, 1) := dq_get (L := lzddX10_sky_0) 7 rfl zddX10_sky_0 rfl
theorem dX10_sky_14 : decode cX10_sky 14 = .ok (.iload_n 1, 1) := dq_get (L := lzddX10_sky_0) 8 rfl zddX10_sky_0 rfl
theorem dX10_sky_15 : decode cX10_sky 15 = .ok (.invokevirtual 115, 3) := dq_get (L := lzddX10_sky_0) 9 rfl zddX10_sky_0 rfl
theorem dX10_sky_18 : decode cX10_sky 18 = .ok (.ifCond .ne 9, 3) := dq_get (L := lzddX10_sky_0) 10 rfl zddX10_sky_0 rfl
theorem dX10_sky_21 : decode cX10_sky 21 = .ok (.aload_n 0, 1) := dq_get (L := lzddX10_sky_0) 11 rfl zddX10_sky_0 rfl
theorem dX10_sky_22 : decode cX10_sky 22 = .ok (.iconst 2, 1) := dq_get (L := lzddX10_sky_0) 12 rfl zddX10_sky_0 rfl
theorem dX10_sky_23 : decode cX10_sky 23 = .ok (.invokevirtual 79, 3) := dq_get (L := lzddX10_sky_0) 13 rfl zddX10_sky_0 rfl
theorem dX10_sky_26 : decode cX10_sky 26 = .ok (.ireturn, 1) := dq_get (L := lzddX10_sky_0) 14 rfl zddX10_sky_0 rfl
theorem dX10_sky_27 : decode cX10_sky 27 = .ok (.aload_n 0, 1) := dq_get (L := lzddX10_sky_0) 15 rfl zddX10_sky_0 rfl
theorem dX10_sky_28 : decode cX10_sky 28 = .ok (.aload_n 0, 1) := dq_get (L := lzddX10_sky_0) 16 rfl zddX10_sky_0 rfl
theorem dX10_sky_29 : decode cX10_sky 29 = .ok (.invokevirtual 119, 3) := dq_get (L := lzddX10_sky_0) 17 rfl zddX10_sky_0 rfl
theorem dX10_sky_32 : decode cX10_sky 32 = .ok (.iload_n 1, 1) := dq_get (L := lzddX10_sky_0) 18 rfl zddX10_sky_0 rfl
theorem dX10_sky_33 : decode cX10_sky 33 = .ok (.invokevirtual 123, 3) := dq_get (L := lzddX10_sky_0) 19 rfl zddX10_sky_0 rfl
def lzddX10_sky_36 : List (Nat × Instr × Nat) := [(36, .ifCond .eq 7, 3), (39, .iconst 1, 1), (40, .goto 4, 3), (43, .iconst 0, 1), (44, .invokevirtual 109, 3), (47, .ireturn, 1)]
theorem zddX10_sky_36 : dqW lzddX10_sky_36 (cX10_sky.data.toList.drop 36) 36 = true := by decide +kernel
theorem dX10_sky_36 : decode cX10_sky 36 = .ok (.ifCond .eq 7, 3) := dq_get (L := lzddX10_sky_36) 0 rfl zddX10_sky_36 rfl
theorem dX10_sky_39 : decode cX10_sky 39 = .ok (.iconst 1, 1) := dq_get (L := lzddX10_sky_36) 1 rfl zddX10_sky_36 rfl
theorem dX10_sky_40 : decode cX10_sky 40 = .ok (.goto 4, 3) := dq_get (L := lzddX10_sky_36) 2 rfl zddX10_sky_36 rfl
theorem dX10_sky_43 : decode cX10_sky 43 = .ok (.iconst 0, 1) := dq_get (L := lzddX10_sky_36) 3 rfl zddX10_sky_36 rfl
theorem dX10_sky_44 : decode cX10_sky 44 = .ok (.invokevirtual 109, 3) := dq_get (L := lzddX10_sky_36) 4 rfl zddX10_sky_36 rfl
theorem dX10_sky_47 : decode cX10_sky 47 = .ok (.ireturn, 1) := dq_get (L := lzddX10_sky_36) 5 rfl zddX10_sky_36 rfl
def lzddX10_total_0 : List (Nat × Instr × Nat) := [(0, .aload_n 0, 1), (1, .getfield 95, 3), (4, .ifCond .eq 17, 3), (7, .aload_n 0, 1), (8, .aload_n 0, 1), (9, .invokevirtual 155, 3), (12, .invokevirtual 192, 3), (15, .invokevirtual 109, 3), (18, .goto 8, 3), (21, .aload_n 0, 1), (22, .iconst 1, 1), (23, .invokevirtual 178, 3), (26, .ireturn, 1)]
theorem zddX10_total_0 : dqW lzddX10_total_0 (cX10_total.data.toList.drop 0) 0 = true := by decide +kernel
theorem dX10_total_0 : decode cX10_total 0 = .ok (.aload_n 0, 1) := dq_get (L := lzddX10_total_0) 0 rfl zddX10_total_0 rfl
theorem dX10_total_1 : decode cX10_total 1 = .ok (.getfield 95, 3) := dq_get (L := lzddX10_total_0) 1 rfl zddX10_total_0 rfl
theorem dX10_total_4 : decode cX10_total 4 = .ok (.ifCond .eq 17, 3) := dq_get (L := lzddX10_total_0) 2 rfl zddX10_total_0 rfl
theorem dX10_total_7 : decode cX10_total 7 = .ok (.aload_n 0, 1) := dq_get (L := lzddX10_total_0) 3 rfl zddX10_total_0 rfl
theorem dX10_total_8 : decode cX10_total 8 = .ok (.aload_n 0, 1) := dq_get (L := lzddX10_total_0) 4 rfl zddX10_total_0 rfl
theorem dX10_total_9 : decode cX10_total 9 = .ok (.invokevirtual 155, 3) := dq_get (L := lzddX10_total_0) 5 rfl zddX10_total_0 rfl
theorem dX10_total_12 : decode cX10_total 12 = .ok (.invokevirtual 192, 3) := dq_get (L := lzddX10_total_0) 6 rfl zddX10_total_0 rfl
theorem dX10_total_15 : decode cX10_total 15 = .ok (.invokevirtual 109, 3) := dq_get (L := lzddX10_total_0) 7 rfl zddX10_total_0 rfl
theorem dX10_total_18 : decode cX10_total 18 = .ok (.goto 8, 3) := dq_get (L := lzddX10_total_0) 8 rfl zddX10_total_0 rfl
theorem dX10_total_21 : decode cX10_total 21 = .ok (.aload_n 0, 1) := dq_get (L := lzddX10_total_0) 9 rfl zddX10_total_0 rfl
theorem dX10_total_22 : decode cX10_total 22 = .ok (.iconst 1, 1) := dq_get (L := lzddX10_total_0) 10 rfl zddX10_total_0 rfl
theorem dX10_total_23 : decode cX10_total 23 = .ok (.invokevirtual 178, 3) := dq_get (L := lzddX10_total_0) 11 rfl zddX10_total_0 rfl
theorem dX10_total_26 : decode cX10_total 26 = .ok (.ireturn, 1) := dq_get (L := lzddX10_total_0) 12 rfl zddX10_total_0 rfl
def lzddX10_trouble_0 : List (Nat × Instr × Nat) := [(0, .aload_n 0, 1), (1, .getfield 112, 3), (4, .ireturn, 1)]
theorem zddX10_trouble_0 : dqW lzddX10_trouble_0 (cX10_trouble.data.toList.drop 0) 0 = true := by decide +kernel
theorem dX10_trouble_0 : decode cX10_trouble 0 = .ok (.aload_n 0, 1) := dq_get (L := lzddX10_trouble_0) 0 rfl zddX10_trouble_0 rfl
theorem dX10_trouble_1 : decode cX10_trouble 1 = .ok (.getfield 112, 3) := dq_get (L := lzddX10_trouble_0) 1 rfl zddX10_trouble_0 rfl
theorem dX10_trouble_4 : decode cX10_trouble 4 = .ok (.ireturn, 1) := dq_get (L := lzddX10_trouble_0) 2 rfl zddX10_trouble_0 rfl
def lzddX10_turned_0 : List (Nat × Instr × Nat) := [(0, .aload_n 0, 1), (1, .iload_n 1, 1), (2, .invokevirtual 195, 3), (5, .ifCond .ne 9, 3), (8, .aload_n 0, 1), (9, .iconst 1, 1), (10, .invokevirtual 79, 3), (13, .ireturn, 1), (14, .aload_n 0, 1), (15, .iload_n 2, 1), (16, .invokevirtual 115, 3), (19, .ifCond .ne 9, 3), (22, .aload_n 0, 1), (23, .iconst 2, 1), (24, .invokevirtual 79, 3), (27, .ireturn, 1), (28, .aload_n 0, 1), (29, .aload_n 0, 1), (30, .invokevirtual 155, 3), (33, .iload_n 1, 1)]
theorem zddX10_turned_0 : dqW lzddX10_turned_0 (cX10_turned.data.toList.drop 0) 0 = true := by decide +kernel
theorem dX10_turned_0 : decode cX10_turned 0 = .ok (.aload_n 0, 1) := dq_get (L := lzddX10_turned_0) 0 rfl zddX10_turned_0 rfl
theorem dX10_turned_1 : decode cX10_turned 1 = .ok (.iload_n 1, 1) := dq_get (L := lzddX10_turned_0) 1 rfl zddX10_turned_0 rfl
theorem dX10_turned_2 : decode cX10_turned 2 = .ok (.invokevirtual 195, 3) := dq_get (L := lzddX10_turned_0) 2 rfl zddX10_turned_0 rfl
theorem dX10_turned_5 : decode cX10_turned 5 = .ok (.ifCond .ne 9, 3) := dq_get (L := lzddX10_turned_0) 3 rfl zddX10_turned_0 rfl
theorem dX10_turned_8 : decode cX10_turned 8 = .ok (.aload_n 0, 1) := dq_get (L := lzddX10_turned_0) 4 rfl zddX10_turned_0 rfl
theorem dX10_turned_9 : decode cX10_turned 9 = .ok (.iconst 1, 1) := dq_get (L := lzddX10_turned_0) 5 rfl zddX10_turned_0 rfl
theorem dX10_turned_10 : decode cX10_turned 10 = .ok (.invokevirtual 79, 3) := dq_get (L := lzddX10_turned_0) 6 rfl zddX10_turned_0 rfl
theorem dX10_turned_13 : decode cX10_turned 13 = .ok (.ireturn, 1) := dq_get (L := lzddX10_turned_0) 7 rfl zddX10_turned_0 rfl
theorem dX10_turned_14 : decode cX10_turned 14 = .ok (.aload_n 0, 1) := dq_get (L := lzddX10_turned_0) 8 rfl zddX10_turned_0 rfl
theorem dX10_turned_15 : decode cX10_turned 15 = .ok (.iload_n 2, 1) := dq_get (L := lzddX10_turned_0) 9 rfl zddX10_turned_0 rfl
theorem dX10_turned_16 : decode cX10_turned 16 = .ok (.invokevirtual 115, 3) := dq_get (L := lzddX10_turned_0) 10 rfl zddX10_turned_0 rfl
theorem dX10_turned_19 : decode cX10_turned 19 = .ok (.ifCond .ne 9, 3) := dq_get (L := lzddX10_turned_0) 11 rfl zddX10_turned_0 rfl
theorem dX10_turned_22 : decode cX10_turned 22 = .ok (.aload_n 0, 1) := dq_get (L := lzddX10_turned_0) 12 rfl zddX10_turned_0 rfl
theorem dX10_turned_23 : decode cX10_turned 23 = .ok (.iconst 2, 1) := dq_get (L := lzddX10_turned_0) 13 rfl zddX10_turned_0 rfl
theorem dX10_turned_24 : decode cX10_turned 24 = .ok (.invokevirtual 79, 3) := dq_get (L := lzddX10_turned_0) 14 rfl zddX10_turned_0 rfl
theorem dX10_turned_27 : decode cX10_turned 27 = .ok (.ireturn, 1) := dq_get (L := lzddX10_turned_0) 15 rfl zddX10_turned_0 rfl
theorem dX10_turned_28 : decode cX10_turned 28 = .ok (.aload_n 0, 1) := dq_get (L := lzddX10_turned_0) 16 rfl zddX10_turned_0 rfl
theorem dX10_turned_29 : decode cX10_turned 29 = .ok (.aload_n 0, 1) := dq_get (L := lzddX10_turned_0) 17 rfl zddX10_turned_0 rfl
theorem dX10_turned_30 : decode cX10_turned 30 = .ok (.invokevirtual 155, 3) := dq_get (L := lzddX10_turned_0) 18 rfl zddX10_turned_0 rfl
theorem dX10_turned_33 : decode cX10_turned 33 = .ok (.iload_n 1, 1) := dq_get (L := lzddX10_turned_0) 19 rfl zddX10_turned_0 rfl
def lzddX10_turned_34 : List (Nat × Instr × Nat) := [(34, .iload_n 2, 1), (35, .invokevirtual 198, 3), (38, .invokevirtual 109, 3), (41, .ireturn, 1)]
theorem zddX10_turned_34 : dqW lzddX10_turned_34 (cX10_turned.data.toList.drop 34) 34 = true := by decide +kernel
theorem dX10_turned_34 : decode cX10_turned 34 = .ok (.iload_n 2, 1) := dq_get (L := lzddX10_turned_34) 0 rfl zddX10_turned_34 rfl
theorem dX10_turned_35 : decode cX10_turned 35 = .ok (.invokevirtual 198, 3) := dq_get (L := lzddX10_turned_34) 1 rfl zddX10_turned_34 rfl
theorem dX10_turned_38 : decode cX10_turned 38 = .ok (.invokevirtual 109, 3) := dq_get (L := lzddX10_turned_34) 2 rfl zddX10_turned_34 rfl
theorem dX10_turned_41 : decode cX10_turned 41 = .ok (.ireturn, 1) := dq_get (L := lzddX10_turned_34) 3 rfl zddX10_turned_34 rfl
def lzddX10_undo_0 : List (Nat × Instr × Nat) := [(0, .aload_n 0, 1), (1, .getfield 42, 3), (4, .aload_n 0, 1), (5, .getfield 35, 3), (8, .invokevirtual 299, 3), (11, .ifCond .ne 10, 3), (14, .aload_n 0, 1), (15, .bipush 6, 2), (17, .invokevirtual 281, 3), (20, .ireturn, 1), (21, .aload_n 0, 1), (22, .invokevirtual 103, 3), (25, .aload_n 0, 1), (26, .invokevirtual 291, 3), (29, .ireturn, 1)]
theorem zddX10_undo_0 : dqW lzddX10_undo_0 (cX10_undo.data.toList.drop 0) 0 = true := by decide +kernel
theorem dX10_undo_0 : decode cX10_undo 0 = .ok (.aload_n 0, 1) := dq_get (L := lzddX10_undo_0) 0 rfl zddX10_undo_0 rfl
theorem dX10_undo_1 : decode cX10_undo 1 = .ok (.getfield 42, 3) := dq_get (L := lzddX10_undo_0) 1 rfl zddX10_undo_0 rfl
theorem dX10_undo_4 : decode cX10_undo 4 = .ok (.aload_n 0, 1) := dq_get (L := lzddX10_undo_0) 2 rfl zddX10_undo_0 rfl
theorem dX10_undo_5 : decode cX10_undo 5 = .ok (.getfield 35, 3) := dq_get (L := lzddX10_undo_0) 3 rfl zddX10_undo_0 rfl
theorem dX10_undo_8 : decode cX10_undo 8 = .ok (.invokevirtual 299, 3) := dq_get (L := lzddX10_undo_0) 4 rfl zddX10_undo_0 rfl
theorem dX10_undo_11 : decode cX10_undo 11 = .ok (.ifCond .ne 10, 3) := dq_get (L := lzddX10_undo_0) 5 rfl zddX10_undo_0 rfl
theorem dX10_undo_14 : decode cX10_undo 14 = .ok (.aload_n 0, 1) := dq_get (L := lzddX10_undo_0) 6 rfl zddX10_undo_0 rfl
theorem dX10_undo_15 : decode cX10_undo 15 = .ok (.bipush 6, 2) := dq_get (L := lzddX10_undo_0) 7 rfl zddX10_undo_0 rfl
theorem dX10_undo_17 : decode cX10_undo 17 = .ok (.invokevirtual 281, 3) := dq_get (L := lzddX10_undo_0) 8 rfl zddX10_undo_0 rfl
theorem dX10_undo_20 : decode cX10_undo 20 = .ok (.ireturn, 1) := dq_get (L := lzddX10_undo_0) 9 rfl zddX10_undo_0 rfl
theorem dX10_undo_21 : decode cX10_undo 21 = .ok (.aload_n 0, 1) := dq_get (L := lzddX10_undo_0) 10 rfl zddX10_undo_0 rfl
theorem dX10_undo_22 : decode cX10_undo 22 = .ok (.invokevirtual 103, 3) := dq_get (L := lzddX10_undo_0) 11 rfl zddX10_undo_0 rfl
theorem dX10_undo_25 : decode cX10_undo 25 = .ok (.aload_n 0, 1) := dq_get (L := lzddX10_undo_0) 12 rfl zddX10_undo_0 rfl
theorem dX10_undo_26 : decode cX10_undo 26 = .ok (.invokevirtual 291, 3) := dq_get (L := lzddX10_undo_0) 13 rfl zddX10_undo_0 rfl
theorem dX10_undo_29 : decode cX10_undo 29 = .ok (.ireturn, 1) := dq_get (L := lzddX10_undo_0) 14 rfl zddX10_undo_0 rfl
def lzddX10_up_0 : List (Nat × Instr × Nat) := [(0, .aload_n 0, 1), (1, .iload_n 1, 1), (2, .invokevirtual 195, 3), (5, .ifCond .ne 9, 3), (8, .aload_n 0, 1), (9, .iconst 1, 1), (10, .invokevirtual 79, 3), (13, .ireturn, 1), (14, .aload_n 0, 1), (15, .iload_n 2, 1), (16, .invokevirtual 115, 3), (19, .ifCond .ne 9, 3), (22, .aload_n 0, 1), (23, .iconst 2, 1), (24, .invokevirtual 79, 3), (27, .ireturn, 1), (28, .aload_n 0, 1), (29, .aload_n 0, 1), (30, .invokevirtual 155, 3), (33, .iload_n 1, 1)]
theorem zddX10_up_0 : dqW lzddX10_up_0 (cX10_up.data.toList.drop 0) 0 = true := by decide +kernel
theorem dX10_up_0 : decode cX10_up 0 = .ok (.aload_n 0, 1) := dq_get (L := lzddX10_up_0) 0 rfl zddX10_up_0 rfl
theorem dX10_up_1 : decode cX10_up 1 = .ok (.iload_n 1, 1) := dq_get (L := lzddX10_up_0) 1 rfl zddX10_up_0 rfl
theorem dX10_up_2 : decode cX10_up 2 = .ok (.invokevirtual 195, 3) := dq_get (L := lzddX10_up_0) 2 rfl zddX10_up_0 rfl
theorem dX10_up_5 : decode cX10_up 5 = .ok (.ifCond .ne 9, 3) := dq_get (L := lzddX10_up_0) 3 rfl zddX10_up_0 rfl
theorem dX10_up_8 : decode cX10_up 8 = .ok (.aload_n 0, 1) := dq_get (L := lzddX10_up_0) 4 rfl zddX10_up_0 rfl
theorem dX10_up_9 : decode cX10_up 9 = .ok (.iconst 1, 1) := dq_get (L := lzddX10_up_0) 5 rfl zddX10_up_0 rfl
theorem dX10_up_10 : decode cX10_up 10 = .ok (.invokevirtual 79, 3) := dq_get (L := lzddX10_up_0) 6 rfl zddX10_up_0 rfl
theorem dX10_up_13 : decode cX10_up 13 = .ok (.ireturn, 1) := dq_get (L := lzddX10_up_0) 7 rfl zddX10_up_0 rfl
theorem dX10_up_14 : decode cX10_up 14 = .ok (.aload_n 0, 1) := dq_get (L := lzddX10_up_0) 8 rfl zddX10_up_0 rfl
theorem dX10_up_15 : decode cX10_up 15 = .ok (.iload_n 2, 1) := dq_get (L := lzddX10_up_0) 9 rfl zddX10_up_0 rfl
theorem dX10_up_16 : decode cX10_up 16 = .ok (.invokevirtual 115, 3) := dq_get (L := lzddX10_up_0) 10 rfl zddX10_up_0 rfl
theorem dX10_up_19 : decode cX10_up 19 = .ok (.ifCond .ne 9, 3) := dq_get (L := lzddX10_up_0) 11 rfl zddX10_up_0 rfl
theorem dX10_up_22 : decode cX10_up 22 = .ok (.aload_n 0, 1) := dq_get (L := lzddX10_up_0) 12 rfl zddX10_up_0 rfl
theorem dX10_up_23 : decode cX10_up 23 = .ok (.iconst 2, 1) := dq_get (L := lzddX10_up_0) 13 rfl zddX10_up_0 rfl
theorem dX10_up_24 : decode cX10_up 24 = .ok (.invokevirtual 79, 3) := dq_get (L := lzddX10_up_0) 14 rfl zddX10_up_0 rfl
theorem dX10_up_27 : decode cX10_up 27 = .ok (.ireturn, 1) := dq_get (L := lzddX10_up_0) 15 rfl zddX10_up_0 rfl
theorem dX10_up_28 : decode cX10_up 28 = .ok (.aload_n 0, 1) := dq_get (L := lzddX10_up_0) 16 rfl zddX10_up_0 rfl
theorem dX10_up_29 : decode cX10_up 29 = .ok (.aload_n 0, 1) := dq_get (L := lzddX10_up_0) 17 rfl zddX10_up_0 rfl
theorem dX10_up_30 : decode cX10_up 30 = .ok (.invokevirtual 155, 3) := dq_get (L := lzddX10_up_0) 18 rfl zddX10_up_0 rfl
theorem dX10_up_33 : decode cX10_up 33 = .ok (.iload_n 1, 1) := dq_get (L := lzddX10_up_0) 19 rfl zddX10_up_0 rfl
def lzddX10_up_34 : List (Nat × Instr × Nat) := [(34, .iload_n 2, 1), (35, .invokevirtual 201, 3), (38, .ifCond .eq 7, 3), (41, .iconst 1, 1), (42, .goto 4, 3), (45, .iconst 0, 1), (46, .invokevirtual 109, 3), (49, .ireturn, 1)]
theorem zddX10_up_34 : dqW lzddX10_up_34 (cX10_up.data.toList.drop 34) 34 = true := by decide +kernel
theorem dX10_up_34 : decode cX10_up 34 = .ok (.iload_n 2, 1) := dq_get (L := lzddX10_up_34) 0 rfl zddX10_up_34 rfl
theorem dX10_up_35 : decode cX10_up 35 = .ok (.invokevirtual 201, 3) := dq_get (L := lzddX10_up_34) 1 rfl zddX10_up_34 rfl
theorem dX10_up_38 : decode cX10_up 38 = .ok (.ifCond .eq 7, 3) := dq_get (L := lzddX10_up_34) 2 rfl zddX10_up_34 rfl
theorem dX10_up_41 : decode cX10_up 41 = .ok (.iconst 1, 1) := dq_get (L := lzddX10_up_34) 3 rfl zddX10_up_34 rfl
theorem dX10_up_42 : decode cX10_up 42 = .ok (.goto 4, 3) := dq_get (L := lzddX10_up_34) 4 rfl zddX10_up_34 rfl
theorem dX10_up_45 : decode cX10_up 45 = .ok (.iconst 0, 1) := dq_get (L := lzddX10_up_34) 5 rfl zddX10_up_34 rfl
theorem dX10_up_46 : decode cX10_up 46 = .ok (.invokevirtual 109, 3) := dq_get (L := lzddX10_up_34) 6 rfl zddX10_up_34 rfl
theorem dX10_up_49 : decode cX10_up 49 = .ok (.ireturn, 1) := dq_get (L := lzddX10_up_34) 7 rfl zddX10_up_34 rfl
def lzddX10_vein_0 : List (Nat × Instr × Nat) := [(0, .aload_n 0, 1), (1, .iload_n 1, 1), (2, .iload_n 2, 1), (3, .invokevirtual 222, 3), (6, .istore_n 3, 1), (7, .iload_n 3, 1), (8, .iconst (-1), 1), (9, .if_icmp .ne 11, 3), (12, .aload_n 0, 1), (13, .iconst 1, 1), (14, .invokevirtual 79, 3), (17, .goto 8, 3), (20, .aload_n 0, 1), (21, .iload_n 3, 1), (22, .invokevirtual 109, 3), (25, .ireturn, 1)]
theorem zddX10_vein_0 : dqW lzddX10_vein_0 (cX10_vein.data.toList.drop 0) 0 = true := by decide +kernel
theorem dX10_vein_0 : decode cX10_vein 0 = .ok (.aload_n 0, 1) := dq_get (L := lzddX10_vein_0) 0 rfl zddX10_vein_0 rfl
theorem dX10_vein_1 : decode cX10_vein 1 = .ok (.iload_n 1, 1) := dq_get (L := lzddX10_vein_0) 1 rfl zddX10_vein_0 rfl
theorem dX10_vein_2 : decode cX10_vein 2 = .ok (.iload_n 2, 1) := dq_get (L := lzddX10_vein_0) 2 rfl zddX10_vein_0 rfl
theorem dX10_vein_3 : decode cX10_vein 3 = .ok (.invokevirtual 222, 3) := dq_get (L := lzddX10_vein_0) 3 rfl zddX10_vein_0 rfl
theorem dX10_vein_6 : decode cX10_vein 6 = .ok (.istore_n 3, 1) := dq_get (L := lzddX10_vein_0) 4 rfl zddX10_vein_0 rfl
theorem dX10_vein_7 : decode cX10_vein 7 = .ok (.iload_n 3, 1) := dq_get (L := lzddX10_vein_0) 5 rfl zddX10_vein_0 rfl
theorem dX10_vein_8 : decode cX10_vein 8 = .ok (.iconst (-1), 1) := dq_get (L := lzddX10_vein_0) 6 rfl zddX10_vein_0 rfl
theorem dX10_vein_9 : decode cX10_vein 9 = .ok (.if_icmp .ne 11, 3) := dq_get (L := lzddX10_vein_0) 7 rfl zddX10_vein_0 rfl
theorem dX10_vein_12 : decode cX10_vein 12 = .ok (.aload_n 0, 1) := dq_get (L := lzddX10_vein_0) 8 rfl zddX10_vein_0 rfl
theorem dX10_vein_13 : decode cX10_vein 13 = .ok (.iconst 1, 1) := dq_get (L := lzddX10_vein_0) 9 rfl zddX10_vein_0 rfl
theorem dX10_vein_14 : decode cX10_vein 14 = .ok (.invokevirtual 79, 3) := dq_get (L := lzddX10_vein_0) 10 rfl zddX10_vein_0 rfl
theorem dX10_vein_17 : decode cX10_vein 17 = .ok (.goto 8, 3) := dq_get (L := lzddX10_vein_0) 11 rfl zddX10_vein_0 rfl
theorem dX10_vein_20 : decode cX10_vein 20 = .ok (.aload_n 0, 1) := dq_get (L := lzddX10_vein_0) 12 rfl zddX10_vein_0 rfl
theorem dX10_vein_21 : decode cX10_vein 21 = .ok (.iload_n 3, 1) := dq_get (L := lzddX10_vein_0) 13 rfl zddX10_vein_0 rfl
theorem dX10_vein_22 : decode cX10_vein 22 = .ok (.invokevirtual 109, 3) := dq_get (L := lzddX10_vein_0) 14 rfl zddX10_vein_0 rfl
theorem dX10_vein_25 : decode cX10_vein 25 = .ok (.ireturn, 1) := dq_get (L := lzddX10_vein_0) 15 rfl zddX10_vein_0 rfl
def lzddX10_veinMinute_0 : List (Nat × Instr × Nat) := [(0, .aload_n 0, 1), (1, .iload_n 1, 1), (2, .invokevirtual 195, 3), (5, .ifCond .eq 15, 3), (8, .aload_n 0, 1), (9, .invokevirtual 155, 3), (12, .iload_n 1, 1), (13, .iload_n 2, 1), (14, .invokevirtual 371, 3), (17, .goto 4, 3), (20, .iconst (-1), 1), (21, .ireturn, 1)]
theorem zddX10_veinMinute_0 : dqW lzddX10_veinMinute_0 (cX10_veinMinute.data.toList.drop 0) 0 = true := by decide +kernel
theorem dX10_veinMinute_0 : decode cX10_veinMinute 0 = .ok (.aload_n 0, 1) := dq_get (L := lzddX10_veinMinute_0) 0 rfl zddX10_veinMinute_0 rfl
theorem dX10_veinMinute_1 : decode cX10_veinMinute 1 = .ok (.iload_n 1, 1) := dq_get (L := lzddX10_veinMinute_0) 1 rfl zddX10_veinMinute_0 rfl
theorem dX10_veinMinute_2 : decode cX10_veinMinute 2 = .ok (.invokevirtual 195, 3) := dq_get (L := lzddX10_veinMinute_0) 2 rfl zddX10_veinMinute_0 rfl
theorem dX10_veinMinute_5 : decode cX10_veinMinute 5 = .ok (.ifCond .eq 15, 3) := dq_get (L := lzddX10_veinMinute_0) 3 rfl zddX10_veinMinute_0 rfl
theorem dX10_veinMinute_8 : decode cX10_veinMinute 8 = .ok (.aload_n 0, 1) := dq_get (L := lzddX10_veinMinute_0) 4 rfl zddX10_veinMinute_0 rfl
theorem dX10_veinMinute_9 : decode cX10_veinMinute 9 = .ok (.invokevirtual 155, 3) := dq_get (L := lzddX10_veinMinute_0) 5 rfl zddX10_veinMinute_0 rfl
theorem dX10_veinMinute_12 : decode cX10_veinMinute 12 = .ok (.iload_n 1, 1) := dq_get (L := lzddX10_veinMinute_0) 6 rfl zddX10_veinMinute_0 rfl
theorem dX10_veinMinute_13 : decode cX10_veinMinute 13 = .ok (.iload_n 2, 1) := dq_get (L := lzddX10_veinMinute_0) 7 rfl zddX10_veinMinute_0 rfl
theorem dX10_veinMinute_14 : decode cX10_veinMinute 14 = .ok (.invokevirtual 371, 3) := dq_get (L := lzddX10_veinMinute_0) 8 rfl zddX10_veinMinute_0 rfl
theorem dX10_veinMinute_17 : decode cX10_veinMinute 17 = .ok (.goto 4, 3) := dq_get (L := lzddX10_veinMinute_0) 9 rfl zddX10_veinMinute_0 rfl
theorem dX10_veinMinute_20 : decode cX10_veinMinute 20 = .ok (.iconst (-1), 1) := dq_get (L := lzddX10_veinMinute_0) 10 rfl zddX10_veinMinute_0 rfl
theorem dX10_veinMinute_21 : decode cX10_veinMinute 21 = .ok (.ireturn, 1) := dq_get (L := lzddX10_veinMinute_0) 11 rfl zddX10_veinMinute_0 rfl
def lzddX10_wake_0 : List (Nat × Instr × Nat) := [(0, .aload_n 0, 1), (1, .getfield 95, 3), (4, .ifCond .eq 14, 3), (7, .aload_n 0, 1), (8, .aload_n 0, 1), (9, .invokevirtual 241, 3), (12, .invokevirtual 109, 3), (15, .goto 8, 3), (18, .aload_n 0, 1), (19, .iconst 1, 1), (20, .invokevirtual 79, 3), (23, .ireturn, 1)]
theorem zddX10_wake_0 : dqW lzddX10_wake_0 (cX10_wake.data.toList.drop 0) 0 = true := by decide +kernel
theorem dX10_wake_0 : decode cX10_wake 0 = .ok (.aload_n 0, 1) := dq_get (L := lzddX10_wake_0) 0 rfl zddX10_wake_0 rfl
theorem dX10_wake_1 : decode cX10_wake 1 = .ok (.getfield 95, 3) := dq_get (L := lzddX10_wake_0) 1 rfl zddX10_wake_0 rfl
theorem dX10_wake_4 : decode cX10_wake 4 = .ok (.ifCond .eq 14, 3) := dq_get (L := lzddX10_wake_0) 2 rfl zddX10_wake_0 rfl
theorem dX10_wake_7 : decode cX10_wake 7 = .ok (.aload_n 0, 1) := dq_get (L := lzddX10_wake_0) 3 rfl zddX10_wake_0 rfl
theorem dX10_wake_8 : decode cX10_wake 8 = .ok (.aload_n 0, 1) := dq_get (L := lzddX10_wake_0) 4 rfl zddX10_wake_0 rfl
theorem dX10_wake_9 : decode cX10_wake 9 = .ok (.invokevirtual 241, 3) := dq_get (L := lzddX10_wake_0) 5 rfl zddX10_wake_0 rfl
theorem dX10_wake_12 : decode cX10_wake 12 = .ok (.invokevirtual 109, 3) := dq_get (L := lzddX10_wake_0) 6 rfl zddX10_wake_0 rfl
theorem dX10_wake_15 : decode cX10_wake 15 = .ok (.goto 8, 3) := dq_get (L := lzddX10_wake_0) 7 rfl zddX10_wake_0 rfl
theorem dX10_wake_18 : decode cX10_wake 18 = .ok (.aload_n 0, 1) := dq_get (L := lzddX10_wake_0) 8 rfl zddX10_wake_0 rfl
theorem dX10_wake_19 : decode cX10_wake 19 = .ok (.iconst 1, 1) := dq_get (L := lzddX10_wake_0) 9 rfl zddX10_wake_0 rfl
theorem dX10_wake_20 : decode cX10_wake 20 = .ok (.invokevirtual 79, 3) := dq_get (L := lzddX10_wake_0) 10 rfl zddX10_wake_0 rfl
theorem dX10_wake_23 : decode cX10_wake 23 = .ok (.ireturn, 1) := dq_get (L := lzddX10_wake_0) 11 rfl zddX10_wake_0 rfl
def lzddX10_wakeTotal_0 : List (Nat × Instr × Nat) := [(0, .aload_n 0, 1), (1, .getfield 95, 3), (4, .ifCond .ne 9, 3), (7, .aload_n 0, 1), (8, .iconst 1, 1), (9, .invokevirtual 178, 3), (12, .ireturn, 1), (13, .aload_n 0, 1), (14, .getfield 68, 3), (17, .aload_n 0, 1), (18, .getfield 16, 3), (21, .aload_n 0, 1), (22, .invokevirtual 119, 3), (25, .aload_n 0, 1), (26, .invokevirtual 241, 3), (29, .aload_n 0, 1), (30, .invokevirtual 184, 3), (33, .invokevirtual 188, 3), (36, .aload_n 0, 1), (37, .aload_n 0, 1)]
theorem zddX10_wakeTotal_0 : dqW lzddX10_wakeTotal_0 (cX10_wakeTotal.data.toList.drop 0) 0 = true := by decide +kernel
theorem dX10_wakeTotal_0 : decode cX10_wakeTotal 0 = .ok (.aload_n 0, 1) := dq_get (L := lzddX10_wakeTotal_0) 0 rfl zddX10_wakeTotal_0 rfl
theorem dX10_wakeTotal_1 : decode cX10_wakeTotal 1 = .ok (.getfield 95, 3) := dq_get (L := lzddX10_wakeTotal_0) 1 rfl zddX10_wakeTotal_0 rfl
theorem dX10_wakeTotal_4 : decode cX10_wakeTotal 4 = .ok (.ifCond .ne 9, 3) := dq_get (L := lzddX10_wakeTotal_0) 2 rfl zddX10_wakeTotal_0 rfl
theorem dX10_wakeTotal_7 : decode cX10_wakeTotal 7 = .ok (.aload_n 0, 1) := dq_get (L := lzddX10_wakeTotal_0) 3 rfl zddX10_wakeTotal_0 rfl
theorem dX10_wakeTotal_8 : decode cX10_wakeTotal 8 = .ok (.iconst 1, 1) := dq_get (L := lzddX10_wakeTotal_0) 4 rfl zddX10_wakeTotal_0 rfl
theorem dX10_wakeTotal_9 : decode cX10_wakeTotal 9 = .ok (.invokevirtual 178, 3) := dq_get (L := lzddX10_wakeTotal_0) 5 rfl zddX10_wakeTotal_0 rfl
theorem dX10_wakeTotal_12 : decode cX10_wakeTotal 12 = .ok (.ireturn, 1) := dq_get (L := lzddX10_wakeTotal_0) 6 rfl zddX10_wakeTotal_0 rfl
theorem dX10_wakeTotal_13 : decode cX10_wakeTotal 13 = .ok (.aload_n 0, 1) := dq_get (L := lzddX10_wakeTotal_0) 7 rfl zddX10_wakeTotal_0 rfl
theorem dX10_wakeTotal_14 : decode cX10_wakeTotal 14 = .ok (.getfield 68, 3) := dq_get (L := lzddX10_wakeTotal_0) 8 rfl zddX10_wakeTotal_0 rfl
theorem dX10_wakeTotal_17 : decode cX10_wakeTotal 17 = .ok (.aload_n 0, 1) := dq_get (L := lzddX10_wakeTotal_0) 9 rfl zddX10_wakeTotal_0 rfl
theorem dX10_wakeTotal_18 : decode cX10_wakeTotal 18 = .ok (.getfield 16, 3) := dq_get (L := lzddX10_wakeTotal_0) 10 rfl zddX10_wakeTotal_0 rfl
theorem dX10_wakeTotal_21 : decode cX10_wakeTotal 21 = .ok (.aload_n 0, 1) := dq_get (L := lzddX10_wakeTotal_0) 11 rfl zddX10_wakeTotal_0 rfl
theorem dX10_wakeTotal_22 : decode cX10_wakeTotal 22 = .ok (.invokevirtual 119, 3) := dq_get (L := lzddX10_wakeTotal_0) 12 rfl zddX10_wakeTotal_0 rfl
theorem dX10_wakeTotal_25 : decode cX10_wakeTotal 25 = .ok (.aload_n 0, 1) := dq_get (L := lzddX10_wakeTotal_0) 13 rfl zddX10_wakeTotal_0 rfl
theorem dX10_wakeTotal_26 : decode cX10_wakeTotal 26 = .ok (.invokevirtual 241, 3) := dq_get (L := lzddX10_wakeTotal_0) 14 rfl zddX10_wakeTotal_0 rfl
theorem dX10_wakeTotal_29 : decode cX10_wakeTotal 29 = .ok (.aload_n 0, 1) := dq_get (L := lzddX10_wakeTotal_0) 15 rfl zddX10_wakeTotal_0 rfl
theorem dX10_wakeTotal_30 : decode cX10_wakeTotal 30 = .ok (.invokevirtual 184, 3) := dq_get (L := lzddX10_wakeTotal_0) 16 rfl zddX10_wakeTotal_0 rfl
theorem dX10_wakeTotal_33 : decode cX10_wakeTotal 33 = .ok (.invokevirtual 188, 3) := dq_get (L := lzddX10_wakeTotal_0) 17 rfl zddX10_wakeTotal_0 rfl
theorem dX10_wakeTotal_36 : decode cX10_wakeTotal 36 = .ok (.aload_n 0, 1) := dq_get (L := lzddX10_wakeTotal_0) 18 rfl zddX10_wakeTotal_0 rfl
theorem dX10_wakeTotal_37 : decode cX10_wakeTotal 37 = .ok (.aload_n 0, 1) := dq_get (L := lzddX10_wakeTotal_0) 19 rfl zddX10_wakeTotal_0 rfl
def lzddX10_wakeTotal_38 : List (Nat × Instr × Nat) := [(38, .getfield 68, 3), (41, .invokevirtual 192, 3), (44, .invokevirtual 109, 3), (47, .ireturn, 1)]
theorem zddX10_wakeTotal_38 : dqW lzddX10_wakeTotal_38 (cX10_wakeTotal.data.toList.drop 38) 38 = true := by decide +kernel
theorem dX10_wakeTotal_38 : decode cX10_wakeTotal 38 = .ok (.getfield 68, 3) := dq_get (L := lzddX10_wakeTotal_38) 0 rfl zddX10_wakeTotal_38 rfl
theorem dX10_wakeTotal_41 : decode cX10_wakeTotal 41 = .ok (.invokevirtual 192, 3) := dq_get (L := lzddX10_wakeTotal_38) 1 rfl zddX10_wakeTotal_38 rfl
theorem dX10_wakeTotal_44 : decode cX10_wakeTotal 44 = .ok (.invokevirtual 109, 3) := dq_get (L := lzddX10_wakeTotal_38) 2 rfl zddX10_wakeTotal_38 rfl
theorem dX10_wakeTotal_47 : decode cX10_wakeTotal 47 = .ok (.ireturn, 1) := dq_get (L := lzddX10_wakeTotal_38) 3 rfl zddX10_wakeTotal_38 rfl
def lzddX10_where_0 : List (Nat × Instr × Nat) := [(0, .aload_n 0, 1), (1, .getfield 112, 3), (4, .iconst 4, 1), (5, .if_icmp .ne 10, 3), (8, .aload_n 0, 1), (9, .getfield 94, 3), (12, .goto 4, 3), (15, .iconst (-1), 1), (16, .ireturn, 1)]
theorem zddX10_where_0 : dqW lzddX10_where_0 (cX10_where.data.toList.drop 0) 0 = true := by decide +kernel
theorem dX10_where_0 : decode cX10_where 0 = .ok (.aload_n 0, 1) := dq_get (L := lzddX10_where_0) 0 rfl zddX10_where_0 rfl
theorem dX10_where_1 : decode cX10_where 1 = .ok (.getfield 112, 3) := dq_get (L := lzddX10_where_0) 1 rfl zddX10_where_0 rfl
theorem dX10_where_4 : decode cX10_where 4 = .ok (.iconst 4, 1) := dq_get (L := lzddX10_where_0) 2 rfl zddX10_where_0 rfl
theorem dX10_where_5 : decode cX10_where 5 = .ok (.if_icmp .ne 10, 3) := dq_get (L := lzddX10_where_0) 3 rfl zddX10_where_0 rfl
theorem dX10_where_8 : decode cX10_where 8 = .ok (.aload_n 0, 1) := dq_get (L := lzddX10_where_0) 4 rfl zddX10_where_0 rfl
theorem dX10_where_9 : decode cX10_where 9 = .ok (.getfield 94, 3) := dq_get (L := lzddX10_where_0) 5 rfl zddX10_where_0 rfl
theorem dX10_where_12 : decode cX10_where 12 = .ok (.goto 4, 3) := dq_get (L := lzddX10_where_0) 6 rfl zddX10_where_0 rfl
theorem dX10_where_15 : decode cX10_where 15 = .ok (.iconst (-1), 1) := dq_get (L := lzddX10_where_0) 7 rfl zddX10_where_0 rfl
theorem dX10_where_16 : decode cX10_where 16 = .ok (.ireturn, 1) := dq_get (L := lzddX10_where_0) 8 rfl zddX10_where_0 rfl
def lzddX10_without_0 : List (Nat × Instr × Nat) := [(0, .aload_n 0, 1), (1, .iload_n 1, 1), (2, .invokevirtual 234, 3), (5, .ifCond .ne 9, 3), (8, .aload_n 0, 1), (9, .iconst 1, 1), (10, .invokevirtual 178, 3), (13, .ireturn, 1), (14, .aload_n 0, 1), (15, .getfield 65, 3), (18, .aload_n 0, 1), (19, .getfield 16, 3), (22, .aload_n 0, 1), (23, .getfield 35, 3), (26, .iload_n 1, 1), (27, .invokevirtual 237, 3), (30, .aload_n 0, 1), (31, .getfield 68, 3), (34, .aload_n 0, 1), (35, .getfield 16, 3)]
theorem zddX10_without_0 : dqW lzddX10_without_0 (cX10_without.data.toList.drop 0) 0 = true := by decide +kernel
theorem dX10_without_0 : decode cX10_without 0 = .ok (.aload_n 0, 1) := dq_get (L := lzddX10_without_0) 0 rfl zddX10_without_0 rfl
theorem dX10_without_1 : decode cX10_without 1 = .ok (.iload_n 1, 1) := dq_get (L := lzddX10_without_0) 1 rfl zddX10_without_0 rfl
theorem dX10_without_2 : decode cX10_without 2 = .ok (.invokevirtual 234, 3) := dq_get (L := lzddX10_without_0) 2 rfl zddX10_without_0 rfl
theorem dX10_without_5 : decode cX10_without 5 = .ok (.ifCond .ne 9, 3) := dq_get (L := lzddX10_without_0) 3 rfl zddX10_without_0 rfl
theorem dX10_without_8 : decode cX10_without 8 = .ok (.aload_n 0, 1) := dq_get (L := lzddX10_without_0) 4 rfl zddX10_without_0 rfl
theorem dX10_without_9 : decode cX10_without 9 = .ok (.iconst 1, 1) := dq_get (L := lzddX10_without_0) 5 rfl zddX10_without_0 rfl
theorem dX10_without_10 : decode cX10_without 10 = .ok (.invokevirtual 178, 3) := dq_get (L := lzddX10_without_0) 6 rfl zddX10_without_0 rfl
theorem dX10_without_13 : decode cX10_without 13 = .ok (.ireturn, 1) := dq_get (L := lzddX10_without_0) 7 rfl zddX10_without_0 rfl
theorem dX10_without_14 : decode cX10_without 14 = .ok (.aload_n 0, 1) := dq_get (L := lzddX10_without_0) 8 rfl zddX10_without_0 rfl
theorem dX10_without_15 : decode cX10_without 15 = .ok (.getfield 65, 3) := dq_get (L := lzddX10_without_0) 9 rfl zddX10_without_0 rfl
theorem dX10_without_18 : decode cX10_without 18 = .ok (.aload_n 0, 1) := dq_get (L := lzddX10_without_0) 10 rfl zddX10_without_0 rfl
theorem dX10_without_19 : decode cX10_without 19 = .ok (.getfield 16, 3) := dq_get (L := lzddX10_without_0) 11 rfl zddX10_without_0 rfl
theorem dX10_without_22 : decode cX10_without 22 = .ok (.aload_n 0, 1) := dq_get (L := lzddX10_without_0) 12 rfl zddX10_without_0 rfl
theorem dX10_without_23 : decode cX10_without 23 = .ok (.getfield 35, 3) := dq_get (L := lzddX10_without_0) 13 rfl zddX10_without_0 rfl
theorem dX10_without_26 : decode cX10_without 26 = .ok (.iload_n 1, 1) := dq_get (L := lzddX10_without_0) 14 rfl zddX10_without_0 rfl
theorem dX10_without_27 : decode cX10_without 27 = .ok (.invokevirtual 237, 3) := dq_get (L := lzddX10_without_0) 15 rfl zddX10_without_0 rfl
theorem dX10_without_30 : decode cX10_without 30 = .ok (.aload_n 0, 1) := dq_get (L := lzddX10_without_0) 16 rfl zddX10_without_0 rfl
theorem dX10_without_31 : decode cX10_without 31 = .ok (.getfield 68, 3) := dq_get (L := lzddX10_without_0) 17 rfl zddX10_without_0 rfl
theorem dX10_without_34 : decode cX10_without 34 = .ok (.aload_n 0, 1) := dq_get (L := lzddX10_without_0) 18 rfl zddX10_without_0 rfl
theorem dX10_without_35 : decode cX10_without 35 = .ok (.getfield 16, 3) := dq_get (L := lzddX10_without_0) 19 rfl zddX10_without_0 rfl
def lzddX10_without_38 : List (Nat × Instr × Nat) := [(38, .aload_n 0, 1), (39, .getfield 65, 3), (42, .aload_n 0, 1), (43, .getfield 35, 3), (46, .getfield 181, 3), (49, .aload_n 0, 1), (50, .invokevirtual 184, 3), (53, .invokevirtual 188, 3), (56, .aload_n 0, 1), (57, .aload_n 0, 1), (58, .getfield 68, 3), (61, .invokevirtual 192, 3), (64, .aload_n 0, 1), (65, .invokevirtual 155, 3), (68, .invokevirtual 192, 3), (71, .isub, 1), (72, .invokevirtual 109, 3), (75, .ireturn, 1)]
theorem zddX10_without_38 : dqW lzddX10_without_38 (cX10_without.data.toList.drop 38) 38 = true := by decide +kernel
theorem dX10_without_38 : decode cX10_without 38 = .ok (.aload_n 0, 1) := dq_get (L := lzddX10_without_38) 0 rfl zddX10_without_38 rfl
theorem dX10_without_39 : decode cX10_without 39 = .ok (.getfield 65, 3) := dq_get (L := lzddX10_without_38) 1 rfl zddX10_without_38 rfl
theorem dX10_without_42 : decode cX10_without 42 = .ok (.aload_n 0, 1) := dq_get (L := lzddX10_without_38) 2 rfl zddX10_without_38 rfl
theorem dX10_without_43 : decode cX10_without 43 = .ok (.getfield 35, 3) := dq_get (L := lzddX10_without_38) 3 rfl zddX10_without_38 rfl
theorem dX10_without_46 : decode cX10_without 46 = .ok (.getfield 181, 3) := dq_get (L := lzddX10_without_38) 4 rfl zddX10_without_38 rfl
theorem dX10_without_49 : decode cX10_without 49 = .ok (.aload_n 0, 1) := dq_get (L := lzddX10_without_38) 5 rfl zddX10_without_38 rfl
theorem dX10_without_50 : decode cX10_without 50 = .ok (.invokevirtual 184, 3) := dq_get (L := lzddX10_without_38) 6 rfl zddX10_without_38 rfl
theorem dX10_without_53 : decode cX10_without 53 = .ok (.invokevirtual 188, 3) := dq_get (L := lzddX10_without_38) 7 rfl zddX10_without_38 rfl
theorem dX10_without_56 : decode cX10_without 56 = .ok (.aload_n 0, 1) := dq_get (L := lzddX10_without_38) 8 rfl zddX10_without_38 rfl
theorem dX10_without_57 : decode cX10_without 57 = .ok (.aload_n 0, 1) := dq_get (L := lzddX10_without_38) 9 rfl zddX10_without_38 rfl
theorem dX10_without_58 : decode cX10_without 58 = .ok (.getfield 68, 3) := dq_get (L := lzddX10_without_38) 10 rfl zddX10_without_38 rfl
theorem dX10_without_61 : decode cX10_without 61 = .ok (.invokevirtual 192, 3) := dq_get (L := lzddX10_without_38) 11 rfl zddX10_without_38 rfl
theorem dX10_without_64 : decode cX10_without 64 = .ok (.aload_n 0, 1) := dq_get (L := lzddX10_without_38) 12 rfl zddX10_without_38 rfl
theorem dX10_without_65 : decode cX10_without 65 = .ok (.invokevirtual 155, 3) := dq_get (L := lzddX10_without_38) 13 rfl zddX10_without_38 rfl
theorem dX10_without_68 : decode cX10_without 68 = .ok (.invokevirtual 192, 3) := dq_get (L := lzddX10_without_38) 14 rfl zddX10_without_38 rfl
theorem dX10_without_71 : decode cX10_without 71 = .ok (.isub, 1) := dq_get (L := lzddX10_without_38) 15 rfl zddX10_without_38 rfl
theorem dX10_without_72 : decode cX10_without 72 = .ok (.invokevirtual 109, 3) := dq_get (L := lzddX10_without_38) 16 rfl zddX10_without_38 rfl
theorem dX10_without_75 : decode cX10_without 75 = .ok (.ireturn, 1) := dq_get (L := lzddX10_without_38) 17 rfl zddX10_without_38 rfl
def lzddX10_work_0 : List (Nat × Instr × Nat) := [(0, .aload_n 0, 1), (1, .iload_n 1, 1), (2, .invokevirtual 152, 3), (5, .ifCond .ne 9, 3), (8, .aload_n 0, 1), (9, .iconst 1, 1), (10, .invokevirtual 79, 3), (13, .ireturn, 1), (14, .aload_n 0, 1), (15, .invokevirtual 155, 3), (18, .astore_n 3, 1), (19, .iload_n 2, 1)]
theorem zddX10_work_0 : dqW lzddX10_work_0 (cX10_work.data.toList.drop 0) 0 = true := by decide +kernel
theorem dX10_work_0 : decode cX10_work 0 = .ok (.aload_n 0, 1) := dq_get (L := lzddX10_work_0) 0 rfl zddX10_work_0 rfl
theorem dX10_work_1 : decode cX10_work 1 = .ok (.iload_n 1, 1) := dq_get (L := lzddX10_work_0) 1 rfl zddX10_work_0 rfl
theorem dX10_work_2 : decode cX10_work 2 = .ok (.invokevirtual 152, 3) := dq_get (L := lzddX10_work_0) 2 rfl zddX10_work_0 rfl
theorem dX10_work_5 : decode cX10_work 5 = .ok (.ifCond .ne 9, 3) := dq_get (L := lzddX10_work_0) 3 rfl zddX10_work_0 rfl
theorem dX10_work_8 : decode cX10_work 8 = .ok (.aload_n 0, 1) := dq_get (L := lzddX10_work_0) 4 rfl zddX10_work_0 rfl
theorem dX10_work_9 : decode cX10_work 9 = .ok (.iconst 1, 1) := dq_get (L := lzddX10_work_0) 5 rfl zddX10_work_0 rfl
theorem dX10_work_10 : decode cX10_work 10 = .ok (.invokevirtual 79, 3) := dq_get (L := lzddX10_work_0) 6 rfl zddX10_work_0 rfl
theorem dX10_work_13 : decode cX10_work 13 = .ok (.ireturn, 1) := dq_get (L := lzddX10_work_0) 7 rfl zddX10_work_0 rfl
theorem dX10_work_14 : decode cX10_work 14 = .ok (.aload_n 0, 1) := dq_get (L := lzddX10_work_0) 8 rfl zddX10_work_0 rfl
theorem dX10_work_15 : decode cX10_work 15 = .ok (.invokevirtual 155, 3) := dq_get (L := lzddX10_work_0) 9 rfl zddX10_work_0 rfl
theorem dX10_work_18 : decode cX10_work 18 = .ok (.astore_n 3, 1) := dq_get (L := lzddX10_work_0) 10 rfl zddX10_work_0 rfl
theorem dX10_work_19 : decode cX10_work 19 = .ok (.iload_n 2, 1) := dq_get (L := lzddX10_work_0) 11 rfl zddX10_work_0 rfl
theorem dX10_work_20 : decode cX10_work 20 = .ok (.tableswitch 75 0 3 #[32, 43, 54, 65], 32) := by decide +kernel
def lzddX10_work_52 : List (Nat × Instr × Nat) := [(52, .aload_n 0, 1), (53, .aload_n 3, 1), (54, .getfield 166, 3), (57, .iload_n 1, 1), (58, .iaload, 1), (59, .invokevirtual 109, 3), (62, .ireturn, 1), (63, .aload_n 0, 1), (64, .aload_n 3, 1), (65, .getfield 169, 3), (68, .iload_n 1, 1), (69, .iaload, 1), (70, .invokevirtual 109, 3), (73, .ireturn, 1), (74, .aload_n 0, 1), (75, .aload_n 3, 1), (76, .getfield 172, 3), (79, .iload_n 1, 1), (80, .iaload, 1), (81, .invokevirtual 109, 3)]
theorem zddX10_work_52 : dqW lzddX10_work_52 (cX10_work.data.toList.drop 52) 52 = true := by decide +kernel
theorem dX10_work_52 : decode cX10_work 52 = .ok (.aload_n 0, 1) := dq_get (L := lzddX10_work_52) 0 rfl zddX10_work_52 rfl
theorem dX10_work_53 : decode cX10_work 53 = .ok (.aload_n 3, 1) := dq_get (L := lzddX10_work_52) 1 rfl zddX10_work_52 rfl
theorem dX10_work_54 : decode cX10_work 54 = .ok (.getfield 166, 3) := dq_get (L := lzddX10_work_52) 2 rfl zddX10_work_52 rfl
theorem dX10_work_57 : decode cX10_work 57 = .ok (.iload_n 1, 1) := dq_get (L := lzddX10_work_52) 3 rfl zddX10_work_52 rfl
theorem dX10_work_58 : decode cX10_work 58 = .ok (.iaload, 1) := dq_get (L := lzddX10_work_52) 4 rfl zddX10_work_52 rfl
theorem dX10_work_59 : decode cX10_work 59 = .ok (.invokevirtual 109, 3) := dq_get (L := lzddX10_work_52) 5 rfl zddX10_work_52 rfl
theorem dX10_work_62 : decode cX10_work 62 = .ok (.ireturn, 1) := dq_get (L := lzddX10_work_52) 6 rfl zddX10_work_52 rfl
theorem dX10_work_63 : decode cX10_work 63 = .ok (.aload_n 0, 1) := dq_get (L := lzddX10_work_52) 7 rfl zddX10_work_52 rfl
theorem dX10_work_64 : decode cX10_work 64 = .ok (.aload_n 3, 1) := dq_get (L := lzddX10_work_52) 8 rfl zddX10_work_52 rfl
theorem dX10_work_65 : decode cX10_work 65 = .ok (.getfield 169, 3) := dq_get (L := lzddX10_work_52) 9 rfl zddX10_work_52 rfl
theorem dX10_work_68 : decode cX10_work 68 = .ok (.iload_n 1, 1) := dq_get (L := lzddX10_work_52) 10 rfl zddX10_work_52 rfl
theorem dX10_work_69 : decode cX10_work 69 = .ok (.iaload, 1) := dq_get (L := lzddX10_work_52) 11 rfl zddX10_work_52 rfl
theorem dX10_work_70 : decode cX10_work 70 = .ok (.invokevirtual 109, 3) := dq_get (L := lzddX10_work_52) 12 rfl zddX10_work_52 rfl
theorem dX10_work_73 : decode cX10_work 73 = .ok (.ireturn, 1) := dq_get (L := lzddX10_work_52) 13 rfl zddX10_work_52 rfl
theorem dX10_work_74 : decode cX10_work 74 = .ok (.aload_n 0, 1) := dq_get (L := lzddX10_work_52) 14 rfl zddX10_work_52 rfl
theorem dX10_work_75 : decode cX10_work 75 = .ok (.aload_n 3, 1) := dq_get (L := lzddX10_work_52) 15 rfl zddX10_work_52 rfl
theorem dX10_work_76 : decode cX10_work 76 = .ok (.getfield 172, 3) := dq_get (L := lzddX10_work_52) 16 rfl zddX10_work_52 rfl
theorem dX10_work_79 : decode cX10_work 79 = .ok (.iload_n 1, 1) := dq_get (L := lzddX10_work_52) 17 rfl zddX10_work_52 rfl
theorem dX10_work_80 : decode cX10_work 80 = .ok (.iaload, 1) := dq_get (L := lzddX10_work_52) 18 rfl zddX10_work_52 rfl
theorem dX10_work_81 : decode cX10_work 81 = .ok (.invokevirtual 109, 3) := dq_get (L := lzddX10_work_52) 19 rfl zddX10_work_52 rfl
def lzddX10_work_84 : List (Nat × Instr × Nat) := [(84, .ireturn, 1), (85, .aload_n 0, 1), (86, .aload_n 3, 1), (87, .iload_n 1, 1), (88, .invokevirtual 175, 3), (91, .invokevirtual 109, 3), (94, .ireturn, 1), (95, .aload_n 0, 1), (96, .iconst 1, 1), (97, .invokevirtual 79, 3), (100, .ireturn, 1)]
theorem zddX10_work_84 : dqW lzddX10_work_84 (cX10_work.data.toList.drop 84) 84 = true := by decide +kernel
theorem dX10_work_84 : decode cX10_work 84 = .ok (.ireturn, 1) := dq_get (L := lzddX10_work_84) 0 rfl zddX10_work_84 rfl
theorem dX10_work_85 : decode cX10_work 85 = .ok (.aload_n 0, 1) := dq_get (L := lzddX10_work_84) 1 rfl zddX10_work_84 rfl
theorem dX10_work_86 : decode cX10_work 86 = .ok (.aload_n 3, 1) := dq_get (L := lzddX10_work_84) 2 rfl zddX10_work_84 rfl
theorem dX10_work_87 : decode cX10_work 87 = .ok (.iload_n 1, 1) := dq_get (L := lzddX10_work_84) 3 rfl zddX10_work_84 rfl
theorem dX10_work_88 : decode cX10_work 88 = .ok (.invokevirtual 175, 3) := dq_get (L := lzddX10_work_84) 4 rfl zddX10_work_84 rfl
theorem dX10_work_91 : decode cX10_work 91 = .ok (.invokevirtual 109, 3) := dq_get (L := lzddX10_work_84) 5 rfl zddX10_work_84 rfl
theorem dX10_work_94 : decode cX10_work 94 = .ok (.ireturn, 1) := dq_get (L := lzddX10_work_84) 6 rfl zddX10_work_84 rfl
theorem dX10_work_95 : decode cX10_work 95 = .ok (.aload_n 0, 1) := dq_get (L := lzddX10_work_84) 7 rfl zddX10_work_84 rfl
theorem dX10_work_96 : decode cX10_work 96 = .ok (.iconst 1, 1) := dq_get (L := lzddX10_work_84) 8 rfl zddX10_work_84 rfl
theorem dX10_work_97 : decode cX10_work 97 = .ok (.invokevirtual 79, 3) := dq_get (L := lzddX10_work_84) 9 rfl zddX10_work_84 rfl
theorem dX10_work_100 : decode cX10_work 100 = .ok (.ireturn, 1) := dq_get (L := lzddX10_work_84) 10 rfl zddX10_work_84 rfl
def lzddX10_worth_0 : List (Nat × Instr × Nat) := [(0, .aload_n 0, 1), (1, .iload_n 1, 1), (2, .invokevirtual 152, 3), (5, .ifCond .ne 9, 3), (8, .aload_n 0, 1), (9, .iconst 1, 1), (10, .invokevirtual 178, 3), (13, .ireturn, 1), (14, .aload_n 0, 1), (15, .getfield 68, 3), (18, .aload_n 0, 1), (19, .getfield 16, 3), (22, .aload_n 0, 1), (23, .invokevirtual 119, 3), (26, .aload_n 0, 1), (27, .getfield 35, 3), (30, .getfield 181, 3), (33, .aload_n 0, 1), (34, .invokevirtual 184, 3), (37, .iconst 1, 1)]
theorem zddX10_worth_0 : dqW lzddX10_worth_0 (cX10_worth.data.toList.drop 0) 0 = true := by decide +kernel
theorem dX10_worth_0 : decode cX10_worth 0 = .ok (.aload_n 0, 1) := dq_get (L := lzddX10_worth_0) 0 rfl zddX10_worth_0 rfl
theorem dX10_worth_1 : decode cX10_worth 1 = .ok (.iload_n 1, 1) := dq_get (L := lzddX10_worth_0) 1 rfl zddX10_worth_0 rfl
theorem dX10_worth_2 : decode cX10_worth 2 = .ok (.invokevirtual 152, 3) := dq_get (L := lzddX10_worth_0) 2 rfl zddX10_worth_0 rfl
theorem dX10_worth_5 : decode cX10_worth 5 = .ok (.ifCond .ne 9, 3) := dq_get (L := lzddX10_worth_0) 3 rfl zddX10_worth_0 rfl
theorem dX10_worth_8 : decode cX10_worth 8 = .ok (.aload_n 0, 1) := dq_get (L := lzddX10_worth_0) 4 rfl zddX10_worth_0 rfl
theorem dX10_worth_9 : decode cX10_worth 9 = .ok (.iconst 1, 1) := dq_get (L := lzddX10_worth_0) 5 rfl zddX10_worth_0 rfl
theorem dX10_worth_10 : decode cX10_worth 10 = .ok (.invokevirtual 178, 3) := dq_get (L := lzddX10_worth_0) 6 rfl zddX10_worth_0 rfl
theorem dX10_worth_13 : decode cX10_worth 13 = .ok (.ireturn, 1) := dq_get (L := lzddX10_worth_0) 7 rfl zddX10_worth_0 rfl
theorem dX10_worth_14 : decode cX10_worth 14 = .ok (.aload_n 0, 1) := dq_get (L := lzddX10_worth_0) 8 rfl zddX10_worth_0 rfl
theorem dX10_worth_15 : decode cX10_worth 15 = .ok (.getfield 68, 3) := dq_get (L := lzddX10_worth_0) 9 rfl zddX10_worth_0 rfl
theorem dX10_worth_18 : decode cX10_worth 18 = .ok (.aload_n 0, 1) := dq_get (L := lzddX10_worth_0) 10 rfl zddX10_worth_0 rfl
theorem dX10_worth_19 : decode cX10_worth 19 = .ok (.getfield 16, 3) := dq_get (L := lzddX10_worth_0) 11 rfl zddX10_worth_0 rfl
theorem dX10_worth_22 : decode cX10_worth 22 = .ok (.aload_n 0, 1) := dq_get (L := lzddX10_worth_0) 12 rfl zddX10_worth_0 rfl
theorem dX10_worth_23 : decode cX10_worth 23 = .ok (.invokevirtual 119, 3) := dq_get (L := lzddX10_worth_0) 13 rfl zddX10_worth_0 rfl
theorem dX10_worth_26 : decode cX10_worth 26 = .ok (.aload_n 0, 1) := dq_get (L := lzddX10_worth_0) 14 rfl zddX10_worth_0 rfl
theorem dX10_worth_27 : decode cX10_worth 27 = .ok (.getfield 35, 3) := dq_get (L := lzddX10_worth_0) 15 rfl zddX10_worth_0 rfl
theorem dX10_worth_30 : decode cX10_worth 30 = .ok (.getfield 181, 3) := dq_get (L := lzddX10_worth_0) 16 rfl zddX10_worth_0 rfl
theorem dX10_worth_33 : decode cX10_worth 33 = .ok (.aload_n 0, 1) := dq_get (L := lzddX10_worth_0) 17 rfl zddX10_worth_0 rfl
theorem dX10_worth_34 : decode cX10_worth 34 = .ok (.invokevirtual 184, 3) := dq_get (L := lzddX10_worth_0) 18 rfl zddX10_worth_0 rfl
theorem dX10_worth_37 : decode cX10_worth 37 = .ok (.iconst 1, 1) := dq_get (L := lzddX10_worth_0) 19 rfl zddX10_worth_0 rfl
def lzddX10_worth_38 : List (Nat × Instr × Nat) := [(38, .iload_n 1, 1), (39, .ishl, 1), (40, .iconst (-1), 1), (41, .ixor, 1), (42, .iand, 1), (43, .invokevirtual 188, 3), (46, .aload_n 0, 1), (47, .aload_n 0, 1), (48, .invokevirtual 155, 3), (51, .invokevirtual 192, 3), (54, .aload_n 0, 1), (55, .getfield 68, 3), (58, .invokevirtual 192, 3), (61, .isub, 1), (62, .invokevirtual 109, 3), (65, .ireturn, 1)]
theorem zddX10_worth_38 : dqW lzddX10_worth_38 (cX10_worth.data.toList.drop 38) 38 = true := by decide +kernel
theorem dX10_worth_38 : decode cX10_worth 38 = .ok (.iload_n 1, 1) := dq_get (L := lzddX10_worth_38) 0 rfl zddX10_worth_38 rfl
theorem dX10_worth_39 : decode cX10_worth 39 = .ok (.ishl, 1) := dq_get (L := lzddX10_worth_38) 1 rfl zddX10_worth_38 rfl
theorem dX10_worth_40 : decode cX10_worth 40 = .ok (.iconst (-1), 1) := dq_get (L := lzddX10_worth_38) 2 rfl zddX10_worth_38 rfl
theorem dX10_worth_41 : decode cX10_worth 41 = .ok (.ixor, 1) := dq_get (L := lzddX10_worth_38) 3 rfl zddX10_worth_38 rfl
theorem dX10_worth_42 : decode cX10_worth 42 = .ok (.iand, 1) := dq_get (L := lzddX10_worth_38) 4 rfl zddX10_worth_38 rfl
theorem dX10_worth_43 : decode cX10_worth 43 = .ok (.invokevirtual 188, 3) := dq_get (L := lzddX10_worth_38) 5 rfl zddX10_worth_38 rfl
theorem dX10_worth_46 : decode cX10_worth 46 = .ok (.aload_n 0, 1) := dq_get (L := lzddX10_worth_38) 6 rfl zddX10_worth_38 rfl
theorem dX10_worth_47 : decode cX10_worth 47 = .ok (.aload_n 0, 1) := dq_get (L := lzddX10_worth_38) 7 rfl zddX10_worth_38 rfl
theorem dX10_worth_48 : decode cX10_worth 48 = .ok (.invokevirtual 155, 3) := dq_get (L := lzddX10_worth_38) 8 rfl zddX10_worth_38 rfl
theorem dX10_worth_51 : decode cX10_worth 51 = .ok (.invokevirtual 192, 3) := dq_get (L := lzddX10_worth_38) 9 rfl zddX10_worth_38 rfl
theorem dX10_worth_54 : decode cX10_worth 54 = .ok (.aload_n 0, 1) := dq_get (L := lzddX10_worth_38) 10 rfl zddX10_worth_38 rfl
theorem dX10_worth_55 : decode cX10_worth 55 = .ok (.getfield 68, 3) := dq_get (L := lzddX10_worth_38) 11 rfl zddX10_worth_38 rfl
theorem dX10_worth_58 : decode cX10_worth 58 = .ok (.invokevirtual 192, 3) := dq_get (L := lzddX10_worth_38) 12 rfl zddX10_worth_38 rfl
theorem dX10_worth_61 : decode cX10_worth 61 = .ok (.isub, 1) := dq_get (L := lzddX10_worth_38) 13 rfl zddX10_worth_38 rfl
theorem dX10_worth_62 : decode cX10_worth 62 = .ok (.invokevirtual 109, 3) := dq_get (L := lzddX10_worth_38) 14 rfl zddX10_worth_38 rfl
theorem dX10_worth_65 : decode cX10_worth 65 = .ok (.ireturn, 1) := dq_get (L := lzddX10_worth_38) 15 rfl zddX10_worth_38 rfl
def lzddX3_add_0 : List (Nat × Instr × Nat) := [(0, .aload_n 0, 1), (1, .getfield 25, 3), (4, .bipush 6, 2), (6, .if_icmp .ge 33, 3), (9, .aload_n 0, 1), (10, .getfield 9, 3), (13, .aload_n 0, 1), (14, .getfield 25, 3), (17, .iload_n 1, 1), (18, .iastore, 1), (19, .aload_n 0, 1), (20, .getfield 15, 3), (23, .aload_n 0, 1), (24, .getfield 25, 3), (27, .iload_n 2, 1), (28, .iastore, 1), (29, .aload_n 0, 1), (30, .dup, 1), (31, .getfield 25, 3), (34, .iconst 1, 1)]
theorem zddX3_add_0 : dqW lzddX3_add_0 (cX3_add.data.toList.drop 0) 0 = true := by decide +kernel
theorem dX3_add_0 : decode cX3_add 0 = .ok (.aload_n 0, 1) := dq_get (L := lzddX3_add_0) 0 rfl zddX3_add_0 rfl
theorem dX3_add_1 : decode cX3_add 1 = .ok (.getfield 25, 3) := dq_get (L := lzddX3_add_0) 1 rfl zddX3_add_0 rfl
theorem dX3_add_4 : decode cX3_add 4 = .ok (.bipush 6, 2) := dq_get (L := lzddX3_add_0) 2 rfl zddX3_add_0 rfl
theorem dX3_add_6 : decode cX3_add 6 = .ok (.if_icmp .ge 33, 3) := dq_get (L := lzddX3_add_0) 3 rfl zddX3_add_0 rfl
theorem dX3_add_9 : decode cX3_add 9 = .ok (.aload_n 0, 1) := dq_get (L := lzddX3_add_0) 4 rfl zddX3_add_0 rfl
theorem dX3_add_10 : decode cX3_add 10 = .ok (.getfield 9, 3) := dq_get (L := lzddX3_add_0) 5 rfl zddX3_add_0 rfl
theorem dX3_add_13 : decode cX3_add 13 = .ok (.aload_n 0, 1) := dq_get (L := lzddX3_add_0) 6 rfl zddX3_add_0 rfl
theorem dX3_add_14 : decode cX3_add 14 = .ok (.getfield 25, 3) := dq_get (L := lzddX3_add_0) 7 rfl zddX3_add_0 rfl
theorem dX3_add_17 : decode cX3_add 17 = .ok (.iload_n 1, 1) := dq_get (L := lzddX3_add_0) 8 rfl zddX3_add_0 rfl
theorem dX3_add_18 : decode cX3_add 18 = .ok (.iastore, 1) := dq_get (L := lzddX3_add_0) 9 rfl zddX3_add_0 rfl
theorem dX3_add_19 : decode cX3_add 19 = .ok (.aload_n 0, 1) := dq_get (L := lzddX3_add_0) 10 rfl zddX3_add_0 rfl
theorem dX3_add_20 : decode cX3_add 20 = .ok (.getfield 15, 3) := dq_get (L := lzddX3_add_0) 11 rfl zddX3_add_0 rfl
theorem dX3_add_23 : decode cX3_add 23 = .ok (.aload_n 0, 1) := dq_get (L := lzddX3_add_0) 12 rfl zddX3_add_0 rfl
theorem dX3_add_24 : decode cX3_add 24 = .ok (.getfield 25, 3) := dq_get (L := lzddX3_add_0) 13 rfl zddX3_add_0 rfl
theorem dX3_add_27 : decode cX3_add 27 = .ok (.iload_n 2, 1) := dq_get (L := lzddX3_add_0) 14 rfl zddX3_add_0 rfl
theorem dX3_add_28 : decode cX3_add 28 = .ok (.iastore, 1) := dq_get (L := lzddX3_add_0) 15 rfl zddX3_add_0 rfl
theorem dX3_add_29 : decode cX3_add 29 = .ok (.aload_n 0, 1) := dq_get (L := lzddX3_add_0) 16 rfl zddX3_add_0 rfl
theorem dX3_add_30 : decode cX3_add 30 = .ok (.dup, 1) := dq_get (L := lzddX3_add_0) 17 rfl zddX3_add_0 rfl
theorem dX3_add_31 : decode cX3_add 31 = .ok (.getfield 25, 3) := dq_get (L := lzddX3_add_0) 18 rfl zddX3_add_0 rfl
theorem dX3_add_34 : decode cX3_add 34 = .ok (.iconst 1, 1) := dq_get (L := lzddX3_add_0) 19 rfl zddX3_add_0 rfl
def lzddX3_add_35 : List (Nat × Instr × Nat) := [(35, .iadd, 1), (36, .putfield 25, 3), (39, .return_, 1)]
theorem zddX3_add_35 : dqW lzddX3_add_35 (cX3_add.data.toList.drop 35) 35 = true := by decide +kernel
theorem dX3_add_35 : decode cX3_add 35 = .ok (.iadd, 1) := dq_get (L := lzddX3_add_35) 0 rfl zddX3_add_35 rfl
theorem dX3_add_36 : decode cX3_add 36 = .ok (.putfield 25, 3) := dq_get (L := lzddX3_add_35) 1 rfl zddX3_add_35 rfl
theorem dX3_add_39 : decode cX3_add 39 = .ok (.return_, 1) := dq_get (L := lzddX3_add_35) 2 rfl zddX3_add_35 rfl
def lzddX3_addDrawn_0 : List (Nat × Instr × Nat) := [(0, .aload_n 0, 1), (1, .iload_n 1, 1), (2, .invokevirtual 28, 3), (5, .istore_n 2, 1), (6, .iconst 1, 1), (7, .aload_n 0, 1), (8, .bipush 20, 2), (10, .invokevirtual 28, 3), (13, .iadd, 1), (14, .istore_n 3, 1), (15, .aload_n 0, 1), (16, .iload_n 2, 1), (17, .iload_n 2, 1), (18, .iload_n 3, 1), (19, .iadd, 1), (20, .iload_n 1, 1), (21, .invokestatic 32, 3), (24, .invokevirtual 38, 3), (27, .iload_n 2, 1), (28, .ireturn, 1)]
theorem zddX3_addDrawn_0 : dqW lzddX3_addDrawn_0 (cX3_addDrawn.data.toList.drop 0) 0 = true := by decide +kernel
theorem dX3_addDrawn_0 : decode cX3_addDrawn 0 = .ok (.aload_n 0, 1) := dq_get (L := lzddX3_addDrawn_0) 0 rfl zddX3_addDrawn_0 rfl
theorem dX3_addDrawn_1 : decode cX3_addDrawn 1 = .ok (.iload_n 1, 1) := dq_get (L := lzddX3_addDrawn_0) 1 rfl zddX3_addDrawn_0 rfl
theorem dX3_addDrawn_2 : decode cX3_addDrawn 2 = .ok (.invokevirtual 28, 3) := dq_get (L := lzddX3_addDrawn_0) 2 rfl zddX3_addDrawn_0 rfl
theorem dX3_addDrawn_5 : decode cX3_addDrawn 5 = .ok (.istore_n 2, 1) := dq_get (L := lzddX3_addDrawn_0) 3 rfl zddX3_addDrawn_0 rfl
theorem dX3_addDrawn_6 : decode cX3_addDrawn 6 = .ok (.iconst 1, 1) := dq_get (L := lzddX3_addDrawn_0) 4 rfl zddX3_addDrawn_0 rfl
theorem dX3_addDrawn_7 : decode cX3_addDrawn 7 = .ok (.aload_n 0, 1) := dq_get (L := lzddX3_addDrawn_0) 5 rfl zddX3_addDrawn_0 rfl
theorem dX3_addDrawn_8 : decode cX3_addDrawn 8 = .ok (.bipush 20, 2) := dq_get (L := lzddX3_addDrawn_0) 6 rfl zddX3_addDrawn_0 rfl
theorem dX3_addDrawn_10 : decode cX3_addDrawn 10 = .ok (.invokevirtual 28, 3) := dq_get (L := lzddX3_addDrawn_0) 7 rfl zddX3_addDrawn_0 rfl
theorem dX3_addDrawn_13 : decode cX3_addDrawn 13 = .ok (.iadd, 1) := dq_get (L := lzddX3_addDrawn_0) 8 rfl zddX3_addDrawn_0 rfl
theorem dX3_addDrawn_14 : decode cX3_addDrawn 14 = .ok (.istore_n 3, 1) := dq_get (L := lzddX3_addDrawn_0) 9 rfl zddX3_addDrawn_0 rfl
theorem dX3_addDrawn_15 : decode cX3_addDrawn 15 = .ok (.aload_n 0, 1) := dq_get (L := lzddX3_addDrawn_0) 10 rfl zddX3_addDrawn_0 rfl
theorem dX3_addDrawn_16 : decode cX3_addDrawn 16 = .ok (.iload_n 2, 1) := dq_get (L := lzddX3_addDrawn_0) 11 rfl zddX3_addDrawn_0 rfl
theorem dX3_addDrawn_17 : decode cX3_addDrawn 17 = .ok (.iload_n 2, 1) := dq_get (L := lzddX3_addDrawn_0) 12 rfl zddX3_addDrawn_0 rfl
theorem dX3_addDrawn_18 : decode cX3_addDrawn 18 = .ok (.iload_n 3, 1) := dq_get (L := lzddX3_addDrawn_0) 13 rfl zddX3_addDrawn_0 rfl
theorem dX3_addDrawn_19 : decode cX3_addDrawn 19 = .ok (.iadd, 1) := dq_get (L := lzddX3_addDrawn_0) 14 rfl zddX3_addDrawn_0 rfl
theorem dX3_addDrawn_20 : decode cX3_addDrawn 20 = .ok (.iload_n 1, 1) := dq_get (L := lzddX3_addDrawn_0) 15 rfl zddX3_addDrawn_0 rfl
theorem dX3_addDrawn_21 : decode cX3_addDrawn 21 = .ok (.invokestatic 32, 3) := dq_get (L := lzddX3_addDrawn_0) 16 rfl zddX3_addDrawn_0 rfl
theorem dX3_addDrawn_24 : decode cX3_addDrawn 24 = .ok (.invokevirtual 38, 3) := dq_get (L := lzddX3_addDrawn_0) 17 rfl zddX3_addDrawn_0 rfl
theorem dX3_addDrawn_27 : decode cX3_addDrawn 27 = .ok (.iload_n 2, 1) := dq_get (L := lzddX3_addDrawn_0) 18 rfl zddX3_addDrawn_0 rfl
theorem dX3_addDrawn_28 : decode cX3_addDrawn 28 = .ok (.ireturn, 1) := dq_get (L := lzddX3_addDrawn_0) 19 rfl zddX3_addDrawn_0 rfl
def lzddX3_become_0 : List (Nat × Instr × Nat) := [(0, .aload_n 0, 1), (1, .aload_n 1, 1), (2, .getfield 18, 3), (5, .putfield 18, 3), (8, .aload_n 0, 1), (9, .aload_n 1, 1), (10, .getfield 22, 3), (13, .putfield 22, 3), (16, .aload_n 0, 1), (17, .aload_n 1, 1), (18, .getfield 25, 3), (21, .putfield 25, 3), (24, .iconst 0, 1), (25, .istore_n 2, 1), (26, .iload_n 2, 1), (27, .aload_n 1, 1), (28, .getfield 25, 3), (31, .if_icmp .ge 33, 3), (34, .aload_n 0, 1), (35, .getfield 9, 3)]
theorem zddX3_become_0 : dqW lzddX3_become_0 (cX3_become.data.toList.drop 0) 0 = true := by decide +kernel
theorem dX3_become_0 : decode cX3_become 0 = .ok (.aload_n 0, 1) := dq_get (L := lzddX3_become_0) 0 rfl zddX3_become_0 rfl
theorem dX3_become_1 : decode cX3_become 1 = .ok (.aload_n 1, 1) := dq_get (L := lzddX3_become_0) 1 rfl zddX3_become_0 rfl
theorem dX3_become_2 : decode cX3_become 2 = .ok (.getfield 18, 3) := dq_get (L := lzddX3_become_0) 2 rfl zddX3_become_0 rfl
theorem dX3_become_5 : decode cX3_become 5 = .ok (.putfield 18, 3) := dq_get (L := lzddX3_become_0) 3 rfl zddX3_become_0 rfl
theorem dX3_become_8 : decode cX3_become 8 = .ok (.aload_n 0, 1) := dq_get (L := lzddX3_become_0) 4 rfl zddX3_become_0 rfl
theorem dX3_become_9 : decode cX3_become 9 = .ok (.aload_n 1, 1) := dq_get (L := lzddX3_become_0) 5 rfl zddX3_become_0 rfl
theorem dX3_become_10 : decode cX3_become 10 = .ok (.getfield 22, 3) := dq_get (L := lzddX3_become_0) 6 rfl zddX3_become_0 rfl
theorem dX3_become_13 : decode cX3_become 13 = .ok (.putfield 22, 3) := dq_get (L := lzddX3_become_0) 7 rfl zddX3_become_0 rfl
theorem dX3_become_16 : decode cX3_become 16 = .ok (.aload_n 0, 1) := dq_get (L := lzddX3_become_0) 8 rfl zddX3_become_0 rfl
theorem dX3_become_17 : decode cX3_become 17 = .ok (.aload_n 1, 1) := dq_get (L := lzddX3_become_0) 9 rfl zddX3_become_0 rfl
theorem dX3_become_18 : decode cX3_become 18 = .ok (.getfield 25, 3) := dq_get (L := lzddX3_become_0) 10 rfl zddX3_become_0 rfl
theorem dX3_become_21 : decode cX3_become 21 = .ok (.putfield 25, 3) := dq_get (L := lzddX3_become_0) 11 rfl zddX3_become_0 rfl
theorem dX3_become_24 : decode cX3_become 24 = .ok (.iconst 0, 1) := dq_get (L := lzddX3_become_0) 12 rfl zddX3_become_0 rfl
theorem dX3_become_25 : decode cX3_become 25 = .ok (.istore_n 2, 1) := dq_get (L := lzddX3_become_0) 13 rfl zddX3_become_0 rfl
theorem dX3_become_26 : decode cX3_become 26 = .ok (.iload_n 2, 1) := dq_get (L := lzddX3_become_0) 14 rfl zddX3_become_0 rfl
theorem dX3_become_27 : decode cX3_become 27 = .ok (.aload_n 1, 1) := dq_get (L := lzddX3_become_0) 15 rfl zddX3_become_0 rfl
theorem dX3_become_28 : decode cX3_become 28 = .ok (.getfield 25, 3) := dq_get (L := lzddX3_become_0) 16 rfl zddX3_become_0 rfl
theorem dX3_become_31 : decode cX3_become 31 = .ok (.if_icmp .ge 33, 3) := dq_get (L := lzddX3_become_0) 17 rfl zddX3_become_0 rfl
theorem dX3_become_34 : decode cX3_become 34 = .ok (.aload_n 0, 1) := dq_get (L := lzddX3_become_0) 18 rfl zddX3_become_0 rfl
theorem dX3_become_35 : decode cX3_become 35 = .ok (.getfield 9, 3) := dq_get (L := lzddX3_become_0) 19 rfl zddX3_become_0 rfl
def lzddX3_become_38 : List (Nat × Instr × Nat) := [(38, .iload_n 2, 1), (39, .aload_n 1, 1), (40, .getfield 9, 3), (43, .iload_n 2, 1), (44, .iaload, 1), (45, .iastore, 1), (46, .aload_n 0, 1), (47, .getfield 15, 3), (50, .iload_n 2, 1), (51, .aload_n 1, 1), (52, .getfield 15, 3), (55, .iload_n 2, 1), (56, .iaload, 1), (57, .iastore, 1), (58, .iinc 2 1, 3), (61, .goto (-35), 3), (64, .return_, 1)]
theorem zddX3_become_38 : dqW lzddX3_become_38 (cX3_become.data.toList.drop 38) 38 = true := by decide +kernel
theorem dX3_become_38 : decode cX3_become 38 = .ok (.iload_n 2, 1) := dq_get (L := lzddX3_become_38) 0 rfl zddX3_become_38 rfl
theorem dX3_become_39 : decode cX3_become 39 = .ok (.aload_n 1, 1) := dq_get (L := lzddX3_become_38) 1 rfl zddX3_become_38 rfl
theorem dX3_become_40 : decode cX3_become 40 = .ok (.getfield 9, 3) := dq_get (L := lzddX3_become_38) 2 rfl zddX3_become_38 rfl
theorem dX3_become_43 : decode cX3_become 43 = .ok (.iload_n 2, 1) := dq_get (L := lzddX3_become_38) 3 rfl zddX3_become_38 rfl
theorem dX3_become_44 : decode cX3_become 44 = .ok (.iaload, 1) := dq_get (L := lzddX3_become_38) 4 rfl zddX3_become_38 rfl
theorem dX3_become_45 : decode cX3_become 45 = .ok (.iastore, 1) := dq_get (L := lzddX3_become_38) 5 rfl zddX3_become_38 rfl
theorem dX3_become_46 : decode cX3_become 46 = .ok (.aload_n 0, 1) := dq_get (L := lzddX3_become_38) 6 rfl zddX3_become_38 rfl
theorem dX3_become_47 : decode cX3_become 47 = .ok (.getfield 15, 3) := dq_get (L := lzddX3_become_38) 7 rfl zddX3_become_38 rfl
theorem dX3_become_50 : decode cX3_become 50 = .ok (.iload_n 2, 1) := dq_get (L := lzddX3_become_38) 8 rfl zddX3_become_38 rfl
theorem dX3_become_51 : decode cX3_become 51 = .ok (.aload_n 1, 1) := dq_get (L := lzddX3_become_38) 9 rfl zddX3_become_38 rfl
theorem dX3_become_52 : decode cX3_become 52 = .ok (.getfield 15, 3) := dq_get (L := lzddX3_become_38) 10 rfl zddX3_become_38 rfl
theorem dX3_become_55 : decode cX3_become 55 = .ok (.iload_n 2, 1) := dq_get (L := lzddX3_become_38) 11 rfl zddX3_become_38 rfl
theorem dX3_become_56 : decode cX3_become 56 = .ok (.iaload, 1) := dq_get (L := lzddX3_become_38) 12 rfl zddX3_become_38 rfl
theorem dX3_become_57 : decode cX3_become 57 = .ok (.iastore, 1) := dq_get (L := lzddX3_become_38) 13 rfl zddX3_become_38 rfl
theorem dX3_become_58 : decode cX3_become 58 = .ok (.iinc 2 1, 3) := dq_get (L := lzddX3_become_38) 14 rfl zddX3_become_38 rfl
theorem dX3_become_61 : decode cX3_become 61 = .ok (.goto (-35), 3) := dq_get (L := lzddX3_become_38) 15 rfl zddX3_become_38 rfl
theorem dX3_become_64 : decode cX3_become 64 = .ok (.return_, 1) := dq_get (L := lzddX3_become_38) 16 rfl zddX3_become_38 rfl
def lzddX3_clear_0 : List (Nat × Instr × Nat) := [(0, .aload_n 0, 1), (1, .iconst 0, 1), (2, .putfield 18, 3), (5, .aload_n 0, 1), (6, .iconst 0, 1), (7, .putfield 22, 3), (10, .aload_n 0, 1), (11, .iconst 0, 1), (12, .putfield 25, 3), (15, .return_, 1)]
theorem zddX3_clear_0 : dqW lzddX3_clear_0 (cX3_clear.data.toList.drop 0) 0 = true := by decide +kernel
theorem dX3_clear_0 : decode cX3_clear 0 = .ok (.aload_n 0, 1) := dq_get (L := lzddX3_clear_0) 0 rfl zddX3_clear_0 rfl
theorem dX3_clear_1 : decode cX3_clear 1 = .ok (.iconst 0, 1) := dq_get (L := lzddX3_clear_0) 1 rfl zddX3_clear_0 rfl
theorem dX3_clear_2 : decode cX3_clear 2 = .ok (.putfield 18, 3) := dq_get (L := lzddX3_clear_0) 2 rfl zddX3_clear_0 rfl
theorem dX3_clear_5 : decode cX3_clear 5 = .ok (.aload_n 0, 1) := dq_get (L := lzddX3_clear_0) 3 rfl zddX3_clear_0 rfl
theorem dX3_clear_6 : decode cX3_clear 6 = .ok (.iconst 0, 1) := dq_get (L := lzddX3_clear_0) 4 rfl zddX3_clear_0 rfl
theorem dX3_clear_7 : decode cX3_clear 7 = .ok (.putfield 22, 3) := dq_get (L := lzddX3_clear_0) 5 rfl zddX3_clear_0 rfl
theorem dX3_clear_10 : decode cX3_clear 10 = .ok (.aload_n 0, 1) := dq_get (L := lzddX3_clear_0) 6 rfl zddX3_clear_0 rfl
theorem dX3_clear_11 : decode cX3_clear 11 = .ok (.iconst 0, 1) := dq_get (L := lzddX3_clear_0) 7 rfl zddX3_clear_0 rfl
theorem dX3_clear_12 : decode cX3_clear 12 = .ok (.putfield 25, 3) := dq_get (L := lzddX3_clear_0) 8 rfl zddX3_clear_0 rfl
theorem dX3_clear_15 : decode cX3_clear 15 = .ok (.return_, 1) := dq_get (L := lzddX3_clear_0) 9 rfl zddX3_clear_0 rfl
def lzddX3_drawBelow_0 : List (Nat × Instr × Nat) := [(0, .aload_n 0, 1), (1, .bipush 75, 2), (3, .aload_n 0, 1), (4, .getfield 22, 3), (7, .imul, 1), (8, .bipush 74, 2), (10, .iadd, 1), (11, .ldc 42, 2), (13, .irem, 1), (14, .putfield 22, 3), (17, .iload_n 1, 1), (18, .iconst 1, 1), (19, .if_icmp .ge 7, 3), (22, .iconst 0, 1), (23, .goto 9, 3), (26, .aload_n 0, 1), (27, .getfield 22, 3), (30, .iload_n 1, 1), (31, .irem, 1), (32, .ireturn, 1)]
theorem zddX3_drawBelow_0 : dqW lzddX3_drawBelow_0 (cX3_drawBelow.data.toList.drop 0) 0 = true := by decide +kernel
theorem dX3_drawBelow_0 : decode cX3_drawBelow 0 = .ok (.aload_n 0, 1) := dq_get (L := lzddX3_drawBelow_0) 0 rfl zddX3_drawBelow_0 rfl
theorem dX3_drawBelow_1 : decode cX3_drawBelow 1 = .ok (.bipush 75, 2) := dq_get (L := lzddX3_drawBelow_0) 1 rfl zddX3_drawBelow_0 rfl
theorem dX3_drawBelow_3 : decode cX3_drawBelow 3 = .ok (.aload_n 0, 1) := dq_get (L := lzddX3_drawBelow_0) 2 rfl zddX3_drawBelow_0 rfl
theorem dX3_drawBelow_4 : decode cX3_drawBelow 4 = .ok (.getfield 22, 3) := dq_get (L := lzddX3_drawBelow_0) 3 rfl zddX3_drawBelow_0 rfl
theorem dX3_drawBelow_7 : decode cX3_drawBelow 7 = .ok (.imul, 1) := dq_get (L := lzddX3_drawBelow_0) 4 rfl zddX3_drawBelow_0 rfl
theorem dX3_drawBelow_8 : decode cX3_drawBelow 8 = .ok (.bipush 74, 2) := dq_get (L := lzddX3_drawBelow_0) 5 rfl zddX3_drawBelow_0 rfl
theorem dX3_drawBelow_10 : decode cX3_drawBelow 10 = .ok (.iadd, 1) := dq_get (L := lzddX3_drawBelow_0) 6 rfl zddX3_drawBelow_0 rfl
theorem dX3_drawBelow_11 : decode cX3_drawBelow 11 = .ok (.ldc 42, 2) := dq_get (L := lzddX3_drawBelow_0) 7 rfl zddX3_drawBelow_0 rfl
theorem dX3_drawBelow_13 : decode cX3_drawBelow 13 = .ok (.irem, 1) := dq_get (L := lzddX3_drawBelow_0) 8 rfl zddX3_drawBelow_0 rfl
theorem dX3_drawBelow_14 : decode cX3_drawBelow 14 = .ok (.putfield 22, 3) := dq_get (L := lzddX3_drawBelow_0) 9 rfl zddX3_drawBelow_0 rfl
theorem dX3_drawBelow_17 : decode cX3_drawBelow 17 = .ok (.iload_n 1, 1) := dq_get (L := lzddX3_drawBelow_0) 10 rfl zddX3_drawBelow_0 rfl
theorem dX3_drawBelow_18 : decode cX3_drawBelow 18 = .ok (.iconst 1, 1) := dq_get (L := lzddX3_drawBelow_0) 11 rfl zddX3_drawBelow_0 rfl
theorem dX3_drawBelow_19 : decode cX3_drawBelow 19 = .ok (.if_icmp .ge 7, 3) := dq_get (L := lzddX3_drawBelow_0) 12 rfl zddX3_drawBelow_0 rfl
theorem dX3_drawBelow_22 : decode cX3_drawBelow 22 = .ok (.iconst 0, 1) := dq_get (L := lzddX3_drawBelow_0) 13 rfl zddX3_drawBelow_0 rfl
theorem dX3_drawBelow_23 : decode cX3_drawBelow 23 = .ok (.goto 9, 3) := dq_get (L := lzddX3_drawBelow_0) 14 rfl zddX3_drawBelow_0 rfl
theorem dX3_drawBelow_26 : decode cX3_drawBelow 26 = .ok (.aload_n 0, 1) := dq_get (L := lzddX3_drawBelow_0) 15 rfl zddX3_drawBelow_0 rfl
theorem dX3_drawBelow_27 : decode cX3_drawBelow 27 = .ok (.getfield 22, 3) := dq_get (L := lzddX3_drawBelow_0) 16 rfl zddX3_drawBelow_0 rfl
theorem dX3_drawBelow_30 : decode cX3_drawBelow 30 = .ok (.iload_n 1, 1) := dq_get (L := lzddX3_drawBelow_0) 17 rfl zddX3_drawBelow_0 rfl
theorem dX3_drawBelow_31 : decode cX3_drawBelow 31 = .ok (.irem, 1) := dq_get (L := lzddX3_drawBelow_0) 18 rfl zddX3_drawBelow_0 rfl
theorem dX3_drawBelow_32 : decode cX3_drawBelow 32 = .ok (.ireturn, 1) := dq_get (L := lzddX3_drawBelow_0) 19 rfl zddX3_drawBelow_0 rfl
def lzddX4_holds_0 : List (Nat × Instr × Nat) := [(0, .iconst 0, 1), (1, .istore_n 2, 1), (2, .iload_n 2, 1), (3, .aload_n 0, 1), (4, .getfield 15, 3), (7, .if_icmp .ge 21, 3), (10, .aload_n 0, 1), (11, .getfield 9, 3), (14, .iload_n 2, 1), (15, .iaload, 1), (16, .iload_n 1, 1), (17, .if_icmp .ne 5, 3), (20, .iconst 1, 1), (21, .ireturn, 1), (22, .iinc 2 1, 3), (25, .goto (-23), 3), (28, .iconst 0, 1), (29, .ireturn, 1)]
theorem zddX4_holds_0 : dqW lzddX4_holds_0 (cX4_holds.data.toList.drop 0) 0 = true := by decide +kernel
theorem dX4_holds_0 : decode cX4_holds 0 = .ok (.iconst 0, 1) := dq_get (L := lzddX4_holds_0) 0 rfl zddX4_holds_0 rfl
theorem dX4_holds_1 : decode cX4_holds 1 = .ok (.istore_n 2, 1) := dq_get (L := lzddX4_holds_0) 1 rfl zddX4_holds_0 rfl
theorem dX4_holds_2 : decode cX4_holds 2 = .ok (.iload_n 2, 1) := dq_get (L := lzddX4_holds_0) 2 rfl zddX4_holds_0 rfl
theorem dX4_holds_3 : decode cX4_holds 3 = .ok (.aload_n 0, 1) := dq_get (L := lzddX4_holds_0) 3 rfl zddX4_holds_0 rfl
theorem dX4_holds_4 : decode cX4_holds 4 = .ok (.getfield 15, 3) := dq_get (L := lzddX4_holds_0) 4 rfl zddX4_holds_0 rfl
theorem dX4_holds_7 : decode cX4_holds 7 = .ok (.if_icmp .ge 21, 3) := dq_get (L := lzddX4_holds_0) 5 rfl zddX4_holds_0 rfl
theorem dX4_holds_10 : decode cX4_holds 10 = .ok (.aload_n 0, 1) := dq_get (L := lzddX4_holds_0) 6 rfl zddX4_holds_0 rfl
theorem dX4_holds_11 : decode cX4_holds 11 = .ok (.getfield 9, 3) := dq_get (L := lzddX4_holds_0) 7 rfl zddX4_holds_0 rfl
theorem dX4_holds_14 : decode cX4_holds 14 = .ok (.iload_n 2, 1) := dq_get (L := lzddX4_holds_0) 8 rfl zddX4_holds_0 rfl
theorem dX4_holds_15 : decode cX4_holds 15 = .ok (.iaload, 1) := dq_get (L := lzddX4_holds_0) 9 rfl zddX4_holds_0 rfl
theorem dX4_holds_16 : decode cX4_holds 16 = .ok (.iload_n 1, 1) := dq_get (L := lzddX4_holds_0) 10 rfl zddX4_holds_0 rfl
theorem dX4_holds_17 : decode cX4_holds 17 = .ok (.if_icmp .ne 5, 3) := dq_get (L := lzddX4_holds_0) 11 rfl zddX4_holds_0 rfl
theorem dX4_holds_20 : decode cX4_holds 20 = .ok (.iconst 1, 1) := dq_get (L := lzddX4_holds_0) 12 rfl zddX4_holds_0 rfl
theorem dX4_holds_21 : decode cX4_holds 21 = .ok (.ireturn, 1) := dq_get (L := lzddX4_holds_0) 13 rfl zddX4_holds_0 rfl
theorem dX4_holds_22 : decode cX4_holds 22 = .ok (.iinc 2 1, 3) := dq_get (L := lzddX4_holds_0) 14 rfl zddX4_holds_0 rfl
theorem dX4_holds_25 : decode cX4_holds 25 = .ok (.goto (-23), 3) := dq_get (L := lzddX4_holds_0) 15 rfl zddX4_holds_0 rfl
theorem dX4_holds_28 : decode cX4_holds 28 = .ok (.iconst 0, 1) := dq_get (L := lzddX4_holds_0) 16 rfl zddX4_holds_0 rfl
theorem dX4_holds_29 : decode cX4_holds 29 = .ok (.ireturn, 1) := dq_get (L := lzddX4_holds_0) 17 rfl zddX4_holds_0 rfl
def lzddX5_cheesesWithVeins_0 : List (Nat × Instr × Nat) := [(0, .iconst 0, 1), (1, .istore_n 2, 1), (2, .iconst 0, 1), (3, .istore_n 3, 1), (4, .iload_n 3, 1), (5, .aload_n 0, 1), (6, .getfield 39, 3), (9, .getfield 107, 3), (12, .if_icmp .ge 24, 3), (15, .aload_n 0, 1), (16, .iload_n 3, 1), (17, .aload_n 1, 1), (18, .invokevirtual 183, 3), (21, .ifCond .eq 9, 3), (24, .iload_n 2, 1), (25, .iconst 1, 1), (26, .iload_n 3, 1), (27, .ishl, 1), (28, .ior, 1), (29, .istore_n 2, 1)]
theorem zddX5_cheesesWithVeins_0 : dqW lzddX5_cheesesWithVeins_0 (cX5_cheesesWithVeins.data.toList.drop 0) 0 = true := by decide +kernel
theorem dX5_cheesesWithVeins_0 : decode cX5_cheesesWithVeins 0 = .ok (.iconst 0, 1) := dq_get (L := lzddX5_cheesesWithVeins_0) 0 rfl zddX5_cheesesWithVeins_0 rfl
theorem dX5_cheesesWithVeins_1 : decode cX5_cheesesWithVeins 1 = .ok (.istore_n 2, 1) := dq_get (L := lzddX5_cheesesWithVeins_0) 1 rfl zddX5_cheesesWithVeins_0 rfl
theorem dX5_cheesesWithVeins_2 : decode cX5_cheesesWithVeins 2 = .ok (.iconst 0, 1) := dq_get (L := lzddX5_cheesesWithVeins_0) 2 rfl zddX5_cheesesWithVeins_0 rfl
theorem dX5_cheesesWithVeins_3 : decode cX5_cheesesWithVeins 3 = .ok (.istore_n 3, 1) := dq_get (L := lzddX5_cheesesWithVeins_0) 3 rfl zddX5_cheesesWithVeins_0 rfl
theorem dX5_cheesesWithVeins_4 : decode cX5_cheesesWithVeins 4 = .ok (.iload_n 3, 1) := dq_get (L := lzddX5_cheesesWithVeins_0) 4 rfl zddX5_cheesesWithVeins_0 rfl
theorem dX5_cheesesWithVeins_5 : decode cX5_cheesesWithVeins 5 = .ok (.aload_n 0, 1) := dq_get (L := lzddX5_cheesesWithVeins_0) 5 rfl zddX5_cheesesWithVeins_0 rfl
theorem dX5_cheesesWithVeins_6 : decode cX5_cheesesWithVeins 6 = .ok (.getfield 39, 3) := dq_get (L := lzddX5_cheesesWithVeins_0) 6 rfl zddX5_cheesesWithVeins_0 rfl
theorem dX5_cheesesWithVeins_9 : decode cX5_cheesesWithVeins 9 = .ok (.getfield 107, 3) := dq_get (L := lzddX5_cheesesWithVeins_0) 7 rfl zddX5_cheesesWithVeins_0 rfl
theorem dX5_cheesesWithVeins_12 : decode cX5_cheesesWithVeins 12 = .ok (.if_icmp .ge 24, 3) := dq_get (L := lzddX5_cheesesWithVeins_0) 8 rfl zddX5_cheesesWithVeins_0 rfl
theorem dX5_cheesesWithVeins_15 : decode cX5_cheesesWithVeins 15 = .ok (.aload_n 0, 1) := dq_get (L := lzddX5_cheesesWithVeins_0) 9 rfl zddX5_cheesesWithVeins_0 rfl
theorem dX5_cheesesWithVeins_16 : decode cX5_cheesesWithVeins 16 = .ok (.iload_n 3, 1) := dq_get (L := lzddX5_cheesesWithVeins_0) 10 rfl zddX5_cheesesWithVeins_0 rfl
theorem dX5_cheesesWithVeins_17 : decode cX5_cheesesWithVeins 17 = .ok (.aload_n 1, 1) := dq_get (L := lzddX5_cheesesWithVeins_0) 11 rfl zddX5_cheesesWithVeins_0 rfl
theorem dX5_cheesesWithVeins_18 : decode cX5_cheesesWithVeins 18 = .ok (.invokevirtual 183, 3) := dq_get (L := lzddX5_cheesesWithVeins_0) 12 rfl zddX5_cheesesWithVeins_0 rfl
theorem dX5_cheesesWithVeins_21 : decode cX5_cheesesWithVeins 21 = .ok (.ifCond .eq 9, 3) := dq_get (L := lzddX5_cheesesWithVeins_0) 13 rfl zddX5_cheesesWithVeins_0 rfl
theorem dX5_cheesesWithVeins_24 : decode cX5_cheesesWithVeins 24 = .ok (.iload_n 2, 1) := dq_get (L := lzddX5_cheesesWithVeins_0) 14 rfl zddX5_cheesesWithVeins_0 rfl
theorem dX5_cheesesWithVeins_25 : decode cX5_cheesesWithVeins 25 = .ok (.iconst 1, 1) := dq_get (L := lzddX5_cheesesWithVeins_0) 15 rfl zddX5_cheesesWithVeins_0 rfl
theorem dX5_cheesesWithVeins_26 : decode cX5_cheesesWithVeins 26 = .ok (.iload_n 3, 1) := dq_get (L := lzddX5_cheesesWithVeins_0) 16 rfl zddX5_cheesesWithVeins_0 rfl
theorem dX5_cheesesWithVeins_27 : decode cX5_cheesesWithVeins 27 = .ok (.ishl, 1) := dq_get (L := lzddX5_cheesesWithVeins_0) 17 rfl zddX5_cheesesWithVeins_0 rfl
theorem dX5_cheesesWithVeins_28 : decode cX5_cheesesWithVeins 28 = .ok (.ior, 1) := dq_get (L := lzddX5_cheesesWithVeins_0) 18 rfl zddX5_cheesesWithVeins_0 rfl
theorem dX5_cheesesWithVeins_29 : decode cX5_cheesesWithVeins 29 = .ok (.istore_n 2, 1) := dq_get (L := lzddX5_cheesesWithVeins_0) 19 rfl zddX5_cheesesWithVeins_0 rfl
def lzddX5_cheesesWithVeins_30 : List (Nat × Instr × Nat) := [(30, .iinc 3 1, 3), (33, .goto (-29), 3), (36, .iload_n 2, 1), (37, .ireturn, 1)]
theorem zddX5_cheesesWithVeins_30 : dqW lzddX5_cheesesWithVeins_30 (cX5_cheesesWithVeins.data.toList.drop 30) 30 = true := by decide +kernel
theorem dX5_cheesesWithVeins_30 : decode cX5_cheesesWithVeins 30 = .ok (.iinc 3 1, 3) := dq_get (L := lzddX5_cheesesWithVeins_30) 0 rfl zddX5_cheesesWithVeins_30 rfl
theorem dX5_cheesesWithVeins_33 : decode cX5_cheesesWithVeins 33 = .ok (.goto (-29), 3) := dq_get (L := lzddX5_cheesesWithVeins_30) 1 rfl zddX5_cheesesWithVeins_30 rfl
theorem dX5_cheesesWithVeins_36 : decode cX5_cheesesWithVeins 36 = .ok (.iload_n 2, 1) := dq_get (L := lzddX5_cheesesWithVeins_30) 2 rfl zddX5_cheesesWithVeins_30 rfl
theorem dX5_cheesesWithVeins_37 : decode cX5_cheesesWithVeins 37 = .ok (.ireturn, 1) := dq_get (L := lzddX5_cheesesWithVeins_30) 3 rfl zddX5_cheesesWithVeins_30 rfl
def lzddX5_forget_0 : List (Nat × Instr × Nat) := [(0, .aload_n 0, 1), (1, .getfield 9, 3), (4, .iconst 0, 1), (5, .invokestatic 75, 3), (8, .aload_n 0, 1), (9, .getfield 15, 3), (12, .iconst 0, 1), (13, .invokestatic 75, 3), (16, .aload_n 0, 1), (17, .getfield 18, 3), (20, .iconst 0, 1), (21, .invokestatic 75, 3), (24, .aload_n 0, 1), (25, .getfield 21, 3), (28, .iconst 0, 1), (29, .invokestatic 75, 3), (32, .aload_n 0, 1), (33, .getfield 24, 3), (36, .iconst 0, 1), (37, .invokestatic 75, 3)]
theorem zddX5_forget_0 : dqW lzddX5_forget_0 (cX5_forget.data.toList.drop 0) 0 = true := by decide +kernel
theorem dX5_forget_0 : decode cX5_forget 0 = .ok (.aload_n 0, 1) := dq_get (L := lzddX5_forget_0) 0 rfl zddX5_forget_0 rfl
theorem dX5_forget_1 : decode cX5_forget 1 = .ok (.getfield 9, 3) := dq_get (L := lzddX5_forget_0) 1 rfl zddX5_forget_0 rfl
theorem dX5_forget_4 : decode cX5_forget 4 = .ok (.iconst 0, 1) := dq_get (L := lzddX5_forget_0) 2 rfl zddX5_forget_0 rfl
theorem dX5_forget_5 : decode cX5_forget 5 = .ok (.invokestatic 75, 3) := dq_get (L := lzddX5_forget_0) 3 rfl zddX5_forget_0 rfl
theorem dX5_forget_8 : decode cX5_forget 8 = .ok (.aload_n 0, 1) := dq_get (L := lzddX5_forget_0) 4 rfl zddX5_forget_0 rfl
theorem dX5_forget_9 : decode cX5_forget 9 = .ok (.getfield 15, 3) := dq_get (L := lzddX5_forget_0) 5 rfl zddX5_forget_0 rfl
theorem dX5_forget_12 : decode cX5_forget 12 = .ok (.iconst 0, 1) := dq_get (L := lzddX5_forget_0) 6 rfl zddX5_forget_0 rfl
theorem dX5_forget_13 : decode cX5_forget 13 = .ok (.invokestatic 75, 3) := dq_get (L := lzddX5_forget_0) 7 rfl zddX5_forget_0 rfl
theorem dX5_forget_16 : decode cX5_forget 16 = .ok (.aload_n 0, 1) := dq_get (L := lzddX5_forget_0) 8 rfl zddX5_forget_0 rfl
theorem dX5_forget_17 : decode cX5_forget 17 = .ok (.getfield 18, 3) := dq_get (L := lzddX5_forget_0) 9 rfl zddX5_forget_0 rfl
theorem dX5_forget_20 : decode cX5_forget 20 = .ok (.iconst 0, 1) := dq_get (L := lzddX5_forget_0) 10 rfl zddX5_forget_0 rfl
theorem dX5_forget_21 : decode cX5_forget 21 = .ok (.invokestatic 75, 3) := dq_get (L := lzddX5_forget_0) 11 rfl zddX5_forget_0 rfl
theorem dX5_forget_24 : decode cX5_forget 24 = .ok (.aload_n 0, 1) := dq_get (L := lzddX5_forget_0) 12 rfl zddX5_forget_0 rfl
theorem dX5_forget_25 : decode cX5_forget 25 = .ok (.getfield 21, 3) := dq_get (L := lzddX5_forget_0) 13 rfl zddX5_forget_0 rfl
theorem dX5_forget_28 : decode cX5_forget 28 = .ok (.iconst 0, 1) := dq_get (L := lzddX5_forget_0) 14 rfl zddX5_forget_0 rfl
theorem dX5_forget_29 : decode cX5_forget 29 = .ok (.invokestatic 75, 3) := dq_get (L := lzddX5_forget_0) 15 rfl zddX5_forget_0 rfl
theorem dX5_forget_32 : decode cX5_forget 32 = .ok (.aload_n 0, 1) := dq_get (L := lzddX5_forget_0) 16 rfl zddX5_forget_0 rfl
theorem dX5_forget_33 : decode cX5_forget 33 = .ok (.getfield 24, 3) := dq_get (L := lzddX5_forget_0) 17 rfl zddX5_forget_0 rfl
theorem dX5_forget_36 : decode cX5_forget 36 = .ok (.iconst 0, 1) := dq_get (L := lzddX5_forget_0) 18 rfl zddX5_forget_0 rfl
theorem dX5_forget_37 : decode cX5_forget 37 = .ok (.invokestatic 75, 3) := dq_get (L := lzddX5_forget_0) 19 rfl zddX5_forget_0 rfl
def lzddX5_forget_40 : List (Nat × Instr × Nat) := [(40, .aload_n 0, 1), (41, .getfield 27, 3), (44, .iconst 0, 1), (45, .invokestatic 75, 3), (48, .aload_n 0, 1), (49, .getfield 30, 3), (52, .iconst 0, 1), (53, .invokestatic 75, 3), (56, .aload_n 0, 1), (57, .getfield 33, 3), (60, .iconst 0, 1), (61, .invokestatic 75, 3), (64, .aload_n 0, 1), (65, .getfield 36, 3), (68, .iconst 0, 1), (69, .invokestatic 75, 3), (72, .return_, 1)]
theorem zddX5_forget_40 : dqW lzddX5_forget_40 (cX5_forget.data.toList.drop 40) 40 = true := by decide +kernel
theorem dX5_forget_40 : decode cX5_forget 40 = .ok (.aload_n 0, 1) := dq_get (L := lzddX5_forget_40) 0 rfl zddX5_forget_40 rfl
theorem dX5_forget_41 : decode cX5_forget 41 = .ok (.getfield 27, 3) := dq_get (L := lzddX5_forget_40) 1 rfl zddX5_forget_40 rfl
theorem dX5_forget_44 : decode cX5_forget 44 = .ok (.iconst 0, 1) := dq_get (L := lzddX5_forget_40) 2 rfl zddX5_forget_40 rfl
theorem dX5_forget_45 : decode cX5_forget 45 = .ok (.invokestatic 75, 3) := dq_get (L := lzddX5_forget_40) 3 rfl zddX5_forget_40 rfl
theorem dX5_forget_48 : decode cX5_forget 48 = .ok (.aload_n 0, 1) := dq_get (L := lzddX5_forget_40) 4 rfl zddX5_forget_40 rfl
theorem dX5_forget_49 : decode cX5_forget 49 = .ok (.getfield 30, 3) := dq_get (L := lzddX5_forget_40) 5 rfl zddX5_forget_40 rfl
theorem dX5_forget_52 : decode cX5_forget 52 = .ok (.iconst 0, 1) := dq_get (L := lzddX5_forget_40) 6 rfl zddX5_forget_40 rfl
theorem dX5_forget_53 : decode cX5_forget 53 = .ok (.invokestatic 75, 3) := dq_get (L := lzddX5_forget_40) 7 rfl zddX5_forget_40 rfl
theorem dX5_forget_56 : decode cX5_forget 56 = .ok (.aload_n 0, 1) := dq_get (L := lzddX5_forget_40) 8 rfl zddX5_forget_40 rfl
theorem dX5_forget_57 : decode cX5_forget 57 = .ok (.getfield 33, 3) := dq_get (L := lzddX5_forget_40) 9 rfl zddX5_forget_40 rfl
theorem dX5_forget_60 : decode cX5_forget 60 = .ok (.iconst 0, 1) := dq_get (L := lzddX5_forget_40) 10 rfl zddX5_forget_40 rfl
theorem dX5_forget_61 : decode cX5_forget 61 = .ok (.invokestatic 75, 3) := dq_get (L := lzddX5_forget_40) 11 rfl zddX5_forget_40 rfl
theorem dX5_forget_64 : decode cX5_forget 64 = .ok (.aload_n 0, 1) := dq_get (L := lzddX5_forget_40) 12 rfl zddX5_forget_40 rfl
theorem dX5_forget_65 : decode cX5_forget 65 = .ok (.getfield 36, 3) := dq_get (L := lzddX5_forget_40) 13 rfl zddX5_forget_40 rfl
theorem dX5_forget_68 : decode cX5_forget 68 = .ok (.iconst 0, 1) := dq_get (L := lzddX5_forget_40) 14 rfl zddX5_forget_40 rfl
theorem dX5_forget_69 : decode cX5_forget 69 = .ok (.invokestatic 75, 3) := dq_get (L := lzddX5_forget_40) 15 rfl zddX5_forget_40 rfl
theorem dX5_forget_72 : decode cX5_forget 72 = .ok (.return_, 1) := dq_get (L := lzddX5_forget_40) 16 rfl zddX5_forget_40 rfl
def lzddX5_hasJustVeins_0 : List (Nat × Instr × Nat) := [(0, .aload_n 0, 1), (1, .getfield 15, 3), (4, .iload_n 1, 1), (5, .iaload, 1), (6, .aload_n 0, 1), (7, .getfield 18, 3), (10, .iload_n 1, 1), (11, .iaload, 1), (12, .iadd, 1), (13, .aload_n 2, 1), (14, .getfield 187, 3), (17, .if_icmp .eq 5, 3), (20, .iconst 0, 1), (21, .ireturn, 1), (22, .iconst 0, 1), (23, .istore_n 3, 1), (24, .iload_n 3, 1), (25, .aload_n 2, 1), (26, .getfield 187, 3), (29, .if_icmp .ge 25, 3)]
theorem zddX5_hasJustVeins_0 : dqW lzddX5_hasJustVeins_0 (cX5_hasJustVeins.data.toList.drop 0) 0 = true := by decide +kernel
theorem dX5_hasJustVeins_0 : decode cX5_hasJustVeins 0 = .ok (.aload_n 0, 1) := dq_get (L := lzddX5_hasJustVeins_0) 0 rfl zddX5_hasJustVeins_0 rfl
theorem dX5_hasJustVeins_1 : decode cX5_hasJustVeins 1 = .ok (.getfield 15, 3) := dq_get (L := lzddX5_hasJustVeins_0) 1 rfl zddX5_hasJustVeins_0 rfl
theorem dX5_hasJustVeins_4 : decode cX5_hasJustVeins 4 = .ok (.iload_n 1, 1) := dq_get (L := lzddX5_hasJustVeins_0) 2 rfl zddX5_hasJustVeins_0 rfl
theorem dX5_hasJustVeins_5 : decode cX5_hasJustVeins 5 = .ok (.iaload, 1) := dq_get (L := lzddX5_hasJustVeins_0) 3 rfl zddX5_hasJustVeins_0 rfl
theorem dX5_hasJustVeins_6 : decode cX5_hasJustVeins 6 = .ok (.aload_n 0, 1) := dq_get (L := lzddX5_hasJustVeins_0) 4 rfl zddX5_hasJustVeins_0 rfl
theorem dX5_hasJustVeins_7 : decode cX5_hasJustVeins 7 = .ok (.getfield 18, 3) := dq_get (L := lzddX5_hasJustVeins_0) 5 rfl zddX5_hasJustVeins_0 rfl
theorem dX5_hasJustVeins_10 : decode cX5_hasJustVeins 10 = .ok (.iload_n 1, 1) := dq_get (L := lzddX5_hasJustVeins_0) 6 rfl zddX5_hasJustVeins_0 rfl
theorem dX5_hasJustVeins_11 : decode cX5_hasJustVeins 11 = .ok (.iaload, 1) := dq_get (L := lzddX5_hasJustVeins_0) 7 rfl zddX5_hasJustVeins_0 rfl
theorem dX5_hasJustVeins_12 : decode cX5_hasJustVeins 12 = .ok (.iadd, 1) := dq_get (L := lzddX5_hasJustVeins_0) 8 rfl zddX5_hasJustVeins_0 rfl
theorem dX5_hasJustVeins_13 : decode cX5_hasJustVeins 13 = .ok (.aload_n 2, 1) := dq_get (L := lzddX5_hasJustVeins_0) 9 rfl zddX5_hasJustVeins_0 rfl
theorem dX5_hasJustVeins_14 : decode cX5_hasJustVeins 14 = .ok (.getfield 187, 3) := dq_get (L := lzddX5_hasJustVeins_0) 10 rfl zddX5_hasJustVeins_0 rfl
theorem dX5_hasJustVeins_17 : decode cX5_hasJustVeins 17 = .ok (.if_icmp .eq 5, 3) := dq_get (L := lzddX5_hasJustVeins_0) 11 rfl zddX5_hasJustVeins_0 rfl
theorem dX5_hasJustVeins_20 : decode cX5_hasJustVeins 20 = .ok (.iconst 0, 1) := dq_get (L := lzddX5_hasJustVeins_0) 12 rfl zddX5_hasJustVeins_0 rfl
theorem dX5_hasJustVeins_21 : decode cX5_hasJustVeins 21 = .ok (.ireturn, 1) := dq_get (L := lzddX5_hasJustVeins_0) 13 rfl zddX5_hasJustVeins_0 rfl
theorem dX5_hasJustVeins_22 : decode cX5_hasJustVeins 22 = .ok (.iconst 0, 1) := dq_get (L := lzddX5_hasJustVeins_0) 14 rfl zddX5_hasJustVeins_0 rfl
theorem dX5_hasJustVeins_23 : decode cX5_hasJustVeins 23 = .ok (.istore_n 3, 1) := dq_get (L := lzddX5_hasJustVeins_0) 15 rfl zddX5_hasJustVeins_0 rfl
theorem dX5_hasJustVeins_24 : decode cX5_hasJustVeins 24 = .ok (.iload_n 3, 1) := dq_get (L := lzddX5_hasJustVeins_0) 16 rfl zddX5_hasJustVeins_0 rfl
theorem dX5_hasJustVeins_25 : decode cX5_hasJustVeins 25 = .ok (.aload_n 2, 1) := dq_get (L := lzddX5_hasJustVeins_0) 17 rfl zddX5_hasJustVeins_0 rfl
theorem dX5_hasJustVeins_26 : decode cX5_hasJustVeins 26 = .ok (.getfield 187, 3) := dq_get (L := lzddX5_hasJustVeins_0) 18 rfl zddX5_hasJustVeins_0 rfl
theorem dX5_hasJustVeins_29 : decode cX5_hasJustVeins 29 = .ok (.if_icmp .ge 25, 3) := dq_get (L := lzddX5_hasJustVeins_0) 19 rfl zddX5_hasJustVeins_0 rfl
def lzddX5_hasJustVeins_32 : List (Nat × Instr × Nat) := [(32, .aload_n 0, 1), (33, .iload_n 1, 1), (34, .aload_n 2, 1), (35, .getfield 190, 3), (38, .iload_n 3, 1), (39, .iaload, 1), (40, .invokevirtual 180, 3), (43, .ifCond .ne 5, 3), (46, .iconst 0, 1), (47, .ireturn, 1), (48, .iinc 3 1, 3), (51, .goto (-27), 3), (54, .iconst 1, 1), (55, .ireturn, 1)]
theorem zddX5_hasJustVeins_32 : dqW lzddX5_hasJustVeins_32 (cX5_hasJustVeins.data.toList.drop 32) 32 = true := by decide +kernel
theorem dX5_hasJustVeins_32 : decode cX5_hasJustVeins 32 = .ok (.aload_n 0, 1) := dq_get (L := lzddX5_hasJustVeins_32) 0 rfl zddX5_hasJustVeins_32 rfl
theorem dX5_hasJustVeins_33 : decode cX5_hasJustVeins 33 = .ok (.iload_n 1, 1) := dq_get (L := lzddX5_hasJustVeins_32) 1 rfl zddX5_hasJustVeins_32 rfl
theorem dX5_hasJustVeins_34 : decode cX5_hasJustVeins 34 = .ok (.aload_n 2, 1) := dq_get (L := lzddX5_hasJustVeins_32) 2 rfl zddX5_hasJustVeins_32 rfl
theorem dX5_hasJustVeins_35 : decode cX5_hasJustVeins 35 = .ok (.getfield 190, 3) := dq_get (L := lzddX5_hasJustVeins_32) 3 rfl zddX5_hasJustVeins_32 rfl
theorem dX5_hasJustVeins_38 : decode cX5_hasJustVeins 38 = .ok (.iload_n 3, 1) := dq_get (L := lzddX5_hasJustVeins_32) 4 rfl zddX5_hasJustVeins_32 rfl
theorem dX5_hasJustVeins_39 : decode cX5_hasJustVeins 39 = .ok (.iaload, 1) := dq_get (L := lzddX5_hasJustVeins_32) 5 rfl zddX5_hasJustVeins_32 rfl
theorem dX5_hasJustVeins_40 : decode cX5_hasJustVeins 40 = .ok (.invokevirtual 180, 3) := dq_get (L := lzddX5_hasJustVeins_32) 6 rfl zddX5_hasJustVeins_32 rfl
theorem dX5_hasJustVeins_43 : decode cX5_hasJustVeins 43 = .ok (.ifCond .ne 5, 3) := dq_get (L := lzddX5_hasJustVeins_32) 7 rfl zddX5_hasJustVeins_32 rfl
theorem dX5_hasJustVeins_46 : decode cX5_hasJustVeins 46 = .ok (.iconst 0, 1) := dq_get (L := lzddX5_hasJustVeins_32) 8 rfl zddX5_hasJustVeins_32 rfl
theorem dX5_hasJustVeins_47 : decode cX5_hasJustVeins 47 = .ok (.ireturn, 1) := dq_get (L := lzddX5_hasJustVeins_32) 9 rfl zddX5_hasJustVeins_32 rfl
theorem dX5_hasJustVeins_48 : decode cX5_hasJustVeins 48 = .ok (.iinc 3 1, 3) := dq_get (L := lzddX5_hasJustVeins_32) 10 rfl zddX5_hasJustVeins_32 rfl
theorem dX5_hasJustVeins_51 : decode cX5_hasJustVeins 51 = .ok (.goto (-27), 3) := dq_get (L := lzddX5_hasJustVeins_32) 11 rfl zddX5_hasJustVeins_32 rfl
theorem dX5_hasJustVeins_54 : decode cX5_hasJustVeins 54 = .ok (.iconst 1, 1) := dq_get (L := lzddX5_hasJustVeins_32) 12 rfl zddX5_hasJustVeins_32 rfl
theorem dX5_hasJustVeins_55 : decode cX5_hasJustVeins 55 = .ok (.ireturn, 1) := dq_get (L := lzddX5_hasJustVeins_32) 13 rfl zddX5_hasJustVeins_32 rfl
def lzddX5_isAwake_0 : List (Nat × Instr × Nat) := [(0, .aload_n 0, 1), (1, .getfield 39, 3), (4, .getfield 90, 3), (7, .iload_n 1, 1), (8, .aaload, 1), (9, .astore_n 3, 1), (10, .iload_n 2, 1), (11, .aload_n 3, 1), (12, .getfield 125, 3), (15, .if_icmp .lt 13, 3), (18, .iload_n 2, 1), (19, .aload_n 3, 1), (20, .getfield 128, 3), (23, .if_icmp .ge 5, 3), (26, .iconst 1, 1), (27, .ireturn, 1), (28, .aload_n 3, 1), (29, .getfield 131, 3), (32, .iconst 2, 1), (33, .if_icmp .ne 5, 3)]
theorem zddX5_isAwake_0 : dqW lzddX5_isAwake_0 (cX5_isAwake.data.toList.drop 0) 0 = true := by decide +kernel
theorem dX5_isAwake_0 : decode cX5_isAwake 0 = .ok (.aload_n 0, 1) := dq_get (L := lzddX5_isAwake_0) 0 rfl zddX5_isAwake_0 rfl
theorem dX5_isAwake_1 : decode cX5_isAwake 1 = .ok (.getfield 39, 3) := dq_get (L := lzddX5_isAwake_0) 1 rfl zddX5_isAwake_0 rfl
theorem dX5_isAwake_4 : decode cX5_isAwake 4 = .ok (.getfield 90, 3) := dq_get (L := lzddX5_isAwake_0) 2 rfl zddX5_isAwake_0 rfl
theorem dX5_isAwake_7 : decode cX5_isAwake 7 = .ok (.iload_n 1, 1) := dq_get (L := lzddX5_isAwake_0) 3 rfl zddX5_isAwake_0 rfl
theorem dX5_isAwake_8 : decode cX5_isAwake 8 = .ok (.aaload, 1) := dq_get (L := lzddX5_isAwake_0) 4 rfl zddX5_isAwake_0 rfl
theorem dX5_isAwake_9 : decode cX5_isAwake 9 = .ok (.astore_n 3, 1) := dq_get (L := lzddX5_isAwake_0) 5 rfl zddX5_isAwake_0 rfl
theorem dX5_isAwake_10 : decode cX5_isAwake 10 = .ok (.iload_n 2, 1) := dq_get (L := lzddX5_isAwake_0) 6 rfl zddX5_isAwake_0 rfl
theorem dX5_isAwake_11 : decode cX5_isAwake 11 = .ok (.aload_n 3, 1) := dq_get (L := lzddX5_isAwake_0) 7 rfl zddX5_isAwake_0 rfl
theorem dX5_isAwake_12 : decode cX5_isAwake 12 = .ok (.getfield 125, 3) := dq_get (L := lzddX5_isAwake_0) 8 rfl zddX5_isAwake_0 rfl
theorem dX5_isAwake_15 : decode cX5_isAwake 15 = .ok (.if_icmp .lt 13, 3) := dq_get (L := lzddX5_isAwake_0) 9 rfl zddX5_isAwake_0 rfl
theorem dX5_isAwake_18 : decode cX5_isAwake 18 = .ok (.iload_n 2, 1) := dq_get (L := lzddX5_isAwake_0) 10 rfl zddX5_isAwake_0 rfl
theorem dX5_isAwake_19 : decode cX5_isAwake 19 = .ok (.aload_n 3, 1) := dq_get (L := lzddX5_isAwake_0) 11 rfl zddX5_isAwake_0 rfl
theorem dX5_isAwake_20 : decode cX5_isAwake 20 = .ok (.getfield 128, 3) := dq_get (L := lzddX5_isAwake_0) 12 rfl zddX5_isAwake_0 rfl
theorem dX5_isAwake_23 : decode cX5_isAwake 23 = .ok (.if_icmp .ge 5, 3) := dq_get (L := lzddX5_isAwake_0) 13 rfl zddX5_isAwake_0 rfl
theorem dX5_isAwake_26 : decode cX5_isAwake 26 = .ok (.iconst 1, 1) := dq_get (L := lzddX5_isAwake_0) 14 rfl zddX5_isAwake_0 rfl
theorem dX5_isAwake_27 : decode cX5_isAwake 27 = .ok (.ireturn, 1) := dq_get (L := lzddX5_isAwake_0) 15 rfl zddX5_isAwake_0 rfl
theorem dX5_isAwake_28 : decode cX5_isAwake 28 = .ok (.aload_n 3, 1) := dq_get (L := lzddX5_isAwake_0) 16 rfl zddX5_isAwake_0 rfl
theorem dX5_isAwake_29 : decode cX5_isAwake 29 = .ok (.getfield 131, 3) := dq_get (L := lzddX5_isAwake_0) 17 rfl zddX5_isAwake_0 rfl
theorem dX5_isAwake_32 : decode cX5_isAwake 32 = .ok (.iconst 2, 1) := dq_get (L := lzddX5_isAwake_0) 18 rfl zddX5_isAwake_0 rfl
theorem dX5_isAwake_33 : decode cX5_isAwake 33 = .ok (.if_icmp .ne 5, 3) := dq_get (L := lzddX5_isAwake_0) 19 rfl zddX5_isAwake_0 rfl
def lzddX5_isAwake_36 : List (Nat × Instr × Nat) := [(36, .iconst 0, 1), (37, .ireturn, 1), (38, .aload_n 0, 1), (39, .getfield 43, 3), (42, .getfield 134, 3), (45, .iload_n 2, 1), (46, .baload, 1), (47, .ifCond .ne 12, 3), (50, .aload_n 0, 1), (51, .iload_n 1, 1), (52, .iload_n 2, 1), (53, .invokevirtual 138, 3), (56, .ifCond .eq 7, 3), (59, .iconst 1, 1), (60, .goto 4, 3), (63, .iconst 0, 1), (64, .ireturn, 1)]
theorem zddX5_isAwake_36 : dqW lzddX5_isAwake_36 (cX5_isAwake.data.toList.drop 36) 36 = true := by decide +kernel
theorem dX5_isAwake_36 : decode cX5_isAwake 36 = .ok (.iconst 0, 1) := dq_get (L := lzddX5_isAwake_36) 0 rfl zddX5_isAwake_36 rfl
theorem dX5_isAwake_37 : decode cX5_isAwake 37 = .ok (.ireturn, 1) := dq_get (L := lzddX5_isAwake_36) 1 rfl zddX5_isAwake_36 rfl
theorem dX5_isAwake_38 : decode cX5_isAwake 38 = .ok (.aload_n 0, 1) := dq_get (L := lzddX5_isAwake_36) 2 rfl zddX5_isAwake_36 rfl
theorem dX5_isAwake_39 : decode cX5_isAwake 39 = .ok (.getfield 43, 3) := dq_get (L := lzddX5_isAwake_36) 3 rfl zddX5_isAwake_36 rfl
theorem dX5_isAwake_42 : decode cX5_isAwake 42 = .ok (.getfield 134, 3) := dq_get (L := lzddX5_isAwake_36) 4 rfl zddX5_isAwake_36 rfl
theorem dX5_isAwake_45 : decode cX5_isAwake 45 = .ok (.iload_n 2, 1) := dq_get (L := lzddX5_isAwake_36) 5 rfl zddX5_isAwake_36 rfl
theorem dX5_isAwake_46 : decode cX5_isAwake 46 = .ok (.baload, 1) := dq_get (L := lzddX5_isAwake_36) 6 rfl zddX5_isAwake_36 rfl
theorem dX5_isAwake_47 : decode cX5_isAwake 47 = .ok (.ifCond .ne 12, 3) := dq_get (L := lzddX5_isAwake_36) 7 rfl zddX5_isAwake_36 rfl
theorem dX5_isAwake_50 : decode cX5_isAwake 50 = .ok (.aload_n 0, 1) := dq_get (L := lzddX5_isAwake_36) 8 rfl zddX5_isAwake_36 rfl
theorem dX5_isAwake_51 : decode cX5_isAwake 51 = .ok (.iload_n 1, 1) := dq_get (L := lzddX5_isAwake_36) 9 rfl zddX5_isAwake_36 rfl
theorem dX5_isAwake_52 : decode cX5_isAwake 52 = .ok (.iload_n 2, 1) := dq_get (L := lzddX5_isAwake_36) 10 rfl zddX5_isAwake_36 rfl
theorem dX5_isAwake_53 : decode cX5_isAwake 53 = .ok (.invokevirtual 138, 3) := dq_get (L := lzddX5_isAwake_36) 11 rfl zddX5_isAwake_36 rfl
theorem dX5_isAwake_56 : decode cX5_isAwake 56 = .ok (.ifCond .eq 7, 3) := dq_get (L := lzddX5_isAwake_36) 12 rfl zddX5_isAwake_36 rfl
theorem dX5_isAwake_59 : decode cX5_isAwake 59 = .ok (.iconst 1, 1) := dq_get (L := lzddX5_isAwake_36) 13 rfl zddX5_isAwake_36 rfl
theorem dX5_isAwake_60 : decode cX5_isAwake 60 = .ok (.goto 4, 3) := dq_get (L := lzddX5_isAwake_36) 14 rfl zddX5_isAwake_36 rfl
theorem dX5_isAwake_63 : decode cX5_isAwake 63 = .ok (.iconst 0, 1) := dq_get (L := lzddX5_isAwake_36) 15 rfl zddX5_isAwake_36 rfl
theorem dX5_isAwake_64 : decode cX5_isAwake 64 = .ok (.ireturn, 1) := dq_get (L := lzddX5_isAwake_36) 16 rfl zddX5_isAwake_36 rfl
def lzddX5_isCalled_0 : List (Nat × Instr × Nat) := [(0, .iconst 0, 1), (1, .istore_n 3, 1), (2, .iload_n 3, 1), (3, .aload_n 0, 1), (4, .getfield 39, 3), (7, .getfield 141, 3), (10, .if_icmp .ge 67, 3), (13, .aload_n 0, 1), (14, .getfield 39, 3), (17, .getfield 144, 3), (20, .iload_n 3, 1), (21, .aaload, 1), (22, .astore 4, 2), (24, .aload_n 0, 1), (25, .getfield 47, 3), (28, .iload_n 3, 1), (29, .invokestatic 84, 3), (32, .iconst 1, 1), (33, .if_icmp .ne 38, 3), (36, .aload 4, 2)]
theorem zddX5_isCalled_0 : dqW lzddX5_isCalled_0 (cX5_isCalled.data.toList.drop 0) 0 = true := by decide +kernel
theorem dX5_isCalled_0 : decode cX5_isCalled 0 = .ok (.iconst 0, 1) := dq_get (L := lzddX5_isCalled_0) 0 rfl zddX5_isCalled_0 rfl
theorem dX5_isCalled_1 : decode cX5_isCalled 1 = .ok (.istore_n 3, 1) := dq_get (L := lzddX5_isCalled_0) 1 rfl zddX5_isCalled_0 rfl
theorem dX5_isCalled_2 : decode cX5_isCalled 2 = .ok (.iload_n 3, 1) := dq_get (L := lzddX5_isCalled_0) 2 rfl zddX5_isCalled_0 rfl
theorem dX5_isCalled_3 : decode cX5_isCalled 3 = .ok (.aload_n 0, 1) := dq_get (L := lzddX5_isCalled_0) 3 rfl zddX5_isCalled_0 rfl
theorem dX5_isCalled_4 : decode cX5_isCalled 4 = .ok (.getfield 39, 3) := dq_get (L := lzddX5_isCalled_0) 4 rfl zddX5_isCalled_0 rfl
theorem dX5_isCalled_7 : decode cX5_isCalled 7 = .ok (.getfield 141, 3) := dq_get (L := lzddX5_isCalled_0) 5 rfl zddX5_isCalled_0 rfl
theorem dX5_isCalled_10 : decode cX5_isCalled 10 = .ok (.if_icmp .ge 67, 3) := dq_get (L := lzddX5_isCalled_0) 6 rfl zddX5_isCalled_0 rfl
theorem dX5_isCalled_13 : decode cX5_isCalled 13 = .ok (.aload_n 0, 1) := dq_get (L := lzddX5_isCalled_0) 7 rfl zddX5_isCalled_0 rfl
theorem dX5_isCalled_14 : decode cX5_isCalled 14 = .ok (.getfield 39, 3) := dq_get (L := lzddX5_isCalled_0) 8 rfl zddX5_isCalled_0 rfl
theorem dX5_isCalled_17 : decode cX5_isCalled 17 = .ok (.getfield 144, 3) := dq_get (L := lzddX5_isCalled_0) 9 rfl zddX5_isCalled_0 rfl
theorem dX5_isCalled_20 : decode cX5_isCalled 20 = .ok (.iload_n 3, 1) := dq_get (L := lzddX5_isCalled_0) 10 rfl zddX5_isCalled_0 rfl
theorem dX5_isCalled_21 : decode cX5_isCalled 21 = .ok (.aaload, 1) := dq_get (L := lzddX5_isCalled_0) 11 rfl zddX5_isCalled_0 rfl
theorem dX5_isCalled_22 : decode cX5_isCalled 22 = .ok (.astore 4, 2) := dq_get (L := lzddX5_isCalled_0) 12 rfl zddX5_isCalled_0 rfl
theorem dX5_isCalled_24 : decode cX5_isCalled 24 = .ok (.aload_n 0, 1) := dq_get (L := lzddX5_isCalled_0) 13 rfl zddX5_isCalled_0 rfl
theorem dX5_isCalled_25 : decode cX5_isCalled 25 = .ok (.getfield 47, 3) := dq_get (L := lzddX5_isCalled_0) 14 rfl zddX5_isCalled_0 rfl
theorem dX5_isCalled_28 : decode cX5_isCalled 28 = .ok (.iload_n 3, 1) := dq_get (L := lzddX5_isCalled_0) 15 rfl zddX5_isCalled_0 rfl
theorem dX5_isCalled_29 : decode cX5_isCalled 29 = .ok (.invokestatic 84, 3) := dq_get (L := lzddX5_isCalled_0) 16 rfl zddX5_isCalled_0 rfl
theorem dX5_isCalled_32 : decode cX5_isCalled 32 = .ok (.iconst 1, 1) := dq_get (L := lzddX5_isCalled_0) 17 rfl zddX5_isCalled_0 rfl
theorem dX5_isCalled_33 : decode cX5_isCalled 33 = .ok (.if_icmp .ne 38, 3) := dq_get (L := lzddX5_isCalled_0) 18 rfl zddX5_isCalled_0 rfl
theorem dX5_isCalled_36 : decode cX5_isCalled 36 = .ok (.aload 4, 2) := dq_get (L := lzddX5_isCalled_0) 19 rfl zddX5_isCalled_0 rfl
def lzddX5_isCalled_38 : List (Nat × Instr × Nat) := [(38, .getfield 147, 3), (41, .iload_n 1, 1), (42, .if_icmp .ne 29, 3), (45, .iload_n 2, 1), (46, .aload 4, 2), (48, .getfield 152, 3), (51, .if_icmp .lt 20, 3), (54, .iload_n 2, 1), (55, .aload 4, 2), (57, .getfield 152, 3), (60, .aload 4, 2), (62, .getfield 155, 3), (65, .iadd, 1), (66, .if_icmp .ge 5, 3), (69, .iconst 1, 1), (70, .ireturn, 1), (71, .iinc 3 1, 3), (74, .goto (-72), 3), (77, .iconst 0, 1), (78, .ireturn, 1)]
theorem zddX5_isCalled_38 : dqW lzddX5_isCalled_38 (cX5_isCalled.data.toList.drop 38) 38 = true := by decide +kernel
theorem dX5_isCalled_38 : decode cX5_isCalled 38 = .ok (.getfield 147, 3) := dq_get (L := lzddX5_isCalled_38) 0 rfl zddX5_isCalled_38 rfl
theorem dX5_isCalled_41 : decode cX5_isCalled 41 = .ok (.iload_n 1, 1) := dq_get (L := lzddX5_isCalled_38) 1 rfl zddX5_isCalled_38 rfl
theorem dX5_isCalled_42 : decode cX5_isCalled 42 = .ok (.if_icmp .ne 29, 3) := dq_get (L := lzddX5_isCalled_38) 2 rfl zddX5_isCalled_38 rfl
theorem dX5_isCalled_45 : decode cX5_isCalled 45 = .ok (.iload_n 2, 1) := dq_get (L := lzddX5_isCalled_38) 3 rfl zddX5_isCalled_38 rfl
theorem dX5_isCalled_46 : decode cX5_isCalled 46 = .ok (.aload 4, 2) := dq_get (L := lzddX5_isCalled_38) 4 rfl zddX5_isCalled_38 rfl
theorem dX5_isCalled_48 : decode cX5_isCalled 48 = .ok (.getfield 152, 3) := dq_get (L := lzddX5_isCalled_38) 5 rfl zddX5_isCalled_38 rfl
theorem dX5_isCalled_51 : decode cX5_isCalled 51 = .ok (.if_icmp .lt 20, 3) := dq_get (L := lzddX5_isCalled_38) 6 rfl zddX5_isCalled_38 rfl
theorem dX5_isCalled_54 : decode cX5_isCalled 54 = .ok (.iload_n 2, 1) := dq_get (L := lzddX5_isCalled_38) 7 rfl zddX5_isCalled_38 rfl
theorem dX5_isCalled_55 : decode cX5_isCalled 55 = .ok (.aload 4, 2) := dq_get (L := lzddX5_isCalled_38) 8 rfl zddX5_isCalled_38 rfl
theorem dX5_isCalled_57 : decode cX5_isCalled 57 = .ok (.getfield 152, 3) := dq_get (L := lzddX5_isCalled_38) 9 rfl zddX5_isCalled_38 rfl
theorem dX5_isCalled_60 : decode cX5_isCalled 60 = .ok (.aload 4, 2) := dq_get (L := lzddX5_isCalled_38) 10 rfl zddX5_isCalled_38 rfl
theorem dX5_isCalled_62 : decode cX5_isCalled 62 = .ok (.getfield 155, 3) := dq_get (L := lzddX5_isCalled_38) 11 rfl zddX5_isCalled_38 rfl
theorem dX5_isCalled_65 : decode cX5_isCalled 65 = .ok (.iadd, 1) := dq_get (L := lzddX5_isCalled_38) 12 rfl zddX5_isCalled_38 rfl
theorem dX5_isCalled_66 : decode cX5_isCalled 66 = .ok (.if_icmp .ge 5, 3) := dq_get (L := lzddX5_isCalled_38) 13 rfl zddX5_isCalled_38 rfl
theorem dX5_isCalled_69 : decode cX5_isCalled 69 = .ok (.iconst 1, 1) := dq_get (L := lzddX5_isCalled_38) 14 rfl zddX5_isCalled_38 rfl
theorem dX5_isCalled_70 : decode cX5_isCalled 70 = .ok (.ireturn, 1) := dq_get (L := lzddX5_isCalled_38) 15 rfl zddX5_isCalled_38 rfl
theorem dX5_isCalled_71 : decode cX5_isCalled 71 = .ok (.iinc 3 1, 3) := dq_get (L := lzddX5_isCalled_38) 16 rfl zddX5_isCalled_38 rfl
theorem dX5_isCalled_74 : decode cX5_isCalled 74 = .ok (.goto (-72), 3) := dq_get (L := lzddX5_isCalled_38) 17 rfl zddX5_isCalled_38 rfl
theorem dX5_isCalled_77 : decode cX5_isCalled 77 = .ok (.iconst 0, 1) := dq_get (L := lzddX5_isCalled_38) 18 rfl zddX5_isCalled_38 rfl
theorem dX5_isCalled_78 : decode cX5_isCalled 78 = .ok (.ireturn, 1) := dq_get (L := lzddX5_isCalled_38) 19 rfl zddX5_isCalled_38 rfl
def lzddX5_isTurned_0 : List (Nat × Instr × Nat) := [(0, .aload_n 0, 1), (1, .iload_n 1, 1), (2, .iload_n 2, 1), (3, .invokevirtual 177, 3), (6, .bipush (-2), 2), (8, .if_icmp .eq 7, 3), (11, .iconst 1, 1), (12, .goto 4, 3), (15, .iconst 0, 1), (16, .ireturn, 1)]
theorem zddX5_isTurned_0 : dqW lzddX5_isTurned_0 (cX5_isTurned.data.toList.drop 0) 0 = true := by decide +kernel
theorem dX5_isTurned_0 : decode cX5_isTurned 0 = .ok (.aload_n 0, 1) := dq_get (L := lzddX5_isTurned_0) 0 rfl zddX5_isTurned_0 rfl
theorem dX5_isTurned_1 : decode cX5_isTurned 1 = .ok (.iload_n 1, 1) := dq_get (L := lzddX5_isTurned_0) 1 rfl zddX5_isTurned_0 rfl
theorem dX5_isTurned_2 : decode cX5_isTurned 2 = .ok (.iload_n 2, 1) := dq_get (L := lzddX5_isTurned_0) 2 rfl zddX5_isTurned_0 rfl
theorem dX5_isTurned_3 : decode cX5_isTurned 3 = .ok (.invokevirtual 177, 3) := dq_get (L := lzddX5_isTurned_0) 3 rfl zddX5_isTurned_0 rfl
theorem dX5_isTurned_6 : decode cX5_isTurned 6 = .ok (.bipush (-2), 2) := dq_get (L := lzddX5_isTurned_0) 4 rfl zddX5_isTurned_0 rfl
theorem dX5_isTurned_8 : decode cX5_isTurned 8 = .ok (.if_icmp .eq 7, 3) := dq_get (L := lzddX5_isTurned_0) 5 rfl zddX5_isTurned_0 rfl
theorem dX5_isTurned_11 : decode cX5_isTurned 11 = .ok (.iconst 1, 1) := dq_get (L := lzddX5_isTurned_0) 6 rfl zddX5_isTurned_0 rfl
theorem dX5_isTurned_12 : decode cX5_isTurned 12 = .ok (.goto 4, 3) := dq_get (L := lzddX5_isTurned_0) 7 rfl zddX5_isTurned_0 rfl
theorem dX5_isTurned_15 : decode cX5_isTurned 15 = .ok (.iconst 0, 1) := dq_get (L := lzddX5_isTurned_0) 8 rfl zddX5_isTurned_0 rfl
theorem dX5_isTurned_16 : decode cX5_isTurned 16 = .ok (.ireturn, 1) := dq_get (L := lzddX5_isTurned_0) 9 rfl zddX5_isTurned_0 rfl
def lzddX5_judge_0 : List (Nat × Instr × Nat) := [(0, .aload_n 0, 1), (1, .getfield 43, 3), (4, .iload_n 1, 1), (5, .invokevirtual 121, 3), (8, .istore 4, 2), (10, .iconst 0, 1), (11, .istore 5, 2), (13, .iload 5, 2), (15, .aload_n 0, 1), (16, .getfield 39, 3), (19, .getfield 107, 3), (22, .if_icmp .ge 118, 3), (25, .aload_n 0, 1), (26, .getfield 39, 3), (29, .getfield 112, 3), (32, .iload 5, 2), (34, .iaload, 1), (35, .istore 6, 2), (37, .aload_n 0, 1), (38, .getfield 43, 3)]
theorem zddX5_judge_0 : dqW lzddX5_judge_0 (cX5_judge.data.toList.drop 0) 0 = true := by decide +kernel
theorem dX5_judge_0 : decode cX5_judge 0 = .ok (.aload_n 0, 1) := dq_get (L := lzddX5_judge_0) 0 rfl zddX5_judge_0 rfl
theorem dX5_judge_1 : decode cX5_judge 1 = .ok (.getfield 43, 3) := dq_get (L := lzddX5_judge_0) 1 rfl zddX5_judge_0 rfl
theorem dX5_judge_4 : decode cX5_judge 4 = .ok (.iload_n 1, 1) := dq_get (L := lzddX5_judge_0) 2 rfl zddX5_judge_0 rfl
theorem dX5_judge_5 : decode cX5_judge 5 = .ok (.invokevirtual 121, 3) := dq_get (L := lzddX5_judge_0) 3 rfl zddX5_judge_0 rfl
theorem dX5_judge_8 : decode cX5_judge 8 = .ok (.istore 4, 2) := dq_get (L := lzddX5_judge_0) 4 rfl zddX5_judge_0 rfl
theorem dX5_judge_10 : decode cX5_judge 10 = .ok (.iconst 0, 1) := dq_get (L := lzddX5_judge_0) 5 rfl zddX5_judge_0 rfl
theorem dX5_judge_11 : decode cX5_judge 11 = .ok (.istore 5, 2) := dq_get (L := lzddX5_judge_0) 6 rfl zddX5_judge_0 rfl
theorem dX5_judge_13 : decode cX5_judge 13 = .ok (.iload 5, 2) := dq_get (L := lzddX5_judge_0) 7 rfl zddX5_judge_0 rfl
theorem dX5_judge_15 : decode cX5_judge 15 = .ok (.aload_n 0, 1) := dq_get (L := lzddX5_judge_0) 8 rfl zddX5_judge_0 rfl
theorem dX5_judge_16 : decode cX5_judge 16 = .ok (.getfield 39, 3) := dq_get (L := lzddX5_judge_0) 9 rfl zddX5_judge_0 rfl
theorem dX5_judge_19 : decode cX5_judge 19 = .ok (.getfield 107, 3) := dq_get (L := lzddX5_judge_0) 10 rfl zddX5_judge_0 rfl
theorem dX5_judge_22 : decode cX5_judge 22 = .ok (.if_icmp .ge 118, 3) := dq_get (L := lzddX5_judge_0) 11 rfl zddX5_judge_0 rfl
theorem dX5_judge_25 : decode cX5_judge 25 = .ok (.aload_n 0, 1) := dq_get (L := lzddX5_judge_0) 12 rfl zddX5_judge_0 rfl
theorem dX5_judge_26 : decode cX5_judge 26 = .ok (.getfield 39, 3) := dq_get (L := lzddX5_judge_0) 13 rfl zddX5_judge_0 rfl
theorem dX5_judge_29 : decode cX5_judge 29 = .ok (.getfield 112, 3) := dq_get (L := lzddX5_judge_0) 14 rfl zddX5_judge_0 rfl
theorem dX5_judge_32 : decode cX5_judge 32 = .ok (.iload 5, 2) := dq_get (L := lzddX5_judge_0) 15 rfl zddX5_judge_0 rfl
theorem dX5_judge_34 : decode cX5_judge 34 = .ok (.iaload, 1) := dq_get (L := lzddX5_judge_0) 16 rfl zddX5_judge_0 rfl
theorem dX5_judge_35 : decode cX5_judge 35 = .ok (.istore 6, 2) := dq_get (L := lzddX5_judge_0) 17 rfl zddX5_judge_0 rfl
theorem dX5_judge_37 : decode cX5_judge 37 = .ok (.aload_n 0, 1) := dq_get (L := lzddX5_judge_0) 18 rfl zddX5_judge_0 rfl
theorem dX5_judge_38 : decode cX5_judge 38 = .ok (.getfield 43, 3) := dq_get (L := lzddX5_judge_0) 19 rfl zddX5_judge_0 rfl
def lzddX5_judge_41 : List (Nat × Instr × Nat) := [(41, .getfield 115, 3), (44, .iload_n 1, 1), (45, .iaload, 1), (46, .iload 6, 2), (48, .invokestatic 84, 3), (51, .istore 7, 2), (53, .iload_n 2, 1), (54, .iload 5, 2), (56, .invokestatic 84, 3), (59, .istore 8, 2), (61, .aload_n 0, 1), (62, .getfield 15, 3), (65, .iload 5, 2), (67, .dup2, 1), (68, .iaload, 1), (69, .iload 8, 2), (71, .iload 7, 2), (73, .iand, 1), (74, .iadd, 1), (75, .iastore, 1)]
theorem zddX5_judge_41 : dqW lzddX5_judge_41 (cX5_judge.data.toList.drop 41) 41 = true := by decide +kernel
theorem dX5_judge_41 : decode cX5_judge 41 = .ok (.getfield 115, 3) := dq_get (L := lzddX5_judge_41) 0 rfl zddX5_judge_41 rfl
theorem dX5_judge_44 : decode cX5_judge 44 = .ok (.iload_n 1, 1) := dq_get (L := lzddX5_judge_41) 1 rfl zddX5_judge_41 rfl
theorem dX5_judge_45 : decode cX5_judge 45 = .ok (.iaload, 1) := dq_get (L := lzddX5_judge_41) 2 rfl zddX5_judge_41 rfl
theorem dX5_judge_46 : decode cX5_judge 46 = .ok (.iload 6, 2) := dq_get (L := lzddX5_judge_41) 3 rfl zddX5_judge_41 rfl
theorem dX5_judge_48 : decode cX5_judge 48 = .ok (.invokestatic 84, 3) := dq_get (L := lzddX5_judge_41) 4 rfl zddX5_judge_41 rfl
theorem dX5_judge_51 : decode cX5_judge 51 = .ok (.istore 7, 2) := dq_get (L := lzddX5_judge_41) 5 rfl zddX5_judge_41 rfl
theorem dX5_judge_53 : decode cX5_judge 53 = .ok (.iload_n 2, 1) := dq_get (L := lzddX5_judge_41) 6 rfl zddX5_judge_41 rfl
theorem dX5_judge_54 : decode cX5_judge 54 = .ok (.iload 5, 2) := dq_get (L := lzddX5_judge_41) 7 rfl zddX5_judge_41 rfl
theorem dX5_judge_56 : decode cX5_judge 56 = .ok (.invokestatic 84, 3) := dq_get (L := lzddX5_judge_41) 8 rfl zddX5_judge_41 rfl
theorem dX5_judge_59 : decode cX5_judge 59 = .ok (.istore 8, 2) := dq_get (L := lzddX5_judge_41) 9 rfl zddX5_judge_41 rfl
theorem dX5_judge_61 : decode cX5_judge 61 = .ok (.aload_n 0, 1) := dq_get (L := lzddX5_judge_41) 10 rfl zddX5_judge_41 rfl
theorem dX5_judge_62 : decode cX5_judge 62 = .ok (.getfield 15, 3) := dq_get (L := lzddX5_judge_41) 11 rfl zddX5_judge_41 rfl
theorem dX5_judge_65 : decode cX5_judge 65 = .ok (.iload 5, 2) := dq_get (L := lzddX5_judge_41) 12 rfl zddX5_judge_41 rfl
theorem dX5_judge_67 : decode cX5_judge 67 = .ok (.dup2, 1) := dq_get (L := lzddX5_judge_41) 13 rfl zddX5_judge_41 rfl
theorem dX5_judge_68 : decode cX5_judge 68 = .ok (.iaload, 1) := dq_get (L := lzddX5_judge_41) 14 rfl zddX5_judge_41 rfl
theorem dX5_judge_69 : decode cX5_judge 69 = .ok (.iload 8, 2) := dq_get (L := lzddX5_judge_41) 15 rfl zddX5_judge_41 rfl
theorem dX5_judge_71 : decode cX5_judge 71 = .ok (.iload 7, 2) := dq_get (L := lzddX5_judge_41) 16 rfl zddX5_judge_41 rfl
theorem dX5_judge_73 : decode cX5_judge 73 = .ok (.iand, 1) := dq_get (L := lzddX5_judge_41) 17 rfl zddX5_judge_41 rfl
theorem dX5_judge_74 : decode cX5_judge 74 = .ok (.iadd, 1) := dq_get (L := lzddX5_judge_41) 18 rfl zddX5_judge_41 rfl
theorem dX5_judge_75 : decode cX5_judge 75 = .ok (.iastore, 1) := dq_get (L := lzddX5_judge_41) 19 rfl zddX5_judge_41 rfl
def lzddX5_judge_76 : List (Nat × Instr × Nat) := [(76, .aload_n 0, 1), (77, .getfield 18, 3), (80, .iload 5, 2), (82, .dup2, 1), (83, .iaload, 1), (84, .iload 8, 2), (86, .iload 7, 2), (88, .iconst (-1), 1), (89, .ixor, 1), (90, .iand, 1), (91, .iadd, 1), (92, .iastore, 1), (93, .aload_n 0, 1), (94, .getfield 21, 3), (97, .iload 5, 2), (99, .dup2, 1), (100, .iaload, 1), (101, .iload 7, 2), (103, .iload 8, 2), (105, .iconst (-1), 1)]
theorem zddX5_judge_76 : dqW lzddX5_judge_76 (cX5_judge.data.toList.drop 76) 76 = true := by decide +kernel
theorem dX5_judge_76 : decode cX5_judge 76 = .ok (.aload_n 0, 1) := dq_get (L := lzddX5_judge_76) 0 rfl zddX5_judge_76 rfl
theorem dX5_judge_77 : decode cX5_judge 77 = .ok (.getfield 18, 3) := dq_get (L := lzddX5_judge_76) 1 rfl zddX5_judge_76 rfl
theorem dX5_judge_80 : decode cX5_judge 80 = .ok (.iload 5, 2) := dq_get (L := lzddX5_judge_76) 2 rfl zddX5_judge_76 rfl
theorem dX5_judge_82 : decode cX5_judge 82 = .ok (.dup2, 1) := dq_get (L := lzddX5_judge_76) 3 rfl zddX5_judge_76 rfl
theorem dX5_judge_83 : decode cX5_judge 83 = .ok (.iaload, 1) := dq_get (L := lzddX5_judge_76) 4 rfl zddX5_judge_76 rfl
theorem dX5_judge_84 : decode cX5_judge 84 = .ok (.iload 8, 2) := dq_get (L := lzddX5_judge_76) 5 rfl zddX5_judge_76 rfl
theorem dX5_judge_86 : decode cX5_judge 86 = .ok (.iload 7, 2) := dq_get (L := lzddX5_judge_76) 6 rfl zddX5_judge_76 rfl
theorem dX5_judge_88 : decode cX5_judge 88 = .ok (.iconst (-1), 1) := dq_get (L := lzddX5_judge_76) 7 rfl zddX5_judge_76 rfl
theorem dX5_judge_89 : decode cX5_judge 89 = .ok (.ixor, 1) := dq_get (L := lzddX5_judge_76) 8 rfl zddX5_judge_76 rfl
theorem dX5_judge_90 : decode cX5_judge 90 = .ok (.iand, 1) := dq_get (L := lzddX5_judge_76) 9 rfl zddX5_judge_76 rfl
theorem dX5_judge_91 : decode cX5_judge 91 = .ok (.iadd, 1) := dq_get (L := lzddX5_judge_76) 10 rfl zddX5_judge_76 rfl
theorem dX5_judge_92 : decode cX5_judge 92 = .ok (.iastore, 1) := dq_get (L := lzddX5_judge_76) 11 rfl zddX5_judge_76 rfl
theorem dX5_judge_93 : decode cX5_judge 93 = .ok (.aload_n 0, 1) := dq_get (L := lzddX5_judge_76) 12 rfl zddX5_judge_76 rfl
theorem dX5_judge_94 : decode cX5_judge 94 = .ok (.getfield 21, 3) := dq_get (L := lzddX5_judge_76) 13 rfl zddX5_judge_76 rfl
theorem dX5_judge_97 : decode cX5_judge 97 = .ok (.iload 5, 2) := dq_get (L := lzddX5_judge_76) 14 rfl zddX5_judge_76 rfl
theorem dX5_judge_99 : decode cX5_judge 99 = .ok (.dup2, 1) := dq_get (L := lzddX5_judge_76) 15 rfl zddX5_judge_76 rfl
theorem dX5_judge_100 : decode cX5_judge 100 = .ok (.iaload, 1) := dq_get (L := lzddX5_judge_76) 16 rfl zddX5_judge_76 rfl
theorem dX5_judge_101 : decode cX5_judge 101 = .ok (.iload 7, 2) := dq_get (L := lzddX5_judge_76) 17 rfl zddX5_judge_76 rfl
theorem dX5_judge_103 : decode cX5_judge 103 = .ok (.iload 8, 2) := dq_get (L := lzddX5_judge_76) 18 rfl zddX5_judge_76 rfl
theorem dX5_judge_105 : decode cX5_judge 105 = .ok (.iconst (-1), 1) := dq_get (L := lzddX5_judge_76) 19 rfl zddX5_judge_76 rfl
def lzddX5_judge_106 : List (Nat × Instr × Nat) := [(106, .ixor, 1), (107, .iand, 1), (108, .iadd, 1), (109, .iastore, 1), (110, .aload_n 0, 1), (111, .getfield 24, 3), (114, .iload 5, 2), (116, .dup2, 1), (117, .iaload, 1), (118, .iload_n 3, 1), (119, .iload 5, 2), (121, .invokestatic 84, 3), (124, .iload 4, 2), (126, .iload 6, 2), (128, .invokestatic 84, 3), (131, .iand, 1), (132, .iadd, 1), (133, .iastore, 1), (134, .iinc 5 1, 3), (137, .goto (-124), 3)]
theorem zddX5_judge_106 : dqW lzddX5_judge_106 (cX5_judge.data.toList.drop 106) 106 = true := by decide +kernel
theorem dX5_judge_106 : decode cX5_judge 106 = .ok (.ixor, 1) := dq_get (L := lzddX5_judge_106) 0 rfl zddX5_judge_106 rfl
theorem dX5_judge_107 : decode cX5_judge 107 = .ok (.iand, 1) := dq_get (L := lzddX5_judge_106) 1 rfl zddX5_judge_106 rfl
theorem dX5_judge_108 : decode cX5_judge 108 = .ok (.iadd, 1) := dq_get (L := lzddX5_judge_106) 2 rfl zddX5_judge_106 rfl
theorem dX5_judge_109 : decode cX5_judge 109 = .ok (.iastore, 1) := dq_get (L := lzddX5_judge_106) 3 rfl zddX5_judge_106 rfl
theorem dX5_judge_110 : decode cX5_judge 110 = .ok (.aload_n 0, 1) := dq_get (L := lzddX5_judge_106) 4 rfl zddX5_judge_106 rfl
theorem dX5_judge_111 : decode cX5_judge 111 = .ok (.getfield 24, 3) := dq_get (L := lzddX5_judge_106) 5 rfl zddX5_judge_106 rfl
theorem dX5_judge_114 : decode cX5_judge 114 = .ok (.iload 5, 2) := dq_get (L := lzddX5_judge_106) 6 rfl zddX5_judge_106 rfl
theorem dX5_judge_116 : decode cX5_judge 116 = .ok (.dup2, 1) := dq_get (L := lzddX5_judge_106) 7 rfl zddX5_judge_106 rfl
theorem dX5_judge_117 : decode cX5_judge 117 = .ok (.iaload, 1) := dq_get (L := lzddX5_judge_106) 8 rfl zddX5_judge_106 rfl
theorem dX5_judge_118 : decode cX5_judge 118 = .ok (.iload_n 3, 1) := dq_get (L := lzddX5_judge_106) 9 rfl zddX5_judge_106 rfl
theorem dX5_judge_119 : decode cX5_judge 119 = .ok (.iload 5, 2) := dq_get (L := lzddX5_judge_106) 10 rfl zddX5_judge_106 rfl
theorem dX5_judge_121 : decode cX5_judge 121 = .ok (.invokestatic 84, 3) := dq_get (L := lzddX5_judge_106) 11 rfl zddX5_judge_106 rfl
theorem dX5_judge_124 : decode cX5_judge 124 = .ok (.iload 4, 2) := dq_get (L := lzddX5_judge_106) 12 rfl zddX5_judge_106 rfl
theorem dX5_judge_126 : decode cX5_judge 126 = .ok (.iload 6, 2) := dq_get (L := lzddX5_judge_106) 13 rfl zddX5_judge_106 rfl
theorem dX5_judge_128 : decode cX5_judge 128 = .ok (.invokestatic 84, 3) := dq_get (L := lzddX5_judge_106) 14 rfl zddX5_judge_106 rfl
theorem dX5_judge_131 : decode cX5_judge 131 = .ok (.iand, 1) := dq_get (L := lzddX5_judge_106) 15 rfl zddX5_judge_106 rfl
theorem dX5_judge_132 : decode cX5_judge 132 = .ok (.iadd, 1) := dq_get (L := lzddX5_judge_106) 16 rfl zddX5_judge_106 rfl
theorem dX5_judge_133 : decode cX5_judge 133 = .ok (.iastore, 1) := dq_get (L := lzddX5_judge_106) 17 rfl zddX5_judge_106 rfl
theorem dX5_judge_134 : decode cX5_judge 134 = .ok (.iinc 5 1, 3) := dq_get (L := lzddX5_judge_106) 18 rfl zddX5_judge_106 rfl
theorem dX5_judge_137 : decode cX5_judge 137 = .ok (.goto (-124), 3) := dq_get (L := lzddX5_judge_106) 19 rfl zddX5_judge_106 rfl
def lzddX5_judge_140 : List (Nat × Instr × Nat) := [(140, .return_, 1)]
theorem zddX5_judge_140 : dqW lzddX5_judge_140 (cX5_judge.data.toList.drop 140) 140 = true := by decide +kernel
theorem dX5_judge_140 : decode cX5_judge 140 = .ok (.return_, 1) := dq_get (L := lzddX5_judge_140) 0 rfl zddX5_judge_140 rfl
def lzddX5_liesUp_0 : List (Nat × Instr × Nat) := [(0, .aload_n 0, 1), (1, .getfield 39, 3), (4, .getfield 54, 3), (7, .iload_n 1, 1), (8, .invokestatic 84, 3), (11, .iconst 1, 1), (12, .if_icmp .ne 7, 3), (15, .iconst 1, 1), (16, .goto 4, 3), (19, .iconst 0, 1), (20, .istore_n 3, 1), (21, .iconst 0, 1), (22, .istore 4, 2), (24, .iload 4, 2), (26, .iload_n 2, 1), (27, .if_icmp .gt 19, 3), (30, .iload_n 3, 1), (31, .aload_n 0, 1), (32, .iload_n 1, 1), (33, .iload 4, 2)]
theorem zddX5_liesUp_0 : dqW lzddX5_liesUp_0 (cX5_liesUp.data.toList.drop 0) 0 = true := by decide +kernel
theorem dX5_liesUp_0 : decode cX5_liesUp 0 = .ok (.aload_n 0, 1) := dq_get (L := lzddX5_liesUp_0) 0 rfl zddX5_liesUp_0 rfl
theorem dX5_liesUp_1 : decode cX5_liesUp 1 = .ok (.getfield 39, 3) := dq_get (L := lzddX5_liesUp_0) 1 rfl zddX5_liesUp_0 rfl
theorem dX5_liesUp_4 : decode cX5_liesUp 4 = .ok (.getfield 54, 3) := dq_get (L := lzddX5_liesUp_0) 2 rfl zddX5_liesUp_0 rfl
theorem dX5_liesUp_7 : decode cX5_liesUp 7 = .ok (.iload_n 1, 1) := dq_get (L := lzddX5_liesUp_0) 3 rfl zddX5_liesUp_0 rfl
theorem dX5_liesUp_8 : decode cX5_liesUp 8 = .ok (.invokestatic 84, 3) := dq_get (L := lzddX5_liesUp_0) 4 rfl zddX5_liesUp_0 rfl
theorem dX5_liesUp_11 : decode cX5_liesUp 11 = .ok (.iconst 1, 1) := dq_get (L := lzddX5_liesUp_0) 5 rfl zddX5_liesUp_0 rfl
theorem dX5_liesUp_12 : decode cX5_liesUp 12 = .ok (.if_icmp .ne 7, 3) := dq_get (L := lzddX5_liesUp_0) 6 rfl zddX5_liesUp_0 rfl
theorem dX5_liesUp_15 : decode cX5_liesUp 15 = .ok (.iconst 1, 1) := dq_get (L := lzddX5_liesUp_0) 7 rfl zddX5_liesUp_0 rfl
theorem dX5_liesUp_16 : decode cX5_liesUp 16 = .ok (.goto 4, 3) := dq_get (L := lzddX5_liesUp_0) 8 rfl zddX5_liesUp_0 rfl
theorem dX5_liesUp_19 : decode cX5_liesUp 19 = .ok (.iconst 0, 1) := dq_get (L := lzddX5_liesUp_0) 9 rfl zddX5_liesUp_0 rfl
theorem dX5_liesUp_20 : decode cX5_liesUp 20 = .ok (.istore_n 3, 1) := dq_get (L := lzddX5_liesUp_0) 10 rfl zddX5_liesUp_0 rfl
theorem dX5_liesUp_21 : decode cX5_liesUp 21 = .ok (.iconst 0, 1) := dq_get (L := lzddX5_liesUp_0) 11 rfl zddX5_liesUp_0 rfl
theorem dX5_liesUp_22 : decode cX5_liesUp 22 = .ok (.istore 4, 2) := dq_get (L := lzddX5_liesUp_0) 12 rfl zddX5_liesUp_0 rfl
theorem dX5_liesUp_24 : decode cX5_liesUp 24 = .ok (.iload 4, 2) := dq_get (L := lzddX5_liesUp_0) 13 rfl zddX5_liesUp_0 rfl
theorem dX5_liesUp_26 : decode cX5_liesUp 26 = .ok (.iload_n 2, 1) := dq_get (L := lzddX5_liesUp_0) 14 rfl zddX5_liesUp_0 rfl
theorem dX5_liesUp_27 : decode cX5_liesUp 27 = .ok (.if_icmp .gt 19, 3) := dq_get (L := lzddX5_liesUp_0) 15 rfl zddX5_liesUp_0 rfl
theorem dX5_liesUp_30 : decode cX5_liesUp 30 = .ok (.iload_n 3, 1) := dq_get (L := lzddX5_liesUp_0) 16 rfl zddX5_liesUp_0 rfl
theorem dX5_liesUp_31 : decode cX5_liesUp 31 = .ok (.aload_n 0, 1) := dq_get (L := lzddX5_liesUp_0) 17 rfl zddX5_liesUp_0 rfl
theorem dX5_liesUp_32 : decode cX5_liesUp 32 = .ok (.iload_n 1, 1) := dq_get (L := lzddX5_liesUp_0) 18 rfl zddX5_liesUp_0 rfl
theorem dX5_liesUp_33 : decode cX5_liesUp 33 = .ok (.iload 4, 2) := dq_get (L := lzddX5_liesUp_0) 19 rfl zddX5_liesUp_0 rfl
def lzddX5_liesUp_35 : List (Nat × Instr × Nat) := [(35, .invokevirtual 180, 3), (38, .ixor, 1), (39, .istore_n 3, 1), (40, .iinc 4 1, 3), (43, .goto (-19), 3), (46, .iload_n 3, 1), (47, .ireturn, 1)]
theorem zddX5_liesUp_35 : dqW lzddX5_liesUp_35 (cX5_liesUp.data.toList.drop 35) 35 = true := by decide +kernel
theorem dX5_liesUp_35 : decode cX5_liesUp 35 = .ok (.invokevirtual 180, 3) := dq_get (L := lzddX5_liesUp_35) 0 rfl zddX5_liesUp_35 rfl
theorem dX5_liesUp_38 : decode cX5_liesUp 38 = .ok (.ixor, 1) := dq_get (L := lzddX5_liesUp_35) 1 rfl zddX5_liesUp_35 rfl
theorem dX5_liesUp_39 : decode cX5_liesUp 39 = .ok (.istore_n 3, 1) := dq_get (L := lzddX5_liesUp_35) 2 rfl zddX5_liesUp_35 rfl
theorem dX5_liesUp_40 : decode cX5_liesUp 40 = .ok (.iinc 4 1, 3) := dq_get (L := lzddX5_liesUp_35) 3 rfl zddX5_liesUp_35 rfl
theorem dX5_liesUp_43 : decode cX5_liesUp 43 = .ok (.goto (-19), 3) := dq_get (L := lzddX5_liesUp_35) 4 rfl zddX5_liesUp_35 rfl
theorem dX5_liesUp_46 : decode cX5_liesUp 46 = .ok (.iload_n 3, 1) := dq_get (L := lzddX5_liesUp_35) 5 rfl zddX5_liesUp_35 rfl
theorem dX5_liesUp_47 : decode cX5_liesUp 47 = .ok (.ireturn, 1) := dq_get (L := lzddX5_liesUp_35) 6 rfl zddX5_liesUp_35 rfl
def lzddX5_minuteOfVein_0 : List (Nat × Instr × Nat) := [(0, .iconst 0, 1), (1, .istore_n 3, 1), (2, .iconst 0, 1), (3, .istore 4, 2), (5, .iload 4, 2), (7, .aload_n 0, 1), (8, .getfield 39, 3), (11, .getfield 174, 3), (14, .if_icmp .ge 30, 3), (17, .aload_n 0, 1), (18, .iload_n 1, 1), (19, .iload 4, 2), (21, .invokevirtual 180, 3), (24, .ifCond .eq 14, 3), (27, .iload_n 3, 1), (28, .iload_n 2, 1), (29, .if_icmp .ne 6, 3), (32, .iload 4, 2), (34, .ireturn, 1), (35, .iinc 3 1, 3)]
theorem zddX5_minuteOfVein_0 : dqW lzddX5_minuteOfVein_0 (cX5_minuteOfVein.data.toList.drop 0) 0 = true := by decide +kernel
theorem dX5_minuteOfVein_0 : decode cX5_minuteOfVein 0 = .ok (.iconst 0, 1) := dq_get (L := lzddX5_minuteOfVein_0) 0 rfl zddX5_minuteOfVein_0 rfl
theorem dX5_minuteOfVein_1 : decode cX5_minuteOfVein 1 = .ok (.istore_n 3, 1) := dq_get (L := lzddX5_minuteOfVein_0) 1 rfl zddX5_minuteOfVein_0 rfl
theorem dX5_minuteOfVein_2 : decode cX5_minuteOfVein 2 = .ok (.iconst 0, 1) := dq_get (L := lzddX5_minuteOfVein_0) 2 rfl zddX5_minuteOfVein_0 rfl
theorem dX5_minuteOfVein_3 : decode cX5_minuteOfVein 3 = .ok (.istore 4, 2) := dq_get (L := lzddX5_minuteOfVein_0) 3 rfl zddX5_minuteOfVein_0 rfl
theorem dX5_minuteOfVein_5 : decode cX5_minuteOfVein 5 = .ok (.iload 4, 2) := dq_get (L := lzddX5_minuteOfVein_0) 4 rfl zddX5_minuteOfVein_0 rfl
theorem dX5_minuteOfVein_7 : decode cX5_minuteOfVein 7 = .ok (.aload_n 0, 1) := dq_get (L := lzddX5_minuteOfVein_0) 5 rfl zddX5_minuteOfVein_0 rfl
theorem dX5_minuteOfVein_8 : decode cX5_minuteOfVein 8 = .ok (.getfield 39, 3) := dq_get (L := lzddX5_minuteOfVein_0) 6 rfl zddX5_minuteOfVein_0 rfl
theorem dX5_minuteOfVein_11 : decode cX5_minuteOfVein 11 = .ok (.getfield 174, 3) := dq_get (L := lzddX5_minuteOfVein_0) 7 rfl zddX5_minuteOfVein_0 rfl
theorem dX5_minuteOfVein_14 : decode cX5_minuteOfVein 14 = .ok (.if_icmp .ge 30, 3) := dq_get (L := lzddX5_minuteOfVein_0) 8 rfl zddX5_minuteOfVein_0 rfl
theorem dX5_minuteOfVein_17 : decode cX5_minuteOfVein 17 = .ok (.aload_n 0, 1) := dq_get (L := lzddX5_minuteOfVein_0) 9 rfl zddX5_minuteOfVein_0 rfl
theorem dX5_minuteOfVein_18 : decode cX5_minuteOfVein 18 = .ok (.iload_n 1, 1) := dq_get (L := lzddX5_minuteOfVein_0) 10 rfl zddX5_minuteOfVein_0 rfl
theorem dX5_minuteOfVein_19 : decode cX5_minuteOfVein 19 = .ok (.iload 4, 2) := dq_get (L := lzddX5_minuteOfVein_0) 11 rfl zddX5_minuteOfVein_0 rfl
theorem dX5_minuteOfVein_21 : decode cX5_minuteOfVein 21 = .ok (.invokevirtual 180, 3) := dq_get (L := lzddX5_minuteOfVein_0) 12 rfl zddX5_minuteOfVein_0 rfl
theorem dX5_minuteOfVein_24 : decode cX5_minuteOfVein 24 = .ok (.ifCond .eq 14, 3) := dq_get (L := lzddX5_minuteOfVein_0) 13 rfl zddX5_minuteOfVein_0 rfl
theorem dX5_minuteOfVein_27 : decode cX5_minuteOfVein 27 = .ok (.iload_n 3, 1) := dq_get (L := lzddX5_minuteOfVein_0) 14 rfl zddX5_minuteOfVein_0 rfl
theorem dX5_minuteOfVein_28 : decode cX5_minuteOfVein 28 = .ok (.iload_n 2, 1) := dq_get (L := lzddX5_minuteOfVein_0) 15 rfl zddX5_minuteOfVein_0 rfl
theorem dX5_minuteOfVein_29 : decode cX5_minuteOfVein 29 = .ok (.if_icmp .ne 6, 3) := dq_get (L := lzddX5_minuteOfVein_0) 16 rfl zddX5_minuteOfVein_0 rfl
theorem dX5_minuteOfVein_32 : decode cX5_minuteOfVein 32 = .ok (.iload 4, 2) := dq_get (L := lzddX5_minuteOfVein_0) 17 rfl zddX5_minuteOfVein_0 rfl
theorem dX5_minuteOfVein_34 : decode cX5_minuteOfVein 34 = .ok (.ireturn, 1) := dq_get (L := lzddX5_minuteOfVein_0) 18 rfl zddX5_minuteOfVein_0 rfl
theorem dX5_minuteOfVein_35 : decode cX5_minuteOfVein 35 = .ok (.iinc 3 1, 3) := dq_get (L := lzddX5_minuteOfVein_0) 19 rfl zddX5_minuteOfVein_0 rfl
def lzddX5_minuteOfVein_38 : List (Nat × Instr × Nat) := [(38, .iinc 4 1, 3), (41, .goto (-36), 3), (44, .iconst (-1), 1), (45, .ireturn, 1)]
theorem zddX5_minuteOfVein_38 : dqW lzddX5_minuteOfVein_38 (cX5_minuteOfVein.data.toList.drop 38) 38 = true := by decide +kernel
theorem dX5_minuteOfVein_38 : decode cX5_minuteOfVein 38 = .ok (.iinc 4 1, 3) := dq_get (L := lzddX5_minuteOfVein_38) 0 rfl zddX5_minuteOfVein_38 rfl
theorem dX5_minuteOfVein_41 : decode cX5_minuteOfVein 41 = .ok (.goto (-36), 3) := dq_get (L := lzddX5_minuteOfVein_38) 1 rfl zddX5_minuteOfVein_38 rfl
theorem dX5_minuteOfVein_44 : decode cX5_minuteOfVein 44 = .ok (.iconst (-1), 1) := dq_get (L := lzddX5_minuteOfVein_38) 2 rfl zddX5_minuteOfVein_38 rfl
theorem dX5_minuteOfVein_45 : decode cX5_minuteOfVein 45 = .ok (.ireturn, 1) := dq_get (L := lzddX5_minuteOfVein_38) 3 rfl zddX5_minuteOfVein_38 rfl
def lzddX5_minutesAwake_0 : List (Nat × Instr × Nat) := [(0, .iconst 0, 1), (1, .istore_n 2, 1), (2, .iconst 0, 1), (3, .istore_n 3, 1), (4, .iload_n 3, 1), (5, .aload_n 0, 1), (6, .getfield 39, 3), (9, .getfield 174, 3), (12, .if_icmp .ge 21, 3), (15, .aload_n 0, 1), (16, .iload_n 1, 1), (17, .iload_n 3, 1), (18, .invokevirtual 99, 3), (21, .ifCond .eq 6, 3), (24, .iinc 2 1, 3), (27, .iinc 3 1, 3), (30, .goto (-26), 3), (33, .iload_n 2, 1), (34, .ireturn, 1)]
theorem zddX5_minutesAwake_0 : dqW lzddX5_minutesAwake_0 (cX5_minutesAwake.data.toList.drop 0) 0 = true := by decide +kernel
theorem dX5_minutesAwake_0 : decode cX5_minutesAwake 0 = .ok (.iconst 0, 1) := dq_get (L := lzddX5_minutesAwake_0) 0 rfl zddX5_minutesAwake_0 rfl
theorem dX5_minutesAwake_1 : decode cX5_minutesAwake 1 = .ok (.istore_n 2, 1) := dq_get (L := lzddX5_minutesAwake_0) 1 rfl zddX5_minutesAwake_0 rfl
theorem dX5_minutesAwake_2 : decode cX5_minutesAwake 2 = .ok (.iconst 0, 1) := dq_get (L := lzddX5_minutesAwake_0) 2 rfl zddX5_minutesAwake_0 rfl
theorem dX5_minutesAwake_3 : decode cX5_minutesAwake 3 = .ok (.istore_n 3, 1) := dq_get (L := lzddX5_minutesAwake_0) 3 rfl zddX5_minutesAwake_0 rfl
theorem dX5_minutesAwake_4 : decode cX5_minutesAwake 4 = .ok (.iload_n 3, 1) := dq_get (L := lzddX5_minutesAwake_0) 4 rfl zddX5_minutesAwake_0 rfl
theorem dX5_minutesAwake_5 : decode cX5_minutesAwake 5 = .ok (.aload_n 0, 1) := dq_get (L := lzddX5_minutesAwake_0) 5 rfl zddX5_minutesAwake_0 rfl
theorem dX5_minutesAwake_6 : decode cX5_minutesAwake 6 = .ok (.getfield 39, 3) := dq_get (L := lzddX5_minutesAwake_0) 6 rfl zddX5_minutesAwake_0 rfl
theorem dX5_minutesAwake_9 : decode cX5_minutesAwake 9 = .ok (.getfield 174, 3) := dq_get (L := lzddX5_minutesAwake_0) 7 rfl zddX5_minutesAwake_0 rfl
theorem dX5_minutesAwake_12 : decode cX5_minutesAwake 12 = .ok (.if_icmp .ge 21, 3) := dq_get (L := lzddX5_minutesAwake_0) 8 rfl zddX5_minutesAwake_0 rfl
theorem dX5_minutesAwake_15 : decode cX5_minutesAwake 15 = .ok (.aload_n 0, 1) := dq_get (L := lzddX5_minutesAwake_0) 9 rfl zddX5_minutesAwake_0 rfl
theorem dX5_minutesAwake_16 : decode cX5_minutesAwake 16 = .ok (.iload_n 1, 1) := dq_get (L := lzddX5_minutesAwake_0) 10 rfl zddX5_minutesAwake_0 rfl
theorem dX5_minutesAwake_17 : decode cX5_minutesAwake 17 = .ok (.iload_n 3, 1) := dq_get (L := lzddX5_minutesAwake_0) 11 rfl zddX5_minutesAwake_0 rfl
theorem dX5_minutesAwake_18 : decode cX5_minutesAwake 18 = .ok (.invokevirtual 99, 3) := dq_get (L := lzddX5_minutesAwake_0) 12 rfl zddX5_minutesAwake_0 rfl
theorem dX5_minutesAwake_21 : decode cX5_minutesAwake 21 = .ok (.ifCond .eq 6, 3) := dq_get (L := lzddX5_minutesAwake_0) 13 rfl zddX5_minutesAwake_0 rfl
theorem dX5_minutesAwake_24 : decode cX5_minutesAwake 24 = .ok (.iinc 2 1, 3) := dq_get (L := lzddX5_minutesAwake_0) 14 rfl zddX5_minutesAwake_0 rfl
theorem dX5_minutesAwake_27 : decode cX5_minutesAwake 27 = .ok (.iinc 3 1, 3) := dq_get (L := lzddX5_minutesAwake_0) 15 rfl zddX5_minutesAwake_0 rfl
theorem dX5_minutesAwake_30 : decode cX5_minutesAwake 30 = .ok (.goto (-26), 3) := dq_get (L := lzddX5_minutesAwake_0) 16 rfl zddX5_minutesAwake_0 rfl
theorem dX5_minutesAwake_33 : decode cX5_minutesAwake 33 = .ok (.iload_n 2, 1) := dq_get (L := lzddX5_minutesAwake_0) 17 rfl zddX5_minutesAwake_0 rfl
theorem dX5_minutesAwake_34 : decode cX5_minutesAwake 34 = .ok (.ireturn, 1) := dq_get (L := lzddX5_minutesAwake_0) 18 rfl zddX5_minutesAwake_0 rfl
def lzddX5_missesAny_0 : List (Nat × Instr × Nat) := [(0, .iconst 0, 1), (1, .istore_n 1, 1), (2, .iload_n 1, 1), (3, .aload_n 0, 1), (4, .getfield 39, 3), (7, .getfield 107, 3), (10, .if_icmp .ge 20, 3), (13, .aload_n 0, 1), (14, .getfield 21, 3), (17, .iload_n 1, 1), (18, .iaload, 1), (19, .ifCond .le 5, 3), (22, .iconst 1, 1), (23, .ireturn, 1), (24, .iinc 1 1, 3), (27, .goto (-25), 3), (30, .iconst 0, 1), (31, .ireturn, 1)]
theorem zddX5_missesAny_0 : dqW lzddX5_missesAny_0 (cX5_missesAny.data.toList.drop 0) 0 = true := by decide +kernel
theorem dX5_missesAny_0 : decode cX5_missesAny 0 = .ok (.iconst 0, 1) := dq_get (L := lzddX5_missesAny_0) 0 rfl zddX5_missesAny_0 rfl
theorem dX5_missesAny_1 : decode cX5_missesAny 1 = .ok (.istore_n 1, 1) := dq_get (L := lzddX5_missesAny_0) 1 rfl zddX5_missesAny_0 rfl
theorem dX5_missesAny_2 : decode cX5_missesAny 2 = .ok (.iload_n 1, 1) := dq_get (L := lzddX5_missesAny_0) 2 rfl zddX5_missesAny_0 rfl
theorem dX5_missesAny_3 : decode cX5_missesAny 3 = .ok (.aload_n 0, 1) := dq_get (L := lzddX5_missesAny_0) 3 rfl zddX5_missesAny_0 rfl
theorem dX5_missesAny_4 : decode cX5_missesAny 4 = .ok (.getfield 39, 3) := dq_get (L := lzddX5_missesAny_0) 4 rfl zddX5_missesAny_0 rfl
theorem dX5_missesAny_7 : decode cX5_missesAny 7 = .ok (.getfield 107, 3) := dq_get (L := lzddX5_missesAny_0) 5 rfl zddX5_missesAny_0 rfl
theorem dX5_missesAny_10 : decode cX5_missesAny 10 = .ok (.if_icmp .ge 20, 3) := dq_get (L := lzddX5_missesAny_0) 6 rfl zddX5_missesAny_0 rfl
theorem dX5_missesAny_13 : decode cX5_missesAny 13 = .ok (.aload_n 0, 1) := dq_get (L := lzddX5_missesAny_0) 7 rfl zddX5_missesAny_0 rfl
theorem dX5_missesAny_14 : decode cX5_missesAny 14 = .ok (.getfield 21, 3) := dq_get (L := lzddX5_missesAny_0) 8 rfl zddX5_missesAny_0 rfl
theorem dX5_missesAny_17 : decode cX5_missesAny 17 = .ok (.iload_n 1, 1) := dq_get (L := lzddX5_missesAny_0) 9 rfl zddX5_missesAny_0 rfl
theorem dX5_missesAny_18 : decode cX5_missesAny 18 = .ok (.iaload, 1) := dq_get (L := lzddX5_missesAny_0) 10 rfl zddX5_missesAny_0 rfl
theorem dX5_missesAny_19 : decode cX5_missesAny 19 = .ok (.ifCond .le 5, 3) := dq_get (L := lzddX5_missesAny_0) 11 rfl zddX5_missesAny_0 rfl
theorem dX5_missesAny_22 : decode cX5_missesAny 22 = .ok (.iconst 1, 1) := dq_get (L := lzddX5_missesAny_0) 12 rfl zddX5_missesAny_0 rfl
theorem dX5_missesAny_23 : decode cX5_missesAny 23 = .ok (.ireturn, 1) := dq_get (L := lzddX5_missesAny_0) 13 rfl zddX5_missesAny_0 rfl
theorem dX5_missesAny_24 : decode cX5_missesAny 24 = .ok (.iinc 1 1, 3) := dq_get (L := lzddX5_missesAny_0) 14 rfl zddX5_missesAny_0 rfl
theorem dX5_missesAny_27 : decode cX5_missesAny 27 = .ok (.goto (-25), 3) := dq_get (L := lzddX5_missesAny_0) 15 rfl zddX5_missesAny_0 rfl
theorem dX5_missesAny_30 : decode cX5_missesAny 30 = .ok (.iconst 0, 1) := dq_get (L := lzddX5_missesAny_0) 16 rfl zddX5_missesAny_0 rfl
theorem dX5_missesAny_31 : decode cX5_missesAny 31 = .ok (.ireturn, 1) := dq_get (L := lzddX5_missesAny_0) 17 rfl zddX5_missesAny_0 rfl
def lzddX5_noticedHuts_0 : List (Nat × Instr × Nat) := [(0, .aload_n 0, 1), (1, .getfield 39, 3), (4, .getfield 90, 3), (7, .iload_n 1, 1), (8, .aaload, 1), (9, .getfield 131, 3)]
theorem zddX5_noticedHuts_0 : dqW lzddX5_noticedHuts_0 (cX5_noticedHuts.data.toList.drop 0) 0 = true := by decide +kernel
theorem dX5_noticedHuts_0 : decode cX5_noticedHuts 0 = .ok (.aload_n 0, 1) := dq_get (L := lzddX5_noticedHuts_0) 0 rfl zddX5_noticedHuts_0 rfl
theorem dX5_noticedHuts_1 : decode cX5_noticedHuts 1 = .ok (.getfield 39, 3) := dq_get (L := lzddX5_noticedHuts_0) 1 rfl zddX5_noticedHuts_0 rfl
theorem dX5_noticedHuts_4 : decode cX5_noticedHuts 4 = .ok (.getfield 90, 3) := dq_get (L := lzddX5_noticedHuts_0) 2 rfl zddX5_noticedHuts_0 rfl
theorem dX5_noticedHuts_7 : decode cX5_noticedHuts 7 = .ok (.iload_n 1, 1) := dq_get (L := lzddX5_noticedHuts_0) 3 rfl zddX5_noticedHuts_0 rfl
theorem dX5_noticedHuts_8 : decode cX5_noticedHuts 8 = .ok (.aaload, 1) := dq_get (L := lzddX5_noticedHuts_0) 4 rfl zddX5_noticedHuts_0 rfl
theorem dX5_noticedHuts_9 : decode cX5_noticedHuts 9 = .ok (.getfield 131, 3) := dq_get (L := lzddX5_noticedHuts_0) 5 rfl zddX5_noticedHuts_0 rfl
theorem dX5_noticedHuts_12 : decode cX5_noticedHuts 12 = .ok (.lookupswitch 64 #[(1, 28), (3, 38)], 28) := by decide +kernel
def lzddX5_noticedHuts_40 : List (Nat × Instr × Nat) := [(40, .aload_n 0, 1), (41, .getfield 43, 3), (44, .getfield 115, 3), (47, .iload_n 2, 1), (48, .iaload, 1), (49, .ireturn, 1), (50, .aload_n 0, 1), (51, .getfield 39, 3), (54, .getfield 158, 3), (57, .iload_n 2, 1), (58, .invokevirtual 162, 3), (61, .ifCond .eq 13, 3), (64, .aload_n 0, 1), (65, .getfield 43, 3), (68, .getfield 168, 3), (71, .goto 4, 3), (74, .iconst 0, 1), (75, .ireturn, 1), (76, .aload_n 0, 1), (77, .getfield 43, 3)]
theorem zddX5_noticedHuts_40 : dqW lzddX5_noticedHuts_40 (cX5_noticedHuts.data.toList.drop 40) 40 = true := by decide +kernel
theorem dX5_noticedHuts_40 : decode cX5_noticedHuts 40 = .ok (.aload_n 0, 1) := dq_get (L := lzddX5_noticedHuts_40) 0 rfl zddX5_noticedHuts_40 rfl
theorem dX5_noticedHuts_41 : decode cX5_noticedHuts 41 = .ok (.getfield 43, 3) := dq_get (L := lzddX5_noticedHuts_40) 1 rfl zddX5_noticedHuts_40 rfl
theorem dX5_noticedHuts_44 : decode cX5_noticedHuts 44 = .ok (.getfield 115, 3) := dq_get (L := lzddX5_noticedHuts_40) 2 rfl zddX5_noticedHuts_40 rfl
theorem dX5_noticedHuts_47 : decode cX5_noticedHuts 47 = .ok (.iload_n 2, 1) := dq_get (L := lzddX5_noticedHuts_40) 3 rfl zddX5_noticedHuts_40 rfl
theorem dX5_noticedHuts_48 : decode cX5_noticedHuts 48 = .ok (.iaload, 1) := dq_get (L := lzddX5_noticedHuts_40) 4 rfl zddX5_noticedHuts_40 rfl
theorem dX5_noticedHuts_49 : decode cX5_noticedHuts 49 = .ok (.ireturn, 1) := dq_get (L := lzddX5_noticedHuts_40) 5 rfl zddX5_noticedHuts_40 rfl
theorem dX5_noticedHuts_50 : decode cX5_noticedHuts 50 = .ok (.aload_n 0, 1) := dq_get (L := lzddX5_noticedHuts_40) 6 rfl zddX5_noticedHuts_40 rfl
theorem dX5_noticedHuts_51 : decode cX5_noticedHuts 51 = .ok (.getfield 39, 3) := dq_get (L := lzddX5_noticedHuts_40) 7 rfl zddX5_noticedHuts_40 rfl
theorem dX5_noticedHuts_54 : decode cX5_noticedHuts 54 = .ok (.getfield 158, 3) := dq_get (L := lzddX5_noticedHuts_40) 8 rfl zddX5_noticedHuts_40 rfl
theorem dX5_noticedHuts_57 : decode cX5_noticedHuts 57 = .ok (.iload_n 2, 1) := dq_get (L := lzddX5_noticedHuts_40) 9 rfl zddX5_noticedHuts_40 rfl
theorem dX5_noticedHuts_58 : decode cX5_noticedHuts 58 = .ok (.invokevirtual 162, 3) := dq_get (L := lzddX5_noticedHuts_40) 10 rfl zddX5_noticedHuts_40 rfl
theorem dX5_noticedHuts_61 : decode cX5_noticedHuts 61 = .ok (.ifCond .eq 13, 3) := dq_get (L := lzddX5_noticedHuts_40) 11 rfl zddX5_noticedHuts_40 rfl
theorem dX5_noticedHuts_64 : decode cX5_noticedHuts 64 = .ok (.aload_n 0, 1) := dq_get (L := lzddX5_noticedHuts_40) 12 rfl zddX5_noticedHuts_40 rfl
theorem dX5_noticedHuts_65 : decode cX5_noticedHuts 65 = .ok (.getfield 43, 3) := dq_get (L := lzddX5_noticedHuts_40) 13 rfl zddX5_noticedHuts_40 rfl
theorem dX5_noticedHuts_68 : decode cX5_noticedHuts 68 = .ok (.getfield 168, 3) := dq_get (L := lzddX5_noticedHuts_40) 14 rfl zddX5_noticedHuts_40 rfl
theorem dX5_noticedHuts_71 : decode cX5_noticedHuts 71 = .ok (.goto 4, 3) := dq_get (L := lzddX5_noticedHuts_40) 15 rfl zddX5_noticedHuts_40 rfl
theorem dX5_noticedHuts_74 : decode cX5_noticedHuts 74 = .ok (.iconst 0, 1) := dq_get (L := lzddX5_noticedHuts_40) 16 rfl zddX5_noticedHuts_40 rfl
theorem dX5_noticedHuts_75 : decode cX5_noticedHuts 75 = .ok (.ireturn, 1) := dq_get (L := lzddX5_noticedHuts_40) 17 rfl zddX5_noticedHuts_40 rfl
theorem dX5_noticedHuts_76 : decode cX5_noticedHuts 76 = .ok (.aload_n 0, 1) := dq_get (L := lzddX5_noticedHuts_40) 18 rfl zddX5_noticedHuts_40 rfl
theorem dX5_noticedHuts_77 : decode cX5_noticedHuts 77 = .ok (.getfield 43, 3) := dq_get (L := lzddX5_noticedHuts_40) 19 rfl zddX5_noticedHuts_40 rfl
def lzddX5_noticedHuts_80 : List (Nat × Instr × Nat) := [(80, .getfield 171, 3), (83, .iload_n 2, 1), (84, .iaload, 1), (85, .ireturn, 1)]
theorem zddX5_noticedHuts_80 : dqW lzddX5_noticedHuts_80 (cX5_noticedHuts.data.toList.drop 80) 80 = true := by decide +kernel
theorem dX5_noticedHuts_80 : decode cX5_noticedHuts 80 = .ok (.getfield 171, 3) := dq_get (L := lzddX5_noticedHuts_80) 0 rfl zddX5_noticedHuts_80 rfl
theorem dX5_noticedHuts_83 : decode cX5_noticedHuts 83 = .ok (.iload_n 2, 1) := dq_get (L := lzddX5_noticedHuts_80) 1 rfl zddX5_noticedHuts_80 rfl
theorem dX5_noticedHuts_84 : decode cX5_noticedHuts 84 = .ok (.iaload, 1) := dq_get (L := lzddX5_noticedHuts_80) 2 rfl zddX5_noticedHuts_80 rfl
theorem dX5_noticedHuts_85 : decode cX5_noticedHuts 85 = .ok (.ireturn, 1) := dq_get (L := lzddX5_noticedHuts_80) 3 rfl zddX5_noticedHuts_80 rfl
def lzddX5_play_0 : List (Nat × Instr × Nat) := [(0, .aload_n 0, 1), (1, .aload_n 1, 1), (2, .putfield 39, 3), (5, .aload_n 0, 1), (6, .aload_n 2, 1), (7, .putfield 43, 3), (10, .aload_n 0, 1), (11, .iload_n 3, 1), (12, .putfield 47, 3), (15, .aload_n 0, 1), (16, .invokevirtual 51, 3), (19, .aload_n 0, 1), (20, .getfield 39, 3), (23, .getfield 54, 3), (26, .istore 5, 2), (28, .iconst 0, 1), (29, .istore 6, 2), (31, .iload 6, 2), (33, .aload_n 0, 1), (34, .getfield 43, 3)]
theorem zddX5_play_0 : dqW lzddX5_play_0 (cX5_play.data.toList.drop 0) 0 = true := by decide +kernel
theorem dX5_play_0 : decode cX5_play 0 = .ok (.aload_n 0, 1) := dq_get (L := lzddX5_play_0) 0 rfl zddX5_play_0 rfl
theorem dX5_play_1 : decode cX5_play 1 = .ok (.aload_n 1, 1) := dq_get (L := lzddX5_play_0) 1 rfl zddX5_play_0 rfl
theorem dX5_play_2 : decode cX5_play 2 = .ok (.putfield 39, 3) := dq_get (L := lzddX5_play_0) 2 rfl zddX5_play_0 rfl
theorem dX5_play_5 : decode cX5_play 5 = .ok (.aload_n 0, 1) := dq_get (L := lzddX5_play_0) 3 rfl zddX5_play_0 rfl
theorem dX5_play_6 : decode cX5_play 6 = .ok (.aload_n 2, 1) := dq_get (L := lzddX5_play_0) 4 rfl zddX5_play_0 rfl
theorem dX5_play_7 : decode cX5_play 7 = .ok (.putfield 43, 3) := dq_get (L := lzddX5_play_0) 5 rfl zddX5_play_0 rfl
theorem dX5_play_10 : decode cX5_play 10 = .ok (.aload_n 0, 1) := dq_get (L := lzddX5_play_0) 6 rfl zddX5_play_0 rfl
theorem dX5_play_11 : decode cX5_play 11 = .ok (.iload_n 3, 1) := dq_get (L := lzddX5_play_0) 7 rfl zddX5_play_0 rfl
theorem dX5_play_12 : decode cX5_play 12 = .ok (.putfield 47, 3) := dq_get (L := lzddX5_play_0) 8 rfl zddX5_play_0 rfl
theorem dX5_play_15 : decode cX5_play 15 = .ok (.aload_n 0, 1) := dq_get (L := lzddX5_play_0) 9 rfl zddX5_play_0 rfl
theorem dX5_play_16 : decode cX5_play 16 = .ok (.invokevirtual 51, 3) := dq_get (L := lzddX5_play_0) 10 rfl zddX5_play_0 rfl
theorem dX5_play_19 : decode cX5_play 19 = .ok (.aload_n 0, 1) := dq_get (L := lzddX5_play_0) 11 rfl zddX5_play_0 rfl
theorem dX5_play_20 : decode cX5_play 20 = .ok (.getfield 39, 3) := dq_get (L := lzddX5_play_0) 12 rfl zddX5_play_0 rfl
theorem dX5_play_23 : decode cX5_play 23 = .ok (.getfield 54, 3) := dq_get (L := lzddX5_play_0) 13 rfl zddX5_play_0 rfl
theorem dX5_play_26 : decode cX5_play 26 = .ok (.istore 5, 2) := dq_get (L := lzddX5_play_0) 14 rfl zddX5_play_0 rfl
theorem dX5_play_28 : decode cX5_play 28 = .ok (.iconst 0, 1) := dq_get (L := lzddX5_play_0) 15 rfl zddX5_play_0 rfl
theorem dX5_play_29 : decode cX5_play 29 = .ok (.istore 6, 2) := dq_get (L := lzddX5_play_0) 16 rfl zddX5_play_0 rfl
theorem dX5_play_31 : decode cX5_play 31 = .ok (.iload 6, 2) := dq_get (L := lzddX5_play_0) 17 rfl zddX5_play_0 rfl
theorem dX5_play_33 : decode cX5_play 33 = .ok (.aload_n 0, 1) := dq_get (L := lzddX5_play_0) 18 rfl zddX5_play_0 rfl
theorem dX5_play_34 : decode cX5_play 34 = .ok (.getfield 43, 3) := dq_get (L := lzddX5_play_0) 19 rfl zddX5_play_0 rfl
def lzddX5_play_37 : List (Nat × Instr × Nat) := [(37, .getfield 59, 3), (40, .if_icmp .ge 57, 3), (43, .aload_n 0, 1), (44, .getfield 43, 3), (47, .getfield 64, 3), (50, .iload 6, 2), (52, .iaload, 1), (53, .istore 7, 2), (55, .iload 7, 2), (57, .ifCond .ne 7, 3), (60, .iconst 0, 1), (61, .goto 11, 3), (64, .aload_n 0, 1), (65, .iload 7, 2), (67, .iload 4, 2), (69, .invokevirtual 67, 3), (72, .istore 8, 2), (74, .iload 5, 2), (76, .iload 8, 2), (78, .ixor, 1)]
theorem zddX5_play_37 : dqW lzddX5_play_37 (cX5_play.data.toList.drop 37) 37 = true := by decide +kernel
theorem dX5_play_37 : decode cX5_play 37 = .ok (.getfield 59, 3) := dq_get (L := lzddX5_play_37) 0 rfl zddX5_play_37 rfl
theorem dX5_play_40 : decode cX5_play 40 = .ok (.if_icmp .ge 57, 3) := dq_get (L := lzddX5_play_37) 1 rfl zddX5_play_37 rfl
theorem dX5_play_43 : decode cX5_play 43 = .ok (.aload_n 0, 1) := dq_get (L := lzddX5_play_37) 2 rfl zddX5_play_37 rfl
theorem dX5_play_44 : decode cX5_play 44 = .ok (.getfield 43, 3) := dq_get (L := lzddX5_play_37) 3 rfl zddX5_play_37 rfl
theorem dX5_play_47 : decode cX5_play 47 = .ok (.getfield 64, 3) := dq_get (L := lzddX5_play_37) 4 rfl zddX5_play_37 rfl
theorem dX5_play_50 : decode cX5_play 50 = .ok (.iload 6, 2) := dq_get (L := lzddX5_play_37) 5 rfl zddX5_play_37 rfl
theorem dX5_play_52 : decode cX5_play 52 = .ok (.iaload, 1) := dq_get (L := lzddX5_play_37) 6 rfl zddX5_play_37 rfl
theorem dX5_play_53 : decode cX5_play 53 = .ok (.istore 7, 2) := dq_get (L := lzddX5_play_37) 7 rfl zddX5_play_37 rfl
theorem dX5_play_55 : decode cX5_play 55 = .ok (.iload 7, 2) := dq_get (L := lzddX5_play_37) 8 rfl zddX5_play_37 rfl
theorem dX5_play_57 : decode cX5_play 57 = .ok (.ifCond .ne 7, 3) := dq_get (L := lzddX5_play_37) 9 rfl zddX5_play_37 rfl
theorem dX5_play_60 : decode cX5_play 60 = .ok (.iconst 0, 1) := dq_get (L := lzddX5_play_37) 10 rfl zddX5_play_37 rfl
theorem dX5_play_61 : decode cX5_play 61 = .ok (.goto 11, 3) := dq_get (L := lzddX5_play_37) 11 rfl zddX5_play_37 rfl
theorem dX5_play_64 : decode cX5_play 64 = .ok (.aload_n 0, 1) := dq_get (L := lzddX5_play_37) 12 rfl zddX5_play_37 rfl
theorem dX5_play_65 : decode cX5_play 65 = .ok (.iload 7, 2) := dq_get (L := lzddX5_play_37) 13 rfl zddX5_play_37 rfl
theorem dX5_play_67 : decode cX5_play 67 = .ok (.iload 4, 2) := dq_get (L := lzddX5_play_37) 14 rfl zddX5_play_37 rfl
theorem dX5_play_69 : decode cX5_play 69 = .ok (.invokevirtual 67, 3) := dq_get (L := lzddX5_play_37) 15 rfl zddX5_play_37 rfl
theorem dX5_play_72 : decode cX5_play 72 = .ok (.istore 8, 2) := dq_get (L := lzddX5_play_37) 16 rfl zddX5_play_37 rfl
theorem dX5_play_74 : decode cX5_play 74 = .ok (.iload 5, 2) := dq_get (L := lzddX5_play_37) 17 rfl zddX5_play_37 rfl
theorem dX5_play_76 : decode cX5_play 76 = .ok (.iload 8, 2) := dq_get (L := lzddX5_play_37) 18 rfl zddX5_play_37 rfl
theorem dX5_play_78 : decode cX5_play 78 = .ok (.ixor, 1) := dq_get (L := lzddX5_play_37) 19 rfl zddX5_play_37 rfl
def lzddX5_play_79 : List (Nat × Instr × Nat) := [(79, .istore 5, 2), (81, .aload_n 0, 1), (82, .iload 7, 2), (84, .iload 8, 2), (86, .iload 5, 2), (88, .invokevirtual 71, 3), (91, .iinc 6 1, 3), (94, .goto (-63), 3), (97, .return_, 1)]
theorem zddX5_play_79 : dqW lzddX5_play_79 (cX5_play.data.toList.drop 79) 79 = true := by decide +kernel
theorem dX5_play_79 : decode cX5_play 79 = .ok (.istore 5, 2) := dq_get (L := lzddX5_play_79) 0 rfl zddX5_play_79 rfl
theorem dX5_play_81 : decode cX5_play 81 = .ok (.aload_n 0, 1) := dq_get (L := lzddX5_play_79) 1 rfl zddX5_play_79 rfl
theorem dX5_play_82 : decode cX5_play 82 = .ok (.iload 7, 2) := dq_get (L := lzddX5_play_79) 2 rfl zddX5_play_79 rfl
theorem dX5_play_84 : decode cX5_play 84 = .ok (.iload 8, 2) := dq_get (L := lzddX5_play_79) 3 rfl zddX5_play_79 rfl
theorem dX5_play_86 : decode cX5_play 86 = .ok (.iload 5, 2) := dq_get (L := lzddX5_play_79) 4 rfl zddX5_play_79 rfl
theorem dX5_play_88 : decode cX5_play 88 = .ok (.invokevirtual 71, 3) := dq_get (L := lzddX5_play_79) 5 rfl zddX5_play_79 rfl
theorem dX5_play_91 : decode cX5_play 91 = .ok (.iinc 6 1, 3) := dq_get (L := lzddX5_play_79) 6 rfl zddX5_play_79 rfl
theorem dX5_play_94 : decode cX5_play 94 = .ok (.goto (-63), 3) := dq_get (L := lzddX5_play_79) 7 rfl zddX5_play_79 rfl
theorem dX5_play_97 : decode cX5_play 97 = .ok (.return_, 1) := dq_get (L := lzddX5_play_79) 8 rfl zddX5_play_79 rfl
def lzddX5_price_0 : List (Nat × Instr × Nat) := [(0, .aload_n 0, 1), (1, .getfield 39, 3), (4, .getfield 192, 3), (7, .astore_n 2, 1), (8, .aload_n 2, 1), (9, .iconst 0, 1), (10, .iaload, 1), (11, .aload_n 2, 1), (12, .iconst 1, 1), (13, .iaload, 1), (14, .aload_n 0, 1), (15, .getfield 15, 3), (18, .iload_n 1, 1), (19, .iaload, 1), (20, .imul, 1), (21, .iadd, 1), (22, .aload_n 2, 1), (23, .iconst 2, 1), (24, .iaload, 1), (25, .aload_n 0, 1)]
theorem zddX5_price_0 : dqW lzddX5_price_0 (cX5_price.data.toList.drop 0) 0 = true := by decide +kernel
theorem dX5_price_0 : decode cX5_price 0 = .ok (.aload_n 0, 1) := dq_get (L := lzddX5_price_0) 0 rfl zddX5_price_0 rfl
theorem dX5_price_1 : decode cX5_price 1 = .ok (.getfield 39, 3) := dq_get (L := lzddX5_price_0) 1 rfl zddX5_price_0 rfl
theorem dX5_price_4 : decode cX5_price 4 = .ok (.getfield 192, 3) := dq_get (L := lzddX5_price_0) 2 rfl zddX5_price_0 rfl
theorem dX5_price_7 : decode cX5_price 7 = .ok (.astore_n 2, 1) := dq_get (L := lzddX5_price_0) 3 rfl zddX5_price_0 rfl
theorem dX5_price_8 : decode cX5_price 8 = .ok (.aload_n 2, 1) := dq_get (L := lzddX5_price_0) 4 rfl zddX5_price_0 rfl
theorem dX5_price_9 : decode cX5_price 9 = .ok (.iconst 0, 1) := dq_get (L := lzddX5_price_0) 5 rfl zddX5_price_0 rfl
theorem dX5_price_10 : decode cX5_price 10 = .ok (.iaload, 1) := dq_get (L := lzddX5_price_0) 6 rfl zddX5_price_0 rfl
theorem dX5_price_11 : decode cX5_price 11 = .ok (.aload_n 2, 1) := dq_get (L := lzddX5_price_0) 7 rfl zddX5_price_0 rfl
theorem dX5_price_12 : decode cX5_price 12 = .ok (.iconst 1, 1) := dq_get (L := lzddX5_price_0) 8 rfl zddX5_price_0 rfl
theorem dX5_price_13 : decode cX5_price 13 = .ok (.iaload, 1) := dq_get (L := lzddX5_price_0) 9 rfl zddX5_price_0 rfl
theorem dX5_price_14 : decode cX5_price 14 = .ok (.aload_n 0, 1) := dq_get (L := lzddX5_price_0) 10 rfl zddX5_price_0 rfl
theorem dX5_price_15 : decode cX5_price 15 = .ok (.getfield 15, 3) := dq_get (L := lzddX5_price_0) 11 rfl zddX5_price_0 rfl
theorem dX5_price_18 : decode cX5_price 18 = .ok (.iload_n 1, 1) := dq_get (L := lzddX5_price_0) 12 rfl zddX5_price_0 rfl
theorem dX5_price_19 : decode cX5_price 19 = .ok (.iaload, 1) := dq_get (L := lzddX5_price_0) 13 rfl zddX5_price_0 rfl
theorem dX5_price_20 : decode cX5_price 20 = .ok (.imul, 1) := dq_get (L := lzddX5_price_0) 14 rfl zddX5_price_0 rfl
theorem dX5_price_21 : decode cX5_price 21 = .ok (.iadd, 1) := dq_get (L := lzddX5_price_0) 15 rfl zddX5_price_0 rfl
theorem dX5_price_22 : decode cX5_price 22 = .ok (.aload_n 2, 1) := dq_get (L := lzddX5_price_0) 16 rfl zddX5_price_0 rfl
theorem dX5_price_23 : decode cX5_price 23 = .ok (.iconst 2, 1) := dq_get (L := lzddX5_price_0) 17 rfl zddX5_price_0 rfl
theorem dX5_price_24 : decode cX5_price 24 = .ok (.iaload, 1) := dq_get (L := lzddX5_price_0) 18 rfl zddX5_price_0 rfl
theorem dX5_price_25 : decode cX5_price 25 = .ok (.aload_n 0, 1) := dq_get (L := lzddX5_price_0) 19 rfl zddX5_price_0 rfl
def lzddX5_price_26 : List (Nat × Instr × Nat) := [(26, .getfield 21, 3), (29, .iload_n 1, 1), (30, .iaload, 1), (31, .imul, 1), (32, .isub, 1), (33, .aload_n 2, 1), (34, .iconst 3, 1), (35, .iaload, 1), (36, .aload_n 0, 1), (37, .getfield 24, 3), (40, .iload_n 1, 1), (41, .iaload, 1), (42, .imul, 1), (43, .isub, 1), (44, .aload_n 2, 1), (45, .iconst 4, 1), (46, .iaload, 1), (47, .aload_n 0, 1), (48, .getfield 18, 3), (51, .iload_n 1, 1)]
theorem zddX5_price_26 : dqW lzddX5_price_26 (cX5_price.data.toList.drop 26) 26 = true := by decide +kernel
theorem dX5_price_26 : decode cX5_price 26 = .ok (.getfield 21, 3) := dq_get (L := lzddX5_price_26) 0 rfl zddX5_price_26 rfl
theorem dX5_price_29 : decode cX5_price 29 = .ok (.iload_n 1, 1) := dq_get (L := lzddX5_price_26) 1 rfl zddX5_price_26 rfl
theorem dX5_price_30 : decode cX5_price 30 = .ok (.iaload, 1) := dq_get (L := lzddX5_price_26) 2 rfl zddX5_price_26 rfl
theorem dX5_price_31 : decode cX5_price 31 = .ok (.imul, 1) := dq_get (L := lzddX5_price_26) 3 rfl zddX5_price_26 rfl
theorem dX5_price_32 : decode cX5_price 32 = .ok (.isub, 1) := dq_get (L := lzddX5_price_26) 4 rfl zddX5_price_26 rfl
theorem dX5_price_33 : decode cX5_price 33 = .ok (.aload_n 2, 1) := dq_get (L := lzddX5_price_26) 5 rfl zddX5_price_26 rfl
theorem dX5_price_34 : decode cX5_price 34 = .ok (.iconst 3, 1) := dq_get (L := lzddX5_price_26) 6 rfl zddX5_price_26 rfl
theorem dX5_price_35 : decode cX5_price 35 = .ok (.iaload, 1) := dq_get (L := lzddX5_price_26) 7 rfl zddX5_price_26 rfl
theorem dX5_price_36 : decode cX5_price 36 = .ok (.aload_n 0, 1) := dq_get (L := lzddX5_price_26) 8 rfl zddX5_price_26 rfl
theorem dX5_price_37 : decode cX5_price 37 = .ok (.getfield 24, 3) := dq_get (L := lzddX5_price_26) 9 rfl zddX5_price_26 rfl
theorem dX5_price_40 : decode cX5_price 40 = .ok (.iload_n 1, 1) := dq_get (L := lzddX5_price_26) 10 rfl zddX5_price_26 rfl
theorem dX5_price_41 : decode cX5_price 41 = .ok (.iaload, 1) := dq_get (L := lzddX5_price_26) 11 rfl zddX5_price_26 rfl
theorem dX5_price_42 : decode cX5_price 42 = .ok (.imul, 1) := dq_get (L := lzddX5_price_26) 12 rfl zddX5_price_26 rfl
theorem dX5_price_43 : decode cX5_price 43 = .ok (.isub, 1) := dq_get (L := lzddX5_price_26) 13 rfl zddX5_price_26 rfl
theorem dX5_price_44 : decode cX5_price 44 = .ok (.aload_n 2, 1) := dq_get (L := lzddX5_price_26) 14 rfl zddX5_price_26 rfl
theorem dX5_price_45 : decode cX5_price 45 = .ok (.iconst 4, 1) := dq_get (L := lzddX5_price_26) 15 rfl zddX5_price_26 rfl
theorem dX5_price_46 : decode cX5_price 46 = .ok (.iaload, 1) := dq_get (L := lzddX5_price_26) 16 rfl zddX5_price_26 rfl
theorem dX5_price_47 : decode cX5_price 47 = .ok (.aload_n 0, 1) := dq_get (L := lzddX5_price_26) 17 rfl zddX5_price_26 rfl
theorem dX5_price_48 : decode cX5_price 48 = .ok (.getfield 18, 3) := dq_get (L := lzddX5_price_26) 18 rfl zddX5_price_26 rfl
theorem dX5_price_51 : decode cX5_price 51 = .ok (.iload_n 1, 1) := dq_get (L := lzddX5_price_26) 19 rfl zddX5_price_26 rfl
def lzddX5_price_52 : List (Nat × Instr × Nat) := [(52, .iaload, 1), (53, .imul, 1), (54, .isub, 1), (55, .istore_n 3, 1), (56, .iload_n 3, 1), (57, .iconst 0, 1), (58, .invokestatic 195, 3), (61, .ireturn, 1)]
theorem zddX5_price_52 : dqW lzddX5_price_52 (cX5_price.data.toList.drop 52) 52 = true := by decide +kernel
theorem dX5_price_52 : decode cX5_price 52 = .ok (.iaload, 1) := dq_get (L := lzddX5_price_52) 0 rfl zddX5_price_52 rfl
theorem dX5_price_53 : decode cX5_price 53 = .ok (.imul, 1) := dq_get (L := lzddX5_price_52) 1 rfl zddX5_price_52 rfl
theorem dX5_price_54 : decode cX5_price 54 = .ok (.isub, 1) := dq_get (L := lzddX5_price_52) 2 rfl zddX5_price_52 rfl
theorem dX5_price_55 : decode cX5_price 55 = .ok (.istore_n 3, 1) := dq_get (L := lzddX5_price_52) 3 rfl zddX5_price_52 rfl
theorem dX5_price_56 : decode cX5_price 56 = .ok (.iload_n 3, 1) := dq_get (L := lzddX5_price_52) 4 rfl zddX5_price_52 rfl
theorem dX5_price_57 : decode cX5_price 57 = .ok (.iconst 0, 1) := dq_get (L := lzddX5_price_52) 5 rfl zddX5_price_52 rfl
theorem dX5_price_58 : decode cX5_price 58 = .ok (.invokestatic 195, 3) := dq_get (L := lzddX5_price_52) 6 rfl zddX5_price_52 rfl
theorem dX5_price_61 : decode cX5_price 61 = .ok (.ireturn, 1) := dq_get (L := lzddX5_price_52) 7 rfl zddX5_price_52 rfl
def lzddX5_sum_0 : List (Nat × Instr × Nat) := [(0, .aload_n 0, 1), (1, .getfield 39, 3), (4, .aload_n 0, 1), (5, .getfield 47, 3), (8, .invokevirtual 200, 3), (11, .ineg, 1), (12, .istore_n 1, 1), (13, .iconst 0, 1), (14, .istore_n 2, 1), (15, .iload_n 2, 1), (16, .aload_n 0, 1), (17, .getfield 39, 3), (20, .getfield 107, 3), (23, .if_icmp .ge 17, 3), (26, .iload_n 1, 1), (27, .aload_n 0, 1), (28, .iload_n 2, 1), (29, .invokevirtual 203, 3), (32, .iadd, 1), (33, .istore_n 1, 1)]
theorem zddX5_sum_0 : dqW lzddX5_sum_0 (cX5_sum.data.toList.drop 0) 0 = true := by decide +kernel
theorem dX5_sum_0 : decode cX5_sum 0 = .ok (.aload_n 0, 1) := dq_get (L := lzddX5_sum_0) 0 rfl zddX5_sum_0 rfl
theorem dX5_sum_1 : decode cX5_sum 1 = .ok (.getfield 39, 3) := dq_get (L := lzddX5_sum_0) 1 rfl zddX5_sum_0 rfl
theorem dX5_sum_4 : decode cX5_sum 4 = .ok (.aload_n 0, 1) := dq_get (L := lzddX5_sum_0) 2 rfl zddX5_sum_0 rfl
theorem dX5_sum_5 : decode cX5_sum 5 = .ok (.getfield 47, 3) := dq_get (L := lzddX5_sum_0) 3 rfl zddX5_sum_0 rfl
theorem dX5_sum_8 : decode cX5_sum 8 = .ok (.invokevirtual 200, 3) := dq_get (L := lzddX5_sum_0) 4 rfl zddX5_sum_0 rfl
theorem dX5_sum_11 : decode cX5_sum 11 = .ok (.ineg, 1) := dq_get (L := lzddX5_sum_0) 5 rfl zddX5_sum_0 rfl
theorem dX5_sum_12 : decode cX5_sum 12 = .ok (.istore_n 1, 1) := dq_get (L := lzddX5_sum_0) 6 rfl zddX5_sum_0 rfl
theorem dX5_sum_13 : decode cX5_sum 13 = .ok (.iconst 0, 1) := dq_get (L := lzddX5_sum_0) 7 rfl zddX5_sum_0 rfl
theorem dX5_sum_14 : decode cX5_sum 14 = .ok (.istore_n 2, 1) := dq_get (L := lzddX5_sum_0) 8 rfl zddX5_sum_0 rfl
theorem dX5_sum_15 : decode cX5_sum 15 = .ok (.iload_n 2, 1) := dq_get (L := lzddX5_sum_0) 9 rfl zddX5_sum_0 rfl
theorem dX5_sum_16 : decode cX5_sum 16 = .ok (.aload_n 0, 1) := dq_get (L := lzddX5_sum_0) 10 rfl zddX5_sum_0 rfl
theorem dX5_sum_17 : decode cX5_sum 17 = .ok (.getfield 39, 3) := dq_get (L := lzddX5_sum_0) 11 rfl zddX5_sum_0 rfl
theorem dX5_sum_20 : decode cX5_sum 20 = .ok (.getfield 107, 3) := dq_get (L := lzddX5_sum_0) 12 rfl zddX5_sum_0 rfl
theorem dX5_sum_23 : decode cX5_sum 23 = .ok (.if_icmp .ge 17, 3) := dq_get (L := lzddX5_sum_0) 13 rfl zddX5_sum_0 rfl
theorem dX5_sum_26 : decode cX5_sum 26 = .ok (.iload_n 1, 1) := dq_get (L := lzddX5_sum_0) 14 rfl zddX5_sum_0 rfl
theorem dX5_sum_27 : decode cX5_sum 27 = .ok (.aload_n 0, 1) := dq_get (L := lzddX5_sum_0) 15 rfl zddX5_sum_0 rfl
theorem dX5_sum_28 : decode cX5_sum 28 = .ok (.iload_n 2, 1) := dq_get (L := lzddX5_sum_0) 16 rfl zddX5_sum_0 rfl
theorem dX5_sum_29 : decode cX5_sum 29 = .ok (.invokevirtual 203, 3) := dq_get (L := lzddX5_sum_0) 17 rfl zddX5_sum_0 rfl
theorem dX5_sum_32 : decode cX5_sum 32 = .ok (.iadd, 1) := dq_get (L := lzddX5_sum_0) 18 rfl zddX5_sum_0 rfl
theorem dX5_sum_33 : decode cX5_sum 33 = .ok (.istore_n 1, 1) := dq_get (L := lzddX5_sum_0) 19 rfl zddX5_sum_0 rfl
def lzddX5_sum_34 : List (Nat × Instr × Nat) := [(34, .iinc 2 1, 3), (37, .goto (-22), 3), (40, .iload_n 1, 1), (41, .ireturn, 1)]
theorem zddX5_sum_34 : dqW lzddX5_sum_34 (cX5_sum.data.toList.drop 34) 34 = true := by decide +kernel
theorem dX5_sum_34 : decode cX5_sum 34 = .ok (.iinc 2 1, 3) := dq_get (L := lzddX5_sum_34) 0 rfl zddX5_sum_34 rfl
theorem dX5_sum_37 : decode cX5_sum 37 = .ok (.goto (-22), 3) := dq_get (L := lzddX5_sum_34) 1 rfl zddX5_sum_34 rfl
theorem dX5_sum_40 : decode cX5_sum 40 = .ok (.iload_n 1, 1) := dq_get (L := lzddX5_sum_34) 2 rfl zddX5_sum_34 rfl
theorem dX5_sum_41 : decode cX5_sum 41 = .ok (.ireturn, 1) := dq_get (L := lzddX5_sum_34) 3 rfl zddX5_sum_34 rfl
def lzddX5_turnAll_0 : List (Nat × Instr × Nat) := [(0, .iconst 0, 1), (1, .istore_n 3, 1), (2, .iconst 0, 1), (3, .istore 4, 2), (5, .iload 4, 2), (7, .aload_n 0, 1), (8, .getfield 39, 3), (11, .getfield 81, 3), (14, .if_icmp .ge 81, 3), (17, .iload_n 2, 1), (18, .iload 4, 2), (20, .invokestatic 84, 3), (23, .iconst 1, 1), (24, .if_icmp .ne 65, 3), (27, .aload_n 0, 1), (28, .getfield 36, 3), (31, .iload 4, 2), (33, .iaload, 1), (34, .iload_n 1, 1), (35, .if_icmp .gt 54, 3)]
theorem zddX5_turnAll_0 : dqW lzddX5_turnAll_0 (cX5_turnAll.data.toList.drop 0) 0 = true := by decide +kernel
theorem dX5_turnAll_0 : decode cX5_turnAll 0 = .ok (.iconst 0, 1) := dq_get (L := lzddX5_turnAll_0) 0 rfl zddX5_turnAll_0 rfl
theorem dX5_turnAll_1 : decode cX5_turnAll 1 = .ok (.istore_n 3, 1) := dq_get (L := lzddX5_turnAll_0) 1 rfl zddX5_turnAll_0 rfl
theorem dX5_turnAll_2 : decode cX5_turnAll 2 = .ok (.iconst 0, 1) := dq_get (L := lzddX5_turnAll_0) 2 rfl zddX5_turnAll_0 rfl
theorem dX5_turnAll_3 : decode cX5_turnAll 3 = .ok (.istore 4, 2) := dq_get (L := lzddX5_turnAll_0) 3 rfl zddX5_turnAll_0 rfl
theorem dX5_turnAll_5 : decode cX5_turnAll 5 = .ok (.iload 4, 2) := dq_get (L := lzddX5_turnAll_0) 4 rfl zddX5_turnAll_0 rfl
theorem dX5_turnAll_7 : decode cX5_turnAll 7 = .ok (.aload_n 0, 1) := dq_get (L := lzddX5_turnAll_0) 5 rfl zddX5_turnAll_0 rfl
theorem dX5_turnAll_8 : decode cX5_turnAll 8 = .ok (.getfield 39, 3) := dq_get (L := lzddX5_turnAll_0) 6 rfl zddX5_turnAll_0 rfl
theorem dX5_turnAll_11 : decode cX5_turnAll 11 = .ok (.getfield 81, 3) := dq_get (L := lzddX5_turnAll_0) 7 rfl zddX5_turnAll_0 rfl
theorem dX5_turnAll_14 : decode cX5_turnAll 14 = .ok (.if_icmp .ge 81, 3) := dq_get (L := lzddX5_turnAll_0) 8 rfl zddX5_turnAll_0 rfl
theorem dX5_turnAll_17 : decode cX5_turnAll 17 = .ok (.iload_n 2, 1) := dq_get (L := lzddX5_turnAll_0) 9 rfl zddX5_turnAll_0 rfl
theorem dX5_turnAll_18 : decode cX5_turnAll 18 = .ok (.iload 4, 2) := dq_get (L := lzddX5_turnAll_0) 10 rfl zddX5_turnAll_0 rfl
theorem dX5_turnAll_20 : decode cX5_turnAll 20 = .ok (.invokestatic 84, 3) := dq_get (L := lzddX5_turnAll_0) 11 rfl zddX5_turnAll_0 rfl
theorem dX5_turnAll_23 : decode cX5_turnAll 23 = .ok (.iconst 1, 1) := dq_get (L := lzddX5_turnAll_0) 12 rfl zddX5_turnAll_0 rfl
theorem dX5_turnAll_24 : decode cX5_turnAll 24 = .ok (.if_icmp .ne 65, 3) := dq_get (L := lzddX5_turnAll_0) 13 rfl zddX5_turnAll_0 rfl
theorem dX5_turnAll_27 : decode cX5_turnAll 27 = .ok (.aload_n 0, 1) := dq_get (L := lzddX5_turnAll_0) 14 rfl zddX5_turnAll_0 rfl
theorem dX5_turnAll_28 : decode cX5_turnAll 28 = .ok (.getfield 36, 3) := dq_get (L := lzddX5_turnAll_0) 15 rfl zddX5_turnAll_0 rfl
theorem dX5_turnAll_31 : decode cX5_turnAll 31 = .ok (.iload 4, 2) := dq_get (L := lzddX5_turnAll_0) 16 rfl zddX5_turnAll_0 rfl
theorem dX5_turnAll_33 : decode cX5_turnAll 33 = .ok (.iaload, 1) := dq_get (L := lzddX5_turnAll_0) 17 rfl zddX5_turnAll_0 rfl
theorem dX5_turnAll_34 : decode cX5_turnAll 34 = .ok (.iload_n 1, 1) := dq_get (L := lzddX5_turnAll_0) 18 rfl zddX5_turnAll_0 rfl
theorem dX5_turnAll_35 : decode cX5_turnAll 35 = .ok (.if_icmp .gt 54, 3) := dq_get (L := lzddX5_turnAll_0) 19 rfl zddX5_turnAll_0 rfl
def lzddX5_turnAll_38 : List (Nat × Instr × Nat) := [(38, .aload_n 0, 1), (39, .iload 4, 2), (41, .iload_n 1, 1), (42, .invokevirtual 87, 3), (45, .aload_n 0, 1), (46, .getfield 39, 3), (49, .getfield 90, 3), (52, .iload 4, 2), (54, .aaload, 1), (55, .getfield 94, 3), (58, .iand, 1), (59, .istore 5, 2), (61, .iload 5, 2), (63, .ifCond .eq 26, 3), (66, .aload_n 0, 1), (67, .iload 4, 2), (69, .iload_n 1, 1), (70, .invokevirtual 99, 3), (73, .ifCond .eq 16, 3), (76, .iload_n 3, 1)]
theorem zddX5_turnAll_38 : dqW lzddX5_turnAll_38 (cX5_turnAll.data.toList.drop 38) 38 = true := by decide +kernel
theorem dX5_turnAll_38 : decode cX5_turnAll 38 = .ok (.aload_n 0, 1) := dq_get (L := lzddX5_turnAll_38) 0 rfl zddX5_turnAll_38 rfl
theorem dX5_turnAll_39 : decode cX5_turnAll 39 = .ok (.iload 4, 2) := dq_get (L := lzddX5_turnAll_38) 1 rfl zddX5_turnAll_38 rfl
theorem dX5_turnAll_41 : decode cX5_turnAll 41 = .ok (.iload_n 1, 1) := dq_get (L := lzddX5_turnAll_38) 2 rfl zddX5_turnAll_38 rfl
theorem dX5_turnAll_42 : decode cX5_turnAll 42 = .ok (.invokevirtual 87, 3) := dq_get (L := lzddX5_turnAll_38) 3 rfl zddX5_turnAll_38 rfl
theorem dX5_turnAll_45 : decode cX5_turnAll 45 = .ok (.aload_n 0, 1) := dq_get (L := lzddX5_turnAll_38) 4 rfl zddX5_turnAll_38 rfl
theorem dX5_turnAll_46 : decode cX5_turnAll 46 = .ok (.getfield 39, 3) := dq_get (L := lzddX5_turnAll_38) 5 rfl zddX5_turnAll_38 rfl
theorem dX5_turnAll_49 : decode cX5_turnAll 49 = .ok (.getfield 90, 3) := dq_get (L := lzddX5_turnAll_38) 6 rfl zddX5_turnAll_38 rfl
theorem dX5_turnAll_52 : decode cX5_turnAll 52 = .ok (.iload 4, 2) := dq_get (L := lzddX5_turnAll_38) 7 rfl zddX5_turnAll_38 rfl
theorem dX5_turnAll_54 : decode cX5_turnAll 54 = .ok (.aaload, 1) := dq_get (L := lzddX5_turnAll_38) 8 rfl zddX5_turnAll_38 rfl
theorem dX5_turnAll_55 : decode cX5_turnAll 55 = .ok (.getfield 94, 3) := dq_get (L := lzddX5_turnAll_38) 9 rfl zddX5_turnAll_38 rfl
theorem dX5_turnAll_58 : decode cX5_turnAll 58 = .ok (.iand, 1) := dq_get (L := lzddX5_turnAll_38) 10 rfl zddX5_turnAll_38 rfl
theorem dX5_turnAll_59 : decode cX5_turnAll 59 = .ok (.istore 5, 2) := dq_get (L := lzddX5_turnAll_38) 11 rfl zddX5_turnAll_38 rfl
theorem dX5_turnAll_61 : decode cX5_turnAll 61 = .ok (.iload 5, 2) := dq_get (L := lzddX5_turnAll_38) 12 rfl zddX5_turnAll_38 rfl
theorem dX5_turnAll_63 : decode cX5_turnAll 63 = .ok (.ifCond .eq 26, 3) := dq_get (L := lzddX5_turnAll_38) 13 rfl zddX5_turnAll_38 rfl
theorem dX5_turnAll_66 : decode cX5_turnAll 66 = .ok (.aload_n 0, 1) := dq_get (L := lzddX5_turnAll_38) 14 rfl zddX5_turnAll_38 rfl
theorem dX5_turnAll_67 : decode cX5_turnAll 67 = .ok (.iload 4, 2) := dq_get (L := lzddX5_turnAll_38) 15 rfl zddX5_turnAll_38 rfl
theorem dX5_turnAll_69 : decode cX5_turnAll 69 = .ok (.iload_n 1, 1) := dq_get (L := lzddX5_turnAll_38) 16 rfl zddX5_turnAll_38 rfl
theorem dX5_turnAll_70 : decode cX5_turnAll 70 = .ok (.invokevirtual 99, 3) := dq_get (L := lzddX5_turnAll_38) 17 rfl zddX5_turnAll_38 rfl
theorem dX5_turnAll_73 : decode cX5_turnAll 73 = .ok (.ifCond .eq 16, 3) := dq_get (L := lzddX5_turnAll_38) 18 rfl zddX5_turnAll_38 rfl
theorem dX5_turnAll_76 : decode cX5_turnAll 76 = .ok (.iload_n 3, 1) := dq_get (L := lzddX5_turnAll_38) 19 rfl zddX5_turnAll_38 rfl
def lzddX5_turnAll_77 : List (Nat × Instr × Nat) := [(77, .aload_n 0, 1), (78, .iload 4, 2), (80, .iload_n 1, 1), (81, .iload 5, 2), (83, .iload_n 3, 1), (84, .invokevirtual 103, 3), (87, .ior, 1), (88, .istore_n 3, 1), (89, .iinc 4 1, 3), (92, .goto (-87), 3), (95, .iload_n 3, 1), (96, .ireturn, 1)]
theorem zddX5_turnAll_77 : dqW lzddX5_turnAll_77 (cX5_turnAll.data.toList.drop 77) 77 = true := by decide +kernel
theorem dX5_turnAll_77 : decode cX5_turnAll 77 = .ok (.aload_n 0, 1) := dq_get (L := lzddX5_turnAll_77) 0 rfl zddX5_turnAll_77 rfl
theorem dX5_turnAll_78 : decode cX5_turnAll 78 = .ok (.iload 4, 2) := dq_get (L := lzddX5_turnAll_77) 1 rfl zddX5_turnAll_77 rfl
theorem dX5_turnAll_80 : decode cX5_turnAll 80 = .ok (.iload_n 1, 1) := dq_get (L := lzddX5_turnAll_77) 2 rfl zddX5_turnAll_77 rfl
theorem dX5_turnAll_81 : decode cX5_turnAll 81 = .ok (.iload 5, 2) := dq_get (L := lzddX5_turnAll_77) 3 rfl zddX5_turnAll_77 rfl
theorem dX5_turnAll_83 : decode cX5_turnAll 83 = .ok (.iload_n 3, 1) := dq_get (L := lzddX5_turnAll_77) 4 rfl zddX5_turnAll_77 rfl
theorem dX5_turnAll_84 : decode cX5_turnAll 84 = .ok (.invokevirtual 103, 3) := dq_get (L := lzddX5_turnAll_77) 5 rfl zddX5_turnAll_77 rfl
theorem dX5_turnAll_87 : decode cX5_turnAll 87 = .ok (.ior, 1) := dq_get (L := lzddX5_turnAll_77) 6 rfl zddX5_turnAll_77 rfl
theorem dX5_turnAll_88 : decode cX5_turnAll 88 = .ok (.istore_n 3, 1) := dq_get (L := lzddX5_turnAll_77) 7 rfl zddX5_turnAll_77 rfl
theorem dX5_turnAll_89 : decode cX5_turnAll 89 = .ok (.iinc 4 1, 3) := dq_get (L := lzddX5_turnAll_77) 8 rfl zddX5_turnAll_77 rfl
theorem dX5_turnAll_92 : decode cX5_turnAll 92 = .ok (.goto (-87), 3) := dq_get (L := lzddX5_turnAll_77) 9 rfl zddX5_turnAll_77 rfl
theorem dX5_turnAll_95 : decode cX5_turnAll 95 = .ok (.iload_n 3, 1) := dq_get (L := lzddX5_turnAll_77) 10 rfl zddX5_turnAll_77 rfl
theorem dX5_turnAll_96 : decode cX5_turnAll 96 = .ok (.ireturn, 1) := dq_get (L := lzddX5_turnAll_77) 11 rfl zddX5_turnAll_77 rfl
def lzddX5_turnSome_0 : List (Nat × Instr × Nat) := [(0, .aload_n 0, 1), (1, .getfield 39, 3), (4, .getfield 90, 3), (7, .iload_n 1, 1), (8, .aaload, 1), (9, .astore 5, 2), (11, .iconst 0, 1), (12, .istore 6, 2), (14, .iconst 0, 1), (15, .istore 7, 2), (17, .iconst 0, 1), (18, .istore 8, 2), (20, .iload 8, 2), (22, .aload_n 0, 1), (23, .getfield 39, 3), (26, .getfield 107, 3), (29, .if_icmp .ge 107, 3), (32, .iload 7, 2), (34, .aload 5, 2), (36, .getfield 110, 3)]
theorem zddX5_turnSome_0 : dqW lzddX5_turnSome_0 (cX5_turnSome.data.toList.drop 0) 0 = true := by decide +kernel
theorem dX5_turnSome_0 : decode cX5_turnSome 0 = .ok (.aload_n 0, 1) := dq_get (L := lzddX5_turnSome_0) 0 rfl zddX5_turnSome_0 rfl
theorem dX5_turnSome_1 : decode cX5_turnSome 1 = .ok (.getfield 39, 3) := dq_get (L := lzddX5_turnSome_0) 1 rfl zddX5_turnSome_0 rfl
theorem dX5_turnSome_4 : decode cX5_turnSome 4 = .ok (.getfield 90, 3) := dq_get (L := lzddX5_turnSome_0) 2 rfl zddX5_turnSome_0 rfl
theorem dX5_turnSome_7 : decode cX5_turnSome 7 = .ok (.iload_n 1, 1) := dq_get (L := lzddX5_turnSome_0) 3 rfl zddX5_turnSome_0 rfl
theorem dX5_turnSome_8 : decode cX5_turnSome 8 = .ok (.aaload, 1) := dq_get (L := lzddX5_turnSome_0) 4 rfl zddX5_turnSome_0 rfl
theorem dX5_turnSome_9 : decode cX5_turnSome 9 = .ok (.astore 5, 2) := dq_get (L := lzddX5_turnSome_0) 5 rfl zddX5_turnSome_0 rfl
theorem dX5_turnSome_11 : decode cX5_turnSome 11 = .ok (.iconst 0, 1) := dq_get (L := lzddX5_turnSome_0) 6 rfl zddX5_turnSome_0 rfl
theorem dX5_turnSome_12 : decode cX5_turnSome 12 = .ok (.istore 6, 2) := dq_get (L := lzddX5_turnSome_0) 7 rfl zddX5_turnSome_0 rfl
theorem dX5_turnSome_14 : decode cX5_turnSome 14 = .ok (.iconst 0, 1) := dq_get (L := lzddX5_turnSome_0) 8 rfl zddX5_turnSome_0 rfl
theorem dX5_turnSome_15 : decode cX5_turnSome 15 = .ok (.istore 7, 2) := dq_get (L := lzddX5_turnSome_0) 9 rfl zddX5_turnSome_0 rfl
theorem dX5_turnSome_17 : decode cX5_turnSome 17 = .ok (.iconst 0, 1) := dq_get (L := lzddX5_turnSome_0) 10 rfl zddX5_turnSome_0 rfl
theorem dX5_turnSome_18 : decode cX5_turnSome 18 = .ok (.istore 8, 2) := dq_get (L := lzddX5_turnSome_0) 11 rfl zddX5_turnSome_0 rfl
theorem dX5_turnSome_20 : decode cX5_turnSome 20 = .ok (.iload 8, 2) := dq_get (L := lzddX5_turnSome_0) 12 rfl zddX5_turnSome_0 rfl
theorem dX5_turnSome_22 : decode cX5_turnSome 22 = .ok (.aload_n 0, 1) := dq_get (L := lzddX5_turnSome_0) 13 rfl zddX5_turnSome_0 rfl
theorem dX5_turnSome_23 : decode cX5_turnSome 23 = .ok (.getfield 39, 3) := dq_get (L := lzddX5_turnSome_0) 14 rfl zddX5_turnSome_0 rfl
theorem dX5_turnSome_26 : decode cX5_turnSome 26 = .ok (.getfield 107, 3) := dq_get (L := lzddX5_turnSome_0) 15 rfl zddX5_turnSome_0 rfl
theorem dX5_turnSome_29 : decode cX5_turnSome 29 = .ok (.if_icmp .ge 107, 3) := dq_get (L := lzddX5_turnSome_0) 16 rfl zddX5_turnSome_0 rfl
theorem dX5_turnSome_32 : decode cX5_turnSome 32 = .ok (.iload 7, 2) := dq_get (L := lzddX5_turnSome_0) 17 rfl zddX5_turnSome_0 rfl
theorem dX5_turnSome_34 : decode cX5_turnSome 34 = .ok (.aload 5, 2) := dq_get (L := lzddX5_turnSome_0) 18 rfl zddX5_turnSome_0 rfl
theorem dX5_turnSome_36 : decode cX5_turnSome 36 = .ok (.getfield 110, 3) := dq_get (L := lzddX5_turnSome_0) 19 rfl zddX5_turnSome_0 rfl
def lzddX5_turnSome_39 : List (Nat × Instr × Nat) := [(39, .if_icmp .ge 97, 3), (42, .iload 4, 2), (44, .iload 8, 2), (46, .invokestatic 84, 3), (49, .ifCond .ne 81, 3), (52, .iload_n 3, 1), (53, .aload_n 0, 1), (54, .getfield 39, 3), (57, .getfield 112, 3), (60, .iload 8, 2), (62, .iaload, 1), (63, .invokestatic 84, 3), (66, .iconst 1, 1), (67, .if_icmp .ne 63, 3), (70, .iload 6, 2), (72, .iconst 1, 1), (73, .iload 8, 2), (75, .ishl, 1), (76, .ior, 1), (77, .istore 6, 2)]
theorem zddX5_turnSome_39 : dqW lzddX5_turnSome_39 (cX5_turnSome.data.toList.drop 39) 39 = true := by decide +kernel
theorem dX5_turnSome_39 : decode cX5_turnSome 39 = .ok (.if_icmp .ge 97, 3) := dq_get (L := lzddX5_turnSome_39) 0 rfl zddX5_turnSome_39 rfl
theorem dX5_turnSome_42 : decode cX5_turnSome 42 = .ok (.iload 4, 2) := dq_get (L := lzddX5_turnSome_39) 1 rfl zddX5_turnSome_39 rfl
theorem dX5_turnSome_44 : decode cX5_turnSome 44 = .ok (.iload 8, 2) := dq_get (L := lzddX5_turnSome_39) 2 rfl zddX5_turnSome_39 rfl
theorem dX5_turnSome_46 : decode cX5_turnSome 46 = .ok (.invokestatic 84, 3) := dq_get (L := lzddX5_turnSome_39) 3 rfl zddX5_turnSome_39 rfl
theorem dX5_turnSome_49 : decode cX5_turnSome 49 = .ok (.ifCond .ne 81, 3) := dq_get (L := lzddX5_turnSome_39) 4 rfl zddX5_turnSome_39 rfl
theorem dX5_turnSome_52 : decode cX5_turnSome 52 = .ok (.iload_n 3, 1) := dq_get (L := lzddX5_turnSome_39) 5 rfl zddX5_turnSome_39 rfl
theorem dX5_turnSome_53 : decode cX5_turnSome 53 = .ok (.aload_n 0, 1) := dq_get (L := lzddX5_turnSome_39) 6 rfl zddX5_turnSome_39 rfl
theorem dX5_turnSome_54 : decode cX5_turnSome 54 = .ok (.getfield 39, 3) := dq_get (L := lzddX5_turnSome_39) 7 rfl zddX5_turnSome_39 rfl
theorem dX5_turnSome_57 : decode cX5_turnSome 57 = .ok (.getfield 112, 3) := dq_get (L := lzddX5_turnSome_39) 8 rfl zddX5_turnSome_39 rfl
theorem dX5_turnSome_60 : decode cX5_turnSome 60 = .ok (.iload 8, 2) := dq_get (L := lzddX5_turnSome_39) 9 rfl zddX5_turnSome_39 rfl
theorem dX5_turnSome_62 : decode cX5_turnSome 62 = .ok (.iaload, 1) := dq_get (L := lzddX5_turnSome_39) 10 rfl zddX5_turnSome_39 rfl
theorem dX5_turnSome_63 : decode cX5_turnSome 63 = .ok (.invokestatic 84, 3) := dq_get (L := lzddX5_turnSome_39) 11 rfl zddX5_turnSome_39 rfl
theorem dX5_turnSome_66 : decode cX5_turnSome 66 = .ok (.iconst 1, 1) := dq_get (L := lzddX5_turnSome_39) 12 rfl zddX5_turnSome_39 rfl
theorem dX5_turnSome_67 : decode cX5_turnSome 67 = .ok (.if_icmp .ne 63, 3) := dq_get (L := lzddX5_turnSome_39) 13 rfl zddX5_turnSome_39 rfl
theorem dX5_turnSome_70 : decode cX5_turnSome 70 = .ok (.iload 6, 2) := dq_get (L := lzddX5_turnSome_39) 14 rfl zddX5_turnSome_39 rfl
theorem dX5_turnSome_72 : decode cX5_turnSome 72 = .ok (.iconst 1, 1) := dq_get (L := lzddX5_turnSome_39) 15 rfl zddX5_turnSome_39 rfl
theorem dX5_turnSome_73 : decode cX5_turnSome 73 = .ok (.iload 8, 2) := dq_get (L := lzddX5_turnSome_39) 16 rfl zddX5_turnSome_39 rfl
theorem dX5_turnSome_75 : decode cX5_turnSome 75 = .ok (.ishl, 1) := dq_get (L := lzddX5_turnSome_39) 17 rfl zddX5_turnSome_39 rfl
theorem dX5_turnSome_76 : decode cX5_turnSome 76 = .ok (.ior, 1) := dq_get (L := lzddX5_turnSome_39) 18 rfl zddX5_turnSome_39 rfl
theorem dX5_turnSome_77 : decode cX5_turnSome 77 = .ok (.istore 6, 2) := dq_get (L := lzddX5_turnSome_39) 19 rfl zddX5_turnSome_39 rfl
def lzddX5_turnSome_79 : List (Nat × Instr × Nat) := [(79, .iinc 7 1, 3), (82, .aload_n 0, 1), (83, .getfield 9, 3), (86, .iload_n 2, 1), (87, .dup2, 1), (88, .iaload, 1), (89, .iload_n 1, 1), (90, .iconst 1, 1), (91, .iadd, 1), (92, .iconst 4, 1), (93, .iload 8, 2), (95, .imul, 1), (96, .ishl, 1), (97, .ior, 1), (98, .iastore, 1), (99, .aload_n 0, 1), (100, .getfield 30, 3), (103, .iload_n 1, 1), (104, .dup2, 1), (105, .iaload, 1)]
theorem zddX5_turnSome_79 : dqW lzddX5_turnSome_79 (cX5_turnSome.data.toList.drop 79) 79 = true := by decide +kernel
theorem dX5_turnSome_79 : decode cX5_turnSome 79 = .ok (.iinc 7 1, 3) := dq_get (L := lzddX5_turnSome_79) 0 rfl zddX5_turnSome_79 rfl
theorem dX5_turnSome_82 : decode cX5_turnSome 82 = .ok (.aload_n 0, 1) := dq_get (L := lzddX5_turnSome_79) 1 rfl zddX5_turnSome_79 rfl
theorem dX5_turnSome_83 : decode cX5_turnSome 83 = .ok (.getfield 9, 3) := dq_get (L := lzddX5_turnSome_79) 2 rfl zddX5_turnSome_79 rfl
theorem dX5_turnSome_86 : decode cX5_turnSome 86 = .ok (.iload_n 2, 1) := dq_get (L := lzddX5_turnSome_79) 3 rfl zddX5_turnSome_79 rfl
theorem dX5_turnSome_87 : decode cX5_turnSome 87 = .ok (.dup2, 1) := dq_get (L := lzddX5_turnSome_79) 4 rfl zddX5_turnSome_79 rfl
theorem dX5_turnSome_88 : decode cX5_turnSome 88 = .ok (.iaload, 1) := dq_get (L := lzddX5_turnSome_79) 5 rfl zddX5_turnSome_79 rfl
theorem dX5_turnSome_89 : decode cX5_turnSome 89 = .ok (.iload_n 1, 1) := dq_get (L := lzddX5_turnSome_79) 6 rfl zddX5_turnSome_79 rfl
theorem dX5_turnSome_90 : decode cX5_turnSome 90 = .ok (.iconst 1, 1) := dq_get (L := lzddX5_turnSome_79) 7 rfl zddX5_turnSome_79 rfl
theorem dX5_turnSome_91 : decode cX5_turnSome 91 = .ok (.iadd, 1) := dq_get (L := lzddX5_turnSome_79) 8 rfl zddX5_turnSome_79 rfl
theorem dX5_turnSome_92 : decode cX5_turnSome 92 = .ok (.iconst 4, 1) := dq_get (L := lzddX5_turnSome_79) 9 rfl zddX5_turnSome_79 rfl
theorem dX5_turnSome_93 : decode cX5_turnSome 93 = .ok (.iload 8, 2) := dq_get (L := lzddX5_turnSome_79) 10 rfl zddX5_turnSome_79 rfl
theorem dX5_turnSome_95 : decode cX5_turnSome 95 = .ok (.imul, 1) := dq_get (L := lzddX5_turnSome_79) 11 rfl zddX5_turnSome_79 rfl
theorem dX5_turnSome_96 : decode cX5_turnSome 96 = .ok (.ishl, 1) := dq_get (L := lzddX5_turnSome_79) 12 rfl zddX5_turnSome_79 rfl
theorem dX5_turnSome_97 : decode cX5_turnSome 97 = .ok (.ior, 1) := dq_get (L := lzddX5_turnSome_79) 13 rfl zddX5_turnSome_79 rfl
theorem dX5_turnSome_98 : decode cX5_turnSome 98 = .ok (.iastore, 1) := dq_get (L := lzddX5_turnSome_79) 14 rfl zddX5_turnSome_79 rfl
theorem dX5_turnSome_99 : decode cX5_turnSome 99 = .ok (.aload_n 0, 1) := dq_get (L := lzddX5_turnSome_79) 15 rfl zddX5_turnSome_79 rfl
theorem dX5_turnSome_100 : decode cX5_turnSome 100 = .ok (.getfield 30, 3) := dq_get (L := lzddX5_turnSome_79) 16 rfl zddX5_turnSome_79 rfl
theorem dX5_turnSome_103 : decode cX5_turnSome 103 = .ok (.iload_n 1, 1) := dq_get (L := lzddX5_turnSome_79) 17 rfl zddX5_turnSome_79 rfl
theorem dX5_turnSome_104 : decode cX5_turnSome 104 = .ok (.dup2, 1) := dq_get (L := lzddX5_turnSome_79) 18 rfl zddX5_turnSome_79 rfl
theorem dX5_turnSome_105 : decode cX5_turnSome 105 = .ok (.iaload, 1) := dq_get (L := lzddX5_turnSome_79) 19 rfl zddX5_turnSome_79 rfl
def lzddX5_turnSome_106 : List (Nat × Instr × Nat) := [(106, .aload_n 0, 1), (107, .getfield 43, 3), (110, .getfield 115, 3), (113, .iload_n 2, 1), (114, .iaload, 1), (115, .aload_n 0, 1), (116, .getfield 39, 3), (119, .getfield 112, 3), (122, .iload 8, 2), (124, .iaload, 1), (125, .invokestatic 84, 3), (128, .iadd, 1), (129, .iastore, 1), (130, .iinc 8 1, 3), (133, .goto (-113), 3), (136, .iload 7, 2), (138, .ifCond .le 37, 3), (141, .aload_n 0, 1), (142, .getfield 27, 3), (145, .iload_n 1, 1)]
theorem zddX5_turnSome_106 : dqW lzddX5_turnSome_106 (cX5_turnSome.data.toList.drop 106) 106 = true := by decide +kernel
theorem dX5_turnSome_106 : decode cX5_turnSome 106 = .ok (.aload_n 0, 1) := dq_get (L := lzddX5_turnSome_106) 0 rfl zddX5_turnSome_106 rfl
theorem dX5_turnSome_107 : decode cX5_turnSome 107 = .ok (.getfield 43, 3) := dq_get (L := lzddX5_turnSome_106) 1 rfl zddX5_turnSome_106 rfl
theorem dX5_turnSome_110 : decode cX5_turnSome 110 = .ok (.getfield 115, 3) := dq_get (L := lzddX5_turnSome_106) 2 rfl zddX5_turnSome_106 rfl
theorem dX5_turnSome_113 : decode cX5_turnSome 113 = .ok (.iload_n 2, 1) := dq_get (L := lzddX5_turnSome_106) 3 rfl zddX5_turnSome_106 rfl
theorem dX5_turnSome_114 : decode cX5_turnSome 114 = .ok (.iaload, 1) := dq_get (L := lzddX5_turnSome_106) 4 rfl zddX5_turnSome_106 rfl
theorem dX5_turnSome_115 : decode cX5_turnSome 115 = .ok (.aload_n 0, 1) := dq_get (L := lzddX5_turnSome_106) 5 rfl zddX5_turnSome_106 rfl
theorem dX5_turnSome_116 : decode cX5_turnSome 116 = .ok (.getfield 39, 3) := dq_get (L := lzddX5_turnSome_106) 6 rfl zddX5_turnSome_106 rfl
theorem dX5_turnSome_119 : decode cX5_turnSome 119 = .ok (.getfield 112, 3) := dq_get (L := lzddX5_turnSome_106) 7 rfl zddX5_turnSome_106 rfl
theorem dX5_turnSome_122 : decode cX5_turnSome 122 = .ok (.iload 8, 2) := dq_get (L := lzddX5_turnSome_106) 8 rfl zddX5_turnSome_106 rfl
theorem dX5_turnSome_124 : decode cX5_turnSome 124 = .ok (.iaload, 1) := dq_get (L := lzddX5_turnSome_106) 9 rfl zddX5_turnSome_106 rfl
theorem dX5_turnSome_125 : decode cX5_turnSome 125 = .ok (.invokestatic 84, 3) := dq_get (L := lzddX5_turnSome_106) 10 rfl zddX5_turnSome_106 rfl
theorem dX5_turnSome_128 : decode cX5_turnSome 128 = .ok (.iadd, 1) := dq_get (L := lzddX5_turnSome_106) 11 rfl zddX5_turnSome_106 rfl
theorem dX5_turnSome_129 : decode cX5_turnSome 129 = .ok (.iastore, 1) := dq_get (L := lzddX5_turnSome_106) 12 rfl zddX5_turnSome_106 rfl
theorem dX5_turnSome_130 : decode cX5_turnSome 130 = .ok (.iinc 8 1, 3) := dq_get (L := lzddX5_turnSome_106) 13 rfl zddX5_turnSome_106 rfl
theorem dX5_turnSome_133 : decode cX5_turnSome 133 = .ok (.goto (-113), 3) := dq_get (L := lzddX5_turnSome_106) 14 rfl zddX5_turnSome_106 rfl
theorem dX5_turnSome_136 : decode cX5_turnSome 136 = .ok (.iload 7, 2) := dq_get (L := lzddX5_turnSome_106) 15 rfl zddX5_turnSome_106 rfl
theorem dX5_turnSome_138 : decode cX5_turnSome 138 = .ok (.ifCond .le 37, 3) := dq_get (L := lzddX5_turnSome_106) 16 rfl zddX5_turnSome_106 rfl
theorem dX5_turnSome_141 : decode cX5_turnSome 141 = .ok (.aload_n 0, 1) := dq_get (L := lzddX5_turnSome_106) 17 rfl zddX5_turnSome_106 rfl
theorem dX5_turnSome_142 : decode cX5_turnSome 142 = .ok (.getfield 27, 3) := dq_get (L := lzddX5_turnSome_106) 18 rfl zddX5_turnSome_106 rfl
theorem dX5_turnSome_145 : decode cX5_turnSome 145 = .ok (.iload_n 1, 1) := dq_get (L := lzddX5_turnSome_106) 19 rfl zddX5_turnSome_106 rfl
def lzddX5_turnSome_146 : List (Nat × Instr × Nat) := [(146, .dup2, 1), (147, .iaload, 1), (148, .iload 7, 2), (150, .iadd, 1), (151, .iastore, 1), (152, .aload_n 0, 1), (153, .getfield 33, 3), (156, .iload_n 1, 1), (157, .dup2, 1), (158, .iaload, 1), (159, .iconst 1, 1), (160, .iadd, 1), (161, .iastore, 1), (162, .aload_n 0, 1), (163, .getfield 36, 3), (166, .iload_n 1, 1), (167, .iload_n 2, 1), (168, .aload 5, 2), (170, .getfield 118, 3), (173, .iadd, 1)]
theorem zddX5_turnSome_146 : dqW lzddX5_turnSome_146 (cX5_turnSome.data.toList.drop 146) 146 = true := by decide +kernel
theorem dX5_turnSome_146 : decode cX5_turnSome 146 = .ok (.dup2, 1) := dq_get (L := lzddX5_turnSome_146) 0 rfl zddX5_turnSome_146 rfl
theorem dX5_turnSome_147 : decode cX5_turnSome 147 = .ok (.iaload, 1) := dq_get (L := lzddX5_turnSome_146) 1 rfl zddX5_turnSome_146 rfl
theorem dX5_turnSome_148 : decode cX5_turnSome 148 = .ok (.iload 7, 2) := dq_get (L := lzddX5_turnSome_146) 2 rfl zddX5_turnSome_146 rfl
theorem dX5_turnSome_150 : decode cX5_turnSome 150 = .ok (.iadd, 1) := dq_get (L := lzddX5_turnSome_146) 3 rfl zddX5_turnSome_146 rfl
theorem dX5_turnSome_151 : decode cX5_turnSome 151 = .ok (.iastore, 1) := dq_get (L := lzddX5_turnSome_146) 4 rfl zddX5_turnSome_146 rfl
theorem dX5_turnSome_152 : decode cX5_turnSome 152 = .ok (.aload_n 0, 1) := dq_get (L := lzddX5_turnSome_146) 5 rfl zddX5_turnSome_146 rfl
theorem dX5_turnSome_153 : decode cX5_turnSome 153 = .ok (.getfield 33, 3) := dq_get (L := lzddX5_turnSome_146) 6 rfl zddX5_turnSome_146 rfl
theorem dX5_turnSome_156 : decode cX5_turnSome 156 = .ok (.iload_n 1, 1) := dq_get (L := lzddX5_turnSome_146) 7 rfl zddX5_turnSome_146 rfl
theorem dX5_turnSome_157 : decode cX5_turnSome 157 = .ok (.dup2, 1) := dq_get (L := lzddX5_turnSome_146) 8 rfl zddX5_turnSome_146 rfl
theorem dX5_turnSome_158 : decode cX5_turnSome 158 = .ok (.iaload, 1) := dq_get (L := lzddX5_turnSome_146) 9 rfl zddX5_turnSome_146 rfl
theorem dX5_turnSome_159 : decode cX5_turnSome 159 = .ok (.iconst 1, 1) := dq_get (L := lzddX5_turnSome_146) 10 rfl zddX5_turnSome_146 rfl
theorem dX5_turnSome_160 : decode cX5_turnSome 160 = .ok (.iadd, 1) := dq_get (L := lzddX5_turnSome_146) 11 rfl zddX5_turnSome_146 rfl
theorem dX5_turnSome_161 : decode cX5_turnSome 161 = .ok (.iastore, 1) := dq_get (L := lzddX5_turnSome_146) 12 rfl zddX5_turnSome_146 rfl
theorem dX5_turnSome_162 : decode cX5_turnSome 162 = .ok (.aload_n 0, 1) := dq_get (L := lzddX5_turnSome_146) 13 rfl zddX5_turnSome_146 rfl
theorem dX5_turnSome_163 : decode cX5_turnSome 163 = .ok (.getfield 36, 3) := dq_get (L := lzddX5_turnSome_146) 14 rfl zddX5_turnSome_146 rfl
theorem dX5_turnSome_166 : decode cX5_turnSome 166 = .ok (.iload_n 1, 1) := dq_get (L := lzddX5_turnSome_146) 15 rfl zddX5_turnSome_146 rfl
theorem dX5_turnSome_167 : decode cX5_turnSome 167 = .ok (.iload_n 2, 1) := dq_get (L := lzddX5_turnSome_146) 16 rfl zddX5_turnSome_146 rfl
theorem dX5_turnSome_168 : decode cX5_turnSome 168 = .ok (.aload 5, 2) := dq_get (L := lzddX5_turnSome_146) 17 rfl zddX5_turnSome_146 rfl
theorem dX5_turnSome_170 : decode cX5_turnSome 170 = .ok (.getfield 118, 3) := dq_get (L := lzddX5_turnSome_146) 18 rfl zddX5_turnSome_146 rfl
theorem dX5_turnSome_173 : decode cX5_turnSome 173 = .ok (.iadd, 1) := dq_get (L := lzddX5_turnSome_146) 19 rfl zddX5_turnSome_146 rfl
def lzddX5_turnSome_174 : List (Nat × Instr × Nat) := [(174, .iastore, 1), (175, .iload 6, 2), (177, .ireturn, 1)]
theorem zddX5_turnSome_174 : dqW lzddX5_turnSome_174 (cX5_turnSome.data.toList.drop 174) 174 = true := by decide +kernel
theorem dX5_turnSome_174 : decode cX5_turnSome 174 = .ok (.iastore, 1) := dq_get (L := lzddX5_turnSome_174) 0 rfl zddX5_turnSome_174 rfl
theorem dX5_turnSome_175 : decode cX5_turnSome 175 = .ok (.iload 6, 2) := dq_get (L := lzddX5_turnSome_174) 1 rfl zddX5_turnSome_174 rfl
theorem dX5_turnSome_177 : decode cX5_turnSome 177 = .ok (.ireturn, 1) := dq_get (L := lzddX5_turnSome_174) 2 rfl zddX5_turnSome_174 rfl
def lzddX5_turnerOf_0 : List (Nat × Instr × Nat) := [(0, .aload_n 0, 1), (1, .getfield 9, 3), (4, .iload_n 2, 1), (5, .iaload, 1), (6, .iconst 4, 1), (7, .iload_n 1, 1), (8, .imul, 1), (9, .iushr, 1), (10, .bipush 15, 2), (12, .iand, 1), (13, .istore_n 3, 1), (14, .iload_n 3, 1), (15, .ifCond .ne 8, 3), (18, .bipush (-2), 2), (20, .goto 6, 3), (23, .iload_n 3, 1), (24, .iconst 1, 1), (25, .isub, 1), (26, .ireturn, 1)]
theorem zddX5_turnerOf_0 : dqW lzddX5_turnerOf_0 (cX5_turnerOf.data.toList.drop 0) 0 = true := by decide +kernel
theorem dX5_turnerOf_0 : decode cX5_turnerOf 0 = .ok (.aload_n 0, 1) := dq_get (L := lzddX5_turnerOf_0) 0 rfl zddX5_turnerOf_0 rfl
theorem dX5_turnerOf_1 : decode cX5_turnerOf 1 = .ok (.getfield 9, 3) := dq_get (L := lzddX5_turnerOf_0) 1 rfl zddX5_turnerOf_0 rfl
theorem dX5_turnerOf_4 : decode cX5_turnerOf 4 = .ok (.iload_n 2, 1) := dq_get (L := lzddX5_turnerOf_0) 2 rfl zddX5_turnerOf_0 rfl
theorem dX5_turnerOf_5 : decode cX5_turnerOf 5 = .ok (.iaload, 1) := dq_get (L := lzddX5_turnerOf_0) 3 rfl zddX5_turnerOf_0 rfl
theorem dX5_turnerOf_6 : decode cX5_turnerOf 6 = .ok (.iconst 4, 1) := dq_get (L := lzddX5_turnerOf_0) 4 rfl zddX5_turnerOf_0 rfl
theorem dX5_turnerOf_7 : decode cX5_turnerOf 7 = .ok (.iload_n 1, 1) := dq_get (L := lzddX5_turnerOf_0) 5 rfl zddX5_turnerOf_0 rfl
theorem dX5_turnerOf_8 : decode cX5_turnerOf 8 = .ok (.imul, 1) := dq_get (L := lzddX5_turnerOf_0) 6 rfl zddX5_turnerOf_0 rfl
theorem dX5_turnerOf_9 : decode cX5_turnerOf 9 = .ok (.iushr, 1) := dq_get (L := lzddX5_turnerOf_0) 7 rfl zddX5_turnerOf_0 rfl
theorem dX5_turnerOf_10 : decode cX5_turnerOf 10 = .ok (.bipush 15, 2) := dq_get (L := lzddX5_turnerOf_0) 8 rfl zddX5_turnerOf_0 rfl
theorem dX5_turnerOf_12 : decode cX5_turnerOf 12 = .ok (.iand, 1) := dq_get (L := lzddX5_turnerOf_0) 9 rfl zddX5_turnerOf_0 rfl
theorem dX5_turnerOf_13 : decode cX5_turnerOf 13 = .ok (.istore_n 3, 1) := dq_get (L := lzddX5_turnerOf_0) 10 rfl zddX5_turnerOf_0 rfl
theorem dX5_turnerOf_14 : decode cX5_turnerOf 14 = .ok (.iload_n 3, 1) := dq_get (L := lzddX5_turnerOf_0) 11 rfl zddX5_turnerOf_0 rfl
theorem dX5_turnerOf_15 : decode cX5_turnerOf 15 = .ok (.ifCond .ne 8, 3) := dq_get (L := lzddX5_turnerOf_0) 12 rfl zddX5_turnerOf_0 rfl
theorem dX5_turnerOf_18 : decode cX5_turnerOf 18 = .ok (.bipush (-2), 2) := dq_get (L := lzddX5_turnerOf_0) 13 rfl zddX5_turnerOf_0 rfl
theorem dX5_turnerOf_20 : decode cX5_turnerOf 20 = .ok (.goto 6, 3) := dq_get (L := lzddX5_turnerOf_0) 14 rfl zddX5_turnerOf_0 rfl
theorem dX5_turnerOf_23 : decode cX5_turnerOf 23 = .ok (.iload_n 3, 1) := dq_get (L := lzddX5_turnerOf_0) 15 rfl zddX5_turnerOf_0 rfl
theorem dX5_turnerOf_24 : decode cX5_turnerOf 24 = .ok (.iconst 1, 1) := dq_get (L := lzddX5_turnerOf_0) 16 rfl zddX5_turnerOf_0 rfl
theorem dX5_turnerOf_25 : decode cX5_turnerOf 25 = .ok (.isub, 1) := dq_get (L := lzddX5_turnerOf_0) 17 rfl zddX5_turnerOf_0 rfl
theorem dX5_turnerOf_26 : decode cX5_turnerOf 26 = .ok (.ireturn, 1) := dq_get (L := lzddX5_turnerOf_0) 18 rfl zddX5_turnerOf_0 rfl
def lzddX6_clear_0 : List (Nat × Instr × Nat) := [(0, .aload_n 0, 1), (1, .iconst 0, 1), (2, .putfield 21, 3), (5, .aload_n 0, 1), (6, .iconst 0, 1), (7, .putfield 25, 3), (10, .return_, 1)]
theorem zddX6_clear_0 : dqW lzddX6_clear_0 (cX6_clear.data.toList.drop 0) 0 = true := by decide +kernel
theorem dX6_clear_0 : decode cX6_clear 0 = .ok (.aload_n 0, 1) := dq_get (L := lzddX6_clear_0) 0 rfl zddX6_clear_0 rfl
theorem dX6_clear_1 : decode cX6_clear 1 = .ok (.iconst 0, 1) := dq_get (L := lzddX6_clear_0) 1 rfl zddX6_clear_0 rfl
theorem dX6_clear_2 : decode cX6_clear 2 = .ok (.putfield 21, 3) := dq_get (L := lzddX6_clear_0) 2 rfl zddX6_clear_0 rfl
theorem dX6_clear_5 : decode cX6_clear 5 = .ok (.aload_n 0, 1) := dq_get (L := lzddX6_clear_0) 3 rfl zddX6_clear_0 rfl
theorem dX6_clear_6 : decode cX6_clear 6 = .ok (.iconst 0, 1) := dq_get (L := lzddX6_clear_0) 4 rfl zddX6_clear_0 rfl
theorem dX6_clear_7 : decode cX6_clear 7 = .ok (.putfield 25, 3) := dq_get (L := lzddX6_clear_0) 5 rfl zddX6_clear_0 rfl
theorem dX6_clear_10 : decode cX6_clear 10 = .ok (.return_, 1) := dq_get (L := lzddX6_clear_0) 6 rfl zddX6_clear_0 rfl
def lzddX6_dropOldestAct_0 : List (Nat × Instr × Nat) := [(0, .aload_n 0, 1), (1, .getfield 11, 3), (4, .iconst 0, 1), (5, .aaload, 1), (6, .astore_n 1, 1), (7, .iconst 1, 1), (8, .istore_n 2, 1), (9, .iload_n 2, 1), (10, .bipush 12, 2), (12, .if_icmp .ge 23, 3), (15, .aload_n 0, 1), (16, .getfield 11, 3), (19, .iload_n 2, 1), (20, .iconst 1, 1), (21, .isub, 1), (22, .aload_n 0, 1), (23, .getfield 11, 3), (26, .iload_n 2, 1), (27, .aaload, 1), (28, .aastore, 1)]
theorem zddX6_dropOldestAct_0 : dqW lzddX6_dropOldestAct_0 (cX6_dropOldestAct.data.toList.drop 0) 0 = true := by decide +kernel
theorem dX6_dropOldestAct_0 : decode cX6_dropOldestAct 0 = .ok (.aload_n 0, 1) := dq_get (L := lzddX6_dropOldestAct_0) 0 rfl zddX6_dropOldestAct_0 rfl
theorem dX6_dropOldestAct_1 : decode cX6_dropOldestAct 1 = .ok (.getfield 11, 3) := dq_get (L := lzddX6_dropOldestAct_0) 1 rfl zddX6_dropOldestAct_0 rfl
theorem dX6_dropOldestAct_4 : decode cX6_dropOldestAct 4 = .ok (.iconst 0, 1) := dq_get (L := lzddX6_dropOldestAct_0) 2 rfl zddX6_dropOldestAct_0 rfl
theorem dX6_dropOldestAct_5 : decode cX6_dropOldestAct 5 = .ok (.aaload, 1) := dq_get (L := lzddX6_dropOldestAct_0) 3 rfl zddX6_dropOldestAct_0 rfl
theorem dX6_dropOldestAct_6 : decode cX6_dropOldestAct 6 = .ok (.astore_n 1, 1) := dq_get (L := lzddX6_dropOldestAct_0) 4 rfl zddX6_dropOldestAct_0 rfl
theorem dX6_dropOldestAct_7 : decode cX6_dropOldestAct 7 = .ok (.iconst 1, 1) := dq_get (L := lzddX6_dropOldestAct_0) 5 rfl zddX6_dropOldestAct_0 rfl
theorem dX6_dropOldestAct_8 : decode cX6_dropOldestAct 8 = .ok (.istore_n 2, 1) := dq_get (L := lzddX6_dropOldestAct_0) 6 rfl zddX6_dropOldestAct_0 rfl
theorem dX6_dropOldestAct_9 : decode cX6_dropOldestAct 9 = .ok (.iload_n 2, 1) := dq_get (L := lzddX6_dropOldestAct_0) 7 rfl zddX6_dropOldestAct_0 rfl
theorem dX6_dropOldestAct_10 : decode cX6_dropOldestAct 10 = .ok (.bipush 12, 2) := dq_get (L := lzddX6_dropOldestAct_0) 8 rfl zddX6_dropOldestAct_0 rfl
theorem dX6_dropOldestAct_12 : decode cX6_dropOldestAct 12 = .ok (.if_icmp .ge 23, 3) := dq_get (L := lzddX6_dropOldestAct_0) 9 rfl zddX6_dropOldestAct_0 rfl
theorem dX6_dropOldestAct_15 : decode cX6_dropOldestAct 15 = .ok (.aload_n 0, 1) := dq_get (L := lzddX6_dropOldestAct_0) 10 rfl zddX6_dropOldestAct_0 rfl
theorem dX6_dropOldestAct_16 : decode cX6_dropOldestAct 16 = .ok (.getfield 11, 3) := dq_get (L := lzddX6_dropOldestAct_0) 11 rfl zddX6_dropOldestAct_0 rfl
theorem dX6_dropOldestAct_19 : decode cX6_dropOldestAct 19 = .ok (.iload_n 2, 1) := dq_get (L := lzddX6_dropOldestAct_0) 12 rfl zddX6_dropOldestAct_0 rfl
theorem dX6_dropOldestAct_20 : decode cX6_dropOldestAct 20 = .ok (.iconst 1, 1) := dq_get (L := lzddX6_dropOldestAct_0) 13 rfl zddX6_dropOldestAct_0 rfl
theorem dX6_dropOldestAct_21 : decode cX6_dropOldestAct 21 = .ok (.isub, 1) := dq_get (L := lzddX6_dropOldestAct_0) 14 rfl zddX6_dropOldestAct_0 rfl
theorem dX6_dropOldestAct_22 : decode cX6_dropOldestAct 22 = .ok (.aload_n 0, 1) := dq_get (L := lzddX6_dropOldestAct_0) 15 rfl zddX6_dropOldestAct_0 rfl
theorem dX6_dropOldestAct_23 : decode cX6_dropOldestAct 23 = .ok (.getfield 11, 3) := dq_get (L := lzddX6_dropOldestAct_0) 16 rfl zddX6_dropOldestAct_0 rfl
theorem dX6_dropOldestAct_26 : decode cX6_dropOldestAct 26 = .ok (.iload_n 2, 1) := dq_get (L := lzddX6_dropOldestAct_0) 17 rfl zddX6_dropOldestAct_0 rfl
theorem dX6_dropOldestAct_27 : decode cX6_dropOldestAct 27 = .ok (.aaload, 1) := dq_get (L := lzddX6_dropOldestAct_0) 18 rfl zddX6_dropOldestAct_0 rfl
theorem dX6_dropOldestAct_28 : decode cX6_dropOldestAct 28 = .ok (.aastore, 1) := dq_get (L := lzddX6_dropOldestAct_0) 19 rfl zddX6_dropOldestAct_0 rfl
def lzddX6_dropOldestAct_29 : List (Nat × Instr × Nat) := [(29, .iinc 2 1, 3), (32, .goto (-23), 3), (35, .aload_n 0, 1), (36, .getfield 11, 3), (39, .bipush 11, 2), (41, .aload_n 1, 1), (42, .aastore, 1), (43, .aload_n 0, 1), (44, .bipush 11, 2), (46, .putfield 21, 3), (49, .return_, 1)]
theorem zddX6_dropOldestAct_29 : dqW lzddX6_dropOldestAct_29 (cX6_dropOldestAct.data.toList.drop 29) 29 = true := by decide +kernel
theorem dX6_dropOldestAct_29 : decode cX6_dropOldestAct 29 = .ok (.iinc 2 1, 3) := dq_get (L := lzddX6_dropOldestAct_29) 0 rfl zddX6_dropOldestAct_29 rfl
theorem dX6_dropOldestAct_32 : decode cX6_dropOldestAct 32 = .ok (.goto (-23), 3) := dq_get (L := lzddX6_dropOldestAct_29) 1 rfl zddX6_dropOldestAct_29 rfl
theorem dX6_dropOldestAct_35 : decode cX6_dropOldestAct 35 = .ok (.aload_n 0, 1) := dq_get (L := lzddX6_dropOldestAct_29) 2 rfl zddX6_dropOldestAct_29 rfl
theorem dX6_dropOldestAct_36 : decode cX6_dropOldestAct 36 = .ok (.getfield 11, 3) := dq_get (L := lzddX6_dropOldestAct_29) 3 rfl zddX6_dropOldestAct_29 rfl
theorem dX6_dropOldestAct_39 : decode cX6_dropOldestAct 39 = .ok (.bipush 11, 2) := dq_get (L := lzddX6_dropOldestAct_29) 4 rfl zddX6_dropOldestAct_29 rfl
theorem dX6_dropOldestAct_41 : decode cX6_dropOldestAct 41 = .ok (.aload_n 1, 1) := dq_get (L := lzddX6_dropOldestAct_29) 5 rfl zddX6_dropOldestAct_29 rfl
theorem dX6_dropOldestAct_42 : decode cX6_dropOldestAct 42 = .ok (.aastore, 1) := dq_get (L := lzddX6_dropOldestAct_29) 6 rfl zddX6_dropOldestAct_29 rfl
theorem dX6_dropOldestAct_43 : decode cX6_dropOldestAct 43 = .ok (.aload_n 0, 1) := dq_get (L := lzddX6_dropOldestAct_29) 7 rfl zddX6_dropOldestAct_29 rfl
theorem dX6_dropOldestAct_44 : decode cX6_dropOldestAct 44 = .ok (.bipush 11, 2) := dq_get (L := lzddX6_dropOldestAct_29) 8 rfl zddX6_dropOldestAct_29 rfl
theorem dX6_dropOldestAct_46 : decode cX6_dropOldestAct 46 = .ok (.putfield 21, 3) := dq_get (L := lzddX6_dropOldestAct_29) 9 rfl zddX6_dropOldestAct_29 rfl
theorem dX6_dropOldestAct_49 : decode cX6_dropOldestAct 49 = .ok (.return_, 1) := dq_get (L := lzddX6_dropOldestAct_29) 10 rfl zddX6_dropOldestAct_29 rfl
def lzddX6_goBack_0 : List (Nat × Instr × Nat) := [(0, .iload_n 2, 1), (1, .ifCond .lt 11, 3), (4, .iload_n 2, 1), (5, .aload_n 0, 1), (6, .getfield 25, 3), (9, .if_icmp .lt 5, 3), (12, .iconst 0, 1), (13, .ireturn, 1), (14, .aload_n 1, 1), (15, .aload_n 0, 1), (16, .getfield 17, 3), (19, .iload_n 2, 1), (20, .aaload, 1), (21, .invokevirtual 31, 3), (24, .aload_n 0, 1), (25, .iconst 0, 1), (26, .putfield 21, 3), (29, .iconst 1, 1), (30, .ireturn, 1)]
theorem zddX6_goBack_0 : dqW lzddX6_goBack_0 (cX6_goBack.data.toList.drop 0) 0 = true := by decide +kernel
theorem dX6_goBack_0 : decode cX6_goBack 0 = .ok (.iload_n 2, 1) := dq_get (L := lzddX6_goBack_0) 0 rfl zddX6_goBack_0 rfl
theorem dX6_goBack_1 : decode cX6_goBack 1 = .ok (.ifCond .lt 11, 3) := dq_get (L := lzddX6_goBack_0) 1 rfl zddX6_goBack_0 rfl
theorem dX6_goBack_4 : decode cX6_goBack 4 = .ok (.iload_n 2, 1) := dq_get (L := lzddX6_goBack_0) 2 rfl zddX6_goBack_0 rfl
theorem dX6_goBack_5 : decode cX6_goBack 5 = .ok (.aload_n 0, 1) := dq_get (L := lzddX6_goBack_0) 3 rfl zddX6_goBack_0 rfl
theorem dX6_goBack_6 : decode cX6_goBack 6 = .ok (.getfield 25, 3) := dq_get (L := lzddX6_goBack_0) 4 rfl zddX6_goBack_0 rfl
theorem dX6_goBack_9 : decode cX6_goBack 9 = .ok (.if_icmp .lt 5, 3) := dq_get (L := lzddX6_goBack_0) 5 rfl zddX6_goBack_0 rfl
theorem dX6_goBack_12 : decode cX6_goBack 12 = .ok (.iconst 0, 1) := dq_get (L := lzddX6_goBack_0) 6 rfl zddX6_goBack_0 rfl
theorem dX6_goBack_13 : decode cX6_goBack 13 = .ok (.ireturn, 1) := dq_get (L := lzddX6_goBack_0) 7 rfl zddX6_goBack_0 rfl
theorem dX6_goBack_14 : decode cX6_goBack 14 = .ok (.aload_n 1, 1) := dq_get (L := lzddX6_goBack_0) 8 rfl zddX6_goBack_0 rfl
theorem dX6_goBack_15 : decode cX6_goBack 15 = .ok (.aload_n 0, 1) := dq_get (L := lzddX6_goBack_0) 9 rfl zddX6_goBack_0 rfl
theorem dX6_goBack_16 : decode cX6_goBack 16 = .ok (.getfield 17, 3) := dq_get (L := lzddX6_goBack_0) 10 rfl zddX6_goBack_0 rfl
theorem dX6_goBack_19 : decode cX6_goBack 19 = .ok (.iload_n 2, 1) := dq_get (L := lzddX6_goBack_0) 11 rfl zddX6_goBack_0 rfl
theorem dX6_goBack_20 : decode cX6_goBack 20 = .ok (.aaload, 1) := dq_get (L := lzddX6_goBack_0) 12 rfl zddX6_goBack_0 rfl
theorem dX6_goBack_21 : decode cX6_goBack 21 = .ok (.invokevirtual 31, 3) := dq_get (L := lzddX6_goBack_0) 13 rfl zddX6_goBack_0 rfl
theorem dX6_goBack_24 : decode cX6_goBack 24 = .ok (.aload_n 0, 1) := dq_get (L := lzddX6_goBack_0) 14 rfl zddX6_goBack_0 rfl
theorem dX6_goBack_25 : decode cX6_goBack 25 = .ok (.iconst 0, 1) := dq_get (L := lzddX6_goBack_0) 15 rfl zddX6_goBack_0 rfl
theorem dX6_goBack_26 : decode cX6_goBack 26 = .ok (.putfield 21, 3) := dq_get (L := lzddX6_goBack_0) 16 rfl zddX6_goBack_0 rfl
theorem dX6_goBack_29 : decode cX6_goBack 29 = .ok (.iconst 1, 1) := dq_get (L := lzddX6_goBack_0) 17 rfl zddX6_goBack_0 rfl
theorem dX6_goBack_30 : decode cX6_goBack 30 = .ok (.ireturn, 1) := dq_get (L := lzddX6_goBack_0) 18 rfl zddX6_goBack_0 rfl
def lzddX6_keepAct_0 : List (Nat × Instr × Nat) := [(0, .aload_n 0, 1), (1, .getfield 21, 3), (4, .bipush 12, 2), (6, .if_icmp .ne 7, 3), (9, .aload_n 0, 1), (10, .invokevirtual 28, 3), (13, .aload_n 0, 1), (14, .getfield 11, 3), (17, .aload_n 0, 1), (18, .getfield 21, 3), (21, .aaload, 1), (22, .aload_n 1, 1), (23, .invokevirtual 31, 3), (26, .aload_n 0, 1), (27, .dup, 1), (28, .getfield 21, 3), (31, .iconst 1, 1), (32, .iadd, 1), (33, .putfield 21, 3), (36, .return_, 1)]
theorem zddX6_keepAct_0 : dqW lzddX6_keepAct_0 (cX6_keepAct.data.toList.drop 0) 0 = true := by decide +kernel
theorem dX6_keepAct_0 : decode cX6_keepAct 0 = .ok (.aload_n 0, 1) := dq_get (L := lzddX6_keepAct_0) 0 rfl zddX6_keepAct_0 rfl
theorem dX6_keepAct_1 : decode cX6_keepAct 1 = .ok (.getfield 21, 3) := dq_get (L := lzddX6_keepAct_0) 1 rfl zddX6_keepAct_0 rfl
theorem dX6_keepAct_4 : decode cX6_keepAct 4 = .ok (.bipush 12, 2) := dq_get (L := lzddX6_keepAct_0) 2 rfl zddX6_keepAct_0 rfl
theorem dX6_keepAct_6 : decode cX6_keepAct 6 = .ok (.if_icmp .ne 7, 3) := dq_get (L := lzddX6_keepAct_0) 3 rfl zddX6_keepAct_0 rfl
theorem dX6_keepAct_9 : decode cX6_keepAct 9 = .ok (.aload_n 0, 1) := dq_get (L := lzddX6_keepAct_0) 4 rfl zddX6_keepAct_0 rfl
theorem dX6_keepAct_10 : decode cX6_keepAct 10 = .ok (.invokevirtual 28, 3) := dq_get (L := lzddX6_keepAct_0) 5 rfl zddX6_keepAct_0 rfl
theorem dX6_keepAct_13 : decode cX6_keepAct 13 = .ok (.aload_n 0, 1) := dq_get (L := lzddX6_keepAct_0) 6 rfl zddX6_keepAct_0 rfl
theorem dX6_keepAct_14 : decode cX6_keepAct 14 = .ok (.getfield 11, 3) := dq_get (L := lzddX6_keepAct_0) 7 rfl zddX6_keepAct_0 rfl
theorem dX6_keepAct_17 : decode cX6_keepAct 17 = .ok (.aload_n 0, 1) := dq_get (L := lzddX6_keepAct_0) 8 rfl zddX6_keepAct_0 rfl
theorem dX6_keepAct_18 : decode cX6_keepAct 18 = .ok (.getfield 21, 3) := dq_get (L := lzddX6_keepAct_0) 9 rfl zddX6_keepAct_0 rfl
theorem dX6_keepAct_21 : decode cX6_keepAct 21 = .ok (.aaload, 1) := dq_get (L := lzddX6_keepAct_0) 10 rfl zddX6_keepAct_0 rfl
theorem dX6_keepAct_22 : decode cX6_keepAct 22 = .ok (.aload_n 1, 1) := dq_get (L := lzddX6_keepAct_0) 11 rfl zddX6_keepAct_0 rfl
theorem dX6_keepAct_23 : decode cX6_keepAct 23 = .ok (.invokevirtual 31, 3) := dq_get (L := lzddX6_keepAct_0) 12 rfl zddX6_keepAct_0 rfl
theorem dX6_keepAct_26 : decode cX6_keepAct 26 = .ok (.aload_n 0, 1) := dq_get (L := lzddX6_keepAct_0) 13 rfl zddX6_keepAct_0 rfl
theorem dX6_keepAct_27 : decode cX6_keepAct 27 = .ok (.dup, 1) := dq_get (L := lzddX6_keepAct_0) 14 rfl zddX6_keepAct_0 rfl
theorem dX6_keepAct_28 : decode cX6_keepAct 28 = .ok (.getfield 21, 3) := dq_get (L := lzddX6_keepAct_0) 15 rfl zddX6_keepAct_0 rfl
theorem dX6_keepAct_31 : decode cX6_keepAct 31 = .ok (.iconst 1, 1) := dq_get (L := lzddX6_keepAct_0) 16 rfl zddX6_keepAct_0 rfl
theorem dX6_keepAct_32 : decode cX6_keepAct 32 = .ok (.iadd, 1) := dq_get (L := lzddX6_keepAct_0) 17 rfl zddX6_keepAct_0 rfl
theorem dX6_keepAct_33 : decode cX6_keepAct 33 = .ok (.putfield 21, 3) := dq_get (L := lzddX6_keepAct_0) 18 rfl zddX6_keepAct_0 rfl
theorem dX6_keepAct_36 : decode cX6_keepAct 36 = .ok (.return_, 1) := dq_get (L := lzddX6_keepAct_0) 19 rfl zddX6_keepAct_0 rfl
def lzddX6_keepMark_0 : List (Nat × Instr × Nat) := [(0, .aload_n 0, 1), (1, .getfield 25, 3), (4, .iconst 3, 1), (5, .if_icmp .ne 5, 3), (8, .iconst (-1), 1), (9, .ireturn, 1), (10, .aload_n 0, 1), (11, .getfield 17, 3), (14, .aload_n 0, 1), (15, .getfield 25, 3), (18, .aaload, 1), (19, .aload_n 1, 1), (20, .invokevirtual 31, 3), (23, .aload_n 0, 1), (24, .dup, 1), (25, .getfield 25, 3), (28, .iconst 1, 1), (29, .iadd, 1), (30, .putfield 25, 3), (33, .aload_n 0, 1)]
theorem zddX6_keepMark_0 : dqW lzddX6_keepMark_0 (cX6_keepMark.data.toList.drop 0) 0 = true := by decide +kernel
theorem dX6_keepMark_0 : decode cX6_keepMark 0 = .ok (.aload_n 0, 1) := dq_get (L := lzddX6_keepMark_0) 0 rfl zddX6_keepMark_0 rfl
theorem dX6_keepMark_1 : decode cX6_keepMark 1 = .ok (.getfield 25, 3) := dq_get (L := lzddX6_keepMark_0) 1 rfl zddX6_keepMark_0 rfl
theorem dX6_keepMark_4 : decode cX6_keepMark 4 = .ok (.iconst 3, 1) := dq_get (L := lzddX6_keepMark_0) 2 rfl zddX6_keepMark_0 rfl
theorem dX6_keepMark_5 : decode cX6_keepMark 5 = .ok (.if_icmp .ne 5, 3) := dq_get (L := lzddX6_keepMark_0) 3 rfl zddX6_keepMark_0 rfl
theorem dX6_keepMark_8 : decode cX6_keepMark 8 = .ok (.iconst (-1), 1) := dq_get (L := lzddX6_keepMark_0) 4 rfl zddX6_keepMark_0 rfl
theorem dX6_keepMark_9 : decode cX6_keepMark 9 = .ok (.ireturn, 1) := dq_get (L := lzddX6_keepMark_0) 5 rfl zddX6_keepMark_0 rfl
theorem dX6_keepMark_10 : decode cX6_keepMark 10 = .ok (.aload_n 0, 1) := dq_get (L := lzddX6_keepMark_0) 6 rfl zddX6_keepMark_0 rfl
theorem dX6_keepMark_11 : decode cX6_keepMark 11 = .ok (.getfield 17, 3) := dq_get (L := lzddX6_keepMark_0) 7 rfl zddX6_keepMark_0 rfl
theorem dX6_keepMark_14 : decode cX6_keepMark 14 = .ok (.aload_n 0, 1) := dq_get (L := lzddX6_keepMark_0) 8 rfl zddX6_keepMark_0 rfl
theorem dX6_keepMark_15 : decode cX6_keepMark 15 = .ok (.getfield 25, 3) := dq_get (L := lzddX6_keepMark_0) 9 rfl zddX6_keepMark_0 rfl
theorem dX6_keepMark_18 : decode cX6_keepMark 18 = .ok (.aaload, 1) := dq_get (L := lzddX6_keepMark_0) 10 rfl zddX6_keepMark_0 rfl
theorem dX6_keepMark_19 : decode cX6_keepMark 19 = .ok (.aload_n 1, 1) := dq_get (L := lzddX6_keepMark_0) 11 rfl zddX6_keepMark_0 rfl
theorem dX6_keepMark_20 : decode cX6_keepMark 20 = .ok (.invokevirtual 31, 3) := dq_get (L := lzddX6_keepMark_0) 12 rfl zddX6_keepMark_0 rfl
theorem dX6_keepMark_23 : decode cX6_keepMark 23 = .ok (.aload_n 0, 1) := dq_get (L := lzddX6_keepMark_0) 13 rfl zddX6_keepMark_0 rfl
theorem dX6_keepMark_24 : decode cX6_keepMark 24 = .ok (.dup, 1) := dq_get (L := lzddX6_keepMark_0) 14 rfl zddX6_keepMark_0 rfl
theorem dX6_keepMark_25 : decode cX6_keepMark 25 = .ok (.getfield 25, 3) := dq_get (L := lzddX6_keepMark_0) 15 rfl zddX6_keepMark_0 rfl
theorem dX6_keepMark_28 : decode cX6_keepMark 28 = .ok (.iconst 1, 1) := dq_get (L := lzddX6_keepMark_0) 16 rfl zddX6_keepMark_0 rfl
theorem dX6_keepMark_29 : decode cX6_keepMark 29 = .ok (.iadd, 1) := dq_get (L := lzddX6_keepMark_0) 17 rfl zddX6_keepMark_0 rfl
theorem dX6_keepMark_30 : decode cX6_keepMark 30 = .ok (.putfield 25, 3) := dq_get (L := lzddX6_keepMark_0) 18 rfl zddX6_keepMark_0 rfl
theorem dX6_keepMark_33 : decode cX6_keepMark 33 = .ok (.aload_n 0, 1) := dq_get (L := lzddX6_keepMark_0) 19 rfl zddX6_keepMark_0 rfl
def lzddX6_keepMark_34 : List (Nat × Instr × Nat) := [(34, .getfield 25, 3), (37, .iconst 1, 1), (38, .isub, 1), (39, .ireturn, 1)]
theorem zddX6_keepMark_34 : dqW lzddX6_keepMark_34 (cX6_keepMark.data.toList.drop 34) 34 = true := by decide +kernel
theorem dX6_keepMark_34 : decode cX6_keepMark 34 = .ok (.getfield 25, 3) := dq_get (L := lzddX6_keepMark_34) 0 rfl zddX6_keepMark_34 rfl
theorem dX6_keepMark_37 : decode cX6_keepMark 37 = .ok (.iconst 1, 1) := dq_get (L := lzddX6_keepMark_34) 1 rfl zddX6_keepMark_34 rfl
theorem dX6_keepMark_38 : decode cX6_keepMark 38 = .ok (.isub, 1) := dq_get (L := lzddX6_keepMark_34) 2 rfl zddX6_keepMark_34 rfl
theorem dX6_keepMark_39 : decode cX6_keepMark 39 = .ok (.ireturn, 1) := dq_get (L := lzddX6_keepMark_34) 3 rfl zddX6_keepMark_34 rfl
def lzddX6_takeBack_0 : List (Nat × Instr × Nat) := [(0, .aload_n 0, 1), (1, .getfield 21, 3), (4, .ifCond .ne 5, 3), (7, .iconst 0, 1), (8, .ireturn, 1), (9, .aload_n 0, 1), (10, .dup, 1), (11, .getfield 21, 3), (14, .iconst 1, 1), (15, .isub, 1), (16, .putfield 21, 3), (19, .aload_n 1, 1), (20, .aload_n 0, 1), (21, .getfield 11, 3), (24, .aload_n 0, 1), (25, .getfield 21, 3), (28, .aaload, 1), (29, .invokevirtual 31, 3), (32, .iconst 1, 1), (33, .ireturn, 1)]
theorem zddX6_takeBack_0 : dqW lzddX6_takeBack_0 (cX6_takeBack.data.toList.drop 0) 0 = true := by decide +kernel
theorem dX6_takeBack_0 : decode cX6_takeBack 0 = .ok (.aload_n 0, 1) := dq_get (L := lzddX6_takeBack_0) 0 rfl zddX6_takeBack_0 rfl
theorem dX6_takeBack_1 : decode cX6_takeBack 1 = .ok (.getfield 21, 3) := dq_get (L := lzddX6_takeBack_0) 1 rfl zddX6_takeBack_0 rfl
theorem dX6_takeBack_4 : decode cX6_takeBack 4 = .ok (.ifCond .ne 5, 3) := dq_get (L := lzddX6_takeBack_0) 2 rfl zddX6_takeBack_0 rfl
theorem dX6_takeBack_7 : decode cX6_takeBack 7 = .ok (.iconst 0, 1) := dq_get (L := lzddX6_takeBack_0) 3 rfl zddX6_takeBack_0 rfl
theorem dX6_takeBack_8 : decode cX6_takeBack 8 = .ok (.ireturn, 1) := dq_get (L := lzddX6_takeBack_0) 4 rfl zddX6_takeBack_0 rfl
theorem dX6_takeBack_9 : decode cX6_takeBack 9 = .ok (.aload_n 0, 1) := dq_get (L := lzddX6_takeBack_0) 5 rfl zddX6_takeBack_0 rfl
theorem dX6_takeBack_10 : decode cX6_takeBack 10 = .ok (.dup, 1) := dq_get (L := lzddX6_takeBack_0) 6 rfl zddX6_takeBack_0 rfl
theorem dX6_takeBack_11 : decode cX6_takeBack 11 = .ok (.getfield 21, 3) := dq_get (L := lzddX6_takeBack_0) 7 rfl zddX6_takeBack_0 rfl
theorem dX6_takeBack_14 : decode cX6_takeBack 14 = .ok (.iconst 1, 1) := dq_get (L := lzddX6_takeBack_0) 8 rfl zddX6_takeBack_0 rfl
theorem dX6_takeBack_15 : decode cX6_takeBack 15 = .ok (.isub, 1) := dq_get (L := lzddX6_takeBack_0) 9 rfl zddX6_takeBack_0 rfl
theorem dX6_takeBack_16 : decode cX6_takeBack 16 = .ok (.putfield 21, 3) := dq_get (L := lzddX6_takeBack_0) 10 rfl zddX6_takeBack_0 rfl
theorem dX6_takeBack_19 : decode cX6_takeBack 19 = .ok (.aload_n 1, 1) := dq_get (L := lzddX6_takeBack_0) 11 rfl zddX6_takeBack_0 rfl
theorem dX6_takeBack_20 : decode cX6_takeBack 20 = .ok (.aload_n 0, 1) := dq_get (L := lzddX6_takeBack_0) 12 rfl zddX6_takeBack_0 rfl
theorem dX6_takeBack_21 : decode cX6_takeBack 21 = .ok (.getfield 11, 3) := dq_get (L := lzddX6_takeBack_0) 13 rfl zddX6_takeBack_0 rfl
theorem dX6_takeBack_24 : decode cX6_takeBack 24 = .ok (.aload_n 0, 1) := dq_get (L := lzddX6_takeBack_0) 14 rfl zddX6_takeBack_0 rfl
theorem dX6_takeBack_25 : decode cX6_takeBack 25 = .ok (.getfield 21, 3) := dq_get (L := lzddX6_takeBack_0) 15 rfl zddX6_takeBack_0 rfl
theorem dX6_takeBack_28 : decode cX6_takeBack 28 = .ok (.aaload, 1) := dq_get (L := lzddX6_takeBack_0) 16 rfl zddX6_takeBack_0 rfl
theorem dX6_takeBack_29 : decode cX6_takeBack 29 = .ok (.invokevirtual 31, 3) := dq_get (L := lzddX6_takeBack_0) 17 rfl zddX6_takeBack_0 rfl
theorem dX6_takeBack_32 : decode cX6_takeBack 32 = .ok (.iconst 1, 1) := dq_get (L := lzddX6_takeBack_0) 18 rfl zddX6_takeBack_0 rfl
theorem dX6_takeBack_33 : decode cX6_takeBack 33 = .ok (.ireturn, 1) := dq_get (L := lzddX6_takeBack_0) 19 rfl zddX6_takeBack_0 rfl
def lzddX7_fail_0 : List (Nat × Instr × Nat) := [(0, .aload_n 0, 1), (1, .iload_n 1, 1), (2, .putfield 38, 3), (5, .aload_n 0, 1), (6, .aload_n 0, 1), (7, .getfield 68, 3), (10, .putfield 42, 3), (13, .iconst 0, 1), (14, .ireturn, 1)]
theorem zddX7_fail_0 : dqW lzddX7_fail_0 (cX7_fail.data.toList.drop 0) 0 = true := by decide +kernel
theorem dX7_fail_0 : decode cX7_fail 0 = .ok (.aload_n 0, 1) := dq_get (L := lzddX7_fail_0) 0 rfl zddX7_fail_0 rfl
theorem dX7_fail_1 : decode cX7_fail 1 = .ok (.iload_n 1, 1) := dq_get (L := lzddX7_fail_0) 1 rfl zddX7_fail_0 rfl
theorem dX7_fail_2 : decode cX7_fail 2 = .ok (.putfield 38, 3) := dq_get (L := lzddX7_fail_0) 2 rfl zddX7_fail_0 rfl
theorem dX7_fail_5 : decode cX7_fail 5 = .ok (.aload_n 0, 1) := dq_get (L := lzddX7_fail_0) 3 rfl zddX7_fail_0 rfl
theorem dX7_fail_6 : decode cX7_fail 6 = .ok (.aload_n 0, 1) := dq_get (L := lzddX7_fail_0) 4 rfl zddX7_fail_0 rfl
theorem dX7_fail_7 : decode cX7_fail 7 = .ok (.getfield 68, 3) := dq_get (L := lzddX7_fail_0) 5 rfl zddX7_fail_0 rfl
theorem dX7_fail_10 : decode cX7_fail 10 = .ok (.putfield 42, 3) := dq_get (L := lzddX7_fail_0) 6 rfl zddX7_fail_0 rfl
theorem dX7_fail_13 : decode cX7_fail 13 = .ok (.iconst 0, 1) := dq_get (L := lzddX7_fail_0) 7 rfl zddX7_fail_0 rfl
theorem dX7_fail_14 : decode cX7_fail 14 = .ok (.ireturn, 1) := dq_get (L := lzddX7_fail_0) 8 rfl zddX7_fail_0 rfl
def lzddX7_isFull_0 : List (Nat × Instr × Nat) := [(0, .iload_n 1, 1)]
theorem zddX7_isFull_0 : dqW lzddX7_isFull_0 (cX7_isFull.data.toList.drop 0) 0 = true := by decide +kernel
theorem dX7_isFull_0 : decode cX7_isFull 0 = .ok (.iload_n 1, 1) := dq_get (L := lzddX7_isFull_0) 0 rfl zddX7_isFull_0 rfl
theorem dX7_isFull_1 : decode cX7_isFull 1 = .ok (.tableswitch 111 5 10 #[41, 39, 59, 76, 94, 39], 39) := by decide +kernel
def lzddX7_isFull_40 : List (Nat × Instr × Nat) := [(40, .iconst 0, 1), (41, .ireturn, 1), (42, .aload_n 0, 1), (43, .getfield 22, 3), (46, .getfield 61, 3), (49, .bipush 8, 2), (51, .if_icmp .lt 7, 3), (54, .iconst 1, 1), (55, .goto 4, 3), (58, .iconst 0, 1), (59, .ireturn, 1), (60, .aload_n 0, 1), (61, .getfield 22, 3), (64, .getfield 156, 3), (67, .iconst 5, 1), (68, .if_icmp .lt 7, 3), (71, .iconst 1, 1), (72, .goto 4, 3), (75, .iconst 0, 1), (76, .ireturn, 1)]
theorem zddX7_isFull_40 : dqW lzddX7_isFull_40 (cX7_isFull.data.toList.drop 40) 40 = true := by decide +kernel
theorem dX7_isFull_40 : decode cX7_isFull 40 = .ok (.iconst 0, 1) := dq_get (L := lzddX7_isFull_40) 0 rfl zddX7_isFull_40 rfl
theorem dX7_isFull_41 : decode cX7_isFull 41 = .ok (.ireturn, 1) := dq_get (L := lzddX7_isFull_40) 1 rfl zddX7_isFull_40 rfl
theorem dX7_isFull_42 : decode cX7_isFull 42 = .ok (.aload_n 0, 1) := dq_get (L := lzddX7_isFull_40) 2 rfl zddX7_isFull_40 rfl
theorem dX7_isFull_43 : decode cX7_isFull 43 = .ok (.getfield 22, 3) := dq_get (L := lzddX7_isFull_40) 3 rfl zddX7_isFull_40 rfl
theorem dX7_isFull_46 : decode cX7_isFull 46 = .ok (.getfield 61, 3) := dq_get (L := lzddX7_isFull_40) 4 rfl zddX7_isFull_40 rfl
theorem dX7_isFull_49 : decode cX7_isFull 49 = .ok (.bipush 8, 2) := dq_get (L := lzddX7_isFull_40) 5 rfl zddX7_isFull_40 rfl
theorem dX7_isFull_51 : decode cX7_isFull 51 = .ok (.if_icmp .lt 7, 3) := dq_get (L := lzddX7_isFull_40) 6 rfl zddX7_isFull_40 rfl
theorem dX7_isFull_54 : decode cX7_isFull 54 = .ok (.iconst 1, 1) := dq_get (L := lzddX7_isFull_40) 7 rfl zddX7_isFull_40 rfl
theorem dX7_isFull_55 : decode cX7_isFull 55 = .ok (.goto 4, 3) := dq_get (L := lzddX7_isFull_40) 8 rfl zddX7_isFull_40 rfl
theorem dX7_isFull_58 : decode cX7_isFull 58 = .ok (.iconst 0, 1) := dq_get (L := lzddX7_isFull_40) 9 rfl zddX7_isFull_40 rfl
theorem dX7_isFull_59 : decode cX7_isFull 59 = .ok (.ireturn, 1) := dq_get (L := lzddX7_isFull_40) 10 rfl zddX7_isFull_40 rfl
theorem dX7_isFull_60 : decode cX7_isFull 60 = .ok (.aload_n 0, 1) := dq_get (L := lzddX7_isFull_40) 11 rfl zddX7_isFull_40 rfl
theorem dX7_isFull_61 : decode cX7_isFull 61 = .ok (.getfield 22, 3) := dq_get (L := lzddX7_isFull_40) 12 rfl zddX7_isFull_40 rfl
theorem dX7_isFull_64 : decode cX7_isFull 64 = .ok (.getfield 156, 3) := dq_get (L := lzddX7_isFull_40) 13 rfl zddX7_isFull_40 rfl
theorem dX7_isFull_67 : decode cX7_isFull 67 = .ok (.iconst 5, 1) := dq_get (L := lzddX7_isFull_40) 14 rfl zddX7_isFull_40 rfl
theorem dX7_isFull_68 : decode cX7_isFull 68 = .ok (.if_icmp .lt 7, 3) := dq_get (L := lzddX7_isFull_40) 15 rfl zddX7_isFull_40 rfl
theorem dX7_isFull_71 : decode cX7_isFull 71 = .ok (.iconst 1, 1) := dq_get (L := lzddX7_isFull_40) 16 rfl zddX7_isFull_40 rfl
theorem dX7_isFull_72 : decode cX7_isFull 72 = .ok (.goto 4, 3) := dq_get (L := lzddX7_isFull_40) 17 rfl zddX7_isFull_40 rfl
theorem dX7_isFull_75 : decode cX7_isFull 75 = .ok (.iconst 0, 1) := dq_get (L := lzddX7_isFull_40) 18 rfl zddX7_isFull_40 rfl
theorem dX7_isFull_76 : decode cX7_isFull 76 = .ok (.ireturn, 1) := dq_get (L := lzddX7_isFull_40) 19 rfl zddX7_isFull_40 rfl
def lzddX7_isFull_77 : List (Nat × Instr × Nat) := [(77, .aload_n 0, 1), (78, .getfield 22, 3), (81, .getfield 159, 3), (84, .bipush 6, 2), (86, .if_icmp .lt 7, 3), (89, .iconst 1, 1), (90, .goto 4, 3), (93, .iconst 0, 1), (94, .ireturn, 1), (95, .aload_n 0, 1), (96, .getfield 22, 3), (99, .getfield 162, 3), (102, .iconst 4, 1), (103, .if_icmp .lt 7, 3), (106, .iconst 1, 1), (107, .goto 4, 3), (110, .iconst 0, 1), (111, .ireturn, 1), (112, .aload_n 0, 1), (113, .getfield 22, 3)]
theorem zddX7_isFull_77 : dqW lzddX7_isFull_77 (cX7_isFull.data.toList.drop 77) 77 = true := by decide +kernel
theorem dX7_isFull_77 : decode cX7_isFull 77 = .ok (.aload_n 0, 1) := dq_get (L := lzddX7_isFull_77) 0 rfl zddX7_isFull_77 rfl
theorem dX7_isFull_78 : decode cX7_isFull 78 = .ok (.getfield 22, 3) := dq_get (L := lzddX7_isFull_77) 1 rfl zddX7_isFull_77 rfl
theorem dX7_isFull_81 : decode cX7_isFull 81 = .ok (.getfield 159, 3) := dq_get (L := lzddX7_isFull_77) 2 rfl zddX7_isFull_77 rfl
theorem dX7_isFull_84 : decode cX7_isFull 84 = .ok (.bipush 6, 2) := dq_get (L := lzddX7_isFull_77) 3 rfl zddX7_isFull_77 rfl
theorem dX7_isFull_86 : decode cX7_isFull 86 = .ok (.if_icmp .lt 7, 3) := dq_get (L := lzddX7_isFull_77) 4 rfl zddX7_isFull_77 rfl
theorem dX7_isFull_89 : decode cX7_isFull 89 = .ok (.iconst 1, 1) := dq_get (L := lzddX7_isFull_77) 5 rfl zddX7_isFull_77 rfl
theorem dX7_isFull_90 : decode cX7_isFull 90 = .ok (.goto 4, 3) := dq_get (L := lzddX7_isFull_77) 6 rfl zddX7_isFull_77 rfl
theorem dX7_isFull_93 : decode cX7_isFull 93 = .ok (.iconst 0, 1) := dq_get (L := lzddX7_isFull_77) 7 rfl zddX7_isFull_77 rfl
theorem dX7_isFull_94 : decode cX7_isFull 94 = .ok (.ireturn, 1) := dq_get (L := lzddX7_isFull_77) 8 rfl zddX7_isFull_77 rfl
theorem dX7_isFull_95 : decode cX7_isFull 95 = .ok (.aload_n 0, 1) := dq_get (L := lzddX7_isFull_77) 9 rfl zddX7_isFull_77 rfl
theorem dX7_isFull_96 : decode cX7_isFull 96 = .ok (.getfield 22, 3) := dq_get (L := lzddX7_isFull_77) 10 rfl zddX7_isFull_77 rfl
theorem dX7_isFull_99 : decode cX7_isFull 99 = .ok (.getfield 162, 3) := dq_get (L := lzddX7_isFull_77) 11 rfl zddX7_isFull_77 rfl
theorem dX7_isFull_102 : decode cX7_isFull 102 = .ok (.iconst 4, 1) := dq_get (L := lzddX7_isFull_77) 12 rfl zddX7_isFull_77 rfl
theorem dX7_isFull_103 : decode cX7_isFull 103 = .ok (.if_icmp .lt 7, 3) := dq_get (L := lzddX7_isFull_77) 13 rfl zddX7_isFull_77 rfl
theorem dX7_isFull_106 : decode cX7_isFull 106 = .ok (.iconst 1, 1) := dq_get (L := lzddX7_isFull_77) 14 rfl zddX7_isFull_77 rfl
theorem dX7_isFull_107 : decode cX7_isFull 107 = .ok (.goto 4, 3) := dq_get (L := lzddX7_isFull_77) 15 rfl zddX7_isFull_77 rfl
theorem dX7_isFull_110 : decode cX7_isFull 110 = .ok (.iconst 0, 1) := dq_get (L := lzddX7_isFull_77) 16 rfl zddX7_isFull_77 rfl
theorem dX7_isFull_111 : decode cX7_isFull 111 = .ok (.ireturn, 1) := dq_get (L := lzddX7_isFull_77) 17 rfl zddX7_isFull_77 rfl
theorem dX7_isFull_112 : decode cX7_isFull 112 = .ok (.aload_n 0, 1) := dq_get (L := lzddX7_isFull_77) 18 rfl zddX7_isFull_77 rfl
theorem dX7_isFull_113 : decode cX7_isFull 113 = .ok (.getfield 22, 3) := dq_get (L := lzddX7_isFull_77) 19 rfl zddX7_isFull_77 rfl
def lzddX7_isFull_116 : List (Nat × Instr × Nat) := [(116, .getfield 165, 3), (119, .bipush 14, 2), (121, .if_icmp .lt 7, 3), (124, .iconst 1, 1), (125, .goto 4, 3), (128, .iconst 0, 1), (129, .ireturn, 1)]
theorem zddX7_isFull_116 : dqW lzddX7_isFull_116 (cX7_isFull.data.toList.drop 116) 116 = true := by decide +kernel
theorem dX7_isFull_116 : decode cX7_isFull 116 = .ok (.getfield 165, 3) := dq_get (L := lzddX7_isFull_116) 0 rfl zddX7_isFull_116 rfl
theorem dX7_isFull_119 : decode cX7_isFull 119 = .ok (.bipush 14, 2) := dq_get (L := lzddX7_isFull_116) 1 rfl zddX7_isFull_116 rfl
theorem dX7_isFull_121 : decode cX7_isFull 121 = .ok (.if_icmp .lt 7, 3) := dq_get (L := lzddX7_isFull_116) 2 rfl zddX7_isFull_116 rfl
theorem dX7_isFull_124 : decode cX7_isFull 124 = .ok (.iconst 1, 1) := dq_get (L := lzddX7_isFull_116) 3 rfl zddX7_isFull_116 rfl
theorem dX7_isFull_125 : decode cX7_isFull 125 = .ok (.goto 4, 3) := dq_get (L := lzddX7_isFull_116) 4 rfl zddX7_isFull_116 rfl
theorem dX7_isFull_128 : decode cX7_isFull 128 = .ok (.iconst 0, 1) := dq_get (L := lzddX7_isFull_116) 5 rfl zddX7_isFull_116 rfl
theorem dX7_isFull_129 : decode cX7_isFull 129 = .ok (.ireturn, 1) := dq_get (L := lzddX7_isFull_116) 6 rfl zddX7_isFull_116 rfl
def lzddX7_isToldAgain_0 : List (Nat × Instr × Nat) := [(0, .iload_n 1, 1), (1, .bipush 10, 2), (3, .if_icmp .ne 10, 3), (6, .aload_n 0, 1), (7, .getfield 31, 3), (10, .ifCond .ne 16, 3), (13, .iload_n 1, 1), (14, .bipush 6, 2), (16, .if_icmp .ne 14, 3), (19, .aload_n 0, 1), (20, .getfield 35, 3), (23, .ifCond .eq 7, 3), (26, .iconst 1, 1), (27, .goto 4, 3), (30, .iconst 0, 1), (31, .ireturn, 1)]
theorem zddX7_isToldAgain_0 : dqW lzddX7_isToldAgain_0 (cX7_isToldAgain.data.toList.drop 0) 0 = true := by decide +kernel
theorem dX7_isToldAgain_0 : decode cX7_isToldAgain 0 = .ok (.iload_n 1, 1) := dq_get (L := lzddX7_isToldAgain_0) 0 rfl zddX7_isToldAgain_0 rfl
theorem dX7_isToldAgain_1 : decode cX7_isToldAgain 1 = .ok (.bipush 10, 2) := dq_get (L := lzddX7_isToldAgain_0) 1 rfl zddX7_isToldAgain_0 rfl
theorem dX7_isToldAgain_3 : decode cX7_isToldAgain 3 = .ok (.if_icmp .ne 10, 3) := dq_get (L := lzddX7_isToldAgain_0) 2 rfl zddX7_isToldAgain_0 rfl
theorem dX7_isToldAgain_6 : decode cX7_isToldAgain 6 = .ok (.aload_n 0, 1) := dq_get (L := lzddX7_isToldAgain_0) 3 rfl zddX7_isToldAgain_0 rfl
theorem dX7_isToldAgain_7 : decode cX7_isToldAgain 7 = .ok (.getfield 31, 3) := dq_get (L := lzddX7_isToldAgain_0) 4 rfl zddX7_isToldAgain_0 rfl
theorem dX7_isToldAgain_10 : decode cX7_isToldAgain 10 = .ok (.ifCond .ne 16, 3) := dq_get (L := lzddX7_isToldAgain_0) 5 rfl zddX7_isToldAgain_0 rfl
theorem dX7_isToldAgain_13 : decode cX7_isToldAgain 13 = .ok (.iload_n 1, 1) := dq_get (L := lzddX7_isToldAgain_0) 6 rfl zddX7_isToldAgain_0 rfl
theorem dX7_isToldAgain_14 : decode cX7_isToldAgain 14 = .ok (.bipush 6, 2) := dq_get (L := lzddX7_isToldAgain_0) 7 rfl zddX7_isToldAgain_0 rfl
theorem dX7_isToldAgain_16 : decode cX7_isToldAgain 16 = .ok (.if_icmp .ne 14, 3) := dq_get (L := lzddX7_isToldAgain_0) 8 rfl zddX7_isToldAgain_0 rfl
theorem dX7_isToldAgain_19 : decode cX7_isToldAgain 19 = .ok (.aload_n 0, 1) := dq_get (L := lzddX7_isToldAgain_0) 9 rfl zddX7_isToldAgain_0 rfl
theorem dX7_isToldAgain_20 : decode cX7_isToldAgain 20 = .ok (.getfield 35, 3) := dq_get (L := lzddX7_isToldAgain_0) 10 rfl zddX7_isToldAgain_0 rfl
theorem dX7_isToldAgain_23 : decode cX7_isToldAgain 23 = .ok (.ifCond .eq 7, 3) := dq_get (L := lzddX7_isToldAgain_0) 11 rfl zddX7_isToldAgain_0 rfl
theorem dX7_isToldAgain_26 : decode cX7_isToldAgain 26 = .ok (.iconst 1, 1) := dq_get (L := lzddX7_isToldAgain_0) 12 rfl zddX7_isToldAgain_0 rfl
theorem dX7_isToldAgain_27 : decode cX7_isToldAgain 27 = .ok (.goto 4, 3) := dq_get (L := lzddX7_isToldAgain_0) 13 rfl zddX7_isToldAgain_0 rfl
theorem dX7_isToldAgain_30 : decode cX7_isToldAgain 30 = .ok (.iconst 0, 1) := dq_get (L := lzddX7_isToldAgain_0) 14 rfl zddX7_isToldAgain_0 rfl
theorem dX7_isToldAgain_31 : decode cX7_isToldAgain 31 = .ok (.ireturn, 1) := dq_get (L := lzddX7_isToldAgain_0) 15 rfl zddX7_isToldAgain_0 rfl
def lzddX7_isToldCheese_0 : List (Nat × Instr × Nat) := [(0, .iconst 0, 1), (1, .istore_n 1, 1), (2, .iload_n 1, 1), (3, .aload_n 0, 1), (4, .getfield 22, 3), (7, .getfield 61, 3), (10, .if_icmp .ge 25, 3), (13, .aload_n 0, 1), (14, .getfield 9, 3), (17, .iload_n 1, 1), (18, .laload, 1), (19, .aload_n 0, 1), (20, .getfield 78, 3), (23, .lcmp, 1), (24, .ifCond .ne 5, 3), (27, .iconst 1, 1), (28, .ireturn, 1), (29, .iinc 1 1, 3), (32, .goto (-30), 3), (35, .iconst 0, 1)]
theorem zddX7_isToldCheese_0 : dqW lzddX7_isToldCheese_0 (cX7_isToldCheese.data.toList.drop 0) 0 = true := by decide +kernel
theorem dX7_isToldCheese_0 : decode cX7_isToldCheese 0 = .ok (.iconst 0, 1) := dq_get (L := lzddX7_isToldCheese_0) 0 rfl zddX7_isToldCheese_0 rfl
theorem dX7_isToldCheese_1 : decode cX7_isToldCheese 1 = .ok (.istore_n 1, 1) := dq_get (L := lzddX7_isToldCheese_0) 1 rfl zddX7_isToldCheese_0 rfl
theorem dX7_isToldCheese_2 : decode cX7_isToldCheese 2 = .ok (.iload_n 1, 1) := dq_get (L := lzddX7_isToldCheese_0) 2 rfl zddX7_isToldCheese_0 rfl
theorem dX7_isToldCheese_3 : decode cX7_isToldCheese 3 = .ok (.aload_n 0, 1) := dq_get (L := lzddX7_isToldCheese_0) 3 rfl zddX7_isToldCheese_0 rfl
theorem dX7_isToldCheese_4 : decode cX7_isToldCheese 4 = .ok (.getfield 22, 3) := dq_get (L := lzddX7_isToldCheese_0) 4 rfl zddX7_isToldCheese_0 rfl
theorem dX7_isToldCheese_7 : decode cX7_isToldCheese 7 = .ok (.getfield 61, 3) := dq_get (L := lzddX7_isToldCheese_0) 5 rfl zddX7_isToldCheese_0 rfl
theorem dX7_isToldCheese_10 : decode cX7_isToldCheese 10 = .ok (.if_icmp .ge 25, 3) := dq_get (L := lzddX7_isToldCheese_0) 6 rfl zddX7_isToldCheese_0 rfl
theorem dX7_isToldCheese_13 : decode cX7_isToldCheese 13 = .ok (.aload_n 0, 1) := dq_get (L := lzddX7_isToldCheese_0) 7 rfl zddX7_isToldCheese_0 rfl
theorem dX7_isToldCheese_14 : decode cX7_isToldCheese 14 = .ok (.getfield 9, 3) := dq_get (L := lzddX7_isToldCheese_0) 8 rfl zddX7_isToldCheese_0 rfl
theorem dX7_isToldCheese_17 : decode cX7_isToldCheese 17 = .ok (.iload_n 1, 1) := dq_get (L := lzddX7_isToldCheese_0) 9 rfl zddX7_isToldCheese_0 rfl
theorem dX7_isToldCheese_18 : decode cX7_isToldCheese 18 = .ok (.laload, 1) := dq_get (L := lzddX7_isToldCheese_0) 10 rfl zddX7_isToldCheese_0 rfl
theorem dX7_isToldCheese_19 : decode cX7_isToldCheese 19 = .ok (.aload_n 0, 1) := dq_get (L := lzddX7_isToldCheese_0) 11 rfl zddX7_isToldCheese_0 rfl
theorem dX7_isToldCheese_20 : decode cX7_isToldCheese 20 = .ok (.getfield 78, 3) := dq_get (L := lzddX7_isToldCheese_0) 12 rfl zddX7_isToldCheese_0 rfl
theorem dX7_isToldCheese_23 : decode cX7_isToldCheese 23 = .ok (.lcmp, 1) := dq_get (L := lzddX7_isToldCheese_0) 13 rfl zddX7_isToldCheese_0 rfl
theorem dX7_isToldCheese_24 : decode cX7_isToldCheese 24 = .ok (.ifCond .ne 5, 3) := dq_get (L := lzddX7_isToldCheese_0) 14 rfl zddX7_isToldCheese_0 rfl
theorem dX7_isToldCheese_27 : decode cX7_isToldCheese 27 = .ok (.iconst 1, 1) := dq_get (L := lzddX7_isToldCheese_0) 15 rfl zddX7_isToldCheese_0 rfl
theorem dX7_isToldCheese_28 : decode cX7_isToldCheese 28 = .ok (.ireturn, 1) := dq_get (L := lzddX7_isToldCheese_0) 16 rfl zddX7_isToldCheese_0 rfl
theorem dX7_isToldCheese_29 : decode cX7_isToldCheese 29 = .ok (.iinc 1 1, 3) := dq_get (L := lzddX7_isToldCheese_0) 17 rfl zddX7_isToldCheese_0 rfl
theorem dX7_isToldCheese_32 : decode cX7_isToldCheese 32 = .ok (.goto (-30), 3) := dq_get (L := lzddX7_isToldCheese_0) 18 rfl zddX7_isToldCheese_0 rfl
theorem dX7_isToldCheese_35 : decode cX7_isToldCheese 35 = .ok (.iconst 0, 1) := dq_get (L := lzddX7_isToldCheese_0) 19 rfl zddX7_isToldCheese_0 rfl
def lzddX7_isToldCheese_36 : List (Nat × Instr × Nat) := [(36, .ireturn, 1)]
theorem zddX7_isToldCheese_36 : dqW lzddX7_isToldCheese_36 (cX7_isToldCheese.data.toList.drop 36) 36 = true := by decide +kernel
theorem dX7_isToldCheese_36 : decode cX7_isToldCheese 36 = .ok (.ireturn, 1) := dq_get (L := lzddX7_isToldCheese_36) 0 rfl zddX7_isToldCheese_36 rfl
def lzddX7_lineWord_0 : List (Nat × Instr × Nat) := [(0, .iload_n 0, 1)]
theorem zddX7_lineWord_0 : dqW lzddX7_lineWord_0 (cX7_lineWord.data.toList.drop 0) 0 = true := by decide +kernel
theorem dX7_lineWord_0 : decode cX7_lineWord 0 = .ok (.iload_n 0, 1) := dq_get (L := lzddX7_lineWord_0) 0 rfl zddX7_lineWord_0 rfl
theorem dX7_lineWord_1 : decode cX7_lineWord 1 = .ok (.tableswitch 85 0 9 #[55, 58, 61, 64, 67, 70, 73, 76, 79, 82], 55) := by decide +kernel
def lzddX7_lineWord_56 : List (Nat × Instr × Nat) := [(56, .ldc 131, 2), (58, .areturn, 1), (59, .ldc 133, 2), (61, .areturn, 1), (62, .ldc 135, 2), (64, .areturn, 1), (65, .ldc 137, 2), (67, .areturn, 1), (68, .ldc 139, 2), (70, .areturn, 1), (71, .ldc 141, 2), (73, .areturn, 1), (74, .ldc 143, 2), (76, .areturn, 1), (77, .ldc 145, 2), (79, .areturn, 1), (80, .ldc 147, 2), (82, .areturn, 1), (83, .ldc 149, 2), (85, .areturn, 1)]
theorem zddX7_lineWord_56 : dqW lzddX7_lineWord_56 (cX7_lineWord.data.toList.drop 56) 56 = true := by decide +kernel
theorem dX7_lineWord_56 : decode cX7_lineWord 56 = .ok (.ldc 131, 2) := dq_get (L := lzddX7_lineWord_56) 0 rfl zddX7_lineWord_56 rfl
theorem dX7_lineWord_58 : decode cX7_lineWord 58 = .ok (.areturn, 1) := dq_get (L := lzddX7_lineWord_56) 1 rfl zddX7_lineWord_56 rfl
theorem dX7_lineWord_59 : decode cX7_lineWord 59 = .ok (.ldc 133, 2) := dq_get (L := lzddX7_lineWord_56) 2 rfl zddX7_lineWord_56 rfl
theorem dX7_lineWord_61 : decode cX7_lineWord 61 = .ok (.areturn, 1) := dq_get (L := lzddX7_lineWord_56) 3 rfl zddX7_lineWord_56 rfl
theorem dX7_lineWord_62 : decode cX7_lineWord 62 = .ok (.ldc 135, 2) := dq_get (L := lzddX7_lineWord_56) 4 rfl zddX7_lineWord_56 rfl
theorem dX7_lineWord_64 : decode cX7_lineWord 64 = .ok (.areturn, 1) := dq_get (L := lzddX7_lineWord_56) 5 rfl zddX7_lineWord_56 rfl
theorem dX7_lineWord_65 : decode cX7_lineWord 65 = .ok (.ldc 137, 2) := dq_get (L := lzddX7_lineWord_56) 6 rfl zddX7_lineWord_56 rfl
theorem dX7_lineWord_67 : decode cX7_lineWord 67 = .ok (.areturn, 1) := dq_get (L := lzddX7_lineWord_56) 7 rfl zddX7_lineWord_56 rfl
theorem dX7_lineWord_68 : decode cX7_lineWord 68 = .ok (.ldc 139, 2) := dq_get (L := lzddX7_lineWord_56) 8 rfl zddX7_lineWord_56 rfl
theorem dX7_lineWord_70 : decode cX7_lineWord 70 = .ok (.areturn, 1) := dq_get (L := lzddX7_lineWord_56) 9 rfl zddX7_lineWord_56 rfl
theorem dX7_lineWord_71 : decode cX7_lineWord 71 = .ok (.ldc 141, 2) := dq_get (L := lzddX7_lineWord_56) 10 rfl zddX7_lineWord_56 rfl
theorem dX7_lineWord_73 : decode cX7_lineWord 73 = .ok (.areturn, 1) := dq_get (L := lzddX7_lineWord_56) 11 rfl zddX7_lineWord_56 rfl
theorem dX7_lineWord_74 : decode cX7_lineWord 74 = .ok (.ldc 143, 2) := dq_get (L := lzddX7_lineWord_56) 12 rfl zddX7_lineWord_56 rfl
theorem dX7_lineWord_76 : decode cX7_lineWord 76 = .ok (.areturn, 1) := dq_get (L := lzddX7_lineWord_56) 13 rfl zddX7_lineWord_56 rfl
theorem dX7_lineWord_77 : decode cX7_lineWord 77 = .ok (.ldc 145, 2) := dq_get (L := lzddX7_lineWord_56) 14 rfl zddX7_lineWord_56 rfl
theorem dX7_lineWord_79 : decode cX7_lineWord 79 = .ok (.areturn, 1) := dq_get (L := lzddX7_lineWord_56) 15 rfl zddX7_lineWord_56 rfl
theorem dX7_lineWord_80 : decode cX7_lineWord 80 = .ok (.ldc 147, 2) := dq_get (L := lzddX7_lineWord_56) 16 rfl zddX7_lineWord_56 rfl
theorem dX7_lineWord_82 : decode cX7_lineWord 82 = .ok (.areturn, 1) := dq_get (L := lzddX7_lineWord_56) 17 rfl zddX7_lineWord_56 rfl
theorem dX7_lineWord_83 : decode cX7_lineWord 83 = .ok (.ldc 149, 2) := dq_get (L := lzddX7_lineWord_56) 18 rfl zddX7_lineWord_56 rfl
theorem dX7_lineWord_85 : decode cX7_lineWord 85 = .ok (.areturn, 1) := dq_get (L := lzddX7_lineWord_56) 19 rfl zddX7_lineWord_56 rfl
def lzddX7_lineWord_86 : List (Nat × Instr × Nat) := [(86, .ldc 151, 2), (88, .areturn, 1)]
theorem zddX7_lineWord_86 : dqW lzddX7_lineWord_86 (cX7_lineWord.data.toList.drop 86) 86 = true := by decide +kernel
theorem dX7_lineWord_86 : decode cX7_lineWord 86 = .ok (.ldc 151, 2) := dq_get (L := lzddX7_lineWord_86) 0 rfl zddX7_lineWord_86 rfl
theorem dX7_lineWord_88 : decode cX7_lineWord 88 = .ok (.areturn, 1) := dq_get (L := lzddX7_lineWord_86) 1 rfl zddX7_lineWord_86 rfl
def lzddX7_namedTurner_0 : List (Nat × Instr × Nat) := [(0, .iconst 0, 1), (1, .istore_n 1, 1), (2, .iload_n 1, 1), (3, .aload_n 0, 1), (4, .getfield 22, 3), (7, .getfield 156, 3), (10, .if_icmp .ge 25, 3), (13, .aload_n 0, 1), (14, .getfield 15, 3), (17, .iload_n 1, 1), (18, .laload, 1), (19, .aload_n 0, 1), (20, .getfield 78, 3), (23, .lcmp, 1), (24, .ifCond .ne 5, 3), (27, .iload_n 1, 1), (28, .ireturn, 1), (29, .iinc 1 1, 3), (32, .goto (-30), 3), (35, .iconst (-1), 1)]
theorem zddX7_namedTurner_0 : dqW lzddX7_namedTurner_0 (cX7_namedTurner.data.toList.drop 0) 0 = true := by decide +kernel
theorem dX7_namedTurner_0 : decode cX7_namedTurner 0 = .ok (.iconst 0, 1) := dq_get (L := lzddX7_namedTurner_0) 0 rfl zddX7_namedTurner_0 rfl
theorem dX7_namedTurner_1 : decode cX7_namedTurner 1 = .ok (.istore_n 1, 1) := dq_get (L := lzddX7_namedTurner_0) 1 rfl zddX7_namedTurner_0 rfl
theorem dX7_namedTurner_2 : decode cX7_namedTurner 2 = .ok (.iload_n 1, 1) := dq_get (L := lzddX7_namedTurner_0) 2 rfl zddX7_namedTurner_0 rfl
theorem dX7_namedTurner_3 : decode cX7_namedTurner 3 = .ok (.aload_n 0, 1) := dq_get (L := lzddX7_namedTurner_0) 3 rfl zddX7_namedTurner_0 rfl
theorem dX7_namedTurner_4 : decode cX7_namedTurner 4 = .ok (.getfield 22, 3) := dq_get (L := lzddX7_namedTurner_0) 4 rfl zddX7_namedTurner_0 rfl
theorem dX7_namedTurner_7 : decode cX7_namedTurner 7 = .ok (.getfield 156, 3) := dq_get (L := lzddX7_namedTurner_0) 5 rfl zddX7_namedTurner_0 rfl
theorem dX7_namedTurner_10 : decode cX7_namedTurner 10 = .ok (.if_icmp .ge 25, 3) := dq_get (L := lzddX7_namedTurner_0) 6 rfl zddX7_namedTurner_0 rfl
theorem dX7_namedTurner_13 : decode cX7_namedTurner 13 = .ok (.aload_n 0, 1) := dq_get (L := lzddX7_namedTurner_0) 7 rfl zddX7_namedTurner_0 rfl
theorem dX7_namedTurner_14 : decode cX7_namedTurner 14 = .ok (.getfield 15, 3) := dq_get (L := lzddX7_namedTurner_0) 8 rfl zddX7_namedTurner_0 rfl
theorem dX7_namedTurner_17 : decode cX7_namedTurner 17 = .ok (.iload_n 1, 1) := dq_get (L := lzddX7_namedTurner_0) 9 rfl zddX7_namedTurner_0 rfl
theorem dX7_namedTurner_18 : decode cX7_namedTurner 18 = .ok (.laload, 1) := dq_get (L := lzddX7_namedTurner_0) 10 rfl zddX7_namedTurner_0 rfl
theorem dX7_namedTurner_19 : decode cX7_namedTurner 19 = .ok (.aload_n 0, 1) := dq_get (L := lzddX7_namedTurner_0) 11 rfl zddX7_namedTurner_0 rfl
theorem dX7_namedTurner_20 : decode cX7_namedTurner 20 = .ok (.getfield 78, 3) := dq_get (L := lzddX7_namedTurner_0) 12 rfl zddX7_namedTurner_0 rfl
theorem dX7_namedTurner_23 : decode cX7_namedTurner 23 = .ok (.lcmp, 1) := dq_get (L := lzddX7_namedTurner_0) 13 rfl zddX7_namedTurner_0 rfl
theorem dX7_namedTurner_24 : decode cX7_namedTurner 24 = .ok (.ifCond .ne 5, 3) := dq_get (L := lzddX7_namedTurner_0) 14 rfl zddX7_namedTurner_0 rfl
theorem dX7_namedTurner_27 : decode cX7_namedTurner 27 = .ok (.iload_n 1, 1) := dq_get (L := lzddX7_namedTurner_0) 15 rfl zddX7_namedTurner_0 rfl
theorem dX7_namedTurner_28 : decode cX7_namedTurner 28 = .ok (.ireturn, 1) := dq_get (L := lzddX7_namedTurner_0) 16 rfl zddX7_namedTurner_0 rfl
theorem dX7_namedTurner_29 : decode cX7_namedTurner 29 = .ok (.iinc 1 1, 3) := dq_get (L := lzddX7_namedTurner_0) 17 rfl zddX7_namedTurner_0 rfl
theorem dX7_namedTurner_32 : decode cX7_namedTurner 32 = .ok (.goto (-30), 3) := dq_get (L := lzddX7_namedTurner_0) 18 rfl zddX7_namedTurner_0 rfl
theorem dX7_namedTurner_35 : decode cX7_namedTurner 35 = .ok (.iconst (-1), 1) := dq_get (L := lzddX7_namedTurner_0) 19 rfl zddX7_namedTurner_0 rfl
def lzddX7_namedTurner_36 : List (Nat × Instr × Nat) := [(36, .ireturn, 1)]
theorem zddX7_namedTurner_36 : dqW lzddX7_namedTurner_36 (cX7_namedTurner.data.toList.drop 36) 36 = true := by decide +kernel
theorem dX7_namedTurner_36 : decode cX7_namedTurner 36 = .ok (.ireturn, 1) := dq_get (L := lzddX7_namedTurner_36) 0 rfl zddX7_namedTurner_36 rfl
def lzddX7_readAll_0 : List (Nat × Instr × Nat) := [(0, .aload_n 0, 1), (1, .aload_n 1, 1), (2, .putfield 22, 3), (5, .aload_n 0, 1), (6, .getfield 22, 3), (9, .invokevirtual 26, 3), (12, .aload_n 0, 1), (13, .iconst 0, 1), (14, .putfield 31, 3), (17, .aload_n 0, 1), (18, .iconst 0, 1), (19, .putfield 35, 3), (22, .aload_n 0, 1), (23, .iconst 0, 1), (24, .putfield 38, 3), (27, .aload_n 0, 1), (28, .iconst (-1), 1), (29, .putfield 42, 3), (32, .aload_n 0, 1), (33, .iload_n 2, 1)]
theorem zddX7_readAll_0 : dqW lzddX7_readAll_0 (cX7_readAll.data.toList.drop 0) 0 = true := by decide +kernel
theorem dX7_readAll_0 : decode cX7_readAll 0 = .ok (.aload_n 0, 1) := dq_get (L := lzddX7_readAll_0) 0 rfl zddX7_readAll_0 rfl
theorem dX7_readAll_1 : decode cX7_readAll 1 = .ok (.aload_n 1, 1) := dq_get (L := lzddX7_readAll_0) 1 rfl zddX7_readAll_0 rfl
theorem dX7_readAll_2 : decode cX7_readAll 2 = .ok (.putfield 22, 3) := dq_get (L := lzddX7_readAll_0) 2 rfl zddX7_readAll_0 rfl
theorem dX7_readAll_5 : decode cX7_readAll 5 = .ok (.aload_n 0, 1) := dq_get (L := lzddX7_readAll_0) 3 rfl zddX7_readAll_0 rfl
theorem dX7_readAll_6 : decode cX7_readAll 6 = .ok (.getfield 22, 3) := dq_get (L := lzddX7_readAll_0) 4 rfl zddX7_readAll_0 rfl
theorem dX7_readAll_9 : decode cX7_readAll 9 = .ok (.invokevirtual 26, 3) := dq_get (L := lzddX7_readAll_0) 5 rfl zddX7_readAll_0 rfl
theorem dX7_readAll_12 : decode cX7_readAll 12 = .ok (.aload_n 0, 1) := dq_get (L := lzddX7_readAll_0) 6 rfl zddX7_readAll_0 rfl
theorem dX7_readAll_13 : decode cX7_readAll 13 = .ok (.iconst 0, 1) := dq_get (L := lzddX7_readAll_0) 7 rfl zddX7_readAll_0 rfl
theorem dX7_readAll_14 : decode cX7_readAll 14 = .ok (.putfield 31, 3) := dq_get (L := lzddX7_readAll_0) 8 rfl zddX7_readAll_0 rfl
theorem dX7_readAll_17 : decode cX7_readAll 17 = .ok (.aload_n 0, 1) := dq_get (L := lzddX7_readAll_0) 9 rfl zddX7_readAll_0 rfl
theorem dX7_readAll_18 : decode cX7_readAll 18 = .ok (.iconst 0, 1) := dq_get (L := lzddX7_readAll_0) 10 rfl zddX7_readAll_0 rfl
theorem dX7_readAll_19 : decode cX7_readAll 19 = .ok (.putfield 35, 3) := dq_get (L := lzddX7_readAll_0) 11 rfl zddX7_readAll_0 rfl
theorem dX7_readAll_22 : decode cX7_readAll 22 = .ok (.aload_n 0, 1) := dq_get (L := lzddX7_readAll_0) 12 rfl zddX7_readAll_0 rfl
theorem dX7_readAll_23 : decode cX7_readAll 23 = .ok (.iconst 0, 1) := dq_get (L := lzddX7_readAll_0) 13 rfl zddX7_readAll_0 rfl
theorem dX7_readAll_24 : decode cX7_readAll 24 = .ok (.putfield 38, 3) := dq_get (L := lzddX7_readAll_0) 14 rfl zddX7_readAll_0 rfl
theorem dX7_readAll_27 : decode cX7_readAll 27 = .ok (.aload_n 0, 1) := dq_get (L := lzddX7_readAll_0) 15 rfl zddX7_readAll_0 rfl
theorem dX7_readAll_28 : decode cX7_readAll 28 = .ok (.iconst (-1), 1) := dq_get (L := lzddX7_readAll_0) 16 rfl zddX7_readAll_0 rfl
theorem dX7_readAll_29 : decode cX7_readAll 29 = .ok (.putfield 42, 3) := dq_get (L := lzddX7_readAll_0) 17 rfl zddX7_readAll_0 rfl
theorem dX7_readAll_32 : decode cX7_readAll 32 = .ok (.aload_n 0, 1) := dq_get (L := lzddX7_readAll_0) 18 rfl zddX7_readAll_0 rfl
theorem dX7_readAll_33 : decode cX7_readAll 33 = .ok (.iload_n 2, 1) := dq_get (L := lzddX7_readAll_0) 19 rfl zddX7_readAll_0 rfl
def lzddX7_readAll_34 : List (Nat × Instr × Nat) := [(34, .putfield 45, 3), (37, .aload_n 0, 1), (38, .iconst 0, 1), (39, .putfield 48, 3), (42, .aload_n 0, 1), (43, .invokevirtual 51, 3), (46, .iconst 0, 1), (47, .istore_n 3, 1), (48, .iload_n 3, 1), (49, .sipush 900, 3), (52, .if_icmp .gt 68, 3), (55, .aload_n 0, 1), (56, .invokevirtual 54, 3), (59, .ifCond .ne 5, 3), (62, .iconst 0, 1), (63, .ireturn, 1), (64, .aload_n 0, 1), (65, .getfield 58, 3), (68, .ifCond .ne 28, 3), (71, .aload_n 0, 1)]
theorem zddX7_readAll_34 : dqW lzddX7_readAll_34 (cX7_readAll.data.toList.drop 34) 34 = true := by decide +kernel
theorem dX7_readAll_34 : decode cX7_readAll 34 = .ok (.putfield 45, 3) := dq_get (L := lzddX7_readAll_34) 0 rfl zddX7_readAll_34 rfl
theorem dX7_readAll_37 : decode cX7_readAll 37 = .ok (.aload_n 0, 1) := dq_get (L := lzddX7_readAll_34) 1 rfl zddX7_readAll_34 rfl
theorem dX7_readAll_38 : decode cX7_readAll 38 = .ok (.iconst 0, 1) := dq_get (L := lzddX7_readAll_34) 2 rfl zddX7_readAll_34 rfl
theorem dX7_readAll_39 : decode cX7_readAll 39 = .ok (.putfield 48, 3) := dq_get (L := lzddX7_readAll_34) 3 rfl zddX7_readAll_34 rfl
theorem dX7_readAll_42 : decode cX7_readAll 42 = .ok (.aload_n 0, 1) := dq_get (L := lzddX7_readAll_34) 4 rfl zddX7_readAll_34 rfl
theorem dX7_readAll_43 : decode cX7_readAll 43 = .ok (.invokevirtual 51, 3) := dq_get (L := lzddX7_readAll_34) 5 rfl zddX7_readAll_34 rfl
theorem dX7_readAll_46 : decode cX7_readAll 46 = .ok (.iconst 0, 1) := dq_get (L := lzddX7_readAll_34) 6 rfl zddX7_readAll_34 rfl
theorem dX7_readAll_47 : decode cX7_readAll 47 = .ok (.istore_n 3, 1) := dq_get (L := lzddX7_readAll_34) 7 rfl zddX7_readAll_34 rfl
theorem dX7_readAll_48 : decode cX7_readAll 48 = .ok (.iload_n 3, 1) := dq_get (L := lzddX7_readAll_34) 8 rfl zddX7_readAll_34 rfl
theorem dX7_readAll_49 : decode cX7_readAll 49 = .ok (.sipush 900, 3) := dq_get (L := lzddX7_readAll_34) 9 rfl zddX7_readAll_34 rfl
theorem dX7_readAll_52 : decode cX7_readAll 52 = .ok (.if_icmp .gt 68, 3) := dq_get (L := lzddX7_readAll_34) 10 rfl zddX7_readAll_34 rfl
theorem dX7_readAll_55 : decode cX7_readAll 55 = .ok (.aload_n 0, 1) := dq_get (L := lzddX7_readAll_34) 11 rfl zddX7_readAll_34 rfl
theorem dX7_readAll_56 : decode cX7_readAll 56 = .ok (.invokevirtual 54, 3) := dq_get (L := lzddX7_readAll_34) 12 rfl zddX7_readAll_34 rfl
theorem dX7_readAll_59 : decode cX7_readAll 59 = .ok (.ifCond .ne 5, 3) := dq_get (L := lzddX7_readAll_34) 13 rfl zddX7_readAll_34 rfl
theorem dX7_readAll_62 : decode cX7_readAll 62 = .ok (.iconst 0, 1) := dq_get (L := lzddX7_readAll_34) 14 rfl zddX7_readAll_34 rfl
theorem dX7_readAll_63 : decode cX7_readAll 63 = .ok (.ireturn, 1) := dq_get (L := lzddX7_readAll_34) 15 rfl zddX7_readAll_34 rfl
theorem dX7_readAll_64 : decode cX7_readAll 64 = .ok (.aload_n 0, 1) := dq_get (L := lzddX7_readAll_34) 16 rfl zddX7_readAll_34 rfl
theorem dX7_readAll_65 : decode cX7_readAll 65 = .ok (.getfield 58, 3) := dq_get (L := lzddX7_readAll_34) 17 rfl zddX7_readAll_34 rfl
theorem dX7_readAll_68 : decode cX7_readAll 68 = .ok (.ifCond .ne 28, 3) := dq_get (L := lzddX7_readAll_34) 18 rfl zddX7_readAll_34 rfl
theorem dX7_readAll_71 : decode cX7_readAll 71 = .ok (.aload_n 0, 1) := dq_get (L := lzddX7_readAll_34) 19 rfl zddX7_readAll_34 rfl
def lzddX7_readAll_72 : List (Nat × Instr × Nat) := [(72, .getfield 22, 3), (75, .getfield 61, 3), (78, .ifCond .gt 12, 3), (81, .aload_n 0, 1), (82, .bipush 6, 2), (84, .invokevirtual 64, 3), (87, .ifCond .eq 7, 3), (90, .iconst 1, 1), (91, .goto 4, 3), (94, .iconst 0, 1), (95, .ireturn, 1), (96, .aload_n 0, 1), (97, .getfield 58, 3), (100, .iconst 3, 1), (101, .if_icmp .eq 9, 3), (104, .aload_n 0, 1), (105, .iconst 1, 1), (106, .invokevirtual 64, 3), (109, .ireturn, 1), (110, .aload_n 0, 1)]
theorem zddX7_readAll_72 : dqW lzddX7_readAll_72 (cX7_readAll.data.toList.drop 72) 72 = true := by decide +kernel
theorem dX7_readAll_72 : decode cX7_readAll 72 = .ok (.getfield 22, 3) := dq_get (L := lzddX7_readAll_72) 0 rfl zddX7_readAll_72 rfl
theorem dX7_readAll_75 : decode cX7_readAll 75 = .ok (.getfield 61, 3) := dq_get (L := lzddX7_readAll_72) 1 rfl zddX7_readAll_72 rfl
theorem dX7_readAll_78 : decode cX7_readAll 78 = .ok (.ifCond .gt 12, 3) := dq_get (L := lzddX7_readAll_72) 2 rfl zddX7_readAll_72 rfl
theorem dX7_readAll_81 : decode cX7_readAll 81 = .ok (.aload_n 0, 1) := dq_get (L := lzddX7_readAll_72) 3 rfl zddX7_readAll_72 rfl
theorem dX7_readAll_82 : decode cX7_readAll 82 = .ok (.bipush 6, 2) := dq_get (L := lzddX7_readAll_72) 4 rfl zddX7_readAll_72 rfl
theorem dX7_readAll_84 : decode cX7_readAll 84 = .ok (.invokevirtual 64, 3) := dq_get (L := lzddX7_readAll_72) 5 rfl zddX7_readAll_72 rfl
theorem dX7_readAll_87 : decode cX7_readAll 87 = .ok (.ifCond .eq 7, 3) := dq_get (L := lzddX7_readAll_72) 6 rfl zddX7_readAll_72 rfl
theorem dX7_readAll_90 : decode cX7_readAll 90 = .ok (.iconst 1, 1) := dq_get (L := lzddX7_readAll_72) 7 rfl zddX7_readAll_72 rfl
theorem dX7_readAll_91 : decode cX7_readAll 91 = .ok (.goto 4, 3) := dq_get (L := lzddX7_readAll_72) 8 rfl zddX7_readAll_72 rfl
theorem dX7_readAll_94 : decode cX7_readAll 94 = .ok (.iconst 0, 1) := dq_get (L := lzddX7_readAll_72) 9 rfl zddX7_readAll_72 rfl
theorem dX7_readAll_95 : decode cX7_readAll 95 = .ok (.ireturn, 1) := dq_get (L := lzddX7_readAll_72) 10 rfl zddX7_readAll_72 rfl
theorem dX7_readAll_96 : decode cX7_readAll 96 = .ok (.aload_n 0, 1) := dq_get (L := lzddX7_readAll_72) 11 rfl zddX7_readAll_72 rfl
theorem dX7_readAll_97 : decode cX7_readAll 97 = .ok (.getfield 58, 3) := dq_get (L := lzddX7_readAll_72) 12 rfl zddX7_readAll_72 rfl
theorem dX7_readAll_100 : decode cX7_readAll 100 = .ok (.iconst 3, 1) := dq_get (L := lzddX7_readAll_72) 13 rfl zddX7_readAll_72 rfl
theorem dX7_readAll_101 : decode cX7_readAll 101 = .ok (.if_icmp .eq 9, 3) := dq_get (L := lzddX7_readAll_72) 14 rfl zddX7_readAll_72 rfl
theorem dX7_readAll_104 : decode cX7_readAll 104 = .ok (.aload_n 0, 1) := dq_get (L := lzddX7_readAll_72) 15 rfl zddX7_readAll_72 rfl
theorem dX7_readAll_105 : decode cX7_readAll 105 = .ok (.iconst 1, 1) := dq_get (L := lzddX7_readAll_72) 16 rfl zddX7_readAll_72 rfl
theorem dX7_readAll_106 : decode cX7_readAll 106 = .ok (.invokevirtual 64, 3) := dq_get (L := lzddX7_readAll_72) 17 rfl zddX7_readAll_72 rfl
theorem dX7_readAll_109 : decode cX7_readAll 109 = .ok (.ireturn, 1) := dq_get (L := lzddX7_readAll_72) 18 rfl zddX7_readAll_72 rfl
theorem dX7_readAll_110 : decode cX7_readAll 110 = .ok (.aload_n 0, 1) := dq_get (L := lzddX7_readAll_72) 19 rfl zddX7_readAll_72 rfl
def lzddX7_readAll_111 : List (Nat × Instr × Nat) := [(111, .invokevirtual 51, 3), (114, .iinc 3 1, 3), (117, .goto (-69), 3), (120, .aload_n 0, 1), (121, .iconst 1, 1), (122, .invokevirtual 64, 3), (125, .ireturn, 1)]
theorem zddX7_readAll_111 : dqW lzddX7_readAll_111 (cX7_readAll.data.toList.drop 111) 111 = true := by decide +kernel
theorem dX7_readAll_111 : decode cX7_readAll 111 = .ok (.invokevirtual 51, 3) := dq_get (L := lzddX7_readAll_111) 0 rfl zddX7_readAll_111 rfl
theorem dX7_readAll_114 : decode cX7_readAll 114 = .ok (.iinc 3 1, 3) := dq_get (L := lzddX7_readAll_111) 1 rfl zddX7_readAll_111 rfl
theorem dX7_readAll_117 : decode cX7_readAll 117 = .ok (.goto (-69), 3) := dq_get (L := lzddX7_readAll_111) 2 rfl zddX7_readAll_111 rfl
theorem dX7_readAll_120 : decode cX7_readAll 120 = .ok (.aload_n 0, 1) := dq_get (L := lzddX7_readAll_111) 3 rfl zddX7_readAll_111 rfl
theorem dX7_readAll_121 : decode cX7_readAll 121 = .ok (.iconst 1, 1) := dq_get (L := lzddX7_readAll_111) 4 rfl zddX7_readAll_111 rfl
theorem dX7_readAll_122 : decode cX7_readAll 122 = .ok (.invokevirtual 64, 3) := dq_get (L := lzddX7_readAll_111) 5 rfl zddX7_readAll_111 rfl
theorem dX7_readAll_125 : decode cX7_readAll 125 = .ok (.ireturn, 1) := dq_get (L := lzddX7_readAll_111) 6 rfl zddX7_readAll_111 rfl
def lzddX7_readAlp_0 : List (Nat × Instr × Nat) := [(0, .aload_n 0, 1), (1, .iconst 1, 1), (2, .putfield 31, 3), (5, .aload_n 0, 1), (6, .ldc 203, 2), (8, .invokevirtual 126, 3), (11, .ifCond .eq 15, 3), (14, .aload_n 0, 1), (15, .bipush 10, 2), (17, .sipush 240, 3), (20, .invokevirtual 115, 3), (23, .ifCond .ne 5, 3), (26, .iconst 0, 1), (27, .ireturn, 1), (28, .aload_n 0, 1), (29, .getfield 22, 3), (32, .aload_n 0, 1), (33, .getfield 109, 3), (36, .putfield 118, 3), (39, .aload_n 0, 1)]
theorem zddX7_readAlp_0 : dqW lzddX7_readAlp_0 (cX7_readAlp.data.toList.drop 0) 0 = true := by decide +kernel
theorem dX7_readAlp_0 : decode cX7_readAlp 0 = .ok (.aload_n 0, 1) := dq_get (L := lzddX7_readAlp_0) 0 rfl zddX7_readAlp_0 rfl
theorem dX7_readAlp_1 : decode cX7_readAlp 1 = .ok (.iconst 1, 1) := dq_get (L := lzddX7_readAlp_0) 1 rfl zddX7_readAlp_0 rfl
theorem dX7_readAlp_2 : decode cX7_readAlp 2 = .ok (.putfield 31, 3) := dq_get (L := lzddX7_readAlp_0) 2 rfl zddX7_readAlp_0 rfl
theorem dX7_readAlp_5 : decode cX7_readAlp 5 = .ok (.aload_n 0, 1) := dq_get (L := lzddX7_readAlp_0) 3 rfl zddX7_readAlp_0 rfl
theorem dX7_readAlp_6 : decode cX7_readAlp 6 = .ok (.ldc 203, 2) := dq_get (L := lzddX7_readAlp_0) 4 rfl zddX7_readAlp_0 rfl
theorem dX7_readAlp_8 : decode cX7_readAlp 8 = .ok (.invokevirtual 126, 3) := dq_get (L := lzddX7_readAlp_0) 5 rfl zddX7_readAlp_0 rfl
theorem dX7_readAlp_11 : decode cX7_readAlp 11 = .ok (.ifCond .eq 15, 3) := dq_get (L := lzddX7_readAlp_0) 6 rfl zddX7_readAlp_0 rfl
theorem dX7_readAlp_14 : decode cX7_readAlp 14 = .ok (.aload_n 0, 1) := dq_get (L := lzddX7_readAlp_0) 7 rfl zddX7_readAlp_0 rfl
theorem dX7_readAlp_15 : decode cX7_readAlp 15 = .ok (.bipush 10, 2) := dq_get (L := lzddX7_readAlp_0) 8 rfl zddX7_readAlp_0 rfl
theorem dX7_readAlp_17 : decode cX7_readAlp 17 = .ok (.sipush 240, 3) := dq_get (L := lzddX7_readAlp_0) 9 rfl zddX7_readAlp_0 rfl
theorem dX7_readAlp_20 : decode cX7_readAlp 20 = .ok (.invokevirtual 115, 3) := dq_get (L := lzddX7_readAlp_0) 10 rfl zddX7_readAlp_0 rfl
theorem dX7_readAlp_23 : decode cX7_readAlp 23 = .ok (.ifCond .ne 5, 3) := dq_get (L := lzddX7_readAlp_0) 11 rfl zddX7_readAlp_0 rfl
theorem dX7_readAlp_26 : decode cX7_readAlp 26 = .ok (.iconst 0, 1) := dq_get (L := lzddX7_readAlp_0) 12 rfl zddX7_readAlp_0 rfl
theorem dX7_readAlp_27 : decode cX7_readAlp 27 = .ok (.ireturn, 1) := dq_get (L := lzddX7_readAlp_0) 13 rfl zddX7_readAlp_0 rfl
theorem dX7_readAlp_28 : decode cX7_readAlp 28 = .ok (.aload_n 0, 1) := dq_get (L := lzddX7_readAlp_0) 14 rfl zddX7_readAlp_0 rfl
theorem dX7_readAlp_29 : decode cX7_readAlp 29 = .ok (.getfield 22, 3) := dq_get (L := lzddX7_readAlp_0) 15 rfl zddX7_readAlp_0 rfl
theorem dX7_readAlp_32 : decode cX7_readAlp 32 = .ok (.aload_n 0, 1) := dq_get (L := lzddX7_readAlp_0) 16 rfl zddX7_readAlp_0 rfl
theorem dX7_readAlp_33 : decode cX7_readAlp 33 = .ok (.getfield 109, 3) := dq_get (L := lzddX7_readAlp_0) 17 rfl zddX7_readAlp_0 rfl
theorem dX7_readAlp_36 : decode cX7_readAlp 36 = .ok (.putfield 118, 3) := dq_get (L := lzddX7_readAlp_0) 18 rfl zddX7_readAlp_0 rfl
theorem dX7_readAlp_39 : decode cX7_readAlp 39 = .ok (.aload_n 0, 1) := dq_get (L := lzddX7_readAlp_0) 19 rfl zddX7_readAlp_0 rfl
def lzddX7_readAlp_40 : List (Nat × Instr × Nat) := [(40, .ldc 204, 2), (42, .invokevirtual 126, 3), (45, .ifCond .eq 12, 3), (48, .aload_n 0, 1), (49, .iconst 1, 1), (50, .iconst 4, 1), (51, .invokevirtual 115, 3), (54, .ifCond .ne 5, 3), (57, .iconst 0, 1), (58, .ireturn, 1), (59, .aload_n 0, 1), (60, .getfield 22, 3), (63, .aload_n 0, 1), (64, .getfield 109, 3), (67, .putfield 112, 3), (70, .aload_n 0, 1), (71, .ldc 205, 2), (73, .invokevirtual 126, 3), (76, .ifCond .ne 5, 3), (79, .iconst 0, 1)]
theorem zddX7_readAlp_40 : dqW lzddX7_readAlp_40 (cX7_readAlp.data.toList.drop 40) 40 = true := by decide +kernel
theorem dX7_readAlp_40 : decode cX7_readAlp 40 = .ok (.ldc 204, 2) := dq_get (L := lzddX7_readAlp_40) 0 rfl zddX7_readAlp_40 rfl
theorem dX7_readAlp_42 : decode cX7_readAlp 42 = .ok (.invokevirtual 126, 3) := dq_get (L := lzddX7_readAlp_40) 1 rfl zddX7_readAlp_40 rfl
theorem dX7_readAlp_45 : decode cX7_readAlp 45 = .ok (.ifCond .eq 12, 3) := dq_get (L := lzddX7_readAlp_40) 2 rfl zddX7_readAlp_40 rfl
theorem dX7_readAlp_48 : decode cX7_readAlp 48 = .ok (.aload_n 0, 1) := dq_get (L := lzddX7_readAlp_40) 3 rfl zddX7_readAlp_40 rfl
theorem dX7_readAlp_49 : decode cX7_readAlp 49 = .ok (.iconst 1, 1) := dq_get (L := lzddX7_readAlp_40) 4 rfl zddX7_readAlp_40 rfl
theorem dX7_readAlp_50 : decode cX7_readAlp 50 = .ok (.iconst 4, 1) := dq_get (L := lzddX7_readAlp_40) 5 rfl zddX7_readAlp_40 rfl
theorem dX7_readAlp_51 : decode cX7_readAlp 51 = .ok (.invokevirtual 115, 3) := dq_get (L := lzddX7_readAlp_40) 6 rfl zddX7_readAlp_40 rfl
theorem dX7_readAlp_54 : decode cX7_readAlp 54 = .ok (.ifCond .ne 5, 3) := dq_get (L := lzddX7_readAlp_40) 7 rfl zddX7_readAlp_40 rfl
theorem dX7_readAlp_57 : decode cX7_readAlp 57 = .ok (.iconst 0, 1) := dq_get (L := lzddX7_readAlp_40) 8 rfl zddX7_readAlp_40 rfl
theorem dX7_readAlp_58 : decode cX7_readAlp 58 = .ok (.ireturn, 1) := dq_get (L := lzddX7_readAlp_40) 9 rfl zddX7_readAlp_40 rfl
theorem dX7_readAlp_59 : decode cX7_readAlp 59 = .ok (.aload_n 0, 1) := dq_get (L := lzddX7_readAlp_40) 10 rfl zddX7_readAlp_40 rfl
theorem dX7_readAlp_60 : decode cX7_readAlp 60 = .ok (.getfield 22, 3) := dq_get (L := lzddX7_readAlp_40) 11 rfl zddX7_readAlp_40 rfl
theorem dX7_readAlp_63 : decode cX7_readAlp 63 = .ok (.aload_n 0, 1) := dq_get (L := lzddX7_readAlp_40) 12 rfl zddX7_readAlp_40 rfl
theorem dX7_readAlp_64 : decode cX7_readAlp 64 = .ok (.getfield 109, 3) := dq_get (L := lzddX7_readAlp_40) 13 rfl zddX7_readAlp_40 rfl
theorem dX7_readAlp_67 : decode cX7_readAlp 67 = .ok (.putfield 112, 3) := dq_get (L := lzddX7_readAlp_40) 14 rfl zddX7_readAlp_40 rfl
theorem dX7_readAlp_70 : decode cX7_readAlp 70 = .ok (.aload_n 0, 1) := dq_get (L := lzddX7_readAlp_40) 15 rfl zddX7_readAlp_40 rfl
theorem dX7_readAlp_71 : decode cX7_readAlp 71 = .ok (.ldc 205, 2) := dq_get (L := lzddX7_readAlp_40) 16 rfl zddX7_readAlp_40 rfl
theorem dX7_readAlp_73 : decode cX7_readAlp 73 = .ok (.invokevirtual 126, 3) := dq_get (L := lzddX7_readAlp_40) 17 rfl zddX7_readAlp_40 rfl
theorem dX7_readAlp_76 : decode cX7_readAlp 76 = .ok (.ifCond .ne 5, 3) := dq_get (L := lzddX7_readAlp_40) 18 rfl zddX7_readAlp_40 rfl
theorem dX7_readAlp_79 : decode cX7_readAlp 79 = .ok (.iconst 0, 1) := dq_get (L := lzddX7_readAlp_40) 19 rfl zddX7_readAlp_40 rfl
def lzddX7_readAlp_80 : List (Nat × Instr × Nat) := [(80, .ireturn, 1), (81, .iconst 0, 1), (82, .istore_n 1, 1), (83, .iload_n 1, 1), (84, .aload_n 0, 1), (85, .getfield 22, 3), (88, .getfield 207, 3), (91, .arraylength, 1), (92, .if_icmp .ge 45, 3), (95, .iload_n 1, 1), (96, .ifCond .le 10, 3), (99, .aload_n 0, 1), (100, .invokevirtual 210, 3), (103, .ifCond .eq 13, 3), (106, .aload_n 0, 1), (107, .iconst 0, 1), (108, .bipush 99, 2), (110, .invokevirtual 115, 3), (113, .ifCond .ne 5, 3), (116, .iconst 0, 1)]
theorem zddX7_readAlp_80 : dqW lzddX7_readAlp_80 (cX7_readAlp.data.toList.drop 80) 80 = true := by decide +kernel
theorem dX7_readAlp_80 : decode cX7_readAlp 80 = .ok (.ireturn, 1) := dq_get (L := lzddX7_readAlp_80) 0 rfl zddX7_readAlp_80 rfl
theorem dX7_readAlp_81 : decode cX7_readAlp 81 = .ok (.iconst 0, 1) := dq_get (L := lzddX7_readAlp_80) 1 rfl zddX7_readAlp_80 rfl
theorem dX7_readAlp_82 : decode cX7_readAlp 82 = .ok (.istore_n 1, 1) := dq_get (L := lzddX7_readAlp_80) 2 rfl zddX7_readAlp_80 rfl
theorem dX7_readAlp_83 : decode cX7_readAlp 83 = .ok (.iload_n 1, 1) := dq_get (L := lzddX7_readAlp_80) 3 rfl zddX7_readAlp_80 rfl
theorem dX7_readAlp_84 : decode cX7_readAlp 84 = .ok (.aload_n 0, 1) := dq_get (L := lzddX7_readAlp_80) 4 rfl zddX7_readAlp_80 rfl
theorem dX7_readAlp_85 : decode cX7_readAlp 85 = .ok (.getfield 22, 3) := dq_get (L := lzddX7_readAlp_80) 5 rfl zddX7_readAlp_80 rfl
theorem dX7_readAlp_88 : decode cX7_readAlp 88 = .ok (.getfield 207, 3) := dq_get (L := lzddX7_readAlp_80) 6 rfl zddX7_readAlp_80 rfl
theorem dX7_readAlp_91 : decode cX7_readAlp 91 = .ok (.arraylength, 1) := dq_get (L := lzddX7_readAlp_80) 7 rfl zddX7_readAlp_80 rfl
theorem dX7_readAlp_92 : decode cX7_readAlp 92 = .ok (.if_icmp .ge 45, 3) := dq_get (L := lzddX7_readAlp_80) 8 rfl zddX7_readAlp_80 rfl
theorem dX7_readAlp_95 : decode cX7_readAlp 95 = .ok (.iload_n 1, 1) := dq_get (L := lzddX7_readAlp_80) 9 rfl zddX7_readAlp_80 rfl
theorem dX7_readAlp_96 : decode cX7_readAlp 96 = .ok (.ifCond .le 10, 3) := dq_get (L := lzddX7_readAlp_80) 10 rfl zddX7_readAlp_80 rfl
theorem dX7_readAlp_99 : decode cX7_readAlp 99 = .ok (.aload_n 0, 1) := dq_get (L := lzddX7_readAlp_80) 11 rfl zddX7_readAlp_80 rfl
theorem dX7_readAlp_100 : decode cX7_readAlp 100 = .ok (.invokevirtual 210, 3) := dq_get (L := lzddX7_readAlp_80) 12 rfl zddX7_readAlp_80 rfl
theorem dX7_readAlp_103 : decode cX7_readAlp 103 = .ok (.ifCond .eq 13, 3) := dq_get (L := lzddX7_readAlp_80) 13 rfl zddX7_readAlp_80 rfl
theorem dX7_readAlp_106 : decode cX7_readAlp 106 = .ok (.aload_n 0, 1) := dq_get (L := lzddX7_readAlp_80) 14 rfl zddX7_readAlp_80 rfl
theorem dX7_readAlp_107 : decode cX7_readAlp 107 = .ok (.iconst 0, 1) := dq_get (L := lzddX7_readAlp_80) 15 rfl zddX7_readAlp_80 rfl
theorem dX7_readAlp_108 : decode cX7_readAlp 108 = .ok (.bipush 99, 2) := dq_get (L := lzddX7_readAlp_80) 16 rfl zddX7_readAlp_80 rfl
theorem dX7_readAlp_110 : decode cX7_readAlp 110 = .ok (.invokevirtual 115, 3) := dq_get (L := lzddX7_readAlp_80) 17 rfl zddX7_readAlp_80 rfl
theorem dX7_readAlp_113 : decode cX7_readAlp 113 = .ok (.ifCond .ne 5, 3) := dq_get (L := lzddX7_readAlp_80) 18 rfl zddX7_readAlp_80 rfl
theorem dX7_readAlp_116 : decode cX7_readAlp 116 = .ok (.iconst 0, 1) := dq_get (L := lzddX7_readAlp_80) 19 rfl zddX7_readAlp_80 rfl
def lzddX7_readAlp_117 : List (Nat × Instr × Nat) := [(117, .ireturn, 1), (118, .aload_n 0, 1), (119, .getfield 22, 3), (122, .getfield 207, 3), (125, .iload_n 1, 1), (126, .aload_n 0, 1), (127, .getfield 109, 3), (130, .iastore, 1), (131, .iinc 1 1, 3), (134, .goto (-51), 3), (137, .iconst 1, 1), (138, .ireturn, 1)]
theorem zddX7_readAlp_117 : dqW lzddX7_readAlp_117 (cX7_readAlp.data.toList.drop 117) 117 = true := by decide +kernel
theorem dX7_readAlp_117 : decode cX7_readAlp 117 = .ok (.ireturn, 1) := dq_get (L := lzddX7_readAlp_117) 0 rfl zddX7_readAlp_117 rfl
theorem dX7_readAlp_118 : decode cX7_readAlp 118 = .ok (.aload_n 0, 1) := dq_get (L := lzddX7_readAlp_117) 1 rfl zddX7_readAlp_117 rfl
theorem dX7_readAlp_119 : decode cX7_readAlp 119 = .ok (.getfield 22, 3) := dq_get (L := lzddX7_readAlp_117) 2 rfl zddX7_readAlp_117 rfl
theorem dX7_readAlp_122 : decode cX7_readAlp 122 = .ok (.getfield 207, 3) := dq_get (L := lzddX7_readAlp_117) 3 rfl zddX7_readAlp_117 rfl
theorem dX7_readAlp_125 : decode cX7_readAlp 125 = .ok (.iload_n 1, 1) := dq_get (L := lzddX7_readAlp_117) 4 rfl zddX7_readAlp_117 rfl
theorem dX7_readAlp_126 : decode cX7_readAlp 126 = .ok (.aload_n 0, 1) := dq_get (L := lzddX7_readAlp_117) 5 rfl zddX7_readAlp_117 rfl
theorem dX7_readAlp_127 : decode cX7_readAlp 127 = .ok (.getfield 109, 3) := dq_get (L := lzddX7_readAlp_117) 6 rfl zddX7_readAlp_117 rfl
theorem dX7_readAlp_130 : decode cX7_readAlp 130 = .ok (.iastore, 1) := dq_get (L := lzddX7_readAlp_117) 7 rfl zddX7_readAlp_117 rfl
theorem dX7_readAlp_131 : decode cX7_readAlp 131 = .ok (.iinc 1 1, 3) := dq_get (L := lzddX7_readAlp_117) 8 rfl zddX7_readAlp_117 rfl
theorem dX7_readAlp_134 : decode cX7_readAlp 134 = .ok (.goto (-51), 3) := dq_get (L := lzddX7_readAlp_117) 9 rfl zddX7_readAlp_117 rfl
theorem dX7_readAlp_137 : decode cX7_readAlp 137 = .ok (.iconst 1, 1) := dq_get (L := lzddX7_readAlp_117) 10 rfl zddX7_readAlp_117 rfl
theorem dX7_readAlp_138 : decode cX7_readAlp 138 = .ok (.ireturn, 1) := dq_get (L := lzddX7_readAlp_117) 11 rfl zddX7_readAlp_117 rfl
def lzddX7_readCall_0 : List (Nat × Instr × Nat) := [(0, .aload_n 0, 1), (1, .invokevirtual 279, 3), (4, .ifCond .ne 9, 3), (7, .aload_n 0, 1), (8, .iconst 1, 1), (9, .invokevirtual 64, 3), (12, .ireturn, 1), (13, .aload_n 0, 1), (14, .invokevirtual 282, 3), (17, .istore_n 1, 1), (18, .iload_n 1, 1), (19, .iconst (-1), 1), (20, .if_icmp .ne 9, 3), (23, .aload_n 0, 1), (24, .iconst 2, 1), (25, .invokevirtual 64, 3), (28, .ireturn, 1), (29, .aload_n 0, 1), (30, .invokevirtual 51, 3), (33, .aload_n 0, 1)]
theorem zddX7_readCall_0 : dqW lzddX7_readCall_0 (cX7_readCall.data.toList.drop 0) 0 = true := by decide +kernel
theorem dX7_readCall_0 : decode cX7_readCall 0 = .ok (.aload_n 0, 1) := dq_get (L := lzddX7_readCall_0) 0 rfl zddX7_readCall_0 rfl
theorem dX7_readCall_1 : decode cX7_readCall 1 = .ok (.invokevirtual 279, 3) := dq_get (L := lzddX7_readCall_0) 1 rfl zddX7_readCall_0 rfl
theorem dX7_readCall_4 : decode cX7_readCall 4 = .ok (.ifCond .ne 9, 3) := dq_get (L := lzddX7_readCall_0) 2 rfl zddX7_readCall_0 rfl
theorem dX7_readCall_7 : decode cX7_readCall 7 = .ok (.aload_n 0, 1) := dq_get (L := lzddX7_readCall_0) 3 rfl zddX7_readCall_0 rfl
theorem dX7_readCall_8 : decode cX7_readCall 8 = .ok (.iconst 1, 1) := dq_get (L := lzddX7_readCall_0) 4 rfl zddX7_readCall_0 rfl
theorem dX7_readCall_9 : decode cX7_readCall 9 = .ok (.invokevirtual 64, 3) := dq_get (L := lzddX7_readCall_0) 5 rfl zddX7_readCall_0 rfl
theorem dX7_readCall_12 : decode cX7_readCall 12 = .ok (.ireturn, 1) := dq_get (L := lzddX7_readCall_0) 6 rfl zddX7_readCall_0 rfl
theorem dX7_readCall_13 : decode cX7_readCall 13 = .ok (.aload_n 0, 1) := dq_get (L := lzddX7_readCall_0) 7 rfl zddX7_readCall_0 rfl
theorem dX7_readCall_14 : decode cX7_readCall 14 = .ok (.invokevirtual 282, 3) := dq_get (L := lzddX7_readCall_0) 8 rfl zddX7_readCall_0 rfl
theorem dX7_readCall_17 : decode cX7_readCall 17 = .ok (.istore_n 1, 1) := dq_get (L := lzddX7_readCall_0) 9 rfl zddX7_readCall_0 rfl
theorem dX7_readCall_18 : decode cX7_readCall 18 = .ok (.iload_n 1, 1) := dq_get (L := lzddX7_readCall_0) 10 rfl zddX7_readCall_0 rfl
theorem dX7_readCall_19 : decode cX7_readCall 19 = .ok (.iconst (-1), 1) := dq_get (L := lzddX7_readCall_0) 11 rfl zddX7_readCall_0 rfl
theorem dX7_readCall_20 : decode cX7_readCall 20 = .ok (.if_icmp .ne 9, 3) := dq_get (L := lzddX7_readCall_0) 12 rfl zddX7_readCall_0 rfl
theorem dX7_readCall_23 : decode cX7_readCall 23 = .ok (.aload_n 0, 1) := dq_get (L := lzddX7_readCall_0) 13 rfl zddX7_readCall_0 rfl
theorem dX7_readCall_24 : decode cX7_readCall 24 = .ok (.iconst 2, 1) := dq_get (L := lzddX7_readCall_0) 14 rfl zddX7_readCall_0 rfl
theorem dX7_readCall_25 : decode cX7_readCall 25 = .ok (.invokevirtual 64, 3) := dq_get (L := lzddX7_readCall_0) 15 rfl zddX7_readCall_0 rfl
theorem dX7_readCall_28 : decode cX7_readCall 28 = .ok (.ireturn, 1) := dq_get (L := lzddX7_readCall_0) 16 rfl zddX7_readCall_0 rfl
theorem dX7_readCall_29 : decode cX7_readCall 29 = .ok (.aload_n 0, 1) := dq_get (L := lzddX7_readCall_0) 17 rfl zddX7_readCall_0 rfl
theorem dX7_readCall_30 : decode cX7_readCall 30 = .ok (.invokevirtual 51, 3) := dq_get (L := lzddX7_readCall_0) 18 rfl zddX7_readCall_0 rfl
theorem dX7_readCall_33 : decode cX7_readCall 33 = .ok (.aload_n 0, 1) := dq_get (L := lzddX7_readCall_0) 19 rfl zddX7_readCall_0 rfl
def lzddX7_readCall_34 : List (Nat × Instr × Nat) := [(34, .getfield 22, 3), (37, .getfield 285, 3), (40, .aload_n 0, 1), (41, .getfield 22, 3), (44, .getfield 159, 3), (47, .aaload, 1), (48, .astore_n 2, 1), (49, .aload_n 2, 1), (50, .iload_n 1, 1), (51, .putfield 289, 3), (54, .aload_n 0, 1), (55, .ldc_w 293, 3), (58, .invokevirtual 126, 3), (61, .ifCond .eq 20, 3), (64, .aload_n 0, 1), (65, .iconst 0, 1), (66, .aload_n 0, 1), (67, .getfield 22, 3), (70, .getfield 118, 3), (73, .iconst 1, 1)]
theorem zddX7_readCall_34 : dqW lzddX7_readCall_34 (cX7_readCall.data.toList.drop 34) 34 = true := by decide +kernel
theorem dX7_readCall_34 : decode cX7_readCall 34 = .ok (.getfield 22, 3) := dq_get (L := lzddX7_readCall_34) 0 rfl zddX7_readCall_34 rfl
theorem dX7_readCall_37 : decode cX7_readCall 37 = .ok (.getfield 285, 3) := dq_get (L := lzddX7_readCall_34) 1 rfl zddX7_readCall_34 rfl
theorem dX7_readCall_40 : decode cX7_readCall 40 = .ok (.aload_n 0, 1) := dq_get (L := lzddX7_readCall_34) 2 rfl zddX7_readCall_34 rfl
theorem dX7_readCall_41 : decode cX7_readCall 41 = .ok (.getfield 22, 3) := dq_get (L := lzddX7_readCall_34) 3 rfl zddX7_readCall_34 rfl
theorem dX7_readCall_44 : decode cX7_readCall 44 = .ok (.getfield 159, 3) := dq_get (L := lzddX7_readCall_34) 4 rfl zddX7_readCall_34 rfl
theorem dX7_readCall_47 : decode cX7_readCall 47 = .ok (.aaload, 1) := dq_get (L := lzddX7_readCall_34) 5 rfl zddX7_readCall_34 rfl
theorem dX7_readCall_48 : decode cX7_readCall 48 = .ok (.astore_n 2, 1) := dq_get (L := lzddX7_readCall_34) 6 rfl zddX7_readCall_34 rfl
theorem dX7_readCall_49 : decode cX7_readCall 49 = .ok (.aload_n 2, 1) := dq_get (L := lzddX7_readCall_34) 7 rfl zddX7_readCall_34 rfl
theorem dX7_readCall_50 : decode cX7_readCall 50 = .ok (.iload_n 1, 1) := dq_get (L := lzddX7_readCall_34) 8 rfl zddX7_readCall_34 rfl
theorem dX7_readCall_51 : decode cX7_readCall 51 = .ok (.putfield 289, 3) := dq_get (L := lzddX7_readCall_34) 9 rfl zddX7_readCall_34 rfl
theorem dX7_readCall_54 : decode cX7_readCall 54 = .ok (.aload_n 0, 1) := dq_get (L := lzddX7_readCall_34) 10 rfl zddX7_readCall_34 rfl
theorem dX7_readCall_55 : decode cX7_readCall 55 = .ok (.ldc_w 293, 3) := dq_get (L := lzddX7_readCall_34) 11 rfl zddX7_readCall_34 rfl
theorem dX7_readCall_58 : decode cX7_readCall 58 = .ok (.invokevirtual 126, 3) := dq_get (L := lzddX7_readCall_34) 12 rfl zddX7_readCall_34 rfl
theorem dX7_readCall_61 : decode cX7_readCall 61 = .ok (.ifCond .eq 20, 3) := dq_get (L := lzddX7_readCall_34) 13 rfl zddX7_readCall_34 rfl
theorem dX7_readCall_64 : decode cX7_readCall 64 = .ok (.aload_n 0, 1) := dq_get (L := lzddX7_readCall_34) 14 rfl zddX7_readCall_34 rfl
theorem dX7_readCall_65 : decode cX7_readCall 65 = .ok (.iconst 0, 1) := dq_get (L := lzddX7_readCall_34) 15 rfl zddX7_readCall_34 rfl
theorem dX7_readCall_66 : decode cX7_readCall 66 = .ok (.aload_n 0, 1) := dq_get (L := lzddX7_readCall_34) 16 rfl zddX7_readCall_34 rfl
theorem dX7_readCall_67 : decode cX7_readCall 67 = .ok (.getfield 22, 3) := dq_get (L := lzddX7_readCall_34) 17 rfl zddX7_readCall_34 rfl
theorem dX7_readCall_70 : decode cX7_readCall 70 = .ok (.getfield 118, 3) := dq_get (L := lzddX7_readCall_34) 18 rfl zddX7_readCall_34 rfl
theorem dX7_readCall_73 : decode cX7_readCall 73 = .ok (.iconst 1, 1) := dq_get (L := lzddX7_readCall_34) 19 rfl zddX7_readCall_34 rfl
def lzddX7_readCall_74 : List (Nat × Instr × Nat) := [(74, .isub, 1), (75, .invokevirtual 115, 3), (78, .ifCond .ne 5, 3), (81, .iconst 0, 1), (82, .ireturn, 1), (83, .aload_n 2, 1), (84, .aload_n 0, 1), (85, .getfield 109, 3), (88, .putfield 295, 3), (91, .aload_n 0, 1), (92, .ldc_w 297, 3), (95, .invokevirtual 126, 3), (98, .ifCond .eq 13, 3), (101, .aload_n 0, 1), (102, .iconst 1, 1), (103, .bipush 60, 2), (105, .invokevirtual 115, 3), (108, .ifCond .ne 5, 3), (111, .iconst 0, 1), (112, .ireturn, 1)]
theorem zddX7_readCall_74 : dqW lzddX7_readCall_74 (cX7_readCall.data.toList.drop 74) 74 = true := by decide +kernel
theorem dX7_readCall_74 : decode cX7_readCall 74 = .ok (.isub, 1) := dq_get (L := lzddX7_readCall_74) 0 rfl zddX7_readCall_74 rfl
theorem dX7_readCall_75 : decode cX7_readCall 75 = .ok (.invokevirtual 115, 3) := dq_get (L := lzddX7_readCall_74) 1 rfl zddX7_readCall_74 rfl
theorem dX7_readCall_78 : decode cX7_readCall 78 = .ok (.ifCond .ne 5, 3) := dq_get (L := lzddX7_readCall_74) 2 rfl zddX7_readCall_74 rfl
theorem dX7_readCall_81 : decode cX7_readCall 81 = .ok (.iconst 0, 1) := dq_get (L := lzddX7_readCall_74) 3 rfl zddX7_readCall_74 rfl
theorem dX7_readCall_82 : decode cX7_readCall 82 = .ok (.ireturn, 1) := dq_get (L := lzddX7_readCall_74) 4 rfl zddX7_readCall_74 rfl
theorem dX7_readCall_83 : decode cX7_readCall 83 = .ok (.aload_n 2, 1) := dq_get (L := lzddX7_readCall_74) 5 rfl zddX7_readCall_74 rfl
theorem dX7_readCall_84 : decode cX7_readCall 84 = .ok (.aload_n 0, 1) := dq_get (L := lzddX7_readCall_74) 6 rfl zddX7_readCall_74 rfl
theorem dX7_readCall_85 : decode cX7_readCall 85 = .ok (.getfield 109, 3) := dq_get (L := lzddX7_readCall_74) 7 rfl zddX7_readCall_74 rfl
theorem dX7_readCall_88 : decode cX7_readCall 88 = .ok (.putfield 295, 3) := dq_get (L := lzddX7_readCall_74) 8 rfl zddX7_readCall_74 rfl
theorem dX7_readCall_91 : decode cX7_readCall 91 = .ok (.aload_n 0, 1) := dq_get (L := lzddX7_readCall_74) 9 rfl zddX7_readCall_74 rfl
theorem dX7_readCall_92 : decode cX7_readCall 92 = .ok (.ldc_w 297, 3) := dq_get (L := lzddX7_readCall_74) 10 rfl zddX7_readCall_74 rfl
theorem dX7_readCall_95 : decode cX7_readCall 95 = .ok (.invokevirtual 126, 3) := dq_get (L := lzddX7_readCall_74) 11 rfl zddX7_readCall_74 rfl
theorem dX7_readCall_98 : decode cX7_readCall 98 = .ok (.ifCond .eq 13, 3) := dq_get (L := lzddX7_readCall_74) 12 rfl zddX7_readCall_74 rfl
theorem dX7_readCall_101 : decode cX7_readCall 101 = .ok (.aload_n 0, 1) := dq_get (L := lzddX7_readCall_74) 13 rfl zddX7_readCall_74 rfl
theorem dX7_readCall_102 : decode cX7_readCall 102 = .ok (.iconst 1, 1) := dq_get (L := lzddX7_readCall_74) 14 rfl zddX7_readCall_74 rfl
theorem dX7_readCall_103 : decode cX7_readCall 103 = .ok (.bipush 60, 2) := dq_get (L := lzddX7_readCall_74) 15 rfl zddX7_readCall_74 rfl
theorem dX7_readCall_105 : decode cX7_readCall 105 = .ok (.invokevirtual 115, 3) := dq_get (L := lzddX7_readCall_74) 16 rfl zddX7_readCall_74 rfl
theorem dX7_readCall_108 : decode cX7_readCall 108 = .ok (.ifCond .ne 5, 3) := dq_get (L := lzddX7_readCall_74) 17 rfl zddX7_readCall_74 rfl
theorem dX7_readCall_111 : decode cX7_readCall 111 = .ok (.iconst 0, 1) := dq_get (L := lzddX7_readCall_74) 18 rfl zddX7_readCall_74 rfl
theorem dX7_readCall_112 : decode cX7_readCall 112 = .ok (.ireturn, 1) := dq_get (L := lzddX7_readCall_74) 19 rfl zddX7_readCall_74 rfl
def lzddX7_readCall_113 : List (Nat × Instr × Nat) := [(113, .aload_n 2, 1), (114, .aload_n 0, 1), (115, .getfield 109, 3), (118, .putfield 299, 3), (121, .aload_n 0, 1), (122, .ldc_w 302, 3), (125, .invokevirtual 126, 3), (128, .ifCond .eq 13, 3), (131, .aload_n 0, 1), (132, .iconst 0, 1), (133, .bipush 99, 2), (135, .invokevirtual 115, 3), (138, .ifCond .ne 5, 3), (141, .iconst 0, 1), (142, .ireturn, 1), (143, .aload_n 2, 1), (144, .aload_n 0, 1), (145, .getfield 109, 3), (148, .putfield 304, 3), (151, .aload_n 0, 1)]
theorem zddX7_readCall_113 : dqW lzddX7_readCall_113 (cX7_readCall.data.toList.drop 113) 113 = true := by decide +kernel
theorem dX7_readCall_113 : decode cX7_readCall 113 = .ok (.aload_n 2, 1) := dq_get (L := lzddX7_readCall_113) 0 rfl zddX7_readCall_113 rfl
theorem dX7_readCall_114 : decode cX7_readCall 114 = .ok (.aload_n 0, 1) := dq_get (L := lzddX7_readCall_113) 1 rfl zddX7_readCall_113 rfl
theorem dX7_readCall_115 : decode cX7_readCall 115 = .ok (.getfield 109, 3) := dq_get (L := lzddX7_readCall_113) 2 rfl zddX7_readCall_113 rfl
theorem dX7_readCall_118 : decode cX7_readCall 118 = .ok (.putfield 299, 3) := dq_get (L := lzddX7_readCall_113) 3 rfl zddX7_readCall_113 rfl
theorem dX7_readCall_121 : decode cX7_readCall 121 = .ok (.aload_n 0, 1) := dq_get (L := lzddX7_readCall_113) 4 rfl zddX7_readCall_113 rfl
theorem dX7_readCall_122 : decode cX7_readCall 122 = .ok (.ldc_w 302, 3) := dq_get (L := lzddX7_readCall_113) 5 rfl zddX7_readCall_113 rfl
theorem dX7_readCall_125 : decode cX7_readCall 125 = .ok (.invokevirtual 126, 3) := dq_get (L := lzddX7_readCall_113) 6 rfl zddX7_readCall_113 rfl
theorem dX7_readCall_128 : decode cX7_readCall 128 = .ok (.ifCond .eq 13, 3) := dq_get (L := lzddX7_readCall_113) 7 rfl zddX7_readCall_113 rfl
theorem dX7_readCall_131 : decode cX7_readCall 131 = .ok (.aload_n 0, 1) := dq_get (L := lzddX7_readCall_113) 8 rfl zddX7_readCall_113 rfl
theorem dX7_readCall_132 : decode cX7_readCall 132 = .ok (.iconst 0, 1) := dq_get (L := lzddX7_readCall_113) 9 rfl zddX7_readCall_113 rfl
theorem dX7_readCall_133 : decode cX7_readCall 133 = .ok (.bipush 99, 2) := dq_get (L := lzddX7_readCall_113) 10 rfl zddX7_readCall_113 rfl
theorem dX7_readCall_135 : decode cX7_readCall 135 = .ok (.invokevirtual 115, 3) := dq_get (L := lzddX7_readCall_113) 11 rfl zddX7_readCall_113 rfl
theorem dX7_readCall_138 : decode cX7_readCall 138 = .ok (.ifCond .ne 5, 3) := dq_get (L := lzddX7_readCall_113) 12 rfl zddX7_readCall_113 rfl
theorem dX7_readCall_141 : decode cX7_readCall 141 = .ok (.iconst 0, 1) := dq_get (L := lzddX7_readCall_113) 13 rfl zddX7_readCall_113 rfl
theorem dX7_readCall_142 : decode cX7_readCall 142 = .ok (.ireturn, 1) := dq_get (L := lzddX7_readCall_113) 14 rfl zddX7_readCall_113 rfl
theorem dX7_readCall_143 : decode cX7_readCall 143 = .ok (.aload_n 2, 1) := dq_get (L := lzddX7_readCall_113) 15 rfl zddX7_readCall_113 rfl
theorem dX7_readCall_144 : decode cX7_readCall 144 = .ok (.aload_n 0, 1) := dq_get (L := lzddX7_readCall_113) 16 rfl zddX7_readCall_113 rfl
theorem dX7_readCall_145 : decode cX7_readCall 145 = .ok (.getfield 109, 3) := dq_get (L := lzddX7_readCall_113) 17 rfl zddX7_readCall_113 rfl
theorem dX7_readCall_148 : decode cX7_readCall 148 = .ok (.putfield 304, 3) := dq_get (L := lzddX7_readCall_113) 18 rfl zddX7_readCall_113 rfl
theorem dX7_readCall_151 : decode cX7_readCall 151 = .ok (.aload_n 0, 1) := dq_get (L := lzddX7_readCall_113) 19 rfl zddX7_readCall_113 rfl
def lzddX7_readCall_152 : List (Nat × Instr × Nat) := [(152, .getfield 22, 3), (155, .dup, 1), (156, .getfield 159, 3), (159, .iconst 1, 1), (160, .iadd, 1), (161, .putfield 159, 3), (164, .iconst 1, 1), (165, .ireturn, 1)]
theorem zddX7_readCall_152 : dqW lzddX7_readCall_152 (cX7_readCall.data.toList.drop 152) 152 = true := by decide +kernel
theorem dX7_readCall_152 : decode cX7_readCall 152 = .ok (.getfield 22, 3) := dq_get (L := lzddX7_readCall_152) 0 rfl zddX7_readCall_152 rfl
theorem dX7_readCall_155 : decode cX7_readCall 155 = .ok (.dup, 1) := dq_get (L := lzddX7_readCall_152) 1 rfl zddX7_readCall_152 rfl
theorem dX7_readCall_156 : decode cX7_readCall 156 = .ok (.getfield 159, 3) := dq_get (L := lzddX7_readCall_152) 2 rfl zddX7_readCall_152 rfl
theorem dX7_readCall_159 : decode cX7_readCall 159 = .ok (.iconst 1, 1) := dq_get (L := lzddX7_readCall_152) 3 rfl zddX7_readCall_152 rfl
theorem dX7_readCall_160 : decode cX7_readCall 160 = .ok (.iadd, 1) := dq_get (L := lzddX7_readCall_152) 4 rfl zddX7_readCall_152 rfl
theorem dX7_readCall_161 : decode cX7_readCall 161 = .ok (.putfield 159, 3) := dq_get (L := lzddX7_readCall_152) 5 rfl zddX7_readCall_152 rfl
theorem dX7_readCall_164 : decode cX7_readCall 164 = .ok (.iconst 1, 1) := dq_get (L := lzddX7_readCall_152) 6 rfl zddX7_readCall_152 rfl
theorem dX7_readCall_165 : decode cX7_readCall 165 = .ok (.ireturn, 1) := dq_get (L := lzddX7_readCall_152) 7 rfl zddX7_readCall_152 rfl
def lzddX7_readCheese_0 : List (Nat × Instr × Nat) := [(0, .aload_n 0, 1), (1, .invokevirtual 231, 3), (4, .ifCond .ne 5, 3), (7, .iconst 0, 1), (8, .ireturn, 1), (9, .aload_n 0, 1), (10, .getfield 22, 3), (13, .getfield 61, 3), (16, .istore_n 1, 1), (17, .aload_n 0, 1), (18, .getfield 9, 3), (21, .iload_n 1, 1), (22, .aload_n 0, 1), (23, .getfield 78, 3), (26, .lastore, 1), (27, .aload_n 0, 1), (28, .invokevirtual 51, 3), (31, .aload_n 0, 1), (32, .ldc 234, 2), (34, .invokevirtual 126, 3)]
theorem zddX7_readCheese_0 : dqW lzddX7_readCheese_0 (cX7_readCheese.data.toList.drop 0) 0 = true := by decide +kernel
theorem dX7_readCheese_0 : decode cX7_readCheese 0 = .ok (.aload_n 0, 1) := dq_get (L := lzddX7_readCheese_0) 0 rfl zddX7_readCheese_0 rfl
theorem dX7_readCheese_1 : decode cX7_readCheese 1 = .ok (.invokevirtual 231, 3) := dq_get (L := lzddX7_readCheese_0) 1 rfl zddX7_readCheese_0 rfl
theorem dX7_readCheese_4 : decode cX7_readCheese 4 = .ok (.ifCond .ne 5, 3) := dq_get (L := lzddX7_readCheese_0) 2 rfl zddX7_readCheese_0 rfl
theorem dX7_readCheese_7 : decode cX7_readCheese 7 = .ok (.iconst 0, 1) := dq_get (L := lzddX7_readCheese_0) 3 rfl zddX7_readCheese_0 rfl
theorem dX7_readCheese_8 : decode cX7_readCheese 8 = .ok (.ireturn, 1) := dq_get (L := lzddX7_readCheese_0) 4 rfl zddX7_readCheese_0 rfl
theorem dX7_readCheese_9 : decode cX7_readCheese 9 = .ok (.aload_n 0, 1) := dq_get (L := lzddX7_readCheese_0) 5 rfl zddX7_readCheese_0 rfl
theorem dX7_readCheese_10 : decode cX7_readCheese 10 = .ok (.getfield 22, 3) := dq_get (L := lzddX7_readCheese_0) 6 rfl zddX7_readCheese_0 rfl
theorem dX7_readCheese_13 : decode cX7_readCheese 13 = .ok (.getfield 61, 3) := dq_get (L := lzddX7_readCheese_0) 7 rfl zddX7_readCheese_0 rfl
theorem dX7_readCheese_16 : decode cX7_readCheese 16 = .ok (.istore_n 1, 1) := dq_get (L := lzddX7_readCheese_0) 8 rfl zddX7_readCheese_0 rfl
theorem dX7_readCheese_17 : decode cX7_readCheese 17 = .ok (.aload_n 0, 1) := dq_get (L := lzddX7_readCheese_0) 9 rfl zddX7_readCheese_0 rfl
theorem dX7_readCheese_18 : decode cX7_readCheese 18 = .ok (.getfield 9, 3) := dq_get (L := lzddX7_readCheese_0) 10 rfl zddX7_readCheese_0 rfl
theorem dX7_readCheese_21 : decode cX7_readCheese 21 = .ok (.iload_n 1, 1) := dq_get (L := lzddX7_readCheese_0) 11 rfl zddX7_readCheese_0 rfl
theorem dX7_readCheese_22 : decode cX7_readCheese 22 = .ok (.aload_n 0, 1) := dq_get (L := lzddX7_readCheese_0) 12 rfl zddX7_readCheese_0 rfl
theorem dX7_readCheese_23 : decode cX7_readCheese 23 = .ok (.getfield 78, 3) := dq_get (L := lzddX7_readCheese_0) 13 rfl zddX7_readCheese_0 rfl
theorem dX7_readCheese_26 : decode cX7_readCheese 26 = .ok (.lastore, 1) := dq_get (L := lzddX7_readCheese_0) 14 rfl zddX7_readCheese_0 rfl
theorem dX7_readCheese_27 : decode cX7_readCheese 27 = .ok (.aload_n 0, 1) := dq_get (L := lzddX7_readCheese_0) 15 rfl zddX7_readCheese_0 rfl
theorem dX7_readCheese_28 : decode cX7_readCheese 28 = .ok (.invokevirtual 51, 3) := dq_get (L := lzddX7_readCheese_0) 16 rfl zddX7_readCheese_0 rfl
theorem dX7_readCheese_31 : decode cX7_readCheese 31 = .ok (.aload_n 0, 1) := dq_get (L := lzddX7_readCheese_0) 17 rfl zddX7_readCheese_0 rfl
theorem dX7_readCheese_32 : decode cX7_readCheese 32 = .ok (.ldc 234, 2) := dq_get (L := lzddX7_readCheese_0) 18 rfl zddX7_readCheese_0 rfl
theorem dX7_readCheese_34 : decode cX7_readCheese 34 = .ok (.invokevirtual 126, 3) := dq_get (L := lzddX7_readCheese_0) 19 rfl zddX7_readCheese_0 rfl
def lzddX7_readCheese_37 : List (Nat × Instr × Nat) := [(37, .ifCond .eq 10, 3), (40, .aload_n 0, 1), (41, .invokevirtual 223, 3), (44, .ifCond .ne 5, 3), (47, .iconst 0, 1), (48, .ireturn, 1), (49, .aload_n 0, 1), (50, .getfield 22, 3), (53, .getfield 235, 3), (56, .iload_n 1, 1), (57, .aload_n 0, 1), (58, .getfield 109, 3), (61, .iastore, 1), (62, .aload_n 0, 1), (63, .ldc 238, 2), (65, .invokevirtual 101, 3), (68, .ifCond .eq 10, 3), (71, .aload_n 0, 1), (72, .invokevirtual 51, 3), (75, .goto 18, 3)]
theorem zddX7_readCheese_37 : dqW lzddX7_readCheese_37 (cX7_readCheese.data.toList.drop 37) 37 = true := by decide +kernel
theorem dX7_readCheese_37 : decode cX7_readCheese 37 = .ok (.ifCond .eq 10, 3) := dq_get (L := lzddX7_readCheese_37) 0 rfl zddX7_readCheese_37 rfl
theorem dX7_readCheese_40 : decode cX7_readCheese 40 = .ok (.aload_n 0, 1) := dq_get (L := lzddX7_readCheese_37) 1 rfl zddX7_readCheese_37 rfl
theorem dX7_readCheese_41 : decode cX7_readCheese 41 = .ok (.invokevirtual 223, 3) := dq_get (L := lzddX7_readCheese_37) 2 rfl zddX7_readCheese_37 rfl
theorem dX7_readCheese_44 : decode cX7_readCheese 44 = .ok (.ifCond .ne 5, 3) := dq_get (L := lzddX7_readCheese_37) 3 rfl zddX7_readCheese_37 rfl
theorem dX7_readCheese_47 : decode cX7_readCheese 47 = .ok (.iconst 0, 1) := dq_get (L := lzddX7_readCheese_37) 4 rfl zddX7_readCheese_37 rfl
theorem dX7_readCheese_48 : decode cX7_readCheese 48 = .ok (.ireturn, 1) := dq_get (L := lzddX7_readCheese_37) 5 rfl zddX7_readCheese_37 rfl
theorem dX7_readCheese_49 : decode cX7_readCheese 49 = .ok (.aload_n 0, 1) := dq_get (L := lzddX7_readCheese_37) 6 rfl zddX7_readCheese_37 rfl
theorem dX7_readCheese_50 : decode cX7_readCheese 50 = .ok (.getfield 22, 3) := dq_get (L := lzddX7_readCheese_37) 7 rfl zddX7_readCheese_37 rfl
theorem dX7_readCheese_53 : decode cX7_readCheese 53 = .ok (.getfield 235, 3) := dq_get (L := lzddX7_readCheese_37) 8 rfl zddX7_readCheese_37 rfl
theorem dX7_readCheese_56 : decode cX7_readCheese 56 = .ok (.iload_n 1, 1) := dq_get (L := lzddX7_readCheese_37) 9 rfl zddX7_readCheese_37 rfl
theorem dX7_readCheese_57 : decode cX7_readCheese 57 = .ok (.aload_n 0, 1) := dq_get (L := lzddX7_readCheese_37) 10 rfl zddX7_readCheese_37 rfl
theorem dX7_readCheese_58 : decode cX7_readCheese 58 = .ok (.getfield 109, 3) := dq_get (L := lzddX7_readCheese_37) 11 rfl zddX7_readCheese_37 rfl
theorem dX7_readCheese_61 : decode cX7_readCheese 61 = .ok (.iastore, 1) := dq_get (L := lzddX7_readCheese_37) 12 rfl zddX7_readCheese_37 rfl
theorem dX7_readCheese_62 : decode cX7_readCheese 62 = .ok (.aload_n 0, 1) := dq_get (L := lzddX7_readCheese_37) 13 rfl zddX7_readCheese_37 rfl
theorem dX7_readCheese_63 : decode cX7_readCheese 63 = .ok (.ldc 238, 2) := dq_get (L := lzddX7_readCheese_37) 14 rfl zddX7_readCheese_37 rfl
theorem dX7_readCheese_65 : decode cX7_readCheese 65 = .ok (.invokevirtual 101, 3) := dq_get (L := lzddX7_readCheese_37) 15 rfl zddX7_readCheese_37 rfl
theorem dX7_readCheese_68 : decode cX7_readCheese 68 = .ok (.ifCond .eq 10, 3) := dq_get (L := lzddX7_readCheese_37) 16 rfl zddX7_readCheese_37 rfl
theorem dX7_readCheese_71 : decode cX7_readCheese 71 = .ok (.aload_n 0, 1) := dq_get (L := lzddX7_readCheese_37) 17 rfl zddX7_readCheese_37 rfl
theorem dX7_readCheese_72 : decode cX7_readCheese 72 = .ok (.invokevirtual 51, 3) := dq_get (L := lzddX7_readCheese_37) 18 rfl zddX7_readCheese_37 rfl
theorem dX7_readCheese_75 : decode cX7_readCheese 75 = .ok (.goto 18, 3) := dq_get (L := lzddX7_readCheese_37) 19 rfl zddX7_readCheese_37 rfl
def lzddX7_readCheese_78 : List (Nat × Instr × Nat) := [(78, .aload_n 0, 1), (79, .getfield 22, 3), (82, .dup, 1), (83, .getfield 240, 3), (86, .iconst 1, 1), (87, .iload_n 1, 1), (88, .ishl, 1), (89, .ior, 1), (90, .putfield 240, 3), (93, .aload_n 0, 1), (94, .getfield 22, 3), (97, .dup, 1), (98, .getfield 61, 3), (101, .iconst 1, 1), (102, .iadd, 1), (103, .putfield 61, 3), (106, .iconst 1, 1), (107, .ireturn, 1)]
theorem zddX7_readCheese_78 : dqW lzddX7_readCheese_78 (cX7_readCheese.data.toList.drop 78) 78 = true := by decide +kernel
theorem dX7_readCheese_78 : decode cX7_readCheese 78 = .ok (.aload_n 0, 1) := dq_get (L := lzddX7_readCheese_78) 0 rfl zddX7_readCheese_78 rfl
theorem dX7_readCheese_79 : decode cX7_readCheese 79 = .ok (.getfield 22, 3) := dq_get (L := lzddX7_readCheese_78) 1 rfl zddX7_readCheese_78 rfl
theorem dX7_readCheese_82 : decode cX7_readCheese 82 = .ok (.dup, 1) := dq_get (L := lzddX7_readCheese_78) 2 rfl zddX7_readCheese_78 rfl
theorem dX7_readCheese_83 : decode cX7_readCheese 83 = .ok (.getfield 240, 3) := dq_get (L := lzddX7_readCheese_78) 3 rfl zddX7_readCheese_78 rfl
theorem dX7_readCheese_86 : decode cX7_readCheese 86 = .ok (.iconst 1, 1) := dq_get (L := lzddX7_readCheese_78) 4 rfl zddX7_readCheese_78 rfl
theorem dX7_readCheese_87 : decode cX7_readCheese 87 = .ok (.iload_n 1, 1) := dq_get (L := lzddX7_readCheese_78) 5 rfl zddX7_readCheese_78 rfl
theorem dX7_readCheese_88 : decode cX7_readCheese 88 = .ok (.ishl, 1) := dq_get (L := lzddX7_readCheese_78) 6 rfl zddX7_readCheese_78 rfl
theorem dX7_readCheese_89 : decode cX7_readCheese 89 = .ok (.ior, 1) := dq_get (L := lzddX7_readCheese_78) 7 rfl zddX7_readCheese_78 rfl
theorem dX7_readCheese_90 : decode cX7_readCheese 90 = .ok (.putfield 240, 3) := dq_get (L := lzddX7_readCheese_78) 8 rfl zddX7_readCheese_78 rfl
theorem dX7_readCheese_93 : decode cX7_readCheese 93 = .ok (.aload_n 0, 1) := dq_get (L := lzddX7_readCheese_78) 9 rfl zddX7_readCheese_78 rfl
theorem dX7_readCheese_94 : decode cX7_readCheese 94 = .ok (.getfield 22, 3) := dq_get (L := lzddX7_readCheese_78) 10 rfl zddX7_readCheese_78 rfl
theorem dX7_readCheese_97 : decode cX7_readCheese 97 = .ok (.dup, 1) := dq_get (L := lzddX7_readCheese_78) 11 rfl zddX7_readCheese_78 rfl
theorem dX7_readCheese_98 : decode cX7_readCheese 98 = .ok (.getfield 61, 3) := dq_get (L := lzddX7_readCheese_78) 12 rfl zddX7_readCheese_78 rfl
theorem dX7_readCheese_101 : decode cX7_readCheese 101 = .ok (.iconst 1, 1) := dq_get (L := lzddX7_readCheese_78) 13 rfl zddX7_readCheese_78 rfl
theorem dX7_readCheese_102 : decode cX7_readCheese 102 = .ok (.iadd, 1) := dq_get (L := lzddX7_readCheese_78) 14 rfl zddX7_readCheese_78 rfl
theorem dX7_readCheese_103 : decode cX7_readCheese 103 = .ok (.putfield 61, 3) := dq_get (L := lzddX7_readCheese_78) 15 rfl zddX7_readCheese_78 rfl
theorem dX7_readCheese_106 : decode cX7_readCheese 106 = .ok (.iconst 1, 1) := dq_get (L := lzddX7_readCheese_78) 16 rfl zddX7_readCheese_78 rfl
theorem dX7_readCheese_107 : decode cX7_readCheese 107 = .ok (.ireturn, 1) := dq_get (L := lzddX7_readCheese_78) 17 rfl zddX7_readCheese_78 rfl
def lzddX7_readEvent_0 : List (Nat × Instr × Nat) := [(0, .aload_n 0, 1), (1, .getfield 22, 3), (4, .getfield 213, 3), (7, .aload_n 0, 1), (8, .getfield 22, 3), (11, .getfield 165, 3), (14, .aaload, 1), (15, .astore_n 2, 1), (16, .aload_n 2, 1), (17, .iload_n 1, 1), (18, .putfield 217, 3), (21, .aload_n 2, 1), (22, .bipush (-2), 2), (24, .putfield 220, 3), (27, .iload_n 1, 1), (28, .iconst 2, 1), (29, .if_icmp .eq 8, 3), (32, .iload_n 1, 1), (33, .iconst 3, 1), (34, .if_icmp .ne 20, 3)]
theorem zddX7_readEvent_0 : dqW lzddX7_readEvent_0 (cX7_readEvent.data.toList.drop 0) 0 = true := by decide +kernel
theorem dX7_readEvent_0 : decode cX7_readEvent 0 = .ok (.aload_n 0, 1) := dq_get (L := lzddX7_readEvent_0) 0 rfl zddX7_readEvent_0 rfl
theorem dX7_readEvent_1 : decode cX7_readEvent 1 = .ok (.getfield 22, 3) := dq_get (L := lzddX7_readEvent_0) 1 rfl zddX7_readEvent_0 rfl
theorem dX7_readEvent_4 : decode cX7_readEvent 4 = .ok (.getfield 213, 3) := dq_get (L := lzddX7_readEvent_0) 2 rfl zddX7_readEvent_0 rfl
theorem dX7_readEvent_7 : decode cX7_readEvent 7 = .ok (.aload_n 0, 1) := dq_get (L := lzddX7_readEvent_0) 3 rfl zddX7_readEvent_0 rfl
theorem dX7_readEvent_8 : decode cX7_readEvent 8 = .ok (.getfield 22, 3) := dq_get (L := lzddX7_readEvent_0) 4 rfl zddX7_readEvent_0 rfl
theorem dX7_readEvent_11 : decode cX7_readEvent 11 = .ok (.getfield 165, 3) := dq_get (L := lzddX7_readEvent_0) 5 rfl zddX7_readEvent_0 rfl
theorem dX7_readEvent_14 : decode cX7_readEvent 14 = .ok (.aaload, 1) := dq_get (L := lzddX7_readEvent_0) 6 rfl zddX7_readEvent_0 rfl
theorem dX7_readEvent_15 : decode cX7_readEvent 15 = .ok (.astore_n 2, 1) := dq_get (L := lzddX7_readEvent_0) 7 rfl zddX7_readEvent_0 rfl
theorem dX7_readEvent_16 : decode cX7_readEvent 16 = .ok (.aload_n 2, 1) := dq_get (L := lzddX7_readEvent_0) 8 rfl zddX7_readEvent_0 rfl
theorem dX7_readEvent_17 : decode cX7_readEvent 17 = .ok (.iload_n 1, 1) := dq_get (L := lzddX7_readEvent_0) 9 rfl zddX7_readEvent_0 rfl
theorem dX7_readEvent_18 : decode cX7_readEvent 18 = .ok (.putfield 217, 3) := dq_get (L := lzddX7_readEvent_0) 10 rfl zddX7_readEvent_0 rfl
theorem dX7_readEvent_21 : decode cX7_readEvent 21 = .ok (.aload_n 2, 1) := dq_get (L := lzddX7_readEvent_0) 11 rfl zddX7_readEvent_0 rfl
theorem dX7_readEvent_22 : decode cX7_readEvent 22 = .ok (.bipush (-2), 2) := dq_get (L := lzddX7_readEvent_0) 12 rfl zddX7_readEvent_0 rfl
theorem dX7_readEvent_24 : decode cX7_readEvent 24 = .ok (.putfield 220, 3) := dq_get (L := lzddX7_readEvent_0) 13 rfl zddX7_readEvent_0 rfl
theorem dX7_readEvent_27 : decode cX7_readEvent 27 = .ok (.iload_n 1, 1) := dq_get (L := lzddX7_readEvent_0) 14 rfl zddX7_readEvent_0 rfl
theorem dX7_readEvent_28 : decode cX7_readEvent 28 = .ok (.iconst 2, 1) := dq_get (L := lzddX7_readEvent_0) 15 rfl zddX7_readEvent_0 rfl
theorem dX7_readEvent_29 : decode cX7_readEvent 29 = .ok (.if_icmp .eq 8, 3) := dq_get (L := lzddX7_readEvent_0) 16 rfl zddX7_readEvent_0 rfl
theorem dX7_readEvent_32 : decode cX7_readEvent 32 = .ok (.iload_n 1, 1) := dq_get (L := lzddX7_readEvent_0) 17 rfl zddX7_readEvent_0 rfl
theorem dX7_readEvent_33 : decode cX7_readEvent 33 = .ok (.iconst 3, 1) := dq_get (L := lzddX7_readEvent_0) 18 rfl zddX7_readEvent_0 rfl
theorem dX7_readEvent_34 : decode cX7_readEvent 34 = .ok (.if_icmp .ne 20, 3) := dq_get (L := lzddX7_readEvent_0) 19 rfl zddX7_readEvent_0 rfl
def lzddX7_readEvent_37 : List (Nat × Instr × Nat) := [(37, .aload_n 0, 1), (38, .invokevirtual 223, 3), (41, .ifCond .ne 5, 3), (44, .iconst 0, 1), (45, .ireturn, 1), (46, .aload_n 2, 1), (47, .aload_n 0, 1), (48, .getfield 109, 3), (51, .putfield 220, 3), (54, .iload_n 1, 1), (55, .iconst 4, 1), (56, .if_icmp .ne 43, 3), (59, .aload_n 0, 1), (60, .iconst 0, 1), (61, .aload_n 0, 1), (62, .getfield 22, 3), (65, .getfield 118, 3), (68, .iconst 1, 1), (69, .isub, 1), (70, .invokevirtual 115, 3)]
theorem zddX7_readEvent_37 : dqW lzddX7_readEvent_37 (cX7_readEvent.data.toList.drop 37) 37 = true := by decide +kernel
theorem dX7_readEvent_37 : decode cX7_readEvent 37 = .ok (.aload_n 0, 1) := dq_get (L := lzddX7_readEvent_37) 0 rfl zddX7_readEvent_37 rfl
theorem dX7_readEvent_38 : decode cX7_readEvent 38 = .ok (.invokevirtual 223, 3) := dq_get (L := lzddX7_readEvent_37) 1 rfl zddX7_readEvent_37 rfl
theorem dX7_readEvent_41 : decode cX7_readEvent 41 = .ok (.ifCond .ne 5, 3) := dq_get (L := lzddX7_readEvent_37) 2 rfl zddX7_readEvent_37 rfl
theorem dX7_readEvent_44 : decode cX7_readEvent 44 = .ok (.iconst 0, 1) := dq_get (L := lzddX7_readEvent_37) 3 rfl zddX7_readEvent_37 rfl
theorem dX7_readEvent_45 : decode cX7_readEvent 45 = .ok (.ireturn, 1) := dq_get (L := lzddX7_readEvent_37) 4 rfl zddX7_readEvent_37 rfl
theorem dX7_readEvent_46 : decode cX7_readEvent 46 = .ok (.aload_n 2, 1) := dq_get (L := lzddX7_readEvent_37) 5 rfl zddX7_readEvent_37 rfl
theorem dX7_readEvent_47 : decode cX7_readEvent 47 = .ok (.aload_n 0, 1) := dq_get (L := lzddX7_readEvent_37) 6 rfl zddX7_readEvent_37 rfl
theorem dX7_readEvent_48 : decode cX7_readEvent 48 = .ok (.getfield 109, 3) := dq_get (L := lzddX7_readEvent_37) 7 rfl zddX7_readEvent_37 rfl
theorem dX7_readEvent_51 : decode cX7_readEvent 51 = .ok (.putfield 220, 3) := dq_get (L := lzddX7_readEvent_37) 8 rfl zddX7_readEvent_37 rfl
theorem dX7_readEvent_54 : decode cX7_readEvent 54 = .ok (.iload_n 1, 1) := dq_get (L := lzddX7_readEvent_37) 9 rfl zddX7_readEvent_37 rfl
theorem dX7_readEvent_55 : decode cX7_readEvent 55 = .ok (.iconst 4, 1) := dq_get (L := lzddX7_readEvent_37) 10 rfl zddX7_readEvent_37 rfl
theorem dX7_readEvent_56 : decode cX7_readEvent 56 = .ok (.if_icmp .ne 43, 3) := dq_get (L := lzddX7_readEvent_37) 11 rfl zddX7_readEvent_37 rfl
theorem dX7_readEvent_59 : decode cX7_readEvent 59 = .ok (.aload_n 0, 1) := dq_get (L := lzddX7_readEvent_37) 12 rfl zddX7_readEvent_37 rfl
theorem dX7_readEvent_60 : decode cX7_readEvent 60 = .ok (.iconst 0, 1) := dq_get (L := lzddX7_readEvent_37) 13 rfl zddX7_readEvent_37 rfl
theorem dX7_readEvent_61 : decode cX7_readEvent 61 = .ok (.aload_n 0, 1) := dq_get (L := lzddX7_readEvent_37) 14 rfl zddX7_readEvent_37 rfl
theorem dX7_readEvent_62 : decode cX7_readEvent 62 = .ok (.getfield 22, 3) := dq_get (L := lzddX7_readEvent_37) 15 rfl zddX7_readEvent_37 rfl
theorem dX7_readEvent_65 : decode cX7_readEvent 65 = .ok (.getfield 118, 3) := dq_get (L := lzddX7_readEvent_37) 16 rfl zddX7_readEvent_37 rfl
theorem dX7_readEvent_68 : decode cX7_readEvent 68 = .ok (.iconst 1, 1) := dq_get (L := lzddX7_readEvent_37) 17 rfl zddX7_readEvent_37 rfl
theorem dX7_readEvent_69 : decode cX7_readEvent 69 = .ok (.isub, 1) := dq_get (L := lzddX7_readEvent_37) 18 rfl zddX7_readEvent_37 rfl
theorem dX7_readEvent_70 : decode cX7_readEvent 70 = .ok (.invokevirtual 115, 3) := dq_get (L := lzddX7_readEvent_37) 19 rfl zddX7_readEvent_37 rfl
def lzddX7_readEvent_73 : List (Nat × Instr × Nat) := [(73, .ifCond .ne 5, 3), (76, .iconst 0, 1), (77, .ireturn, 1), (78, .aload_n 0, 1), (79, .aload_n 0, 1), (80, .getfield 109, 3), (83, .putfield 121, 3), (86, .aload_n 0, 1), (87, .aload_n 0, 1), (88, .getfield 109, 3), (91, .iconst 1, 1), (92, .iadd, 1), (93, .putfield 129, 3), (96, .goto 12, 3), (99, .aload_n 0, 1), (100, .invokevirtual 226, 3), (103, .ifCond .ne 5, 3), (106, .iconst 0, 1), (107, .ireturn, 1), (108, .aload_n 2, 1)]
theorem zddX7_readEvent_73 : dqW lzddX7_readEvent_73 (cX7_readEvent.data.toList.drop 73) 73 = true := by decide +kernel
theorem dX7_readEvent_73 : decode cX7_readEvent 73 = .ok (.ifCond .ne 5, 3) := dq_get (L := lzddX7_readEvent_73) 0 rfl zddX7_readEvent_73 rfl
theorem dX7_readEvent_76 : decode cX7_readEvent 76 = .ok (.iconst 0, 1) := dq_get (L := lzddX7_readEvent_73) 1 rfl zddX7_readEvent_73 rfl
theorem dX7_readEvent_77 : decode cX7_readEvent 77 = .ok (.ireturn, 1) := dq_get (L := lzddX7_readEvent_73) 2 rfl zddX7_readEvent_73 rfl
theorem dX7_readEvent_78 : decode cX7_readEvent 78 = .ok (.aload_n 0, 1) := dq_get (L := lzddX7_readEvent_73) 3 rfl zddX7_readEvent_73 rfl
theorem dX7_readEvent_79 : decode cX7_readEvent 79 = .ok (.aload_n 0, 1) := dq_get (L := lzddX7_readEvent_73) 4 rfl zddX7_readEvent_73 rfl
theorem dX7_readEvent_80 : decode cX7_readEvent 80 = .ok (.getfield 109, 3) := dq_get (L := lzddX7_readEvent_73) 5 rfl zddX7_readEvent_73 rfl
theorem dX7_readEvent_83 : decode cX7_readEvent 83 = .ok (.putfield 121, 3) := dq_get (L := lzddX7_readEvent_73) 6 rfl zddX7_readEvent_73 rfl
theorem dX7_readEvent_86 : decode cX7_readEvent 86 = .ok (.aload_n 0, 1) := dq_get (L := lzddX7_readEvent_73) 7 rfl zddX7_readEvent_73 rfl
theorem dX7_readEvent_87 : decode cX7_readEvent 87 = .ok (.aload_n 0, 1) := dq_get (L := lzddX7_readEvent_73) 8 rfl zddX7_readEvent_73 rfl
theorem dX7_readEvent_88 : decode cX7_readEvent 88 = .ok (.getfield 109, 3) := dq_get (L := lzddX7_readEvent_73) 9 rfl zddX7_readEvent_73 rfl
theorem dX7_readEvent_91 : decode cX7_readEvent 91 = .ok (.iconst 1, 1) := dq_get (L := lzddX7_readEvent_73) 10 rfl zddX7_readEvent_73 rfl
theorem dX7_readEvent_92 : decode cX7_readEvent 92 = .ok (.iadd, 1) := dq_get (L := lzddX7_readEvent_73) 11 rfl zddX7_readEvent_73 rfl
theorem dX7_readEvent_93 : decode cX7_readEvent 93 = .ok (.putfield 129, 3) := dq_get (L := lzddX7_readEvent_73) 12 rfl zddX7_readEvent_73 rfl
theorem dX7_readEvent_96 : decode cX7_readEvent 96 = .ok (.goto 12, 3) := dq_get (L := lzddX7_readEvent_73) 13 rfl zddX7_readEvent_73 rfl
theorem dX7_readEvent_99 : decode cX7_readEvent 99 = .ok (.aload_n 0, 1) := dq_get (L := lzddX7_readEvent_73) 14 rfl zddX7_readEvent_73 rfl
theorem dX7_readEvent_100 : decode cX7_readEvent 100 = .ok (.invokevirtual 226, 3) := dq_get (L := lzddX7_readEvent_73) 15 rfl zddX7_readEvent_73 rfl
theorem dX7_readEvent_103 : decode cX7_readEvent 103 = .ok (.ifCond .ne 5, 3) := dq_get (L := lzddX7_readEvent_73) 16 rfl zddX7_readEvent_73 rfl
theorem dX7_readEvent_106 : decode cX7_readEvent 106 = .ok (.iconst 0, 1) := dq_get (L := lzddX7_readEvent_73) 17 rfl zddX7_readEvent_73 rfl
theorem dX7_readEvent_107 : decode cX7_readEvent 107 = .ok (.ireturn, 1) := dq_get (L := lzddX7_readEvent_73) 18 rfl zddX7_readEvent_73 rfl
theorem dX7_readEvent_108 : decode cX7_readEvent 108 = .ok (.aload_n 2, 1) := dq_get (L := lzddX7_readEvent_73) 19 rfl zddX7_readEvent_73 rfl
def lzddX7_readEvent_109 : List (Nat × Instr × Nat) := [(109, .aload_n 0, 1), (110, .getfield 121, 3), (113, .putfield 229, 3), (116, .aload_n 2, 1), (117, .aload_n 0, 1), (118, .getfield 129, 3), (121, .putfield 230, 3), (124, .aload_n 0, 1), (125, .getfield 22, 3), (128, .dup, 1), (129, .getfield 165, 3), (132, .iconst 1, 1), (133, .iadd, 1), (134, .putfield 165, 3), (137, .iconst 1, 1), (138, .ireturn, 1)]
theorem zddX7_readEvent_109 : dqW lzddX7_readEvent_109 (cX7_readEvent.data.toList.drop 109) 109 = true := by decide +kernel
theorem dX7_readEvent_109 : decode cX7_readEvent 109 = .ok (.aload_n 0, 1) := dq_get (L := lzddX7_readEvent_109) 0 rfl zddX7_readEvent_109 rfl
theorem dX7_readEvent_110 : decode cX7_readEvent 110 = .ok (.getfield 121, 3) := dq_get (L := lzddX7_readEvent_109) 1 rfl zddX7_readEvent_109 rfl
theorem dX7_readEvent_113 : decode cX7_readEvent 113 = .ok (.putfield 229, 3) := dq_get (L := lzddX7_readEvent_109) 2 rfl zddX7_readEvent_109 rfl
theorem dX7_readEvent_116 : decode cX7_readEvent 116 = .ok (.aload_n 2, 1) := dq_get (L := lzddX7_readEvent_109) 3 rfl zddX7_readEvent_109 rfl
theorem dX7_readEvent_117 : decode cX7_readEvent 117 = .ok (.aload_n 0, 1) := dq_get (L := lzddX7_readEvent_109) 4 rfl zddX7_readEvent_109 rfl
theorem dX7_readEvent_118 : decode cX7_readEvent 118 = .ok (.getfield 129, 3) := dq_get (L := lzddX7_readEvent_109) 5 rfl zddX7_readEvent_109 rfl
theorem dX7_readEvent_121 : decode cX7_readEvent 121 = .ok (.putfield 230, 3) := dq_get (L := lzddX7_readEvent_109) 6 rfl zddX7_readEvent_109 rfl
theorem dX7_readEvent_124 : decode cX7_readEvent 124 = .ok (.aload_n 0, 1) := dq_get (L := lzddX7_readEvent_109) 7 rfl zddX7_readEvent_109 rfl
theorem dX7_readEvent_125 : decode cX7_readEvent 125 = .ok (.getfield 22, 3) := dq_get (L := lzddX7_readEvent_109) 8 rfl zddX7_readEvent_109 rfl
theorem dX7_readEvent_128 : decode cX7_readEvent 128 = .ok (.dup, 1) := dq_get (L := lzddX7_readEvent_109) 9 rfl zddX7_readEvent_109 rfl
theorem dX7_readEvent_129 : decode cX7_readEvent 129 = .ok (.getfield 165, 3) := dq_get (L := lzddX7_readEvent_109) 10 rfl zddX7_readEvent_109 rfl
theorem dX7_readEvent_132 : decode cX7_readEvent 132 = .ok (.iconst 1, 1) := dq_get (L := lzddX7_readEvent_109) 11 rfl zddX7_readEvent_109 rfl
theorem dX7_readEvent_133 : decode cX7_readEvent 133 = .ok (.iadd, 1) := dq_get (L := lzddX7_readEvent_109) 12 rfl zddX7_readEvent_109 rfl
theorem dX7_readEvent_134 : decode cX7_readEvent 134 = .ok (.putfield 165, 3) := dq_get (L := lzddX7_readEvent_109) 13 rfl zddX7_readEvent_109 rfl
theorem dX7_readEvent_137 : decode cX7_readEvent 137 = .ok (.iconst 1, 1) := dq_get (L := lzddX7_readEvent_109) 14 rfl zddX7_readEvent_109 rfl
theorem dX7_readEvent_138 : decode cX7_readEvent 138 = .ok (.ireturn, 1) := dq_get (L := lzddX7_readEvent_109) 15 rfl zddX7_readEvent_109 rfl
def lzddX7_readHuts_0 : List (Nat × Instr × Nat) := [(0, .aload_n 1, 1), (1, .iconst 0, 1), (2, .putfield 274, 3), (5, .iconst 0, 1), (6, .istore_n 2, 1), (7, .iload_n 2, 1), (8, .sipush 900, 3), (11, .if_icmp .gt 82, 3), (14, .aload_n 0, 1), (15, .iconst 0, 1), (16, .aload_n 0, 1), (17, .getfield 22, 3), (20, .getfield 112, 3), (23, .iconst 1, 1), (24, .isub, 1), (25, .invokevirtual 105, 3), (28, .ifCond .ne 5, 3), (31, .iconst 0, 1), (32, .ireturn, 1), (33, .aload_n 1, 1)]
theorem zddX7_readHuts_0 : dqW lzddX7_readHuts_0 (cX7_readHuts.data.toList.drop 0) 0 = true := by decide +kernel
theorem dX7_readHuts_0 : decode cX7_readHuts 0 = .ok (.aload_n 1, 1) := dq_get (L := lzddX7_readHuts_0) 0 rfl zddX7_readHuts_0 rfl
theorem dX7_readHuts_1 : decode cX7_readHuts 1 = .ok (.iconst 0, 1) := dq_get (L := lzddX7_readHuts_0) 1 rfl zddX7_readHuts_0 rfl
theorem dX7_readHuts_2 : decode cX7_readHuts 2 = .ok (.putfield 274, 3) := dq_get (L := lzddX7_readHuts_0) 2 rfl zddX7_readHuts_0 rfl
theorem dX7_readHuts_5 : decode cX7_readHuts 5 = .ok (.iconst 0, 1) := dq_get (L := lzddX7_readHuts_0) 3 rfl zddX7_readHuts_0 rfl
theorem dX7_readHuts_6 : decode cX7_readHuts 6 = .ok (.istore_n 2, 1) := dq_get (L := lzddX7_readHuts_0) 4 rfl zddX7_readHuts_0 rfl
theorem dX7_readHuts_7 : decode cX7_readHuts 7 = .ok (.iload_n 2, 1) := dq_get (L := lzddX7_readHuts_0) 5 rfl zddX7_readHuts_0 rfl
theorem dX7_readHuts_8 : decode cX7_readHuts 8 = .ok (.sipush 900, 3) := dq_get (L := lzddX7_readHuts_0) 6 rfl zddX7_readHuts_0 rfl
theorem dX7_readHuts_11 : decode cX7_readHuts 11 = .ok (.if_icmp .gt 82, 3) := dq_get (L := lzddX7_readHuts_0) 7 rfl zddX7_readHuts_0 rfl
theorem dX7_readHuts_14 : decode cX7_readHuts 14 = .ok (.aload_n 0, 1) := dq_get (L := lzddX7_readHuts_0) 8 rfl zddX7_readHuts_0 rfl
theorem dX7_readHuts_15 : decode cX7_readHuts 15 = .ok (.iconst 0, 1) := dq_get (L := lzddX7_readHuts_0) 9 rfl zddX7_readHuts_0 rfl
theorem dX7_readHuts_16 : decode cX7_readHuts 16 = .ok (.aload_n 0, 1) := dq_get (L := lzddX7_readHuts_0) 10 rfl zddX7_readHuts_0 rfl
theorem dX7_readHuts_17 : decode cX7_readHuts 17 = .ok (.getfield 22, 3) := dq_get (L := lzddX7_readHuts_0) 11 rfl zddX7_readHuts_0 rfl
theorem dX7_readHuts_20 : decode cX7_readHuts 20 = .ok (.getfield 112, 3) := dq_get (L := lzddX7_readHuts_0) 12 rfl zddX7_readHuts_0 rfl
theorem dX7_readHuts_23 : decode cX7_readHuts 23 = .ok (.iconst 1, 1) := dq_get (L := lzddX7_readHuts_0) 13 rfl zddX7_readHuts_0 rfl
theorem dX7_readHuts_24 : decode cX7_readHuts 24 = .ok (.isub, 1) := dq_get (L := lzddX7_readHuts_0) 14 rfl zddX7_readHuts_0 rfl
theorem dX7_readHuts_25 : decode cX7_readHuts 25 = .ok (.invokevirtual 105, 3) := dq_get (L := lzddX7_readHuts_0) 15 rfl zddX7_readHuts_0 rfl
theorem dX7_readHuts_28 : decode cX7_readHuts 28 = .ok (.ifCond .ne 5, 3) := dq_get (L := lzddX7_readHuts_0) 16 rfl zddX7_readHuts_0 rfl
theorem dX7_readHuts_31 : decode cX7_readHuts 31 = .ok (.iconst 0, 1) := dq_get (L := lzddX7_readHuts_0) 17 rfl zddX7_readHuts_0 rfl
theorem dX7_readHuts_32 : decode cX7_readHuts 32 = .ok (.ireturn, 1) := dq_get (L := lzddX7_readHuts_0) 18 rfl zddX7_readHuts_0 rfl
theorem dX7_readHuts_33 : decode cX7_readHuts 33 = .ok (.aload_n 1, 1) := dq_get (L := lzddX7_readHuts_0) 19 rfl zddX7_readHuts_0 rfl
def lzddX7_readHuts_34 : List (Nat × Instr × Nat) := [(34, .getfield 274, 3), (37, .aload_n 0, 1), (38, .getfield 86, 3), (41, .invokestatic 275, 3), (44, .iconst 1, 1), (45, .if_icmp .ne 9, 3), (48, .aload_n 0, 1), (49, .iconst 3, 1), (50, .invokevirtual 64, 3), (53, .ireturn, 1), (54, .aload_n 1, 1), (55, .dup, 1), (56, .getfield 274, 3), (59, .iconst 1, 1), (60, .aload_n 0, 1), (61, .getfield 86, 3), (64, .ishl, 1), (65, .ior, 1), (66, .putfield 274, 3), (69, .aload_n 0, 1)]
theorem zddX7_readHuts_34 : dqW lzddX7_readHuts_34 (cX7_readHuts.data.toList.drop 34) 34 = true := by decide +kernel
theorem dX7_readHuts_34 : decode cX7_readHuts 34 = .ok (.getfield 274, 3) := dq_get (L := lzddX7_readHuts_34) 0 rfl zddX7_readHuts_34 rfl
theorem dX7_readHuts_37 : decode cX7_readHuts 37 = .ok (.aload_n 0, 1) := dq_get (L := lzddX7_readHuts_34) 1 rfl zddX7_readHuts_34 rfl
theorem dX7_readHuts_38 : decode cX7_readHuts 38 = .ok (.getfield 86, 3) := dq_get (L := lzddX7_readHuts_34) 2 rfl zddX7_readHuts_34 rfl
theorem dX7_readHuts_41 : decode cX7_readHuts 41 = .ok (.invokestatic 275, 3) := dq_get (L := lzddX7_readHuts_34) 3 rfl zddX7_readHuts_34 rfl
theorem dX7_readHuts_44 : decode cX7_readHuts 44 = .ok (.iconst 1, 1) := dq_get (L := lzddX7_readHuts_34) 4 rfl zddX7_readHuts_34 rfl
theorem dX7_readHuts_45 : decode cX7_readHuts 45 = .ok (.if_icmp .ne 9, 3) := dq_get (L := lzddX7_readHuts_34) 5 rfl zddX7_readHuts_34 rfl
theorem dX7_readHuts_48 : decode cX7_readHuts 48 = .ok (.aload_n 0, 1) := dq_get (L := lzddX7_readHuts_34) 6 rfl zddX7_readHuts_34 rfl
theorem dX7_readHuts_49 : decode cX7_readHuts 49 = .ok (.iconst 3, 1) := dq_get (L := lzddX7_readHuts_34) 7 rfl zddX7_readHuts_34 rfl
theorem dX7_readHuts_50 : decode cX7_readHuts 50 = .ok (.invokevirtual 64, 3) := dq_get (L := lzddX7_readHuts_34) 8 rfl zddX7_readHuts_34 rfl
theorem dX7_readHuts_53 : decode cX7_readHuts 53 = .ok (.ireturn, 1) := dq_get (L := lzddX7_readHuts_34) 9 rfl zddX7_readHuts_34 rfl
theorem dX7_readHuts_54 : decode cX7_readHuts 54 = .ok (.aload_n 1, 1) := dq_get (L := lzddX7_readHuts_34) 10 rfl zddX7_readHuts_34 rfl
theorem dX7_readHuts_55 : decode cX7_readHuts 55 = .ok (.dup, 1) := dq_get (L := lzddX7_readHuts_34) 11 rfl zddX7_readHuts_34 rfl
theorem dX7_readHuts_56 : decode cX7_readHuts 56 = .ok (.getfield 274, 3) := dq_get (L := lzddX7_readHuts_34) 12 rfl zddX7_readHuts_34 rfl
theorem dX7_readHuts_59 : decode cX7_readHuts 59 = .ok (.iconst 1, 1) := dq_get (L := lzddX7_readHuts_34) 13 rfl zddX7_readHuts_34 rfl
theorem dX7_readHuts_60 : decode cX7_readHuts 60 = .ok (.aload_n 0, 1) := dq_get (L := lzddX7_readHuts_34) 14 rfl zddX7_readHuts_34 rfl
theorem dX7_readHuts_61 : decode cX7_readHuts 61 = .ok (.getfield 86, 3) := dq_get (L := lzddX7_readHuts_34) 15 rfl zddX7_readHuts_34 rfl
theorem dX7_readHuts_64 : decode cX7_readHuts 64 = .ok (.ishl, 1) := dq_get (L := lzddX7_readHuts_34) 16 rfl zddX7_readHuts_34 rfl
theorem dX7_readHuts_65 : decode cX7_readHuts 65 = .ok (.ior, 1) := dq_get (L := lzddX7_readHuts_34) 17 rfl zddX7_readHuts_34 rfl
theorem dX7_readHuts_66 : decode cX7_readHuts 66 = .ok (.putfield 274, 3) := dq_get (L := lzddX7_readHuts_34) 18 rfl zddX7_readHuts_34 rfl
theorem dX7_readHuts_69 : decode cX7_readHuts 69 = .ok (.aload_n 0, 1) := dq_get (L := lzddX7_readHuts_34) 19 rfl zddX7_readHuts_34 rfl
def lzddX7_readHuts_70 : List (Nat × Instr × Nat) := [(70, .invokevirtual 51, 3), (73, .aload_n 0, 1), (74, .getfield 58, 3), (77, .iconst 4, 1), (78, .if_icmp .eq 5, 3), (81, .iconst 1, 1), (82, .ireturn, 1), (83, .aload_n 0, 1), (84, .invokevirtual 51, 3), (87, .iinc 2 1, 3), (90, .goto (-83), 3), (93, .aload_n 0, 1), (94, .iconst 1, 1), (95, .invokevirtual 64, 3), (98, .ireturn, 1)]
theorem zddX7_readHuts_70 : dqW lzddX7_readHuts_70 (cX7_readHuts.data.toList.drop 70) 70 = true := by decide +kernel
theorem dX7_readHuts_70 : decode cX7_readHuts 70 = .ok (.invokevirtual 51, 3) := dq_get (L := lzddX7_readHuts_70) 0 rfl zddX7_readHuts_70 rfl
theorem dX7_readHuts_73 : decode cX7_readHuts 73 = .ok (.aload_n 0, 1) := dq_get (L := lzddX7_readHuts_70) 1 rfl zddX7_readHuts_70 rfl
theorem dX7_readHuts_74 : decode cX7_readHuts 74 = .ok (.getfield 58, 3) := dq_get (L := lzddX7_readHuts_70) 2 rfl zddX7_readHuts_70 rfl
theorem dX7_readHuts_77 : decode cX7_readHuts 77 = .ok (.iconst 4, 1) := dq_get (L := lzddX7_readHuts_70) 3 rfl zddX7_readHuts_70 rfl
theorem dX7_readHuts_78 : decode cX7_readHuts 78 = .ok (.if_icmp .eq 5, 3) := dq_get (L := lzddX7_readHuts_70) 4 rfl zddX7_readHuts_70 rfl
theorem dX7_readHuts_81 : decode cX7_readHuts 81 = .ok (.iconst 1, 1) := dq_get (L := lzddX7_readHuts_70) 5 rfl zddX7_readHuts_70 rfl
theorem dX7_readHuts_82 : decode cX7_readHuts 82 = .ok (.ireturn, 1) := dq_get (L := lzddX7_readHuts_70) 6 rfl zddX7_readHuts_70 rfl
theorem dX7_readHuts_83 : decode cX7_readHuts 83 = .ok (.aload_n 0, 1) := dq_get (L := lzddX7_readHuts_70) 7 rfl zddX7_readHuts_70 rfl
theorem dX7_readHuts_84 : decode cX7_readHuts 84 = .ok (.invokevirtual 51, 3) := dq_get (L := lzddX7_readHuts_70) 8 rfl zddX7_readHuts_70 rfl
theorem dX7_readHuts_87 : decode cX7_readHuts 87 = .ok (.iinc 2 1, 3) := dq_get (L := lzddX7_readHuts_70) 9 rfl zddX7_readHuts_70 rfl
theorem dX7_readHuts_90 : decode cX7_readHuts 90 = .ok (.goto (-83), 3) := dq_get (L := lzddX7_readHuts_70) 10 rfl zddX7_readHuts_70 rfl
theorem dX7_readHuts_93 : decode cX7_readHuts 93 = .ok (.aload_n 0, 1) := dq_get (L := lzddX7_readHuts_70) 11 rfl zddX7_readHuts_70 rfl
theorem dX7_readHuts_94 : decode cX7_readHuts 94 = .ok (.iconst 1, 1) := dq_get (L := lzddX7_readHuts_70) 12 rfl zddX7_readHuts_70 rfl
theorem dX7_readHuts_95 : decode cX7_readHuts 95 = .ok (.invokevirtual 64, 3) := dq_get (L := lzddX7_readHuts_70) 13 rfl zddX7_readHuts_70 rfl
theorem dX7_readHuts_98 : decode cX7_readHuts 98 = .ok (.ireturn, 1) := dq_get (L := lzddX7_readHuts_70) 14 rfl zddX7_readHuts_70 rfl
def lzddX7_readLine_0 : List (Nat × Instr × Nat) := [(0, .aload_n 0, 1), (1, .invokevirtual 168, 3), (4, .istore_n 1, 1), (5, .iload_n 1, 1), (6, .iconst (-1), 1), (7, .if_icmp .ne 9, 3), (10, .aload_n 0, 1), (11, .iconst 1, 1), (12, .invokevirtual 64, 3), (15, .ireturn, 1), (16, .aload_n 0, 1), (17, .iload_n 1, 1), (18, .invokevirtual 171, 3), (21, .ifCond .eq 9, 3), (24, .aload_n 0, 1), (25, .iconst 3, 1), (26, .invokevirtual 64, 3), (29, .ireturn, 1), (30, .aload_n 0, 1), (31, .iload_n 1, 1)]
theorem zddX7_readLine_0 : dqW lzddX7_readLine_0 (cX7_readLine.data.toList.drop 0) 0 = true := by decide +kernel
theorem dX7_readLine_0 : decode cX7_readLine 0 = .ok (.aload_n 0, 1) := dq_get (L := lzddX7_readLine_0) 0 rfl zddX7_readLine_0 rfl
theorem dX7_readLine_1 : decode cX7_readLine 1 = .ok (.invokevirtual 168, 3) := dq_get (L := lzddX7_readLine_0) 1 rfl zddX7_readLine_0 rfl
theorem dX7_readLine_4 : decode cX7_readLine 4 = .ok (.istore_n 1, 1) := dq_get (L := lzddX7_readLine_0) 2 rfl zddX7_readLine_0 rfl
theorem dX7_readLine_5 : decode cX7_readLine 5 = .ok (.iload_n 1, 1) := dq_get (L := lzddX7_readLine_0) 3 rfl zddX7_readLine_0 rfl
theorem dX7_readLine_6 : decode cX7_readLine 6 = .ok (.iconst (-1), 1) := dq_get (L := lzddX7_readLine_0) 4 rfl zddX7_readLine_0 rfl
theorem dX7_readLine_7 : decode cX7_readLine 7 = .ok (.if_icmp .ne 9, 3) := dq_get (L := lzddX7_readLine_0) 5 rfl zddX7_readLine_0 rfl
theorem dX7_readLine_10 : decode cX7_readLine 10 = .ok (.aload_n 0, 1) := dq_get (L := lzddX7_readLine_0) 6 rfl zddX7_readLine_0 rfl
theorem dX7_readLine_11 : decode cX7_readLine 11 = .ok (.iconst 1, 1) := dq_get (L := lzddX7_readLine_0) 7 rfl zddX7_readLine_0 rfl
theorem dX7_readLine_12 : decode cX7_readLine 12 = .ok (.invokevirtual 64, 3) := dq_get (L := lzddX7_readLine_0) 8 rfl zddX7_readLine_0 rfl
theorem dX7_readLine_15 : decode cX7_readLine 15 = .ok (.ireturn, 1) := dq_get (L := lzddX7_readLine_0) 9 rfl zddX7_readLine_0 rfl
theorem dX7_readLine_16 : decode cX7_readLine 16 = .ok (.aload_n 0, 1) := dq_get (L := lzddX7_readLine_0) 10 rfl zddX7_readLine_0 rfl
theorem dX7_readLine_17 : decode cX7_readLine 17 = .ok (.iload_n 1, 1) := dq_get (L := lzddX7_readLine_0) 11 rfl zddX7_readLine_0 rfl
theorem dX7_readLine_18 : decode cX7_readLine 18 = .ok (.invokevirtual 171, 3) := dq_get (L := lzddX7_readLine_0) 12 rfl zddX7_readLine_0 rfl
theorem dX7_readLine_21 : decode cX7_readLine 21 = .ok (.ifCond .eq 9, 3) := dq_get (L := lzddX7_readLine_0) 13 rfl zddX7_readLine_0 rfl
theorem dX7_readLine_24 : decode cX7_readLine 24 = .ok (.aload_n 0, 1) := dq_get (L := lzddX7_readLine_0) 14 rfl zddX7_readLine_0 rfl
theorem dX7_readLine_25 : decode cX7_readLine 25 = .ok (.iconst 3, 1) := dq_get (L := lzddX7_readLine_0) 15 rfl zddX7_readLine_0 rfl
theorem dX7_readLine_26 : decode cX7_readLine 26 = .ok (.invokevirtual 64, 3) := dq_get (L := lzddX7_readLine_0) 16 rfl zddX7_readLine_0 rfl
theorem dX7_readLine_29 : decode cX7_readLine 29 = .ok (.ireturn, 1) := dq_get (L := lzddX7_readLine_0) 17 rfl zddX7_readLine_0 rfl
theorem dX7_readLine_30 : decode cX7_readLine 30 = .ok (.aload_n 0, 1) := dq_get (L := lzddX7_readLine_0) 18 rfl zddX7_readLine_0 rfl
theorem dX7_readLine_31 : decode cX7_readLine 31 = .ok (.iload_n 1, 1) := dq_get (L := lzddX7_readLine_0) 19 rfl zddX7_readLine_0 rfl
def lzddX7_readLine_32 : List (Nat × Instr × Nat) := [(32, .invokevirtual 174, 3), (35, .ifCond .eq 9, 3), (38, .aload_n 0, 1), (39, .iconst 5, 1), (40, .invokevirtual 64, 3), (43, .ireturn, 1), (44, .iload_n 1, 1), (45, .bipush 10, 2), (47, .if_icmp .eq 17, 3), (50, .aload_n 0, 1), (51, .getfield 31, 3), (54, .ifCond .ne 10, 3), (57, .aload_n 0, 1), (58, .bipush 6, 2), (60, .invokevirtual 64, 3), (63, .ireturn, 1), (64, .aload_n 0, 1), (65, .invokevirtual 51, 3), (68, .iload_n 1, 1)]
theorem zddX7_readLine_32 : dqW lzddX7_readLine_32 (cX7_readLine.data.toList.drop 32) 32 = true := by decide +kernel
theorem dX7_readLine_32 : decode cX7_readLine 32 = .ok (.invokevirtual 174, 3) := dq_get (L := lzddX7_readLine_32) 0 rfl zddX7_readLine_32 rfl
theorem dX7_readLine_35 : decode cX7_readLine 35 = .ok (.ifCond .eq 9, 3) := dq_get (L := lzddX7_readLine_32) 1 rfl zddX7_readLine_32 rfl
theorem dX7_readLine_38 : decode cX7_readLine 38 = .ok (.aload_n 0, 1) := dq_get (L := lzddX7_readLine_32) 2 rfl zddX7_readLine_32 rfl
theorem dX7_readLine_39 : decode cX7_readLine 39 = .ok (.iconst 5, 1) := dq_get (L := lzddX7_readLine_32) 3 rfl zddX7_readLine_32 rfl
theorem dX7_readLine_40 : decode cX7_readLine 40 = .ok (.invokevirtual 64, 3) := dq_get (L := lzddX7_readLine_32) 4 rfl zddX7_readLine_32 rfl
theorem dX7_readLine_43 : decode cX7_readLine 43 = .ok (.ireturn, 1) := dq_get (L := lzddX7_readLine_32) 5 rfl zddX7_readLine_32 rfl
theorem dX7_readLine_44 : decode cX7_readLine 44 = .ok (.iload_n 1, 1) := dq_get (L := lzddX7_readLine_32) 6 rfl zddX7_readLine_32 rfl
theorem dX7_readLine_45 : decode cX7_readLine 45 = .ok (.bipush 10, 2) := dq_get (L := lzddX7_readLine_32) 7 rfl zddX7_readLine_32 rfl
theorem dX7_readLine_47 : decode cX7_readLine 47 = .ok (.if_icmp .eq 17, 3) := dq_get (L := lzddX7_readLine_32) 8 rfl zddX7_readLine_32 rfl
theorem dX7_readLine_50 : decode cX7_readLine 50 = .ok (.aload_n 0, 1) := dq_get (L := lzddX7_readLine_32) 9 rfl zddX7_readLine_32 rfl
theorem dX7_readLine_51 : decode cX7_readLine 51 = .ok (.getfield 31, 3) := dq_get (L := lzddX7_readLine_32) 10 rfl zddX7_readLine_32 rfl
theorem dX7_readLine_54 : decode cX7_readLine 54 = .ok (.ifCond .ne 10, 3) := dq_get (L := lzddX7_readLine_32) 11 rfl zddX7_readLine_32 rfl
theorem dX7_readLine_57 : decode cX7_readLine 57 = .ok (.aload_n 0, 1) := dq_get (L := lzddX7_readLine_32) 12 rfl zddX7_readLine_32 rfl
theorem dX7_readLine_58 : decode cX7_readLine 58 = .ok (.bipush 6, 2) := dq_get (L := lzddX7_readLine_32) 13 rfl zddX7_readLine_32 rfl
theorem dX7_readLine_60 : decode cX7_readLine 60 = .ok (.invokevirtual 64, 3) := dq_get (L := lzddX7_readLine_32) 14 rfl zddX7_readLine_32 rfl
theorem dX7_readLine_63 : decode cX7_readLine 63 = .ok (.ireturn, 1) := dq_get (L := lzddX7_readLine_32) 15 rfl zddX7_readLine_32 rfl
theorem dX7_readLine_64 : decode cX7_readLine 64 = .ok (.aload_n 0, 1) := dq_get (L := lzddX7_readLine_32) 16 rfl zddX7_readLine_32 rfl
theorem dX7_readLine_65 : decode cX7_readLine 65 = .ok (.invokevirtual 51, 3) := dq_get (L := lzddX7_readLine_32) 17 rfl zddX7_readLine_32 rfl
theorem dX7_readLine_68 : decode cX7_readLine 68 = .ok (.iload_n 1, 1) := dq_get (L := lzddX7_readLine_32) 18 rfl zddX7_readLine_32 rfl
theorem dX7_readLine_69 : decode cX7_readLine 69 = .ok (.tableswitch 111 5 10 #[44, 49, 66, 71, 76, 39], 39) := by decide +kernel
def lzddX7_readLine_108 : List (Nat × Instr × Nat) := [(108, .aload_n 0, 1), (109, .invokevirtual 177, 3), (112, .ireturn, 1), (113, .aload_n 0, 1), (114, .invokevirtual 180, 3), (117, .ireturn, 1), (118, .aload_n 0, 1), (119, .iconst 1, 1), (120, .putfield 35, 3), (123, .aload_n 0, 1), (124, .aload_n 0, 1), (125, .getfield 22, 3), (128, .getfield 183, 3), (131, .invokevirtual 186, 3), (134, .ireturn, 1), (135, .aload_n 0, 1), (136, .invokevirtual 190, 3), (139, .ireturn, 1), (140, .aload_n 0, 1), (141, .invokevirtual 193, 3)]
theorem zddX7_readLine_108 : dqW lzddX7_readLine_108 (cX7_readLine.data.toList.drop 108) 108 = true := by decide +kernel
theorem dX7_readLine_108 : decode cX7_readLine 108 = .ok (.aload_n 0, 1) := dq_get (L := lzddX7_readLine_108) 0 rfl zddX7_readLine_108 rfl
theorem dX7_readLine_109 : decode cX7_readLine 109 = .ok (.invokevirtual 177, 3) := dq_get (L := lzddX7_readLine_108) 1 rfl zddX7_readLine_108 rfl
theorem dX7_readLine_112 : decode cX7_readLine 112 = .ok (.ireturn, 1) := dq_get (L := lzddX7_readLine_108) 2 rfl zddX7_readLine_108 rfl
theorem dX7_readLine_113 : decode cX7_readLine 113 = .ok (.aload_n 0, 1) := dq_get (L := lzddX7_readLine_108) 3 rfl zddX7_readLine_108 rfl
theorem dX7_readLine_114 : decode cX7_readLine 114 = .ok (.invokevirtual 180, 3) := dq_get (L := lzddX7_readLine_108) 4 rfl zddX7_readLine_108 rfl
theorem dX7_readLine_117 : decode cX7_readLine 117 = .ok (.ireturn, 1) := dq_get (L := lzddX7_readLine_108) 5 rfl zddX7_readLine_108 rfl
theorem dX7_readLine_118 : decode cX7_readLine 118 = .ok (.aload_n 0, 1) := dq_get (L := lzddX7_readLine_108) 6 rfl zddX7_readLine_108 rfl
theorem dX7_readLine_119 : decode cX7_readLine 119 = .ok (.iconst 1, 1) := dq_get (L := lzddX7_readLine_108) 7 rfl zddX7_readLine_108 rfl
theorem dX7_readLine_120 : decode cX7_readLine 120 = .ok (.putfield 35, 3) := dq_get (L := lzddX7_readLine_108) 8 rfl zddX7_readLine_108 rfl
theorem dX7_readLine_123 : decode cX7_readLine 123 = .ok (.aload_n 0, 1) := dq_get (L := lzddX7_readLine_108) 9 rfl zddX7_readLine_108 rfl
theorem dX7_readLine_124 : decode cX7_readLine 124 = .ok (.aload_n 0, 1) := dq_get (L := lzddX7_readLine_108) 10 rfl zddX7_readLine_108 rfl
theorem dX7_readLine_125 : decode cX7_readLine 125 = .ok (.getfield 22, 3) := dq_get (L := lzddX7_readLine_108) 11 rfl zddX7_readLine_108 rfl
theorem dX7_readLine_128 : decode cX7_readLine 128 = .ok (.getfield 183, 3) := dq_get (L := lzddX7_readLine_108) 12 rfl zddX7_readLine_108 rfl
theorem dX7_readLine_131 : decode cX7_readLine 131 = .ok (.invokevirtual 186, 3) := dq_get (L := lzddX7_readLine_108) 13 rfl zddX7_readLine_108 rfl
theorem dX7_readLine_134 : decode cX7_readLine 134 = .ok (.ireturn, 1) := dq_get (L := lzddX7_readLine_108) 14 rfl zddX7_readLine_108 rfl
theorem dX7_readLine_135 : decode cX7_readLine 135 = .ok (.aload_n 0, 1) := dq_get (L := lzddX7_readLine_108) 15 rfl zddX7_readLine_108 rfl
theorem dX7_readLine_136 : decode cX7_readLine 136 = .ok (.invokevirtual 190, 3) := dq_get (L := lzddX7_readLine_108) 16 rfl zddX7_readLine_108 rfl
theorem dX7_readLine_139 : decode cX7_readLine 139 = .ok (.ireturn, 1) := dq_get (L := lzddX7_readLine_108) 17 rfl zddX7_readLine_108 rfl
theorem dX7_readLine_140 : decode cX7_readLine 140 = .ok (.aload_n 0, 1) := dq_get (L := lzddX7_readLine_108) 18 rfl zddX7_readLine_108 rfl
theorem dX7_readLine_141 : decode cX7_readLine 141 = .ok (.invokevirtual 193, 3) := dq_get (L := lzddX7_readLine_108) 19 rfl zddX7_readLine_108 rfl
def lzddX7_readLine_144 : List (Nat × Instr × Nat) := [(144, .ireturn, 1), (145, .aload_n 0, 1), (146, .getfield 22, 3), (149, .dup, 1), (150, .getfield 162, 3), (153, .iconst 1, 1), (154, .iadd, 1), (155, .putfield 162, 3), (158, .aload_n 0, 1), (159, .aload_n 0, 1), (160, .getfield 22, 3), (163, .getfield 196, 3), (166, .aload_n 0, 1), (167, .getfield 22, 3), (170, .getfield 162, 3), (173, .iconst 1, 1), (174, .isub, 1), (175, .aaload, 1), (176, .invokevirtual 186, 3), (179, .ireturn, 1)]
theorem zddX7_readLine_144 : dqW lzddX7_readLine_144 (cX7_readLine.data.toList.drop 144) 144 = true := by decide +kernel
theorem dX7_readLine_144 : decode cX7_readLine 144 = .ok (.ireturn, 1) := dq_get (L := lzddX7_readLine_144) 0 rfl zddX7_readLine_144 rfl
theorem dX7_readLine_145 : decode cX7_readLine 145 = .ok (.aload_n 0, 1) := dq_get (L := lzddX7_readLine_144) 1 rfl zddX7_readLine_144 rfl
theorem dX7_readLine_146 : decode cX7_readLine 146 = .ok (.getfield 22, 3) := dq_get (L := lzddX7_readLine_144) 2 rfl zddX7_readLine_144 rfl
theorem dX7_readLine_149 : decode cX7_readLine 149 = .ok (.dup, 1) := dq_get (L := lzddX7_readLine_144) 3 rfl zddX7_readLine_144 rfl
theorem dX7_readLine_150 : decode cX7_readLine 150 = .ok (.getfield 162, 3) := dq_get (L := lzddX7_readLine_144) 4 rfl zddX7_readLine_144 rfl
theorem dX7_readLine_153 : decode cX7_readLine 153 = .ok (.iconst 1, 1) := dq_get (L := lzddX7_readLine_144) 5 rfl zddX7_readLine_144 rfl
theorem dX7_readLine_154 : decode cX7_readLine 154 = .ok (.iadd, 1) := dq_get (L := lzddX7_readLine_144) 6 rfl zddX7_readLine_144 rfl
theorem dX7_readLine_155 : decode cX7_readLine 155 = .ok (.putfield 162, 3) := dq_get (L := lzddX7_readLine_144) 7 rfl zddX7_readLine_144 rfl
theorem dX7_readLine_158 : decode cX7_readLine 158 = .ok (.aload_n 0, 1) := dq_get (L := lzddX7_readLine_144) 8 rfl zddX7_readLine_144 rfl
theorem dX7_readLine_159 : decode cX7_readLine 159 = .ok (.aload_n 0, 1) := dq_get (L := lzddX7_readLine_144) 9 rfl zddX7_readLine_144 rfl
theorem dX7_readLine_160 : decode cX7_readLine 160 = .ok (.getfield 22, 3) := dq_get (L := lzddX7_readLine_144) 10 rfl zddX7_readLine_144 rfl
theorem dX7_readLine_163 : decode cX7_readLine 163 = .ok (.getfield 196, 3) := dq_get (L := lzddX7_readLine_144) 11 rfl zddX7_readLine_144 rfl
theorem dX7_readLine_166 : decode cX7_readLine 166 = .ok (.aload_n 0, 1) := dq_get (L := lzddX7_readLine_144) 12 rfl zddX7_readLine_144 rfl
theorem dX7_readLine_167 : decode cX7_readLine 167 = .ok (.getfield 22, 3) := dq_get (L := lzddX7_readLine_144) 13 rfl zddX7_readLine_144 rfl
theorem dX7_readLine_170 : decode cX7_readLine 170 = .ok (.getfield 162, 3) := dq_get (L := lzddX7_readLine_144) 14 rfl zddX7_readLine_144 rfl
theorem dX7_readLine_173 : decode cX7_readLine 173 = .ok (.iconst 1, 1) := dq_get (L := lzddX7_readLine_144) 15 rfl zddX7_readLine_144 rfl
theorem dX7_readLine_174 : decode cX7_readLine 174 = .ok (.isub, 1) := dq_get (L := lzddX7_readLine_144) 16 rfl zddX7_readLine_144 rfl
theorem dX7_readLine_175 : decode cX7_readLine 175 = .ok (.aaload, 1) := dq_get (L := lzddX7_readLine_144) 17 rfl zddX7_readLine_144 rfl
theorem dX7_readLine_176 : decode cX7_readLine 176 = .ok (.invokevirtual 186, 3) := dq_get (L := lzddX7_readLine_144) 18 rfl zddX7_readLine_144 rfl
theorem dX7_readLine_179 : decode cX7_readLine 179 = .ok (.ireturn, 1) := dq_get (L := lzddX7_readLine_144) 19 rfl zddX7_readLine_144 rfl
def lzddX7_readLine_180 : List (Nat × Instr × Nat) := [(180, .aload_n 0, 1), (181, .iload_n 1, 1), (182, .invokevirtual 200, 3), (185, .ireturn, 1)]
theorem zddX7_readLine_180 : dqW lzddX7_readLine_180 (cX7_readLine.data.toList.drop 180) 180 = true := by decide +kernel
theorem dX7_readLine_180 : decode cX7_readLine 180 = .ok (.aload_n 0, 1) := dq_get (L := lzddX7_readLine_180) 0 rfl zddX7_readLine_180 rfl
theorem dX7_readLine_181 : decode cX7_readLine 181 = .ok (.iload_n 1, 1) := dq_get (L := lzddX7_readLine_180) 1 rfl zddX7_readLine_180 rfl
theorem dX7_readLine_182 : decode cX7_readLine 182 = .ok (.invokevirtual 200, 3) := dq_get (L := lzddX7_readLine_180) 2 rfl zddX7_readLine_180 rfl
theorem dX7_readLine_185 : decode cX7_readLine 185 = .ok (.ireturn, 1) := dq_get (L := lzddX7_readLine_180) 3 rfl zddX7_readLine_180 rfl
def lzddX7_readMinutes_0 : List (Nat × Instr × Nat) := [(0, .aload_n 1, 1), (1, .iconst 0, 1), (2, .putfield 306, 3), (5, .iconst 0, 1), (6, .istore_n 2, 1), (7, .iconst 0, 1), (8, .istore_n 3, 1), (9, .iload_n 3, 1), (10, .bipush 8, 2), (12, .if_icmp .gt 85, 3), (15, .aload_n 0, 1), (16, .iload_n 2, 1), (17, .aload_n 0, 1), (18, .getfield 22, 3), (21, .getfield 118, 3), (24, .iconst 1, 1), (25, .isub, 1), (26, .invokevirtual 105, 3), (29, .ifCond .ne 5, 3), (32, .iconst 0, 1)]
theorem zddX7_readMinutes_0 : dqW lzddX7_readMinutes_0 (cX7_readMinutes.data.toList.drop 0) 0 = true := by decide +kernel
theorem dX7_readMinutes_0 : decode cX7_readMinutes 0 = .ok (.aload_n 1, 1) := dq_get (L := lzddX7_readMinutes_0) 0 rfl zddX7_readMinutes_0 rfl
theorem dX7_readMinutes_1 : decode cX7_readMinutes 1 = .ok (.iconst 0, 1) := dq_get (L := lzddX7_readMinutes_0) 1 rfl zddX7_readMinutes_0 rfl
theorem dX7_readMinutes_2 : decode cX7_readMinutes 2 = .ok (.putfield 306, 3) := dq_get (L := lzddX7_readMinutes_0) 2 rfl zddX7_readMinutes_0 rfl
theorem dX7_readMinutes_5 : decode cX7_readMinutes 5 = .ok (.iconst 0, 1) := dq_get (L := lzddX7_readMinutes_0) 3 rfl zddX7_readMinutes_0 rfl
theorem dX7_readMinutes_6 : decode cX7_readMinutes 6 = .ok (.istore_n 2, 1) := dq_get (L := lzddX7_readMinutes_0) 4 rfl zddX7_readMinutes_0 rfl
theorem dX7_readMinutes_7 : decode cX7_readMinutes 7 = .ok (.iconst 0, 1) := dq_get (L := lzddX7_readMinutes_0) 5 rfl zddX7_readMinutes_0 rfl
theorem dX7_readMinutes_8 : decode cX7_readMinutes 8 = .ok (.istore_n 3, 1) := dq_get (L := lzddX7_readMinutes_0) 6 rfl zddX7_readMinutes_0 rfl
theorem dX7_readMinutes_9 : decode cX7_readMinutes 9 = .ok (.iload_n 3, 1) := dq_get (L := lzddX7_readMinutes_0) 7 rfl zddX7_readMinutes_0 rfl
theorem dX7_readMinutes_10 : decode cX7_readMinutes 10 = .ok (.bipush 8, 2) := dq_get (L := lzddX7_readMinutes_0) 8 rfl zddX7_readMinutes_0 rfl
theorem dX7_readMinutes_12 : decode cX7_readMinutes 12 = .ok (.if_icmp .gt 85, 3) := dq_get (L := lzddX7_readMinutes_0) 9 rfl zddX7_readMinutes_0 rfl
theorem dX7_readMinutes_15 : decode cX7_readMinutes 15 = .ok (.aload_n 0, 1) := dq_get (L := lzddX7_readMinutes_0) 10 rfl zddX7_readMinutes_0 rfl
theorem dX7_readMinutes_16 : decode cX7_readMinutes 16 = .ok (.iload_n 2, 1) := dq_get (L := lzddX7_readMinutes_0) 11 rfl zddX7_readMinutes_0 rfl
theorem dX7_readMinutes_17 : decode cX7_readMinutes 17 = .ok (.aload_n 0, 1) := dq_get (L := lzddX7_readMinutes_0) 12 rfl zddX7_readMinutes_0 rfl
theorem dX7_readMinutes_18 : decode cX7_readMinutes 18 = .ok (.getfield 22, 3) := dq_get (L := lzddX7_readMinutes_0) 13 rfl zddX7_readMinutes_0 rfl
theorem dX7_readMinutes_21 : decode cX7_readMinutes 21 = .ok (.getfield 118, 3) := dq_get (L := lzddX7_readMinutes_0) 14 rfl zddX7_readMinutes_0 rfl
theorem dX7_readMinutes_24 : decode cX7_readMinutes 24 = .ok (.iconst 1, 1) := dq_get (L := lzddX7_readMinutes_0) 15 rfl zddX7_readMinutes_0 rfl
theorem dX7_readMinutes_25 : decode cX7_readMinutes 25 = .ok (.isub, 1) := dq_get (L := lzddX7_readMinutes_0) 16 rfl zddX7_readMinutes_0 rfl
theorem dX7_readMinutes_26 : decode cX7_readMinutes 26 = .ok (.invokevirtual 105, 3) := dq_get (L := lzddX7_readMinutes_0) 17 rfl zddX7_readMinutes_0 rfl
theorem dX7_readMinutes_29 : decode cX7_readMinutes 29 = .ok (.ifCond .ne 5, 3) := dq_get (L := lzddX7_readMinutes_0) 18 rfl zddX7_readMinutes_0 rfl
theorem dX7_readMinutes_32 : decode cX7_readMinutes 32 = .ok (.iconst 0, 1) := dq_get (L := lzddX7_readMinutes_0) 19 rfl zddX7_readMinutes_0 rfl
def lzddX7_readMinutes_33 : List (Nat × Instr × Nat) := [(33, .ireturn, 1), (34, .iload_n 3, 1), (35, .bipush 8, 2), (37, .if_icmp .ne 9, 3), (40, .aload_n 0, 1), (41, .iconst 5, 1), (42, .invokevirtual 64, 3), (45, .ireturn, 1), (46, .aload_n 1, 1), (47, .getfield 311, 3), (50, .iload_n 3, 1), (51, .aload_n 0, 1), (52, .getfield 86, 3), (55, .iastore, 1), (56, .aload_n 1, 1), (57, .dup, 1), (58, .getfield 306, 3), (61, .iconst 1, 1), (62, .iadd, 1), (63, .putfield 306, 3)]
theorem zddX7_readMinutes_33 : dqW lzddX7_readMinutes_33 (cX7_readMinutes.data.toList.drop 33) 33 = true := by decide +kernel
theorem dX7_readMinutes_33 : decode cX7_readMinutes 33 = .ok (.ireturn, 1) := dq_get (L := lzddX7_readMinutes_33) 0 rfl zddX7_readMinutes_33 rfl
theorem dX7_readMinutes_34 : decode cX7_readMinutes 34 = .ok (.iload_n 3, 1) := dq_get (L := lzddX7_readMinutes_33) 1 rfl zddX7_readMinutes_33 rfl
theorem dX7_readMinutes_35 : decode cX7_readMinutes 35 = .ok (.bipush 8, 2) := dq_get (L := lzddX7_readMinutes_33) 2 rfl zddX7_readMinutes_33 rfl
theorem dX7_readMinutes_37 : decode cX7_readMinutes 37 = .ok (.if_icmp .ne 9, 3) := dq_get (L := lzddX7_readMinutes_33) 3 rfl zddX7_readMinutes_33 rfl
theorem dX7_readMinutes_40 : decode cX7_readMinutes 40 = .ok (.aload_n 0, 1) := dq_get (L := lzddX7_readMinutes_33) 4 rfl zddX7_readMinutes_33 rfl
theorem dX7_readMinutes_41 : decode cX7_readMinutes 41 = .ok (.iconst 5, 1) := dq_get (L := lzddX7_readMinutes_33) 5 rfl zddX7_readMinutes_33 rfl
theorem dX7_readMinutes_42 : decode cX7_readMinutes 42 = .ok (.invokevirtual 64, 3) := dq_get (L := lzddX7_readMinutes_33) 6 rfl zddX7_readMinutes_33 rfl
theorem dX7_readMinutes_45 : decode cX7_readMinutes 45 = .ok (.ireturn, 1) := dq_get (L := lzddX7_readMinutes_33) 7 rfl zddX7_readMinutes_33 rfl
theorem dX7_readMinutes_46 : decode cX7_readMinutes 46 = .ok (.aload_n 1, 1) := dq_get (L := lzddX7_readMinutes_33) 8 rfl zddX7_readMinutes_33 rfl
theorem dX7_readMinutes_47 : decode cX7_readMinutes 47 = .ok (.getfield 311, 3) := dq_get (L := lzddX7_readMinutes_33) 9 rfl zddX7_readMinutes_33 rfl
theorem dX7_readMinutes_50 : decode cX7_readMinutes 50 = .ok (.iload_n 3, 1) := dq_get (L := lzddX7_readMinutes_33) 10 rfl zddX7_readMinutes_33 rfl
theorem dX7_readMinutes_51 : decode cX7_readMinutes 51 = .ok (.aload_n 0, 1) := dq_get (L := lzddX7_readMinutes_33) 11 rfl zddX7_readMinutes_33 rfl
theorem dX7_readMinutes_52 : decode cX7_readMinutes 52 = .ok (.getfield 86, 3) := dq_get (L := lzddX7_readMinutes_33) 12 rfl zddX7_readMinutes_33 rfl
theorem dX7_readMinutes_55 : decode cX7_readMinutes 55 = .ok (.iastore, 1) := dq_get (L := lzddX7_readMinutes_33) 13 rfl zddX7_readMinutes_33 rfl
theorem dX7_readMinutes_56 : decode cX7_readMinutes 56 = .ok (.aload_n 1, 1) := dq_get (L := lzddX7_readMinutes_33) 14 rfl zddX7_readMinutes_33 rfl
theorem dX7_readMinutes_57 : decode cX7_readMinutes 57 = .ok (.dup, 1) := dq_get (L := lzddX7_readMinutes_33) 15 rfl zddX7_readMinutes_33 rfl
theorem dX7_readMinutes_58 : decode cX7_readMinutes 58 = .ok (.getfield 306, 3) := dq_get (L := lzddX7_readMinutes_33) 16 rfl zddX7_readMinutes_33 rfl
theorem dX7_readMinutes_61 : decode cX7_readMinutes 61 = .ok (.iconst 1, 1) := dq_get (L := lzddX7_readMinutes_33) 17 rfl zddX7_readMinutes_33 rfl
theorem dX7_readMinutes_62 : decode cX7_readMinutes 62 = .ok (.iadd, 1) := dq_get (L := lzddX7_readMinutes_33) 18 rfl zddX7_readMinutes_33 rfl
theorem dX7_readMinutes_63 : decode cX7_readMinutes 63 = .ok (.putfield 306, 3) := dq_get (L := lzddX7_readMinutes_33) 19 rfl zddX7_readMinutes_33 rfl
def lzddX7_readMinutes_66 : List (Nat × Instr × Nat) := [(66, .aload_n 0, 1), (67, .getfield 86, 3), (70, .iconst 1, 1), (71, .iadd, 1), (72, .istore_n 2, 1), (73, .aload_n 0, 1), (74, .invokevirtual 51, 3), (77, .aload_n 0, 1), (78, .getfield 58, 3), (81, .iconst 4, 1), (82, .if_icmp .eq 5, 3), (85, .iconst 1, 1), (86, .ireturn, 1), (87, .aload_n 0, 1), (88, .invokevirtual 51, 3), (91, .iinc 3 1, 3), (94, .goto (-85), 3)]
theorem zddX7_readMinutes_66 : dqW lzddX7_readMinutes_66 (cX7_readMinutes.data.toList.drop 66) 66 = true := by decide +kernel
theorem dX7_readMinutes_66 : decode cX7_readMinutes 66 = .ok (.aload_n 0, 1) := dq_get (L := lzddX7_readMinutes_66) 0 rfl zddX7_readMinutes_66 rfl
theorem dX7_readMinutes_67 : decode cX7_readMinutes 67 = .ok (.getfield 86, 3) := dq_get (L := lzddX7_readMinutes_66) 1 rfl zddX7_readMinutes_66 rfl
theorem dX7_readMinutes_70 : decode cX7_readMinutes 70 = .ok (.iconst 1, 1) := dq_get (L := lzddX7_readMinutes_66) 2 rfl zddX7_readMinutes_66 rfl
theorem dX7_readMinutes_71 : decode cX7_readMinutes 71 = .ok (.iadd, 1) := dq_get (L := lzddX7_readMinutes_66) 3 rfl zddX7_readMinutes_66 rfl
theorem dX7_readMinutes_72 : decode cX7_readMinutes 72 = .ok (.istore_n 2, 1) := dq_get (L := lzddX7_readMinutes_66) 4 rfl zddX7_readMinutes_66 rfl
theorem dX7_readMinutes_73 : decode cX7_readMinutes 73 = .ok (.aload_n 0, 1) := dq_get (L := lzddX7_readMinutes_66) 5 rfl zddX7_readMinutes_66 rfl
theorem dX7_readMinutes_74 : decode cX7_readMinutes 74 = .ok (.invokevirtual 51, 3) := dq_get (L := lzddX7_readMinutes_66) 6 rfl zddX7_readMinutes_66 rfl
theorem dX7_readMinutes_77 : decode cX7_readMinutes 77 = .ok (.aload_n 0, 1) := dq_get (L := lzddX7_readMinutes_66) 7 rfl zddX7_readMinutes_66 rfl
theorem dX7_readMinutes_78 : decode cX7_readMinutes 78 = .ok (.getfield 58, 3) := dq_get (L := lzddX7_readMinutes_66) 8 rfl zddX7_readMinutes_66 rfl
theorem dX7_readMinutes_81 : decode cX7_readMinutes 81 = .ok (.iconst 4, 1) := dq_get (L := lzddX7_readMinutes_66) 9 rfl zddX7_readMinutes_66 rfl
theorem dX7_readMinutes_82 : decode cX7_readMinutes 82 = .ok (.if_icmp .eq 5, 3) := dq_get (L := lzddX7_readMinutes_66) 10 rfl zddX7_readMinutes_66 rfl
theorem dX7_readMinutes_85 : decode cX7_readMinutes 85 = .ok (.iconst 1, 1) := dq_get (L := lzddX7_readMinutes_66) 11 rfl zddX7_readMinutes_66 rfl
theorem dX7_readMinutes_86 : decode cX7_readMinutes 86 = .ok (.ireturn, 1) := dq_get (L := lzddX7_readMinutes_66) 12 rfl zddX7_readMinutes_66 rfl
theorem dX7_readMinutes_87 : decode cX7_readMinutes 87 = .ok (.aload_n 0, 1) := dq_get (L := lzddX7_readMinutes_66) 13 rfl zddX7_readMinutes_66 rfl
theorem dX7_readMinutes_88 : decode cX7_readMinutes 88 = .ok (.invokevirtual 51, 3) := dq_get (L := lzddX7_readMinutes_66) 14 rfl zddX7_readMinutes_66 rfl
theorem dX7_readMinutes_91 : decode cX7_readMinutes 91 = .ok (.iinc 3 1, 3) := dq_get (L := lzddX7_readMinutes_66) 15 rfl zddX7_readMinutes_66 rfl
theorem dX7_readMinutes_94 : decode cX7_readMinutes 94 = .ok (.goto (-85), 3) := dq_get (L := lzddX7_readMinutes_66) 16 rfl zddX7_readMinutes_66 rfl
def lzddX7_readTurner_0 : List (Nat × Instr × Nat) := [(0, .aload_n 0, 1), (1, .invokevirtual 231, 3), (4, .ifCond .ne 5, 3), (7, .iconst 0, 1), (8, .ireturn, 1), (9, .aload_n 0, 1), (10, .getfield 15, 3), (13, .aload_n 0, 1), (14, .getfield 22, 3), (17, .getfield 156, 3), (20, .aload_n 0, 1), (21, .getfield 78, 3), (24, .lastore, 1), (25, .aload_n 0, 1), (26, .getfield 22, 3), (29, .getfield 243, 3), (32, .aload_n 0, 1), (33, .getfield 22, 3), (36, .getfield 156, 3), (39, .aaload, 1)]
theorem zddX7_readTurner_0 : dqW lzddX7_readTurner_0 (cX7_readTurner.data.toList.drop 0) 0 = true := by decide +kernel
theorem dX7_readTurner_0 : decode cX7_readTurner 0 = .ok (.aload_n 0, 1) := dq_get (L := lzddX7_readTurner_0) 0 rfl zddX7_readTurner_0 rfl
theorem dX7_readTurner_1 : decode cX7_readTurner 1 = .ok (.invokevirtual 231, 3) := dq_get (L := lzddX7_readTurner_0) 1 rfl zddX7_readTurner_0 rfl
theorem dX7_readTurner_4 : decode cX7_readTurner 4 = .ok (.ifCond .ne 5, 3) := dq_get (L := lzddX7_readTurner_0) 2 rfl zddX7_readTurner_0 rfl
theorem dX7_readTurner_7 : decode cX7_readTurner 7 = .ok (.iconst 0, 1) := dq_get (L := lzddX7_readTurner_0) 3 rfl zddX7_readTurner_0 rfl
theorem dX7_readTurner_8 : decode cX7_readTurner 8 = .ok (.ireturn, 1) := dq_get (L := lzddX7_readTurner_0) 4 rfl zddX7_readTurner_0 rfl
theorem dX7_readTurner_9 : decode cX7_readTurner 9 = .ok (.aload_n 0, 1) := dq_get (L := lzddX7_readTurner_0) 5 rfl zddX7_readTurner_0 rfl
theorem dX7_readTurner_10 : decode cX7_readTurner 10 = .ok (.getfield 15, 3) := dq_get (L := lzddX7_readTurner_0) 6 rfl zddX7_readTurner_0 rfl
theorem dX7_readTurner_13 : decode cX7_readTurner 13 = .ok (.aload_n 0, 1) := dq_get (L := lzddX7_readTurner_0) 7 rfl zddX7_readTurner_0 rfl
theorem dX7_readTurner_14 : decode cX7_readTurner 14 = .ok (.getfield 22, 3) := dq_get (L := lzddX7_readTurner_0) 8 rfl zddX7_readTurner_0 rfl
theorem dX7_readTurner_17 : decode cX7_readTurner 17 = .ok (.getfield 156, 3) := dq_get (L := lzddX7_readTurner_0) 9 rfl zddX7_readTurner_0 rfl
theorem dX7_readTurner_20 : decode cX7_readTurner 20 = .ok (.aload_n 0, 1) := dq_get (L := lzddX7_readTurner_0) 10 rfl zddX7_readTurner_0 rfl
theorem dX7_readTurner_21 : decode cX7_readTurner 21 = .ok (.getfield 78, 3) := dq_get (L := lzddX7_readTurner_0) 11 rfl zddX7_readTurner_0 rfl
theorem dX7_readTurner_24 : decode cX7_readTurner 24 = .ok (.lastore, 1) := dq_get (L := lzddX7_readTurner_0) 12 rfl zddX7_readTurner_0 rfl
theorem dX7_readTurner_25 : decode cX7_readTurner 25 = .ok (.aload_n 0, 1) := dq_get (L := lzddX7_readTurner_0) 13 rfl zddX7_readTurner_0 rfl
theorem dX7_readTurner_26 : decode cX7_readTurner 26 = .ok (.getfield 22, 3) := dq_get (L := lzddX7_readTurner_0) 14 rfl zddX7_readTurner_0 rfl
theorem dX7_readTurner_29 : decode cX7_readTurner 29 = .ok (.getfield 243, 3) := dq_get (L := lzddX7_readTurner_0) 15 rfl zddX7_readTurner_0 rfl
theorem dX7_readTurner_32 : decode cX7_readTurner 32 = .ok (.aload_n 0, 1) := dq_get (L := lzddX7_readTurner_0) 16 rfl zddX7_readTurner_0 rfl
theorem dX7_readTurner_33 : decode cX7_readTurner 33 = .ok (.getfield 22, 3) := dq_get (L := lzddX7_readTurner_0) 17 rfl zddX7_readTurner_0 rfl
theorem dX7_readTurner_36 : decode cX7_readTurner 36 = .ok (.getfield 156, 3) := dq_get (L := lzddX7_readTurner_0) 18 rfl zddX7_readTurner_0 rfl
theorem dX7_readTurner_39 : decode cX7_readTurner 39 = .ok (.aaload, 1) := dq_get (L := lzddX7_readTurner_0) 19 rfl zddX7_readTurner_0 rfl
def lzddX7_readTurner_40 : List (Nat × Instr × Nat) := [(40, .astore_n 1, 1), (41, .aload_n 0, 1), (42, .invokevirtual 51, 3), (45, .aload_n 1, 1), (46, .aload_n 0, 1), (47, .invokevirtual 247, 3), (50, .putfield 250, 3), (53, .aload_n 1, 1), (54, .getfield 250, 3), (57, .iconst (-1), 1), (58, .if_icmp .ne 9, 3), (61, .aload_n 0, 1), (62, .iconst 1, 1), (63, .invokevirtual 64, 3), (66, .ireturn, 1), (67, .aload_n 0, 1), (68, .invokevirtual 51, 3), (71, .aload_n 0, 1), (72, .ldc 253, 2), (74, .invokevirtual 126, 3)]
theorem zddX7_readTurner_40 : dqW lzddX7_readTurner_40 (cX7_readTurner.data.toList.drop 40) 40 = true := by decide +kernel
theorem dX7_readTurner_40 : decode cX7_readTurner 40 = .ok (.astore_n 1, 1) := dq_get (L := lzddX7_readTurner_40) 0 rfl zddX7_readTurner_40 rfl
theorem dX7_readTurner_41 : decode cX7_readTurner 41 = .ok (.aload_n 0, 1) := dq_get (L := lzddX7_readTurner_40) 1 rfl zddX7_readTurner_40 rfl
theorem dX7_readTurner_42 : decode cX7_readTurner 42 = .ok (.invokevirtual 51, 3) := dq_get (L := lzddX7_readTurner_40) 2 rfl zddX7_readTurner_40 rfl
theorem dX7_readTurner_45 : decode cX7_readTurner 45 = .ok (.aload_n 1, 1) := dq_get (L := lzddX7_readTurner_40) 3 rfl zddX7_readTurner_40 rfl
theorem dX7_readTurner_46 : decode cX7_readTurner 46 = .ok (.aload_n 0, 1) := dq_get (L := lzddX7_readTurner_40) 4 rfl zddX7_readTurner_40 rfl
theorem dX7_readTurner_47 : decode cX7_readTurner 47 = .ok (.invokevirtual 247, 3) := dq_get (L := lzddX7_readTurner_40) 5 rfl zddX7_readTurner_40 rfl
theorem dX7_readTurner_50 : decode cX7_readTurner 50 = .ok (.putfield 250, 3) := dq_get (L := lzddX7_readTurner_40) 6 rfl zddX7_readTurner_40 rfl
theorem dX7_readTurner_53 : decode cX7_readTurner 53 = .ok (.aload_n 1, 1) := dq_get (L := lzddX7_readTurner_40) 7 rfl zddX7_readTurner_40 rfl
theorem dX7_readTurner_54 : decode cX7_readTurner 54 = .ok (.getfield 250, 3) := dq_get (L := lzddX7_readTurner_40) 8 rfl zddX7_readTurner_40 rfl
theorem dX7_readTurner_57 : decode cX7_readTurner 57 = .ok (.iconst (-1), 1) := dq_get (L := lzddX7_readTurner_40) 9 rfl zddX7_readTurner_40 rfl
theorem dX7_readTurner_58 : decode cX7_readTurner 58 = .ok (.if_icmp .ne 9, 3) := dq_get (L := lzddX7_readTurner_40) 10 rfl zddX7_readTurner_40 rfl
theorem dX7_readTurner_61 : decode cX7_readTurner 61 = .ok (.aload_n 0, 1) := dq_get (L := lzddX7_readTurner_40) 11 rfl zddX7_readTurner_40 rfl
theorem dX7_readTurner_62 : decode cX7_readTurner 62 = .ok (.iconst 1, 1) := dq_get (L := lzddX7_readTurner_40) 12 rfl zddX7_readTurner_40 rfl
theorem dX7_readTurner_63 : decode cX7_readTurner 63 = .ok (.invokevirtual 64, 3) := dq_get (L := lzddX7_readTurner_40) 13 rfl zddX7_readTurner_40 rfl
theorem dX7_readTurner_66 : decode cX7_readTurner 66 = .ok (.ireturn, 1) := dq_get (L := lzddX7_readTurner_40) 14 rfl zddX7_readTurner_40 rfl
theorem dX7_readTurner_67 : decode cX7_readTurner 67 = .ok (.aload_n 0, 1) := dq_get (L := lzddX7_readTurner_40) 15 rfl zddX7_readTurner_40 rfl
theorem dX7_readTurner_68 : decode cX7_readTurner 68 = .ok (.invokevirtual 51, 3) := dq_get (L := lzddX7_readTurner_40) 16 rfl zddX7_readTurner_40 rfl
theorem dX7_readTurner_71 : decode cX7_readTurner 71 = .ok (.aload_n 0, 1) := dq_get (L := lzddX7_readTurner_40) 17 rfl zddX7_readTurner_40 rfl
theorem dX7_readTurner_72 : decode cX7_readTurner 72 = .ok (.ldc 253, 2) := dq_get (L := lzddX7_readTurner_40) 18 rfl zddX7_readTurner_40 rfl
theorem dX7_readTurner_74 : decode cX7_readTurner 74 = .ok (.invokevirtual 126, 3) := dq_get (L := lzddX7_readTurner_40) 19 rfl zddX7_readTurner_40 rfl
def lzddX7_readTurner_77 : List (Nat × Instr × Nat) := [(77, .ifCond .eq 10, 3), (80, .aload_n 0, 1), (81, .invokevirtual 226, 3), (84, .ifCond .ne 5, 3), (87, .iconst 0, 1), (88, .ireturn, 1), (89, .aload_n 1, 1), (90, .aload_n 0, 1), (91, .getfield 121, 3), (94, .putfield 254, 3), (97, .aload_n 1, 1), (98, .aload_n 0, 1), (99, .getfield 129, 3), (102, .putfield 255, 3), (105, .aload_n 0, 1), (106, .ldc_w 256, 3), (109, .invokevirtual 126, 3), (112, .ifCond .eq 13, 3), (115, .aload_n 0, 1), (116, .iconst 1, 1)]
theorem zddX7_readTurner_77 : dqW lzddX7_readTurner_77 (cX7_readTurner.data.toList.drop 77) 77 = true := by decide +kernel
theorem dX7_readTurner_77 : decode cX7_readTurner 77 = .ok (.ifCond .eq 10, 3) := dq_get (L := lzddX7_readTurner_77) 0 rfl zddX7_readTurner_77 rfl
theorem dX7_readTurner_80 : decode cX7_readTurner 80 = .ok (.aload_n 0, 1) := dq_get (L := lzddX7_readTurner_77) 1 rfl zddX7_readTurner_77 rfl
theorem dX7_readTurner_81 : decode cX7_readTurner 81 = .ok (.invokevirtual 226, 3) := dq_get (L := lzddX7_readTurner_77) 2 rfl zddX7_readTurner_77 rfl
theorem dX7_readTurner_84 : decode cX7_readTurner 84 = .ok (.ifCond .ne 5, 3) := dq_get (L := lzddX7_readTurner_77) 3 rfl zddX7_readTurner_77 rfl
theorem dX7_readTurner_87 : decode cX7_readTurner 87 = .ok (.iconst 0, 1) := dq_get (L := lzddX7_readTurner_77) 4 rfl zddX7_readTurner_77 rfl
theorem dX7_readTurner_88 : decode cX7_readTurner 88 = .ok (.ireturn, 1) := dq_get (L := lzddX7_readTurner_77) 5 rfl zddX7_readTurner_77 rfl
theorem dX7_readTurner_89 : decode cX7_readTurner 89 = .ok (.aload_n 1, 1) := dq_get (L := lzddX7_readTurner_77) 6 rfl zddX7_readTurner_77 rfl
theorem dX7_readTurner_90 : decode cX7_readTurner 90 = .ok (.aload_n 0, 1) := dq_get (L := lzddX7_readTurner_77) 7 rfl zddX7_readTurner_77 rfl
theorem dX7_readTurner_91 : decode cX7_readTurner 91 = .ok (.getfield 121, 3) := dq_get (L := lzddX7_readTurner_77) 8 rfl zddX7_readTurner_77 rfl
theorem dX7_readTurner_94 : decode cX7_readTurner 94 = .ok (.putfield 254, 3) := dq_get (L := lzddX7_readTurner_77) 9 rfl zddX7_readTurner_77 rfl
theorem dX7_readTurner_97 : decode cX7_readTurner 97 = .ok (.aload_n 1, 1) := dq_get (L := lzddX7_readTurner_77) 10 rfl zddX7_readTurner_77 rfl
theorem dX7_readTurner_98 : decode cX7_readTurner 98 = .ok (.aload_n 0, 1) := dq_get (L := lzddX7_readTurner_77) 11 rfl zddX7_readTurner_77 rfl
theorem dX7_readTurner_99 : decode cX7_readTurner 99 = .ok (.getfield 129, 3) := dq_get (L := lzddX7_readTurner_77) 12 rfl zddX7_readTurner_77 rfl
theorem dX7_readTurner_102 : decode cX7_readTurner 102 = .ok (.putfield 255, 3) := dq_get (L := lzddX7_readTurner_77) 13 rfl zddX7_readTurner_77 rfl
theorem dX7_readTurner_105 : decode cX7_readTurner 105 = .ok (.aload_n 0, 1) := dq_get (L := lzddX7_readTurner_77) 14 rfl zddX7_readTurner_77 rfl
theorem dX7_readTurner_106 : decode cX7_readTurner 106 = .ok (.ldc_w 256, 3) := dq_get (L := lzddX7_readTurner_77) 15 rfl zddX7_readTurner_77 rfl
theorem dX7_readTurner_109 : decode cX7_readTurner 109 = .ok (.invokevirtual 126, 3) := dq_get (L := lzddX7_readTurner_77) 16 rfl zddX7_readTurner_77 rfl
theorem dX7_readTurner_112 : decode cX7_readTurner 112 = .ok (.ifCond .eq 13, 3) := dq_get (L := lzddX7_readTurner_77) 17 rfl zddX7_readTurner_77 rfl
theorem dX7_readTurner_115 : decode cX7_readTurner 115 = .ok (.aload_n 0, 1) := dq_get (L := lzddX7_readTurner_77) 18 rfl zddX7_readTurner_77 rfl
theorem dX7_readTurner_116 : decode cX7_readTurner 116 = .ok (.iconst 1, 1) := dq_get (L := lzddX7_readTurner_77) 19 rfl zddX7_readTurner_77 rfl
def lzddX7_readTurner_117 : List (Nat × Instr × Nat) := [(117, .bipush 8, 2), (119, .invokevirtual 115, 3), (122, .ifCond .ne 5, 3), (125, .iconst 0, 1), (126, .ireturn, 1), (127, .aload_n 1, 1), (128, .aload_n 0, 1), (129, .getfield 109, 3), (132, .putfield 258, 3), (135, .aload_n 0, 1), (136, .ldc_w 260, 3), (139, .invokevirtual 126, 3), (142, .ifCond .eq 13, 3), (145, .aload_n 0, 1), (146, .iconst 1, 1), (147, .bipush 20, 2), (149, .invokevirtual 115, 3), (152, .ifCond .ne 5, 3), (155, .iconst 0, 1), (156, .ireturn, 1)]
theorem zddX7_readTurner_117 : dqW lzddX7_readTurner_117 (cX7_readTurner.data.toList.drop 117) 117 = true := by decide +kernel
theorem dX7_readTurner_117 : decode cX7_readTurner 117 = .ok (.bipush 8, 2) := dq_get (L := lzddX7_readTurner_117) 0 rfl zddX7_readTurner_117 rfl
theorem dX7_readTurner_119 : decode cX7_readTurner 119 = .ok (.invokevirtual 115, 3) := dq_get (L := lzddX7_readTurner_117) 1 rfl zddX7_readTurner_117 rfl
theorem dX7_readTurner_122 : decode cX7_readTurner 122 = .ok (.ifCond .ne 5, 3) := dq_get (L := lzddX7_readTurner_117) 2 rfl zddX7_readTurner_117 rfl
theorem dX7_readTurner_125 : decode cX7_readTurner 125 = .ok (.iconst 0, 1) := dq_get (L := lzddX7_readTurner_117) 3 rfl zddX7_readTurner_117 rfl
theorem dX7_readTurner_126 : decode cX7_readTurner 126 = .ok (.ireturn, 1) := dq_get (L := lzddX7_readTurner_117) 4 rfl zddX7_readTurner_117 rfl
theorem dX7_readTurner_127 : decode cX7_readTurner 127 = .ok (.aload_n 1, 1) := dq_get (L := lzddX7_readTurner_117) 5 rfl zddX7_readTurner_117 rfl
theorem dX7_readTurner_128 : decode cX7_readTurner 128 = .ok (.aload_n 0, 1) := dq_get (L := lzddX7_readTurner_117) 6 rfl zddX7_readTurner_117 rfl
theorem dX7_readTurner_129 : decode cX7_readTurner 129 = .ok (.getfield 109, 3) := dq_get (L := lzddX7_readTurner_117) 7 rfl zddX7_readTurner_117 rfl
theorem dX7_readTurner_132 : decode cX7_readTurner 132 = .ok (.putfield 258, 3) := dq_get (L := lzddX7_readTurner_117) 8 rfl zddX7_readTurner_117 rfl
theorem dX7_readTurner_135 : decode cX7_readTurner 135 = .ok (.aload_n 0, 1) := dq_get (L := lzddX7_readTurner_117) 9 rfl zddX7_readTurner_117 rfl
theorem dX7_readTurner_136 : decode cX7_readTurner 136 = .ok (.ldc_w 260, 3) := dq_get (L := lzddX7_readTurner_117) 10 rfl zddX7_readTurner_117 rfl
theorem dX7_readTurner_139 : decode cX7_readTurner 139 = .ok (.invokevirtual 126, 3) := dq_get (L := lzddX7_readTurner_117) 11 rfl zddX7_readTurner_117 rfl
theorem dX7_readTurner_142 : decode cX7_readTurner 142 = .ok (.ifCond .eq 13, 3) := dq_get (L := lzddX7_readTurner_117) 12 rfl zddX7_readTurner_117 rfl
theorem dX7_readTurner_145 : decode cX7_readTurner 145 = .ok (.aload_n 0, 1) := dq_get (L := lzddX7_readTurner_117) 13 rfl zddX7_readTurner_117 rfl
theorem dX7_readTurner_146 : decode cX7_readTurner 146 = .ok (.iconst 1, 1) := dq_get (L := lzddX7_readTurner_117) 14 rfl zddX7_readTurner_117 rfl
theorem dX7_readTurner_147 : decode cX7_readTurner 147 = .ok (.bipush 20, 2) := dq_get (L := lzddX7_readTurner_117) 15 rfl zddX7_readTurner_117 rfl
theorem dX7_readTurner_149 : decode cX7_readTurner 149 = .ok (.invokevirtual 115, 3) := dq_get (L := lzddX7_readTurner_117) 16 rfl zddX7_readTurner_117 rfl
theorem dX7_readTurner_152 : decode cX7_readTurner 152 = .ok (.ifCond .ne 5, 3) := dq_get (L := lzddX7_readTurner_117) 17 rfl zddX7_readTurner_117 rfl
theorem dX7_readTurner_155 : decode cX7_readTurner 155 = .ok (.iconst 0, 1) := dq_get (L := lzddX7_readTurner_117) 18 rfl zddX7_readTurner_117 rfl
theorem dX7_readTurner_156 : decode cX7_readTurner 156 = .ok (.ireturn, 1) := dq_get (L := lzddX7_readTurner_117) 19 rfl zddX7_readTurner_117 rfl
def lzddX7_readTurner_157 : List (Nat × Instr × Nat) := [(157, .aload_n 1, 1), (158, .aload_n 0, 1), (159, .getfield 109, 3), (162, .putfield 262, 3), (165, .aload_n 0, 1), (166, .getfield 22, 3), (169, .dup, 1), (170, .getfield 156, 3), (173, .iconst 1, 1), (174, .iadd, 1), (175, .putfield 156, 3), (178, .aload_n 0, 1), (179, .ldc 204, 2), (181, .invokevirtual 126, 3), (184, .ifCond .eq 15, 3), (187, .aload_n 0, 1), (188, .aload_n 1, 1), (189, .invokevirtual 264, 3), (192, .ifCond .eq 7, 3), (195, .iconst 1, 1)]
theorem zddX7_readTurner_157 : dqW lzddX7_readTurner_157 (cX7_readTurner.data.toList.drop 157) 157 = true := by decide +kernel
theorem dX7_readTurner_157 : decode cX7_readTurner 157 = .ok (.aload_n 1, 1) := dq_get (L := lzddX7_readTurner_157) 0 rfl zddX7_readTurner_157 rfl
theorem dX7_readTurner_158 : decode cX7_readTurner 158 = .ok (.aload_n 0, 1) := dq_get (L := lzddX7_readTurner_157) 1 rfl zddX7_readTurner_157 rfl
theorem dX7_readTurner_159 : decode cX7_readTurner 159 = .ok (.getfield 109, 3) := dq_get (L := lzddX7_readTurner_157) 2 rfl zddX7_readTurner_157 rfl
theorem dX7_readTurner_162 : decode cX7_readTurner 162 = .ok (.putfield 262, 3) := dq_get (L := lzddX7_readTurner_157) 3 rfl zddX7_readTurner_157 rfl
theorem dX7_readTurner_165 : decode cX7_readTurner 165 = .ok (.aload_n 0, 1) := dq_get (L := lzddX7_readTurner_157) 4 rfl zddX7_readTurner_157 rfl
theorem dX7_readTurner_166 : decode cX7_readTurner 166 = .ok (.getfield 22, 3) := dq_get (L := lzddX7_readTurner_157) 5 rfl zddX7_readTurner_157 rfl
theorem dX7_readTurner_169 : decode cX7_readTurner 169 = .ok (.dup, 1) := dq_get (L := lzddX7_readTurner_157) 6 rfl zddX7_readTurner_157 rfl
theorem dX7_readTurner_170 : decode cX7_readTurner 170 = .ok (.getfield 156, 3) := dq_get (L := lzddX7_readTurner_157) 7 rfl zddX7_readTurner_157 rfl
theorem dX7_readTurner_173 : decode cX7_readTurner 173 = .ok (.iconst 1, 1) := dq_get (L := lzddX7_readTurner_157) 8 rfl zddX7_readTurner_157 rfl
theorem dX7_readTurner_174 : decode cX7_readTurner 174 = .ok (.iadd, 1) := dq_get (L := lzddX7_readTurner_157) 9 rfl zddX7_readTurner_157 rfl
theorem dX7_readTurner_175 : decode cX7_readTurner 175 = .ok (.putfield 156, 3) := dq_get (L := lzddX7_readTurner_157) 10 rfl zddX7_readTurner_157 rfl
theorem dX7_readTurner_178 : decode cX7_readTurner 178 = .ok (.aload_n 0, 1) := dq_get (L := lzddX7_readTurner_157) 11 rfl zddX7_readTurner_157 rfl
theorem dX7_readTurner_179 : decode cX7_readTurner 179 = .ok (.ldc 204, 2) := dq_get (L := lzddX7_readTurner_157) 12 rfl zddX7_readTurner_157 rfl
theorem dX7_readTurner_181 : decode cX7_readTurner 181 = .ok (.invokevirtual 126, 3) := dq_get (L := lzddX7_readTurner_157) 13 rfl zddX7_readTurner_157 rfl
theorem dX7_readTurner_184 : decode cX7_readTurner 184 = .ok (.ifCond .eq 15, 3) := dq_get (L := lzddX7_readTurner_157) 14 rfl zddX7_readTurner_157 rfl
theorem dX7_readTurner_187 : decode cX7_readTurner 187 = .ok (.aload_n 0, 1) := dq_get (L := lzddX7_readTurner_157) 15 rfl zddX7_readTurner_157 rfl
theorem dX7_readTurner_188 : decode cX7_readTurner 188 = .ok (.aload_n 1, 1) := dq_get (L := lzddX7_readTurner_157) 16 rfl zddX7_readTurner_157 rfl
theorem dX7_readTurner_189 : decode cX7_readTurner 189 = .ok (.invokevirtual 264, 3) := dq_get (L := lzddX7_readTurner_157) 17 rfl zddX7_readTurner_157 rfl
theorem dX7_readTurner_192 : decode cX7_readTurner 192 = .ok (.ifCond .eq 7, 3) := dq_get (L := lzddX7_readTurner_157) 18 rfl zddX7_readTurner_157 rfl
theorem dX7_readTurner_195 : decode cX7_readTurner 195 = .ok (.iconst 1, 1) := dq_get (L := lzddX7_readTurner_157) 19 rfl zddX7_readTurner_157 rfl
def lzddX7_readTurner_196 : List (Nat × Instr × Nat) := [(196, .goto 4, 3), (199, .iconst 0, 1), (200, .ireturn, 1)]
theorem zddX7_readTurner_196 : dqW lzddX7_readTurner_196 (cX7_readTurner.data.toList.drop 196) 196 = true := by decide +kernel
theorem dX7_readTurner_196 : decode cX7_readTurner 196 = .ok (.goto 4, 3) := dq_get (L := lzddX7_readTurner_196) 0 rfl zddX7_readTurner_196 rfl
theorem dX7_readTurner_199 : decode cX7_readTurner 199 = .ok (.iconst 0, 1) := dq_get (L := lzddX7_readTurner_196) 1 rfl zddX7_readTurner_196 rfl
theorem dX7_readTurner_200 : decode cX7_readTurner 200 = .ok (.ireturn, 1) := dq_get (L := lzddX7_readTurner_196) 2 rfl zddX7_readTurner_196 rfl
def lzddX7_seesName_0 : List (Nat × Instr × Nat) := [(0, .aload_n 0, 1), (1, .getfield 58, 3), (4, .iconst 1, 1), (5, .if_icmp .ne 24, 3), (8, .aload_n 0, 1), (9, .ldc 238, 2), (11, .invokevirtual 101, 3), (14, .ifCond .ne 15, 3), (17, .aload_n 0, 1), (18, .invokevirtual 168, 3), (21, .iconst (-1), 1), (22, .if_icmp .ne 7, 3), (25, .iconst 1, 1), (26, .goto 4, 3), (29, .iconst 0, 1), (30, .ireturn, 1)]
theorem zddX7_seesName_0 : dqW lzddX7_seesName_0 (cX7_seesName.data.toList.drop 0) 0 = true := by decide +kernel
theorem dX7_seesName_0 : decode cX7_seesName 0 = .ok (.aload_n 0, 1) := dq_get (L := lzddX7_seesName_0) 0 rfl zddX7_seesName_0 rfl
theorem dX7_seesName_1 : decode cX7_seesName 1 = .ok (.getfield 58, 3) := dq_get (L := lzddX7_seesName_0) 1 rfl zddX7_seesName_0 rfl
theorem dX7_seesName_4 : decode cX7_seesName 4 = .ok (.iconst 1, 1) := dq_get (L := lzddX7_seesName_0) 2 rfl zddX7_seesName_0 rfl
theorem dX7_seesName_5 : decode cX7_seesName 5 = .ok (.if_icmp .ne 24, 3) := dq_get (L := lzddX7_seesName_0) 3 rfl zddX7_seesName_0 rfl
theorem dX7_seesName_8 : decode cX7_seesName 8 = .ok (.aload_n 0, 1) := dq_get (L := lzddX7_seesName_0) 4 rfl zddX7_seesName_0 rfl
theorem dX7_seesName_9 : decode cX7_seesName 9 = .ok (.ldc 238, 2) := dq_get (L := lzddX7_seesName_0) 5 rfl zddX7_seesName_0 rfl
theorem dX7_seesName_11 : decode cX7_seesName 11 = .ok (.invokevirtual 101, 3) := dq_get (L := lzddX7_seesName_0) 6 rfl zddX7_seesName_0 rfl
theorem dX7_seesName_14 : decode cX7_seesName 14 = .ok (.ifCond .ne 15, 3) := dq_get (L := lzddX7_seesName_0) 7 rfl zddX7_seesName_0 rfl
theorem dX7_seesName_17 : decode cX7_seesName 17 = .ok (.aload_n 0, 1) := dq_get (L := lzddX7_seesName_0) 8 rfl zddX7_seesName_0 rfl
theorem dX7_seesName_18 : decode cX7_seesName 18 = .ok (.invokevirtual 168, 3) := dq_get (L := lzddX7_seesName_0) 9 rfl zddX7_seesName_0 rfl
theorem dX7_seesName_21 : decode cX7_seesName 21 = .ok (.iconst (-1), 1) := dq_get (L := lzddX7_seesName_0) 10 rfl zddX7_seesName_0 rfl
theorem dX7_seesName_22 : decode cX7_seesName 22 = .ok (.if_icmp .ne 7, 3) := dq_get (L := lzddX7_seesName_0) 11 rfl zddX7_seesName_0 rfl
theorem dX7_seesName_25 : decode cX7_seesName 25 = .ok (.iconst 1, 1) := dq_get (L := lzddX7_seesName_0) 12 rfl zddX7_seesName_0 rfl
theorem dX7_seesName_26 : decode cX7_seesName 26 = .ok (.goto 4, 3) := dq_get (L := lzddX7_seesName_0) 13 rfl zddX7_seesName_0 rfl
theorem dX7_seesName_29 : decode cX7_seesName 29 = .ok (.iconst 0, 1) := dq_get (L := lzddX7_seesName_0) 14 rfl zddX7_seesName_0 rfl
theorem dX7_seesName_30 : decode cX7_seesName 30 = .ok (.ireturn, 1) := dq_get (L := lzddX7_seesName_0) 15 rfl zddX7_seesName_0 rfl
def lzddX7_seesNewName_0 : List (Nat × Instr × Nat) := [(0, .aload_n 0, 1), (1, .invokevirtual 279, 3), (4, .ifCond .ne 9, 3), (7, .aload_n 0, 1), (8, .iconst 1, 1), (9, .invokevirtual 64, 3), (12, .ireturn, 1), (13, .aload_n 0, 1), (14, .invokevirtual 313, 3), (17, .ifCond .ne 11, 3), (20, .aload_n 0, 1), (21, .invokevirtual 282, 3), (24, .iconst (-1), 1), (25, .if_icmp .eq 11, 3), (28, .aload_n 0, 1), (29, .iconst 3, 1), (30, .invokevirtual 64, 3), (33, .ifCond .eq 7, 3), (36, .iconst 1, 1), (37, .goto 4, 3)]
theorem zddX7_seesNewName_0 : dqW lzddX7_seesNewName_0 (cX7_seesNewName.data.toList.drop 0) 0 = true := by decide +kernel
theorem dX7_seesNewName_0 : decode cX7_seesNewName 0 = .ok (.aload_n 0, 1) := dq_get (L := lzddX7_seesNewName_0) 0 rfl zddX7_seesNewName_0 rfl
theorem dX7_seesNewName_1 : decode cX7_seesNewName 1 = .ok (.invokevirtual 279, 3) := dq_get (L := lzddX7_seesNewName_0) 1 rfl zddX7_seesNewName_0 rfl
theorem dX7_seesNewName_4 : decode cX7_seesNewName 4 = .ok (.ifCond .ne 9, 3) := dq_get (L := lzddX7_seesNewName_0) 2 rfl zddX7_seesNewName_0 rfl
theorem dX7_seesNewName_7 : decode cX7_seesNewName 7 = .ok (.aload_n 0, 1) := dq_get (L := lzddX7_seesNewName_0) 3 rfl zddX7_seesNewName_0 rfl
theorem dX7_seesNewName_8 : decode cX7_seesNewName 8 = .ok (.iconst 1, 1) := dq_get (L := lzddX7_seesNewName_0) 4 rfl zddX7_seesNewName_0 rfl
theorem dX7_seesNewName_9 : decode cX7_seesNewName 9 = .ok (.invokevirtual 64, 3) := dq_get (L := lzddX7_seesNewName_0) 5 rfl zddX7_seesNewName_0 rfl
theorem dX7_seesNewName_12 : decode cX7_seesNewName 12 = .ok (.ireturn, 1) := dq_get (L := lzddX7_seesNewName_0) 6 rfl zddX7_seesNewName_0 rfl
theorem dX7_seesNewName_13 : decode cX7_seesNewName 13 = .ok (.aload_n 0, 1) := dq_get (L := lzddX7_seesNewName_0) 7 rfl zddX7_seesNewName_0 rfl
theorem dX7_seesNewName_14 : decode cX7_seesNewName 14 = .ok (.invokevirtual 313, 3) := dq_get (L := lzddX7_seesNewName_0) 8 rfl zddX7_seesNewName_0 rfl
theorem dX7_seesNewName_17 : decode cX7_seesNewName 17 = .ok (.ifCond .ne 11, 3) := dq_get (L := lzddX7_seesNewName_0) 9 rfl zddX7_seesNewName_0 rfl
theorem dX7_seesNewName_20 : decode cX7_seesNewName 20 = .ok (.aload_n 0, 1) := dq_get (L := lzddX7_seesNewName_0) 10 rfl zddX7_seesNewName_0 rfl
theorem dX7_seesNewName_21 : decode cX7_seesNewName 21 = .ok (.invokevirtual 282, 3) := dq_get (L := lzddX7_seesNewName_0) 11 rfl zddX7_seesNewName_0 rfl
theorem dX7_seesNewName_24 : decode cX7_seesNewName 24 = .ok (.iconst (-1), 1) := dq_get (L := lzddX7_seesNewName_0) 12 rfl zddX7_seesNewName_0 rfl
theorem dX7_seesNewName_25 : decode cX7_seesNewName 25 = .ok (.if_icmp .eq 11, 3) := dq_get (L := lzddX7_seesNewName_0) 13 rfl zddX7_seesNewName_0 rfl
theorem dX7_seesNewName_28 : decode cX7_seesNewName 28 = .ok (.aload_n 0, 1) := dq_get (L := lzddX7_seesNewName_0) 14 rfl zddX7_seesNewName_0 rfl
theorem dX7_seesNewName_29 : decode cX7_seesNewName 29 = .ok (.iconst 3, 1) := dq_get (L := lzddX7_seesNewName_0) 15 rfl zddX7_seesNewName_0 rfl
theorem dX7_seesNewName_30 : decode cX7_seesNewName 30 = .ok (.invokevirtual 64, 3) := dq_get (L := lzddX7_seesNewName_0) 16 rfl zddX7_seesNewName_0 rfl
theorem dX7_seesNewName_33 : decode cX7_seesNewName 33 = .ok (.ifCond .eq 7, 3) := dq_get (L := lzddX7_seesNewName_0) 17 rfl zddX7_seesNewName_0 rfl
theorem dX7_seesNewName_36 : decode cX7_seesNewName 36 = .ok (.iconst 1, 1) := dq_get (L := lzddX7_seesNewName_0) 18 rfl zddX7_seesNewName_0 rfl
theorem dX7_seesNewName_37 : decode cX7_seesNewName 37 = .ok (.goto 4, 3) := dq_get (L := lzddX7_seesNewName_0) 19 rfl zddX7_seesNewName_0 rfl
def lzddX7_seesNewName_40 : List (Nat × Instr × Nat) := [(40, .iconst 0, 1), (41, .ireturn, 1)]
theorem zddX7_seesNewName_40 : dqW lzddX7_seesNewName_40 (cX7_seesNewName.data.toList.drop 40) 40 = true := by decide +kernel
theorem dX7_seesNewName_40 : decode cX7_seesNewName 40 = .ok (.iconst 0, 1) := dq_get (L := lzddX7_seesNewName_40) 0 rfl zddX7_seesNewName_40 rfl
theorem dX7_seesNewName_41 : decode cX7_seesNewName 41 = .ok (.ireturn, 1) := dq_get (L := lzddX7_seesNewName_40) 1 rfl zddX7_seesNewName_40 rfl
def lzddX7_seesWhole_0 : List (Nat × Instr × Nat) := [(0, .aload_n 0, 1), (1, .getfield 58, 3), (4, .iconst 2, 1), (5, .if_icmp .eq 9, 3), (8, .aload_n 0, 1), (9, .iconst 1, 1), (10, .invokevirtual 64, 3), (13, .ireturn, 1), (14, .aload_n 0, 1), (15, .getfield 86, 3), (18, .iload_n 1, 1), (19, .if_icmp .lt 11, 3), (22, .aload_n 0, 1), (23, .getfield 86, 3), (26, .iload_n 2, 1), (27, .if_icmp .le 11, 3), (30, .aload_n 0, 1), (31, .iconst 4, 1), (32, .invokevirtual 64, 3), (35, .ifCond .eq 7, 3)]
theorem zddX7_seesWhole_0 : dqW lzddX7_seesWhole_0 (cX7_seesWhole.data.toList.drop 0) 0 = true := by decide +kernel
theorem dX7_seesWhole_0 : decode cX7_seesWhole 0 = .ok (.aload_n 0, 1) := dq_get (L := lzddX7_seesWhole_0) 0 rfl zddX7_seesWhole_0 rfl
theorem dX7_seesWhole_1 : decode cX7_seesWhole 1 = .ok (.getfield 58, 3) := dq_get (L := lzddX7_seesWhole_0) 1 rfl zddX7_seesWhole_0 rfl
theorem dX7_seesWhole_4 : decode cX7_seesWhole 4 = .ok (.iconst 2, 1) := dq_get (L := lzddX7_seesWhole_0) 2 rfl zddX7_seesWhole_0 rfl
theorem dX7_seesWhole_5 : decode cX7_seesWhole 5 = .ok (.if_icmp .eq 9, 3) := dq_get (L := lzddX7_seesWhole_0) 3 rfl zddX7_seesWhole_0 rfl
theorem dX7_seesWhole_8 : decode cX7_seesWhole 8 = .ok (.aload_n 0, 1) := dq_get (L := lzddX7_seesWhole_0) 4 rfl zddX7_seesWhole_0 rfl
theorem dX7_seesWhole_9 : decode cX7_seesWhole 9 = .ok (.iconst 1, 1) := dq_get (L := lzddX7_seesWhole_0) 5 rfl zddX7_seesWhole_0 rfl
theorem dX7_seesWhole_10 : decode cX7_seesWhole 10 = .ok (.invokevirtual 64, 3) := dq_get (L := lzddX7_seesWhole_0) 6 rfl zddX7_seesWhole_0 rfl
theorem dX7_seesWhole_13 : decode cX7_seesWhole 13 = .ok (.ireturn, 1) := dq_get (L := lzddX7_seesWhole_0) 7 rfl zddX7_seesWhole_0 rfl
theorem dX7_seesWhole_14 : decode cX7_seesWhole 14 = .ok (.aload_n 0, 1) := dq_get (L := lzddX7_seesWhole_0) 8 rfl zddX7_seesWhole_0 rfl
theorem dX7_seesWhole_15 : decode cX7_seesWhole 15 = .ok (.getfield 86, 3) := dq_get (L := lzddX7_seesWhole_0) 9 rfl zddX7_seesWhole_0 rfl
theorem dX7_seesWhole_18 : decode cX7_seesWhole 18 = .ok (.iload_n 1, 1) := dq_get (L := lzddX7_seesWhole_0) 10 rfl zddX7_seesWhole_0 rfl
theorem dX7_seesWhole_19 : decode cX7_seesWhole 19 = .ok (.if_icmp .lt 11, 3) := dq_get (L := lzddX7_seesWhole_0) 11 rfl zddX7_seesWhole_0 rfl
theorem dX7_seesWhole_22 : decode cX7_seesWhole 22 = .ok (.aload_n 0, 1) := dq_get (L := lzddX7_seesWhole_0) 12 rfl zddX7_seesWhole_0 rfl
theorem dX7_seesWhole_23 : decode cX7_seesWhole 23 = .ok (.getfield 86, 3) := dq_get (L := lzddX7_seesWhole_0) 13 rfl zddX7_seesWhole_0 rfl
theorem dX7_seesWhole_26 : decode cX7_seesWhole 26 = .ok (.iload_n 2, 1) := dq_get (L := lzddX7_seesWhole_0) 14 rfl zddX7_seesWhole_0 rfl
theorem dX7_seesWhole_27 : decode cX7_seesWhole 27 = .ok (.if_icmp .le 11, 3) := dq_get (L := lzddX7_seesWhole_0) 15 rfl zddX7_seesWhole_0 rfl
theorem dX7_seesWhole_30 : decode cX7_seesWhole 30 = .ok (.aload_n 0, 1) := dq_get (L := lzddX7_seesWhole_0) 16 rfl zddX7_seesWhole_0 rfl
theorem dX7_seesWhole_31 : decode cX7_seesWhole 31 = .ok (.iconst 4, 1) := dq_get (L := lzddX7_seesWhole_0) 17 rfl zddX7_seesWhole_0 rfl
theorem dX7_seesWhole_32 : decode cX7_seesWhole 32 = .ok (.invokevirtual 64, 3) := dq_get (L := lzddX7_seesWhole_0) 18 rfl zddX7_seesWhole_0 rfl
theorem dX7_seesWhole_35 : decode cX7_seesWhole 35 = .ok (.ifCond .eq 7, 3) := dq_get (L := lzddX7_seesWhole_0) 19 rfl zddX7_seesWhole_0 rfl
def lzddX7_seesWhole_38 : List (Nat × Instr × Nat) := [(38, .iconst 1, 1), (39, .goto 4, 3), (42, .iconst 0, 1), (43, .ireturn, 1)]
theorem zddX7_seesWhole_38 : dqW lzddX7_seesWhole_38 (cX7_seesWhole.data.toList.drop 38) 38 = true := by decide +kernel
theorem dX7_seesWhole_38 : decode cX7_seesWhole 38 = .ok (.iconst 1, 1) := dq_get (L := lzddX7_seesWhole_38) 0 rfl zddX7_seesWhole_38 rfl
theorem dX7_seesWhole_39 : decode cX7_seesWhole 39 = .ok (.goto 4, 3) := dq_get (L := lzddX7_seesWhole_38) 1 rfl zddX7_seesWhole_38 rfl
theorem dX7_seesWhole_42 : decode cX7_seesWhole 42 = .ok (.iconst 0, 1) := dq_get (L := lzddX7_seesWhole_38) 2 rfl zddX7_seesWhole_38 rfl
theorem dX7_seesWhole_43 : decode cX7_seesWhole 43 = .ok (.ireturn, 1) := dq_get (L := lzddX7_seesWhole_38) 3 rfl zddX7_seesWhole_38 rfl
def lzddX7_seesWord_0 : List (Nat × Instr × Nat) := [(0, .aload_n 0, 1), (1, .getfield 58, 3), (4, .iconst 1, 1), (5, .if_icmp .ne 19, 3), (8, .aload_n 0, 1), (9, .getfield 78, 3), (12, .aload_n 1, 1), (13, .invokestatic 97, 3), (16, .lcmp, 1), (17, .ifCond .ne 7, 3), (20, .iconst 1, 1), (21, .goto 4, 3), (24, .iconst 0, 1), (25, .ireturn, 1)]
theorem zddX7_seesWord_0 : dqW lzddX7_seesWord_0 (cX7_seesWord.data.toList.drop 0) 0 = true := by decide +kernel
theorem dX7_seesWord_0 : decode cX7_seesWord 0 = .ok (.aload_n 0, 1) := dq_get (L := lzddX7_seesWord_0) 0 rfl zddX7_seesWord_0 rfl
theorem dX7_seesWord_1 : decode cX7_seesWord 1 = .ok (.getfield 58, 3) := dq_get (L := lzddX7_seesWord_0) 1 rfl zddX7_seesWord_0 rfl
theorem dX7_seesWord_4 : decode cX7_seesWord 4 = .ok (.iconst 1, 1) := dq_get (L := lzddX7_seesWord_0) 2 rfl zddX7_seesWord_0 rfl
theorem dX7_seesWord_5 : decode cX7_seesWord 5 = .ok (.if_icmp .ne 19, 3) := dq_get (L := lzddX7_seesWord_0) 3 rfl zddX7_seesWord_0 rfl
theorem dX7_seesWord_8 : decode cX7_seesWord 8 = .ok (.aload_n 0, 1) := dq_get (L := lzddX7_seesWord_0) 4 rfl zddX7_seesWord_0 rfl
theorem dX7_seesWord_9 : decode cX7_seesWord 9 = .ok (.getfield 78, 3) := dq_get (L := lzddX7_seesWord_0) 5 rfl zddX7_seesWord_0 rfl
theorem dX7_seesWord_12 : decode cX7_seesWord 12 = .ok (.aload_n 1, 1) := dq_get (L := lzddX7_seesWord_0) 6 rfl zddX7_seesWord_0 rfl
theorem dX7_seesWord_13 : decode cX7_seesWord 13 = .ok (.invokestatic 97, 3) := dq_get (L := lzddX7_seesWord_0) 7 rfl zddX7_seesWord_0 rfl
theorem dX7_seesWord_16 : decode cX7_seesWord 16 = .ok (.lcmp, 1) := dq_get (L := lzddX7_seesWord_0) 8 rfl zddX7_seesWord_0 rfl
theorem dX7_seesWord_17 : decode cX7_seesWord 17 = .ok (.ifCond .ne 7, 3) := dq_get (L := lzddX7_seesWord_0) 9 rfl zddX7_seesWord_0 rfl
theorem dX7_seesWord_20 : decode cX7_seesWord 20 = .ok (.iconst 1, 1) := dq_get (L := lzddX7_seesWord_0) 10 rfl zddX7_seesWord_0 rfl
theorem dX7_seesWord_21 : decode cX7_seesWord 21 = .ok (.goto 4, 3) := dq_get (L := lzddX7_seesWord_0) 11 rfl zddX7_seesWord_0 rfl
theorem dX7_seesWord_24 : decode cX7_seesWord 24 = .ok (.iconst 0, 1) := dq_get (L := lzddX7_seesWord_0) 12 rfl zddX7_seesWord_0 rfl
theorem dX7_seesWord_25 : decode cX7_seesWord 25 = .ok (.ireturn, 1) := dq_get (L := lzddX7_seesWord_0) 13 rfl zddX7_seesWord_0 rfl
def lzddX7_sortOfWord_0 : List (Nat × Instr × Nat) := [(0, .iconst 0, 1), (1, .istore_n 1, 1), (2, .iload_n 1, 1), (3, .bipush 10, 2), (5, .if_icmp .gt 34, 3), (8, .aload_n 0, 1), (9, .getfield 58, 3), (12, .iconst 1, 1), (13, .if_icmp .ne 20, 3), (16, .aload_n 0, 1), (17, .getfield 78, 3), (20, .iload_n 1, 1), (21, .invokestatic 152, 3), (24, .invokestatic 97, 3), (27, .lcmp, 1), (28, .ifCond .ne 5, 3), (31, .iload_n 1, 1), (32, .ireturn, 1), (33, .iinc 1 1, 3), (36, .goto (-34), 3)]
theorem zddX7_sortOfWord_0 : dqW lzddX7_sortOfWord_0 (cX7_sortOfWord.data.toList.drop 0) 0 = true := by decide +kernel
theorem dX7_sortOfWord_0 : decode cX7_sortOfWord 0 = .ok (.iconst 0, 1) := dq_get (L := lzddX7_sortOfWord_0) 0 rfl zddX7_sortOfWord_0 rfl
theorem dX7_sortOfWord_1 : decode cX7_sortOfWord 1 = .ok (.istore_n 1, 1) := dq_get (L := lzddX7_sortOfWord_0) 1 rfl zddX7_sortOfWord_0 rfl
theorem dX7_sortOfWord_2 : decode cX7_sortOfWord 2 = .ok (.iload_n 1, 1) := dq_get (L := lzddX7_sortOfWord_0) 2 rfl zddX7_sortOfWord_0 rfl
theorem dX7_sortOfWord_3 : decode cX7_sortOfWord 3 = .ok (.bipush 10, 2) := dq_get (L := lzddX7_sortOfWord_0) 3 rfl zddX7_sortOfWord_0 rfl
theorem dX7_sortOfWord_5 : decode cX7_sortOfWord 5 = .ok (.if_icmp .gt 34, 3) := dq_get (L := lzddX7_sortOfWord_0) 4 rfl zddX7_sortOfWord_0 rfl
theorem dX7_sortOfWord_8 : decode cX7_sortOfWord 8 = .ok (.aload_n 0, 1) := dq_get (L := lzddX7_sortOfWord_0) 5 rfl zddX7_sortOfWord_0 rfl
theorem dX7_sortOfWord_9 : decode cX7_sortOfWord 9 = .ok (.getfield 58, 3) := dq_get (L := lzddX7_sortOfWord_0) 6 rfl zddX7_sortOfWord_0 rfl
theorem dX7_sortOfWord_12 : decode cX7_sortOfWord 12 = .ok (.iconst 1, 1) := dq_get (L := lzddX7_sortOfWord_0) 7 rfl zddX7_sortOfWord_0 rfl
theorem dX7_sortOfWord_13 : decode cX7_sortOfWord 13 = .ok (.if_icmp .ne 20, 3) := dq_get (L := lzddX7_sortOfWord_0) 8 rfl zddX7_sortOfWord_0 rfl
theorem dX7_sortOfWord_16 : decode cX7_sortOfWord 16 = .ok (.aload_n 0, 1) := dq_get (L := lzddX7_sortOfWord_0) 9 rfl zddX7_sortOfWord_0 rfl
theorem dX7_sortOfWord_17 : decode cX7_sortOfWord 17 = .ok (.getfield 78, 3) := dq_get (L := lzddX7_sortOfWord_0) 10 rfl zddX7_sortOfWord_0 rfl
theorem dX7_sortOfWord_20 : decode cX7_sortOfWord 20 = .ok (.iload_n 1, 1) := dq_get (L := lzddX7_sortOfWord_0) 11 rfl zddX7_sortOfWord_0 rfl
theorem dX7_sortOfWord_21 : decode cX7_sortOfWord 21 = .ok (.invokestatic 152, 3) := dq_get (L := lzddX7_sortOfWord_0) 12 rfl zddX7_sortOfWord_0 rfl
theorem dX7_sortOfWord_24 : decode cX7_sortOfWord 24 = .ok (.invokestatic 97, 3) := dq_get (L := lzddX7_sortOfWord_0) 13 rfl zddX7_sortOfWord_0 rfl
theorem dX7_sortOfWord_27 : decode cX7_sortOfWord 27 = .ok (.lcmp, 1) := dq_get (L := lzddX7_sortOfWord_0) 14 rfl zddX7_sortOfWord_0 rfl
theorem dX7_sortOfWord_28 : decode cX7_sortOfWord 28 = .ok (.ifCond .ne 5, 3) := dq_get (L := lzddX7_sortOfWord_0) 15 rfl zddX7_sortOfWord_0 rfl
theorem dX7_sortOfWord_31 : decode cX7_sortOfWord 31 = .ok (.iload_n 1, 1) := dq_get (L := lzddX7_sortOfWord_0) 16 rfl zddX7_sortOfWord_0 rfl
theorem dX7_sortOfWord_32 : decode cX7_sortOfWord 32 = .ok (.ireturn, 1) := dq_get (L := lzddX7_sortOfWord_0) 17 rfl zddX7_sortOfWord_0 rfl
theorem dX7_sortOfWord_33 : decode cX7_sortOfWord 33 = .ok (.iinc 1 1, 3) := dq_get (L := lzddX7_sortOfWord_0) 18 rfl zddX7_sortOfWord_0 rfl
theorem dX7_sortOfWord_36 : decode cX7_sortOfWord 36 = .ok (.goto (-34), 3) := dq_get (L := lzddX7_sortOfWord_0) 19 rfl zddX7_sortOfWord_0 rfl
def lzddX7_sortOfWord_39 : List (Nat × Instr × Nat) := [(39, .iconst (-1), 1), (40, .ireturn, 1)]
theorem zddX7_sortOfWord_39 : dqW lzddX7_sortOfWord_39 (cX7_sortOfWord.data.toList.drop 39) 39 = true := by decide +kernel
theorem dX7_sortOfWord_39 : decode cX7_sortOfWord 39 = .ok (.iconst (-1), 1) := dq_get (L := lzddX7_sortOfWord_39) 0 rfl zddX7_sortOfWord_39 rfl
theorem dX7_sortOfWord_40 : decode cX7_sortOfWord 40 = .ok (.ireturn, 1) := dq_get (L := lzddX7_sortOfWord_39) 1 rfl zddX7_sortOfWord_39 rfl
def lzddX7_step_0 : List (Nat × Instr × Nat) := [(0, .aload_n 0, 1), (1, .getfield 48, 3), (4, .aload_n 0, 1), (5, .getfield 45, 3), (8, .if_icmp .ge 30, 3), (11, .aload_n 0, 1), (12, .getfield 18, 3), (15, .aload_n 0, 1), (16, .getfield 48, 3), (19, .baload, 1), (20, .bipush 32, 2), (22, .if_icmp .ne 16, 3), (25, .aload_n 0, 1), (26, .dup, 1), (27, .getfield 48, 3), (30, .iconst 1, 1), (31, .iadd, 1), (32, .putfield 48, 3), (35, .goto (-35), 3), (38, .aload_n 0, 1)]
theorem zddX7_step_0 : dqW lzddX7_step_0 (cX7_step.data.toList.drop 0) 0 = true := by decide +kernel
theorem dX7_step_0 : decode cX7_step 0 = .ok (.aload_n 0, 1) := dq_get (L := lzddX7_step_0) 0 rfl zddX7_step_0 rfl
theorem dX7_step_1 : decode cX7_step 1 = .ok (.getfield 48, 3) := dq_get (L := lzddX7_step_0) 1 rfl zddX7_step_0 rfl
theorem dX7_step_4 : decode cX7_step 4 = .ok (.aload_n 0, 1) := dq_get (L := lzddX7_step_0) 2 rfl zddX7_step_0 rfl
theorem dX7_step_5 : decode cX7_step 5 = .ok (.getfield 45, 3) := dq_get (L := lzddX7_step_0) 3 rfl zddX7_step_0 rfl
theorem dX7_step_8 : decode cX7_step 8 = .ok (.if_icmp .ge 30, 3) := dq_get (L := lzddX7_step_0) 4 rfl zddX7_step_0 rfl
theorem dX7_step_11 : decode cX7_step 11 = .ok (.aload_n 0, 1) := dq_get (L := lzddX7_step_0) 5 rfl zddX7_step_0 rfl
theorem dX7_step_12 : decode cX7_step 12 = .ok (.getfield 18, 3) := dq_get (L := lzddX7_step_0) 6 rfl zddX7_step_0 rfl
theorem dX7_step_15 : decode cX7_step 15 = .ok (.aload_n 0, 1) := dq_get (L := lzddX7_step_0) 7 rfl zddX7_step_0 rfl
theorem dX7_step_16 : decode cX7_step 16 = .ok (.getfield 48, 3) := dq_get (L := lzddX7_step_0) 8 rfl zddX7_step_0 rfl
theorem dX7_step_19 : decode cX7_step 19 = .ok (.baload, 1) := dq_get (L := lzddX7_step_0) 9 rfl zddX7_step_0 rfl
theorem dX7_step_20 : decode cX7_step 20 = .ok (.bipush 32, 2) := dq_get (L := lzddX7_step_0) 10 rfl zddX7_step_0 rfl
theorem dX7_step_22 : decode cX7_step 22 = .ok (.if_icmp .ne 16, 3) := dq_get (L := lzddX7_step_0) 11 rfl zddX7_step_0 rfl
theorem dX7_step_25 : decode cX7_step 25 = .ok (.aload_n 0, 1) := dq_get (L := lzddX7_step_0) 12 rfl zddX7_step_0 rfl
theorem dX7_step_26 : decode cX7_step 26 = .ok (.dup, 1) := dq_get (L := lzddX7_step_0) 13 rfl zddX7_step_0 rfl
theorem dX7_step_27 : decode cX7_step 27 = .ok (.getfield 48, 3) := dq_get (L := lzddX7_step_0) 14 rfl zddX7_step_0 rfl
theorem dX7_step_30 : decode cX7_step 30 = .ok (.iconst 1, 1) := dq_get (L := lzddX7_step_0) 15 rfl zddX7_step_0 rfl
theorem dX7_step_31 : decode cX7_step 31 = .ok (.iadd, 1) := dq_get (L := lzddX7_step_0) 16 rfl zddX7_step_0 rfl
theorem dX7_step_32 : decode cX7_step 32 = .ok (.putfield 48, 3) := dq_get (L := lzddX7_step_0) 17 rfl zddX7_step_0 rfl
theorem dX7_step_35 : decode cX7_step 35 = .ok (.goto (-35), 3) := dq_get (L := lzddX7_step_0) 18 rfl zddX7_step_0 rfl
theorem dX7_step_38 : decode cX7_step 38 = .ok (.aload_n 0, 1) := dq_get (L := lzddX7_step_0) 19 rfl zddX7_step_0 rfl
def lzddX7_step_39 : List (Nat × Instr × Nat) := [(39, .aload_n 0, 1), (40, .getfield 48, 3), (43, .putfield 68, 3), (46, .aload_n 0, 1), (47, .getfield 48, 3), (50, .aload_n 0, 1), (51, .getfield 45, 3), (54, .if_icmp .lt 9, 3), (57, .aload_n 0, 1), (58, .iconst 0, 1), (59, .putfield 58, 3), (62, .return_, 1), (63, .aload_n 0, 1), (64, .getfield 18, 3), (67, .aload_n 0, 1), (68, .getfield 48, 3), (71, .baload, 1), (72, .istore_n 1, 1), (73, .iload_n 1, 1), (74, .bipush 97, 2)]
theorem zddX7_step_39 : dqW lzddX7_step_39 (cX7_step.data.toList.drop 39) 39 = true := by decide +kernel
theorem dX7_step_39 : decode cX7_step 39 = .ok (.aload_n 0, 1) := dq_get (L := lzddX7_step_39) 0 rfl zddX7_step_39 rfl
theorem dX7_step_40 : decode cX7_step 40 = .ok (.getfield 48, 3) := dq_get (L := lzddX7_step_39) 1 rfl zddX7_step_39 rfl
theorem dX7_step_43 : decode cX7_step 43 = .ok (.putfield 68, 3) := dq_get (L := lzddX7_step_39) 2 rfl zddX7_step_39 rfl
theorem dX7_step_46 : decode cX7_step 46 = .ok (.aload_n 0, 1) := dq_get (L := lzddX7_step_39) 3 rfl zddX7_step_39 rfl
theorem dX7_step_47 : decode cX7_step 47 = .ok (.getfield 48, 3) := dq_get (L := lzddX7_step_39) 4 rfl zddX7_step_39 rfl
theorem dX7_step_50 : decode cX7_step 50 = .ok (.aload_n 0, 1) := dq_get (L := lzddX7_step_39) 5 rfl zddX7_step_39 rfl
theorem dX7_step_51 : decode cX7_step 51 = .ok (.getfield 45, 3) := dq_get (L := lzddX7_step_39) 6 rfl zddX7_step_39 rfl
theorem dX7_step_54 : decode cX7_step 54 = .ok (.if_icmp .lt 9, 3) := dq_get (L := lzddX7_step_39) 7 rfl zddX7_step_39 rfl
theorem dX7_step_57 : decode cX7_step 57 = .ok (.aload_n 0, 1) := dq_get (L := lzddX7_step_39) 8 rfl zddX7_step_39 rfl
theorem dX7_step_58 : decode cX7_step 58 = .ok (.iconst 0, 1) := dq_get (L := lzddX7_step_39) 9 rfl zddX7_step_39 rfl
theorem dX7_step_59 : decode cX7_step 59 = .ok (.putfield 58, 3) := dq_get (L := lzddX7_step_39) 10 rfl zddX7_step_39 rfl
theorem dX7_step_62 : decode cX7_step 62 = .ok (.return_, 1) := dq_get (L := lzddX7_step_39) 11 rfl zddX7_step_39 rfl
theorem dX7_step_63 : decode cX7_step 63 = .ok (.aload_n 0, 1) := dq_get (L := lzddX7_step_39) 12 rfl zddX7_step_39 rfl
theorem dX7_step_64 : decode cX7_step 64 = .ok (.getfield 18, 3) := dq_get (L := lzddX7_step_39) 13 rfl zddX7_step_39 rfl
theorem dX7_step_67 : decode cX7_step 67 = .ok (.aload_n 0, 1) := dq_get (L := lzddX7_step_39) 14 rfl zddX7_step_39 rfl
theorem dX7_step_68 : decode cX7_step 68 = .ok (.getfield 48, 3) := dq_get (L := lzddX7_step_39) 15 rfl zddX7_step_39 rfl
theorem dX7_step_71 : decode cX7_step 71 = .ok (.baload, 1) := dq_get (L := lzddX7_step_39) 16 rfl zddX7_step_39 rfl
theorem dX7_step_72 : decode cX7_step 72 = .ok (.istore_n 1, 1) := dq_get (L := lzddX7_step_39) 17 rfl zddX7_step_39 rfl
theorem dX7_step_73 : decode cX7_step 73 = .ok (.iload_n 1, 1) := dq_get (L := lzddX7_step_39) 18 rfl zddX7_step_39 rfl
theorem dX7_step_74 : decode cX7_step 74 = .ok (.bipush 97, 2) := dq_get (L := lzddX7_step_39) 19 rfl zddX7_step_39 rfl
def lzddX7_step_76 : List (Nat × Instr × Nat) := [(76, .if_icmp .lt 30, 3), (79, .iload_n 1, 1), (80, .bipush 122, 2), (82, .if_icmp .gt 24, 3), (85, .aload_n 0, 1), (86, .aload_n 0, 1), (87, .invokevirtual 71, 3), (90, .bipush 8, 2), (92, .if_icmp .gt 7, 3), (95, .iconst 1, 1), (96, .goto 4, 3), (99, .iconst 5, 1), (100, .putfield 58, 3), (103, .goto 70, 3), (106, .iload_n 1, 1), (107, .bipush 48, 2), (109, .if_icmp .lt 29, 3), (112, .iload_n 1, 1), (113, .bipush 57, 2), (115, .if_icmp .gt 23, 3)]
theorem zddX7_step_76 : dqW lzddX7_step_76 (cX7_step.data.toList.drop 76) 76 = true := by decide +kernel
theorem dX7_step_76 : decode cX7_step 76 = .ok (.if_icmp .lt 30, 3) := dq_get (L := lzddX7_step_76) 0 rfl zddX7_step_76 rfl
theorem dX7_step_79 : decode cX7_step 79 = .ok (.iload_n 1, 1) := dq_get (L := lzddX7_step_76) 1 rfl zddX7_step_76 rfl
theorem dX7_step_80 : decode cX7_step 80 = .ok (.bipush 122, 2) := dq_get (L := lzddX7_step_76) 2 rfl zddX7_step_76 rfl
theorem dX7_step_82 : decode cX7_step 82 = .ok (.if_icmp .gt 24, 3) := dq_get (L := lzddX7_step_76) 3 rfl zddX7_step_76 rfl
theorem dX7_step_85 : decode cX7_step 85 = .ok (.aload_n 0, 1) := dq_get (L := lzddX7_step_76) 4 rfl zddX7_step_76 rfl
theorem dX7_step_86 : decode cX7_step 86 = .ok (.aload_n 0, 1) := dq_get (L := lzddX7_step_76) 5 rfl zddX7_step_76 rfl
theorem dX7_step_87 : decode cX7_step 87 = .ok (.invokevirtual 71, 3) := dq_get (L := lzddX7_step_76) 6 rfl zddX7_step_76 rfl
theorem dX7_step_90 : decode cX7_step 90 = .ok (.bipush 8, 2) := dq_get (L := lzddX7_step_76) 7 rfl zddX7_step_76 rfl
theorem dX7_step_92 : decode cX7_step 92 = .ok (.if_icmp .gt 7, 3) := dq_get (L := lzddX7_step_76) 8 rfl zddX7_step_76 rfl
theorem dX7_step_95 : decode cX7_step 95 = .ok (.iconst 1, 1) := dq_get (L := lzddX7_step_76) 9 rfl zddX7_step_76 rfl
theorem dX7_step_96 : decode cX7_step 96 = .ok (.goto 4, 3) := dq_get (L := lzddX7_step_76) 10 rfl zddX7_step_76 rfl
theorem dX7_step_99 : decode cX7_step 99 = .ok (.iconst 5, 1) := dq_get (L := lzddX7_step_76) 11 rfl zddX7_step_76 rfl
theorem dX7_step_100 : decode cX7_step 100 = .ok (.putfield 58, 3) := dq_get (L := lzddX7_step_76) 12 rfl zddX7_step_76 rfl
theorem dX7_step_103 : decode cX7_step 103 = .ok (.goto 70, 3) := dq_get (L := lzddX7_step_76) 13 rfl zddX7_step_76 rfl
theorem dX7_step_106 : decode cX7_step 106 = .ok (.iload_n 1, 1) := dq_get (L := lzddX7_step_76) 14 rfl zddX7_step_76 rfl
theorem dX7_step_107 : decode cX7_step 107 = .ok (.bipush 48, 2) := dq_get (L := lzddX7_step_76) 15 rfl zddX7_step_76 rfl
theorem dX7_step_109 : decode cX7_step 109 = .ok (.if_icmp .lt 29, 3) := dq_get (L := lzddX7_step_76) 16 rfl zddX7_step_76 rfl
theorem dX7_step_112 : decode cX7_step 112 = .ok (.iload_n 1, 1) := dq_get (L := lzddX7_step_76) 17 rfl zddX7_step_76 rfl
theorem dX7_step_113 : decode cX7_step 113 = .ok (.bipush 57, 2) := dq_get (L := lzddX7_step_76) 18 rfl zddX7_step_76 rfl
theorem dX7_step_115 : decode cX7_step 115 = .ok (.if_icmp .gt 23, 3) := dq_get (L := lzddX7_step_76) 19 rfl zddX7_step_76 rfl
def lzddX7_step_118 : List (Nat × Instr × Nat) := [(118, .aload_n 0, 1), (119, .aload_n 0, 1), (120, .invokevirtual 75, 3), (123, .iconst 3, 1), (124, .if_icmp .gt 7, 3), (127, .iconst 2, 1), (128, .goto 4, 3), (131, .iconst 5, 1), (132, .putfield 58, 3), (135, .goto 38, 3), (138, .aload_n 0, 1), (139, .iload_n 1, 1), (140, .bipush 59, 2), (142, .if_icmp .ne 7, 3), (145, .iconst 3, 1), (146, .goto 14, 3), (149, .iload_n 1, 1), (150, .bipush 44, 2), (152, .if_icmp .ne 7, 3), (155, .iconst 4, 1)]
theorem zddX7_step_118 : dqW lzddX7_step_118 (cX7_step.data.toList.drop 118) 118 = true := by decide +kernel
theorem dX7_step_118 : decode cX7_step 118 = .ok (.aload_n 0, 1) := dq_get (L := lzddX7_step_118) 0 rfl zddX7_step_118 rfl
theorem dX7_step_119 : decode cX7_step 119 = .ok (.aload_n 0, 1) := dq_get (L := lzddX7_step_118) 1 rfl zddX7_step_118 rfl
theorem dX7_step_120 : decode cX7_step 120 = .ok (.invokevirtual 75, 3) := dq_get (L := lzddX7_step_118) 2 rfl zddX7_step_118 rfl
theorem dX7_step_123 : decode cX7_step 123 = .ok (.iconst 3, 1) := dq_get (L := lzddX7_step_118) 3 rfl zddX7_step_118 rfl
theorem dX7_step_124 : decode cX7_step 124 = .ok (.if_icmp .gt 7, 3) := dq_get (L := lzddX7_step_118) 4 rfl zddX7_step_118 rfl
theorem dX7_step_127 : decode cX7_step 127 = .ok (.iconst 2, 1) := dq_get (L := lzddX7_step_118) 5 rfl zddX7_step_118 rfl
theorem dX7_step_128 : decode cX7_step 128 = .ok (.goto 4, 3) := dq_get (L := lzddX7_step_118) 6 rfl zddX7_step_118 rfl
theorem dX7_step_131 : decode cX7_step 131 = .ok (.iconst 5, 1) := dq_get (L := lzddX7_step_118) 7 rfl zddX7_step_118 rfl
theorem dX7_step_132 : decode cX7_step 132 = .ok (.putfield 58, 3) := dq_get (L := lzddX7_step_118) 8 rfl zddX7_step_118 rfl
theorem dX7_step_135 : decode cX7_step 135 = .ok (.goto 38, 3) := dq_get (L := lzddX7_step_118) 9 rfl zddX7_step_118 rfl
theorem dX7_step_138 : decode cX7_step 138 = .ok (.aload_n 0, 1) := dq_get (L := lzddX7_step_118) 10 rfl zddX7_step_118 rfl
theorem dX7_step_139 : decode cX7_step 139 = .ok (.iload_n 1, 1) := dq_get (L := lzddX7_step_118) 11 rfl zddX7_step_118 rfl
theorem dX7_step_140 : decode cX7_step 140 = .ok (.bipush 59, 2) := dq_get (L := lzddX7_step_118) 12 rfl zddX7_step_118 rfl
theorem dX7_step_142 : decode cX7_step 142 = .ok (.if_icmp .ne 7, 3) := dq_get (L := lzddX7_step_118) 13 rfl zddX7_step_118 rfl
theorem dX7_step_145 : decode cX7_step 145 = .ok (.iconst 3, 1) := dq_get (L := lzddX7_step_118) 14 rfl zddX7_step_118 rfl
theorem dX7_step_146 : decode cX7_step 146 = .ok (.goto 14, 3) := dq_get (L := lzddX7_step_118) 15 rfl zddX7_step_118 rfl
theorem dX7_step_149 : decode cX7_step 149 = .ok (.iload_n 1, 1) := dq_get (L := lzddX7_step_118) 16 rfl zddX7_step_118 rfl
theorem dX7_step_150 : decode cX7_step 150 = .ok (.bipush 44, 2) := dq_get (L := lzddX7_step_118) 17 rfl zddX7_step_118 rfl
theorem dX7_step_152 : decode cX7_step 152 = .ok (.if_icmp .ne 7, 3) := dq_get (L := lzddX7_step_118) 18 rfl zddX7_step_118 rfl
theorem dX7_step_155 : decode cX7_step 155 = .ok (.iconst 4, 1) := dq_get (L := lzddX7_step_118) 19 rfl zddX7_step_118 rfl
def lzddX7_step_156 : List (Nat × Instr × Nat) := [(156, .goto 4, 3), (159, .iconst 5, 1), (160, .putfield 58, 3), (163, .aload_n 0, 1), (164, .dup, 1), (165, .getfield 48, 3), (168, .iconst 1, 1), (169, .iadd, 1), (170, .putfield 48, 3), (173, .return_, 1)]
theorem zddX7_step_156 : dqW lzddX7_step_156 (cX7_step.data.toList.drop 156) 156 = true := by decide +kernel
theorem dX7_step_156 : decode cX7_step 156 = .ok (.goto 4, 3) := dq_get (L := lzddX7_step_156) 0 rfl zddX7_step_156 rfl
theorem dX7_step_159 : decode cX7_step 159 = .ok (.iconst 5, 1) := dq_get (L := lzddX7_step_156) 1 rfl zddX7_step_156 rfl
theorem dX7_step_160 : decode cX7_step 160 = .ok (.putfield 58, 3) := dq_get (L := lzddX7_step_156) 2 rfl zddX7_step_156 rfl
theorem dX7_step_163 : decode cX7_step 163 = .ok (.aload_n 0, 1) := dq_get (L := lzddX7_step_156) 3 rfl zddX7_step_156 rfl
theorem dX7_step_164 : decode cX7_step 164 = .ok (.dup, 1) := dq_get (L := lzddX7_step_156) 4 rfl zddX7_step_156 rfl
theorem dX7_step_165 : decode cX7_step 165 = .ok (.getfield 48, 3) := dq_get (L := lzddX7_step_156) 5 rfl zddX7_step_156 rfl
theorem dX7_step_168 : decode cX7_step 168 = .ok (.iconst 1, 1) := dq_get (L := lzddX7_step_156) 6 rfl zddX7_step_156 rfl
theorem dX7_step_169 : decode cX7_step 169 = .ok (.iadd, 1) := dq_get (L := lzddX7_step_156) 7 rfl zddX7_step_156 rfl
theorem dX7_step_170 : decode cX7_step 170 = .ok (.putfield 48, 3) := dq_get (L := lzddX7_step_156) 8 rfl zddX7_step_156 rfl
theorem dX7_step_173 : decode cX7_step 173 = .ok (.return_, 1) := dq_get (L := lzddX7_step_156) 9 rfl zddX7_step_156 rfl
def lzddX7_stepWhole_0 : List (Nat × Instr × Nat) := [(0, .aload_n 0, 1), (1, .iconst 0, 1), (2, .putfield 86, 3), (5, .aload_n 0, 1), (6, .getfield 48, 3), (9, .aload_n 0, 1), (10, .getfield 45, 3), (13, .if_icmp .ge 68, 3), (16, .aload_n 0, 1), (17, .getfield 18, 3), (20, .aload_n 0, 1), (21, .getfield 48, 3), (24, .baload, 1), (25, .bipush 48, 2), (27, .if_icmp .lt 54, 3), (30, .aload_n 0, 1), (31, .getfield 18, 3), (34, .aload_n 0, 1), (35, .getfield 48, 3), (38, .baload, 1)]
theorem zddX7_stepWhole_0 : dqW lzddX7_stepWhole_0 (cX7_stepWhole.data.toList.drop 0) 0 = true := by decide +kernel
theorem dX7_stepWhole_0 : decode cX7_stepWhole 0 = .ok (.aload_n 0, 1) := dq_get (L := lzddX7_stepWhole_0) 0 rfl zddX7_stepWhole_0 rfl
theorem dX7_stepWhole_1 : decode cX7_stepWhole 1 = .ok (.iconst 0, 1) := dq_get (L := lzddX7_stepWhole_0) 1 rfl zddX7_stepWhole_0 rfl
theorem dX7_stepWhole_2 : decode cX7_stepWhole 2 = .ok (.putfield 86, 3) := dq_get (L := lzddX7_stepWhole_0) 2 rfl zddX7_stepWhole_0 rfl
theorem dX7_stepWhole_5 : decode cX7_stepWhole 5 = .ok (.aload_n 0, 1) := dq_get (L := lzddX7_stepWhole_0) 3 rfl zddX7_stepWhole_0 rfl
theorem dX7_stepWhole_6 : decode cX7_stepWhole 6 = .ok (.getfield 48, 3) := dq_get (L := lzddX7_stepWhole_0) 4 rfl zddX7_stepWhole_0 rfl
theorem dX7_stepWhole_9 : decode cX7_stepWhole 9 = .ok (.aload_n 0, 1) := dq_get (L := lzddX7_stepWhole_0) 5 rfl zddX7_stepWhole_0 rfl
theorem dX7_stepWhole_10 : decode cX7_stepWhole 10 = .ok (.getfield 45, 3) := dq_get (L := lzddX7_stepWhole_0) 6 rfl zddX7_stepWhole_0 rfl
theorem dX7_stepWhole_13 : decode cX7_stepWhole 13 = .ok (.if_icmp .ge 68, 3) := dq_get (L := lzddX7_stepWhole_0) 7 rfl zddX7_stepWhole_0 rfl
theorem dX7_stepWhole_16 : decode cX7_stepWhole 16 = .ok (.aload_n 0, 1) := dq_get (L := lzddX7_stepWhole_0) 8 rfl zddX7_stepWhole_0 rfl
theorem dX7_stepWhole_17 : decode cX7_stepWhole 17 = .ok (.getfield 18, 3) := dq_get (L := lzddX7_stepWhole_0) 9 rfl zddX7_stepWhole_0 rfl
theorem dX7_stepWhole_20 : decode cX7_stepWhole 20 = .ok (.aload_n 0, 1) := dq_get (L := lzddX7_stepWhole_0) 10 rfl zddX7_stepWhole_0 rfl
theorem dX7_stepWhole_21 : decode cX7_stepWhole 21 = .ok (.getfield 48, 3) := dq_get (L := lzddX7_stepWhole_0) 11 rfl zddX7_stepWhole_0 rfl
theorem dX7_stepWhole_24 : decode cX7_stepWhole 24 = .ok (.baload, 1) := dq_get (L := lzddX7_stepWhole_0) 12 rfl zddX7_stepWhole_0 rfl
theorem dX7_stepWhole_25 : decode cX7_stepWhole 25 = .ok (.bipush 48, 2) := dq_get (L := lzddX7_stepWhole_0) 13 rfl zddX7_stepWhole_0 rfl
theorem dX7_stepWhole_27 : decode cX7_stepWhole 27 = .ok (.if_icmp .lt 54, 3) := dq_get (L := lzddX7_stepWhole_0) 14 rfl zddX7_stepWhole_0 rfl
theorem dX7_stepWhole_30 : decode cX7_stepWhole 30 = .ok (.aload_n 0, 1) := dq_get (L := lzddX7_stepWhole_0) 15 rfl zddX7_stepWhole_0 rfl
theorem dX7_stepWhole_31 : decode cX7_stepWhole 31 = .ok (.getfield 18, 3) := dq_get (L := lzddX7_stepWhole_0) 16 rfl zddX7_stepWhole_0 rfl
theorem dX7_stepWhole_34 : decode cX7_stepWhole 34 = .ok (.aload_n 0, 1) := dq_get (L := lzddX7_stepWhole_0) 17 rfl zddX7_stepWhole_0 rfl
theorem dX7_stepWhole_35 : decode cX7_stepWhole 35 = .ok (.getfield 48, 3) := dq_get (L := lzddX7_stepWhole_0) 18 rfl zddX7_stepWhole_0 rfl
theorem dX7_stepWhole_38 : decode cX7_stepWhole 38 = .ok (.baload, 1) := dq_get (L := lzddX7_stepWhole_0) 19 rfl zddX7_stepWhole_0 rfl
def lzddX7_stepWhole_39 : List (Nat × Instr × Nat) := [(39, .bipush 57, 2), (41, .if_icmp .gt 40, 3), (44, .aload_n 0, 1), (45, .aload_n 0, 1), (46, .getfield 86, 3), (49, .bipush 10, 2), (51, .imul, 1), (52, .aload_n 0, 1), (53, .getfield 18, 3), (56, .aload_n 0, 1), (57, .getfield 48, 3), (60, .baload, 1), (61, .iadd, 1), (62, .bipush 48, 2), (64, .isub, 1), (65, .putfield 86, 3), (68, .aload_n 0, 1), (69, .dup, 1), (70, .getfield 48, 3), (73, .iconst 1, 1)]
theorem zddX7_stepWhole_39 : dqW lzddX7_stepWhole_39 (cX7_stepWhole.data.toList.drop 39) 39 = true := by decide +kernel
theorem dX7_stepWhole_39 : decode cX7_stepWhole 39 = .ok (.bipush 57, 2) := dq_get (L := lzddX7_stepWhole_39) 0 rfl zddX7_stepWhole_39 rfl
theorem dX7_stepWhole_41 : decode cX7_stepWhole 41 = .ok (.if_icmp .gt 40, 3) := dq_get (L := lzddX7_stepWhole_39) 1 rfl zddX7_stepWhole_39 rfl
theorem dX7_stepWhole_44 : decode cX7_stepWhole 44 = .ok (.aload_n 0, 1) := dq_get (L := lzddX7_stepWhole_39) 2 rfl zddX7_stepWhole_39 rfl
theorem dX7_stepWhole_45 : decode cX7_stepWhole 45 = .ok (.aload_n 0, 1) := dq_get (L := lzddX7_stepWhole_39) 3 rfl zddX7_stepWhole_39 rfl
theorem dX7_stepWhole_46 : decode cX7_stepWhole 46 = .ok (.getfield 86, 3) := dq_get (L := lzddX7_stepWhole_39) 4 rfl zddX7_stepWhole_39 rfl
theorem dX7_stepWhole_49 : decode cX7_stepWhole 49 = .ok (.bipush 10, 2) := dq_get (L := lzddX7_stepWhole_39) 5 rfl zddX7_stepWhole_39 rfl
theorem dX7_stepWhole_51 : decode cX7_stepWhole 51 = .ok (.imul, 1) := dq_get (L := lzddX7_stepWhole_39) 6 rfl zddX7_stepWhole_39 rfl
theorem dX7_stepWhole_52 : decode cX7_stepWhole 52 = .ok (.aload_n 0, 1) := dq_get (L := lzddX7_stepWhole_39) 7 rfl zddX7_stepWhole_39 rfl
theorem dX7_stepWhole_53 : decode cX7_stepWhole 53 = .ok (.getfield 18, 3) := dq_get (L := lzddX7_stepWhole_39) 8 rfl zddX7_stepWhole_39 rfl
theorem dX7_stepWhole_56 : decode cX7_stepWhole 56 = .ok (.aload_n 0, 1) := dq_get (L := lzddX7_stepWhole_39) 9 rfl zddX7_stepWhole_39 rfl
theorem dX7_stepWhole_57 : decode cX7_stepWhole 57 = .ok (.getfield 48, 3) := dq_get (L := lzddX7_stepWhole_39) 10 rfl zddX7_stepWhole_39 rfl
theorem dX7_stepWhole_60 : decode cX7_stepWhole 60 = .ok (.baload, 1) := dq_get (L := lzddX7_stepWhole_39) 11 rfl zddX7_stepWhole_39 rfl
theorem dX7_stepWhole_61 : decode cX7_stepWhole 61 = .ok (.iadd, 1) := dq_get (L := lzddX7_stepWhole_39) 12 rfl zddX7_stepWhole_39 rfl
theorem dX7_stepWhole_62 : decode cX7_stepWhole 62 = .ok (.bipush 48, 2) := dq_get (L := lzddX7_stepWhole_39) 13 rfl zddX7_stepWhole_39 rfl
theorem dX7_stepWhole_64 : decode cX7_stepWhole 64 = .ok (.isub, 1) := dq_get (L := lzddX7_stepWhole_39) 14 rfl zddX7_stepWhole_39 rfl
theorem dX7_stepWhole_65 : decode cX7_stepWhole 65 = .ok (.putfield 86, 3) := dq_get (L := lzddX7_stepWhole_39) 15 rfl zddX7_stepWhole_39 rfl
theorem dX7_stepWhole_68 : decode cX7_stepWhole 68 = .ok (.aload_n 0, 1) := dq_get (L := lzddX7_stepWhole_39) 16 rfl zddX7_stepWhole_39 rfl
theorem dX7_stepWhole_69 : decode cX7_stepWhole 69 = .ok (.dup, 1) := dq_get (L := lzddX7_stepWhole_39) 17 rfl zddX7_stepWhole_39 rfl
theorem dX7_stepWhole_70 : decode cX7_stepWhole 70 = .ok (.getfield 48, 3) := dq_get (L := lzddX7_stepWhole_39) 18 rfl zddX7_stepWhole_39 rfl
theorem dX7_stepWhole_73 : decode cX7_stepWhole 73 = .ok (.iconst 1, 1) := dq_get (L := lzddX7_stepWhole_39) 19 rfl zddX7_stepWhole_39 rfl
def lzddX7_stepWhole_74 : List (Nat × Instr × Nat) := [(74, .iadd, 1), (75, .putfield 48, 3), (78, .goto (-73), 3), (81, .aload_n 0, 1), (82, .getfield 48, 3), (85, .aload_n 0, 1), (86, .getfield 68, 3), (89, .isub, 1), (90, .ireturn, 1)]
theorem zddX7_stepWhole_74 : dqW lzddX7_stepWhole_74 (cX7_stepWhole.data.toList.drop 74) 74 = true := by decide +kernel
theorem dX7_stepWhole_74 : decode cX7_stepWhole 74 = .ok (.iadd, 1) := dq_get (L := lzddX7_stepWhole_74) 0 rfl zddX7_stepWhole_74 rfl
theorem dX7_stepWhole_75 : decode cX7_stepWhole 75 = .ok (.putfield 48, 3) := dq_get (L := lzddX7_stepWhole_74) 1 rfl zddX7_stepWhole_74 rfl
theorem dX7_stepWhole_78 : decode cX7_stepWhole 78 = .ok (.goto (-73), 3) := dq_get (L := lzddX7_stepWhole_74) 2 rfl zddX7_stepWhole_74 rfl
theorem dX7_stepWhole_81 : decode cX7_stepWhole 81 = .ok (.aload_n 0, 1) := dq_get (L := lzddX7_stepWhole_74) 3 rfl zddX7_stepWhole_74 rfl
theorem dX7_stepWhole_82 : decode cX7_stepWhole 82 = .ok (.getfield 48, 3) := dq_get (L := lzddX7_stepWhole_74) 4 rfl zddX7_stepWhole_74 rfl
theorem dX7_stepWhole_85 : decode cX7_stepWhole 85 = .ok (.aload_n 0, 1) := dq_get (L := lzddX7_stepWhole_74) 5 rfl zddX7_stepWhole_74 rfl
theorem dX7_stepWhole_86 : decode cX7_stepWhole 86 = .ok (.getfield 68, 3) := dq_get (L := lzddX7_stepWhole_74) 6 rfl zddX7_stepWhole_74 rfl
theorem dX7_stepWhole_89 : decode cX7_stepWhole 89 = .ok (.isub, 1) := dq_get (L := lzddX7_stepWhole_74) 7 rfl zddX7_stepWhole_74 rfl
theorem dX7_stepWhole_90 : decode cX7_stepWhole 90 = .ok (.ireturn, 1) := dq_get (L := lzddX7_stepWhole_74) 8 rfl zddX7_stepWhole_74 rfl
def lzddX7_stepWord_0 : List (Nat × Instr × Nat) := [(0, .aload_n 0, 1), (1, .lconst 0, 1), (2, .putfield 78, 3), (5, .aload_n 0, 1), (6, .getfield 48, 3), (9, .aload_n 0, 1), (10, .getfield 45, 3), (13, .if_icmp .ge 73, 3), (16, .aload_n 0, 1), (17, .getfield 18, 3), (20, .aload_n 0, 1), (21, .getfield 48, 3), (24, .baload, 1), (25, .bipush 97, 2), (27, .if_icmp .lt 59, 3), (30, .aload_n 0, 1), (31, .getfield 18, 3), (34, .aload_n 0, 1), (35, .getfield 48, 3), (38, .baload, 1)]
theorem zddX7_stepWord_0 : dqW lzddX7_stepWord_0 (cX7_stepWord.data.toList.drop 0) 0 = true := by decide +kernel
theorem dX7_stepWord_0 : decode cX7_stepWord 0 = .ok (.aload_n 0, 1) := dq_get (L := lzddX7_stepWord_0) 0 rfl zddX7_stepWord_0 rfl
theorem dX7_stepWord_1 : decode cX7_stepWord 1 = .ok (.lconst 0, 1) := dq_get (L := lzddX7_stepWord_0) 1 rfl zddX7_stepWord_0 rfl
theorem dX7_stepWord_2 : decode cX7_stepWord 2 = .ok (.putfield 78, 3) := dq_get (L := lzddX7_stepWord_0) 2 rfl zddX7_stepWord_0 rfl
theorem dX7_stepWord_5 : decode cX7_stepWord 5 = .ok (.aload_n 0, 1) := dq_get (L := lzddX7_stepWord_0) 3 rfl zddX7_stepWord_0 rfl
theorem dX7_stepWord_6 : decode cX7_stepWord 6 = .ok (.getfield 48, 3) := dq_get (L := lzddX7_stepWord_0) 4 rfl zddX7_stepWord_0 rfl
theorem dX7_stepWord_9 : decode cX7_stepWord 9 = .ok (.aload_n 0, 1) := dq_get (L := lzddX7_stepWord_0) 5 rfl zddX7_stepWord_0 rfl
theorem dX7_stepWord_10 : decode cX7_stepWord 10 = .ok (.getfield 45, 3) := dq_get (L := lzddX7_stepWord_0) 6 rfl zddX7_stepWord_0 rfl
theorem dX7_stepWord_13 : decode cX7_stepWord 13 = .ok (.if_icmp .ge 73, 3) := dq_get (L := lzddX7_stepWord_0) 7 rfl zddX7_stepWord_0 rfl
theorem dX7_stepWord_16 : decode cX7_stepWord 16 = .ok (.aload_n 0, 1) := dq_get (L := lzddX7_stepWord_0) 8 rfl zddX7_stepWord_0 rfl
theorem dX7_stepWord_17 : decode cX7_stepWord 17 = .ok (.getfield 18, 3) := dq_get (L := lzddX7_stepWord_0) 9 rfl zddX7_stepWord_0 rfl
theorem dX7_stepWord_20 : decode cX7_stepWord 20 = .ok (.aload_n 0, 1) := dq_get (L := lzddX7_stepWord_0) 10 rfl zddX7_stepWord_0 rfl
theorem dX7_stepWord_21 : decode cX7_stepWord 21 = .ok (.getfield 48, 3) := dq_get (L := lzddX7_stepWord_0) 11 rfl zddX7_stepWord_0 rfl
theorem dX7_stepWord_24 : decode cX7_stepWord 24 = .ok (.baload, 1) := dq_get (L := lzddX7_stepWord_0) 12 rfl zddX7_stepWord_0 rfl
theorem dX7_stepWord_25 : decode cX7_stepWord 25 = .ok (.bipush 97, 2) := dq_get (L := lzddX7_stepWord_0) 13 rfl zddX7_stepWord_0 rfl
theorem dX7_stepWord_27 : decode cX7_stepWord 27 = .ok (.if_icmp .lt 59, 3) := dq_get (L := lzddX7_stepWord_0) 14 rfl zddX7_stepWord_0 rfl
theorem dX7_stepWord_30 : decode cX7_stepWord 30 = .ok (.aload_n 0, 1) := dq_get (L := lzddX7_stepWord_0) 15 rfl zddX7_stepWord_0 rfl
theorem dX7_stepWord_31 : decode cX7_stepWord 31 = .ok (.getfield 18, 3) := dq_get (L := lzddX7_stepWord_0) 16 rfl zddX7_stepWord_0 rfl
theorem dX7_stepWord_34 : decode cX7_stepWord 34 = .ok (.aload_n 0, 1) := dq_get (L := lzddX7_stepWord_0) 17 rfl zddX7_stepWord_0 rfl
theorem dX7_stepWord_35 : decode cX7_stepWord 35 = .ok (.getfield 48, 3) := dq_get (L := lzddX7_stepWord_0) 18 rfl zddX7_stepWord_0 rfl
theorem dX7_stepWord_38 : decode cX7_stepWord 38 = .ok (.baload, 1) := dq_get (L := lzddX7_stepWord_0) 19 rfl zddX7_stepWord_0 rfl
def lzddX7_stepWord_39 : List (Nat × Instr × Nat) := [(39, .bipush 122, 2), (41, .if_icmp .gt 45, 3), (44, .aload_n 0, 1), (45, .aload_n 0, 1), (46, .getfield 78, 3), (49, .ldc2_w 82, 3), (52, .lmul, 1), (53, .aload_n 0, 1), (54, .getfield 18, 3), (57, .aload_n 0, 1), (58, .getfield 48, 3), (61, .baload, 1), (62, .i2l, 1), (63, .ladd, 1), (64, .ldc2_w 84, 3), (67, .lsub, 1), (68, .lconst 1, 1), (69, .ladd, 1), (70, .putfield 78, 3), (73, .aload_n 0, 1)]
theorem zddX7_stepWord_39 : dqW lzddX7_stepWord_39 (cX7_stepWord.data.toList.drop 39) 39 = true := by decide +kernel
theorem dX7_stepWord_39 : decode cX7_stepWord 39 = .ok (.bipush 122, 2) := dq_get (L := lzddX7_stepWord_39) 0 rfl zddX7_stepWord_39 rfl
theorem dX7_stepWord_41 : decode cX7_stepWord 41 = .ok (.if_icmp .gt 45, 3) := dq_get (L := lzddX7_stepWord_39) 1 rfl zddX7_stepWord_39 rfl
theorem dX7_stepWord_44 : decode cX7_stepWord 44 = .ok (.aload_n 0, 1) := dq_get (L := lzddX7_stepWord_39) 2 rfl zddX7_stepWord_39 rfl
theorem dX7_stepWord_45 : decode cX7_stepWord 45 = .ok (.aload_n 0, 1) := dq_get (L := lzddX7_stepWord_39) 3 rfl zddX7_stepWord_39 rfl
theorem dX7_stepWord_46 : decode cX7_stepWord 46 = .ok (.getfield 78, 3) := dq_get (L := lzddX7_stepWord_39) 4 rfl zddX7_stepWord_39 rfl
theorem dX7_stepWord_49 : decode cX7_stepWord 49 = .ok (.ldc2_w 82, 3) := dq_get (L := lzddX7_stepWord_39) 5 rfl zddX7_stepWord_39 rfl
theorem dX7_stepWord_52 : decode cX7_stepWord 52 = .ok (.lmul, 1) := dq_get (L := lzddX7_stepWord_39) 6 rfl zddX7_stepWord_39 rfl
theorem dX7_stepWord_53 : decode cX7_stepWord 53 = .ok (.aload_n 0, 1) := dq_get (L := lzddX7_stepWord_39) 7 rfl zddX7_stepWord_39 rfl
theorem dX7_stepWord_54 : decode cX7_stepWord 54 = .ok (.getfield 18, 3) := dq_get (L := lzddX7_stepWord_39) 8 rfl zddX7_stepWord_39 rfl
theorem dX7_stepWord_57 : decode cX7_stepWord 57 = .ok (.aload_n 0, 1) := dq_get (L := lzddX7_stepWord_39) 9 rfl zddX7_stepWord_39 rfl
theorem dX7_stepWord_58 : decode cX7_stepWord 58 = .ok (.getfield 48, 3) := dq_get (L := lzddX7_stepWord_39) 10 rfl zddX7_stepWord_39 rfl
theorem dX7_stepWord_61 : decode cX7_stepWord 61 = .ok (.baload, 1) := dq_get (L := lzddX7_stepWord_39) 11 rfl zddX7_stepWord_39 rfl
theorem dX7_stepWord_62 : decode cX7_stepWord 62 = .ok (.i2l, 1) := dq_get (L := lzddX7_stepWord_39) 12 rfl zddX7_stepWord_39 rfl
theorem dX7_stepWord_63 : decode cX7_stepWord 63 = .ok (.ladd, 1) := dq_get (L := lzddX7_stepWord_39) 13 rfl zddX7_stepWord_39 rfl
theorem dX7_stepWord_64 : decode cX7_stepWord 64 = .ok (.ldc2_w 84, 3) := dq_get (L := lzddX7_stepWord_39) 14 rfl zddX7_stepWord_39 rfl
theorem dX7_stepWord_67 : decode cX7_stepWord 67 = .ok (.lsub, 1) := dq_get (L := lzddX7_stepWord_39) 15 rfl zddX7_stepWord_39 rfl
theorem dX7_stepWord_68 : decode cX7_stepWord 68 = .ok (.lconst 1, 1) := dq_get (L := lzddX7_stepWord_39) 16 rfl zddX7_stepWord_39 rfl
theorem dX7_stepWord_69 : decode cX7_stepWord 69 = .ok (.ladd, 1) := dq_get (L := lzddX7_stepWord_39) 17 rfl zddX7_stepWord_39 rfl
theorem dX7_stepWord_70 : decode cX7_stepWord 70 = .ok (.putfield 78, 3) := dq_get (L := lzddX7_stepWord_39) 18 rfl zddX7_stepWord_39 rfl
theorem dX7_stepWord_73 : decode cX7_stepWord 73 = .ok (.aload_n 0, 1) := dq_get (L := lzddX7_stepWord_39) 19 rfl zddX7_stepWord_39 rfl
def lzddX7_stepWord_74 : List (Nat × Instr × Nat) := [(74, .dup, 1), (75, .getfield 48, 3), (78, .iconst 1, 1), (79, .iadd, 1), (80, .putfield 48, 3), (83, .goto (-78), 3), (86, .aload_n 0, 1), (87, .getfield 48, 3), (90, .aload_n 0, 1), (91, .getfield 68, 3), (94, .isub, 1), (95, .ireturn, 1)]
theorem zddX7_stepWord_74 : dqW lzddX7_stepWord_74 (cX7_stepWord.data.toList.drop 74) 74 = true := by decide +kernel
theorem dX7_stepWord_74 : decode cX7_stepWord 74 = .ok (.dup, 1) := dq_get (L := lzddX7_stepWord_74) 0 rfl zddX7_stepWord_74 rfl
theorem dX7_stepWord_75 : decode cX7_stepWord 75 = .ok (.getfield 48, 3) := dq_get (L := lzddX7_stepWord_74) 1 rfl zddX7_stepWord_74 rfl
theorem dX7_stepWord_78 : decode cX7_stepWord 78 = .ok (.iconst 1, 1) := dq_get (L := lzddX7_stepWord_74) 2 rfl zddX7_stepWord_74 rfl
theorem dX7_stepWord_79 : decode cX7_stepWord 79 = .ok (.iadd, 1) := dq_get (L := lzddX7_stepWord_74) 3 rfl zddX7_stepWord_74 rfl
theorem dX7_stepWord_80 : decode cX7_stepWord 80 = .ok (.putfield 48, 3) := dq_get (L := lzddX7_stepWord_74) 4 rfl zddX7_stepWord_74 rfl
theorem dX7_stepWord_83 : decode cX7_stepWord 83 = .ok (.goto (-78), 3) := dq_get (L := lzddX7_stepWord_74) 5 rfl zddX7_stepWord_74 rfl
theorem dX7_stepWord_86 : decode cX7_stepWord 86 = .ok (.aload_n 0, 1) := dq_get (L := lzddX7_stepWord_74) 6 rfl zddX7_stepWord_74 rfl
theorem dX7_stepWord_87 : decode cX7_stepWord 87 = .ok (.getfield 48, 3) := dq_get (L := lzddX7_stepWord_74) 7 rfl zddX7_stepWord_74 rfl
theorem dX7_stepWord_90 : decode cX7_stepWord 90 = .ok (.aload_n 0, 1) := dq_get (L := lzddX7_stepWord_74) 8 rfl zddX7_stepWord_74 rfl
theorem dX7_stepWord_91 : decode cX7_stepWord 91 = .ok (.getfield 68, 3) := dq_get (L := lzddX7_stepWord_74) 9 rfl zddX7_stepWord_74 rfl
theorem dX7_stepWord_94 : decode cX7_stepWord 94 = .ok (.isub, 1) := dq_get (L := lzddX7_stepWord_74) 10 rfl zddX7_stepWord_74 rfl
theorem dX7_stepWord_95 : decode cX7_stepWord 95 = .ok (.ireturn, 1) := dq_get (L := lzddX7_stepWord_74) 11 rfl zddX7_stepWord_74 rfl
def lzddX7_takeComma_0 : List (Nat × Instr × Nat) := [(0, .aload_n 0, 1), (1, .getfield 58, 3), (4, .iconst 4, 1), (5, .if_icmp .eq 9, 3), (8, .aload_n 0, 1), (9, .iconst 1, 1), (10, .invokevirtual 64, 3), (13, .ireturn, 1), (14, .aload_n 0, 1), (15, .invokevirtual 51, 3), (18, .iconst 1, 1), (19, .ireturn, 1)]
theorem zddX7_takeComma_0 : dqW lzddX7_takeComma_0 (cX7_takeComma.data.toList.drop 0) 0 = true := by decide +kernel
theorem dX7_takeComma_0 : decode cX7_takeComma 0 = .ok (.aload_n 0, 1) := dq_get (L := lzddX7_takeComma_0) 0 rfl zddX7_takeComma_0 rfl
theorem dX7_takeComma_1 : decode cX7_takeComma 1 = .ok (.getfield 58, 3) := dq_get (L := lzddX7_takeComma_0) 1 rfl zddX7_takeComma_0 rfl
theorem dX7_takeComma_4 : decode cX7_takeComma 4 = .ok (.iconst 4, 1) := dq_get (L := lzddX7_takeComma_0) 2 rfl zddX7_takeComma_0 rfl
theorem dX7_takeComma_5 : decode cX7_takeComma 5 = .ok (.if_icmp .eq 9, 3) := dq_get (L := lzddX7_takeComma_0) 3 rfl zddX7_takeComma_0 rfl
theorem dX7_takeComma_8 : decode cX7_takeComma 8 = .ok (.aload_n 0, 1) := dq_get (L := lzddX7_takeComma_0) 4 rfl zddX7_takeComma_0 rfl
theorem dX7_takeComma_9 : decode cX7_takeComma 9 = .ok (.iconst 1, 1) := dq_get (L := lzddX7_takeComma_0) 5 rfl zddX7_takeComma_0 rfl
theorem dX7_takeComma_10 : decode cX7_takeComma 10 = .ok (.invokevirtual 64, 3) := dq_get (L := lzddX7_takeComma_0) 6 rfl zddX7_takeComma_0 rfl
theorem dX7_takeComma_13 : decode cX7_takeComma 13 = .ok (.ireturn, 1) := dq_get (L := lzddX7_takeComma_0) 7 rfl zddX7_takeComma_0 rfl
theorem dX7_takeComma_14 : decode cX7_takeComma 14 = .ok (.aload_n 0, 1) := dq_get (L := lzddX7_takeComma_0) 8 rfl zddX7_takeComma_0 rfl
theorem dX7_takeComma_15 : decode cX7_takeComma 15 = .ok (.invokevirtual 51, 3) := dq_get (L := lzddX7_takeComma_0) 9 rfl zddX7_takeComma_0 rfl
theorem dX7_takeComma_18 : decode cX7_takeComma 18 = .ok (.iconst 1, 1) := dq_get (L := lzddX7_takeComma_0) 10 rfl zddX7_takeComma_0 rfl
theorem dX7_takeComma_19 : decode cX7_takeComma 19 = .ok (.ireturn, 1) := dq_get (L := lzddX7_takeComma_0) 11 rfl zddX7_takeComma_0 rfl
def lzddX7_takeHut_0 : List (Nat × Instr × Nat) := [(0, .aload_n 0, 1), (1, .iconst 0, 1), (2, .aload_n 0, 1), (3, .getfield 22, 3), (6, .getfield 112, 3), (9, .iconst 1, 1), (10, .isub, 1), (11, .invokevirtual 115, 3), (14, .ireturn, 1)]
theorem zddX7_takeHut_0 : dqW lzddX7_takeHut_0 (cX7_takeHut.data.toList.drop 0) 0 = true := by decide +kernel
theorem dX7_takeHut_0 : decode cX7_takeHut 0 = .ok (.aload_n 0, 1) := dq_get (L := lzddX7_takeHut_0) 0 rfl zddX7_takeHut_0 rfl
theorem dX7_takeHut_1 : decode cX7_takeHut 1 = .ok (.iconst 0, 1) := dq_get (L := lzddX7_takeHut_0) 1 rfl zddX7_takeHut_0 rfl
theorem dX7_takeHut_2 : decode cX7_takeHut 2 = .ok (.aload_n 0, 1) := dq_get (L := lzddX7_takeHut_0) 2 rfl zddX7_takeHut_0 rfl
theorem dX7_takeHut_3 : decode cX7_takeHut 3 = .ok (.getfield 22, 3) := dq_get (L := lzddX7_takeHut_0) 3 rfl zddX7_takeHut_0 rfl
theorem dX7_takeHut_6 : decode cX7_takeHut 6 = .ok (.getfield 112, 3) := dq_get (L := lzddX7_takeHut_0) 4 rfl zddX7_takeHut_0 rfl
theorem dX7_takeHut_9 : decode cX7_takeHut 9 = .ok (.iconst 1, 1) := dq_get (L := lzddX7_takeHut_0) 5 rfl zddX7_takeHut_0 rfl
theorem dX7_takeHut_10 : decode cX7_takeHut 10 = .ok (.isub, 1) := dq_get (L := lzddX7_takeHut_0) 6 rfl zddX7_takeHut_0 rfl
theorem dX7_takeHut_11 : decode cX7_takeHut 11 = .ok (.invokevirtual 115, 3) := dq_get (L := lzddX7_takeHut_0) 7 rfl zddX7_takeHut_0 rfl
theorem dX7_takeHut_14 : decode cX7_takeHut 14 = .ok (.ireturn, 1) := dq_get (L := lzddX7_takeHut_0) 8 rfl zddX7_takeHut_0 rfl
def lzddX7_takeSpan_0 : List (Nat × Instr × Nat) := [(0, .aload_n 0, 1), (1, .iconst 0, 1), (2, .aload_n 0, 1), (3, .getfield 22, 3), (6, .getfield 118, 3), (9, .iconst 1, 1), (10, .isub, 1), (11, .invokevirtual 115, 3), (14, .ifCond .ne 5, 3), (17, .iconst 0, 1), (18, .ireturn, 1), (19, .aload_n 0, 1), (20, .aload_n 0, 1), (21, .getfield 109, 3), (24, .putfield 121, 3), (27, .aload_n 0, 1), (28, .ldc 124, 2), (30, .invokevirtual 126, 3), (33, .ifCond .eq 23, 3), (36, .aload_n 0, 1)]
theorem zddX7_takeSpan_0 : dqW lzddX7_takeSpan_0 (cX7_takeSpan.data.toList.drop 0) 0 = true := by decide +kernel
theorem dX7_takeSpan_0 : decode cX7_takeSpan 0 = .ok (.aload_n 0, 1) := dq_get (L := lzddX7_takeSpan_0) 0 rfl zddX7_takeSpan_0 rfl
theorem dX7_takeSpan_1 : decode cX7_takeSpan 1 = .ok (.iconst 0, 1) := dq_get (L := lzddX7_takeSpan_0) 1 rfl zddX7_takeSpan_0 rfl
theorem dX7_takeSpan_2 : decode cX7_takeSpan 2 = .ok (.aload_n 0, 1) := dq_get (L := lzddX7_takeSpan_0) 2 rfl zddX7_takeSpan_0 rfl
theorem dX7_takeSpan_3 : decode cX7_takeSpan 3 = .ok (.getfield 22, 3) := dq_get (L := lzddX7_takeSpan_0) 3 rfl zddX7_takeSpan_0 rfl
theorem dX7_takeSpan_6 : decode cX7_takeSpan 6 = .ok (.getfield 118, 3) := dq_get (L := lzddX7_takeSpan_0) 4 rfl zddX7_takeSpan_0 rfl
theorem dX7_takeSpan_9 : decode cX7_takeSpan 9 = .ok (.iconst 1, 1) := dq_get (L := lzddX7_takeSpan_0) 5 rfl zddX7_takeSpan_0 rfl
theorem dX7_takeSpan_10 : decode cX7_takeSpan 10 = .ok (.isub, 1) := dq_get (L := lzddX7_takeSpan_0) 6 rfl zddX7_takeSpan_0 rfl
theorem dX7_takeSpan_11 : decode cX7_takeSpan 11 = .ok (.invokevirtual 115, 3) := dq_get (L := lzddX7_takeSpan_0) 7 rfl zddX7_takeSpan_0 rfl
theorem dX7_takeSpan_14 : decode cX7_takeSpan 14 = .ok (.ifCond .ne 5, 3) := dq_get (L := lzddX7_takeSpan_0) 8 rfl zddX7_takeSpan_0 rfl
theorem dX7_takeSpan_17 : decode cX7_takeSpan 17 = .ok (.iconst 0, 1) := dq_get (L := lzddX7_takeSpan_0) 9 rfl zddX7_takeSpan_0 rfl
theorem dX7_takeSpan_18 : decode cX7_takeSpan 18 = .ok (.ireturn, 1) := dq_get (L := lzddX7_takeSpan_0) 10 rfl zddX7_takeSpan_0 rfl
theorem dX7_takeSpan_19 : decode cX7_takeSpan 19 = .ok (.aload_n 0, 1) := dq_get (L := lzddX7_takeSpan_0) 11 rfl zddX7_takeSpan_0 rfl
theorem dX7_takeSpan_20 : decode cX7_takeSpan 20 = .ok (.aload_n 0, 1) := dq_get (L := lzddX7_takeSpan_0) 12 rfl zddX7_takeSpan_0 rfl
theorem dX7_takeSpan_21 : decode cX7_takeSpan 21 = .ok (.getfield 109, 3) := dq_get (L := lzddX7_takeSpan_0) 13 rfl zddX7_takeSpan_0 rfl
theorem dX7_takeSpan_24 : decode cX7_takeSpan 24 = .ok (.putfield 121, 3) := dq_get (L := lzddX7_takeSpan_0) 14 rfl zddX7_takeSpan_0 rfl
theorem dX7_takeSpan_27 : decode cX7_takeSpan 27 = .ok (.aload_n 0, 1) := dq_get (L := lzddX7_takeSpan_0) 15 rfl zddX7_takeSpan_0 rfl
theorem dX7_takeSpan_28 : decode cX7_takeSpan 28 = .ok (.ldc 124, 2) := dq_get (L := lzddX7_takeSpan_0) 16 rfl zddX7_takeSpan_0 rfl
theorem dX7_takeSpan_30 : decode cX7_takeSpan 30 = .ok (.invokevirtual 126, 3) := dq_get (L := lzddX7_takeSpan_0) 17 rfl zddX7_takeSpan_0 rfl
theorem dX7_takeSpan_33 : decode cX7_takeSpan 33 = .ok (.ifCond .eq 23, 3) := dq_get (L := lzddX7_takeSpan_0) 18 rfl zddX7_takeSpan_0 rfl
theorem dX7_takeSpan_36 : decode cX7_takeSpan 36 = .ok (.aload_n 0, 1) := dq_get (L := lzddX7_takeSpan_0) 19 rfl zddX7_takeSpan_0 rfl
def lzddX7_takeSpan_37 : List (Nat × Instr × Nat) := [(37, .aload_n 0, 1), (38, .getfield 121, 3), (41, .iconst 1, 1), (42, .iadd, 1), (43, .aload_n 0, 1), (44, .getfield 22, 3), (47, .getfield 118, 3), (50, .invokevirtual 115, 3), (53, .ifCond .ne 5, 3), (56, .iconst 0, 1), (57, .ireturn, 1), (58, .aload_n 0, 1), (59, .aload_n 0, 1), (60, .getfield 109, 3), (63, .putfield 129, 3), (66, .iconst 1, 1), (67, .ireturn, 1)]
theorem zddX7_takeSpan_37 : dqW lzddX7_takeSpan_37 (cX7_takeSpan.data.toList.drop 37) 37 = true := by decide +kernel
theorem dX7_takeSpan_37 : decode cX7_takeSpan 37 = .ok (.aload_n 0, 1) := dq_get (L := lzddX7_takeSpan_37) 0 rfl zddX7_takeSpan_37 rfl
theorem dX7_takeSpan_38 : decode cX7_takeSpan 38 = .ok (.getfield 121, 3) := dq_get (L := lzddX7_takeSpan_37) 1 rfl zddX7_takeSpan_37 rfl
theorem dX7_takeSpan_41 : decode cX7_takeSpan 41 = .ok (.iconst 1, 1) := dq_get (L := lzddX7_takeSpan_37) 2 rfl zddX7_takeSpan_37 rfl
theorem dX7_takeSpan_42 : decode cX7_takeSpan 42 = .ok (.iadd, 1) := dq_get (L := lzddX7_takeSpan_37) 3 rfl zddX7_takeSpan_37 rfl
theorem dX7_takeSpan_43 : decode cX7_takeSpan 43 = .ok (.aload_n 0, 1) := dq_get (L := lzddX7_takeSpan_37) 4 rfl zddX7_takeSpan_37 rfl
theorem dX7_takeSpan_44 : decode cX7_takeSpan 44 = .ok (.getfield 22, 3) := dq_get (L := lzddX7_takeSpan_37) 5 rfl zddX7_takeSpan_37 rfl
theorem dX7_takeSpan_47 : decode cX7_takeSpan 47 = .ok (.getfield 118, 3) := dq_get (L := lzddX7_takeSpan_37) 6 rfl zddX7_takeSpan_37 rfl
theorem dX7_takeSpan_50 : decode cX7_takeSpan 50 = .ok (.invokevirtual 115, 3) := dq_get (L := lzddX7_takeSpan_37) 7 rfl zddX7_takeSpan_37 rfl
theorem dX7_takeSpan_53 : decode cX7_takeSpan 53 = .ok (.ifCond .ne 5, 3) := dq_get (L := lzddX7_takeSpan_37) 8 rfl zddX7_takeSpan_37 rfl
theorem dX7_takeSpan_56 : decode cX7_takeSpan 56 = .ok (.iconst 0, 1) := dq_get (L := lzddX7_takeSpan_37) 9 rfl zddX7_takeSpan_37 rfl
theorem dX7_takeSpan_57 : decode cX7_takeSpan 57 = .ok (.ireturn, 1) := dq_get (L := lzddX7_takeSpan_37) 10 rfl zddX7_takeSpan_37 rfl
theorem dX7_takeSpan_58 : decode cX7_takeSpan 58 = .ok (.aload_n 0, 1) := dq_get (L := lzddX7_takeSpan_37) 11 rfl zddX7_takeSpan_37 rfl
theorem dX7_takeSpan_59 : decode cX7_takeSpan 59 = .ok (.aload_n 0, 1) := dq_get (L := lzddX7_takeSpan_37) 12 rfl zddX7_takeSpan_37 rfl
theorem dX7_takeSpan_60 : decode cX7_takeSpan 60 = .ok (.getfield 109, 3) := dq_get (L := lzddX7_takeSpan_37) 13 rfl zddX7_takeSpan_37 rfl
theorem dX7_takeSpan_63 : decode cX7_takeSpan 63 = .ok (.putfield 129, 3) := dq_get (L := lzddX7_takeSpan_37) 14 rfl zddX7_takeSpan_37 rfl
theorem dX7_takeSpan_66 : decode cX7_takeSpan 66 = .ok (.iconst 1, 1) := dq_get (L := lzddX7_takeSpan_37) 15 rfl zddX7_takeSpan_37 rfl
theorem dX7_takeSpan_67 : decode cX7_takeSpan 67 = .ok (.ireturn, 1) := dq_get (L := lzddX7_takeSpan_37) 16 rfl zddX7_takeSpan_37 rfl
def lzddX7_takeWhole_0 : List (Nat × Instr × Nat) := [(0, .aload_n 0, 1), (1, .iload_n 1, 1), (2, .iload_n 2, 1), (3, .invokevirtual 105, 3), (6, .ifCond .ne 5, 3), (9, .iconst 0, 1), (10, .ireturn, 1), (11, .aload_n 0, 1), (12, .aload_n 0, 1), (13, .getfield 86, 3), (16, .putfield 109, 3), (19, .aload_n 0, 1), (20, .invokevirtual 51, 3), (23, .iconst 1, 1), (24, .ireturn, 1)]
theorem zddX7_takeWhole_0 : dqW lzddX7_takeWhole_0 (cX7_takeWhole.data.toList.drop 0) 0 = true := by decide +kernel
theorem dX7_takeWhole_0 : decode cX7_takeWhole 0 = .ok (.aload_n 0, 1) := dq_get (L := lzddX7_takeWhole_0) 0 rfl zddX7_takeWhole_0 rfl
theorem dX7_takeWhole_1 : decode cX7_takeWhole 1 = .ok (.iload_n 1, 1) := dq_get (L := lzddX7_takeWhole_0) 1 rfl zddX7_takeWhole_0 rfl
theorem dX7_takeWhole_2 : decode cX7_takeWhole 2 = .ok (.iload_n 2, 1) := dq_get (L := lzddX7_takeWhole_0) 2 rfl zddX7_takeWhole_0 rfl
theorem dX7_takeWhole_3 : decode cX7_takeWhole 3 = .ok (.invokevirtual 105, 3) := dq_get (L := lzddX7_takeWhole_0) 3 rfl zddX7_takeWhole_0 rfl
theorem dX7_takeWhole_6 : decode cX7_takeWhole 6 = .ok (.ifCond .ne 5, 3) := dq_get (L := lzddX7_takeWhole_0) 4 rfl zddX7_takeWhole_0 rfl
theorem dX7_takeWhole_9 : decode cX7_takeWhole 9 = .ok (.iconst 0, 1) := dq_get (L := lzddX7_takeWhole_0) 5 rfl zddX7_takeWhole_0 rfl
theorem dX7_takeWhole_10 : decode cX7_takeWhole 10 = .ok (.ireturn, 1) := dq_get (L := lzddX7_takeWhole_0) 6 rfl zddX7_takeWhole_0 rfl
theorem dX7_takeWhole_11 : decode cX7_takeWhole 11 = .ok (.aload_n 0, 1) := dq_get (L := lzddX7_takeWhole_0) 7 rfl zddX7_takeWhole_0 rfl
theorem dX7_takeWhole_12 : decode cX7_takeWhole 12 = .ok (.aload_n 0, 1) := dq_get (L := lzddX7_takeWhole_0) 8 rfl zddX7_takeWhole_0 rfl
theorem dX7_takeWhole_13 : decode cX7_takeWhole 13 = .ok (.getfield 86, 3) := dq_get (L := lzddX7_takeWhole_0) 9 rfl zddX7_takeWhole_0 rfl
theorem dX7_takeWhole_16 : decode cX7_takeWhole 16 = .ok (.putfield 109, 3) := dq_get (L := lzddX7_takeWhole_0) 10 rfl zddX7_takeWhole_0 rfl
theorem dX7_takeWhole_19 : decode cX7_takeWhole 19 = .ok (.aload_n 0, 1) := dq_get (L := lzddX7_takeWhole_0) 11 rfl zddX7_takeWhole_0 rfl
theorem dX7_takeWhole_20 : decode cX7_takeWhole 20 = .ok (.invokevirtual 51, 3) := dq_get (L := lzddX7_takeWhole_0) 12 rfl zddX7_takeWhole_0 rfl
theorem dX7_takeWhole_23 : decode cX7_takeWhole 23 = .ok (.iconst 1, 1) := dq_get (L := lzddX7_takeWhole_0) 13 rfl zddX7_takeWhole_0 rfl
theorem dX7_takeWhole_24 : decode cX7_takeWhole 24 = .ok (.ireturn, 1) := dq_get (L := lzddX7_takeWhole_0) 14 rfl zddX7_takeWhole_0 rfl
def lzddX7_takeWord_0 : List (Nat × Instr × Nat) := [(0, .aload_n 0, 1), (1, .aload_n 1, 1), (2, .invokevirtual 101, 3), (5, .ifCond .ne 9, 3), (8, .aload_n 0, 1), (9, .iconst 1, 1), (10, .invokevirtual 64, 3), (13, .ireturn, 1), (14, .aload_n 0, 1), (15, .invokevirtual 51, 3), (18, .iconst 1, 1), (19, .ireturn, 1)]
theorem zddX7_takeWord_0 : dqW lzddX7_takeWord_0 (cX7_takeWord.data.toList.drop 0) 0 = true := by decide +kernel
theorem dX7_takeWord_0 : decode cX7_takeWord 0 = .ok (.aload_n 0, 1) := dq_get (L := lzddX7_takeWord_0) 0 rfl zddX7_takeWord_0 rfl
theorem dX7_takeWord_1 : decode cX7_takeWord 1 = .ok (.aload_n 1, 1) := dq_get (L := lzddX7_takeWord_0) 1 rfl zddX7_takeWord_0 rfl
theorem dX7_takeWord_2 : decode cX7_takeWord 2 = .ok (.invokevirtual 101, 3) := dq_get (L := lzddX7_takeWord_0) 2 rfl zddX7_takeWord_0 rfl
theorem dX7_takeWord_5 : decode cX7_takeWord 5 = .ok (.ifCond .ne 9, 3) := dq_get (L := lzddX7_takeWord_0) 3 rfl zddX7_takeWord_0 rfl
theorem dX7_takeWord_8 : decode cX7_takeWord 8 = .ok (.aload_n 0, 1) := dq_get (L := lzddX7_takeWord_0) 4 rfl zddX7_takeWord_0 rfl
theorem dX7_takeWord_9 : decode cX7_takeWord 9 = .ok (.iconst 1, 1) := dq_get (L := lzddX7_takeWord_0) 5 rfl zddX7_takeWord_0 rfl
theorem dX7_takeWord_10 : decode cX7_takeWord 10 = .ok (.invokevirtual 64, 3) := dq_get (L := lzddX7_takeWord_0) 6 rfl zddX7_takeWord_0 rfl
theorem dX7_takeWord_13 : decode cX7_takeWord 13 = .ok (.ireturn, 1) := dq_get (L := lzddX7_takeWord_0) 7 rfl zddX7_takeWord_0 rfl
theorem dX7_takeWord_14 : decode cX7_takeWord 14 = .ok (.aload_n 0, 1) := dq_get (L := lzddX7_takeWord_0) 8 rfl zddX7_takeWord_0 rfl
theorem dX7_takeWord_15 : decode cX7_takeWord 15 = .ok (.invokevirtual 51, 3) := dq_get (L := lzddX7_takeWord_0) 9 rfl zddX7_takeWord_0 rfl
theorem dX7_takeWord_18 : decode cX7_takeWord 18 = .ok (.iconst 1, 1) := dq_get (L := lzddX7_takeWord_0) 10 rfl zddX7_takeWord_0 rfl
theorem dX7_takeWord_19 : decode cX7_takeWord 19 = .ok (.ireturn, 1) := dq_get (L := lzddX7_takeWord_0) 11 rfl zddX7_takeWord_0 rfl
def lzddX7_turnerKind_0 : List (Nat × Instr × Nat) := [(0, .aload_n 0, 1), (1, .ldc_w 268, 3), (4, .invokevirtual 101, 3), (7, .ifCond .eq 5, 3), (10, .iconst 0, 1), (11, .ireturn, 1), (12, .aload_n 0, 1), (13, .ldc_w 270, 3), (16, .invokevirtual 101, 3), (19, .ifCond .eq 5, 3), (22, .iconst 1, 1), (23, .ireturn, 1), (24, .aload_n 0, 1), (25, .ldc_w 272, 3), (28, .invokevirtual 101, 3), (31, .ifCond .eq 5, 3), (34, .iconst 2, 1), (35, .ireturn, 1), (36, .aload_n 0, 1), (37, .ldc 143, 2)]
theorem zddX7_turnerKind_0 : dqW lzddX7_turnerKind_0 (cX7_turnerKind.data.toList.drop 0) 0 = true := by decide +kernel
theorem dX7_turnerKind_0 : decode cX7_turnerKind 0 = .ok (.aload_n 0, 1) := dq_get (L := lzddX7_turnerKind_0) 0 rfl zddX7_turnerKind_0 rfl
theorem dX7_turnerKind_1 : decode cX7_turnerKind 1 = .ok (.ldc_w 268, 3) := dq_get (L := lzddX7_turnerKind_0) 1 rfl zddX7_turnerKind_0 rfl
theorem dX7_turnerKind_4 : decode cX7_turnerKind 4 = .ok (.invokevirtual 101, 3) := dq_get (L := lzddX7_turnerKind_0) 2 rfl zddX7_turnerKind_0 rfl
theorem dX7_turnerKind_7 : decode cX7_turnerKind 7 = .ok (.ifCond .eq 5, 3) := dq_get (L := lzddX7_turnerKind_0) 3 rfl zddX7_turnerKind_0 rfl
theorem dX7_turnerKind_10 : decode cX7_turnerKind 10 = .ok (.iconst 0, 1) := dq_get (L := lzddX7_turnerKind_0) 4 rfl zddX7_turnerKind_0 rfl
theorem dX7_turnerKind_11 : decode cX7_turnerKind 11 = .ok (.ireturn, 1) := dq_get (L := lzddX7_turnerKind_0) 5 rfl zddX7_turnerKind_0 rfl
theorem dX7_turnerKind_12 : decode cX7_turnerKind 12 = .ok (.aload_n 0, 1) := dq_get (L := lzddX7_turnerKind_0) 6 rfl zddX7_turnerKind_0 rfl
theorem dX7_turnerKind_13 : decode cX7_turnerKind 13 = .ok (.ldc_w 270, 3) := dq_get (L := lzddX7_turnerKind_0) 7 rfl zddX7_turnerKind_0 rfl
theorem dX7_turnerKind_16 : decode cX7_turnerKind 16 = .ok (.invokevirtual 101, 3) := dq_get (L := lzddX7_turnerKind_0) 8 rfl zddX7_turnerKind_0 rfl
theorem dX7_turnerKind_19 : decode cX7_turnerKind 19 = .ok (.ifCond .eq 5, 3) := dq_get (L := lzddX7_turnerKind_0) 9 rfl zddX7_turnerKind_0 rfl
theorem dX7_turnerKind_22 : decode cX7_turnerKind 22 = .ok (.iconst 1, 1) := dq_get (L := lzddX7_turnerKind_0) 10 rfl zddX7_turnerKind_0 rfl
theorem dX7_turnerKind_23 : decode cX7_turnerKind 23 = .ok (.ireturn, 1) := dq_get (L := lzddX7_turnerKind_0) 11 rfl zddX7_turnerKind_0 rfl
theorem dX7_turnerKind_24 : decode cX7_turnerKind 24 = .ok (.aload_n 0, 1) := dq_get (L := lzddX7_turnerKind_0) 12 rfl zddX7_turnerKind_0 rfl
theorem dX7_turnerKind_25 : decode cX7_turnerKind 25 = .ok (.ldc_w 272, 3) := dq_get (L := lzddX7_turnerKind_0) 13 rfl zddX7_turnerKind_0 rfl
theorem dX7_turnerKind_28 : decode cX7_turnerKind 28 = .ok (.invokevirtual 101, 3) := dq_get (L := lzddX7_turnerKind_0) 14 rfl zddX7_turnerKind_0 rfl
theorem dX7_turnerKind_31 : decode cX7_turnerKind 31 = .ok (.ifCond .eq 5, 3) := dq_get (L := lzddX7_turnerKind_0) 15 rfl zddX7_turnerKind_0 rfl
theorem dX7_turnerKind_34 : decode cX7_turnerKind 34 = .ok (.iconst 2, 1) := dq_get (L := lzddX7_turnerKind_0) 16 rfl zddX7_turnerKind_0 rfl
theorem dX7_turnerKind_35 : decode cX7_turnerKind 35 = .ok (.ireturn, 1) := dq_get (L := lzddX7_turnerKind_0) 17 rfl zddX7_turnerKind_0 rfl
theorem dX7_turnerKind_36 : decode cX7_turnerKind 36 = .ok (.aload_n 0, 1) := dq_get (L := lzddX7_turnerKind_0) 18 rfl zddX7_turnerKind_0 rfl
theorem dX7_turnerKind_37 : decode cX7_turnerKind 37 = .ok (.ldc 143, 2) := dq_get (L := lzddX7_turnerKind_0) 19 rfl zddX7_turnerKind_0 rfl
def lzddX7_turnerKind_39 : List (Nat × Instr × Nat) := [(39, .invokevirtual 101, 3), (42, .ifCond .eq 7, 3), (45, .iconst 3, 1), (46, .goto 4, 3), (49, .iconst (-1), 1), (50, .ireturn, 1)]
theorem zddX7_turnerKind_39 : dqW lzddX7_turnerKind_39 (cX7_turnerKind.data.toList.drop 39) 39 = true := by decide +kernel
theorem dX7_turnerKind_39 : decode cX7_turnerKind 39 = .ok (.invokevirtual 101, 3) := dq_get (L := lzddX7_turnerKind_39) 0 rfl zddX7_turnerKind_39 rfl
theorem dX7_turnerKind_42 : decode cX7_turnerKind 42 = .ok (.ifCond .eq 7, 3) := dq_get (L := lzddX7_turnerKind_39) 1 rfl zddX7_turnerKind_39 rfl
theorem dX7_turnerKind_45 : decode cX7_turnerKind 45 = .ok (.iconst 3, 1) := dq_get (L := lzddX7_turnerKind_39) 2 rfl zddX7_turnerKind_39 rfl
theorem dX7_turnerKind_46 : decode cX7_turnerKind 46 = .ok (.goto 4, 3) := dq_get (L := lzddX7_turnerKind_39) 3 rfl zddX7_turnerKind_39 rfl
theorem dX7_turnerKind_49 : decode cX7_turnerKind 49 = .ok (.iconst (-1), 1) := dq_get (L := lzddX7_turnerKind_39) 4 rfl zddX7_turnerKind_39 rfl
theorem dX7_turnerKind_50 : decode cX7_turnerKind 50 = .ok (.ireturn, 1) := dq_get (L := lzddX7_turnerKind_39) 5 rfl zddX7_turnerKind_39 rfl
def lzddX8_build_0 : List (Nat × Instr × Nat) := [(0, .aload_n 0, 1), (1, .aload_n 1, 1), (2, .getfield 40, 3), (5, .putfield 46, 3), (8, .aload_n 0, 1), (9, .iconst 1, 1), (10, .aload_n 1, 1), (11, .getfield 47, 3), (14, .ishl, 1), (15, .iconst 1, 1), (16, .isub, 1), (17, .putfield 50, 3), (20, .aload_n 0, 1), (21, .invokevirtual 53, 3), (24, .iconst 0, 1), (25, .istore 4, 2), (27, .iload 4, 2), (29, .aload_n 1, 1), (30, .getfield 56, 3), (33, .if_icmp .ge 26, 3)]
theorem zddX8_build_0 : dqW lzddX8_build_0 (cX8_build.data.toList.drop 0) 0 = true := by decide +kernel
theorem dX8_build_0 : decode cX8_build 0 = .ok (.aload_n 0, 1) := dq_get (L := lzddX8_build_0) 0 rfl zddX8_build_0 rfl
theorem dX8_build_1 : decode cX8_build 1 = .ok (.aload_n 1, 1) := dq_get (L := lzddX8_build_0) 1 rfl zddX8_build_0 rfl
theorem dX8_build_2 : decode cX8_build 2 = .ok (.getfield 40, 3) := dq_get (L := lzddX8_build_0) 2 rfl zddX8_build_0 rfl
theorem dX8_build_5 : decode cX8_build 5 = .ok (.putfield 46, 3) := dq_get (L := lzddX8_build_0) 3 rfl zddX8_build_0 rfl
theorem dX8_build_8 : decode cX8_build 8 = .ok (.aload_n 0, 1) := dq_get (L := lzddX8_build_0) 4 rfl zddX8_build_0 rfl
theorem dX8_build_9 : decode cX8_build 9 = .ok (.iconst 1, 1) := dq_get (L := lzddX8_build_0) 5 rfl zddX8_build_0 rfl
theorem dX8_build_10 : decode cX8_build 10 = .ok (.aload_n 1, 1) := dq_get (L := lzddX8_build_0) 6 rfl zddX8_build_0 rfl
theorem dX8_build_11 : decode cX8_build 11 = .ok (.getfield 47, 3) := dq_get (L := lzddX8_build_0) 7 rfl zddX8_build_0 rfl
theorem dX8_build_14 : decode cX8_build 14 = .ok (.ishl, 1) := dq_get (L := lzddX8_build_0) 8 rfl zddX8_build_0 rfl
theorem dX8_build_15 : decode cX8_build 15 = .ok (.iconst 1, 1) := dq_get (L := lzddX8_build_0) 9 rfl zddX8_build_0 rfl
theorem dX8_build_16 : decode cX8_build 16 = .ok (.isub, 1) := dq_get (L := lzddX8_build_0) 10 rfl zddX8_build_0 rfl
theorem dX8_build_17 : decode cX8_build 17 = .ok (.putfield 50, 3) := dq_get (L := lzddX8_build_0) 11 rfl zddX8_build_0 rfl
theorem dX8_build_20 : decode cX8_build 20 = .ok (.aload_n 0, 1) := dq_get (L := lzddX8_build_0) 12 rfl zddX8_build_0 rfl
theorem dX8_build_21 : decode cX8_build 21 = .ok (.invokevirtual 53, 3) := dq_get (L := lzddX8_build_0) 13 rfl zddX8_build_0 rfl
theorem dX8_build_24 : decode cX8_build 24 = .ok (.iconst 0, 1) := dq_get (L := lzddX8_build_0) 14 rfl zddX8_build_0 rfl
theorem dX8_build_25 : decode cX8_build 25 = .ok (.istore 4, 2) := dq_get (L := lzddX8_build_0) 15 rfl zddX8_build_0 rfl
theorem dX8_build_27 : decode cX8_build 27 = .ok (.iload 4, 2) := dq_get (L := lzddX8_build_0) 16 rfl zddX8_build_0 rfl
theorem dX8_build_29 : decode cX8_build 29 = .ok (.aload_n 1, 1) := dq_get (L := lzddX8_build_0) 17 rfl zddX8_build_0 rfl
theorem dX8_build_30 : decode cX8_build 30 = .ok (.getfield 56, 3) := dq_get (L := lzddX8_build_0) 18 rfl zddX8_build_0 rfl
theorem dX8_build_33 : decode cX8_build 33 = .ok (.if_icmp .ge 26, 3) := dq_get (L := lzddX8_build_0) 19 rfl zddX8_build_0 rfl
def lzddX8_build_36 : List (Nat × Instr × Nat) := [(36, .iload 4, 2), (38, .iload_n 3, 1), (39, .if_icmp .eq 14, 3), (42, .aload_n 0, 1), (43, .aload_n 1, 1), (44, .getfield 59, 3), (47, .iload 4, 2), (49, .aaload, 1), (50, .invokevirtual 63, 3), (53, .iinc 4 1, 3), (56, .goto (-29), 3), (59, .iconst 0, 1), (60, .istore 4, 2), (62, .iload 4, 2), (64, .aload_n 2, 1), (65, .getfield 67, 3), (68, .if_icmp .ge 38, 3), (71, .aload_n 1, 1), (72, .getfield 56, 3), (75, .iload 4, 2)]
theorem zddX8_build_36 : dqW lzddX8_build_36 (cX8_build.data.toList.drop 36) 36 = true := by decide +kernel
theorem dX8_build_36 : decode cX8_build 36 = .ok (.iload 4, 2) := dq_get (L := lzddX8_build_36) 0 rfl zddX8_build_36 rfl
theorem dX8_build_38 : decode cX8_build 38 = .ok (.iload_n 3, 1) := dq_get (L := lzddX8_build_36) 1 rfl zddX8_build_36 rfl
theorem dX8_build_39 : decode cX8_build 39 = .ok (.if_icmp .eq 14, 3) := dq_get (L := lzddX8_build_36) 2 rfl zddX8_build_36 rfl
theorem dX8_build_42 : decode cX8_build 42 = .ok (.aload_n 0, 1) := dq_get (L := lzddX8_build_36) 3 rfl zddX8_build_36 rfl
theorem dX8_build_43 : decode cX8_build 43 = .ok (.aload_n 1, 1) := dq_get (L := lzddX8_build_36) 4 rfl zddX8_build_36 rfl
theorem dX8_build_44 : decode cX8_build 44 = .ok (.getfield 59, 3) := dq_get (L := lzddX8_build_36) 5 rfl zddX8_build_36 rfl
theorem dX8_build_47 : decode cX8_build 47 = .ok (.iload 4, 2) := dq_get (L := lzddX8_build_36) 6 rfl zddX8_build_36 rfl
theorem dX8_build_49 : decode cX8_build 49 = .ok (.aaload, 1) := dq_get (L := lzddX8_build_36) 7 rfl zddX8_build_36 rfl
theorem dX8_build_50 : decode cX8_build 50 = .ok (.invokevirtual 63, 3) := dq_get (L := lzddX8_build_36) 8 rfl zddX8_build_36 rfl
theorem dX8_build_53 : decode cX8_build 53 = .ok (.iinc 4 1, 3) := dq_get (L := lzddX8_build_36) 9 rfl zddX8_build_36 rfl
theorem dX8_build_56 : decode cX8_build 56 = .ok (.goto (-29), 3) := dq_get (L := lzddX8_build_36) 10 rfl zddX8_build_36 rfl
theorem dX8_build_59 : decode cX8_build 59 = .ok (.iconst 0, 1) := dq_get (L := lzddX8_build_36) 11 rfl zddX8_build_36 rfl
theorem dX8_build_60 : decode cX8_build 60 = .ok (.istore 4, 2) := dq_get (L := lzddX8_build_36) 12 rfl zddX8_build_36 rfl
theorem dX8_build_62 : decode cX8_build 62 = .ok (.iload 4, 2) := dq_get (L := lzddX8_build_36) 13 rfl zddX8_build_36 rfl
theorem dX8_build_64 : decode cX8_build 64 = .ok (.aload_n 2, 1) := dq_get (L := lzddX8_build_36) 14 rfl zddX8_build_36 rfl
theorem dX8_build_65 : decode cX8_build 65 = .ok (.getfield 67, 3) := dq_get (L := lzddX8_build_36) 15 rfl zddX8_build_36 rfl
theorem dX8_build_68 : decode cX8_build 68 = .ok (.if_icmp .ge 38, 3) := dq_get (L := lzddX8_build_36) 16 rfl zddX8_build_36 rfl
theorem dX8_build_71 : decode cX8_build 71 = .ok (.aload_n 1, 1) := dq_get (L := lzddX8_build_36) 17 rfl zddX8_build_36 rfl
theorem dX8_build_72 : decode cX8_build 72 = .ok (.getfield 56, 3) := dq_get (L := lzddX8_build_36) 18 rfl zddX8_build_36 rfl
theorem dX8_build_75 : decode cX8_build 75 = .ok (.iload 4, 2) := dq_get (L := lzddX8_build_36) 19 rfl zddX8_build_36 rfl
def lzddX8_build_77 : List (Nat × Instr × Nat) := [(77, .iadd, 1), (78, .iload_n 3, 1), (79, .if_icmp .eq 21, 3), (82, .aload_n 0, 1), (83, .aload_n 2, 1), (84, .getfield 72, 3), (87, .iload 4, 2), (89, .iaload, 1), (90, .aload_n 2, 1), (91, .getfield 75, 3), (94, .iload 4, 2), (96, .iaload, 1), (97, .invokevirtual 78, 3), (100, .iinc 4 1, 3), (103, .goto (-41), 3), (106, .aload_n 0, 1), (107, .invokevirtual 82, 3), (110, .aload_n 0, 1), (111, .aload_n 1, 1), (112, .getfield 85, 3)]
theorem zddX8_build_77 : dqW lzddX8_build_77 (cX8_build.data.toList.drop 77) 77 = true := by decide +kernel
theorem dX8_build_77 : decode cX8_build 77 = .ok (.iadd, 1) := dq_get (L := lzddX8_build_77) 0 rfl zddX8_build_77 rfl
theorem dX8_build_78 : decode cX8_build 78 = .ok (.iload_n 3, 1) := dq_get (L := lzddX8_build_77) 1 rfl zddX8_build_77 rfl
theorem dX8_build_79 : decode cX8_build 79 = .ok (.if_icmp .eq 21, 3) := dq_get (L := lzddX8_build_77) 2 rfl zddX8_build_77 rfl
theorem dX8_build_82 : decode cX8_build 82 = .ok (.aload_n 0, 1) := dq_get (L := lzddX8_build_77) 3 rfl zddX8_build_77 rfl
theorem dX8_build_83 : decode cX8_build 83 = .ok (.aload_n 2, 1) := dq_get (L := lzddX8_build_77) 4 rfl zddX8_build_77 rfl
theorem dX8_build_84 : decode cX8_build 84 = .ok (.getfield 72, 3) := dq_get (L := lzddX8_build_77) 5 rfl zddX8_build_77 rfl
theorem dX8_build_87 : decode cX8_build 87 = .ok (.iload 4, 2) := dq_get (L := lzddX8_build_77) 6 rfl zddX8_build_77 rfl
theorem dX8_build_89 : decode cX8_build 89 = .ok (.iaload, 1) := dq_get (L := lzddX8_build_77) 7 rfl zddX8_build_77 rfl
theorem dX8_build_90 : decode cX8_build 90 = .ok (.aload_n 2, 1) := dq_get (L := lzddX8_build_77) 8 rfl zddX8_build_77 rfl
theorem dX8_build_91 : decode cX8_build 91 = .ok (.getfield 75, 3) := dq_get (L := lzddX8_build_77) 9 rfl zddX8_build_77 rfl
theorem dX8_build_94 : decode cX8_build 94 = .ok (.iload 4, 2) := dq_get (L := lzddX8_build_77) 10 rfl zddX8_build_77 rfl
theorem dX8_build_96 : decode cX8_build 96 = .ok (.iaload, 1) := dq_get (L := lzddX8_build_77) 11 rfl zddX8_build_77 rfl
theorem dX8_build_97 : decode cX8_build 97 = .ok (.invokevirtual 78, 3) := dq_get (L := lzddX8_build_77) 12 rfl zddX8_build_77 rfl
theorem dX8_build_100 : decode cX8_build 100 = .ok (.iinc 4 1, 3) := dq_get (L := lzddX8_build_77) 13 rfl zddX8_build_77 rfl
theorem dX8_build_103 : decode cX8_build 103 = .ok (.goto (-41), 3) := dq_get (L := lzddX8_build_77) 14 rfl zddX8_build_77 rfl
theorem dX8_build_106 : decode cX8_build 106 = .ok (.aload_n 0, 1) := dq_get (L := lzddX8_build_77) 15 rfl zddX8_build_77 rfl
theorem dX8_build_107 : decode cX8_build 107 = .ok (.invokevirtual 82, 3) := dq_get (L := lzddX8_build_77) 16 rfl zddX8_build_77 rfl
theorem dX8_build_110 : decode cX8_build 110 = .ok (.aload_n 0, 1) := dq_get (L := lzddX8_build_77) 17 rfl zddX8_build_77 rfl
theorem dX8_build_111 : decode cX8_build 111 = .ok (.aload_n 1, 1) := dq_get (L := lzddX8_build_77) 18 rfl zddX8_build_77 rfl
theorem dX8_build_112 : decode cX8_build 112 = .ok (.getfield 85, 3) := dq_get (L := lzddX8_build_77) 19 rfl zddX8_build_77 rfl
def lzddX8_build_115 : List (Nat × Instr × Nat) := [(115, .invokevirtual 89, 3), (118, .return_, 1)]
theorem zddX8_build_115 : dqW lzddX8_build_115 (cX8_build.data.toList.drop 115) 115 = true := by decide +kernel
theorem dX8_build_115 : decode cX8_build 115 = .ok (.invokevirtual 89, 3) := dq_get (L := lzddX8_build_115) 0 rfl zddX8_build_115 rfl
theorem dX8_build_118 : decode cX8_build 118 = .ok (.return_, 1) := dq_get (L := lzddX8_build_115) 1 rfl zddX8_build_115 rfl
def lzddX8_crackingHuts_0 : List (Nat × Instr × Nat) := [(0, .aload_n 0, 1), (1, .getfield 15, 3), (4, .iload_n 1, 1), (5, .baload, 1), (6, .ifCond .eq 28, 3), (9, .aload_n 0, 1), (10, .getfield 9, 3), (13, .iload_n 1, 1), (14, .baload, 1), (15, .ifCond .ne 19, 3), (18, .aload_n 0, 1), (19, .getfield 50, 3), (22, .aload_n 0, 1), (23, .getfield 21, 3), (26, .iload_n 1, 1), (27, .iaload, 1), (28, .iconst (-1), 1), (29, .ixor, 1), (30, .iand, 1), (31, .goto 4, 3)]
theorem zddX8_crackingHuts_0 : dqW lzddX8_crackingHuts_0 (cX8_crackingHuts.data.toList.drop 0) 0 = true := by decide +kernel
theorem dX8_crackingHuts_0 : decode cX8_crackingHuts 0 = .ok (.aload_n 0, 1) := dq_get (L := lzddX8_crackingHuts_0) 0 rfl zddX8_crackingHuts_0 rfl
theorem dX8_crackingHuts_1 : decode cX8_crackingHuts 1 = .ok (.getfield 15, 3) := dq_get (L := lzddX8_crackingHuts_0) 1 rfl zddX8_crackingHuts_0 rfl
theorem dX8_crackingHuts_4 : decode cX8_crackingHuts 4 = .ok (.iload_n 1, 1) := dq_get (L := lzddX8_crackingHuts_0) 2 rfl zddX8_crackingHuts_0 rfl
theorem dX8_crackingHuts_5 : decode cX8_crackingHuts 5 = .ok (.baload, 1) := dq_get (L := lzddX8_crackingHuts_0) 3 rfl zddX8_crackingHuts_0 rfl
theorem dX8_crackingHuts_6 : decode cX8_crackingHuts 6 = .ok (.ifCond .eq 28, 3) := dq_get (L := lzddX8_crackingHuts_0) 4 rfl zddX8_crackingHuts_0 rfl
theorem dX8_crackingHuts_9 : decode cX8_crackingHuts 9 = .ok (.aload_n 0, 1) := dq_get (L := lzddX8_crackingHuts_0) 5 rfl zddX8_crackingHuts_0 rfl
theorem dX8_crackingHuts_10 : decode cX8_crackingHuts 10 = .ok (.getfield 9, 3) := dq_get (L := lzddX8_crackingHuts_0) 6 rfl zddX8_crackingHuts_0 rfl
theorem dX8_crackingHuts_13 : decode cX8_crackingHuts 13 = .ok (.iload_n 1, 1) := dq_get (L := lzddX8_crackingHuts_0) 7 rfl zddX8_crackingHuts_0 rfl
theorem dX8_crackingHuts_14 : decode cX8_crackingHuts 14 = .ok (.baload, 1) := dq_get (L := lzddX8_crackingHuts_0) 8 rfl zddX8_crackingHuts_0 rfl
theorem dX8_crackingHuts_15 : decode cX8_crackingHuts 15 = .ok (.ifCond .ne 19, 3) := dq_get (L := lzddX8_crackingHuts_0) 9 rfl zddX8_crackingHuts_0 rfl
theorem dX8_crackingHuts_18 : decode cX8_crackingHuts 18 = .ok (.aload_n 0, 1) := dq_get (L := lzddX8_crackingHuts_0) 10 rfl zddX8_crackingHuts_0 rfl
theorem dX8_crackingHuts_19 : decode cX8_crackingHuts 19 = .ok (.getfield 50, 3) := dq_get (L := lzddX8_crackingHuts_0) 11 rfl zddX8_crackingHuts_0 rfl
theorem dX8_crackingHuts_22 : decode cX8_crackingHuts 22 = .ok (.aload_n 0, 1) := dq_get (L := lzddX8_crackingHuts_0) 12 rfl zddX8_crackingHuts_0 rfl
theorem dX8_crackingHuts_23 : decode cX8_crackingHuts 23 = .ok (.getfield 21, 3) := dq_get (L := lzddX8_crackingHuts_0) 13 rfl zddX8_crackingHuts_0 rfl
theorem dX8_crackingHuts_26 : decode cX8_crackingHuts 26 = .ok (.iload_n 1, 1) := dq_get (L := lzddX8_crackingHuts_0) 14 rfl zddX8_crackingHuts_0 rfl
theorem dX8_crackingHuts_27 : decode cX8_crackingHuts 27 = .ok (.iaload, 1) := dq_get (L := lzddX8_crackingHuts_0) 15 rfl zddX8_crackingHuts_0 rfl
theorem dX8_crackingHuts_28 : decode cX8_crackingHuts 28 = .ok (.iconst (-1), 1) := dq_get (L := lzddX8_crackingHuts_0) 16 rfl zddX8_crackingHuts_0 rfl
theorem dX8_crackingHuts_29 : decode cX8_crackingHuts 29 = .ok (.ixor, 1) := dq_get (L := lzddX8_crackingHuts_0) 17 rfl zddX8_crackingHuts_0 rfl
theorem dX8_crackingHuts_30 : decode cX8_crackingHuts 30 = .ok (.iand, 1) := dq_get (L := lzddX8_crackingHuts_0) 18 rfl zddX8_crackingHuts_0 rfl
theorem dX8_crackingHuts_31 : decode cX8_crackingHuts 31 = .ok (.goto 4, 3) := dq_get (L := lzddX8_crackingHuts_0) 19 rfl zddX8_crackingHuts_0 rfl
def lzddX8_crackingHuts_34 : List (Nat × Instr × Nat) := [(34, .iconst 0, 1), (35, .ireturn, 1)]
theorem zddX8_crackingHuts_34 : dqW lzddX8_crackingHuts_34 (cX8_crackingHuts.data.toList.drop 34) 34 = true := by decide +kernel
theorem dX8_crackingHuts_34 : decode cX8_crackingHuts 34 = .ok (.iconst 0, 1) := dq_get (L := lzddX8_crackingHuts_34) 0 rfl zddX8_crackingHuts_34 rfl
theorem dX8_crackingHuts_35 : decode cX8_crackingHuts 35 = .ok (.ireturn, 1) := dq_get (L := lzddX8_crackingHuts_34) 1 rfl zddX8_crackingHuts_34 rfl
def lzddX8_findLight_0 : List (Nat × Instr × Nat) := [(0, .iconst 0, 1), (1, .istore_n 1, 1), (2, .iload_n 1, 1), (3, .aload_n 0, 1), (4, .getfield 46, 3), (7, .if_icmp .ge 113, 3), (10, .aload_n 0, 1), (11, .getfield 25, 3), (14, .iload_n 1, 1), (15, .aload_n 0, 1), (16, .iload_n 1, 1), (17, .invokevirtual 105, 3), (20, .ifCond .eq 19, 3), (23, .aload_n 0, 1), (24, .getfield 50, 3), (27, .aload_n 0, 1), (28, .getfield 21, 3), (31, .iload_n 1, 1), (32, .iaload, 1), (33, .iconst (-1), 1)]
theorem zddX8_findLight_0 : dqW lzddX8_findLight_0 (cX8_findLight.data.toList.drop 0) 0 = true := by decide +kernel
theorem dX8_findLight_0 : decode cX8_findLight 0 = .ok (.iconst 0, 1) := dq_get (L := lzddX8_findLight_0) 0 rfl zddX8_findLight_0 rfl
theorem dX8_findLight_1 : decode cX8_findLight 1 = .ok (.istore_n 1, 1) := dq_get (L := lzddX8_findLight_0) 1 rfl zddX8_findLight_0 rfl
theorem dX8_findLight_2 : decode cX8_findLight 2 = .ok (.iload_n 1, 1) := dq_get (L := lzddX8_findLight_0) 2 rfl zddX8_findLight_0 rfl
theorem dX8_findLight_3 : decode cX8_findLight 3 = .ok (.aload_n 0, 1) := dq_get (L := lzddX8_findLight_0) 3 rfl zddX8_findLight_0 rfl
theorem dX8_findLight_4 : decode cX8_findLight 4 = .ok (.getfield 46, 3) := dq_get (L := lzddX8_findLight_0) 4 rfl zddX8_findLight_0 rfl
theorem dX8_findLight_7 : decode cX8_findLight 7 = .ok (.if_icmp .ge 113, 3) := dq_get (L := lzddX8_findLight_0) 5 rfl zddX8_findLight_0 rfl
theorem dX8_findLight_10 : decode cX8_findLight 10 = .ok (.aload_n 0, 1) := dq_get (L := lzddX8_findLight_0) 6 rfl zddX8_findLight_0 rfl
theorem dX8_findLight_11 : decode cX8_findLight 11 = .ok (.getfield 25, 3) := dq_get (L := lzddX8_findLight_0) 7 rfl zddX8_findLight_0 rfl
theorem dX8_findLight_14 : decode cX8_findLight 14 = .ok (.iload_n 1, 1) := dq_get (L := lzddX8_findLight_0) 8 rfl zddX8_findLight_0 rfl
theorem dX8_findLight_15 : decode cX8_findLight 15 = .ok (.aload_n 0, 1) := dq_get (L := lzddX8_findLight_0) 9 rfl zddX8_findLight_0 rfl
theorem dX8_findLight_16 : decode cX8_findLight 16 = .ok (.iload_n 1, 1) := dq_get (L := lzddX8_findLight_0) 10 rfl zddX8_findLight_0 rfl
theorem dX8_findLight_17 : decode cX8_findLight 17 = .ok (.invokevirtual 105, 3) := dq_get (L := lzddX8_findLight_0) 11 rfl zddX8_findLight_0 rfl
theorem dX8_findLight_20 : decode cX8_findLight 20 = .ok (.ifCond .eq 19, 3) := dq_get (L := lzddX8_findLight_0) 12 rfl zddX8_findLight_0 rfl
theorem dX8_findLight_23 : decode cX8_findLight 23 = .ok (.aload_n 0, 1) := dq_get (L := lzddX8_findLight_0) 13 rfl zddX8_findLight_0 rfl
theorem dX8_findLight_24 : decode cX8_findLight 24 = .ok (.getfield 50, 3) := dq_get (L := lzddX8_findLight_0) 14 rfl zddX8_findLight_0 rfl
theorem dX8_findLight_27 : decode cX8_findLight 27 = .ok (.aload_n 0, 1) := dq_get (L := lzddX8_findLight_0) 15 rfl zddX8_findLight_0 rfl
theorem dX8_findLight_28 : decode cX8_findLight 28 = .ok (.getfield 21, 3) := dq_get (L := lzddX8_findLight_0) 16 rfl zddX8_findLight_0 rfl
theorem dX8_findLight_31 : decode cX8_findLight 31 = .ok (.iload_n 1, 1) := dq_get (L := lzddX8_findLight_0) 17 rfl zddX8_findLight_0 rfl
theorem dX8_findLight_32 : decode cX8_findLight 32 = .ok (.iaload, 1) := dq_get (L := lzddX8_findLight_0) 18 rfl zddX8_findLight_0 rfl
theorem dX8_findLight_33 : decode cX8_findLight 33 = .ok (.iconst (-1), 1) := dq_get (L := lzddX8_findLight_0) 19 rfl zddX8_findLight_0 rfl
def lzddX8_findLight_34 : List (Nat × Instr × Nat) := [(34, .ixor, 1), (35, .iand, 1), (36, .goto 4, 3), (39, .iconst 0, 1), (40, .iastore, 1), (41, .aload_n 0, 1), (42, .getfield 28, 3), (45, .iload_n 1, 1), (46, .dup2, 1), (47, .iaload, 1), (48, .aload_n 0, 1), (49, .getfield 25, 3), (52, .iload_n 1, 1), (53, .iaload, 1), (54, .ior, 1), (55, .iastore, 1), (56, .aload_n 0, 1), (57, .getfield 31, 3), (60, .iload_n 1, 1), (61, .iload_n 1, 1)]
theorem zddX8_findLight_34 : dqW lzddX8_findLight_34 (cX8_findLight.data.toList.drop 34) 34 = true := by decide +kernel
theorem dX8_findLight_34 : decode cX8_findLight 34 = .ok (.ixor, 1) := dq_get (L := lzddX8_findLight_34) 0 rfl zddX8_findLight_34 rfl
theorem dX8_findLight_35 : decode cX8_findLight 35 = .ok (.iand, 1) := dq_get (L := lzddX8_findLight_34) 1 rfl zddX8_findLight_34 rfl
theorem dX8_findLight_36 : decode cX8_findLight 36 = .ok (.goto 4, 3) := dq_get (L := lzddX8_findLight_34) 2 rfl zddX8_findLight_34 rfl
theorem dX8_findLight_39 : decode cX8_findLight 39 = .ok (.iconst 0, 1) := dq_get (L := lzddX8_findLight_34) 3 rfl zddX8_findLight_34 rfl
theorem dX8_findLight_40 : decode cX8_findLight 40 = .ok (.iastore, 1) := dq_get (L := lzddX8_findLight_34) 4 rfl zddX8_findLight_34 rfl
theorem dX8_findLight_41 : decode cX8_findLight 41 = .ok (.aload_n 0, 1) := dq_get (L := lzddX8_findLight_34) 5 rfl zddX8_findLight_34 rfl
theorem dX8_findLight_42 : decode cX8_findLight 42 = .ok (.getfield 28, 3) := dq_get (L := lzddX8_findLight_34) 6 rfl zddX8_findLight_34 rfl
theorem dX8_findLight_45 : decode cX8_findLight 45 = .ok (.iload_n 1, 1) := dq_get (L := lzddX8_findLight_34) 7 rfl zddX8_findLight_34 rfl
theorem dX8_findLight_46 : decode cX8_findLight 46 = .ok (.dup2, 1) := dq_get (L := lzddX8_findLight_34) 8 rfl zddX8_findLight_34 rfl
theorem dX8_findLight_47 : decode cX8_findLight 47 = .ok (.iaload, 1) := dq_get (L := lzddX8_findLight_34) 9 rfl zddX8_findLight_34 rfl
theorem dX8_findLight_48 : decode cX8_findLight 48 = .ok (.aload_n 0, 1) := dq_get (L := lzddX8_findLight_34) 10 rfl zddX8_findLight_34 rfl
theorem dX8_findLight_49 : decode cX8_findLight 49 = .ok (.getfield 25, 3) := dq_get (L := lzddX8_findLight_34) 11 rfl zddX8_findLight_34 rfl
theorem dX8_findLight_52 : decode cX8_findLight 52 = .ok (.iload_n 1, 1) := dq_get (L := lzddX8_findLight_34) 12 rfl zddX8_findLight_34 rfl
theorem dX8_findLight_53 : decode cX8_findLight 53 = .ok (.iaload, 1) := dq_get (L := lzddX8_findLight_34) 13 rfl zddX8_findLight_34 rfl
theorem dX8_findLight_54 : decode cX8_findLight 54 = .ok (.ior, 1) := dq_get (L := lzddX8_findLight_34) 14 rfl zddX8_findLight_34 rfl
theorem dX8_findLight_55 : decode cX8_findLight 55 = .ok (.iastore, 1) := dq_get (L := lzddX8_findLight_34) 15 rfl zddX8_findLight_34 rfl
theorem dX8_findLight_56 : decode cX8_findLight 56 = .ok (.aload_n 0, 1) := dq_get (L := lzddX8_findLight_34) 16 rfl zddX8_findLight_34 rfl
theorem dX8_findLight_57 : decode cX8_findLight 57 = .ok (.getfield 31, 3) := dq_get (L := lzddX8_findLight_34) 17 rfl zddX8_findLight_34 rfl
theorem dX8_findLight_60 : decode cX8_findLight 60 = .ok (.iload_n 1, 1) := dq_get (L := lzddX8_findLight_34) 18 rfl zddX8_findLight_34 rfl
theorem dX8_findLight_61 : decode cX8_findLight 61 = .ok (.iload_n 1, 1) := dq_get (L := lzddX8_findLight_34) 19 rfl zddX8_findLight_34 rfl
def lzddX8_findLight_62 : List (Nat × Instr × Nat) := [(62, .ifCond .ne 7, 3), (65, .iconst 0, 1), (66, .goto 18, 3), (69, .aload_n 0, 1), (70, .getfield 25, 3), (73, .iload_n 1, 1), (74, .iaload, 1), (75, .aload_n 0, 1), (76, .getfield 25, 3), (79, .iload_n 1, 1), (80, .iconst 1, 1), (81, .isub, 1), (82, .iaload, 1), (83, .ixor, 1), (84, .iastore, 1), (85, .aload_n 0, 1), (86, .getfield 34, 3), (89, .iload_n 1, 1), (90, .iload_n 1, 1), (91, .ifCond .ne 7, 3)]
theorem zddX8_findLight_62 : dqW lzddX8_findLight_62 (cX8_findLight.data.toList.drop 62) 62 = true := by decide +kernel
theorem dX8_findLight_62 : decode cX8_findLight 62 = .ok (.ifCond .ne 7, 3) := dq_get (L := lzddX8_findLight_62) 0 rfl zddX8_findLight_62 rfl
theorem dX8_findLight_65 : decode cX8_findLight 65 = .ok (.iconst 0, 1) := dq_get (L := lzddX8_findLight_62) 1 rfl zddX8_findLight_62 rfl
theorem dX8_findLight_66 : decode cX8_findLight 66 = .ok (.goto 18, 3) := dq_get (L := lzddX8_findLight_62) 2 rfl zddX8_findLight_62 rfl
theorem dX8_findLight_69 : decode cX8_findLight 69 = .ok (.aload_n 0, 1) := dq_get (L := lzddX8_findLight_62) 3 rfl zddX8_findLight_62 rfl
theorem dX8_findLight_70 : decode cX8_findLight 70 = .ok (.getfield 25, 3) := dq_get (L := lzddX8_findLight_62) 4 rfl zddX8_findLight_62 rfl
theorem dX8_findLight_73 : decode cX8_findLight 73 = .ok (.iload_n 1, 1) := dq_get (L := lzddX8_findLight_62) 5 rfl zddX8_findLight_62 rfl
theorem dX8_findLight_74 : decode cX8_findLight 74 = .ok (.iaload, 1) := dq_get (L := lzddX8_findLight_62) 6 rfl zddX8_findLight_62 rfl
theorem dX8_findLight_75 : decode cX8_findLight 75 = .ok (.aload_n 0, 1) := dq_get (L := lzddX8_findLight_62) 7 rfl zddX8_findLight_62 rfl
theorem dX8_findLight_76 : decode cX8_findLight 76 = .ok (.getfield 25, 3) := dq_get (L := lzddX8_findLight_62) 8 rfl zddX8_findLight_62 rfl
theorem dX8_findLight_79 : decode cX8_findLight 79 = .ok (.iload_n 1, 1) := dq_get (L := lzddX8_findLight_62) 9 rfl zddX8_findLight_62 rfl
theorem dX8_findLight_80 : decode cX8_findLight 80 = .ok (.iconst 1, 1) := dq_get (L := lzddX8_findLight_62) 10 rfl zddX8_findLight_62 rfl
theorem dX8_findLight_81 : decode cX8_findLight 81 = .ok (.isub, 1) := dq_get (L := lzddX8_findLight_62) 11 rfl zddX8_findLight_62 rfl
theorem dX8_findLight_82 : decode cX8_findLight 82 = .ok (.iaload, 1) := dq_get (L := lzddX8_findLight_62) 12 rfl zddX8_findLight_62 rfl
theorem dX8_findLight_83 : decode cX8_findLight 83 = .ok (.ixor, 1) := dq_get (L := lzddX8_findLight_62) 13 rfl zddX8_findLight_62 rfl
theorem dX8_findLight_84 : decode cX8_findLight 84 = .ok (.iastore, 1) := dq_get (L := lzddX8_findLight_62) 14 rfl zddX8_findLight_62 rfl
theorem dX8_findLight_85 : decode cX8_findLight 85 = .ok (.aload_n 0, 1) := dq_get (L := lzddX8_findLight_62) 15 rfl zddX8_findLight_62 rfl
theorem dX8_findLight_86 : decode cX8_findLight 86 = .ok (.getfield 34, 3) := dq_get (L := lzddX8_findLight_62) 16 rfl zddX8_findLight_62 rfl
theorem dX8_findLight_89 : decode cX8_findLight 89 = .ok (.iload_n 1, 1) := dq_get (L := lzddX8_findLight_62) 17 rfl zddX8_findLight_62 rfl
theorem dX8_findLight_90 : decode cX8_findLight 90 = .ok (.iload_n 1, 1) := dq_get (L := lzddX8_findLight_62) 18 rfl zddX8_findLight_62 rfl
theorem dX8_findLight_91 : decode cX8_findLight 91 = .ok (.ifCond .ne 7, 3) := dq_get (L := lzddX8_findLight_62) 19 rfl zddX8_findLight_62 rfl
def lzddX8_findLight_94 : List (Nat × Instr × Nat) := [(94, .iconst 0, 1), (95, .goto 18, 3), (98, .aload_n 0, 1), (99, .getfield 28, 3), (102, .iload_n 1, 1), (103, .iaload, 1), (104, .aload_n 0, 1), (105, .getfield 28, 3), (108, .iload_n 1, 1), (109, .iconst 1, 1), (110, .isub, 1), (111, .iaload, 1), (112, .ixor, 1), (113, .iastore, 1), (114, .iinc 1 1, 3), (117, .goto (-115), 3), (120, .return_, 1)]
theorem zddX8_findLight_94 : dqW lzddX8_findLight_94 (cX8_findLight.data.toList.drop 94) 94 = true := by decide +kernel
theorem dX8_findLight_94 : decode cX8_findLight 94 = .ok (.iconst 0, 1) := dq_get (L := lzddX8_findLight_94) 0 rfl zddX8_findLight_94 rfl
theorem dX8_findLight_95 : decode cX8_findLight 95 = .ok (.goto 18, 3) := dq_get (L := lzddX8_findLight_94) 1 rfl zddX8_findLight_94 rfl
theorem dX8_findLight_98 : decode cX8_findLight 98 = .ok (.aload_n 0, 1) := dq_get (L := lzddX8_findLight_94) 2 rfl zddX8_findLight_94 rfl
theorem dX8_findLight_99 : decode cX8_findLight 99 = .ok (.getfield 28, 3) := dq_get (L := lzddX8_findLight_94) 3 rfl zddX8_findLight_94 rfl
theorem dX8_findLight_102 : decode cX8_findLight 102 = .ok (.iload_n 1, 1) := dq_get (L := lzddX8_findLight_94) 4 rfl zddX8_findLight_94 rfl
theorem dX8_findLight_103 : decode cX8_findLight 103 = .ok (.iaload, 1) := dq_get (L := lzddX8_findLight_94) 5 rfl zddX8_findLight_94 rfl
theorem dX8_findLight_104 : decode cX8_findLight 104 = .ok (.aload_n 0, 1) := dq_get (L := lzddX8_findLight_94) 6 rfl zddX8_findLight_94 rfl
theorem dX8_findLight_105 : decode cX8_findLight 105 = .ok (.getfield 28, 3) := dq_get (L := lzddX8_findLight_94) 7 rfl zddX8_findLight_94 rfl
theorem dX8_findLight_108 : decode cX8_findLight 108 = .ok (.iload_n 1, 1) := dq_get (L := lzddX8_findLight_94) 8 rfl zddX8_findLight_94 rfl
theorem dX8_findLight_109 : decode cX8_findLight 109 = .ok (.iconst 1, 1) := dq_get (L := lzddX8_findLight_94) 9 rfl zddX8_findLight_94 rfl
theorem dX8_findLight_110 : decode cX8_findLight 110 = .ok (.isub, 1) := dq_get (L := lzddX8_findLight_94) 10 rfl zddX8_findLight_94 rfl
theorem dX8_findLight_111 : decode cX8_findLight 111 = .ok (.iaload, 1) := dq_get (L := lzddX8_findLight_94) 11 rfl zddX8_findLight_94 rfl
theorem dX8_findLight_112 : decode cX8_findLight 112 = .ok (.ixor, 1) := dq_get (L := lzddX8_findLight_94) 12 rfl zddX8_findLight_94 rfl
theorem dX8_findLight_113 : decode cX8_findLight 113 = .ok (.iastore, 1) := dq_get (L := lzddX8_findLight_94) 13 rfl zddX8_findLight_94 rfl
theorem dX8_findLight_114 : decode cX8_findLight 114 = .ok (.iinc 1 1, 3) := dq_get (L := lzddX8_findLight_94) 14 rfl zddX8_findLight_94 rfl
theorem dX8_findLight_117 : decode cX8_findLight 117 = .ok (.goto (-115), 3) := dq_get (L := lzddX8_findLight_94) 15 rfl zddX8_findLight_94 rfl
theorem dX8_findLight_120 : decode cX8_findLight 120 = .ok (.return_, 1) := dq_get (L := lzddX8_findLight_94) 16 rfl zddX8_findLight_94 rfl
def lzddX8_findStirs_0 : List (Nat × Instr × Nat) := [(0, .aload_n 0, 1), (1, .iconst 0, 1), (2, .putfield 109, 3), (5, .iconst 0, 1), (6, .istore_n 2, 1), (7, .iload_n 2, 1), (8, .aload_n 0, 1), (9, .getfield 46, 3), (12, .if_icmp .ge 64, 3), (15, .aload_n 0, 1), (16, .getfield 31, 3), (19, .iload_n 2, 1), (20, .iaload, 1), (21, .ifCond .ne 29, 3), (24, .aload_n 0, 1), (25, .getfield 34, 3), (28, .iload_n 2, 1), (29, .iaload, 1), (30, .ifCond .ne 20, 3), (33, .aload_n 0, 1)]
theorem zddX8_findStirs_0 : dqW lzddX8_findStirs_0 (cX8_findStirs.data.toList.drop 0) 0 = true := by decide +kernel
theorem dX8_findStirs_0 : decode cX8_findStirs 0 = .ok (.aload_n 0, 1) := dq_get (L := lzddX8_findStirs_0) 0 rfl zddX8_findStirs_0 rfl
theorem dX8_findStirs_1 : decode cX8_findStirs 1 = .ok (.iconst 0, 1) := dq_get (L := lzddX8_findStirs_0) 1 rfl zddX8_findStirs_0 rfl
theorem dX8_findStirs_2 : decode cX8_findStirs 2 = .ok (.putfield 109, 3) := dq_get (L := lzddX8_findStirs_0) 2 rfl zddX8_findStirs_0 rfl
theorem dX8_findStirs_5 : decode cX8_findStirs 5 = .ok (.iconst 0, 1) := dq_get (L := lzddX8_findStirs_0) 3 rfl zddX8_findStirs_0 rfl
theorem dX8_findStirs_6 : decode cX8_findStirs 6 = .ok (.istore_n 2, 1) := dq_get (L := lzddX8_findStirs_0) 4 rfl zddX8_findStirs_0 rfl
theorem dX8_findStirs_7 : decode cX8_findStirs 7 = .ok (.iload_n 2, 1) := dq_get (L := lzddX8_findStirs_0) 5 rfl zddX8_findStirs_0 rfl
theorem dX8_findStirs_8 : decode cX8_findStirs 8 = .ok (.aload_n 0, 1) := dq_get (L := lzddX8_findStirs_0) 6 rfl zddX8_findStirs_0 rfl
theorem dX8_findStirs_9 : decode cX8_findStirs 9 = .ok (.getfield 46, 3) := dq_get (L := lzddX8_findStirs_0) 7 rfl zddX8_findStirs_0 rfl
theorem dX8_findStirs_12 : decode cX8_findStirs 12 = .ok (.if_icmp .ge 64, 3) := dq_get (L := lzddX8_findStirs_0) 8 rfl zddX8_findStirs_0 rfl
theorem dX8_findStirs_15 : decode cX8_findStirs 15 = .ok (.aload_n 0, 1) := dq_get (L := lzddX8_findStirs_0) 9 rfl zddX8_findStirs_0 rfl
theorem dX8_findStirs_16 : decode cX8_findStirs 16 = .ok (.getfield 31, 3) := dq_get (L := lzddX8_findStirs_0) 10 rfl zddX8_findStirs_0 rfl
theorem dX8_findStirs_19 : decode cX8_findStirs 19 = .ok (.iload_n 2, 1) := dq_get (L := lzddX8_findStirs_0) 11 rfl zddX8_findStirs_0 rfl
theorem dX8_findStirs_20 : decode cX8_findStirs 20 = .ok (.iaload, 1) := dq_get (L := lzddX8_findStirs_0) 12 rfl zddX8_findStirs_0 rfl
theorem dX8_findStirs_21 : decode cX8_findStirs 21 = .ok (.ifCond .ne 29, 3) := dq_get (L := lzddX8_findStirs_0) 13 rfl zddX8_findStirs_0 rfl
theorem dX8_findStirs_24 : decode cX8_findStirs 24 = .ok (.aload_n 0, 1) := dq_get (L := lzddX8_findStirs_0) 14 rfl zddX8_findStirs_0 rfl
theorem dX8_findStirs_25 : decode cX8_findStirs 25 = .ok (.getfield 34, 3) := dq_get (L := lzddX8_findStirs_0) 15 rfl zddX8_findStirs_0 rfl
theorem dX8_findStirs_28 : decode cX8_findStirs 28 = .ok (.iload_n 2, 1) := dq_get (L := lzddX8_findStirs_0) 16 rfl zddX8_findStirs_0 rfl
theorem dX8_findStirs_29 : decode cX8_findStirs 29 = .ok (.iaload, 1) := dq_get (L := lzddX8_findStirs_0) 17 rfl zddX8_findStirs_0 rfl
theorem dX8_findStirs_30 : decode cX8_findStirs 30 = .ok (.ifCond .ne 20, 3) := dq_get (L := lzddX8_findStirs_0) 18 rfl zddX8_findStirs_0 rfl
theorem dX8_findStirs_33 : decode cX8_findStirs 33 = .ok (.aload_n 0, 1) := dq_get (L := lzddX8_findStirs_0) 19 rfl zddX8_findStirs_0 rfl
def lzddX8_findStirs_34 : List (Nat × Instr × Nat) := [(34, .getfield 15, 3), (37, .iload_n 2, 1), (38, .baload, 1), (39, .ifCond .ne 11, 3), (42, .aload_n 1, 1), (43, .iload_n 2, 1), (44, .invokevirtual 112, 3), (47, .ifCond .eq 23, 3), (50, .aload_n 0, 1), (51, .getfield 37, 3), (54, .aload_n 0, 1), (55, .getfield 109, 3), (58, .iload_n 2, 1), (59, .iastore, 1), (60, .aload_n 0, 1), (61, .dup, 1), (62, .getfield 109, 3), (65, .iconst 1, 1), (66, .iadd, 1), (67, .putfield 109, 3)]
theorem zddX8_findStirs_34 : dqW lzddX8_findStirs_34 (cX8_findStirs.data.toList.drop 34) 34 = true := by decide +kernel
theorem dX8_findStirs_34 : decode cX8_findStirs 34 = .ok (.getfield 15, 3) := dq_get (L := lzddX8_findStirs_34) 0 rfl zddX8_findStirs_34 rfl
theorem dX8_findStirs_37 : decode cX8_findStirs 37 = .ok (.iload_n 2, 1) := dq_get (L := lzddX8_findStirs_34) 1 rfl zddX8_findStirs_34 rfl
theorem dX8_findStirs_38 : decode cX8_findStirs 38 = .ok (.baload, 1) := dq_get (L := lzddX8_findStirs_34) 2 rfl zddX8_findStirs_34 rfl
theorem dX8_findStirs_39 : decode cX8_findStirs 39 = .ok (.ifCond .ne 11, 3) := dq_get (L := lzddX8_findStirs_34) 3 rfl zddX8_findStirs_34 rfl
theorem dX8_findStirs_42 : decode cX8_findStirs 42 = .ok (.aload_n 1, 1) := dq_get (L := lzddX8_findStirs_34) 4 rfl zddX8_findStirs_34 rfl
theorem dX8_findStirs_43 : decode cX8_findStirs 43 = .ok (.iload_n 2, 1) := dq_get (L := lzddX8_findStirs_34) 5 rfl zddX8_findStirs_34 rfl
theorem dX8_findStirs_44 : decode cX8_findStirs 44 = .ok (.invokevirtual 112, 3) := dq_get (L := lzddX8_findStirs_34) 6 rfl zddX8_findStirs_34 rfl
theorem dX8_findStirs_47 : decode cX8_findStirs 47 = .ok (.ifCond .eq 23, 3) := dq_get (L := lzddX8_findStirs_34) 7 rfl zddX8_findStirs_34 rfl
theorem dX8_findStirs_50 : decode cX8_findStirs 50 = .ok (.aload_n 0, 1) := dq_get (L := lzddX8_findStirs_34) 8 rfl zddX8_findStirs_34 rfl
theorem dX8_findStirs_51 : decode cX8_findStirs 51 = .ok (.getfield 37, 3) := dq_get (L := lzddX8_findStirs_34) 9 rfl zddX8_findStirs_34 rfl
theorem dX8_findStirs_54 : decode cX8_findStirs 54 = .ok (.aload_n 0, 1) := dq_get (L := lzddX8_findStirs_34) 10 rfl zddX8_findStirs_34 rfl
theorem dX8_findStirs_55 : decode cX8_findStirs 55 = .ok (.getfield 109, 3) := dq_get (L := lzddX8_findStirs_34) 11 rfl zddX8_findStirs_34 rfl
theorem dX8_findStirs_58 : decode cX8_findStirs 58 = .ok (.iload_n 2, 1) := dq_get (L := lzddX8_findStirs_34) 12 rfl zddX8_findStirs_34 rfl
theorem dX8_findStirs_59 : decode cX8_findStirs 59 = .ok (.iastore, 1) := dq_get (L := lzddX8_findStirs_34) 13 rfl zddX8_findStirs_34 rfl
theorem dX8_findStirs_60 : decode cX8_findStirs 60 = .ok (.aload_n 0, 1) := dq_get (L := lzddX8_findStirs_34) 14 rfl zddX8_findStirs_34 rfl
theorem dX8_findStirs_61 : decode cX8_findStirs 61 = .ok (.dup, 1) := dq_get (L := lzddX8_findStirs_34) 15 rfl zddX8_findStirs_34 rfl
theorem dX8_findStirs_62 : decode cX8_findStirs 62 = .ok (.getfield 109, 3) := dq_get (L := lzddX8_findStirs_34) 16 rfl zddX8_findStirs_34 rfl
theorem dX8_findStirs_65 : decode cX8_findStirs 65 = .ok (.iconst 1, 1) := dq_get (L := lzddX8_findStirs_34) 17 rfl zddX8_findStirs_34 rfl
theorem dX8_findStirs_66 : decode cX8_findStirs 66 = .ok (.iadd, 1) := dq_get (L := lzddX8_findStirs_34) 18 rfl zddX8_findStirs_34 rfl
theorem dX8_findStirs_67 : decode cX8_findStirs 67 = .ok (.putfield 109, 3) := dq_get (L := lzddX8_findStirs_34) 19 rfl zddX8_findStirs_34 rfl
def lzddX8_findStirs_70 : List (Nat × Instr × Nat) := [(70, .iinc 2 1, 3), (73, .goto (-66), 3), (76, .return_, 1)]
theorem zddX8_findStirs_70 : dqW lzddX8_findStirs_70 (cX8_findStirs.data.toList.drop 70) 70 = true := by decide +kernel
theorem dX8_findStirs_70 : decode cX8_findStirs 70 = .ok (.iinc 2 1, 3) := dq_get (L := lzddX8_findStirs_70) 0 rfl zddX8_findStirs_70 rfl
theorem dX8_findStirs_73 : decode cX8_findStirs 73 = .ok (.goto (-66), 3) := dq_get (L := lzddX8_findStirs_70) 1 rfl zddX8_findStirs_70 rfl
theorem dX8_findStirs_76 : decode cX8_findStirs 76 = .ok (.return_, 1) := dq_get (L := lzddX8_findStirs_70) 2 rfl zddX8_findStirs_70 rfl
def lzddX8_isBright_0 : List (Nat × Instr × Nat) := [(0, .aload_n 0, 1), (1, .getfield 9, 3), (4, .iload_n 1, 1), (5, .baload, 1), (6, .ifCond .ne 25, 3), (9, .aload_n 0, 1), (10, .getfield 15, 3), (13, .iload_n 1, 1), (14, .baload, 1), (15, .ifCond .ne 12, 3), (18, .aload_n 0, 1), (19, .getfield 18, 3), (22, .iload_n 1, 1), (23, .baload, 1), (24, .ifCond .ne 7, 3), (27, .iconst 1, 1), (28, .goto 4, 3), (31, .iconst 0, 1), (32, .ireturn, 1)]
theorem zddX8_isBright_0 : dqW lzddX8_isBright_0 (cX8_isBright.data.toList.drop 0) 0 = true := by decide +kernel
theorem dX8_isBright_0 : decode cX8_isBright 0 = .ok (.aload_n 0, 1) := dq_get (L := lzddX8_isBright_0) 0 rfl zddX8_isBright_0 rfl
theorem dX8_isBright_1 : decode cX8_isBright 1 = .ok (.getfield 9, 3) := dq_get (L := lzddX8_isBright_0) 1 rfl zddX8_isBright_0 rfl
theorem dX8_isBright_4 : decode cX8_isBright 4 = .ok (.iload_n 1, 1) := dq_get (L := lzddX8_isBright_0) 2 rfl zddX8_isBright_0 rfl
theorem dX8_isBright_5 : decode cX8_isBright 5 = .ok (.baload, 1) := dq_get (L := lzddX8_isBright_0) 3 rfl zddX8_isBright_0 rfl
theorem dX8_isBright_6 : decode cX8_isBright 6 = .ok (.ifCond .ne 25, 3) := dq_get (L := lzddX8_isBright_0) 4 rfl zddX8_isBright_0 rfl
theorem dX8_isBright_9 : decode cX8_isBright 9 = .ok (.aload_n 0, 1) := dq_get (L := lzddX8_isBright_0) 5 rfl zddX8_isBright_0 rfl
theorem dX8_isBright_10 : decode cX8_isBright 10 = .ok (.getfield 15, 3) := dq_get (L := lzddX8_isBright_0) 6 rfl zddX8_isBright_0 rfl
theorem dX8_isBright_13 : decode cX8_isBright 13 = .ok (.iload_n 1, 1) := dq_get (L := lzddX8_isBright_0) 7 rfl zddX8_isBright_0 rfl
theorem dX8_isBright_14 : decode cX8_isBright 14 = .ok (.baload, 1) := dq_get (L := lzddX8_isBright_0) 8 rfl zddX8_isBright_0 rfl
theorem dX8_isBright_15 : decode cX8_isBright 15 = .ok (.ifCond .ne 12, 3) := dq_get (L := lzddX8_isBright_0) 9 rfl zddX8_isBright_0 rfl
theorem dX8_isBright_18 : decode cX8_isBright 18 = .ok (.aload_n 0, 1) := dq_get (L := lzddX8_isBright_0) 10 rfl zddX8_isBright_0 rfl
theorem dX8_isBright_19 : decode cX8_isBright 19 = .ok (.getfield 18, 3) := dq_get (L := lzddX8_isBright_0) 11 rfl zddX8_isBright_0 rfl
theorem dX8_isBright_22 : decode cX8_isBright 22 = .ok (.iload_n 1, 1) := dq_get (L := lzddX8_isBright_0) 12 rfl zddX8_isBright_0 rfl
theorem dX8_isBright_23 : decode cX8_isBright 23 = .ok (.baload, 1) := dq_get (L := lzddX8_isBright_0) 13 rfl zddX8_isBright_0 rfl
theorem dX8_isBright_24 : decode cX8_isBright 24 = .ok (.ifCond .ne 7, 3) := dq_get (L := lzddX8_isBright_0) 14 rfl zddX8_isBright_0 rfl
theorem dX8_isBright_27 : decode cX8_isBright 27 = .ok (.iconst 1, 1) := dq_get (L := lzddX8_isBright_0) 15 rfl zddX8_isBright_0 rfl
theorem dX8_isBright_28 : decode cX8_isBright 28 = .ok (.goto 4, 3) := dq_get (L := lzddX8_isBright_0) 16 rfl zddX8_isBright_0 rfl
theorem dX8_isBright_31 : decode cX8_isBright 31 = .ok (.iconst 0, 1) := dq_get (L := lzddX8_isBright_0) 17 rfl zddX8_isBright_0 rfl
theorem dX8_isBright_32 : decode cX8_isBright 32 = .ok (.ireturn, 1) := dq_get (L := lzddX8_isBright_0) 18 rfl zddX8_isBright_0 rfl
def lzddX8_layCloud_0 : List (Nat × Instr × Nat) := [(0, .iload_n 1, 1), (1, .istore_n 3, 1), (2, .iload_n 3, 1), (3, .iload_n 2, 1), (4, .if_icmp .ge 16, 3), (7, .aload_n 0, 1), (8, .getfield 18, 3), (11, .iload_n 3, 1), (12, .iconst 1, 1), (13, .bastore, 1), (14, .iinc 3 1, 3), (17, .goto (-15), 3), (20, .return_, 1)]
theorem zddX8_layCloud_0 : dqW lzddX8_layCloud_0 (cX8_layCloud.data.toList.drop 0) 0 = true := by decide +kernel
theorem dX8_layCloud_0 : decode cX8_layCloud 0 = .ok (.iload_n 1, 1) := dq_get (L := lzddX8_layCloud_0) 0 rfl zddX8_layCloud_0 rfl
theorem dX8_layCloud_1 : decode cX8_layCloud 1 = .ok (.istore_n 3, 1) := dq_get (L := lzddX8_layCloud_0) 1 rfl zddX8_layCloud_0 rfl
theorem dX8_layCloud_2 : decode cX8_layCloud 2 = .ok (.iload_n 3, 1) := dq_get (L := lzddX8_layCloud_0) 2 rfl zddX8_layCloud_0 rfl
theorem dX8_layCloud_3 : decode cX8_layCloud 3 = .ok (.iload_n 2, 1) := dq_get (L := lzddX8_layCloud_0) 3 rfl zddX8_layCloud_0 rfl
theorem dX8_layCloud_4 : decode cX8_layCloud 4 = .ok (.if_icmp .ge 16, 3) := dq_get (L := lzddX8_layCloud_0) 4 rfl zddX8_layCloud_0 rfl
theorem dX8_layCloud_7 : decode cX8_layCloud 7 = .ok (.aload_n 0, 1) := dq_get (L := lzddX8_layCloud_0) 5 rfl zddX8_layCloud_0 rfl
theorem dX8_layCloud_8 : decode cX8_layCloud 8 = .ok (.getfield 18, 3) := dq_get (L := lzddX8_layCloud_0) 6 rfl zddX8_layCloud_0 rfl
theorem dX8_layCloud_11 : decode cX8_layCloud 11 = .ok (.iload_n 3, 1) := dq_get (L := lzddX8_layCloud_0) 7 rfl zddX8_layCloud_0 rfl
theorem dX8_layCloud_12 : decode cX8_layCloud 12 = .ok (.iconst 1, 1) := dq_get (L := lzddX8_layCloud_0) 8 rfl zddX8_layCloud_0 rfl
theorem dX8_layCloud_13 : decode cX8_layCloud 13 = .ok (.bastore, 1) := dq_get (L := lzddX8_layCloud_0) 9 rfl zddX8_layCloud_0 rfl
theorem dX8_layCloud_14 : decode cX8_layCloud 14 = .ok (.iinc 3 1, 3) := dq_get (L := lzddX8_layCloud_0) 10 rfl zddX8_layCloud_0 rfl
theorem dX8_layCloud_17 : decode cX8_layCloud 17 = .ok (.goto (-15), 3) := dq_get (L := lzddX8_layCloud_0) 11 rfl zddX8_layCloud_0 rfl
theorem dX8_layCloud_20 : decode cX8_layCloud 20 = .ok (.return_, 1) := dq_get (L := lzddX8_layCloud_0) 12 rfl zddX8_layCloud_0 rfl
def lzddX8_layEvent_0 : List (Nat × Instr × Nat) := [(0, .aload_n 1, 1), (1, .getfield 93, 3), (4, .istore_n 2, 1), (5, .iload_n 2, 1), (6, .aload_n 1, 1), (7, .getfield 97, 3), (10, .if_icmp .ge 107, 3), (13, .aload_n 1, 1), (14, .getfield 99, 3)]
theorem zddX8_layEvent_0 : dqW lzddX8_layEvent_0 (cX8_layEvent.data.toList.drop 0) 0 = true := by decide +kernel
theorem dX8_layEvent_0 : decode cX8_layEvent 0 = .ok (.aload_n 1, 1) := dq_get (L := lzddX8_layEvent_0) 0 rfl zddX8_layEvent_0 rfl
theorem dX8_layEvent_1 : decode cX8_layEvent 1 = .ok (.getfield 93, 3) := dq_get (L := lzddX8_layEvent_0) 1 rfl zddX8_layEvent_0 rfl
theorem dX8_layEvent_4 : decode cX8_layEvent 4 = .ok (.istore_n 2, 1) := dq_get (L := lzddX8_layEvent_0) 2 rfl zddX8_layEvent_0 rfl
theorem dX8_layEvent_5 : decode cX8_layEvent 5 = .ok (.iload_n 2, 1) := dq_get (L := lzddX8_layEvent_0) 3 rfl zddX8_layEvent_0 rfl
theorem dX8_layEvent_6 : decode cX8_layEvent 6 = .ok (.aload_n 1, 1) := dq_get (L := lzddX8_layEvent_0) 4 rfl zddX8_layEvent_0 rfl
theorem dX8_layEvent_7 : decode cX8_layEvent 7 = .ok (.getfield 97, 3) := dq_get (L := lzddX8_layEvent_0) 5 rfl zddX8_layEvent_0 rfl
theorem dX8_layEvent_10 : decode cX8_layEvent 10 = .ok (.if_icmp .ge 107, 3) := dq_get (L := lzddX8_layEvent_0) 6 rfl zddX8_layEvent_0 rfl
theorem dX8_layEvent_13 : decode cX8_layEvent 13 = .ok (.aload_n 1, 1) := dq_get (L := lzddX8_layEvent_0) 7 rfl zddX8_layEvent_0 rfl
theorem dX8_layEvent_14 : decode cX8_layEvent 14 = .ok (.getfield 99, 3) := dq_get (L := lzddX8_layEvent_0) 8 rfl zddX8_layEvent_0 rfl
theorem dX8_layEvent_17 : decode cX8_layEvent 17 = .ok (.tableswitch 87 0 3 #[31, 41, 51, 69], 31) := by decide +kernel
def lzddX8_layEvent_48 : List (Nat × Instr × Nat) := [(48, .aload_n 0, 1), (49, .getfield 18, 3), (52, .iload_n 2, 1), (53, .iconst 1, 1), (54, .bastore, 1), (55, .goto 56, 3), (58, .aload_n 0, 1), (59, .getfield 9, 3), (62, .iload_n 2, 1), (63, .iconst 1, 1), (64, .bastore, 1), (65, .goto 46, 3), (68, .aload_n 0, 1), (69, .getfield 28, 3), (72, .iload_n 2, 1), (73, .dup2, 1), (74, .iaload, 1), (75, .iconst 1, 1), (76, .aload_n 1, 1), (77, .getfield 102, 3)]
theorem zddX8_layEvent_48 : dqW lzddX8_layEvent_48 (cX8_layEvent.data.toList.drop 48) 48 = true := by decide +kernel
theorem dX8_layEvent_48 : decode cX8_layEvent 48 = .ok (.aload_n 0, 1) := dq_get (L := lzddX8_layEvent_48) 0 rfl zddX8_layEvent_48 rfl
theorem dX8_layEvent_49 : decode cX8_layEvent 49 = .ok (.getfield 18, 3) := dq_get (L := lzddX8_layEvent_48) 1 rfl zddX8_layEvent_48 rfl
theorem dX8_layEvent_52 : decode cX8_layEvent 52 = .ok (.iload_n 2, 1) := dq_get (L := lzddX8_layEvent_48) 2 rfl zddX8_layEvent_48 rfl
theorem dX8_layEvent_53 : decode cX8_layEvent 53 = .ok (.iconst 1, 1) := dq_get (L := lzddX8_layEvent_48) 3 rfl zddX8_layEvent_48 rfl
theorem dX8_layEvent_54 : decode cX8_layEvent 54 = .ok (.bastore, 1) := dq_get (L := lzddX8_layEvent_48) 4 rfl zddX8_layEvent_48 rfl
theorem dX8_layEvent_55 : decode cX8_layEvent 55 = .ok (.goto 56, 3) := dq_get (L := lzddX8_layEvent_48) 5 rfl zddX8_layEvent_48 rfl
theorem dX8_layEvent_58 : decode cX8_layEvent 58 = .ok (.aload_n 0, 1) := dq_get (L := lzddX8_layEvent_48) 6 rfl zddX8_layEvent_48 rfl
theorem dX8_layEvent_59 : decode cX8_layEvent 59 = .ok (.getfield 9, 3) := dq_get (L := lzddX8_layEvent_48) 7 rfl zddX8_layEvent_48 rfl
theorem dX8_layEvent_62 : decode cX8_layEvent 62 = .ok (.iload_n 2, 1) := dq_get (L := lzddX8_layEvent_48) 8 rfl zddX8_layEvent_48 rfl
theorem dX8_layEvent_63 : decode cX8_layEvent 63 = .ok (.iconst 1, 1) := dq_get (L := lzddX8_layEvent_48) 9 rfl zddX8_layEvent_48 rfl
theorem dX8_layEvent_64 : decode cX8_layEvent 64 = .ok (.bastore, 1) := dq_get (L := lzddX8_layEvent_48) 10 rfl zddX8_layEvent_48 rfl
theorem dX8_layEvent_65 : decode cX8_layEvent 65 = .ok (.goto 46, 3) := dq_get (L := lzddX8_layEvent_48) 11 rfl zddX8_layEvent_48 rfl
theorem dX8_layEvent_68 : decode cX8_layEvent 68 = .ok (.aload_n 0, 1) := dq_get (L := lzddX8_layEvent_48) 12 rfl zddX8_layEvent_48 rfl
theorem dX8_layEvent_69 : decode cX8_layEvent 69 = .ok (.getfield 28, 3) := dq_get (L := lzddX8_layEvent_48) 13 rfl zddX8_layEvent_48 rfl
theorem dX8_layEvent_72 : decode cX8_layEvent 72 = .ok (.iload_n 2, 1) := dq_get (L := lzddX8_layEvent_48) 14 rfl zddX8_layEvent_48 rfl
theorem dX8_layEvent_73 : decode cX8_layEvent 73 = .ok (.dup2, 1) := dq_get (L := lzddX8_layEvent_48) 15 rfl zddX8_layEvent_48 rfl
theorem dX8_layEvent_74 : decode cX8_layEvent 74 = .ok (.iaload, 1) := dq_get (L := lzddX8_layEvent_48) 16 rfl zddX8_layEvent_48 rfl
theorem dX8_layEvent_75 : decode cX8_layEvent 75 = .ok (.iconst 1, 1) := dq_get (L := lzddX8_layEvent_48) 17 rfl zddX8_layEvent_48 rfl
theorem dX8_layEvent_76 : decode cX8_layEvent 76 = .ok (.aload_n 1, 1) := dq_get (L := lzddX8_layEvent_48) 18 rfl zddX8_layEvent_48 rfl
theorem dX8_layEvent_77 : decode cX8_layEvent 77 = .ok (.getfield 102, 3) := dq_get (L := lzddX8_layEvent_48) 19 rfl zddX8_layEvent_48 rfl
def lzddX8_layEvent_80 : List (Nat × Instr × Nat) := [(80, .ishl, 1), (81, .ior, 1), (82, .iastore, 1), (83, .goto 28, 3), (86, .aload_n 0, 1), (87, .getfield 21, 3), (90, .iload_n 2, 1), (91, .dup2, 1), (92, .iaload, 1), (93, .iconst 1, 1), (94, .aload_n 1, 1), (95, .getfield 102, 3), (98, .ishl, 1), (99, .ior, 1), (100, .iastore, 1), (101, .goto 10, 3), (104, .aload_n 0, 1), (105, .getfield 15, 3), (108, .iload_n 2, 1), (109, .iconst 1, 1)]
theorem zddX8_layEvent_80 : dqW lzddX8_layEvent_80 (cX8_layEvent.data.toList.drop 80) 80 = true := by decide +kernel
theorem dX8_layEvent_80 : decode cX8_layEvent 80 = .ok (.ishl, 1) := dq_get (L := lzddX8_layEvent_80) 0 rfl zddX8_layEvent_80 rfl
theorem dX8_layEvent_81 : decode cX8_layEvent 81 = .ok (.ior, 1) := dq_get (L := lzddX8_layEvent_80) 1 rfl zddX8_layEvent_80 rfl
theorem dX8_layEvent_82 : decode cX8_layEvent 82 = .ok (.iastore, 1) := dq_get (L := lzddX8_layEvent_80) 2 rfl zddX8_layEvent_80 rfl
theorem dX8_layEvent_83 : decode cX8_layEvent 83 = .ok (.goto 28, 3) := dq_get (L := lzddX8_layEvent_80) 3 rfl zddX8_layEvent_80 rfl
theorem dX8_layEvent_86 : decode cX8_layEvent 86 = .ok (.aload_n 0, 1) := dq_get (L := lzddX8_layEvent_80) 4 rfl zddX8_layEvent_80 rfl
theorem dX8_layEvent_87 : decode cX8_layEvent 87 = .ok (.getfield 21, 3) := dq_get (L := lzddX8_layEvent_80) 5 rfl zddX8_layEvent_80 rfl
theorem dX8_layEvent_90 : decode cX8_layEvent 90 = .ok (.iload_n 2, 1) := dq_get (L := lzddX8_layEvent_80) 6 rfl zddX8_layEvent_80 rfl
theorem dX8_layEvent_91 : decode cX8_layEvent 91 = .ok (.dup2, 1) := dq_get (L := lzddX8_layEvent_80) 7 rfl zddX8_layEvent_80 rfl
theorem dX8_layEvent_92 : decode cX8_layEvent 92 = .ok (.iaload, 1) := dq_get (L := lzddX8_layEvent_80) 8 rfl zddX8_layEvent_80 rfl
theorem dX8_layEvent_93 : decode cX8_layEvent 93 = .ok (.iconst 1, 1) := dq_get (L := lzddX8_layEvent_80) 9 rfl zddX8_layEvent_80 rfl
theorem dX8_layEvent_94 : decode cX8_layEvent 94 = .ok (.aload_n 1, 1) := dq_get (L := lzddX8_layEvent_80) 10 rfl zddX8_layEvent_80 rfl
theorem dX8_layEvent_95 : decode cX8_layEvent 95 = .ok (.getfield 102, 3) := dq_get (L := lzddX8_layEvent_80) 11 rfl zddX8_layEvent_80 rfl
theorem dX8_layEvent_98 : decode cX8_layEvent 98 = .ok (.ishl, 1) := dq_get (L := lzddX8_layEvent_80) 12 rfl zddX8_layEvent_80 rfl
theorem dX8_layEvent_99 : decode cX8_layEvent 99 = .ok (.ior, 1) := dq_get (L := lzddX8_layEvent_80) 13 rfl zddX8_layEvent_80 rfl
theorem dX8_layEvent_100 : decode cX8_layEvent 100 = .ok (.iastore, 1) := dq_get (L := lzddX8_layEvent_80) 14 rfl zddX8_layEvent_80 rfl
theorem dX8_layEvent_101 : decode cX8_layEvent 101 = .ok (.goto 10, 3) := dq_get (L := lzddX8_layEvent_80) 15 rfl zddX8_layEvent_80 rfl
theorem dX8_layEvent_104 : decode cX8_layEvent 104 = .ok (.aload_n 0, 1) := dq_get (L := lzddX8_layEvent_80) 16 rfl zddX8_layEvent_80 rfl
theorem dX8_layEvent_105 : decode cX8_layEvent 105 = .ok (.getfield 15, 3) := dq_get (L := lzddX8_layEvent_80) 17 rfl zddX8_layEvent_80 rfl
theorem dX8_layEvent_108 : decode cX8_layEvent 108 = .ok (.iload_n 2, 1) := dq_get (L := lzddX8_layEvent_80) 18 rfl zddX8_layEvent_80 rfl
theorem dX8_layEvent_109 : decode cX8_layEvent 109 = .ok (.iconst 1, 1) := dq_get (L := lzddX8_layEvent_80) 19 rfl zddX8_layEvent_80 rfl
def lzddX8_layEvent_110 : List (Nat × Instr × Nat) := [(110, .bastore, 1), (111, .iinc 2 1, 3), (114, .goto (-109), 3), (117, .return_, 1)]
theorem zddX8_layEvent_110 : dqW lzddX8_layEvent_110 (cX8_layEvent.data.toList.drop 110) 110 = true := by decide +kernel
theorem dX8_layEvent_110 : decode cX8_layEvent 110 = .ok (.bastore, 1) := dq_get (L := lzddX8_layEvent_110) 0 rfl zddX8_layEvent_110 rfl
theorem dX8_layEvent_111 : decode cX8_layEvent 111 = .ok (.iinc 2 1, 3) := dq_get (L := lzddX8_layEvent_110) 1 rfl zddX8_layEvent_110 rfl
theorem dX8_layEvent_114 : decode cX8_layEvent 114 = .ok (.goto (-109), 3) := dq_get (L := lzddX8_layEvent_110) 2 rfl zddX8_layEvent_110 rfl
theorem dX8_layEvent_117 : decode cX8_layEvent 117 = .ok (.return_, 1) := dq_get (L := lzddX8_layEvent_110) 3 rfl zddX8_layEvent_110 rfl
def lzddX8_wipe_0 : List (Nat × Instr × Nat) := [(0, .iconst 0, 1), (1, .istore_n 1, 1), (2, .iload_n 1, 1), (3, .aload_n 0, 1), (4, .getfield 46, 3), (7, .if_icmp .ge 44, 3), (10, .aload_n 0, 1), (11, .getfield 9, 3), (14, .iload_n 1, 1), (15, .iconst 0, 1), (16, .bastore, 1), (17, .aload_n 0, 1), (18, .getfield 15, 3), (21, .iload_n 1, 1), (22, .iconst 0, 1), (23, .bastore, 1), (24, .aload_n 0, 1), (25, .getfield 18, 3), (28, .iload_n 1, 1), (29, .iconst 0, 1)]
theorem zddX8_wipe_0 : dqW lzddX8_wipe_0 (cX8_wipe.data.toList.drop 0) 0 = true := by decide +kernel
theorem dX8_wipe_0 : decode cX8_wipe 0 = .ok (.iconst 0, 1) := dq_get (L := lzddX8_wipe_0) 0 rfl zddX8_wipe_0 rfl
theorem dX8_wipe_1 : decode cX8_wipe 1 = .ok (.istore_n 1, 1) := dq_get (L := lzddX8_wipe_0) 1 rfl zddX8_wipe_0 rfl
theorem dX8_wipe_2 : decode cX8_wipe 2 = .ok (.iload_n 1, 1) := dq_get (L := lzddX8_wipe_0) 2 rfl zddX8_wipe_0 rfl
theorem dX8_wipe_3 : decode cX8_wipe 3 = .ok (.aload_n 0, 1) := dq_get (L := lzddX8_wipe_0) 3 rfl zddX8_wipe_0 rfl
theorem dX8_wipe_4 : decode cX8_wipe 4 = .ok (.getfield 46, 3) := dq_get (L := lzddX8_wipe_0) 4 rfl zddX8_wipe_0 rfl
theorem dX8_wipe_7 : decode cX8_wipe 7 = .ok (.if_icmp .ge 44, 3) := dq_get (L := lzddX8_wipe_0) 5 rfl zddX8_wipe_0 rfl
theorem dX8_wipe_10 : decode cX8_wipe 10 = .ok (.aload_n 0, 1) := dq_get (L := lzddX8_wipe_0) 6 rfl zddX8_wipe_0 rfl
theorem dX8_wipe_11 : decode cX8_wipe 11 = .ok (.getfield 9, 3) := dq_get (L := lzddX8_wipe_0) 7 rfl zddX8_wipe_0 rfl
theorem dX8_wipe_14 : decode cX8_wipe 14 = .ok (.iload_n 1, 1) := dq_get (L := lzddX8_wipe_0) 8 rfl zddX8_wipe_0 rfl
theorem dX8_wipe_15 : decode cX8_wipe 15 = .ok (.iconst 0, 1) := dq_get (L := lzddX8_wipe_0) 9 rfl zddX8_wipe_0 rfl
theorem dX8_wipe_16 : decode cX8_wipe 16 = .ok (.bastore, 1) := dq_get (L := lzddX8_wipe_0) 10 rfl zddX8_wipe_0 rfl
theorem dX8_wipe_17 : decode cX8_wipe 17 = .ok (.aload_n 0, 1) := dq_get (L := lzddX8_wipe_0) 11 rfl zddX8_wipe_0 rfl
theorem dX8_wipe_18 : decode cX8_wipe 18 = .ok (.getfield 15, 3) := dq_get (L := lzddX8_wipe_0) 12 rfl zddX8_wipe_0 rfl
theorem dX8_wipe_21 : decode cX8_wipe 21 = .ok (.iload_n 1, 1) := dq_get (L := lzddX8_wipe_0) 13 rfl zddX8_wipe_0 rfl
theorem dX8_wipe_22 : decode cX8_wipe 22 = .ok (.iconst 0, 1) := dq_get (L := lzddX8_wipe_0) 14 rfl zddX8_wipe_0 rfl
theorem dX8_wipe_23 : decode cX8_wipe 23 = .ok (.bastore, 1) := dq_get (L := lzddX8_wipe_0) 15 rfl zddX8_wipe_0 rfl
theorem dX8_wipe_24 : decode cX8_wipe 24 = .ok (.aload_n 0, 1) := dq_get (L := lzddX8_wipe_0) 16 rfl zddX8_wipe_0 rfl
theorem dX8_wipe_25 : decode cX8_wipe 25 = .ok (.getfield 18, 3) := dq_get (L := lzddX8_wipe_0) 17 rfl zddX8_wipe_0 rfl
theorem dX8_wipe_28 : decode cX8_wipe 28 = .ok (.iload_n 1, 1) := dq_get (L := lzddX8_wipe_0) 18 rfl zddX8_wipe_0 rfl
theorem dX8_wipe_29 : decode cX8_wipe 29 = .ok (.iconst 0, 1) := dq_get (L := lzddX8_wipe_0) 19 rfl zddX8_wipe_0 rfl
def lzddX8_wipe_30 : List (Nat × Instr × Nat) := [(30, .bastore, 1), (31, .aload_n 0, 1), (32, .getfield 21, 3), (35, .iload_n 1, 1), (36, .iconst 0, 1), (37, .iastore, 1), (38, .aload_n 0, 1), (39, .getfield 28, 3), (42, .iload_n 1, 1), (43, .iconst 0, 1), (44, .iastore, 1), (45, .iinc 1 1, 3), (48, .goto (-46), 3), (51, .return_, 1)]
theorem zddX8_wipe_30 : dqW lzddX8_wipe_30 (cX8_wipe.data.toList.drop 30) 30 = true := by decide +kernel
theorem dX8_wipe_30 : decode cX8_wipe 30 = .ok (.bastore, 1) := dq_get (L := lzddX8_wipe_30) 0 rfl zddX8_wipe_30 rfl
theorem dX8_wipe_31 : decode cX8_wipe 31 = .ok (.aload_n 0, 1) := dq_get (L := lzddX8_wipe_30) 1 rfl zddX8_wipe_30 rfl
theorem dX8_wipe_32 : decode cX8_wipe 32 = .ok (.getfield 21, 3) := dq_get (L := lzddX8_wipe_30) 2 rfl zddX8_wipe_30 rfl
theorem dX8_wipe_35 : decode cX8_wipe 35 = .ok (.iload_n 1, 1) := dq_get (L := lzddX8_wipe_30) 3 rfl zddX8_wipe_30 rfl
theorem dX8_wipe_36 : decode cX8_wipe 36 = .ok (.iconst 0, 1) := dq_get (L := lzddX8_wipe_30) 4 rfl zddX8_wipe_30 rfl
theorem dX8_wipe_37 : decode cX8_wipe 37 = .ok (.iastore, 1) := dq_get (L := lzddX8_wipe_30) 5 rfl zddX8_wipe_30 rfl
theorem dX8_wipe_38 : decode cX8_wipe 38 = .ok (.aload_n 0, 1) := dq_get (L := lzddX8_wipe_30) 6 rfl zddX8_wipe_30 rfl
theorem dX8_wipe_39 : decode cX8_wipe 39 = .ok (.getfield 28, 3) := dq_get (L := lzddX8_wipe_30) 7 rfl zddX8_wipe_30 rfl
theorem dX8_wipe_42 : decode cX8_wipe 42 = .ok (.iload_n 1, 1) := dq_get (L := lzddX8_wipe_30) 8 rfl zddX8_wipe_30 rfl
theorem dX8_wipe_43 : decode cX8_wipe 43 = .ok (.iconst 0, 1) := dq_get (L := lzddX8_wipe_30) 9 rfl zddX8_wipe_30 rfl
theorem dX8_wipe_44 : decode cX8_wipe 44 = .ok (.iastore, 1) := dq_get (L := lzddX8_wipe_30) 10 rfl zddX8_wipe_30 rfl
theorem dX8_wipe_45 : decode cX8_wipe 45 = .ok (.iinc 1 1, 3) := dq_get (L := lzddX8_wipe_30) 11 rfl zddX8_wipe_30 rfl
theorem dX8_wipe_48 : decode cX8_wipe 48 = .ok (.goto (-46), 3) := dq_get (L := lzddX8_wipe_30) 12 rfl zddX8_wipe_30 rfl
theorem dX8_wipe_51 : decode cX8_wipe 51 = .ok (.return_, 1) := dq_get (L := lzddX8_wipe_30) 13 rfl zddX8_wipe_30 rfl
