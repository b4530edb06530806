def lzddJ0_coder_7d493_0 : List (Nat × Instr × Nat) := [(0, .getstatic 38, 3), (3, .ifCond .eq 10, 3), (6, .aload_n 0, 1), (7, .getfield 15, 3), (10, .goto 4, 3), (13, .iconst 1, 1), (14, .ireturn, 1)]
theorem zddJ0_coder_7d493_0 : dqW lzddJ0_coder_7d493_0 (cJ0_coder_7d493.data.toList.drop 0) 0 = true := by decide +kernel
theorem dJ0_coder_7d493_0 : decode cJ0_coder_7d493 0 = .ok (.getstatic 38, 3) := dq_get (L := lzddJ0_coder_7d493_0) 0 rfl zddJ0_coder_7d493_0 rfl
theorem dJ0_coder_7d493_3 : decode cJ0_coder_7d493 3 = .ok (.ifCond .eq 10, 3) := dq_get (L := lzddJ0_coder_7d493_0) 1 rfl zddJ0_coder_7d493_0 rfl
theorem dJ0_coder_7d493_6 : decode cJ0_coder_7d493 6 = .ok (.aload_n 0, 1) := dq_get (L := lzddJ0_coder_7d493_0) 2 rfl zddJ0_coder_7d493_0 rfl
theorem dJ0_coder_7d493_7 : decode cJ0_coder_7d493 7 = .ok (.getfield 15, 3) := dq_get (L := lzddJ0_coder_7d493_0) 3 rfl zddJ0_coder_7d493_0 rfl
theorem dJ0_coder_7d493_10 : decode cJ0_coder_7d493 10 = .ok (.goto 4, 3) := dq_get (L := lzddJ0_coder_7d493_0) 4 rfl zddJ0_coder_7d493_0 rfl
theorem dJ0_coder_7d493_14 : decode cJ0_coder_7d493 14 = .ok (.ireturn, 1) := dq_get (L := lzddJ0_coder_7d493_0) 6 rfl zddJ0_coder_7d493_0 rfl
def lzddJ0_isLatin1_aae02_0 : List (Nat × Instr × Nat) := [(0, .getstatic 38, 3), (3, .ifCond .eq 14, 3), (6, .aload_n 0, 1), (7, .getfield 15, 3), (10, .ifCond .ne 7, 3), (13, .iconst 1, 1), (14, .goto 4, 3), (17, .iconst 0, 1), (18, .ireturn, 1)]
theorem zddJ0_isLatin1_aae02_0 : dqW lzddJ0_isLatin1_aae02_0 (cJ0_isLatin1_aae02.data.toList.drop 0) 0 = true := by decide +kernel
theorem dJ0_isLatin1_aae02_0 : decode cJ0_isLatin1_aae02 0 = .ok (.getstatic 38, 3) := dq_get (L := lzddJ0_isLatin1_aae02_0) 0 rfl zddJ0_isLatin1_aae02_0 rfl
theorem dJ0_isLatin1_aae02_3 : decode cJ0_isLatin1_aae02 3 = .ok (.ifCond .eq 14, 3) := dq_get (L := lzddJ0_isLatin1_aae02_0) 1 rfl zddJ0_isLatin1_aae02_0 rfl
theorem dJ0_isLatin1_aae02_6 : decode cJ0_isLatin1_aae02 6 = .ok (.aload_n 0, 1) := dq_get (L := lzddJ0_isLatin1_aae02_0) 2 rfl zddJ0_isLatin1_aae02_0 rfl
theorem dJ0_isLatin1_aae02_7 : decode cJ0_isLatin1_aae02 7 = .ok (.getfield 15, 3) := dq_get (L := lzddJ0_isLatin1_aae02_0) 3 rfl zddJ0_isLatin1_aae02_0 rfl
theorem dJ0_isLatin1_aae02_10 : decode cJ0_isLatin1_aae02 10 = .ok (.ifCond .ne 7, 3) := dq_get (L := lzddJ0_isLatin1_aae02_0) 4 rfl zddJ0_isLatin1_aae02_0 rfl
theorem dJ0_isLatin1_aae02_13 : decode cJ0_isLatin1_aae02 13 = .ok (.iconst 1, 1) := dq_get (L := lzddJ0_isLatin1_aae02_0) 5 rfl zddJ0_isLatin1_aae02_0 rfl
theorem dJ0_isLatin1_aae02_14 : decode cJ0_isLatin1_aae02 14 = .ok (.goto 4, 3) := dq_get (L := lzddJ0_isLatin1_aae02_0) 6 rfl zddJ0_isLatin1_aae02_0 rfl
theorem dJ0_isLatin1_aae02_18 : decode cJ0_isLatin1_aae02 18 = .ok (.ireturn, 1) := dq_get (L := lzddJ0_isLatin1_aae02_0) 8 rfl zddJ0_isLatin1_aae02_0 rfl
def lzddJ0_length_8abf5_0 : List (Nat × Instr × Nat) := [(0, .aload_n 0, 1), (1, .getfield 9, 3), (4, .arraylength, 1), (5, .aload_n 0, 1), (6, .invokevirtual 335, 3), (9, .ishr, 1), (10, .ireturn, 1)]
theorem zddJ0_length_8abf5_0 : dqW lzddJ0_length_8abf5_0 (cJ0_length_8abf5.data.toList.drop 0) 0 = true := by decide +kernel
theorem dJ0_length_8abf5_0 : decode cJ0_length_8abf5 0 = .ok (.aload_n 0, 1) := dq_get (L := lzddJ0_length_8abf5_0) 0 rfl zddJ0_length_8abf5_0 rfl
theorem dJ0_length_8abf5_1 : decode cJ0_length_8abf5 1 = .ok (.getfield 9, 3) := dq_get (L := lzddJ0_length_8abf5_0) 1 rfl zddJ0_length_8abf5_0 rfl
theorem dJ0_length_8abf5_4 : decode cJ0_length_8abf5 4 = .ok (.arraylength, 1) := dq_get (L := lzddJ0_length_8abf5_0) 2 rfl zddJ0_length_8abf5_0 rfl
theorem dJ0_length_8abf5_5 : decode cJ0_length_8abf5 5 = .ok (.aload_n 0, 1) := dq_get (L := lzddJ0_length_8abf5_0) 3 rfl zddJ0_length_8abf5_0 rfl
theorem dJ0_length_8abf5_6 : decode cJ0_length_8abf5 6 = .ok (.invokevirtual 335, 3) := dq_get (L := lzddJ0_length_8abf5_0) 4 rfl zddJ0_length_8abf5_0 rfl
theorem dJ0_length_8abf5_9 : decode cJ0_length_8abf5 9 = .ok (.ishr, 1) := dq_get (L := lzddJ0_length_8abf5_0) 5 rfl zddJ0_length_8abf5_0 rfl
theorem dJ0_length_8abf5_10 : decode cJ0_length_8abf5 10 = .ok (.ireturn, 1) := dq_get (L := lzddJ0_length_8abf5_0) 6 rfl zddJ0_length_8abf5_0 rfl
def lzddJ3_checkIndex_8e157_0 : List (Nat × Instr × Nat) := [(0, .iload_n 0, 1), (1, .ifCond .lt 8, 3), (4, .iload_n 0, 1), (5, .iload_n 1, 1), (6, .if_icmp .lt 10, 3), (9, .aload_n 2, 1), (10, .iload_n 0, 1), (11, .iload_n 1, 1), (12, .invokestatic 95, 3), (15, .athrow, 1), (16, .iload_n 0, 1), (17, .ireturn, 1)]
theorem zddJ3_checkIndex_8e157_0 : dqW lzddJ3_checkIndex_8e157_0 (cJ3_checkIndex_8e157.data.toList.drop 0) 0 = true := by decide +kernel
theorem dJ3_checkIndex_8e157_0 : decode cJ3_checkIndex_8e157 0 = .ok (.iload_n 0, 1) := dq_get (L := lzddJ3_checkIndex_8e157_0) 0 rfl zddJ3_checkIndex_8e157_0 rfl
theorem dJ3_checkIndex_8e157_1 : decode cJ3_checkIndex_8e157 1 = .ok (.ifCond .lt 8, 3) := dq_get (L := lzddJ3_checkIndex_8e157_0) 1 rfl zddJ3_checkIndex_8e157_0 rfl
theorem dJ3_checkIndex_8e157_4 : decode cJ3_checkIndex_8e157 4 = .ok (.iload_n 0, 1) := dq_get (L := lzddJ3_checkIndex_8e157_0) 2 rfl zddJ3_checkIndex_8e157_0 rfl
theorem dJ3_checkIndex_8e157_5 : decode cJ3_checkIndex_8e157 5 = .ok (.iload_n 1, 1) := dq_get (L := lzddJ3_checkIndex_8e157_0) 3 rfl zddJ3_checkIndex_8e157_0 rfl
theorem dJ3_checkIndex_8e157_6 : decode cJ3_checkIndex_8e157 6 = .ok (.if_icmp .lt 10, 3) := dq_get (L := lzddJ3_checkIndex_8e157_0) 4 rfl zddJ3_checkIndex_8e157_0 rfl
theorem dJ3_checkIndex_8e157_16 : decode cJ3_checkIndex_8e157 16 = .ok (.iload_n 0, 1) := dq_get (L := lzddJ3_checkIndex_8e157_0) 10 rfl zddJ3_checkIndex_8e157_0 rfl
theorem dJ3_checkIndex_8e157_17 : decode cJ3_checkIndex_8e157 17 = .ok (.ireturn, 1) := dq_get (L := lzddJ3_checkIndex_8e157_0) 11 rfl zddJ3_checkIndex_8e157_0 rfl
def lzddJ0_checkIndex_df160_0 : List (Nat × Instr × Nat) := [(0, .iload_n 0, 1), (1, .iload_n 1, 1), (2, .getstatic 1053, 3), (5, .invokestatic 1059, 3), (8, .pop, 1), (9, .return_, 1)]
theorem zddJ0_checkIndex_df160_0 : dqW lzddJ0_checkIndex_df160_0 (cJ0_checkIndex_df160.data.toList.drop 0) 0 = true := by decide +kernel
theorem dJ0_checkIndex_df160_0 : decode cJ0_checkIndex_df160 0 = .ok (.iload_n 0, 1) := dq_get (L := lzddJ0_checkIndex_df160_0) 0 rfl zddJ0_checkIndex_df160_0 rfl
theorem dJ0_checkIndex_df160_1 : decode cJ0_checkIndex_df160 1 = .ok (.iload_n 1, 1) := dq_get (L := lzddJ0_checkIndex_df160_0) 1 rfl zddJ0_checkIndex_df160_0 rfl
theorem dJ0_checkIndex_df160_2 : decode cJ0_checkIndex_df160 2 = .ok (.getstatic 1053, 3) := dq_get (L := lzddJ0_checkIndex_df160_0) 2 rfl zddJ0_checkIndex_df160_0 rfl
theorem dJ0_checkIndex_df160_5 : decode cJ0_checkIndex_df160 5 = .ok (.invokestatic 1059, 3) := dq_get (L := lzddJ0_checkIndex_df160_0) 3 rfl zddJ0_checkIndex_df160_0 rfl
theorem dJ0_checkIndex_df160_8 : decode cJ0_checkIndex_df160 8 = .ok (.pop, 1) := dq_get (L := lzddJ0_checkIndex_df160_0) 4 rfl zddJ0_checkIndex_df160_0 rfl
theorem dJ0_checkIndex_df160_9 : decode cJ0_checkIndex_df160 9 = .ok (.return_, 1) := dq_get (L := lzddJ0_checkIndex_df160_0) 5 rfl zddJ0_checkIndex_df160_0 rfl
def lzddJ1_charAt_3b067_0 : List (Nat × Instr × Nat) := [(0, .iload_n 1, 1), (1, .aload_n 0, 1), (2, .arraylength, 1), (3, .invokestatic 9, 3), (6, .aload_n 0, 1), (7, .iload_n 1, 1), (8, .baload, 1), (9, .sipush 255, 3), (12, .iand, 1), (13, .i2c, 1), (14, .ireturn, 1)]
theorem zddJ1_charAt_3b067_0 : dqW lzddJ1_charAt_3b067_0 (cJ1_charAt_3b067.data.toList.drop 0) 0 = true := by decide +kernel
theorem dJ1_charAt_3b067_0 : decode cJ1_charAt_3b067 0 = .ok (.iload_n 1, 1) := dq_get (L := lzddJ1_charAt_3b067_0) 0 rfl zddJ1_charAt_3b067_0 rfl
theorem dJ1_charAt_3b067_1 : decode cJ1_charAt_3b067 1 = .ok (.aload_n 0, 1) := dq_get (L := lzddJ1_charAt_3b067_0) 1 rfl zddJ1_charAt_3b067_0 rfl
theorem dJ1_charAt_3b067_2 : decode cJ1_charAt_3b067 2 = .ok (.arraylength, 1) := dq_get (L := lzddJ1_charAt_3b067_0) 2 rfl zddJ1_charAt_3b067_0 rfl
theorem dJ1_charAt_3b067_3 : decode cJ1_charAt_3b067 3 = .ok (.invokestatic 9, 3) := dq_get (L := lzddJ1_charAt_3b067_0) 3 rfl zddJ1_charAt_3b067_0 rfl
theorem dJ1_charAt_3b067_6 : decode cJ1_charAt_3b067 6 = .ok (.aload_n 0, 1) := dq_get (L := lzddJ1_charAt_3b067_0) 4 rfl zddJ1_charAt_3b067_0 rfl
theorem dJ1_charAt_3b067_7 : decode cJ1_charAt_3b067 7 = .ok (.iload_n 1, 1) := dq_get (L := lzddJ1_charAt_3b067_0) 5 rfl zddJ1_charAt_3b067_0 rfl
theorem dJ1_charAt_3b067_8 : decode cJ1_charAt_3b067 8 = .ok (.baload, 1) := dq_get (L := lzddJ1_charAt_3b067_0) 6 rfl zddJ1_charAt_3b067_0 rfl
theorem dJ1_charAt_3b067_9 : decode cJ1_charAt_3b067 9 = .ok (.sipush 255, 3) := dq_get (L := lzddJ1_charAt_3b067_0) 7 rfl zddJ1_charAt_3b067_0 rfl
theorem dJ1_charAt_3b067_12 : decode cJ1_charAt_3b067 12 = .ok (.iand, 1) := dq_get (L := lzddJ1_charAt_3b067_0) 8 rfl zddJ1_charAt_3b067_0 rfl
theorem dJ1_charAt_3b067_13 : decode cJ1_charAt_3b067 13 = .ok (.i2c, 1) := dq_get (L := lzddJ1_charAt_3b067_0) 9 rfl zddJ1_charAt_3b067_0 rfl
theorem dJ1_charAt_3b067_14 : decode cJ1_charAt_3b067 14 = .ok (.ireturn, 1) := dq_get (L := lzddJ1_charAt_3b067_0) 10 rfl zddJ1_charAt_3b067_0 rfl
def lzddJ0_charAt_5068e_0 : List (Nat × Instr × Nat) := [(0, .aload_n 0, 1), (1, .invokevirtual 492, 3), (4, .ifCond .eq 12, 3), (7, .aload_n 0, 1), (8, .getfield 9, 3), (11, .iload_n 1, 1), (12, .invokestatic 495, 3), (15, .ireturn, 1), (16, .aload_n 0, 1), (17, .getfield 9, 3), (20, .iload_n 1, 1), (21, .invokestatic 498, 3), (24, .ireturn, 1)]
theorem zddJ0_charAt_5068e_0 : dqW lzddJ0_charAt_5068e_0 (cJ0_charAt_5068e.data.toList.drop 0) 0 = true := by decide +kernel
theorem dJ0_charAt_5068e_0 : decode cJ0_charAt_5068e 0 = .ok (.aload_n 0, 1) := dq_get (L := lzddJ0_charAt_5068e_0) 0 rfl zddJ0_charAt_5068e_0 rfl
theorem dJ0_charAt_5068e_1 : decode cJ0_charAt_5068e 1 = .ok (.invokevirtual 492, 3) := dq_get (L := lzddJ0_charAt_5068e_0) 1 rfl zddJ0_charAt_5068e_0 rfl
theorem dJ0_charAt_5068e_4 : decode cJ0_charAt_5068e 4 = .ok (.ifCond .eq 12, 3) := dq_get (L := lzddJ0_charAt_5068e_0) 2 rfl zddJ0_charAt_5068e_0 rfl
theorem dJ0_charAt_5068e_7 : decode cJ0_charAt_5068e 7 = .ok (.aload_n 0, 1) := dq_get (L := lzddJ0_charAt_5068e_0) 3 rfl zddJ0_charAt_5068e_0 rfl
theorem dJ0_charAt_5068e_8 : decode cJ0_charAt_5068e 8 = .ok (.getfield 9, 3) := dq_get (L := lzddJ0_charAt_5068e_0) 4 rfl zddJ0_charAt_5068e_0 rfl
theorem dJ0_charAt_5068e_11 : decode cJ0_charAt_5068e 11 = .ok (.iload_n 1, 1) := dq_get (L := lzddJ0_charAt_5068e_0) 5 rfl zddJ0_charAt_5068e_0 rfl
theorem dJ0_charAt_5068e_12 : decode cJ0_charAt_5068e 12 = .ok (.invokestatic 495, 3) := dq_get (L := lzddJ0_charAt_5068e_0) 6 rfl zddJ0_charAt_5068e_0 rfl
theorem dJ0_charAt_5068e_15 : decode cJ0_charAt_5068e 15 = .ok (.ireturn, 1) := dq_get (L := lzddJ0_charAt_5068e_0) 7 rfl zddJ0_charAt_5068e_0 rfl
def lzddX7_packed_0 : List (Nat × Instr × Nat) := [(0, .lconst 0, 1), (1, .lstore_n 1, 1), (2, .iconst 0, 1), (3, .istore_n 3, 1), (4, .iload_n 3, 1), (5, .aload_n 0, 1), (6, .invokevirtual 89, 3), (9, .if_icmp .ge 28, 3), (12, .lload_n 1, 1), (13, .ldc2_w 82, 3), (16, .lmul, 1), (17, .aload_n 0, 1), (18, .iload_n 3, 1), (19, .invokevirtual 93, 3), (22, .i2l, 1), (23, .ladd, 1), (24, .ldc2_w 84, 3), (27, .lsub, 1), (28, .lconst 1, 1), (29, .ladd, 1)]
theorem zddX7_packed_0 : dqW lzddX7_packed_0 (cX7_packed.data.toList.drop 0) 0 = true := by decide +kernel
theorem dX7_packed_0 : decode cX7_packed 0 = .ok (.lconst 0, 1) := dq_get (L := lzddX7_packed_0) 0 rfl zddX7_packed_0 rfl
theorem dX7_packed_1 : decode cX7_packed 1 = .ok (.lstore_n 1, 1) := dq_get (L := lzddX7_packed_0) 1 rfl zddX7_packed_0 rfl
theorem dX7_packed_2 : decode cX7_packed 2 = .ok (.iconst 0, 1) := dq_get (L := lzddX7_packed_0) 2 rfl zddX7_packed_0 rfl
theorem dX7_packed_3 : decode cX7_packed 3 = .ok (.istore_n 3, 1) := dq_get (L := lzddX7_packed_0) 3 rfl zddX7_packed_0 rfl
theorem dX7_packed_4 : decode cX7_packed 4 = .ok (.iload_n 3, 1) := dq_get (L := lzddX7_packed_0) 4 rfl zddX7_packed_0 rfl
theorem dX7_packed_5 : decode cX7_packed 5 = .ok (.aload_n 0, 1) := dq_get (L := lzddX7_packed_0) 5 rfl zddX7_packed_0 rfl
theorem dX7_packed_6 : decode cX7_packed 6 = .ok (.invokevirtual 89, 3) := dq_get (L := lzddX7_packed_0) 6 rfl zddX7_packed_0 rfl
theorem dX7_packed_9 : decode cX7_packed 9 = .ok (.if_icmp .ge 28, 3) := dq_get (L := lzddX7_packed_0) 7 rfl zddX7_packed_0 rfl
theorem dX7_packed_12 : decode cX7_packed 12 = .ok (.lload_n 1, 1) := dq_get (L := lzddX7_packed_0) 8 rfl zddX7_packed_0 rfl
theorem dX7_packed_13 : decode cX7_packed 13 = .ok (.ldc2_w 82, 3) := dq_get (L := lzddX7_packed_0) 9 rfl zddX7_packed_0 rfl
theorem dX7_packed_16 : decode cX7_packed 16 = .ok (.lmul, 1) := dq_get (L := lzddX7_packed_0) 10 rfl zddX7_packed_0 rfl
theorem dX7_packed_17 : decode cX7_packed 17 = .ok (.aload_n 0, 1) := dq_get (L := lzddX7_packed_0) 11 rfl zddX7_packed_0 rfl
theorem dX7_packed_18 : decode cX7_packed 18 = .ok (.iload_n 3, 1) := dq_get (L := lzddX7_packed_0) 12 rfl zddX7_packed_0 rfl
theorem dX7_packed_19 : decode cX7_packed 19 = .ok (.invokevirtual 93, 3) := dq_get (L := lzddX7_packed_0) 13 rfl zddX7_packed_0 rfl
theorem dX7_packed_22 : decode cX7_packed 22 = .ok (.i2l, 1) := dq_get (L := lzddX7_packed_0) 14 rfl zddX7_packed_0 rfl
theorem dX7_packed_23 : decode cX7_packed 23 = .ok (.ladd, 1) := dq_get (L := lzddX7_packed_0) 15 rfl zddX7_packed_0 rfl
theorem dX7_packed_24 : decode cX7_packed 24 = .ok (.ldc2_w 84, 3) := dq_get (L := lzddX7_packed_0) 16 rfl zddX7_packed_0 rfl
theorem dX7_packed_27 : decode cX7_packed 27 = .ok (.lsub, 1) := dq_get (L := lzddX7_packed_0) 17 rfl zddX7_packed_0 rfl
theorem dX7_packed_28 : decode cX7_packed 28 = .ok (.lconst 1, 1) := dq_get (L := lzddX7_packed_0) 18 rfl zddX7_packed_0 rfl
theorem dX7_packed_29 : decode cX7_packed 29 = .ok (.ladd, 1) := dq_get (L := lzddX7_packed_0) 19 rfl zddX7_packed_0 rfl
def lzddX7_packed_30 : List (Nat × Instr × Nat) := [(30, .lstore_n 1, 1), (31, .iinc 3 1, 3), (34, .goto (-30), 3), (37, .lload_n 1, 1), (38, .lreturn, 1)]
theorem zddX7_packed_30 : dqW lzddX7_packed_30 (cX7_packed.data.toList.drop 30) 30 = true := by decide +kernel
theorem dX7_packed_30 : decode cX7_packed 30 = .ok (.lstore_n 1, 1) := dq_get (L := lzddX7_packed_30) 0 rfl zddX7_packed_30 rfl
theorem dX7_packed_31 : decode cX7_packed 31 = .ok (.iinc 3 1, 3) := dq_get (L := lzddX7_packed_30) 1 rfl zddX7_packed_30 rfl
theorem dX7_packed_34 : decode cX7_packed 34 = .ok (.goto (-30), 3) := dq_get (L := lzddX7_packed_30) 2 rfl zddX7_packed_30 rfl
theorem dX7_packed_37 : decode cX7_packed 37 = .ok (.lload_n 1, 1) := dq_get (L := lzddX7_packed_30) 3 rfl zddX7_packed_30 rfl
theorem dX7_packed_38 : decode cX7_packed 38 = .ok (.lreturn, 1) := dq_get (L := lzddX7_packed_30) 4 rfl zddX7_packed_30 rfl
def lzddX12_wordOf_0 : List (Nat × Instr × Nat) := [(0, .lconst 0, 1), (1, .lstore_n 1, 1), (2, .iconst 0, 1), (3, .istore_n 3, 1), (4, .iload_n 3, 1), (5, .aload_n 0, 1), (6, .invokevirtual 87, 3), (9, .if_icmp .ge 27, 3), (12, .ldc2_w 93, 3), (15, .lload_n 1, 1), (16, .lmul, 1), (17, .aload_n 0, 1), (18, .iload_n 3, 1), (19, .invokevirtual 95, 3), (22, .bipush 97, 2), (24, .isub, 1), (25, .iconst 1, 1), (26, .iadd, 1), (27, .i2l, 1), (28, .ladd, 1)]
theorem zddX12_wordOf_0 : dqW lzddX12_wordOf_0 (cX12_wordOf.data.toList.drop 0) 0 = true := by decide +kernel
theorem dX12_wordOf_0 : decode cX12_wordOf 0 = .ok (.lconst 0, 1) := dq_get (L := lzddX12_wordOf_0) 0 rfl zddX12_wordOf_0 rfl
theorem dX12_wordOf_1 : decode cX12_wordOf 1 = .ok (.lstore_n 1, 1) := dq_get (L := lzddX12_wordOf_0) 1 rfl zddX12_wordOf_0 rfl
theorem dX12_wordOf_2 : decode cX12_wordOf 2 = .ok (.iconst 0, 1) := dq_get (L := lzddX12_wordOf_0) 2 rfl zddX12_wordOf_0 rfl
theorem dX12_wordOf_3 : decode cX12_wordOf 3 = .ok (.istore_n 3, 1) := dq_get (L := lzddX12_wordOf_0) 3 rfl zddX12_wordOf_0 rfl
theorem dX12_wordOf_4 : decode cX12_wordOf 4 = .ok (.iload_n 3, 1) := dq_get (L := lzddX12_wordOf_0) 4 rfl zddX12_wordOf_0 rfl
theorem dX12_wordOf_5 : decode cX12_wordOf 5 = .ok (.aload_n 0, 1) := dq_get (L := lzddX12_wordOf_0) 5 rfl zddX12_wordOf_0 rfl
theorem dX12_wordOf_6 : decode cX12_wordOf 6 = .ok (.invokevirtual 87, 3) := dq_get (L := lzddX12_wordOf_0) 6 rfl zddX12_wordOf_0 rfl
theorem dX12_wordOf_9 : decode cX12_wordOf 9 = .ok (.if_icmp .ge 27, 3) := dq_get (L := lzddX12_wordOf_0) 7 rfl zddX12_wordOf_0 rfl
theorem dX12_wordOf_12 : decode cX12_wordOf 12 = .ok (.ldc2_w 93, 3) := dq_get (L := lzddX12_wordOf_0) 8 rfl zddX12_wordOf_0 rfl
theorem dX12_wordOf_15 : decode cX12_wordOf 15 = .ok (.lload_n 1, 1) := dq_get (L := lzddX12_wordOf_0) 9 rfl zddX12_wordOf_0 rfl
theorem dX12_wordOf_16 : decode cX12_wordOf 16 = .ok (.lmul, 1) := dq_get (L := lzddX12_wordOf_0) 10 rfl zddX12_wordOf_0 rfl
theorem dX12_wordOf_17 : decode cX12_wordOf 17 = .ok (.aload_n 0, 1) := dq_get (L := lzddX12_wordOf_0) 11 rfl zddX12_wordOf_0 rfl
theorem dX12_wordOf_18 : decode cX12_wordOf 18 = .ok (.iload_n 3, 1) := dq_get (L := lzddX12_wordOf_0) 12 rfl zddX12_wordOf_0 rfl
theorem dX12_wordOf_19 : decode cX12_wordOf 19 = .ok (.invokevirtual 95, 3) := dq_get (L := lzddX12_wordOf_0) 13 rfl zddX12_wordOf_0 rfl
theorem dX12_wordOf_22 : decode cX12_wordOf 22 = .ok (.bipush 97, 2) := dq_get (L := lzddX12_wordOf_0) 14 rfl zddX12_wordOf_0 rfl
theorem dX12_wordOf_24 : decode cX12_wordOf 24 = .ok (.isub, 1) := dq_get (L := lzddX12_wordOf_0) 15 rfl zddX12_wordOf_0 rfl
theorem dX12_wordOf_25 : decode cX12_wordOf 25 = .ok (.iconst 1, 1) := dq_get (L := lzddX12_wordOf_0) 16 rfl zddX12_wordOf_0 rfl
theorem dX12_wordOf_26 : decode cX12_wordOf 26 = .ok (.iadd, 1) := dq_get (L := lzddX12_wordOf_0) 17 rfl zddX12_wordOf_0 rfl
theorem dX12_wordOf_27 : decode cX12_wordOf 27 = .ok (.i2l, 1) := dq_get (L := lzddX12_wordOf_0) 18 rfl zddX12_wordOf_0 rfl
theorem dX12_wordOf_28 : decode cX12_wordOf 28 = .ok (.ladd, 1) := dq_get (L := lzddX12_wordOf_0) 19 rfl zddX12_wordOf_0 rfl
def lzddX12_wordOf_29 : List (Nat × Instr × Nat) := [(29, .lstore_n 1, 1), (30, .iinc 3 1, 3), (33, .goto (-29), 3), (36, .lload_n 1, 1), (37, .lreturn, 1)]
theorem zddX12_wordOf_29 : dqW lzddX12_wordOf_29 (cX12_wordOf.data.toList.drop 29) 29 = true := by decide +kernel
theorem dX12_wordOf_29 : decode cX12_wordOf 29 = .ok (.lstore_n 1, 1) := dq_get (L := lzddX12_wordOf_29) 0 rfl zddX12_wordOf_29 rfl
theorem dX12_wordOf_30 : decode cX12_wordOf 30 = .ok (.iinc 3 1, 3) := dq_get (L := lzddX12_wordOf_29) 1 rfl zddX12_wordOf_29 rfl
theorem dX12_wordOf_33 : decode cX12_wordOf 33 = .ok (.goto (-29), 3) := dq_get (L := lzddX12_wordOf_29) 2 rfl zddX12_wordOf_29 rfl
theorem dX12_wordOf_36 : decode cX12_wordOf 36 = .ok (.lload_n 1, 1) := dq_get (L := lzddX12_wordOf_29) 3 rfl zddX12_wordOf_29 rfl
theorem dX12_wordOf_37 : decode cX12_wordOf 37 = .ok (.lreturn, 1) := dq_get (L := lzddX12_wordOf_29) 4 rfl zddX12_wordOf_29 rfl
def lzddX12_bits_0 : List (Nat × Instr × Nat) := [(0, .iconst 0, 1), (1, .istore_n 1, 1), (2, .iload_n 0, 1), (3, .istore_n 2, 1), (4, .iload_n 2, 1), (5, .ifCond .eq 15, 3), (8, .iinc 1 1, 3), (11, .iload_n 2, 1), (12, .iload_n 2, 1), (13, .iconst 1, 1), (14, .isub, 1), (15, .iand, 1), (16, .istore_n 2, 1), (17, .goto (-13), 3), (20, .iload_n 1, 1), (21, .ireturn, 1)]
theorem zddX12_bits_0 : dqW lzddX12_bits_0 (cX12_bits.data.toList.drop 0) 0 = true := by decide +kernel
theorem dX12_bits_0 : decode cX12_bits 0 = .ok (.iconst 0, 1) := dq_get (L := lzddX12_bits_0) 0 rfl zddX12_bits_0 rfl
theorem dX12_bits_1 : decode cX12_bits 1 = .ok (.istore_n 1, 1) := dq_get (L := lzddX12_bits_0) 1 rfl zddX12_bits_0 rfl
theorem dX12_bits_2 : decode cX12_bits 2 = .ok (.iload_n 0, 1) := dq_get (L := lzddX12_bits_0) 2 rfl zddX12_bits_0 rfl
theorem dX12_bits_3 : decode cX12_bits 3 = .ok (.istore_n 2, 1) := dq_get (L := lzddX12_bits_0) 3 rfl zddX12_bits_0 rfl
theorem dX12_bits_4 : decode cX12_bits 4 = .ok (.iload_n 2, 1) := dq_get (L := lzddX12_bits_0) 4 rfl zddX12_bits_0 rfl
theorem dX12_bits_5 : decode cX12_bits 5 = .ok (.ifCond .eq 15, 3) := dq_get (L := lzddX12_bits_0) 5 rfl zddX12_bits_0 rfl
theorem dX12_bits_8 : decode cX12_bits 8 = .ok (.iinc 1 1, 3) := dq_get (L := lzddX12_bits_0) 6 rfl zddX12_bits_0 rfl
theorem dX12_bits_11 : decode cX12_bits 11 = .ok (.iload_n 2, 1) := dq_get (L := lzddX12_bits_0) 7 rfl zddX12_bits_0 rfl
theorem dX12_bits_12 : decode cX12_bits 12 = .ok (.iload_n 2, 1) := dq_get (L := lzddX12_bits_0) 8 rfl zddX12_bits_0 rfl
theorem dX12_bits_13 : decode cX12_bits 13 = .ok (.iconst 1, 1) := dq_get (L := lzddX12_bits_0) 9 rfl zddX12_bits_0 rfl
theorem dX12_bits_14 : decode cX12_bits 14 = .ok (.isub, 1) := dq_get (L := lzddX12_bits_0) 10 rfl zddX12_bits_0 rfl
theorem dX12_bits_15 : decode cX12_bits 15 = .ok (.iand, 1) := dq_get (L := lzddX12_bits_0) 11 rfl zddX12_bits_0 rfl
theorem dX12_bits_16 : decode cX12_bits 16 = .ok (.istore_n 2, 1) := dq_get (L := lzddX12_bits_0) 12 rfl zddX12_bits_0 rfl
theorem dX12_bits_17 : decode cX12_bits 17 = .ok (.goto (-13), 3) := dq_get (L := lzddX12_bits_0) 13 rfl zddX12_bits_0 rfl
theorem dX12_bits_20 : decode cX12_bits 20 = .ok (.iload_n 1, 1) := dq_get (L := lzddX12_bits_0) 14 rfl zddX12_bits_0 rfl
theorem dX12_bits_21 : decode cX12_bits 21 = .ok (.ireturn, 1) := dq_get (L := lzddX12_bits_0) 15 rfl zddX12_bits_0 rfl
theorem lf17_9 : Cond.fieldLink (cz_on 17) 9 "java/lang/String" "value" "[B" ∈ cz_T := cz_in (i := 2090) (by decide +kernel) rfl
theorem lf17_15 : Cond.fieldLink (cz_on 17) 15 "java/lang/String" "coder" "B" ∈ cz_T := cz_in (i := 2091) (by decide +kernel) rfl
theorem lf17_38 : Cond.fieldLink (cz_on 17) 38 "java/lang/String" "COMPACT_STRINGS" "Z" ∈ cz_T := cz_in (i := 706) (by decide +kernel) rfl
theorem lf17_1053 : Cond.fieldLink (cz_on 17) 1053 "jdk/internal/util/Preconditions" "SIOOBE_FORMATTER" "Ljava/util/function/BiFunction;" ∈ cz_T := cz_in (i := 722) (by decide +kernel) rfl
section CzStr
variable {X : cz_X} {M : cz_M} {pc : Nat} {ls : Nat → Option Value} {st : List Value} {cn : Nat} {K N : Nat → Nat} {I : cz_I} {R : cz_R} {L : cz_L} {n w : Nat}
theorem q_mmax {x y : Int32} {idx : Nat} (hd : decode (cz_cc M) pc = .ok (.invokestatic idx, 3)) (hlk : Cond.methodLink (cz_on M.1) idx (cz_nm mJ9_max_7cf53) ∈ cz_T) (hf : 1 ≤ (cz_rm M).frames) (hlo : (st.map fun v => v.category).sum + 13 ≤ (cz_rm M).locals) (hn : n ≤ (cz_rm M).cells) (hw : w ≤ (cz_rm M).slots) (k : ∀ v : Int32, (v.toInt = x.toInt ∨ v.toInt = y.toInt) ∧ x.toInt ≤ v.toInt ∧ y.toInt ≤ v.toInt → Tr X M (pc + 3) ls (.int v :: st) cn K N I R L n w) : Tr X M pc ls (.int y :: .int x :: st) cn K N I R L n w := by
  have hv : ((if x < y then y else x).toInt = x.toInt ∨ (if x < y then y else x).toInt = y.toInt) ∧ x.toInt ≤ (if x < y then y else x).toInt ∧ y.toInt ≤ (if x < y then y else x).toInt := by
    split
    · rename_i h; have := Int32.lt_iff_toInt_lt.mp h; exact om_b3332365 this
    · rename_i h; have := Int32.le_iff_toInt_le.mp (Int32.not_lt.mp h); exact om_5bc89166 this
  have hk := k _ hv
  obtain ⟨p, l, e, s, m, args, below, meth, c, A, Z, g⟩ := X
  intro hC H locs arr hR hS hl
  have hts := hC.2.2.2.2.1
  have hcd := hts _ myJ9_max_7cf53.2.1
  exact va_mmax hC.1 hC.2.1 (hC.2.2.1.trans hl.1.symm) hC.2.2.2.1 (hts _ hlk) (hts _ inJ9_max_7cf53) (hts _ myJ9_max_7cf53.2.2.1) hcd hf (by rw [cz_rn_sum]; exact hlo) hn hw hd (hk hC H locs arr hR hS hl)
theorem q_mmin {x y : Int32} {idx : Nat} (hd : decode (cz_cc M) pc = .ok (.invokestatic idx, 3)) (hlk : Cond.methodLink (cz_on M.1) idx (cz_nm mJ9_min_7cf53) ∈ cz_T) (hf : 1 ≤ (cz_rm M).frames) (hlo : (st.map fun v => v.category).sum + 13 ≤ (cz_rm M).locals) (hn : n ≤ (cz_rm M).cells) (hw : w ≤ (cz_rm M).slots) (k : ∀ v : Int32, (v.toInt = x.toInt ∨ v.toInt = y.toInt) ∧ v.toInt ≤ x.toInt ∧ v.toInt ≤ y.toInt → Tr X M (pc + 3) ls (.int v :: st) cn K N I R L n w) : Tr X M pc ls (.int y :: .int x :: st) cn K N I R L n w := by
  have hv : ((if y < x then y else x).toInt = x.toInt ∨ (if y < x then y else x).toInt = y.toInt) ∧ (if y < x then y else x).toInt ≤ x.toInt ∧ (if y < x then y else x).toInt ≤ y.toInt := by
    split
    · rename_i h; have := Int32.lt_iff_toInt_lt.mp h; exact om_acd9e6f8 this
    · rename_i h; have := Int32.le_iff_toInt_le.mp (Int32.not_lt.mp h); exact om_a6a7691e this
  have hk := k _ hv
  obtain ⟨p, l, e, s, m, args, below, meth, c, A, Z, g⟩ := X
  intro hC H locs arr hR hS hl
  have hts := hC.2.2.2.2.1
  have hcd := hts _ myJ9_min_7cf53.2.1
  exact va_mmin hC.1 hC.2.1 (hC.2.2.1.trans hl.1.symm) hC.2.2.2.1 (hts _ hlk) (hts _ inJ9_min_7cf53) (hts _ myJ9_min_7cf53.2.2.1) hcd hf (by rw [cz_rn_sum]; exact hlo) hn hw hd (hk hC H locs arr hR hS hl)
/-! ===== texts ===== -/
theorem cz_sv {u : UInt32} (hu : u.toNat < cz_NS) : (u + 2000000).toNat = 2000000 + u.toNat := by
  rw [UInt32.toNat_add]
  have e : (2000000 : UInt32).toNat = 2000000 := rfl
  have e2 : cz_NS = 27 := rfl
  rw [e]; omega
theorem cz_rnv {g : cz_G} {u : UInt32} (hu : u.toNat < cz_NS) : cz_rn g (.float (u + 2000000)) = .ref (cz_sa g (2000000 + u.toNat)) := by
  show Value.ref (cz_sa g (u + 2000000).toNat) = _
  rw [cz_sv hu]
theorem tr_sval {u : UInt32} {idx : Nat} (hE : cz_env X) (hu : u.toNat < cz_NS) (hd : decode (cz_cc M) pc = .ok (.getfield idx, 3)) (hlk : Cond.fieldLink (cz_on M.1) idx "java/lang/String" "value" "[B" ∈ cz_T) (k : Tr X M (pc + 3) ls (.float (u + 2000000) :: st) cn K N I R L n w) : Tr X M pc ls (.float u :: st) cn K N I R L n w := by
  obtain ⟨p, l, e, s, m, args, below, meth, c, A, Z, g⟩ := X
  intro hC H locs arr hR hS hl
  have hE : cz_En g A s s.heap := hE
  have hk := k hC H locs arr hR hS hl
  rw [List.map_cons, cz_rnv hu] at hk
  exact vk_getf hC.1 hC.2.1 (hE.1.1 u.toNat hu).2.2.1 hS hC.2.2.2.1 (hC.2.2.2.2.1 _ hlk) (fun _ h => h) hd hk
theorem tr_scod {u : UInt32} {idx : Nat} (hE : cz_env X) (hu : u.toNat < cz_NS) (hd : decode (cz_cc M) pc = .ok (.getfield idx, 3)) (hlk : Cond.fieldLink (cz_on M.1) idx "java/lang/String" "coder" "B" ∈ cz_T) (k : Tr X M (pc + 3) ls (.int 0 :: st) cn K N I R L n w) : Tr X M pc ls (.float u :: st) cn K N I R L n w := by
  obtain ⟨p, l, e, s, m, args, below, meth, c, A, Z, g⟩ := X
  intro hC H locs arr hR hS hl
  have hE : cz_En g A s s.heap := hE
  have hk := k hC H locs arr hR hS hl
  exact vk_getf hC.1 hC.2.1 (hE.1.1 u.toNat hu).2.1 hS hC.2.2.2.1 (hC.2.2.2.2.1 _ hlk) (fun _ h => h) hd hk
theorem tr_scmp {idx : Nat} (hE : cz_env X) (hd : decode (cz_cc M) pc = .ok (.getstatic idx, 3)) (hlk : Cond.fieldLink (cz_on M.1) idx "java/lang/String" "COMPACT_STRINGS" "Z" ∈ cz_T) (k : Tr X M (pc + 3) ls (.int 1 :: st) cn K N I R L n w) : Tr X M pc ls st cn K N I R L n w := by
  obtain ⟨p, l, e, s, m, args, below, meth, c, A, Z, g⟩ := X
  intro hC H locs arr hR hS hl
  have hE : cz_En g A s s.heap := hE
  have hk := k hC H locs arr hR hS hl
  exact va_gets hC.1 hC.2.1 hE.2.1 hS hC.2.2.2.1 (hC.2.2.2.2.1 _ hlk) (fun _ h => h) hd hk
theorem tr_sfmt {idx : Nat} (hE : cz_env X) (hd : decode (cz_cc M) pc = .ok (.getstatic idx, 3)) (hlk : Cond.fieldLink (cz_on M.1) idx "jdk/internal/util/Preconditions" "SIOOBE_FORMATTER" "Ljava/util/function/BiFunction;" ∈ cz_T) (k1 : Tr X M (pc + 3) ls (.null :: st) cn K N I R L n w) (k2 : Tr X M (pc + 3) ls (.float 3000000 :: st) cn K N I R L n w) : Tr X M pc ls st cn K N I R L n w := by
  obtain ⟨p, l, e, s, m, args, below, meth, c, A, Z, g⟩ := X
  intro hC H locs arr hR hS hl
  have hE : cz_En g A s s.heap := hE
  rcases hE.2.2 with hz | hz
  · exact va_gets hC.1 hC.2.1 hz hS hC.2.2.2.1 (hC.2.2.2.2.1 _ hlk) (fun _ h => h) hd (k1 hC H locs arr hR hS hl)
  · exact va_gets hC.1 hC.2.1 hz hS hC.2.2.2.1 (hC.2.2.2.2.1 _ hlk) (fun _ h => h) hd (k2 hC H locs arr hR hS hl)
theorem tr_svl {u : UInt32} (hE : cz_env X) (hu : u.toNat < cz_NS) (hd : decode (cz_cc M) pc = .ok (.arraylength, 1)) (k : Tr X M (pc + 1) ls (.int (Int32.ofNat (cz_slen.getD u.toNat 0)) :: st) cn K N I R L n w) : Tr X M pc ls (.float (u + 2000000) :: st) cn K N I R L n w := by
  obtain ⟨p, l, e, s, m, args, below, meth, c, A, Z, g⟩ := X
  intro hC H locs arr hR hS hl
  have hE : cz_En g A s s.heap := hE
  rw [List.map_cons, cz_rnv hu]
  exact va_tlen hC.1 hC.2.1 (hE.1.1 u.toNat hu).2.2.2 hS rfl hd (k hC H locs arr hR hS hl)
theorem tr_svb {u : UInt32} {i : Int32} (hE : cz_env X) (hu : u.toNat < cz_NS) (hd : decode (cz_cc M) pc = .ok (.baload, 1)) (hi : vp_in i (cz_slen.getD u.toNat 0)) (k : Tr X M (pc + 1) ls (.int ((cz_sbyt.getD u.toNat []).getD i.toNatClampNeg 0) :: st) cn K N I R L n w) : Tr X M pc ls (.int i :: .float (u + 2000000) :: st) cn K N I R L n w := by
  obtain ⟨p, l, e, s, m, args, below, meth, c, A, Z, g⟩ := X
  intro hC H locs arr hR hS hl
  have hE : cz_En g A s s.heap := hE
  rw [List.map_cons, List.map_cons, cz_rnv hu]
  exact va_tb hC.1 hC.2.1 (hE.1.1 u.toNat hu).2.2.2 hS hi rfl hd (k hC H locs arr hR hS hl)
theorem tr_nret {Q : cz_Q} {x : Int32} {ty : FieldType} (hZ : cz_Z X M Q) (hd : decode (cz_cc M) pc = .ok (.ireturn, 1)) (hrt : cz_rt M = some ty) (hx : narrow ty (.int x) = .int x) (hn : n ≤ (cz_rm M).cells) (hw : w ≤ (cz_rm M).slots) (hq : Q (some (.int x)) cn K N I R L) : Tr X M pc ls ([.int x]) cn K N I R L n w := by
  obtain ⟨p, l, e, s, m, args, below, meth, c, A, Z, g⟩ := X
  intro hC H locs arr hR hS hl
  have hZ : Z = _ := hZ
  subst hZ
  have hlocks : meth.locks = false := hC.2.2.2.2.2.2.1
  refine W.widen hn hw ?_
  exact W.zret (v := x) hC.1 hC.2.1 (hC.2.2.2.2.2.1.trans hrt) hx (fun t ht hW => ⟨⟨some (.int x), cn, K, N, I, R, L, rfl, hq, by rw [ht]; exact hR⟩, hS.F ht⟩) hS.2.2 hd
theorem q_callT {M' : cz_M} {P : Int32 → Nat → (Nat → Nat) → (Nat → Nat) → cz_I → cz_R → cz_L → Prop} {as : List Value} {u : UInt32} {np idx : Nat} (hE : cz_env X) (hu : u.toNat < cz_NS) (hd : decode (cz_cc M) pc = .ok (.invokevirtual idx, 3)) (hlk : Cond.methodLink (cz_on M.1) idx (cz_nm M') ∈ cz_T) (hin : Cond.instanceMethod (cz_nm M') ∈ cz_T) (hse : Cond.selects (cz_on 17) (cz_nm M') (cz_nm M') ∈ cz_T) (hmy : cz_my M' 17 np) (hrm : cz_room M M') (hnp : as.length = np) (hst : (st.map fun v => v.category).sum ≤ 8) (hc0 : (cz_rm M').cells = 0) (hs0 : (cz_rm M').slots = 0) (hn : n ≤ (cz_rm M).cells) (hw : w ≤ (cz_rm M).slots)
    (hCon : ConE X.2.1 M' (.float u :: as) cn K N I R L (ca_i P)) (kk : ∀ (v : Int32) (cn' : Nat) (K' N' : Nat → Nat) (I' : cz_I) (R' : cz_R) (L' : cz_L), P v cn' K' N' I' R' L' → Tr X M (pc + 3) ls (.int v :: st) cn' K' N' I' R' L' n w) : Tr X M pc ls (as.reverse ++ .float u :: st) cn K N I R L n w := by
  have kk2 : ∀ r cn' K' N' I' R' L', (ca_i P) r cn' K' N' I' R' L' → Tr X M (pc + 3) ls (r.toList ++ st) cn' K' N' I' R' L' (n + (cz_rm M').cells) (w + (cz_rm M').slots) := by
    intro r cn' K' N' I' R' L' h
    rw [hc0, hs0]
    obtain ⟨v, rfl, hq⟩ := h
    exact kk _ _ _ _ _ _ _ hq
  have hn2 : n + (cz_rm M').cells ≤ (cz_rm M).cells := by rw [hc0]; exact hn
  have hw2 : w + (cz_rm M').slots ≤ (cz_rm M).slots := by rw [hs0]; exact hw
  clear kk
  obtain ⟨p, l, e, s, m, args, below, meth, c, A, Z, g⟩ := X
  intro hC H locs arr hR hS hl
  have hE : cz_En g A s s.heap := hE
  have hts := hC.2.2.2.2.1
  obtain ⟨y1, y2, y3, y4⟩ := hmy
  have hcb := callB_of (R := cz_rm M) (own := cz_on M.1) (index := idx) np hts (cz_good y2) rfl rfl rfl (by rw [y1]; exact hts _ y3) (hts _ hlk) y4 ⟨hrm.1, hrm.2⟩
  have hre := vk_recv hE.1 hu hS
  rw [cz_stk, List.map_cons]
  exact cz_after hC hR hS hl (va_runV (C := cz_on 17) (b := cz_sa g u.toNat) (As := as.map (cz_rn g)) ⟨hC.1, hC.2.1, hC.2.2.1, hC.2.2.2.1, hts⟩ (hCon g H.size) ⟨hcb, hts _ hin, hts _ hse⟩ ⟨cz_PcE_blind, hre, cz_preE (as := .float u :: as) hC hR hS hE⟩ rfl (by rw [List.length_map]; exact hnp) hl.1 rfl (cz_rest g hst) hd ⟨hn2, hw2⟩) kk2
end CzStr
section CzStrC
variable {l : Launch} {cn : Nat} {K N : Nat → Nat} {I : cz_I} {R : cz_R} {L : cz_L} {u : UInt32}
/-- nothing has changed -/
abbrev cz_same (cn : Nat) (K N : Nat → Nat) (I : cz_I) (R : cz_R) (L : cz_L) (cn' : Nat) (K' N' : Nat → Nat) (I' : cz_I) (R' : cz_R) (L' : cz_L) : Prop := cn = cn' ∧ K = K' ∧ N = N' ∧ I = I' ∧ R = R' ∧ L = L'
theorem c_coder (hu : u.toNat < cz_NS) : ConE l mJ0_coder_7d493 [.float u] cn K N I R L (ca_i (fun v cn' K' N' I' R' L' => v = 0 ∧ cz_same cn K N I R L cn' K' N' I' R' L')) := by
  refine ConE.of (by decide +kernel) rfl (Nat.le_of_ble_eq_true rfl) rfl (fun X hX hZ hE => ?_)
  refine tr_scmp hE dJ0_coder_7d493_0 lf17_38 ?_
  refine tr_if_eq 13 dJ0_coder_7d493_3 (by decide) (fun h => absurd h (by decide)) (fun _ => ?_)
  refine tr_aload_nS dJ0_coder_7d493_6 rfl ?_
  refine tr_scod hE hu dJ0_coder_7d493_7 lf17_15 ?_
  refine tr_goto 14 dJ0_coder_7d493_10 (by decide) ?_
  exact tr_nret hZ dJ0_coder_7d493_14 rfl (by decide +kernel) (by decide) (by decide) ⟨_, rfl, rfl, rfl, rfl, rfl, rfl, rfl, rfl⟩
theorem c_isLatin1 (hu : u.toNat < cz_NS) : ConE l mJ0_isLatin1_aae02 [.float u] cn K N I R L (ca_i (fun v cn' K' N' I' R' L' => v = 1 ∧ cz_same cn K N I R L cn' K' N' I' R' L')) := by
  refine ConE.of (by decide +kernel) rfl (Nat.le_of_ble_eq_true rfl) rfl (fun X hX hZ hE => ?_)
  refine tr_scmp hE dJ0_isLatin1_aae02_0 lf17_38 ?_
  refine tr_if_eq 17 dJ0_isLatin1_aae02_3 (by decide) (fun h => absurd h (by decide)) (fun _ => ?_)
  refine tr_aload_nS dJ0_isLatin1_aae02_6 rfl ?_
  refine tr_scod hE hu dJ0_isLatin1_aae02_7 lf17_15 ?_
  refine tr_if_ne 17 dJ0_isLatin1_aae02_10 (by decide) (fun h => absurd rfl h) (fun _ => ?_)
  refine tr_iconst (v := 1) dJ0_isLatin1_aae02_13 (by decide +kernel) ?_
  refine tr_goto 18 dJ0_isLatin1_aae02_14 (by decide) ?_
  exact tr_nret hZ dJ0_isLatin1_aae02_18 rfl (by decide +kernel) (by decide) (by decide) ⟨_, rfl, rfl, rfl, rfl, rfl, rfl, rfl, rfl⟩
theorem cz_shr0 (x : Int32) : x >>> ((0 : Int32) &&& 31) = x := by
  apply Int32.toBitVec_inj.mp
  simp
theorem c_length (hu : u.toNat < cz_NS) : ConE l mJ0_length_8abf5 [.float u] cn K N I R L (ca_i (fun v cn' K' N' I' R' L' => v = Int32.ofNat (cz_slen.getD u.toNat 0) ∧ cz_same cn K N I R L cn' K' N' I' R' L')) := by
  refine ConE.of (by decide +kernel) rfl (Nat.le_of_ble_eq_true rfl) rfl (fun X hX hZ hE => ?_)
  subst hX
  refine tr_aload_nS dJ0_length_8abf5_0 rfl ?_
  refine tr_sval hE hu dJ0_length_8abf5_1 lf17_9 ?_
  refine tr_svl hE hu dJ0_length_8abf5_4 ?_
  refine tr_aload_nS dJ0_length_8abf5_5 rfl ?_
  refine q_callT (M' := mJ0_coder_7d493) (as := []) hE hu dJ0_length_8abf5_6 lk17_335 inJ0_coder_7d493 seJ0_coder_7d493 myJ0_coder_7d493 ⟨by decide, by decide⟩ rfl (Nat.le_of_ble_eq_true rfl) rfl rfl (by decide) (by decide) (c_coder hu) ?_
  rintro v cn' K' N' I' R' L' ⟨rfl, rfl, rfl, rfl, rfl, rfl, rfl⟩
  refine tr_ishr dJ0_length_8abf5_9 ?_
  exact tr_iret hZ dJ0_length_8abf5_10 rfl (by decide) (by decide) ⟨_, rfl, cz_shr0 _, rfl, rfl, rfl, rfl, rfl, rfl⟩
theorem c_J3 {i z : Int32} {f : Value} (hf : f = .null ∨ f = .float 3000000) (h0 : ¬ i < 0) (h1 : i < z) : ConE l mJ3_checkIndex_8e157 [.int i, .int z, f] cn K N I R L (ca_i (fun v cn' K' N' I' R' L' => v = i ∧ cz_same cn K N I R L cn' K' N' I' R' L')) := by
  have hlen : (lg_sl [.int i, .int z, f]).length ≤ cz_nL mJ3_checkIndex_8e157 := by rcases hf with rfl | rfl <;> exact Nat.le_of_ble_eq_true rfl
  have hlg : (lv_args 0 [.int i, .int z, f]).all (fun q => !(q.2.category == 2) || (cz_lg mJ3_checkIndex_8e157).contains q.1) = true := by rcases hf with rfl | rfl <;> rfl
  refine ConE.of (by decide +kernel) rfl hlen hlg (fun X hX hZ hE => ?_)
  refine tr_iload_n dJ3_checkIndex_8e157_0 rfl ?_
  refine tr_if_lt 9 dJ3_checkIndex_8e157_1 (by decide) (fun h => absurd h h0) (fun _ => ?_)
  refine tr_iload_n dJ3_checkIndex_8e157_4 rfl ?_
  refine tr_iload_n dJ3_checkIndex_8e157_5 rfl ?_
  refine tr_icmp_lt 16 dJ3_checkIndex_8e157_6 (by decide) (fun _ => ?_) (fun h => absurd h1 h)
  refine tr_iload_n dJ3_checkIndex_8e157_16 rfl ?_
  exact tr_iret hZ dJ3_checkIndex_8e157_17 rfl (by decide) (by decide) ⟨_, rfl, rfl, rfl, rfl, rfl, rfl, rfl, rfl⟩
theorem c_check {i z : Int32} (h0 : ¬ i < 0) (h1 : i < z) : ConE l mJ0_checkIndex_df160 [.int i, .int z] cn K N I R L (ca_v (fun cn' K' N' I' R' L' => cz_same cn K N I R L cn' K' N' I' R' L')) := by
  refine ConE.of (by decide +kernel) rfl (Nat.le_of_ble_eq_true rfl) rfl (fun X hX hZ hE => ?_)
  subst hX
  refine tr_iload_n dJ0_checkIndex_df160_0 rfl ?_
  refine tr_iload_n dJ0_checkIndex_df160_1 rfl ?_
  refine tr_sfmt hE dJ0_checkIndex_df160_2 lf17_1053 ?_ ?_
  · refine q_callSi hE (M' := mJ3_checkIndex_8e157) (as := [_, _, _]) dJ0_checkIndex_df160_5 lk17_1059 inJ3_checkIndex_8e157 myJ3_checkIndex_8e157 ⟨by decide, by decide⟩ rfl (Nat.le_of_ble_eq_true rfl) rfl rfl (by decide) (by decide) (c_J3 (Or.inl rfl) h0 h1) ?_
    rintro v cn' K' N' I' R' L' ⟨rfl, rfl, rfl, rfl, rfl, rfl, rfl⟩
    refine tr_pop dJ0_checkIndex_df160_8 rfl ?_
    exact tr_vret hZ dJ0_checkIndex_df160_9 rfl (by decide) (by decide) ⟨rfl, rfl, rfl, rfl, rfl, rfl, rfl⟩
  · refine q_callSi hE (M' := mJ3_checkIndex_8e157) (as := [_, _, _]) dJ0_checkIndex_df160_5 lk17_1059 inJ3_checkIndex_8e157 myJ3_checkIndex_8e157 ⟨by decide, by decide⟩ rfl (Nat.le_of_ble_eq_true rfl) rfl rfl (by decide) (by decide) (c_J3 (Or.inr rfl) h0 h1) ?_
    rintro v cn' K' N' I' R' L' ⟨rfl, rfl, rfl, rfl, rfl, rfl, rfl⟩
    refine tr_pop dJ0_checkIndex_df160_8 rfl ?_
    exact tr_vret hZ dJ0_checkIndex_df160_9 rfl (by decide) (by decide) ⟨rfl, rfl, rfl, rfl, rfl, rfl, rfl⟩
/-- the char of a text -/
def cz_sch (u : Nat) (i : Nat) : Int32 := ((((cz_sbyt.getD u []).getD i 0) &&& 255).toUInt32 % 65536).toInt32
theorem cz_schn : ∀ u < 27, ∀ i < 31, narrow .char (.int (cz_sch u i)) = .int (cz_sch u i) := by decide +kernel
theorem cz_slb : ∀ u < 27, cz_slen.getD u 0 ≤ 30 := by decide +kernel
theorem cz_sli : ∀ u < 27, (Int32.ofNat (cz_slen.getD u 0)).toInt = (cz_slen.getD u 0 : Int) := by decide +kernel
theorem c_J1 {i : Int32} (hu : u.toNat < cz_NS) (h0 : 0 ≤ i.toInt) (h1 : i.toInt < (cz_slen.getD u.toNat 0 : Int)) : ConE l mJ1_charAt_3b067 [.float (u + 2000000), .int i] cn K N I R L (ca_i (fun v cn' K' N' I' R' L' => v = cz_sch u.toNat i.toNatClampNeg ∧ cz_same cn K N I R L cn' K' N' I' R' L')) := by
  have hb := cz_slb u.toNat hu
  have hl := cz_sli u.toNat hu
  have hc : i.toNatClampNeg = i.toInt.toNat := rfl
  refine ConE.of (by decide +kernel) rfl (Nat.le_of_ble_eq_true rfl) rfl (fun X hX hZ hE => ?_)
  subst hX
  refine tr_iload_n dJ1_charAt_3b067_0 rfl ?_
  refine tr_aload_nS dJ1_charAt_3b067_1 rfl ?_
  refine tr_svl hE hu dJ1_charAt_3b067_2 ?_
  refine q_callSv hE (M' := mJ0_checkIndex_df160) (as := [_, _]) dJ1_charAt_3b067_3 lk18_9 inJ0_checkIndex_df160 myJ0_checkIndex_df160 ⟨by decide, by decide⟩ rfl (Nat.le_of_ble_eq_true rfl) rfl rfl (by decide) (by decide) (c_check (fun q => by have := Int32.lt_iff_toInt_lt.mp q; have e : (0 : Int32).toInt = 0 := rfl; exact om_c0f0e90c h0 this e) (Int32.lt_iff_toInt_lt.mpr (by rw [hl]; exact h1))) ?_
  rintro cn' K' N' I' R' L' ⟨rfl, rfl, rfl, rfl, rfl, rfl⟩
  refine tr_aload_nS dJ1_charAt_3b067_6 rfl ?_
  refine tr_iload_n dJ1_charAt_3b067_7 rfl ?_
  refine tr_svb hE hu dJ1_charAt_3b067_8 (ti_in rfl h0 h1) ?_
  refine tr_sipush (v := 255) dJ1_charAt_3b067_9 (by decide +kernel) ?_
  refine tr_iand dJ1_charAt_3b067_12 ?_
  refine tr_i2c dJ1_charAt_3b067_13 ?_
  exact tr_nret hZ dJ1_charAt_3b067_14 rfl (cz_schn u.toNat hu i.toNatClampNeg (by exact om_269ccc33 h1 hb hl hc)) (by decide) (by decide) ⟨_, rfl, rfl, rfl, rfl, rfl, rfl, rfl, rfl⟩
theorem c_charAt {i : Int32} (hu : u.toNat < cz_NS) (h0 : 0 ≤ i.toInt) (h1 : i.toInt < (cz_slen.getD u.toNat 0 : Int)) : ConE l mJ0_charAt_5068e [.float u, .int i] cn K N I R L (ca_i (fun v cn' K' N' I' R' L' => v = cz_sch u.toNat i.toNatClampNeg ∧ cz_same cn K N I R L cn' K' N' I' R' L')) := by
  have hb := cz_slb u.toNat hu
  have hc : i.toNatClampNeg = i.toInt.toNat := rfl
  refine ConE.of (by decide +kernel) rfl (Nat.le_of_ble_eq_true rfl) rfl (fun X hX hZ hE => ?_)
  subst hX
  refine tr_aload_nS dJ0_charAt_5068e_0 rfl ?_
  refine q_callT (M' := mJ0_isLatin1_aae02) (as := []) hE hu dJ0_charAt_5068e_1 lk17_492 inJ0_isLatin1_aae02 seJ0_isLatin1_aae02 myJ0_isLatin1_aae02 ⟨by decide, by decide⟩ rfl (Nat.le_of_ble_eq_true rfl) rfl rfl (by decide) (by decide) (c_isLatin1 hu) ?_
  rintro v cn' K' N' I' R' L' ⟨rfl, rfl, rfl, rfl, rfl, rfl, rfl⟩
  refine tr_if_eq 16 dJ0_charAt_5068e_4 (by decide) (fun h => absurd h (by decide)) (fun _ => ?_)
  refine tr_aload_nS dJ0_charAt_5068e_7 rfl ?_
  refine tr_sval hE hu dJ0_charAt_5068e_8 lf17_9 ?_
  refine tr_iload_n dJ0_charAt_5068e_11 rfl ?_
  refine q_callSi hE (M' := mJ1_charAt_3b067) (as := [_, _]) dJ0_charAt_5068e_12 lk17_495 inJ1_charAt_3b067 myJ1_charAt_3b067 ⟨by decide, by decide⟩ rfl (Nat.le_of_ble_eq_true rfl) rfl rfl (by decide) (by decide) (c_J1 hu h0 h1) ?_
  rintro v cn' K' N' I' R' L' ⟨rfl, rfl, rfl, rfl, rfl, rfl, rfl⟩
  exact tr_nret hZ dJ0_charAt_5068e_15 rfl (cz_schn u.toNat hu i.toNatClampNeg (by exact om_9392aaf4 h1 hb hc)) (by decide) (by decide) ⟨_, rfl, rfl, rfl, rfl, rfl, rfl, rfl, rfl⟩
end CzStrC
theorem k_X12_wordOf {l : Launch} {T : Nat → Nat} {cn : Nat} {K N : Nat → Nat} {I0 : cz_I} {R0 : cz_R} {L0 : cz_L} {d : Int} (hW0 : Wf T cn K N I0 R0 d) {u0 : UInt32} (hu0 : u0.toNat < cz_NS) : ConE l mX12_wordOf [.float u0] cn K N I0 R0 L0 (ca_l (fun v cn' K' N' I' R' L' => cn = cn' ∧ K = K' ∧ N = N' ∧ I0 = I' ∧ R0 = R' ∧ L0 = L' ∧ True)) := by
  have hlb := cz_slb u0.toNat hu0
  have hli := cz_sli u0.toNat hu0
  refine ConE.of (by decide +kernel) rfl (Nat.le_of_ble_eq_true rfl) rfl (fun X hX hZ hE => ?_)
  subst hX
  refine q_lconst dX12_wordOf_0 ?_
  intro y1
  refine tr_lstore_n dX12_wordOf_1 (by decide) (by decide) (by decide) ?_
  refine q_iconst dX12_wordOf_2 (by decide) ?_
  intro v2 h2
  refine tr_istore_n dX12_wordOf_3 (by decide) (by decide) ?_
  have lp : ∀ (fu : Nat) (ls : Nat → Option Value) (y : Int64) (v : Int32), ls 0 = some (.float u0) → ls 1 = some (.long y) → ls 3 = some (.int v) → 0 ≤ v.toInt → (2147483647 - v.toInt).toNat < fu → Tr X mX12_wordOf 4 ls [] cn K N I0 R0 L0 0 0 := by
    intro fu
    induction fu with
    | zero => intros; rename_i hz; exact absurd hz (Nat.not_lt_zero _)
    | succ fu ih =>
      intro ls y v hl0 hl1 hl3 h0 hm
      refine tr_iload_n dX12_wordOf_4 hl3 ?_
      refine tr_aload_nS dX12_wordOf_5 hl0 ?_
      refine q_callT (M' := mJ0_length_8abf5) (as := []) hE hu0 dX12_wordOf_6 lk12_87 inJ0_length_8abf5 seJ0_length_8abf5 myJ0_length_8abf5 ⟨by decide, by decide⟩ rfl (Nat.le_of_ble_eq_true rfl) rfl rfl (by decide) (by decide) (c_length hu0) ?_
      rintro v5 cn' K' N' I' R' L' ⟨rfl, rfl, rfl, rfl, rfl, rfl, rfl⟩
      refine q_icmp_ge 36 dX12_wordOf_9 (by decide) (fun h5 => ?_) (fun h5 => ?_)
      · skip
        refine tr_lload_n dX12_wordOf_36 hl1 ?_
        exact tr_lret hZ dX12_wordOf_37 rfl (by decide) (by decide) ⟨_, rfl, rfl, rfl, rfl, rfl, rfl, rfl, trivial⟩
      · skip
        rw [hli] at h5
        refine q_ldc2 dX12_wordOf_12 ld12_93 ?_
        intro y6
        refine tr_lload_n dX12_wordOf_15 hl1 ?_
        refine q_lmul dX12_wordOf_16 ?_
        intro y7
        refine tr_aload_nS dX12_wordOf_17 hl0 ?_
        refine tr_iload_n dX12_wordOf_18 hl3 ?_
        refine q_callT (M' := mJ0_charAt_5068e) (as := [_]) hE hu0 dX12_wordOf_19 lk12_95 inJ0_charAt_5068e seJ0_charAt_5068e myJ0_charAt_5068e ⟨by decide, by decide⟩ rfl (Nat.le_of_ble_eq_true rfl) rfl rfl (by decide) (by decide) (c_charAt hu0 h0 h5) ?_
        rintro v6 cn' K' N' I' R' L' ⟨rfl, rfl, rfl, rfl, rfl, rfl, rfl⟩
        refine q_bipush dX12_wordOf_22 (by decide +kernel) ?_
        intro v8 h8
        refine q_isub dX12_wordOf_24 ?_
        intro v9
        refine q_iconst dX12_wordOf_25 (by decide) ?_
        intro v10 h10
        refine q_iadd dX12_wordOf_26 ?_
        intro v11
        refine q_i2l dX12_wordOf_27 ?_
        intro y12
        refine q_ladd dX12_wordOf_28 ?_
        intro y13
        refine tr_lstore_n dX12_wordOf_29 (by decide) (by decide) (by decide) ?_
        refine q_iincE dX12_wordOf_30 hl3 (by decide) (by decide) (by intro j1 j2; exact om_b5406dfa hlb hli h0 h5 j2) ?_
        intro v14 h14
        refine tr_goto 4 dX12_wordOf_33 (by decide) ?_
        exact ih _ _ v14 hl0 rfl rfl (by exact om_68881c41 h0 h14) (by exact om_0259e888 hlb hli h0 hm h5 h14)
  exact lp _ _ y1 v2 rfl rfl rfl (by exact om_d99fa9e4 h2) (Nat.lt_succ_self _)
/-! ===== the reference's bits ===== -/
theorem cz_popd {x y : Int32} (h0 : ¬ x = 0) (hy : y.toInt = 1) : (x &&& (x - y)).toUInt32.toNat < x.toUInt32.toNat := by
  have e : y = 1 := Int32.toInt_inj.mp (by rw [hy]; rfl)
  subst e
  have h1 : x.toUInt32.toNat ≠ 0 := by
    intro z
    apply h0
    apply Int32.toBitVec_inj.mp
    apply BitVec.eq_of_toNat_eq
    exact z
  have h2 : (x - 1).toUInt32.toNat = x.toUInt32.toNat - 1 := by
    show (x - 1).toBitVec.toNat = x.toBitVec.toNat - 1
    have h1' : x.toBitVec.toNat ≠ 0 := h1
    rw [Int32.toBitVec_sub, BitVec.toNat_sub]
    have hlt := x.toBitVec.isLt
    have e1 : (1 : Int32).toBitVec.toNat = 1 := rfl
    rw [e1]
    omega
  have h3 : (x &&& (x - 1)).toUInt32.toNat ≤ (x - 1).toUInt32.toNat := by
    show (x &&& (x - 1)).toBitVec.toNat ≤ (x - 1).toBitVec.toNat
    rw [Int32.toBitVec_and, BitVec.toNat_and]
    exact Nat.and_le_right
  exact om_87aedd84 h1 h2 h3
theorem k_X12_bits {l : Launch} {T : Nat → Nat} {cn : Nat} {K N : Nat → Nat} {I0 : cz_I} {R0 : cz_R} {L0 : cz_L} {d : Int} (hW0 : Wf T cn K N I0 R0 d) {x0 : Int32} : ConE l mX12_bits [.int x0] cn K N I0 R0 L0 (ca_i (fun v cn' K' N' I' R' L' => cn = cn' ∧ K = K' ∧ N = N' ∧ I0 = I' ∧ R0 = R' ∧ L0 = L' ∧ True)) := by
  refine ConE.of (by decide +kernel) rfl (Nat.le_of_ble_eq_true rfl) rfl (fun X hX hZ hE => ?_)
  subst hX
  refine q_iconst dX12_bits_0 (by decide) ?_
  intro v1 h1
  refine tr_istore_n dX12_bits_1 (by decide) (by decide) ?_
  refine tr_iload_n dX12_bits_2 rfl ?_
  refine tr_istore_n dX12_bits_3 (by decide) (by decide) ?_
  have lp : ∀ (fu : Nat) (ls : Nat → Option Value) (a v : Int32), ls 1 = some (.int a) → ls 2 = some (.int v) → v.toUInt32.toNat < fu → Tr X mX12_bits 4 ls [] cn K N I0 R0 L0 0 0 := by
    intro fu
    induction fu with
    | zero => intros; rename_i hz; exact absurd hz (Nat.not_lt_zero _)
    | succ fu ih =>
      intro ls a v hl1 hl2 hm
      refine tr_iload_n dX12_bits_4 hl2 ?_
      refine tr_if_eq 20 dX12_bits_5 (by decide) (fun h5 => ?_) (fun h5 => ?_)
      · skip
        refine tr_iload_n dX12_bits_20 hl1 ?_
        exact tr_iret hZ dX12_bits_21 rfl (by decide) (by decide) ⟨_, rfl, rfl, rfl, rfl, rfl, rfl, rfl, trivial⟩
      · skip
        refine q_iinc dX12_bits_8 hl1 (by decide) ?_
        intro v6
        refine tr_iload_n dX12_bits_11 hl2 ?_
        refine tr_iload_n dX12_bits_12 hl2 ?_
        refine q_iconst dX12_bits_13 (by decide) ?_
        intro v7 h7
        refine tr_isub dX12_bits_14 ?_
        refine tr_iand dX12_bits_15 ?_
        refine tr_istore_n dX12_bits_16 (by decide) (by decide) ?_
        refine tr_goto 4 dX12_bits_17 (by decide) ?_
        exact ih _ v6 _ rfl rfl (by have := cz_popd h5 h7; exact om_9d9b71a8 hm this)
  exact lp _ _ v1 x0 rfl rfl (Nat.lt_succ_self _)
/-! ===== words of the reference, exactly ===== -/
def rg (R : cz_R) (a j : Nat) : Nat := (R a j).getD 0
theorem rg_s {R : cz_R} {a j b : Nat} (h : R a j = some b) : rg R a j = b := by rw [rg, h]; rfl
def m_by (I : cz_I) (R : cz_R) (a : Nat) (k : Int32) : Int32 := if k.toInt < (I a 7).toInt then I (rg R a 5) k.toNatClampNeg &&& 255 else -1
theorem m_by_kp {I I' : cz_I} {R : cz_R} {a t : Nat} {k : Int32} (h5 : R a 5 = some t) (h7 : I' a 7 = I a 7) (ht : ∀ j, I' t j = I t j) : m_by I R a k = m_by I' R a k := by
  rw [m_by, m_by, h7, rg_s h5, ht]
def m_kd (I : cz_I) (R : cz_R) (a : Nat) (e : Int32) : Int32 := if e.toInt < (I (rg R a 3) 2).toInt then I (rg R (rg R a 3) 11) e.toNatClampNeg else 0
def m_hu (I : cz_I) (R : cz_R) (a : Nat) (e : Int32) : Int32 := if e.toInt < (I (rg R a 3) 2).toInt then I (rg R (rg R a 3) 12) e.toNatClampNeg else -2
theorem mk_hu {T : Nat → Nat} {cn : Nat} {K N : Nat → Nat} {I : cz_I} {R : cz_R} {d : Int} {a b : Nat} {e : Int32} (h : Wf T cn K N I R d) (ta : T a = 15) (h3 : R a 3 = some b) (he : 0 ≤ e.toInt) (hk : (m_kd I R a e).toInt = 2 ∨ (m_kd I R a e).toInt = 3) : 0 ≤ (m_hu I R a e).toInt := by
  have tb : T b = 14 := h.rsN ta rfl h3
  obtain ⟨k1, d1, t1⟩ := rf14_11 h tb
  obtain ⟨k2, d2, t2⟩ := rf14_12 h tb
  have hc : e.toNatClampNeg = e.toInt.toNat := rfl
  rw [m_kd, rg_s h3, rg_s d1] at hk
  rw [m_hu, rg_s h3, rg_s d2]
  by_cases hlt : e.toInt < (I b 2).toInt
  · rw [if_pos hlt] at hk ⊢
    exact h.2.2.2.1 b tb k1 k2 d1 d2 _ (by exact om_03dcba06 he hc hlt) hk
  · rw [if_neg hlt] at hk
    rcases hk with hk | hk <;> cases hk
