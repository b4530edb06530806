def lzddX11_find_0 : List (Nat × Instr × Nat) := [(0, .iconst 0, 1), (1, .istore_n 3, 1), (2, .iload_n 3, 1), (3, .aload_n 0, 1), (4, .getfield 83, 3), (7, .if_icmp .ge 22, 3), (10, .aload_n 0, 1), (11, .getfield 73, 3), (14, .iload_n 3, 1), (15, .laload, 1), (16, .lload_n 1, 1), (17, .lcmp, 1), (18, .ifCond .ne 5, 3), (21, .iload_n 3, 1), (22, .ireturn, 1), (23, .iinc 3 1, 3), (26, .goto (-24), 3), (29, .iconst (-1), 1), (30, .ireturn, 1)]
theorem zddX11_find_0 : dqW lzddX11_find_0 (cX11_find.data.toList.drop 0) 0 = true := by decide +kernel
theorem dX11_find_0 : decode cX11_find 0 = .ok (.iconst 0, 1) := dq_get (L := lzddX11_find_0) 0 rfl zddX11_find_0 rfl
theorem dX11_find_1 : decode cX11_find 1 = .ok (.istore_n 3, 1) := dq_get (L := lzddX11_find_0) 1 rfl zddX11_find_0 rfl
theorem dX11_find_2 : decode cX11_find 2 = .ok (.iload_n 3, 1) := dq_get (L := lzddX11_find_0) 2 rfl zddX11_find_0 rfl
theorem dX11_find_3 : decode cX11_find 3 = .ok (.aload_n 0, 1) := dq_get (L := lzddX11_find_0) 3 rfl zddX11_find_0 rfl
theorem dX11_find_4 : decode cX11_find 4 = .ok (.getfield 83, 3) := dq_get (L := lzddX11_find_0) 4 rfl zddX11_find_0 rfl
theorem dX11_find_7 : decode cX11_find 7 = .ok (.if_icmp .ge 22, 3) := dq_get (L := lzddX11_find_0) 5 rfl zddX11_find_0 rfl
theorem dX11_find_10 : decode cX11_find 10 = .ok (.aload_n 0, 1) := dq_get (L := lzddX11_find_0) 6 rfl zddX11_find_0 rfl
theorem dX11_find_11 : decode cX11_find 11 = .ok (.getfield 73, 3) := dq_get (L := lzddX11_find_0) 7 rfl zddX11_find_0 rfl
theorem dX11_find_14 : decode cX11_find 14 = .ok (.iload_n 3, 1) := dq_get (L := lzddX11_find_0) 8 rfl zddX11_find_0 rfl
theorem dX11_find_15 : decode cX11_find 15 = .ok (.laload, 1) := dq_get (L := lzddX11_find_0) 9 rfl zddX11_find_0 rfl
theorem dX11_find_16 : decode cX11_find 16 = .ok (.lload_n 1, 1) := dq_get (L := lzddX11_find_0) 10 rfl zddX11_find_0 rfl
theorem dX11_find_17 : decode cX11_find 17 = .ok (.lcmp, 1) := dq_get (L := lzddX11_find_0) 11 rfl zddX11_find_0 rfl
theorem dX11_find_18 : decode cX11_find 18 = .ok (.ifCond .ne 5, 3) := dq_get (L := lzddX11_find_0) 12 rfl zddX11_find_0 rfl
theorem dX11_find_21 : decode cX11_find 21 = .ok (.iload_n 3, 1) := dq_get (L := lzddX11_find_0) 13 rfl zddX11_find_0 rfl
theorem dX11_find_22 : decode cX11_find 22 = .ok (.ireturn, 1) := dq_get (L := lzddX11_find_0) 14 rfl zddX11_find_0 rfl
theorem dX11_find_23 : decode cX11_find 23 = .ok (.iinc 3 1, 3) := dq_get (L := lzddX11_find_0) 15 rfl zddX11_find_0 rfl
theorem dX11_find_26 : decode cX11_find 26 = .ok (.goto (-24), 3) := dq_get (L := lzddX11_find_0) 16 rfl zddX11_find_0 rfl
theorem dX11_find_29 : decode cX11_find 29 = .ok (.iconst (-1), 1) := dq_get (L := lzddX11_find_0) 17 rfl zddX11_find_0 rfl
theorem dX11_find_30 : decode cX11_find 30 = .ok (.ireturn, 1) := dq_get (L := lzddX11_find_0) 18 rfl zddX11_find_0 rfl
def lzddX12_awake_0 : List (Nat × Instr × Nat) := [(0, .aload_n 0, 1), (1, .iconst 0, 1), (2, .putfield 70, 3), (5, .aload_n 0, 1), (6, .iload_n 1, 1), (7, .invokevirtual 452, 3), (10, .ifCond .ne 9, 3), (13, .aload_n 0, 1), (14, .iconst 1, 1), (15, .invokevirtual 76, 3), (18, .ireturn, 1), (19, .aload_n 0, 1), (20, .iload_n 2, 1), (21, .invokevirtual 443, 3), (24, .ifCond .ne 9, 3), (27, .aload_n 0, 1), (28, .iconst 2, 1), (29, .invokevirtual 76, 3), (32, .ireturn, 1), (33, .aload_n 0, 1)]
theorem zddX12_awake_0 : dqW lzddX12_awake_0 (cX12_awake.data.toList.drop 0) 0 = true := by decide +kernel
theorem dX12_awake_0 : decode cX12_awake 0 = .ok (.aload_n 0, 1) := dq_get (L := lzddX12_awake_0) 0 rfl zddX12_awake_0 rfl
theorem dX12_awake_1 : decode cX12_awake 1 = .ok (.iconst 0, 1) := dq_get (L := lzddX12_awake_0) 1 rfl zddX12_awake_0 rfl
theorem dX12_awake_2 : decode cX12_awake 2 = .ok (.putfield 70, 3) := dq_get (L := lzddX12_awake_0) 2 rfl zddX12_awake_0 rfl
theorem dX12_awake_5 : decode cX12_awake 5 = .ok (.aload_n 0, 1) := dq_get (L := lzddX12_awake_0) 3 rfl zddX12_awake_0 rfl
theorem dX12_awake_6 : decode cX12_awake 6 = .ok (.iload_n 1, 1) := dq_get (L := lzddX12_awake_0) 4 rfl zddX12_awake_0 rfl
theorem dX12_awake_7 : decode cX12_awake 7 = .ok (.invokevirtual 452, 3) := dq_get (L := lzddX12_awake_0) 5 rfl zddX12_awake_0 rfl
theorem dX12_awake_10 : decode cX12_awake 10 = .ok (.ifCond .ne 9, 3) := dq_get (L := lzddX12_awake_0) 6 rfl zddX12_awake_0 rfl
theorem dX12_awake_13 : decode cX12_awake 13 = .ok (.aload_n 0, 1) := dq_get (L := lzddX12_awake_0) 7 rfl zddX12_awake_0 rfl
theorem dX12_awake_14 : decode cX12_awake 14 = .ok (.iconst 1, 1) := dq_get (L := lzddX12_awake_0) 8 rfl zddX12_awake_0 rfl
theorem dX12_awake_15 : decode cX12_awake 15 = .ok (.invokevirtual 76, 3) := dq_get (L := lzddX12_awake_0) 9 rfl zddX12_awake_0 rfl
theorem dX12_awake_18 : decode cX12_awake 18 = .ok (.ireturn, 1) := dq_get (L := lzddX12_awake_0) 10 rfl zddX12_awake_0 rfl
theorem dX12_awake_19 : decode cX12_awake 19 = .ok (.aload_n 0, 1) := dq_get (L := lzddX12_awake_0) 11 rfl zddX12_awake_0 rfl
theorem dX12_awake_20 : decode cX12_awake 20 = .ok (.iload_n 2, 1) := dq_get (L := lzddX12_awake_0) 12 rfl zddX12_awake_0 rfl
theorem dX12_awake_21 : decode cX12_awake 21 = .ok (.invokevirtual 443, 3) := dq_get (L := lzddX12_awake_0) 13 rfl zddX12_awake_0 rfl
theorem dX12_awake_24 : decode cX12_awake 24 = .ok (.ifCond .ne 9, 3) := dq_get (L := lzddX12_awake_0) 14 rfl zddX12_awake_0 rfl
theorem dX12_awake_27 : decode cX12_awake 27 = .ok (.aload_n 0, 1) := dq_get (L := lzddX12_awake_0) 15 rfl zddX12_awake_0 rfl
theorem dX12_awake_28 : decode cX12_awake 28 = .ok (.iconst 2, 1) := dq_get (L := lzddX12_awake_0) 16 rfl zddX12_awake_0 rfl
theorem dX12_awake_29 : decode cX12_awake 29 = .ok (.invokevirtual 76, 3) := dq_get (L := lzddX12_awake_0) 17 rfl zddX12_awake_0 rfl
theorem dX12_awake_32 : decode cX12_awake 32 = .ok (.ireturn, 1) := dq_get (L := lzddX12_awake_0) 18 rfl zddX12_awake_0 rfl
theorem dX12_awake_33 : decode cX12_awake 33 = .ok (.aload_n 0, 1) := dq_get (L := lzddX12_awake_0) 19 rfl zddX12_awake_0 rfl
def lzddX12_awake_34 : List (Nat × Instr × Nat) := [(34, .iconst (-1), 1), (35, .invokevirtual 434, 3), (38, .aload_n 0, 1), (39, .aload_n 0, 1), (40, .iload_n 1, 1), (41, .iload_n 2, 1), (42, .aload_n 0, 1), (43, .getfield 17, 3), (46, .iconst 0, 1), (47, .iaload, 1), (48, .invokevirtual 419, 3), (51, .ifCond .eq 7, 3), (54, .iconst 1, 1), (55, .goto 4, 3), (58, .iconst 0, 1), (59, .invokevirtual 81, 3), (62, .ireturn, 1)]
theorem zddX12_awake_34 : dqW lzddX12_awake_34 (cX12_awake.data.toList.drop 34) 34 = true := by decide +kernel
theorem dX12_awake_34 : decode cX12_awake 34 = .ok (.iconst (-1), 1) := dq_get (L := lzddX12_awake_34) 0 rfl zddX12_awake_34 rfl
theorem dX12_awake_35 : decode cX12_awake 35 = .ok (.invokevirtual 434, 3) := dq_get (L := lzddX12_awake_34) 1 rfl zddX12_awake_34 rfl
theorem dX12_awake_38 : decode cX12_awake 38 = .ok (.aload_n 0, 1) := dq_get (L := lzddX12_awake_34) 2 rfl zddX12_awake_34 rfl
theorem dX12_awake_39 : decode cX12_awake 39 = .ok (.aload_n 0, 1) := dq_get (L := lzddX12_awake_34) 3 rfl zddX12_awake_34 rfl
theorem dX12_awake_40 : decode cX12_awake 40 = .ok (.iload_n 1, 1) := dq_get (L := lzddX12_awake_34) 4 rfl zddX12_awake_34 rfl
theorem dX12_awake_41 : decode cX12_awake 41 = .ok (.iload_n 2, 1) := dq_get (L := lzddX12_awake_34) 5 rfl zddX12_awake_34 rfl
theorem dX12_awake_42 : decode cX12_awake 42 = .ok (.aload_n 0, 1) := dq_get (L := lzddX12_awake_34) 6 rfl zddX12_awake_34 rfl
theorem dX12_awake_43 : decode cX12_awake 43 = .ok (.getfield 17, 3) := dq_get (L := lzddX12_awake_34) 7 rfl zddX12_awake_34 rfl
theorem dX12_awake_46 : decode cX12_awake 46 = .ok (.iconst 0, 1) := dq_get (L := lzddX12_awake_34) 8 rfl zddX12_awake_34 rfl
theorem dX12_awake_47 : decode cX12_awake 47 = .ok (.iaload, 1) := dq_get (L := lzddX12_awake_34) 9 rfl zddX12_awake_34 rfl
theorem dX12_awake_48 : decode cX12_awake 48 = .ok (.invokevirtual 419, 3) := dq_get (L := lzddX12_awake_34) 10 rfl zddX12_awake_34 rfl
theorem dX12_awake_51 : decode cX12_awake 51 = .ok (.ifCond .eq 7, 3) := dq_get (L := lzddX12_awake_34) 11 rfl zddX12_awake_34 rfl
theorem dX12_awake_54 : decode cX12_awake 54 = .ok (.iconst 1, 1) := dq_get (L := lzddX12_awake_34) 12 rfl zddX12_awake_34 rfl
theorem dX12_awake_55 : decode cX12_awake 55 = .ok (.goto 4, 3) := dq_get (L := lzddX12_awake_34) 13 rfl zddX12_awake_34 rfl
theorem dX12_awake_58 : decode cX12_awake 58 = .ok (.iconst 0, 1) := dq_get (L := lzddX12_awake_34) 14 rfl zddX12_awake_34 rfl
theorem dX12_awake_59 : decode cX12_awake 59 = .ok (.invokevirtual 81, 3) := dq_get (L := lzddX12_awake_34) 15 rfl zddX12_awake_34 rfl
theorem dX12_awake_62 : decode cX12_awake 62 = .ok (.ireturn, 1) := dq_get (L := lzddX12_awake_34) 16 rfl zddX12_awake_34 rfl
def lzddX12_back_0 : List (Nat × Instr × Nat) := [(0, .aload_n 0, 1), (1, .iconst 0, 1), (2, .putfield 70, 3), (5, .aload_n 0, 1), (6, .getfield 385, 3), (9, .ifnull 15, 3), (12, .iload_n 1, 1), (13, .ifCond .lt 11, 3), (16, .iload_n 1, 1), (17, .aload_n 0, 1), (18, .getfield 390, 3), (21, .if_icmp .lt 9, 3), (24, .aload_n 0, 1), (25, .iconst 1, 1), (26, .invokevirtual 507, 3), (29, .ireturn, 1), (30, .iconst 0, 1), (31, .istore_n 2, 1), (32, .iload_n 2, 1), (33, .bipush 15, 2)]
theorem zddX12_back_0 : dqW lzddX12_back_0 (cX12_back.data.toList.drop 0) 0 = true := by decide +kernel
theorem dX12_back_0 : decode cX12_back 0 = .ok (.aload_n 0, 1) := dq_get (L := lzddX12_back_0) 0 rfl zddX12_back_0 rfl
theorem dX12_back_1 : decode cX12_back 1 = .ok (.iconst 0, 1) := dq_get (L := lzddX12_back_0) 1 rfl zddX12_back_0 rfl
theorem dX12_back_2 : decode cX12_back 2 = .ok (.putfield 70, 3) := dq_get (L := lzddX12_back_0) 2 rfl zddX12_back_0 rfl
theorem dX12_back_5 : decode cX12_back 5 = .ok (.aload_n 0, 1) := dq_get (L := lzddX12_back_0) 3 rfl zddX12_back_0 rfl
theorem dX12_back_6 : decode cX12_back 6 = .ok (.getfield 385, 3) := dq_get (L := lzddX12_back_0) 4 rfl zddX12_back_0 rfl
theorem dX12_back_9 : decode cX12_back 9 = .ok (.ifnull 15, 3) := dq_get (L := lzddX12_back_0) 5 rfl zddX12_back_0 rfl
theorem dX12_back_12 : decode cX12_back 12 = .ok (.iload_n 1, 1) := dq_get (L := lzddX12_back_0) 6 rfl zddX12_back_0 rfl
theorem dX12_back_13 : decode cX12_back 13 = .ok (.ifCond .lt 11, 3) := dq_get (L := lzddX12_back_0) 7 rfl zddX12_back_0 rfl
theorem dX12_back_16 : decode cX12_back 16 = .ok (.iload_n 1, 1) := dq_get (L := lzddX12_back_0) 8 rfl zddX12_back_0 rfl
theorem dX12_back_17 : decode cX12_back 17 = .ok (.aload_n 0, 1) := dq_get (L := lzddX12_back_0) 9 rfl zddX12_back_0 rfl
theorem dX12_back_18 : decode cX12_back 18 = .ok (.getfield 390, 3) := dq_get (L := lzddX12_back_0) 10 rfl zddX12_back_0 rfl
theorem dX12_back_21 : decode cX12_back 21 = .ok (.if_icmp .lt 9, 3) := dq_get (L := lzddX12_back_0) 11 rfl zddX12_back_0 rfl
theorem dX12_back_24 : decode cX12_back 24 = .ok (.aload_n 0, 1) := dq_get (L := lzddX12_back_0) 12 rfl zddX12_back_0 rfl
theorem dX12_back_25 : decode cX12_back 25 = .ok (.iconst 1, 1) := dq_get (L := lzddX12_back_0) 13 rfl zddX12_back_0 rfl
theorem dX12_back_26 : decode cX12_back 26 = .ok (.invokevirtual 507, 3) := dq_get (L := lzddX12_back_0) 14 rfl zddX12_back_0 rfl
theorem dX12_back_29 : decode cX12_back 29 = .ok (.ireturn, 1) := dq_get (L := lzddX12_back_0) 15 rfl zddX12_back_0 rfl
theorem dX12_back_30 : decode cX12_back 30 = .ok (.iconst 0, 1) := dq_get (L := lzddX12_back_0) 16 rfl zddX12_back_0 rfl
theorem dX12_back_31 : decode cX12_back 31 = .ok (.istore_n 2, 1) := dq_get (L := lzddX12_back_0) 17 rfl zddX12_back_0 rfl
theorem dX12_back_32 : decode cX12_back 32 = .ok (.iload_n 2, 1) := dq_get (L := lzddX12_back_0) 18 rfl zddX12_back_0 rfl
theorem dX12_back_33 : decode cX12_back 33 = .ok (.bipush 15, 2) := dq_get (L := lzddX12_back_0) 19 rfl zddX12_back_0 rfl
def lzddX12_back_35 : List (Nat × Instr × Nat) := [(35, .if_icmp .ge 26, 3), (38, .aload_n 0, 1), (39, .getfield 17, 3), (42, .iload_n 2, 1), (43, .aload_n 0, 1), (44, .getfield 24, 3), (47, .bipush 15, 2), (49, .iload_n 1, 1), (50, .imul, 1), (51, .iload_n 2, 1), (52, .iadd, 1), (53, .iaload, 1), (54, .iastore, 1), (55, .iinc 2 1, 3), (58, .goto (-26), 3), (61, .aload_n 0, 1), (62, .iconst 0, 1), (63, .putfield 387, 3), (66, .aload_n 0, 1), (67, .invokevirtual 513, 3)]
theorem zddX12_back_35 : dqW lzddX12_back_35 (cX12_back.data.toList.drop 35) 35 = true := by decide +kernel
theorem dX12_back_35 : decode cX12_back 35 = .ok (.if_icmp .ge 26, 3) := dq_get (L := lzddX12_back_35) 0 rfl zddX12_back_35 rfl
theorem dX12_back_38 : decode cX12_back 38 = .ok (.aload_n 0, 1) := dq_get (L := lzddX12_back_35) 1 rfl zddX12_back_35 rfl
theorem dX12_back_39 : decode cX12_back 39 = .ok (.getfield 17, 3) := dq_get (L := lzddX12_back_35) 2 rfl zddX12_back_35 rfl
theorem dX12_back_42 : decode cX12_back 42 = .ok (.iload_n 2, 1) := dq_get (L := lzddX12_back_35) 3 rfl zddX12_back_35 rfl
theorem dX12_back_43 : decode cX12_back 43 = .ok (.aload_n 0, 1) := dq_get (L := lzddX12_back_35) 4 rfl zddX12_back_35 rfl
theorem dX12_back_44 : decode cX12_back 44 = .ok (.getfield 24, 3) := dq_get (L := lzddX12_back_35) 5 rfl zddX12_back_35 rfl
theorem dX12_back_47 : decode cX12_back 47 = .ok (.bipush 15, 2) := dq_get (L := lzddX12_back_35) 6 rfl zddX12_back_35 rfl
theorem dX12_back_49 : decode cX12_back 49 = .ok (.iload_n 1, 1) := dq_get (L := lzddX12_back_35) 7 rfl zddX12_back_35 rfl
theorem dX12_back_50 : decode cX12_back 50 = .ok (.imul, 1) := dq_get (L := lzddX12_back_35) 8 rfl zddX12_back_35 rfl
theorem dX12_back_51 : decode cX12_back 51 = .ok (.iload_n 2, 1) := dq_get (L := lzddX12_back_35) 9 rfl zddX12_back_35 rfl
theorem dX12_back_52 : decode cX12_back 52 = .ok (.iadd, 1) := dq_get (L := lzddX12_back_35) 10 rfl zddX12_back_35 rfl
theorem dX12_back_53 : decode cX12_back 53 = .ok (.iaload, 1) := dq_get (L := lzddX12_back_35) 11 rfl zddX12_back_35 rfl
theorem dX12_back_54 : decode cX12_back 54 = .ok (.iastore, 1) := dq_get (L := lzddX12_back_35) 12 rfl zddX12_back_35 rfl
theorem dX12_back_55 : decode cX12_back 55 = .ok (.iinc 2 1, 3) := dq_get (L := lzddX12_back_35) 13 rfl zddX12_back_35 rfl
theorem dX12_back_58 : decode cX12_back 58 = .ok (.goto (-26), 3) := dq_get (L := lzddX12_back_35) 14 rfl zddX12_back_35 rfl
theorem dX12_back_61 : decode cX12_back 61 = .ok (.aload_n 0, 1) := dq_get (L := lzddX12_back_35) 15 rfl zddX12_back_35 rfl
theorem dX12_back_62 : decode cX12_back 62 = .ok (.iconst 0, 1) := dq_get (L := lzddX12_back_35) 16 rfl zddX12_back_35 rfl
theorem dX12_back_63 : decode cX12_back 63 = .ok (.putfield 387, 3) := dq_get (L := lzddX12_back_35) 17 rfl zddX12_back_35 rfl
theorem dX12_back_66 : decode cX12_back 66 = .ok (.aload_n 0, 1) := dq_get (L := lzddX12_back_35) 18 rfl zddX12_back_35 rfl
theorem dX12_back_67 : decode cX12_back 67 = .ok (.invokevirtual 513, 3) := dq_get (L := lzddX12_back_35) 19 rfl zddX12_back_35 rfl
def lzddX12_back_70 : List (Nat × Instr × Nat) := [(70, .ireturn, 1)]
theorem zddX12_back_70 : dqW lzddX12_back_70 (cX12_back.data.toList.drop 70) 70 = true := by decide +kernel
theorem dX12_back_70 : decode cX12_back 70 = .ok (.ireturn, 1) := dq_get (L := lzddX12_back_70) 0 rfl zddX12_back_70 rfl
def lzddX12_begins_0 : List (Nat × Instr × Nat) := [(0, .iload_n 1, 1), (1, .iload_n 2, 1), (2, .if_icmp .ne 8, 3), (5, .aload_n 0, 1), (6, .iconst 5, 1), (7, .invokevirtual 145, 3), (10, .aload_n 0, 1), (11, .getfield 188, 3), (14, .getfield 192, 3), (17, .ifCond .ne 9, 3), (20, .aload_n 0, 1), (21, .bipush 6, 2), (23, .invokevirtual 145, 3), (26, .aload_n 0, 1), (27, .invokevirtual 142, 3), (30, .return_, 1)]
theorem zddX12_begins_0 : dqW lzddX12_begins_0 (cX12_begins.data.toList.drop 0) 0 = true := by decide +kernel
theorem dX12_begins_0 : decode cX12_begins 0 = .ok (.iload_n 1, 1) := dq_get (L := lzddX12_begins_0) 0 rfl zddX12_begins_0 rfl
theorem dX12_begins_1 : decode cX12_begins 1 = .ok (.iload_n 2, 1) := dq_get (L := lzddX12_begins_0) 1 rfl zddX12_begins_0 rfl
theorem dX12_begins_2 : decode cX12_begins 2 = .ok (.if_icmp .ne 8, 3) := dq_get (L := lzddX12_begins_0) 2 rfl zddX12_begins_0 rfl
theorem dX12_begins_5 : decode cX12_begins 5 = .ok (.aload_n 0, 1) := dq_get (L := lzddX12_begins_0) 3 rfl zddX12_begins_0 rfl
theorem dX12_begins_6 : decode cX12_begins 6 = .ok (.iconst 5, 1) := dq_get (L := lzddX12_begins_0) 4 rfl zddX12_begins_0 rfl
theorem dX12_begins_7 : decode cX12_begins 7 = .ok (.invokevirtual 145, 3) := dq_get (L := lzddX12_begins_0) 5 rfl zddX12_begins_0 rfl
theorem dX12_begins_10 : decode cX12_begins 10 = .ok (.aload_n 0, 1) := dq_get (L := lzddX12_begins_0) 6 rfl zddX12_begins_0 rfl
theorem dX12_begins_11 : decode cX12_begins 11 = .ok (.getfield 188, 3) := dq_get (L := lzddX12_begins_0) 7 rfl zddX12_begins_0 rfl
theorem dX12_begins_14 : decode cX12_begins 14 = .ok (.getfield 192, 3) := dq_get (L := lzddX12_begins_0) 8 rfl zddX12_begins_0 rfl
theorem dX12_begins_17 : decode cX12_begins 17 = .ok (.ifCond .ne 9, 3) := dq_get (L := lzddX12_begins_0) 9 rfl zddX12_begins_0 rfl
theorem dX12_begins_20 : decode cX12_begins 20 = .ok (.aload_n 0, 1) := dq_get (L := lzddX12_begins_0) 10 rfl zddX12_begins_0 rfl
theorem dX12_begins_21 : decode cX12_begins 21 = .ok (.bipush 6, 2) := dq_get (L := lzddX12_begins_0) 11 rfl zddX12_begins_0 rfl
theorem dX12_begins_23 : decode cX12_begins 23 = .ok (.invokevirtual 145, 3) := dq_get (L := lzddX12_begins_0) 12 rfl zddX12_begins_0 rfl
theorem dX12_begins_26 : decode cX12_begins 26 = .ok (.aload_n 0, 1) := dq_get (L := lzddX12_begins_0) 13 rfl zddX12_begins_0 rfl
theorem dX12_begins_27 : decode cX12_begins 27 = .ok (.invokevirtual 142, 3) := dq_get (L := lzddX12_begins_0) 14 rfl zddX12_begins_0 rfl
theorem dX12_begins_30 : decode cX12_begins 30 = .ok (.return_, 1) := dq_get (L := lzddX12_begins_0) 15 rfl zddX12_begins_0 rfl
def lzddX12_bounded_0 : List (Nat × Instr × Nat) := [(0, .aload_n 0, 1), (1, .getfield 99, 3), (4, .iconst 3, 1), (5, .if_icmp .eq 11, 3), (8, .aload_n 0, 1), (9, .iconst 1, 1), (10, .invokevirtual 145, 3), (13, .goto 20, 3), (16, .aload_n 0, 1), (17, .getfield 125, 3), (20, .iload_n 1, 1), (21, .iload_n 2, 1), (22, .invokestatic 149, 3), (25, .ifCond .ne 8, 3), (28, .aload_n 0, 1), (29, .iconst 4, 1), (30, .invokevirtual 145, 3), (33, .aload_n 0, 1), (34, .getfield 99, 3), (37, .iconst 5, 1)]
theorem zddX12_bounded_0 : dqW lzddX12_bounded_0 (cX12_bounded.data.toList.drop 0) 0 = true := by decide +kernel
theorem dX12_bounded_0 : decode cX12_bounded 0 = .ok (.aload_n 0, 1) := dq_get (L := lzddX12_bounded_0) 0 rfl zddX12_bounded_0 rfl
theorem dX12_bounded_1 : decode cX12_bounded 1 = .ok (.getfield 99, 3) := dq_get (L := lzddX12_bounded_0) 1 rfl zddX12_bounded_0 rfl
theorem dX12_bounded_4 : decode cX12_bounded 4 = .ok (.iconst 3, 1) := dq_get (L := lzddX12_bounded_0) 2 rfl zddX12_bounded_0 rfl
theorem dX12_bounded_5 : decode cX12_bounded 5 = .ok (.if_icmp .eq 11, 3) := dq_get (L := lzddX12_bounded_0) 3 rfl zddX12_bounded_0 rfl
theorem dX12_bounded_8 : decode cX12_bounded 8 = .ok (.aload_n 0, 1) := dq_get (L := lzddX12_bounded_0) 4 rfl zddX12_bounded_0 rfl
theorem dX12_bounded_9 : decode cX12_bounded 9 = .ok (.iconst 1, 1) := dq_get (L := lzddX12_bounded_0) 5 rfl zddX12_bounded_0 rfl
theorem dX12_bounded_10 : decode cX12_bounded 10 = .ok (.invokevirtual 145, 3) := dq_get (L := lzddX12_bounded_0) 6 rfl zddX12_bounded_0 rfl
theorem dX12_bounded_13 : decode cX12_bounded 13 = .ok (.goto 20, 3) := dq_get (L := lzddX12_bounded_0) 7 rfl zddX12_bounded_0 rfl
theorem dX12_bounded_16 : decode cX12_bounded 16 = .ok (.aload_n 0, 1) := dq_get (L := lzddX12_bounded_0) 8 rfl zddX12_bounded_0 rfl
theorem dX12_bounded_17 : decode cX12_bounded 17 = .ok (.getfield 125, 3) := dq_get (L := lzddX12_bounded_0) 9 rfl zddX12_bounded_0 rfl
theorem dX12_bounded_20 : decode cX12_bounded 20 = .ok (.iload_n 1, 1) := dq_get (L := lzddX12_bounded_0) 10 rfl zddX12_bounded_0 rfl
theorem dX12_bounded_21 : decode cX12_bounded 21 = .ok (.iload_n 2, 1) := dq_get (L := lzddX12_bounded_0) 11 rfl zddX12_bounded_0 rfl
theorem dX12_bounded_22 : decode cX12_bounded 22 = .ok (.invokestatic 149, 3) := dq_get (L := lzddX12_bounded_0) 12 rfl zddX12_bounded_0 rfl
theorem dX12_bounded_25 : decode cX12_bounded 25 = .ok (.ifCond .ne 8, 3) := dq_get (L := lzddX12_bounded_0) 13 rfl zddX12_bounded_0 rfl
theorem dX12_bounded_28 : decode cX12_bounded 28 = .ok (.aload_n 0, 1) := dq_get (L := lzddX12_bounded_0) 14 rfl zddX12_bounded_0 rfl
theorem dX12_bounded_29 : decode cX12_bounded 29 = .ok (.iconst 4, 1) := dq_get (L := lzddX12_bounded_0) 15 rfl zddX12_bounded_0 rfl
theorem dX12_bounded_30 : decode cX12_bounded 30 = .ok (.invokevirtual 145, 3) := dq_get (L := lzddX12_bounded_0) 16 rfl zddX12_bounded_0 rfl
theorem dX12_bounded_33 : decode cX12_bounded 33 = .ok (.aload_n 0, 1) := dq_get (L := lzddX12_bounded_0) 17 rfl zddX12_bounded_0 rfl
theorem dX12_bounded_34 : decode cX12_bounded 34 = .ok (.getfield 99, 3) := dq_get (L := lzddX12_bounded_0) 18 rfl zddX12_bounded_0 rfl
theorem dX12_bounded_37 : decode cX12_bounded 37 = .ok (.iconst 5, 1) := dq_get (L := lzddX12_bounded_0) 19 rfl zddX12_bounded_0 rfl
def lzddX12_bounded_38 : List (Nat × Instr × Nat) := [(38, .if_icmp .ne 7, 3), (41, .iload_n 1, 1), (42, .goto 7, 3), (45, .aload_n 0, 1), (46, .getfield 125, 3), (49, .ireturn, 1)]
theorem zddX12_bounded_38 : dqW lzddX12_bounded_38 (cX12_bounded.data.toList.drop 38) 38 = true := by decide +kernel
theorem dX12_bounded_38 : decode cX12_bounded 38 = .ok (.if_icmp .ne 7, 3) := dq_get (L := lzddX12_bounded_38) 0 rfl zddX12_bounded_38 rfl
theorem dX12_bounded_41 : decode cX12_bounded 41 = .ok (.iload_n 1, 1) := dq_get (L := lzddX12_bounded_38) 1 rfl zddX12_bounded_38 rfl
theorem dX12_bounded_42 : decode cX12_bounded 42 = .ok (.goto 7, 3) := dq_get (L := lzddX12_bounded_38) 2 rfl zddX12_bounded_38 rfl
theorem dX12_bounded_45 : decode cX12_bounded 45 = .ok (.aload_n 0, 1) := dq_get (L := lzddX12_bounded_38) 3 rfl zddX12_bounded_38 rfl
theorem dX12_bounded_46 : decode cX12_bounded 46 = .ok (.getfield 125, 3) := dq_get (L := lzddX12_bounded_38) 4 rfl zddX12_bounded_38 rfl
theorem dX12_bounded_49 : decode cX12_bounded 49 = .ok (.ireturn, 1) := dq_get (L := lzddX12_bounded_38) 5 rfl zddX12_bounded_38 rfl
def lzddX12_by_0 : List (Nat × Instr × Nat) := [(0, .aload_n 0, 1), (1, .iconst 0, 1), (2, .putfield 70, 3), (5, .aload_n 0, 1), (6, .iload_n 1, 1), (7, .invokevirtual 485, 3), (10, .ifCond .ne 9, 3), (13, .aload_n 0, 1), (14, .iconst 1, 1), (15, .invokevirtual 76, 3), (18, .ireturn, 1), (19, .aload_n 0, 1), (20, .iconst (-1), 1), (21, .invokevirtual 434, 3), (24, .bipush (-2), 2), (26, .istore_n 2, 1), (27, .iconst 0, 1), (28, .istore_n 3, 1), (29, .iload_n 3, 1), (30, .iconst 1, 1)]
theorem zddX12_by_0 : dqW lzddX12_by_0 (cX12_by.data.toList.drop 0) 0 = true := by decide +kernel
theorem dX12_by_0 : decode cX12_by 0 = .ok (.aload_n 0, 1) := dq_get (L := lzddX12_by_0) 0 rfl zddX12_by_0 rfl
theorem dX12_by_1 : decode cX12_by 1 = .ok (.iconst 0, 1) := dq_get (L := lzddX12_by_0) 1 rfl zddX12_by_0 rfl
theorem dX12_by_2 : decode cX12_by 2 = .ok (.putfield 70, 3) := dq_get (L := lzddX12_by_0) 2 rfl zddX12_by_0 rfl
theorem dX12_by_5 : decode cX12_by 5 = .ok (.aload_n 0, 1) := dq_get (L := lzddX12_by_0) 3 rfl zddX12_by_0 rfl
theorem dX12_by_6 : decode cX12_by 6 = .ok (.iload_n 1, 1) := dq_get (L := lzddX12_by_0) 4 rfl zddX12_by_0 rfl
theorem dX12_by_7 : decode cX12_by 7 = .ok (.invokevirtual 485, 3) := dq_get (L := lzddX12_by_0) 5 rfl zddX12_by_0 rfl
theorem dX12_by_10 : decode cX12_by 10 = .ok (.ifCond .ne 9, 3) := dq_get (L := lzddX12_by_0) 6 rfl zddX12_by_0 rfl
theorem dX12_by_13 : decode cX12_by 13 = .ok (.aload_n 0, 1) := dq_get (L := lzddX12_by_0) 7 rfl zddX12_by_0 rfl
theorem dX12_by_14 : decode cX12_by 14 = .ok (.iconst 1, 1) := dq_get (L := lzddX12_by_0) 8 rfl zddX12_by_0 rfl
theorem dX12_by_15 : decode cX12_by 15 = .ok (.invokevirtual 76, 3) := dq_get (L := lzddX12_by_0) 9 rfl zddX12_by_0 rfl
theorem dX12_by_18 : decode cX12_by 18 = .ok (.ireturn, 1) := dq_get (L := lzddX12_by_0) 10 rfl zddX12_by_0 rfl
theorem dX12_by_19 : decode cX12_by 19 = .ok (.aload_n 0, 1) := dq_get (L := lzddX12_by_0) 11 rfl zddX12_by_0 rfl
theorem dX12_by_20 : decode cX12_by 20 = .ok (.iconst (-1), 1) := dq_get (L := lzddX12_by_0) 12 rfl zddX12_by_0 rfl
theorem dX12_by_21 : decode cX12_by 21 = .ok (.invokevirtual 434, 3) := dq_get (L := lzddX12_by_0) 13 rfl zddX12_by_0 rfl
theorem dX12_by_24 : decode cX12_by 24 = .ok (.bipush (-2), 2) := dq_get (L := lzddX12_by_0) 14 rfl zddX12_by_0 rfl
theorem dX12_by_26 : decode cX12_by 26 = .ok (.istore_n 2, 1) := dq_get (L := lzddX12_by_0) 15 rfl zddX12_by_0 rfl
theorem dX12_by_27 : decode cX12_by 27 = .ok (.iconst 0, 1) := dq_get (L := lzddX12_by_0) 16 rfl zddX12_by_0 rfl
theorem dX12_by_28 : decode cX12_by 28 = .ok (.istore_n 3, 1) := dq_get (L := lzddX12_by_0) 17 rfl zddX12_by_0 rfl
theorem dX12_by_29 : decode cX12_by 29 = .ok (.iload_n 3, 1) := dq_get (L := lzddX12_by_0) 18 rfl zddX12_by_0 rfl
theorem dX12_by_30 : decode cX12_by 30 = .ok (.iconst 1, 1) := dq_get (L := lzddX12_by_0) 19 rfl zddX12_by_0 rfl
def lzddX12_by_31 : List (Nat × Instr × Nat) := [(31, .aload_n 0, 1), (32, .getfield 385, 3), (35, .getfield 349, 3), (38, .ishl, 1), (39, .if_icmp .ge 49, 3), (42, .iload_n 2, 1), (43, .bipush (-2), 2), (45, .if_icmp .eq 17, 3), (48, .iload_n 3, 1), (49, .invokestatic 473, 3), (52, .iload_n 2, 1), (53, .invokestatic 473, 3), (56, .if_icmp .lt 6, 3), (59, .goto 23, 3), (62, .aload_n 0, 1), (63, .aload_n 0, 1), (64, .invokevirtual 437, 3), (67, .iload_n 3, 1), (68, .invokevirtual 440, 3), (71, .pop, 1)]
theorem zddX12_by_31 : dqW lzddX12_by_31 (cX12_by.data.toList.drop 31) 31 = true := by decide +kernel
theorem dX12_by_31 : decode cX12_by 31 = .ok (.aload_n 0, 1) := dq_get (L := lzddX12_by_31) 0 rfl zddX12_by_31 rfl
theorem dX12_by_32 : decode cX12_by 32 = .ok (.getfield 385, 3) := dq_get (L := lzddX12_by_31) 1 rfl zddX12_by_31 rfl
theorem dX12_by_35 : decode cX12_by 35 = .ok (.getfield 349, 3) := dq_get (L := lzddX12_by_31) 2 rfl zddX12_by_31 rfl
theorem dX12_by_38 : decode cX12_by 38 = .ok (.ishl, 1) := dq_get (L := lzddX12_by_31) 3 rfl zddX12_by_31 rfl
theorem dX12_by_39 : decode cX12_by 39 = .ok (.if_icmp .ge 49, 3) := dq_get (L := lzddX12_by_31) 4 rfl zddX12_by_31 rfl
theorem dX12_by_42 : decode cX12_by 42 = .ok (.iload_n 2, 1) := dq_get (L := lzddX12_by_31) 5 rfl zddX12_by_31 rfl
theorem dX12_by_43 : decode cX12_by 43 = .ok (.bipush (-2), 2) := dq_get (L := lzddX12_by_31) 6 rfl zddX12_by_31 rfl
theorem dX12_by_45 : decode cX12_by 45 = .ok (.if_icmp .eq 17, 3) := dq_get (L := lzddX12_by_31) 7 rfl zddX12_by_31 rfl
theorem dX12_by_48 : decode cX12_by 48 = .ok (.iload_n 3, 1) := dq_get (L := lzddX12_by_31) 8 rfl zddX12_by_31 rfl
theorem dX12_by_49 : decode cX12_by 49 = .ok (.invokestatic 473, 3) := dq_get (L := lzddX12_by_31) 9 rfl zddX12_by_31 rfl
theorem dX12_by_52 : decode cX12_by 52 = .ok (.iload_n 2, 1) := dq_get (L := lzddX12_by_31) 10 rfl zddX12_by_31 rfl
theorem dX12_by_53 : decode cX12_by 53 = .ok (.invokestatic 473, 3) := dq_get (L := lzddX12_by_31) 11 rfl zddX12_by_31 rfl
theorem dX12_by_56 : decode cX12_by 56 = .ok (.if_icmp .lt 6, 3) := dq_get (L := lzddX12_by_31) 12 rfl zddX12_by_31 rfl
theorem dX12_by_59 : decode cX12_by 59 = .ok (.goto 23, 3) := dq_get (L := lzddX12_by_31) 13 rfl zddX12_by_31 rfl
theorem dX12_by_62 : decode cX12_by 62 = .ok (.aload_n 0, 1) := dq_get (L := lzddX12_by_31) 14 rfl zddX12_by_31 rfl
theorem dX12_by_63 : decode cX12_by 63 = .ok (.aload_n 0, 1) := dq_get (L := lzddX12_by_31) 15 rfl zddX12_by_31 rfl
theorem dX12_by_64 : decode cX12_by 64 = .ok (.invokevirtual 437, 3) := dq_get (L := lzddX12_by_31) 16 rfl zddX12_by_31 rfl
theorem dX12_by_67 : decode cX12_by 67 = .ok (.iload_n 3, 1) := dq_get (L := lzddX12_by_31) 17 rfl zddX12_by_31 rfl
theorem dX12_by_68 : decode cX12_by 68 = .ok (.invokevirtual 440, 3) := dq_get (L := lzddX12_by_31) 18 rfl zddX12_by_31 rfl
theorem dX12_by_71 : decode cX12_by 71 = .ok (.pop, 1) := dq_get (L := lzddX12_by_31) 19 rfl zddX12_by_31 rfl
def lzddX12_by_72 : List (Nat × Instr × Nat) := [(72, .aload_n 0, 1), (73, .iload_n 1, 1), (74, .invokevirtual 488, 3), (77, .ifCond .eq 5, 3), (80, .iload_n 3, 1), (81, .istore_n 2, 1), (82, .iinc 3 1, 3), (85, .goto (-56), 3), (88, .aload_n 0, 1), (89, .iload_n 2, 1), (90, .invokevirtual 81, 3), (93, .ireturn, 1)]
theorem zddX12_by_72 : dqW lzddX12_by_72 (cX12_by.data.toList.drop 72) 72 = true := by decide +kernel
theorem dX12_by_72 : decode cX12_by 72 = .ok (.aload_n 0, 1) := dq_get (L := lzddX12_by_72) 0 rfl zddX12_by_72 rfl
theorem dX12_by_73 : decode cX12_by 73 = .ok (.iload_n 1, 1) := dq_get (L := lzddX12_by_72) 1 rfl zddX12_by_72 rfl
theorem dX12_by_74 : decode cX12_by 74 = .ok (.invokevirtual 488, 3) := dq_get (L := lzddX12_by_72) 2 rfl zddX12_by_72 rfl
theorem dX12_by_77 : decode cX12_by 77 = .ok (.ifCond .eq 5, 3) := dq_get (L := lzddX12_by_72) 3 rfl zddX12_by_72 rfl
theorem dX12_by_80 : decode cX12_by 80 = .ok (.iload_n 3, 1) := dq_get (L := lzddX12_by_72) 4 rfl zddX12_by_72 rfl
theorem dX12_by_81 : decode cX12_by 81 = .ok (.istore_n 2, 1) := dq_get (L := lzddX12_by_72) 5 rfl zddX12_by_72 rfl
theorem dX12_by_82 : decode cX12_by 82 = .ok (.iinc 3 1, 3) := dq_get (L := lzddX12_by_72) 6 rfl zddX12_by_72 rfl
theorem dX12_by_85 : decode cX12_by 85 = .ok (.goto (-56), 3) := dq_get (L := lzddX12_by_72) 7 rfl zddX12_by_72 rfl
theorem dX12_by_88 : decode cX12_by 88 = .ok (.aload_n 0, 1) := dq_get (L := lzddX12_by_72) 8 rfl zddX12_by_72 rfl
theorem dX12_by_89 : decode cX12_by 89 = .ok (.iload_n 2, 1) := dq_get (L := lzddX12_by_72) 9 rfl zddX12_by_72 rfl
theorem dX12_by_90 : decode cX12_by 90 = .ok (.invokevirtual 81, 3) := dq_get (L := lzddX12_by_72) 10 rfl zddX12_by_72 rfl
theorem dX12_by_93 : decode cX12_by 93 = .ok (.ireturn, 1) := dq_get (L := lzddX12_by_72) 11 rfl zddX12_by_72 rfl
def lzddX12_byteAt_0 : List (Nat × Instr × Nat) := [(0, .iload_n 1, 1), (1, .aload_n 0, 1), (2, .getfield 84, 3), (5, .if_icmp .ge 16, 3), (8, .aload_n 0, 1), (9, .getfield 13, 3), (12, .iload_n 1, 1), (13, .baload, 1), (14, .sipush 255, 3), (17, .iand, 1), (18, .goto 4, 3), (21, .iconst (-1), 1), (22, .ireturn, 1)]
theorem zddX12_byteAt_0 : dqW lzddX12_byteAt_0 (cX12_byteAt.data.toList.drop 0) 0 = true := by decide +kernel
theorem dX12_byteAt_0 : decode cX12_byteAt 0 = .ok (.iload_n 1, 1) := dq_get (L := lzddX12_byteAt_0) 0 rfl zddX12_byteAt_0 rfl
theorem dX12_byteAt_1 : decode cX12_byteAt 1 = .ok (.aload_n 0, 1) := dq_get (L := lzddX12_byteAt_0) 1 rfl zddX12_byteAt_0 rfl
theorem dX12_byteAt_2 : decode cX12_byteAt 2 = .ok (.getfield 84, 3) := dq_get (L := lzddX12_byteAt_0) 2 rfl zddX12_byteAt_0 rfl
theorem dX12_byteAt_5 : decode cX12_byteAt 5 = .ok (.if_icmp .ge 16, 3) := dq_get (L := lzddX12_byteAt_0) 3 rfl zddX12_byteAt_0 rfl
theorem dX12_byteAt_8 : decode cX12_byteAt 8 = .ok (.aload_n 0, 1) := dq_get (L := lzddX12_byteAt_0) 4 rfl zddX12_byteAt_0 rfl
theorem dX12_byteAt_9 : decode cX12_byteAt 9 = .ok (.getfield 13, 3) := dq_get (L := lzddX12_byteAt_0) 5 rfl zddX12_byteAt_0 rfl
theorem dX12_byteAt_12 : decode cX12_byteAt 12 = .ok (.iload_n 1, 1) := dq_get (L := lzddX12_byteAt_0) 6 rfl zddX12_byteAt_0 rfl
theorem dX12_byteAt_13 : decode cX12_byteAt 13 = .ok (.baload, 1) := dq_get (L := lzddX12_byteAt_0) 7 rfl zddX12_byteAt_0 rfl
theorem dX12_byteAt_14 : decode cX12_byteAt 14 = .ok (.sipush 255, 3) := dq_get (L := lzddX12_byteAt_0) 8 rfl zddX12_byteAt_0 rfl
theorem dX12_byteAt_17 : decode cX12_byteAt 17 = .ok (.iand, 1) := dq_get (L := lzddX12_byteAt_0) 9 rfl zddX12_byteAt_0 rfl
theorem dX12_byteAt_18 : decode cX12_byteAt 18 = .ok (.goto 4, 3) := dq_get (L := lzddX12_byteAt_0) 10 rfl zddX12_byteAt_0 rfl
theorem dX12_byteAt_21 : decode cX12_byteAt 21 = .ok (.iconst (-1), 1) := dq_get (L := lzddX12_byteAt_0) 11 rfl zddX12_byteAt_0 rfl
theorem dX12_byteAt_22 : decode cX12_byteAt 22 = .ok (.ireturn, 1) := dq_get (L := lzddX12_byteAt_0) 12 rfl zddX12_byteAt_0 rfl
def lzddX12_call_0 : List (Nat × Instr × Nat) := [(0, .aload_n 0, 1), (1, .iconst 0, 1), (2, .putfield 70, 3), (5, .aload_n 0, 1), (6, .getfield 385, 3), (9, .ifnull 18, 3), (12, .iload_n 1, 1), (13, .ifCond .lt 14, 3), (16, .iload_n 1, 1), (17, .aload_n 0, 1), (18, .getfield 385, 3), (21, .getfield 349, 3), (24, .if_icmp .lt 9, 3), (27, .aload_n 0, 1), (28, .iconst 1, 1), (29, .invokevirtual 507, 3), (32, .ireturn, 1), (33, .aload_n 0, 1), (34, .getfield 17, 3), (37, .iconst 0, 1)]
theorem zddX12_call_0 : dqW lzddX12_call_0 (cX12_call.data.toList.drop 0) 0 = true := by decide +kernel
theorem dX12_call_0 : decode cX12_call 0 = .ok (.aload_n 0, 1) := dq_get (L := lzddX12_call_0) 0 rfl zddX12_call_0 rfl
theorem dX12_call_1 : decode cX12_call 1 = .ok (.iconst 0, 1) := dq_get (L := lzddX12_call_0) 1 rfl zddX12_call_0 rfl
theorem dX12_call_2 : decode cX12_call 2 = .ok (.putfield 70, 3) := dq_get (L := lzddX12_call_0) 2 rfl zddX12_call_0 rfl
theorem dX12_call_5 : decode cX12_call 5 = .ok (.aload_n 0, 1) := dq_get (L := lzddX12_call_0) 3 rfl zddX12_call_0 rfl
theorem dX12_call_6 : decode cX12_call 6 = .ok (.getfield 385, 3) := dq_get (L := lzddX12_call_0) 4 rfl zddX12_call_0 rfl
theorem dX12_call_9 : decode cX12_call 9 = .ok (.ifnull 18, 3) := dq_get (L := lzddX12_call_0) 5 rfl zddX12_call_0 rfl
theorem dX12_call_12 : decode cX12_call 12 = .ok (.iload_n 1, 1) := dq_get (L := lzddX12_call_0) 6 rfl zddX12_call_0 rfl
theorem dX12_call_13 : decode cX12_call 13 = .ok (.ifCond .lt 14, 3) := dq_get (L := lzddX12_call_0) 7 rfl zddX12_call_0 rfl
theorem dX12_call_16 : decode cX12_call 16 = .ok (.iload_n 1, 1) := dq_get (L := lzddX12_call_0) 8 rfl zddX12_call_0 rfl
theorem dX12_call_17 : decode cX12_call 17 = .ok (.aload_n 0, 1) := dq_get (L := lzddX12_call_0) 9 rfl zddX12_call_0 rfl
theorem dX12_call_18 : decode cX12_call 18 = .ok (.getfield 385, 3) := dq_get (L := lzddX12_call_0) 10 rfl zddX12_call_0 rfl
theorem dX12_call_21 : decode cX12_call 21 = .ok (.getfield 349, 3) := dq_get (L := lzddX12_call_0) 11 rfl zddX12_call_0 rfl
theorem dX12_call_24 : decode cX12_call 24 = .ok (.if_icmp .lt 9, 3) := dq_get (L := lzddX12_call_0) 12 rfl zddX12_call_0 rfl
theorem dX12_call_27 : decode cX12_call 27 = .ok (.aload_n 0, 1) := dq_get (L := lzddX12_call_0) 13 rfl zddX12_call_0 rfl
theorem dX12_call_28 : decode cX12_call 28 = .ok (.iconst 1, 1) := dq_get (L := lzddX12_call_0) 14 rfl zddX12_call_0 rfl
theorem dX12_call_29 : decode cX12_call 29 = .ok (.invokevirtual 507, 3) := dq_get (L := lzddX12_call_0) 15 rfl zddX12_call_0 rfl
theorem dX12_call_32 : decode cX12_call 32 = .ok (.ireturn, 1) := dq_get (L := lzddX12_call_0) 16 rfl zddX12_call_0 rfl
theorem dX12_call_33 : decode cX12_call 33 = .ok (.aload_n 0, 1) := dq_get (L := lzddX12_call_0) 17 rfl zddX12_call_0 rfl
theorem dX12_call_34 : decode cX12_call 34 = .ok (.getfield 17, 3) := dq_get (L := lzddX12_call_0) 18 rfl zddX12_call_0 rfl
theorem dX12_call_37 : decode cX12_call 37 = .ok (.iconst 0, 1) := dq_get (L := lzddX12_call_0) 19 rfl zddX12_call_0 rfl
def lzddX12_call_38 : List (Nat × Instr × Nat) := [(38, .iaload, 1), (39, .iload_n 1, 1), (40, .invokestatic 329, 3), (43, .iload_n 2, 1), (44, .if_icmp .ne 9, 3), (47, .aload_n 0, 1), (48, .iconst 5, 1), (49, .invokevirtual 507, 3), (52, .ireturn, 1), (53, .aload_n 0, 1), (54, .invokevirtual 510, 3), (57, .aload_n 0, 1), (58, .getfield 17, 3), (61, .iconst 0, 1), (62, .dup2, 1), (63, .iaload, 1), (64, .iconst 1, 1), (65, .iload_n 1, 1), (66, .ishl, 1), (67, .ixor, 1)]
theorem zddX12_call_38 : dqW lzddX12_call_38 (cX12_call.data.toList.drop 38) 38 = true := by decide +kernel
theorem dX12_call_38 : decode cX12_call 38 = .ok (.iaload, 1) := dq_get (L := lzddX12_call_38) 0 rfl zddX12_call_38 rfl
theorem dX12_call_39 : decode cX12_call 39 = .ok (.iload_n 1, 1) := dq_get (L := lzddX12_call_38) 1 rfl zddX12_call_38 rfl
theorem dX12_call_40 : decode cX12_call 40 = .ok (.invokestatic 329, 3) := dq_get (L := lzddX12_call_38) 2 rfl zddX12_call_38 rfl
theorem dX12_call_43 : decode cX12_call 43 = .ok (.iload_n 2, 1) := dq_get (L := lzddX12_call_38) 3 rfl zddX12_call_38 rfl
theorem dX12_call_44 : decode cX12_call 44 = .ok (.if_icmp .ne 9, 3) := dq_get (L := lzddX12_call_38) 4 rfl zddX12_call_38 rfl
theorem dX12_call_47 : decode cX12_call 47 = .ok (.aload_n 0, 1) := dq_get (L := lzddX12_call_38) 5 rfl zddX12_call_38 rfl
theorem dX12_call_48 : decode cX12_call 48 = .ok (.iconst 5, 1) := dq_get (L := lzddX12_call_38) 6 rfl zddX12_call_38 rfl
theorem dX12_call_49 : decode cX12_call 49 = .ok (.invokevirtual 507, 3) := dq_get (L := lzddX12_call_38) 7 rfl zddX12_call_38 rfl
theorem dX12_call_52 : decode cX12_call 52 = .ok (.ireturn, 1) := dq_get (L := lzddX12_call_38) 8 rfl zddX12_call_38 rfl
theorem dX12_call_53 : decode cX12_call 53 = .ok (.aload_n 0, 1) := dq_get (L := lzddX12_call_38) 9 rfl zddX12_call_38 rfl
theorem dX12_call_54 : decode cX12_call 54 = .ok (.invokevirtual 510, 3) := dq_get (L := lzddX12_call_38) 10 rfl zddX12_call_38 rfl
theorem dX12_call_57 : decode cX12_call 57 = .ok (.aload_n 0, 1) := dq_get (L := lzddX12_call_38) 11 rfl zddX12_call_38 rfl
theorem dX12_call_58 : decode cX12_call 58 = .ok (.getfield 17, 3) := dq_get (L := lzddX12_call_38) 12 rfl zddX12_call_38 rfl
theorem dX12_call_61 : decode cX12_call 61 = .ok (.iconst 0, 1) := dq_get (L := lzddX12_call_38) 13 rfl zddX12_call_38 rfl
theorem dX12_call_62 : decode cX12_call 62 = .ok (.dup2, 1) := dq_get (L := lzddX12_call_38) 14 rfl zddX12_call_38 rfl
theorem dX12_call_63 : decode cX12_call 63 = .ok (.iaload, 1) := dq_get (L := lzddX12_call_38) 15 rfl zddX12_call_38 rfl
theorem dX12_call_64 : decode cX12_call 64 = .ok (.iconst 1, 1) := dq_get (L := lzddX12_call_38) 16 rfl zddX12_call_38 rfl
theorem dX12_call_65 : decode cX12_call 65 = .ok (.iload_n 1, 1) := dq_get (L := lzddX12_call_38) 17 rfl zddX12_call_38 rfl
theorem dX12_call_66 : decode cX12_call 66 = .ok (.ishl, 1) := dq_get (L := lzddX12_call_38) 18 rfl zddX12_call_38 rfl
theorem dX12_call_67 : decode cX12_call 67 = .ok (.ixor, 1) := dq_get (L := lzddX12_call_38) 19 rfl zddX12_call_38 rfl
def lzddX12_call_68 : List (Nat × Instr × Nat) := [(68, .iastore, 1), (69, .aload_n 0, 1), (70, .invokevirtual 513, 3), (73, .ireturn, 1)]
theorem zddX12_call_68 : dqW lzddX12_call_68 (cX12_call.data.toList.drop 68) 68 = true := by decide +kernel
theorem dX12_call_68 : decode cX12_call 68 = .ok (.iastore, 1) := dq_get (L := lzddX12_call_68) 0 rfl zddX12_call_68 rfl
theorem dX12_call_69 : decode cX12_call 69 = .ok (.aload_n 0, 1) := dq_get (L := lzddX12_call_68) 1 rfl zddX12_call_68 rfl
theorem dX12_call_70 : decode cX12_call 70 = .ok (.invokevirtual 513, 3) := dq_get (L := lzddX12_call_68) 2 rfl zddX12_call_68 rfl
theorem dX12_call_73 : decode cX12_call 73 = .ok (.ireturn, 1) := dq_get (L := lzddX12_call_68) 3 rfl zddX12_call_68 rfl
def lzddX12_calls_0 : List (Nat × Instr × Nat) := [(0, .aload_n 0, 1), (1, .iconst 0, 1), (2, .putfield 70, 3), (5, .aload_n 0, 1), (6, .getfield 385, 3), (9, .ifnonnull 11, 3), (12, .aload_n 0, 1), (13, .iconst 1, 1), (14, .invokevirtual 76, 3), (17, .goto 13, 3), (20, .aload_n 0, 1), (21, .aload_n 0, 1), (22, .getfield 17, 3), (25, .iconst 0, 1), (26, .iaload, 1), (27, .invokevirtual 81, 3), (30, .ireturn, 1)]
theorem zddX12_calls_0 : dqW lzddX12_calls_0 (cX12_calls.data.toList.drop 0) 0 = true := by decide +kernel
theorem dX12_calls_0 : decode cX12_calls 0 = .ok (.aload_n 0, 1) := dq_get (L := lzddX12_calls_0) 0 rfl zddX12_calls_0 rfl
theorem dX12_calls_1 : decode cX12_calls 1 = .ok (.iconst 0, 1) := dq_get (L := lzddX12_calls_0) 1 rfl zddX12_calls_0 rfl
theorem dX12_calls_2 : decode cX12_calls 2 = .ok (.putfield 70, 3) := dq_get (L := lzddX12_calls_0) 2 rfl zddX12_calls_0 rfl
theorem dX12_calls_5 : decode cX12_calls 5 = .ok (.aload_n 0, 1) := dq_get (L := lzddX12_calls_0) 3 rfl zddX12_calls_0 rfl
theorem dX12_calls_6 : decode cX12_calls 6 = .ok (.getfield 385, 3) := dq_get (L := lzddX12_calls_0) 4 rfl zddX12_calls_0 rfl
theorem dX12_calls_9 : decode cX12_calls 9 = .ok (.ifnonnull 11, 3) := dq_get (L := lzddX12_calls_0) 5 rfl zddX12_calls_0 rfl
theorem dX12_calls_12 : decode cX12_calls 12 = .ok (.aload_n 0, 1) := dq_get (L := lzddX12_calls_0) 6 rfl zddX12_calls_0 rfl
theorem dX12_calls_13 : decode cX12_calls 13 = .ok (.iconst 1, 1) := dq_get (L := lzddX12_calls_0) 7 rfl zddX12_calls_0 rfl
theorem dX12_calls_14 : decode cX12_calls 14 = .ok (.invokevirtual 76, 3) := dq_get (L := lzddX12_calls_0) 8 rfl zddX12_calls_0 rfl
theorem dX12_calls_17 : decode cX12_calls 17 = .ok (.goto 13, 3) := dq_get (L := lzddX12_calls_0) 9 rfl zddX12_calls_0 rfl
theorem dX12_calls_20 : decode cX12_calls 20 = .ok (.aload_n 0, 1) := dq_get (L := lzddX12_calls_0) 10 rfl zddX12_calls_0 rfl
theorem dX12_calls_21 : decode cX12_calls 21 = .ok (.aload_n 0, 1) := dq_get (L := lzddX12_calls_0) 11 rfl zddX12_calls_0 rfl
theorem dX12_calls_22 : decode cX12_calls 22 = .ok (.getfield 17, 3) := dq_get (L := lzddX12_calls_0) 12 rfl zddX12_calls_0 rfl
theorem dX12_calls_25 : decode cX12_calls 25 = .ok (.iconst 0, 1) := dq_get (L := lzddX12_calls_0) 13 rfl zddX12_calls_0 rfl
theorem dX12_calls_26 : decode cX12_calls 26 = .ok (.iaload, 1) := dq_get (L := lzddX12_calls_0) 14 rfl zddX12_calls_0 rfl
theorem dX12_calls_27 : decode cX12_calls 27 = .ok (.invokevirtual 81, 3) := dq_get (L := lzddX12_calls_0) 15 rfl zddX12_calls_0 rfl
theorem dX12_calls_30 : decode cX12_calls 30 = .ok (.ireturn, 1) := dq_get (L := lzddX12_calls_0) 16 rfl zddX12_calls_0 rfl
def lzddX12_cause_0 : List (Nat × Instr × Nat) := [(0, .aload_n 0, 1), (1, .iconst 0, 1), (2, .putfield 70, 3), (5, .aload_n 0, 1), (6, .iload_n 1, 1), (7, .invokevirtual 461, 3), (10, .ifCond .ne 9, 3), (13, .aload_n 0, 1), (14, .iconst 1, 1), (15, .invokevirtual 76, 3), (18, .ireturn, 1), (19, .aload_n 0, 1), (20, .invokevirtual 455, 3), (23, .pop, 1), (24, .aload_n 0, 1), (25, .iload_n 1, 1), (26, .iload_n 2, 1), (27, .invokevirtual 464, 3), (30, .istore_n 3, 1), (31, .iload_n 3, 1)]
theorem zddX12_cause_0 : dqW lzddX12_cause_0 (cX12_cause.data.toList.drop 0) 0 = true := by decide +kernel
theorem dX12_cause_0 : decode cX12_cause 0 = .ok (.aload_n 0, 1) := dq_get (L := lzddX12_cause_0) 0 rfl zddX12_cause_0 rfl
theorem dX12_cause_1 : decode cX12_cause 1 = .ok (.iconst 0, 1) := dq_get (L := lzddX12_cause_0) 1 rfl zddX12_cause_0 rfl
theorem dX12_cause_2 : decode cX12_cause 2 = .ok (.putfield 70, 3) := dq_get (L := lzddX12_cause_0) 2 rfl zddX12_cause_0 rfl
theorem dX12_cause_5 : decode cX12_cause 5 = .ok (.aload_n 0, 1) := dq_get (L := lzddX12_cause_0) 3 rfl zddX12_cause_0 rfl
theorem dX12_cause_6 : decode cX12_cause 6 = .ok (.iload_n 1, 1) := dq_get (L := lzddX12_cause_0) 4 rfl zddX12_cause_0 rfl
theorem dX12_cause_7 : decode cX12_cause 7 = .ok (.invokevirtual 461, 3) := dq_get (L := lzddX12_cause_0) 5 rfl zddX12_cause_0 rfl
theorem dX12_cause_10 : decode cX12_cause 10 = .ok (.ifCond .ne 9, 3) := dq_get (L := lzddX12_cause_0) 6 rfl zddX12_cause_0 rfl
theorem dX12_cause_13 : decode cX12_cause 13 = .ok (.aload_n 0, 1) := dq_get (L := lzddX12_cause_0) 7 rfl zddX12_cause_0 rfl
theorem dX12_cause_14 : decode cX12_cause 14 = .ok (.iconst 1, 1) := dq_get (L := lzddX12_cause_0) 8 rfl zddX12_cause_0 rfl
theorem dX12_cause_15 : decode cX12_cause 15 = .ok (.invokevirtual 76, 3) := dq_get (L := lzddX12_cause_0) 9 rfl zddX12_cause_0 rfl
theorem dX12_cause_18 : decode cX12_cause 18 = .ok (.ireturn, 1) := dq_get (L := lzddX12_cause_0) 10 rfl zddX12_cause_0 rfl
theorem dX12_cause_19 : decode cX12_cause 19 = .ok (.aload_n 0, 1) := dq_get (L := lzddX12_cause_0) 11 rfl zddX12_cause_0 rfl
theorem dX12_cause_20 : decode cX12_cause 20 = .ok (.invokevirtual 455, 3) := dq_get (L := lzddX12_cause_0) 12 rfl zddX12_cause_0 rfl
theorem dX12_cause_23 : decode cX12_cause 23 = .ok (.pop, 1) := dq_get (L := lzddX12_cause_0) 13 rfl zddX12_cause_0 rfl
theorem dX12_cause_24 : decode cX12_cause 24 = .ok (.aload_n 0, 1) := dq_get (L := lzddX12_cause_0) 14 rfl zddX12_cause_0 rfl
theorem dX12_cause_25 : decode cX12_cause 25 = .ok (.iload_n 1, 1) := dq_get (L := lzddX12_cause_0) 15 rfl zddX12_cause_0 rfl
theorem dX12_cause_26 : decode cX12_cause 26 = .ok (.iload_n 2, 1) := dq_get (L := lzddX12_cause_0) 16 rfl zddX12_cause_0 rfl
theorem dX12_cause_27 : decode cX12_cause 27 = .ok (.invokevirtual 464, 3) := dq_get (L := lzddX12_cause_0) 17 rfl zddX12_cause_0 rfl
theorem dX12_cause_30 : decode cX12_cause 30 = .ok (.istore_n 3, 1) := dq_get (L := lzddX12_cause_0) 18 rfl zddX12_cause_0 rfl
theorem dX12_cause_31 : decode cX12_cause 31 = .ok (.iload_n 3, 1) := dq_get (L := lzddX12_cause_0) 19 rfl zddX12_cause_0 rfl
def lzddX12_cause_32 : List (Nat × Instr × Nat) := [(32, .iconst (-1), 1), (33, .if_icmp .ne 9, 3), (36, .aload_n 0, 1), (37, .iconst 1, 1), (38, .invokevirtual 76, 3), (41, .ireturn, 1), (42, .iconst 0, 1), (43, .istore 4, 2), (45, .iload 4, 2), (47, .aload_n 0, 1), (48, .invokevirtual 393, 3), (51, .if_icmp .ge 36, 3), (54, .aload_n 0, 1), (55, .iload 4, 2), (57, .invokevirtual 395, 3), (60, .iload_n 3, 1), (61, .if_icmp .eq 13, 3), (64, .aload_n 0, 1), (65, .iload 4, 2), (67, .invokevirtual 398, 3)]
theorem zddX12_cause_32 : dqW lzddX12_cause_32 (cX12_cause.data.toList.drop 32) 32 = true := by decide +kernel
theorem dX12_cause_32 : decode cX12_cause 32 = .ok (.iconst (-1), 1) := dq_get (L := lzddX12_cause_32) 0 rfl zddX12_cause_32 rfl
theorem dX12_cause_33 : decode cX12_cause 33 = .ok (.if_icmp .ne 9, 3) := dq_get (L := lzddX12_cause_32) 1 rfl zddX12_cause_32 rfl
theorem dX12_cause_36 : decode cX12_cause 36 = .ok (.aload_n 0, 1) := dq_get (L := lzddX12_cause_32) 2 rfl zddX12_cause_32 rfl
theorem dX12_cause_37 : decode cX12_cause 37 = .ok (.iconst 1, 1) := dq_get (L := lzddX12_cause_32) 3 rfl zddX12_cause_32 rfl
theorem dX12_cause_38 : decode cX12_cause 38 = .ok (.invokevirtual 76, 3) := dq_get (L := lzddX12_cause_32) 4 rfl zddX12_cause_32 rfl
theorem dX12_cause_41 : decode cX12_cause 41 = .ok (.ireturn, 1) := dq_get (L := lzddX12_cause_32) 5 rfl zddX12_cause_32 rfl
theorem dX12_cause_42 : decode cX12_cause 42 = .ok (.iconst 0, 1) := dq_get (L := lzddX12_cause_32) 6 rfl zddX12_cause_32 rfl
theorem dX12_cause_43 : decode cX12_cause 43 = .ok (.istore 4, 2) := dq_get (L := lzddX12_cause_32) 7 rfl zddX12_cause_32 rfl
theorem dX12_cause_45 : decode cX12_cause 45 = .ok (.iload 4, 2) := dq_get (L := lzddX12_cause_32) 8 rfl zddX12_cause_32 rfl
theorem dX12_cause_47 : decode cX12_cause 47 = .ok (.aload_n 0, 1) := dq_get (L := lzddX12_cause_32) 9 rfl zddX12_cause_32 rfl
theorem dX12_cause_48 : decode cX12_cause 48 = .ok (.invokevirtual 393, 3) := dq_get (L := lzddX12_cause_32) 10 rfl zddX12_cause_32 rfl
theorem dX12_cause_51 : decode cX12_cause 51 = .ok (.if_icmp .ge 36, 3) := dq_get (L := lzddX12_cause_32) 11 rfl zddX12_cause_32 rfl
theorem dX12_cause_54 : decode cX12_cause 54 = .ok (.aload_n 0, 1) := dq_get (L := lzddX12_cause_32) 12 rfl zddX12_cause_32 rfl
theorem dX12_cause_55 : decode cX12_cause 55 = .ok (.iload 4, 2) := dq_get (L := lzddX12_cause_32) 13 rfl zddX12_cause_32 rfl
theorem dX12_cause_57 : decode cX12_cause 57 = .ok (.invokevirtual 395, 3) := dq_get (L := lzddX12_cause_32) 14 rfl zddX12_cause_32 rfl
theorem dX12_cause_60 : decode cX12_cause 60 = .ok (.iload_n 3, 1) := dq_get (L := lzddX12_cause_32) 15 rfl zddX12_cause_32 rfl
theorem dX12_cause_61 : decode cX12_cause 61 = .ok (.if_icmp .eq 13, 3) := dq_get (L := lzddX12_cause_32) 16 rfl zddX12_cause_32 rfl
theorem dX12_cause_64 : decode cX12_cause 64 = .ok (.aload_n 0, 1) := dq_get (L := lzddX12_cause_32) 17 rfl zddX12_cause_32 rfl
theorem dX12_cause_65 : decode cX12_cause 65 = .ok (.iload 4, 2) := dq_get (L := lzddX12_cause_32) 18 rfl zddX12_cause_32 rfl
theorem dX12_cause_67 : decode cX12_cause 67 = .ok (.invokevirtual 398, 3) := dq_get (L := lzddX12_cause_32) 19 rfl zddX12_cause_32 rfl
def lzddX12_cause_70 : List (Nat × Instr × Nat) := [(70, .iload_n 3, 1), (71, .if_icmp .ne 10, 3), (74, .aload_n 0, 1), (75, .iload 4, 2), (77, .invokevirtual 81, 3), (80, .ireturn, 1), (81, .iinc 4 1, 3), (84, .goto (-39), 3), (87, .aload_n 0, 1), (88, .bipush (-2), 2), (90, .invokevirtual 81, 3), (93, .ireturn, 1)]
theorem zddX12_cause_70 : dqW lzddX12_cause_70 (cX12_cause.data.toList.drop 70) 70 = true := by decide +kernel
theorem dX12_cause_70 : decode cX12_cause 70 = .ok (.iload_n 3, 1) := dq_get (L := lzddX12_cause_70) 0 rfl zddX12_cause_70 rfl
theorem dX12_cause_71 : decode cX12_cause 71 = .ok (.if_icmp .ne 10, 3) := dq_get (L := lzddX12_cause_70) 1 rfl zddX12_cause_70 rfl
theorem dX12_cause_74 : decode cX12_cause 74 = .ok (.aload_n 0, 1) := dq_get (L := lzddX12_cause_70) 2 rfl zddX12_cause_70 rfl
theorem dX12_cause_75 : decode cX12_cause 75 = .ok (.iload 4, 2) := dq_get (L := lzddX12_cause_70) 3 rfl zddX12_cause_70 rfl
theorem dX12_cause_77 : decode cX12_cause 77 = .ok (.invokevirtual 81, 3) := dq_get (L := lzddX12_cause_70) 4 rfl zddX12_cause_70 rfl
theorem dX12_cause_80 : decode cX12_cause 80 = .ok (.ireturn, 1) := dq_get (L := lzddX12_cause_70) 5 rfl zddX12_cause_70 rfl
theorem dX12_cause_81 : decode cX12_cause 81 = .ok (.iinc 4 1, 3) := dq_get (L := lzddX12_cause_70) 6 rfl zddX12_cause_70 rfl
theorem dX12_cause_84 : decode cX12_cause 84 = .ok (.goto (-39), 3) := dq_get (L := lzddX12_cause_70) 7 rfl zddX12_cause_70 rfl
theorem dX12_cause_87 : decode cX12_cause 87 = .ok (.aload_n 0, 1) := dq_get (L := lzddX12_cause_70) 8 rfl zddX12_cause_70 rfl
theorem dX12_cause_88 : decode cX12_cause 88 = .ok (.bipush (-2), 2) := dq_get (L := lzddX12_cause_70) 9 rfl zddX12_cause_70 rfl
theorem dX12_cause_90 : decode cX12_cause 90 = .ok (.invokevirtual 81, 3) := dq_get (L := lzddX12_cause_70) 10 rfl zddX12_cause_70 rfl
theorem dX12_cause_93 : decode cX12_cause 93 = .ok (.ireturn, 1) := dq_get (L := lzddX12_cause_70) 11 rfl zddX12_cause_70 rfl
def lzddX12_change_0 : List (Nat × Instr × Nat) := [(0, .aload_n 0, 1), (1, .iconst 0, 1), (2, .putfield 70, 3), (5, .aload_n 0, 1), (6, .iload_n 1, 1), (7, .invokevirtual 446, 3), (10, .ifCond .ne 9, 3), (13, .aload_n 0, 1), (14, .iconst 1, 1), (15, .invokevirtual 76, 3), (18, .ireturn, 1), (19, .aload_n 0, 1), (20, .iconst (-1), 1), (21, .invokevirtual 434, 3), (24, .iconst 0, 1), (25, .istore_n 3, 1), (26, .iconst 0, 1), (27, .istore 4, 2), (29, .iload 4, 2), (31, .aload_n 0, 1)]
theorem zddX12_change_0 : dqW lzddX12_change_0 (cX12_change.data.toList.drop 0) 0 = true := by decide +kernel
theorem dX12_change_0 : decode cX12_change 0 = .ok (.aload_n 0, 1) := dq_get (L := lzddX12_change_0) 0 rfl zddX12_change_0 rfl
theorem dX12_change_1 : decode cX12_change 1 = .ok (.iconst 0, 1) := dq_get (L := lzddX12_change_0) 1 rfl zddX12_change_0 rfl
theorem dX12_change_2 : decode cX12_change 2 = .ok (.putfield 70, 3) := dq_get (L := lzddX12_change_0) 2 rfl zddX12_change_0 rfl
theorem dX12_change_5 : decode cX12_change 5 = .ok (.aload_n 0, 1) := dq_get (L := lzddX12_change_0) 3 rfl zddX12_change_0 rfl
theorem dX12_change_6 : decode cX12_change 6 = .ok (.iload_n 1, 1) := dq_get (L := lzddX12_change_0) 4 rfl zddX12_change_0 rfl
theorem dX12_change_7 : decode cX12_change 7 = .ok (.invokevirtual 446, 3) := dq_get (L := lzddX12_change_0) 5 rfl zddX12_change_0 rfl
theorem dX12_change_10 : decode cX12_change 10 = .ok (.ifCond .ne 9, 3) := dq_get (L := lzddX12_change_0) 6 rfl zddX12_change_0 rfl
theorem dX12_change_13 : decode cX12_change 13 = .ok (.aload_n 0, 1) := dq_get (L := lzddX12_change_0) 7 rfl zddX12_change_0 rfl
theorem dX12_change_14 : decode cX12_change 14 = .ok (.iconst 1, 1) := dq_get (L := lzddX12_change_0) 8 rfl zddX12_change_0 rfl
theorem dX12_change_15 : decode cX12_change 15 = .ok (.invokevirtual 76, 3) := dq_get (L := lzddX12_change_0) 9 rfl zddX12_change_0 rfl
theorem dX12_change_18 : decode cX12_change 18 = .ok (.ireturn, 1) := dq_get (L := lzddX12_change_0) 10 rfl zddX12_change_0 rfl
theorem dX12_change_19 : decode cX12_change 19 = .ok (.aload_n 0, 1) := dq_get (L := lzddX12_change_0) 11 rfl zddX12_change_0 rfl
theorem dX12_change_20 : decode cX12_change 20 = .ok (.iconst (-1), 1) := dq_get (L := lzddX12_change_0) 12 rfl zddX12_change_0 rfl
theorem dX12_change_21 : decode cX12_change 21 = .ok (.invokevirtual 434, 3) := dq_get (L := lzddX12_change_0) 13 rfl zddX12_change_0 rfl
theorem dX12_change_24 : decode cX12_change 24 = .ok (.iconst 0, 1) := dq_get (L := lzddX12_change_0) 14 rfl zddX12_change_0 rfl
theorem dX12_change_25 : decode cX12_change 25 = .ok (.istore_n 3, 1) := dq_get (L := lzddX12_change_0) 15 rfl zddX12_change_0 rfl
theorem dX12_change_26 : decode cX12_change 26 = .ok (.iconst 0, 1) := dq_get (L := lzddX12_change_0) 16 rfl zddX12_change_0 rfl
theorem dX12_change_27 : decode cX12_change 27 = .ok (.istore 4, 2) := dq_get (L := lzddX12_change_0) 17 rfl zddX12_change_0 rfl
theorem dX12_change_29 : decode cX12_change 29 = .ok (.iload 4, 2) := dq_get (L := lzddX12_change_0) 18 rfl zddX12_change_0 rfl
theorem dX12_change_31 : decode cX12_change 31 = .ok (.aload_n 0, 1) := dq_get (L := lzddX12_change_0) 19 rfl zddX12_change_0 rfl
def lzddX12_change_32 : List (Nat × Instr × Nat) := [(32, .getfield 385, 3), (35, .getfield 192, 3), (38, .if_icmp .ge 37, 3), (41, .aload_n 0, 1), (42, .iload_n 1, 1), (43, .iload 4, 2), (45, .invokevirtual 413, 3), (48, .ifCond .ne 6, 3), (51, .goto 18, 3), (54, .iload_n 3, 1), (55, .iload_n 2, 1), (56, .if_icmp .ne 10, 3), (59, .aload_n 0, 1), (60, .iload 4, 2), (62, .invokevirtual 81, 3), (65, .ireturn, 1), (66, .iinc 3 1, 3), (69, .iinc 4 1, 3), (72, .goto (-43), 3), (75, .aload_n 0, 1)]
theorem zddX12_change_32 : dqW lzddX12_change_32 (cX12_change.data.toList.drop 32) 32 = true := by decide +kernel
theorem dX12_change_32 : decode cX12_change 32 = .ok (.getfield 385, 3) := dq_get (L := lzddX12_change_32) 0 rfl zddX12_change_32 rfl
theorem dX12_change_35 : decode cX12_change 35 = .ok (.getfield 192, 3) := dq_get (L := lzddX12_change_32) 1 rfl zddX12_change_32 rfl
theorem dX12_change_38 : decode cX12_change 38 = .ok (.if_icmp .ge 37, 3) := dq_get (L := lzddX12_change_32) 2 rfl zddX12_change_32 rfl
theorem dX12_change_41 : decode cX12_change 41 = .ok (.aload_n 0, 1) := dq_get (L := lzddX12_change_32) 3 rfl zddX12_change_32 rfl
theorem dX12_change_42 : decode cX12_change 42 = .ok (.iload_n 1, 1) := dq_get (L := lzddX12_change_32) 4 rfl zddX12_change_32 rfl
theorem dX12_change_43 : decode cX12_change 43 = .ok (.iload 4, 2) := dq_get (L := lzddX12_change_32) 5 rfl zddX12_change_32 rfl
theorem dX12_change_45 : decode cX12_change 45 = .ok (.invokevirtual 413, 3) := dq_get (L := lzddX12_change_32) 6 rfl zddX12_change_32 rfl
theorem dX12_change_48 : decode cX12_change 48 = .ok (.ifCond .ne 6, 3) := dq_get (L := lzddX12_change_32) 7 rfl zddX12_change_32 rfl
theorem dX12_change_51 : decode cX12_change 51 = .ok (.goto 18, 3) := dq_get (L := lzddX12_change_32) 8 rfl zddX12_change_32 rfl
theorem dX12_change_54 : decode cX12_change 54 = .ok (.iload_n 3, 1) := dq_get (L := lzddX12_change_32) 9 rfl zddX12_change_32 rfl
theorem dX12_change_55 : decode cX12_change 55 = .ok (.iload_n 2, 1) := dq_get (L := lzddX12_change_32) 10 rfl zddX12_change_32 rfl
theorem dX12_change_56 : decode cX12_change 56 = .ok (.if_icmp .ne 10, 3) := dq_get (L := lzddX12_change_32) 11 rfl zddX12_change_32 rfl
theorem dX12_change_59 : decode cX12_change 59 = .ok (.aload_n 0, 1) := dq_get (L := lzddX12_change_32) 12 rfl zddX12_change_32 rfl
theorem dX12_change_60 : decode cX12_change 60 = .ok (.iload 4, 2) := dq_get (L := lzddX12_change_32) 13 rfl zddX12_change_32 rfl
theorem dX12_change_62 : decode cX12_change 62 = .ok (.invokevirtual 81, 3) := dq_get (L := lzddX12_change_32) 14 rfl zddX12_change_32 rfl
theorem dX12_change_65 : decode cX12_change 65 = .ok (.ireturn, 1) := dq_get (L := lzddX12_change_32) 15 rfl zddX12_change_32 rfl
theorem dX12_change_66 : decode cX12_change 66 = .ok (.iinc 3 1, 3) := dq_get (L := lzddX12_change_32) 16 rfl zddX12_change_32 rfl
theorem dX12_change_69 : decode cX12_change 69 = .ok (.iinc 4 1, 3) := dq_get (L := lzddX12_change_32) 17 rfl zddX12_change_32 rfl
theorem dX12_change_72 : decode cX12_change 72 = .ok (.goto (-43), 3) := dq_get (L := lzddX12_change_32) 18 rfl zddX12_change_32 rfl
theorem dX12_change_75 : decode cX12_change 75 = .ok (.aload_n 0, 1) := dq_get (L := lzddX12_change_32) 19 rfl zddX12_change_32 rfl
def lzddX12_change_76 : List (Nat × Instr × Nat) := [(76, .iconst 1, 1), (77, .invokevirtual 76, 3), (80, .ireturn, 1)]
theorem zddX12_change_76 : dqW lzddX12_change_76 (cX12_change.data.toList.drop 76) 76 = true := by decide +kernel
theorem dX12_change_76 : decode cX12_change 76 = .ok (.iconst 1, 1) := dq_get (L := lzddX12_change_76) 0 rfl zddX12_change_76 rfl
theorem dX12_change_77 : decode cX12_change 77 = .ok (.invokevirtual 76, 3) := dq_get (L := lzddX12_change_76) 1 rfl zddX12_change_76 rfl
theorem dX12_change_80 : decode cX12_change 80 = .ok (.ireturn, 1) := dq_get (L := lzddX12_change_76) 2 rfl zddX12_change_76 rfl
def lzddX12_changes_0 : List (Nat × Instr × Nat) := [(0, .aload_n 0, 1), (1, .iconst 0, 1), (2, .putfield 70, 3), (5, .aload_n 0, 1), (6, .iload_n 1, 1), (7, .invokevirtual 446, 3), (10, .ifCond .ne 9, 3), (13, .aload_n 0, 1), (14, .iconst 1, 1), (15, .invokevirtual 76, 3), (18, .ireturn, 1), (19, .aload_n 0, 1), (20, .iconst (-1), 1), (21, .invokevirtual 434, 3), (24, .iconst 0, 1), (25, .istore_n 3, 1), (26, .iconst 0, 1), (27, .istore 4, 2), (29, .iload 4, 2), (31, .aload_n 0, 1)]
theorem zddX12_changes_0 : dqW lzddX12_changes_0 (cX12_changes.data.toList.drop 0) 0 = true := by decide +kernel
theorem dX12_changes_0 : decode cX12_changes 0 = .ok (.aload_n 0, 1) := dq_get (L := lzddX12_changes_0) 0 rfl zddX12_changes_0 rfl
theorem dX12_changes_1 : decode cX12_changes 1 = .ok (.iconst 0, 1) := dq_get (L := lzddX12_changes_0) 1 rfl zddX12_changes_0 rfl
theorem dX12_changes_2 : decode cX12_changes 2 = .ok (.putfield 70, 3) := dq_get (L := lzddX12_changes_0) 2 rfl zddX12_changes_0 rfl
theorem dX12_changes_5 : decode cX12_changes 5 = .ok (.aload_n 0, 1) := dq_get (L := lzddX12_changes_0) 3 rfl zddX12_changes_0 rfl
theorem dX12_changes_6 : decode cX12_changes 6 = .ok (.iload_n 1, 1) := dq_get (L := lzddX12_changes_0) 4 rfl zddX12_changes_0 rfl
theorem dX12_changes_7 : decode cX12_changes 7 = .ok (.invokevirtual 446, 3) := dq_get (L := lzddX12_changes_0) 5 rfl zddX12_changes_0 rfl
theorem dX12_changes_10 : decode cX12_changes 10 = .ok (.ifCond .ne 9, 3) := dq_get (L := lzddX12_changes_0) 6 rfl zddX12_changes_0 rfl
theorem dX12_changes_13 : decode cX12_changes 13 = .ok (.aload_n 0, 1) := dq_get (L := lzddX12_changes_0) 7 rfl zddX12_changes_0 rfl
theorem dX12_changes_14 : decode cX12_changes 14 = .ok (.iconst 1, 1) := dq_get (L := lzddX12_changes_0) 8 rfl zddX12_changes_0 rfl
theorem dX12_changes_15 : decode cX12_changes 15 = .ok (.invokevirtual 76, 3) := dq_get (L := lzddX12_changes_0) 9 rfl zddX12_changes_0 rfl
theorem dX12_changes_18 : decode cX12_changes 18 = .ok (.ireturn, 1) := dq_get (L := lzddX12_changes_0) 10 rfl zddX12_changes_0 rfl
theorem dX12_changes_19 : decode cX12_changes 19 = .ok (.aload_n 0, 1) := dq_get (L := lzddX12_changes_0) 11 rfl zddX12_changes_0 rfl
theorem dX12_changes_20 : decode cX12_changes 20 = .ok (.iconst (-1), 1) := dq_get (L := lzddX12_changes_0) 12 rfl zddX12_changes_0 rfl
theorem dX12_changes_21 : decode cX12_changes 21 = .ok (.invokevirtual 434, 3) := dq_get (L := lzddX12_changes_0) 13 rfl zddX12_changes_0 rfl
theorem dX12_changes_24 : decode cX12_changes 24 = .ok (.iconst 0, 1) := dq_get (L := lzddX12_changes_0) 14 rfl zddX12_changes_0 rfl
theorem dX12_changes_25 : decode cX12_changes 25 = .ok (.istore_n 3, 1) := dq_get (L := lzddX12_changes_0) 15 rfl zddX12_changes_0 rfl
theorem dX12_changes_26 : decode cX12_changes 26 = .ok (.iconst 0, 1) := dq_get (L := lzddX12_changes_0) 16 rfl zddX12_changes_0 rfl
theorem dX12_changes_27 : decode cX12_changes 27 = .ok (.istore 4, 2) := dq_get (L := lzddX12_changes_0) 17 rfl zddX12_changes_0 rfl
theorem dX12_changes_29 : decode cX12_changes 29 = .ok (.iload 4, 2) := dq_get (L := lzddX12_changes_0) 18 rfl zddX12_changes_0 rfl
theorem dX12_changes_31 : decode cX12_changes 31 = .ok (.aload_n 0, 1) := dq_get (L := lzddX12_changes_0) 19 rfl zddX12_changes_0 rfl
def lzddX12_changes_32 : List (Nat × Instr × Nat) := [(32, .getfield 385, 3), (35, .getfield 192, 3), (38, .if_icmp .ge 44, 3), (41, .iload_n 3, 1), (42, .iload_n 2, 1), (43, .ifCond .eq 16, 3), (46, .aload_n 0, 1), (47, .iload_n 1, 1), (48, .iload 4, 2), (50, .invokevirtual 416, 3), (53, .ifCond .eq 20, 3), (56, .goto 13, 3), (59, .aload_n 0, 1), (60, .iload_n 1, 1), (61, .iload 4, 2), (63, .invokevirtual 413, 3), (66, .ifCond .eq 7, 3), (69, .iconst 1, 1), (70, .goto 4, 3), (73, .iconst 0, 1)]
theorem zddX12_changes_32 : dqW lzddX12_changes_32 (cX12_changes.data.toList.drop 32) 32 = true := by decide +kernel
theorem dX12_changes_32 : decode cX12_changes 32 = .ok (.getfield 385, 3) := dq_get (L := lzddX12_changes_32) 0 rfl zddX12_changes_32 rfl
theorem dX12_changes_35 : decode cX12_changes 35 = .ok (.getfield 192, 3) := dq_get (L := lzddX12_changes_32) 1 rfl zddX12_changes_32 rfl
theorem dX12_changes_38 : decode cX12_changes 38 = .ok (.if_icmp .ge 44, 3) := dq_get (L := lzddX12_changes_32) 2 rfl zddX12_changes_32 rfl
theorem dX12_changes_41 : decode cX12_changes 41 = .ok (.iload_n 3, 1) := dq_get (L := lzddX12_changes_32) 3 rfl zddX12_changes_32 rfl
theorem dX12_changes_42 : decode cX12_changes 42 = .ok (.iload_n 2, 1) := dq_get (L := lzddX12_changes_32) 4 rfl zddX12_changes_32 rfl
theorem dX12_changes_43 : decode cX12_changes 43 = .ok (.ifCond .eq 16, 3) := dq_get (L := lzddX12_changes_32) 5 rfl zddX12_changes_32 rfl
theorem dX12_changes_46 : decode cX12_changes 46 = .ok (.aload_n 0, 1) := dq_get (L := lzddX12_changes_32) 6 rfl zddX12_changes_32 rfl
theorem dX12_changes_47 : decode cX12_changes 47 = .ok (.iload_n 1, 1) := dq_get (L := lzddX12_changes_32) 7 rfl zddX12_changes_32 rfl
theorem dX12_changes_48 : decode cX12_changes 48 = .ok (.iload 4, 2) := dq_get (L := lzddX12_changes_32) 8 rfl zddX12_changes_32 rfl
theorem dX12_changes_50 : decode cX12_changes 50 = .ok (.invokevirtual 416, 3) := dq_get (L := lzddX12_changes_32) 9 rfl zddX12_changes_32 rfl
theorem dX12_changes_53 : decode cX12_changes 53 = .ok (.ifCond .eq 20, 3) := dq_get (L := lzddX12_changes_32) 10 rfl zddX12_changes_32 rfl
theorem dX12_changes_56 : decode cX12_changes 56 = .ok (.goto 13, 3) := dq_get (L := lzddX12_changes_32) 11 rfl zddX12_changes_32 rfl
theorem dX12_changes_59 : decode cX12_changes 59 = .ok (.aload_n 0, 1) := dq_get (L := lzddX12_changes_32) 12 rfl zddX12_changes_32 rfl
theorem dX12_changes_60 : decode cX12_changes 60 = .ok (.iload_n 1, 1) := dq_get (L := lzddX12_changes_32) 13 rfl zddX12_changes_32 rfl
theorem dX12_changes_61 : decode cX12_changes 61 = .ok (.iload 4, 2) := dq_get (L := lzddX12_changes_32) 14 rfl zddX12_changes_32 rfl
theorem dX12_changes_63 : decode cX12_changes 63 = .ok (.invokevirtual 413, 3) := dq_get (L := lzddX12_changes_32) 15 rfl zddX12_changes_32 rfl
theorem dX12_changes_66 : decode cX12_changes 66 = .ok (.ifCond .eq 7, 3) := dq_get (L := lzddX12_changes_32) 16 rfl zddX12_changes_32 rfl
theorem dX12_changes_69 : decode cX12_changes 69 = .ok (.iconst 1, 1) := dq_get (L := lzddX12_changes_32) 17 rfl zddX12_changes_32 rfl
theorem dX12_changes_70 : decode cX12_changes 70 = .ok (.goto 4, 3) := dq_get (L := lzddX12_changes_32) 18 rfl zddX12_changes_32 rfl
theorem dX12_changes_73 : decode cX12_changes 73 = .ok (.iconst 0, 1) := dq_get (L := lzddX12_changes_32) 19 rfl zddX12_changes_32 rfl
def lzddX12_changes_74 : List (Nat × Instr × Nat) := [(74, .iadd, 1), (75, .istore_n 3, 1), (76, .iinc 4 1, 3), (79, .goto (-50), 3), (82, .aload_n 0, 1), (83, .iload_n 3, 1), (84, .invokevirtual 81, 3), (87, .ireturn, 1)]
theorem zddX12_changes_74 : dqW lzddX12_changes_74 (cX12_changes.data.toList.drop 74) 74 = true := by decide +kernel
theorem dX12_changes_74 : decode cX12_changes 74 = .ok (.iadd, 1) := dq_get (L := lzddX12_changes_74) 0 rfl zddX12_changes_74 rfl
theorem dX12_changes_75 : decode cX12_changes 75 = .ok (.istore_n 3, 1) := dq_get (L := lzddX12_changes_74) 1 rfl zddX12_changes_74 rfl
theorem dX12_changes_76 : decode cX12_changes 76 = .ok (.iinc 4 1, 3) := dq_get (L := lzddX12_changes_74) 2 rfl zddX12_changes_74 rfl
theorem dX12_changes_79 : decode cX12_changes 79 = .ok (.goto (-50), 3) := dq_get (L := lzddX12_changes_74) 3 rfl zddX12_changes_74 rfl
theorem dX12_changes_82 : decode cX12_changes 82 = .ok (.aload_n 0, 1) := dq_get (L := lzddX12_changes_74) 4 rfl zddX12_changes_74 rfl
theorem dX12_changes_83 : decode cX12_changes 83 = .ok (.iload_n 3, 1) := dq_get (L := lzddX12_changes_74) 5 rfl zddX12_changes_74 rfl
theorem dX12_changes_84 : decode cX12_changes 84 = .ok (.invokevirtual 81, 3) := dq_get (L := lzddX12_changes_74) 6 rfl zddX12_changes_74 rfl
theorem dX12_changes_87 : decode cX12_changes 87 = .ok (.ireturn, 1) := dq_get (L := lzddX12_changes_74) 7 rfl zddX12_changes_74 rfl
def lzddX12_changesIn_0 : List (Nat × Instr × Nat) := [(0, .iload_n 2, 1), (1, .ifCond .le 36, 3), (4, .aload_n 0, 1), (5, .getfield 31, 3), (8, .sipush 240, 3), (11, .iload_n 1, 1), (12, .imul, 1), (13, .iload_n 2, 1), (14, .iadd, 1), (15, .baload, 1), (16, .aload_n 0, 1), (17, .getfield 31, 3), (20, .sipush 240, 3), (23, .iload_n 1, 1), (24, .imul, 1), (25, .iload_n 2, 1), (26, .iadd, 1), (27, .iconst 1, 1), (28, .isub, 1), (29, .baload, 1)]
theorem zddX12_changesIn_0 : dqW lzddX12_changesIn_0 (cX12_changesIn.data.toList.drop 0) 0 = true := by decide +kernel
theorem dX12_changesIn_0 : decode cX12_changesIn 0 = .ok (.iload_n 2, 1) := dq_get (L := lzddX12_changesIn_0) 0 rfl zddX12_changesIn_0 rfl
theorem dX12_changesIn_1 : decode cX12_changesIn 1 = .ok (.ifCond .le 36, 3) := dq_get (L := lzddX12_changesIn_0) 1 rfl zddX12_changesIn_0 rfl
theorem dX12_changesIn_4 : decode cX12_changesIn 4 = .ok (.aload_n 0, 1) := dq_get (L := lzddX12_changesIn_0) 2 rfl zddX12_changesIn_0 rfl
theorem dX12_changesIn_5 : decode cX12_changesIn 5 = .ok (.getfield 31, 3) := dq_get (L := lzddX12_changesIn_0) 3 rfl zddX12_changesIn_0 rfl
theorem dX12_changesIn_8 : decode cX12_changesIn 8 = .ok (.sipush 240, 3) := dq_get (L := lzddX12_changesIn_0) 4 rfl zddX12_changesIn_0 rfl
theorem dX12_changesIn_11 : decode cX12_changesIn 11 = .ok (.iload_n 1, 1) := dq_get (L := lzddX12_changesIn_0) 5 rfl zddX12_changesIn_0 rfl
theorem dX12_changesIn_12 : decode cX12_changesIn 12 = .ok (.imul, 1) := dq_get (L := lzddX12_changesIn_0) 6 rfl zddX12_changesIn_0 rfl
theorem dX12_changesIn_13 : decode cX12_changesIn 13 = .ok (.iload_n 2, 1) := dq_get (L := lzddX12_changesIn_0) 7 rfl zddX12_changesIn_0 rfl
theorem dX12_changesIn_14 : decode cX12_changesIn 14 = .ok (.iadd, 1) := dq_get (L := lzddX12_changesIn_0) 8 rfl zddX12_changesIn_0 rfl
theorem dX12_changesIn_15 : decode cX12_changesIn 15 = .ok (.baload, 1) := dq_get (L := lzddX12_changesIn_0) 9 rfl zddX12_changesIn_0 rfl
theorem dX12_changesIn_16 : decode cX12_changesIn 16 = .ok (.aload_n 0, 1) := dq_get (L := lzddX12_changesIn_0) 10 rfl zddX12_changesIn_0 rfl
theorem dX12_changesIn_17 : decode cX12_changesIn 17 = .ok (.getfield 31, 3) := dq_get (L := lzddX12_changesIn_0) 11 rfl zddX12_changesIn_0 rfl
theorem dX12_changesIn_20 : decode cX12_changesIn 20 = .ok (.sipush 240, 3) := dq_get (L := lzddX12_changesIn_0) 12 rfl zddX12_changesIn_0 rfl
theorem dX12_changesIn_23 : decode cX12_changesIn 23 = .ok (.iload_n 1, 1) := dq_get (L := lzddX12_changesIn_0) 13 rfl zddX12_changesIn_0 rfl
theorem dX12_changesIn_24 : decode cX12_changesIn 24 = .ok (.imul, 1) := dq_get (L := lzddX12_changesIn_0) 14 rfl zddX12_changesIn_0 rfl
theorem dX12_changesIn_25 : decode cX12_changesIn 25 = .ok (.iload_n 2, 1) := dq_get (L := lzddX12_changesIn_0) 15 rfl zddX12_changesIn_0 rfl
theorem dX12_changesIn_26 : decode cX12_changesIn 26 = .ok (.iadd, 1) := dq_get (L := lzddX12_changesIn_0) 16 rfl zddX12_changesIn_0 rfl
theorem dX12_changesIn_27 : decode cX12_changesIn 27 = .ok (.iconst 1, 1) := dq_get (L := lzddX12_changesIn_0) 17 rfl zddX12_changesIn_0 rfl
theorem dX12_changesIn_28 : decode cX12_changesIn 28 = .ok (.isub, 1) := dq_get (L := lzddX12_changesIn_0) 18 rfl zddX12_changesIn_0 rfl
theorem dX12_changesIn_29 : decode cX12_changesIn 29 = .ok (.baload, 1) := dq_get (L := lzddX12_changesIn_0) 19 rfl zddX12_changesIn_0 rfl
def lzddX12_changesIn_30 : List (Nat × Instr × Nat) := [(30, .if_icmp .eq 7, 3), (33, .iconst 1, 1), (34, .goto 4, 3), (37, .iconst 0, 1), (38, .ireturn, 1)]
theorem zddX12_changesIn_30 : dqW lzddX12_changesIn_30 (cX12_changesIn.data.toList.drop 30) 30 = true := by decide +kernel
theorem dX12_changesIn_30 : decode cX12_changesIn 30 = .ok (.if_icmp .eq 7, 3) := dq_get (L := lzddX12_changesIn_30) 0 rfl zddX12_changesIn_30 rfl
theorem dX12_changesIn_33 : decode cX12_changesIn 33 = .ok (.iconst 1, 1) := dq_get (L := lzddX12_changesIn_30) 1 rfl zddX12_changesIn_30 rfl
theorem dX12_changesIn_34 : decode cX12_changesIn 34 = .ok (.goto 4, 3) := dq_get (L := lzddX12_changesIn_30) 2 rfl zddX12_changesIn_30 rfl
theorem dX12_changesIn_37 : decode cX12_changesIn 37 = .ok (.iconst 0, 1) := dq_get (L := lzddX12_changesIn_30) 3 rfl zddX12_changesIn_30 rfl
theorem dX12_changesIn_38 : decode cX12_changesIn 38 = .ok (.ireturn, 1) := dq_get (L := lzddX12_changesIn_30) 4 rfl zddX12_changesIn_30 rfl
def lzddX12_cheese_0 : List (Nat × Instr × Nat) := [(0, .aload_n 0, 1), (1, .iconst 0, 1), (2, .putfield 70, 3), (5, .aload_n 0, 1), (6, .iload_n 1, 1), (7, .invokevirtual 461, 3), (10, .ifCond .eq 13, 3), (13, .iload_n 2, 1), (14, .iconst 0, 1), (15, .bipush 6, 2), (17, .invokestatic 149, 3), (20, .ifCond .ne 9, 3), (23, .aload_n 0, 1), (24, .iconst 1, 1), (25, .invokevirtual 76, 3), (28, .ireturn, 1), (29, .aload_n 0, 1), (30, .invokevirtual 455, 3), (33, .pop, 1), (34, .iload_n 2, 1)]
theorem zddX12_cheese_0 : dqW lzddX12_cheese_0 (cX12_cheese.data.toList.drop 0) 0 = true := by decide +kernel
theorem dX12_cheese_0 : decode cX12_cheese 0 = .ok (.aload_n 0, 1) := dq_get (L := lzddX12_cheese_0) 0 rfl zddX12_cheese_0 rfl
theorem dX12_cheese_1 : decode cX12_cheese 1 = .ok (.iconst 0, 1) := dq_get (L := lzddX12_cheese_0) 1 rfl zddX12_cheese_0 rfl
theorem dX12_cheese_2 : decode cX12_cheese 2 = .ok (.putfield 70, 3) := dq_get (L := lzddX12_cheese_0) 2 rfl zddX12_cheese_0 rfl
theorem dX12_cheese_5 : decode cX12_cheese 5 = .ok (.aload_n 0, 1) := dq_get (L := lzddX12_cheese_0) 3 rfl zddX12_cheese_0 rfl
theorem dX12_cheese_6 : decode cX12_cheese 6 = .ok (.iload_n 1, 1) := dq_get (L := lzddX12_cheese_0) 4 rfl zddX12_cheese_0 rfl
theorem dX12_cheese_7 : decode cX12_cheese 7 = .ok (.invokevirtual 461, 3) := dq_get (L := lzddX12_cheese_0) 5 rfl zddX12_cheese_0 rfl
theorem dX12_cheese_10 : decode cX12_cheese 10 = .ok (.ifCond .eq 13, 3) := dq_get (L := lzddX12_cheese_0) 6 rfl zddX12_cheese_0 rfl
theorem dX12_cheese_13 : decode cX12_cheese 13 = .ok (.iload_n 2, 1) := dq_get (L := lzddX12_cheese_0) 7 rfl zddX12_cheese_0 rfl
theorem dX12_cheese_14 : decode cX12_cheese 14 = .ok (.iconst 0, 1) := dq_get (L := lzddX12_cheese_0) 8 rfl zddX12_cheese_0 rfl
theorem dX12_cheese_15 : decode cX12_cheese 15 = .ok (.bipush 6, 2) := dq_get (L := lzddX12_cheese_0) 9 rfl zddX12_cheese_0 rfl
theorem dX12_cheese_17 : decode cX12_cheese 17 = .ok (.invokestatic 149, 3) := dq_get (L := lzddX12_cheese_0) 10 rfl zddX12_cheese_0 rfl
theorem dX12_cheese_20 : decode cX12_cheese 20 = .ok (.ifCond .ne 9, 3) := dq_get (L := lzddX12_cheese_0) 11 rfl zddX12_cheese_0 rfl
theorem dX12_cheese_23 : decode cX12_cheese 23 = .ok (.aload_n 0, 1) := dq_get (L := lzddX12_cheese_0) 12 rfl zddX12_cheese_0 rfl
theorem dX12_cheese_24 : decode cX12_cheese 24 = .ok (.iconst 1, 1) := dq_get (L := lzddX12_cheese_0) 13 rfl zddX12_cheese_0 rfl
theorem dX12_cheese_25 : decode cX12_cheese 25 = .ok (.invokevirtual 76, 3) := dq_get (L := lzddX12_cheese_0) 14 rfl zddX12_cheese_0 rfl
theorem dX12_cheese_28 : decode cX12_cheese 28 = .ok (.ireturn, 1) := dq_get (L := lzddX12_cheese_0) 15 rfl zddX12_cheese_0 rfl
theorem dX12_cheese_29 : decode cX12_cheese 29 = .ok (.aload_n 0, 1) := dq_get (L := lzddX12_cheese_0) 16 rfl zddX12_cheese_0 rfl
theorem dX12_cheese_30 : decode cX12_cheese 30 = .ok (.invokevirtual 455, 3) := dq_get (L := lzddX12_cheese_0) 17 rfl zddX12_cheese_0 rfl
theorem dX12_cheese_33 : decode cX12_cheese 33 = .ok (.pop, 1) := dq_get (L := lzddX12_cheese_0) 18 rfl zddX12_cheese_0 rfl
theorem dX12_cheese_34 : decode cX12_cheese 34 = .ok (.iload_n 2, 1) := dq_get (L := lzddX12_cheese_0) 19 rfl zddX12_cheese_0 rfl
theorem dX12_cheese_35 : decode cX12_cheese 35 = .ok (.tableswitch 113 0 5 #[37, 51, 69, 80, 91, 102], 37) := by decide +kernel
def lzddX12_cheese_72 : List (Nat × Instr × Nat) := [(72, .aload_n 0, 1), (73, .aload_n 0, 1), (74, .getfield 385, 3), (77, .getfield 296, 3), (80, .iload_n 1, 1), (81, .iaload, 1), (82, .invokevirtual 81, 3), (85, .ireturn, 1), (86, .aload_n 0, 1), (87, .aload_n 0, 1), (88, .getfield 52, 3), (91, .iload_n 1, 1), (92, .iaload, 1), (93, .aload_n 0, 1), (94, .getfield 58, 3), (97, .iload_n 1, 1), (98, .iaload, 1), (99, .iadd, 1), (100, .invokevirtual 81, 3), (103, .ireturn, 1)]
theorem zddX12_cheese_72 : dqW lzddX12_cheese_72 (cX12_cheese.data.toList.drop 72) 72 = true := by decide +kernel
theorem dX12_cheese_72 : decode cX12_cheese 72 = .ok (.aload_n 0, 1) := dq_get (L := lzddX12_cheese_72) 0 rfl zddX12_cheese_72 rfl
theorem dX12_cheese_73 : decode cX12_cheese 73 = .ok (.aload_n 0, 1) := dq_get (L := lzddX12_cheese_72) 1 rfl zddX12_cheese_72 rfl
theorem dX12_cheese_74 : decode cX12_cheese 74 = .ok (.getfield 385, 3) := dq_get (L := lzddX12_cheese_72) 2 rfl zddX12_cheese_72 rfl
theorem dX12_cheese_77 : decode cX12_cheese 77 = .ok (.getfield 296, 3) := dq_get (L := lzddX12_cheese_72) 3 rfl zddX12_cheese_72 rfl
theorem dX12_cheese_80 : decode cX12_cheese 80 = .ok (.iload_n 1, 1) := dq_get (L := lzddX12_cheese_72) 4 rfl zddX12_cheese_72 rfl
theorem dX12_cheese_81 : decode cX12_cheese 81 = .ok (.iaload, 1) := dq_get (L := lzddX12_cheese_72) 5 rfl zddX12_cheese_72 rfl
theorem dX12_cheese_82 : decode cX12_cheese 82 = .ok (.invokevirtual 81, 3) := dq_get (L := lzddX12_cheese_72) 6 rfl zddX12_cheese_72 rfl
theorem dX12_cheese_85 : decode cX12_cheese 85 = .ok (.ireturn, 1) := dq_get (L := lzddX12_cheese_72) 7 rfl zddX12_cheese_72 rfl
theorem dX12_cheese_86 : decode cX12_cheese 86 = .ok (.aload_n 0, 1) := dq_get (L := lzddX12_cheese_72) 8 rfl zddX12_cheese_72 rfl
theorem dX12_cheese_87 : decode cX12_cheese 87 = .ok (.aload_n 0, 1) := dq_get (L := lzddX12_cheese_72) 9 rfl zddX12_cheese_72 rfl
theorem dX12_cheese_88 : decode cX12_cheese 88 = .ok (.getfield 52, 3) := dq_get (L := lzddX12_cheese_72) 10 rfl zddX12_cheese_72 rfl
theorem dX12_cheese_91 : decode cX12_cheese 91 = .ok (.iload_n 1, 1) := dq_get (L := lzddX12_cheese_72) 11 rfl zddX12_cheese_72 rfl
theorem dX12_cheese_92 : decode cX12_cheese 92 = .ok (.iaload, 1) := dq_get (L := lzddX12_cheese_72) 12 rfl zddX12_cheese_72 rfl
theorem dX12_cheese_93 : decode cX12_cheese 93 = .ok (.aload_n 0, 1) := dq_get (L := lzddX12_cheese_72) 13 rfl zddX12_cheese_72 rfl
theorem dX12_cheese_94 : decode cX12_cheese 94 = .ok (.getfield 58, 3) := dq_get (L := lzddX12_cheese_72) 14 rfl zddX12_cheese_72 rfl
theorem dX12_cheese_97 : decode cX12_cheese 97 = .ok (.iload_n 1, 1) := dq_get (L := lzddX12_cheese_72) 15 rfl zddX12_cheese_72 rfl
theorem dX12_cheese_98 : decode cX12_cheese 98 = .ok (.iaload, 1) := dq_get (L := lzddX12_cheese_72) 16 rfl zddX12_cheese_72 rfl
theorem dX12_cheese_99 : decode cX12_cheese 99 = .ok (.iadd, 1) := dq_get (L := lzddX12_cheese_72) 17 rfl zddX12_cheese_72 rfl
theorem dX12_cheese_100 : decode cX12_cheese 100 = .ok (.invokevirtual 81, 3) := dq_get (L := lzddX12_cheese_72) 18 rfl zddX12_cheese_72 rfl
theorem dX12_cheese_103 : decode cX12_cheese 103 = .ok (.ireturn, 1) := dq_get (L := lzddX12_cheese_72) 19 rfl zddX12_cheese_72 rfl
def lzddX12_cheese_104 : List (Nat × Instr × Nat) := [(104, .aload_n 0, 1), (105, .aload_n 0, 1), (106, .getfield 52, 3), (109, .iload_n 1, 1), (110, .iaload, 1), (111, .invokevirtual 81, 3), (114, .ireturn, 1), (115, .aload_n 0, 1), (116, .aload_n 0, 1), (117, .getfield 55, 3), (120, .iload_n 1, 1), (121, .iaload, 1), (122, .invokevirtual 81, 3), (125, .ireturn, 1), (126, .aload_n 0, 1), (127, .aload_n 0, 1), (128, .getfield 58, 3), (131, .iload_n 1, 1), (132, .iaload, 1), (133, .invokevirtual 81, 3)]
theorem zddX12_cheese_104 : dqW lzddX12_cheese_104 (cX12_cheese.data.toList.drop 104) 104 = true := by decide +kernel
theorem dX12_cheese_104 : decode cX12_cheese 104 = .ok (.aload_n 0, 1) := dq_get (L := lzddX12_cheese_104) 0 rfl zddX12_cheese_104 rfl
theorem dX12_cheese_105 : decode cX12_cheese 105 = .ok (.aload_n 0, 1) := dq_get (L := lzddX12_cheese_104) 1 rfl zddX12_cheese_104 rfl
theorem dX12_cheese_106 : decode cX12_cheese 106 = .ok (.getfield 52, 3) := dq_get (L := lzddX12_cheese_104) 2 rfl zddX12_cheese_104 rfl
theorem dX12_cheese_109 : decode cX12_cheese 109 = .ok (.iload_n 1, 1) := dq_get (L := lzddX12_cheese_104) 3 rfl zddX12_cheese_104 rfl
theorem dX12_cheese_110 : decode cX12_cheese 110 = .ok (.iaload, 1) := dq_get (L := lzddX12_cheese_104) 4 rfl zddX12_cheese_104 rfl
theorem dX12_cheese_111 : decode cX12_cheese 111 = .ok (.invokevirtual 81, 3) := dq_get (L := lzddX12_cheese_104) 5 rfl zddX12_cheese_104 rfl
theorem dX12_cheese_114 : decode cX12_cheese 114 = .ok (.ireturn, 1) := dq_get (L := lzddX12_cheese_104) 6 rfl zddX12_cheese_104 rfl
theorem dX12_cheese_115 : decode cX12_cheese 115 = .ok (.aload_n 0, 1) := dq_get (L := lzddX12_cheese_104) 7 rfl zddX12_cheese_104 rfl
theorem dX12_cheese_116 : decode cX12_cheese 116 = .ok (.aload_n 0, 1) := dq_get (L := lzddX12_cheese_104) 8 rfl zddX12_cheese_104 rfl
theorem dX12_cheese_117 : decode cX12_cheese 117 = .ok (.getfield 55, 3) := dq_get (L := lzddX12_cheese_104) 9 rfl zddX12_cheese_104 rfl
theorem dX12_cheese_120 : decode cX12_cheese 120 = .ok (.iload_n 1, 1) := dq_get (L := lzddX12_cheese_104) 10 rfl zddX12_cheese_104 rfl
theorem dX12_cheese_121 : decode cX12_cheese 121 = .ok (.iaload, 1) := dq_get (L := lzddX12_cheese_104) 11 rfl zddX12_cheese_104 rfl
theorem dX12_cheese_122 : decode cX12_cheese 122 = .ok (.invokevirtual 81, 3) := dq_get (L := lzddX12_cheese_104) 12 rfl zddX12_cheese_104 rfl
theorem dX12_cheese_125 : decode cX12_cheese 125 = .ok (.ireturn, 1) := dq_get (L := lzddX12_cheese_104) 13 rfl zddX12_cheese_104 rfl
theorem dX12_cheese_126 : decode cX12_cheese 126 = .ok (.aload_n 0, 1) := dq_get (L := lzddX12_cheese_104) 14 rfl zddX12_cheese_104 rfl
theorem dX12_cheese_127 : decode cX12_cheese 127 = .ok (.aload_n 0, 1) := dq_get (L := lzddX12_cheese_104) 15 rfl zddX12_cheese_104 rfl
theorem dX12_cheese_128 : decode cX12_cheese 128 = .ok (.getfield 58, 3) := dq_get (L := lzddX12_cheese_104) 16 rfl zddX12_cheese_104 rfl
theorem dX12_cheese_131 : decode cX12_cheese 131 = .ok (.iload_n 1, 1) := dq_get (L := lzddX12_cheese_104) 17 rfl zddX12_cheese_104 rfl
theorem dX12_cheese_132 : decode cX12_cheese 132 = .ok (.iaload, 1) := dq_get (L := lzddX12_cheese_104) 18 rfl zddX12_cheese_104 rfl
theorem dX12_cheese_133 : decode cX12_cheese 133 = .ok (.invokevirtual 81, 3) := dq_get (L := lzddX12_cheese_104) 19 rfl zddX12_cheese_104 rfl
def lzddX12_cheese_136 : List (Nat × Instr × Nat) := [(136, .ireturn, 1), (137, .aload_n 0, 1), (138, .aload_n 0, 1), (139, .getfield 61, 3), (142, .iload_n 1, 1), (143, .iaload, 1), (144, .invokevirtual 81, 3), (147, .ireturn, 1), (148, .aload_n 0, 1), (149, .aload_n 0, 1), (150, .iload_n 1, 1), (151, .invokevirtual 428, 3), (154, .invokevirtual 81, 3), (157, .ireturn, 1)]
theorem zddX12_cheese_136 : dqW lzddX12_cheese_136 (cX12_cheese.data.toList.drop 136) 136 = true := by decide +kernel
theorem dX12_cheese_136 : decode cX12_cheese 136 = .ok (.ireturn, 1) := dq_get (L := lzddX12_cheese_136) 0 rfl zddX12_cheese_136 rfl
theorem dX12_cheese_137 : decode cX12_cheese 137 = .ok (.aload_n 0, 1) := dq_get (L := lzddX12_cheese_136) 1 rfl zddX12_cheese_136 rfl
theorem dX12_cheese_138 : decode cX12_cheese 138 = .ok (.aload_n 0, 1) := dq_get (L := lzddX12_cheese_136) 2 rfl zddX12_cheese_136 rfl
theorem dX12_cheese_139 : decode cX12_cheese 139 = .ok (.getfield 61, 3) := dq_get (L := lzddX12_cheese_136) 3 rfl zddX12_cheese_136 rfl
theorem dX12_cheese_142 : decode cX12_cheese 142 = .ok (.iload_n 1, 1) := dq_get (L := lzddX12_cheese_136) 4 rfl zddX12_cheese_136 rfl
theorem dX12_cheese_143 : decode cX12_cheese 143 = .ok (.iaload, 1) := dq_get (L := lzddX12_cheese_136) 5 rfl zddX12_cheese_136 rfl
theorem dX12_cheese_144 : decode cX12_cheese 144 = .ok (.invokevirtual 81, 3) := dq_get (L := lzddX12_cheese_136) 6 rfl zddX12_cheese_136 rfl
theorem dX12_cheese_147 : decode cX12_cheese 147 = .ok (.ireturn, 1) := dq_get (L := lzddX12_cheese_136) 7 rfl zddX12_cheese_136 rfl
theorem dX12_cheese_148 : decode cX12_cheese 148 = .ok (.aload_n 0, 1) := dq_get (L := lzddX12_cheese_136) 8 rfl zddX12_cheese_136 rfl
theorem dX12_cheese_149 : decode cX12_cheese 149 = .ok (.aload_n 0, 1) := dq_get (L := lzddX12_cheese_136) 9 rfl zddX12_cheese_136 rfl
theorem dX12_cheese_150 : decode cX12_cheese 150 = .ok (.iload_n 1, 1) := dq_get (L := lzddX12_cheese_136) 10 rfl zddX12_cheese_136 rfl
theorem dX12_cheese_151 : decode cX12_cheese 151 = .ok (.invokevirtual 428, 3) := dq_get (L := lzddX12_cheese_136) 11 rfl zddX12_cheese_136 rfl
theorem dX12_cheese_154 : decode cX12_cheese 154 = .ok (.invokevirtual 81, 3) := dq_get (L := lzddX12_cheese_136) 12 rfl zddX12_cheese_136 rfl
theorem dX12_cheese_157 : decode cX12_cheese 157 = .ok (.ireturn, 1) := dq_get (L := lzddX12_cheese_136) 13 rfl zddX12_cheese_136 rfl
def lzddX12_cloud_0 : List (Nat × Instr × Nat) := [(0, .aload_n 0, 1), (1, .iconst 0, 1), (2, .putfield 70, 3), (5, .aload_n 0, 1), (6, .getfield 385, 3), (9, .ifnonnull 9, 3), (12, .aload_n 0, 1), (13, .iconst 1, 1), (14, .invokevirtual 507, 3), (17, .ireturn, 1), (18, .aload_n 0, 1), (19, .iload_n 1, 1), (20, .invokevirtual 443, 3), (23, .ifCond .eq 20, 3), (26, .iload_n 2, 1), (27, .iload_n 1, 1), (28, .iconst 1, 1), (29, .iadd, 1), (30, .aload_n 0, 1), (31, .getfield 385, 3)]
theorem zddX12_cloud_0 : dqW lzddX12_cloud_0 (cX12_cloud.data.toList.drop 0) 0 = true := by decide +kernel
theorem dX12_cloud_0 : decode cX12_cloud 0 = .ok (.aload_n 0, 1) := dq_get (L := lzddX12_cloud_0) 0 rfl zddX12_cloud_0 rfl
theorem dX12_cloud_1 : decode cX12_cloud 1 = .ok (.iconst 0, 1) := dq_get (L := lzddX12_cloud_0) 1 rfl zddX12_cloud_0 rfl
theorem dX12_cloud_2 : decode cX12_cloud 2 = .ok (.putfield 70, 3) := dq_get (L := lzddX12_cloud_0) 2 rfl zddX12_cloud_0 rfl
theorem dX12_cloud_5 : decode cX12_cloud 5 = .ok (.aload_n 0, 1) := dq_get (L := lzddX12_cloud_0) 3 rfl zddX12_cloud_0 rfl
theorem dX12_cloud_6 : decode cX12_cloud 6 = .ok (.getfield 385, 3) := dq_get (L := lzddX12_cloud_0) 4 rfl zddX12_cloud_0 rfl
theorem dX12_cloud_9 : decode cX12_cloud 9 = .ok (.ifnonnull 9, 3) := dq_get (L := lzddX12_cloud_0) 5 rfl zddX12_cloud_0 rfl
theorem dX12_cloud_12 : decode cX12_cloud 12 = .ok (.aload_n 0, 1) := dq_get (L := lzddX12_cloud_0) 6 rfl zddX12_cloud_0 rfl
theorem dX12_cloud_13 : decode cX12_cloud 13 = .ok (.iconst 1, 1) := dq_get (L := lzddX12_cloud_0) 7 rfl zddX12_cloud_0 rfl
theorem dX12_cloud_14 : decode cX12_cloud 14 = .ok (.invokevirtual 507, 3) := dq_get (L := lzddX12_cloud_0) 8 rfl zddX12_cloud_0 rfl
theorem dX12_cloud_17 : decode cX12_cloud 17 = .ok (.ireturn, 1) := dq_get (L := lzddX12_cloud_0) 9 rfl zddX12_cloud_0 rfl
theorem dX12_cloud_18 : decode cX12_cloud 18 = .ok (.aload_n 0, 1) := dq_get (L := lzddX12_cloud_0) 10 rfl zddX12_cloud_0 rfl
theorem dX12_cloud_19 : decode cX12_cloud 19 = .ok (.iload_n 1, 1) := dq_get (L := lzddX12_cloud_0) 11 rfl zddX12_cloud_0 rfl
theorem dX12_cloud_20 : decode cX12_cloud 20 = .ok (.invokevirtual 443, 3) := dq_get (L := lzddX12_cloud_0) 12 rfl zddX12_cloud_0 rfl
theorem dX12_cloud_23 : decode cX12_cloud 23 = .ok (.ifCond .eq 20, 3) := dq_get (L := lzddX12_cloud_0) 13 rfl zddX12_cloud_0 rfl
theorem dX12_cloud_26 : decode cX12_cloud 26 = .ok (.iload_n 2, 1) := dq_get (L := lzddX12_cloud_0) 14 rfl zddX12_cloud_0 rfl
theorem dX12_cloud_27 : decode cX12_cloud 27 = .ok (.iload_n 1, 1) := dq_get (L := lzddX12_cloud_0) 15 rfl zddX12_cloud_0 rfl
theorem dX12_cloud_28 : decode cX12_cloud 28 = .ok (.iconst 1, 1) := dq_get (L := lzddX12_cloud_0) 16 rfl zddX12_cloud_0 rfl
theorem dX12_cloud_29 : decode cX12_cloud 29 = .ok (.iadd, 1) := dq_get (L := lzddX12_cloud_0) 17 rfl zddX12_cloud_0 rfl
theorem dX12_cloud_30 : decode cX12_cloud 30 = .ok (.aload_n 0, 1) := dq_get (L := lzddX12_cloud_0) 18 rfl zddX12_cloud_0 rfl
theorem dX12_cloud_31 : decode cX12_cloud 31 = .ok (.getfield 385, 3) := dq_get (L := lzddX12_cloud_0) 19 rfl zddX12_cloud_0 rfl
def lzddX12_cloud_34 : List (Nat × Instr × Nat) := [(34, .getfield 192, 3), (37, .invokestatic 149, 3), (40, .ifCond .ne 9, 3), (43, .aload_n 0, 1), (44, .iconst 2, 1), (45, .invokevirtual 507, 3), (48, .ireturn, 1), (49, .aload_n 0, 1), (50, .getfield 17, 3), (53, .iconst 1, 1), (54, .iaload, 1), (55, .bipush 6, 2), (57, .if_icmp .ne 9, 3), (60, .aload_n 0, 1), (61, .iconst 3, 1), (62, .invokevirtual 507, 3), (65, .ireturn, 1), (66, .aload_n 0, 1), (67, .invokevirtual 510, 3), (70, .aload_n 0, 1)]
theorem zddX12_cloud_34 : dqW lzddX12_cloud_34 (cX12_cloud.data.toList.drop 34) 34 = true := by decide +kernel
theorem dX12_cloud_34 : decode cX12_cloud 34 = .ok (.getfield 192, 3) := dq_get (L := lzddX12_cloud_34) 0 rfl zddX12_cloud_34 rfl
theorem dX12_cloud_37 : decode cX12_cloud 37 = .ok (.invokestatic 149, 3) := dq_get (L := lzddX12_cloud_34) 1 rfl zddX12_cloud_34 rfl
theorem dX12_cloud_40 : decode cX12_cloud 40 = .ok (.ifCond .ne 9, 3) := dq_get (L := lzddX12_cloud_34) 2 rfl zddX12_cloud_34 rfl
theorem dX12_cloud_43 : decode cX12_cloud 43 = .ok (.aload_n 0, 1) := dq_get (L := lzddX12_cloud_34) 3 rfl zddX12_cloud_34 rfl
theorem dX12_cloud_44 : decode cX12_cloud 44 = .ok (.iconst 2, 1) := dq_get (L := lzddX12_cloud_34) 4 rfl zddX12_cloud_34 rfl
theorem dX12_cloud_45 : decode cX12_cloud 45 = .ok (.invokevirtual 507, 3) := dq_get (L := lzddX12_cloud_34) 5 rfl zddX12_cloud_34 rfl
theorem dX12_cloud_48 : decode cX12_cloud 48 = .ok (.ireturn, 1) := dq_get (L := lzddX12_cloud_34) 6 rfl zddX12_cloud_34 rfl
theorem dX12_cloud_49 : decode cX12_cloud 49 = .ok (.aload_n 0, 1) := dq_get (L := lzddX12_cloud_34) 7 rfl zddX12_cloud_34 rfl
theorem dX12_cloud_50 : decode cX12_cloud 50 = .ok (.getfield 17, 3) := dq_get (L := lzddX12_cloud_34) 8 rfl zddX12_cloud_34 rfl
theorem dX12_cloud_53 : decode cX12_cloud 53 = .ok (.iconst 1, 1) := dq_get (L := lzddX12_cloud_34) 9 rfl zddX12_cloud_34 rfl
theorem dX12_cloud_54 : decode cX12_cloud 54 = .ok (.iaload, 1) := dq_get (L := lzddX12_cloud_34) 10 rfl zddX12_cloud_34 rfl
theorem dX12_cloud_55 : decode cX12_cloud 55 = .ok (.bipush 6, 2) := dq_get (L := lzddX12_cloud_34) 11 rfl zddX12_cloud_34 rfl
theorem dX12_cloud_57 : decode cX12_cloud 57 = .ok (.if_icmp .ne 9, 3) := dq_get (L := lzddX12_cloud_34) 12 rfl zddX12_cloud_34 rfl
theorem dX12_cloud_60 : decode cX12_cloud 60 = .ok (.aload_n 0, 1) := dq_get (L := lzddX12_cloud_34) 13 rfl zddX12_cloud_34 rfl
theorem dX12_cloud_61 : decode cX12_cloud 61 = .ok (.iconst 3, 1) := dq_get (L := lzddX12_cloud_34) 14 rfl zddX12_cloud_34 rfl
theorem dX12_cloud_62 : decode cX12_cloud 62 = .ok (.invokevirtual 507, 3) := dq_get (L := lzddX12_cloud_34) 15 rfl zddX12_cloud_34 rfl
theorem dX12_cloud_65 : decode cX12_cloud 65 = .ok (.ireturn, 1) := dq_get (L := lzddX12_cloud_34) 16 rfl zddX12_cloud_34 rfl
theorem dX12_cloud_66 : decode cX12_cloud 66 = .ok (.aload_n 0, 1) := dq_get (L := lzddX12_cloud_34) 17 rfl zddX12_cloud_34 rfl
theorem dX12_cloud_67 : decode cX12_cloud 67 = .ok (.invokevirtual 510, 3) := dq_get (L := lzddX12_cloud_34) 18 rfl zddX12_cloud_34 rfl
theorem dX12_cloud_70 : decode cX12_cloud 70 = .ok (.aload_n 0, 1) := dq_get (L := lzddX12_cloud_34) 19 rfl zddX12_cloud_34 rfl
def lzddX12_cloud_71 : List (Nat × Instr × Nat) := [(71, .iload_n 1, 1), (72, .iload_n 2, 1), (73, .invokevirtual 500, 3), (76, .aload_n 0, 1), (77, .invokevirtual 513, 3), (80, .ireturn, 1)]
theorem zddX12_cloud_71 : dqW lzddX12_cloud_71 (cX12_cloud.data.toList.drop 71) 71 = true := by decide +kernel
theorem dX12_cloud_71 : decode cX12_cloud 71 = .ok (.iload_n 1, 1) := dq_get (L := lzddX12_cloud_71) 0 rfl zddX12_cloud_71 rfl
theorem dX12_cloud_72 : decode cX12_cloud 72 = .ok (.iload_n 2, 1) := dq_get (L := lzddX12_cloud_71) 1 rfl zddX12_cloud_71 rfl
theorem dX12_cloud_73 : decode cX12_cloud 73 = .ok (.invokevirtual 500, 3) := dq_get (L := lzddX12_cloud_71) 2 rfl zddX12_cloud_71 rfl
theorem dX12_cloud_76 : decode cX12_cloud 76 = .ok (.aload_n 0, 1) := dq_get (L := lzddX12_cloud_71) 3 rfl zddX12_cloud_71 rfl
theorem dX12_cloud_77 : decode cX12_cloud 77 = .ok (.invokevirtual 513, 3) := dq_get (L := lzddX12_cloud_71) 4 rfl zddX12_cloud_71 rfl
theorem dX12_cloud_80 : decode cX12_cloud 80 = .ok (.ireturn, 1) := dq_get (L := lzddX12_cloud_71) 5 rfl zddX12_cloud_71 rfl
def lzddX12_comes_0 : List (Nat × Instr × Nat) := [(0, .aload_n 0, 1), (1, .getfield 17, 3), (4, .iconst 3, 1), (5, .aload_n 0, 1), (6, .getfield 17, 3), (9, .iconst 1, 1), (10, .iaload, 1), (11, .iadd, 1), (12, .iload_n 1, 1), (13, .iastore, 1), (14, .aload_n 0, 1), (15, .getfield 17, 3), (18, .bipush 9, 2), (20, .aload_n 0, 1), (21, .getfield 17, 3), (24, .iconst 1, 1), (25, .iaload, 1), (26, .iadd, 1), (27, .iload_n 2, 1), (28, .iastore, 1)]
theorem zddX12_comes_0 : dqW lzddX12_comes_0 (cX12_comes.data.toList.drop 0) 0 = true := by decide +kernel
theorem dX12_comes_0 : decode cX12_comes 0 = .ok (.aload_n 0, 1) := dq_get (L := lzddX12_comes_0) 0 rfl zddX12_comes_0 rfl
theorem dX12_comes_1 : decode cX12_comes 1 = .ok (.getfield 17, 3) := dq_get (L := lzddX12_comes_0) 1 rfl zddX12_comes_0 rfl
theorem dX12_comes_4 : decode cX12_comes 4 = .ok (.iconst 3, 1) := dq_get (L := lzddX12_comes_0) 2 rfl zddX12_comes_0 rfl
theorem dX12_comes_5 : decode cX12_comes 5 = .ok (.aload_n 0, 1) := dq_get (L := lzddX12_comes_0) 3 rfl zddX12_comes_0 rfl
theorem dX12_comes_6 : decode cX12_comes 6 = .ok (.getfield 17, 3) := dq_get (L := lzddX12_comes_0) 4 rfl zddX12_comes_0 rfl
theorem dX12_comes_9 : decode cX12_comes 9 = .ok (.iconst 1, 1) := dq_get (L := lzddX12_comes_0) 5 rfl zddX12_comes_0 rfl
theorem dX12_comes_10 : decode cX12_comes 10 = .ok (.iaload, 1) := dq_get (L := lzddX12_comes_0) 6 rfl zddX12_comes_0 rfl
theorem dX12_comes_11 : decode cX12_comes 11 = .ok (.iadd, 1) := dq_get (L := lzddX12_comes_0) 7 rfl zddX12_comes_0 rfl
theorem dX12_comes_12 : decode cX12_comes 12 = .ok (.iload_n 1, 1) := dq_get (L := lzddX12_comes_0) 8 rfl zddX12_comes_0 rfl
theorem dX12_comes_13 : decode cX12_comes 13 = .ok (.iastore, 1) := dq_get (L := lzddX12_comes_0) 9 rfl zddX12_comes_0 rfl
theorem dX12_comes_14 : decode cX12_comes 14 = .ok (.aload_n 0, 1) := dq_get (L := lzddX12_comes_0) 10 rfl zddX12_comes_0 rfl
theorem dX12_comes_15 : decode cX12_comes 15 = .ok (.getfield 17, 3) := dq_get (L := lzddX12_comes_0) 11 rfl zddX12_comes_0 rfl
theorem dX12_comes_18 : decode cX12_comes 18 = .ok (.bipush 9, 2) := dq_get (L := lzddX12_comes_0) 12 rfl zddX12_comes_0 rfl
theorem dX12_comes_20 : decode cX12_comes 20 = .ok (.aload_n 0, 1) := dq_get (L := lzddX12_comes_0) 13 rfl zddX12_comes_0 rfl
theorem dX12_comes_21 : decode cX12_comes 21 = .ok (.getfield 17, 3) := dq_get (L := lzddX12_comes_0) 14 rfl zddX12_comes_0 rfl
theorem dX12_comes_24 : decode cX12_comes 24 = .ok (.iconst 1, 1) := dq_get (L := lzddX12_comes_0) 15 rfl zddX12_comes_0 rfl
theorem dX12_comes_25 : decode cX12_comes 25 = .ok (.iaload, 1) := dq_get (L := lzddX12_comes_0) 16 rfl zddX12_comes_0 rfl
theorem dX12_comes_26 : decode cX12_comes 26 = .ok (.iadd, 1) := dq_get (L := lzddX12_comes_0) 17 rfl zddX12_comes_0 rfl
theorem dX12_comes_27 : decode cX12_comes 27 = .ok (.iload_n 2, 1) := dq_get (L := lzddX12_comes_0) 18 rfl zddX12_comes_0 rfl
theorem dX12_comes_28 : decode cX12_comes 28 = .ok (.iastore, 1) := dq_get (L := lzddX12_comes_0) 19 rfl zddX12_comes_0 rfl
def lzddX12_comes_29 : List (Nat × Instr × Nat) := [(29, .aload_n 0, 1), (30, .getfield 17, 3), (33, .iconst 1, 1), (34, .dup2, 1), (35, .iaload, 1), (36, .iconst 1, 1), (37, .iadd, 1), (38, .iastore, 1), (39, .return_, 1)]
theorem zddX12_comes_29 : dqW lzddX12_comes_29 (cX12_comes.data.toList.drop 29) 29 = true := by decide +kernel
theorem dX12_comes_29 : decode cX12_comes 29 = .ok (.aload_n 0, 1) := dq_get (L := lzddX12_comes_29) 0 rfl zddX12_comes_29 rfl
theorem dX12_comes_30 : decode cX12_comes 30 = .ok (.getfield 17, 3) := dq_get (L := lzddX12_comes_29) 1 rfl zddX12_comes_29 rfl
theorem dX12_comes_33 : decode cX12_comes 33 = .ok (.iconst 1, 1) := dq_get (L := lzddX12_comes_29) 2 rfl zddX12_comes_29 rfl
theorem dX12_comes_34 : decode cX12_comes 34 = .ok (.dup2, 1) := dq_get (L := lzddX12_comes_29) 3 rfl zddX12_comes_29 rfl
theorem dX12_comes_35 : decode cX12_comes 35 = .ok (.iaload, 1) := dq_get (L := lzddX12_comes_29) 4 rfl zddX12_comes_29 rfl
theorem dX12_comes_36 : decode cX12_comes 36 = .ok (.iconst 1, 1) := dq_get (L := lzddX12_comes_29) 5 rfl zddX12_comes_29 rfl
theorem dX12_comes_37 : decode cX12_comes 37 = .ok (.iadd, 1) := dq_get (L := lzddX12_comes_29) 6 rfl zddX12_comes_29 rfl
theorem dX12_comes_38 : decode cX12_comes 38 = .ok (.iastore, 1) := dq_get (L := lzddX12_comes_29) 7 rfl zddX12_comes_29 rfl
theorem dX12_comes_39 : decode cX12_comes 39 = .ok (.return_, 1) := dq_get (L := lzddX12_comes_29) 8 rfl zddX12_comes_29 rfl
def lzddX12_denied_0 : List (Nat × Instr × Nat) := [(0, .aload_n 0, 1), (1, .iload_n 1, 1), (2, .invokevirtual 76, 3), (5, .pop, 1), (6, .iconst 0, 1), (7, .ireturn, 1)]
theorem zddX12_denied_0 : dqW lzddX12_denied_0 (cX12_denied.data.toList.drop 0) 0 = true := by decide +kernel
theorem dX12_denied_0 : decode cX12_denied 0 = .ok (.aload_n 0, 1) := dq_get (L := lzddX12_denied_0) 0 rfl zddX12_denied_0 rfl
theorem dX12_denied_1 : decode cX12_denied 1 = .ok (.iload_n 1, 1) := dq_get (L := lzddX12_denied_0) 1 rfl zddX12_denied_0 rfl
theorem dX12_denied_2 : decode cX12_denied 2 = .ok (.invokevirtual 76, 3) := dq_get (L := lzddX12_denied_0) 2 rfl zddX12_denied_0 rfl
theorem dX12_denied_5 : decode cX12_denied 5 = .ok (.pop, 1) := dq_get (L := lzddX12_denied_0) 3 rfl zddX12_denied_0 rfl
theorem dX12_denied_6 : decode cX12_denied 6 = .ok (.iconst 0, 1) := dq_get (L := lzddX12_denied_0) 4 rfl zddX12_denied_0 rfl
theorem dX12_denied_7 : decode cX12_denied 7 = .ok (.ireturn, 1) := dq_get (L := lzddX12_denied_0) 5 rfl zddX12_denied_0 rfl
def lzddX12_draw_0 : List (Nat × Instr × Nat) := [(0, .aload_n 0, 1), (1, .iconst 0, 1), (2, .putfield 70, 3), (5, .aload_n 0, 1), (6, .getfield 385, 3), (9, .ifnonnull 9, 3), (12, .aload_n 0, 1), (13, .iconst 1, 1), (14, .invokevirtual 76, 3), (17, .ireturn, 1), (18, .aload_n 0, 1), (19, .getfield 17, 3), (22, .iconst 1, 1), (23, .iaload, 1), (24, .bipush 6, 2), (26, .if_icmp .ne 9, 3), (29, .aload_n 0, 1), (30, .iconst 3, 1), (31, .invokevirtual 76, 3), (34, .ireturn, 1)]
theorem zddX12_draw_0 : dqW lzddX12_draw_0 (cX12_draw.data.toList.drop 0) 0 = true := by decide +kernel
theorem dX12_draw_0 : decode cX12_draw 0 = .ok (.aload_n 0, 1) := dq_get (L := lzddX12_draw_0) 0 rfl zddX12_draw_0 rfl
theorem dX12_draw_1 : decode cX12_draw 1 = .ok (.iconst 0, 1) := dq_get (L := lzddX12_draw_0) 1 rfl zddX12_draw_0 rfl
theorem dX12_draw_2 : decode cX12_draw 2 = .ok (.putfield 70, 3) := dq_get (L := lzddX12_draw_0) 2 rfl zddX12_draw_0 rfl
theorem dX12_draw_5 : decode cX12_draw 5 = .ok (.aload_n 0, 1) := dq_get (L := lzddX12_draw_0) 3 rfl zddX12_draw_0 rfl
theorem dX12_draw_6 : decode cX12_draw 6 = .ok (.getfield 385, 3) := dq_get (L := lzddX12_draw_0) 4 rfl zddX12_draw_0 rfl
theorem dX12_draw_9 : decode cX12_draw 9 = .ok (.ifnonnull 9, 3) := dq_get (L := lzddX12_draw_0) 5 rfl zddX12_draw_0 rfl
theorem dX12_draw_12 : decode cX12_draw 12 = .ok (.aload_n 0, 1) := dq_get (L := lzddX12_draw_0) 6 rfl zddX12_draw_0 rfl
theorem dX12_draw_13 : decode cX12_draw 13 = .ok (.iconst 1, 1) := dq_get (L := lzddX12_draw_0) 7 rfl zddX12_draw_0 rfl
theorem dX12_draw_14 : decode cX12_draw 14 = .ok (.invokevirtual 76, 3) := dq_get (L := lzddX12_draw_0) 8 rfl zddX12_draw_0 rfl
theorem dX12_draw_17 : decode cX12_draw 17 = .ok (.ireturn, 1) := dq_get (L := lzddX12_draw_0) 9 rfl zddX12_draw_0 rfl
theorem dX12_draw_18 : decode cX12_draw 18 = .ok (.aload_n 0, 1) := dq_get (L := lzddX12_draw_0) 10 rfl zddX12_draw_0 rfl
theorem dX12_draw_19 : decode cX12_draw 19 = .ok (.getfield 17, 3) := dq_get (L := lzddX12_draw_0) 11 rfl zddX12_draw_0 rfl
theorem dX12_draw_22 : decode cX12_draw 22 = .ok (.iconst 1, 1) := dq_get (L := lzddX12_draw_0) 12 rfl zddX12_draw_0 rfl
theorem dX12_draw_23 : decode cX12_draw 23 = .ok (.iaload, 1) := dq_get (L := lzddX12_draw_0) 13 rfl zddX12_draw_0 rfl
theorem dX12_draw_24 : decode cX12_draw 24 = .ok (.bipush 6, 2) := dq_get (L := lzddX12_draw_0) 14 rfl zddX12_draw_0 rfl
theorem dX12_draw_26 : decode cX12_draw 26 = .ok (.if_icmp .ne 9, 3) := dq_get (L := lzddX12_draw_0) 15 rfl zddX12_draw_0 rfl
theorem dX12_draw_29 : decode cX12_draw 29 = .ok (.aload_n 0, 1) := dq_get (L := lzddX12_draw_0) 16 rfl zddX12_draw_0 rfl
theorem dX12_draw_30 : decode cX12_draw 30 = .ok (.iconst 3, 1) := dq_get (L := lzddX12_draw_0) 17 rfl zddX12_draw_0 rfl
theorem dX12_draw_31 : decode cX12_draw 31 = .ok (.invokevirtual 76, 3) := dq_get (L := lzddX12_draw_0) 18 rfl zddX12_draw_0 rfl
theorem dX12_draw_34 : decode cX12_draw 34 = .ok (.ireturn, 1) := dq_get (L := lzddX12_draw_0) 19 rfl zddX12_draw_0 rfl
def lzddX12_draw_35 : List (Nat × Instr × Nat) := [(35, .aload_n 0, 1), (36, .invokevirtual 510, 3), (39, .aload_n 0, 1), (40, .aload_n 0, 1), (41, .invokevirtual 504, 3), (44, .invokevirtual 81, 3), (47, .ireturn, 1)]
theorem zddX12_draw_35 : dqW lzddX12_draw_35 (cX12_draw.data.toList.drop 35) 35 = true := by decide +kernel
theorem dX12_draw_35 : decode cX12_draw 35 = .ok (.aload_n 0, 1) := dq_get (L := lzddX12_draw_35) 0 rfl zddX12_draw_35 rfl
theorem dX12_draw_36 : decode cX12_draw 36 = .ok (.invokevirtual 510, 3) := dq_get (L := lzddX12_draw_35) 1 rfl zddX12_draw_35 rfl
theorem dX12_draw_39 : decode cX12_draw 39 = .ok (.aload_n 0, 1) := dq_get (L := lzddX12_draw_35) 2 rfl zddX12_draw_35 rfl
theorem dX12_draw_40 : decode cX12_draw 40 = .ok (.aload_n 0, 1) := dq_get (L := lzddX12_draw_35) 3 rfl zddX12_draw_35 rfl
theorem dX12_draw_41 : decode cX12_draw 41 = .ok (.invokevirtual 504, 3) := dq_get (L := lzddX12_draw_35) 4 rfl zddX12_draw_35 rfl
theorem dX12_draw_44 : decode cX12_draw 44 = .ok (.invokevirtual 81, 3) := dq_get (L := lzddX12_draw_35) 5 rfl zddX12_draw_35 rfl
theorem dX12_draw_47 : decode cX12_draw 47 = .ok (.ireturn, 1) := dq_get (L := lzddX12_draw_35) 6 rfl zddX12_draw_35 rfl
def lzddX12_drawOf_0 : List (Nat × Instr × Nat) := [(0, .aload_n 0, 1), (1, .getfield 17, 3), (4, .iconst 2, 1), (5, .ldc2_w 491, 3), (8, .aload_n 0, 1), (9, .getfield 17, 3), (12, .iconst 2, 1), (13, .iaload, 1), (14, .i2l, 1), (15, .lmul, 1), (16, .ldc2_w 493, 3), (19, .ladd, 1), (20, .ldc2_w 495, 3), (23, .lrem, 1), (24, .l2i, 1), (25, .iastore, 1), (26, .aload_n 0, 1), (27, .getfield 17, 3), (30, .iconst 2, 1), (31, .iaload, 1)]
theorem zddX12_drawOf_0 : dqW lzddX12_drawOf_0 (cX12_drawOf.data.toList.drop 0) 0 = true := by decide +kernel
theorem dX12_drawOf_0 : decode cX12_drawOf 0 = .ok (.aload_n 0, 1) := dq_get (L := lzddX12_drawOf_0) 0 rfl zddX12_drawOf_0 rfl
theorem dX12_drawOf_1 : decode cX12_drawOf 1 = .ok (.getfield 17, 3) := dq_get (L := lzddX12_drawOf_0) 1 rfl zddX12_drawOf_0 rfl
theorem dX12_drawOf_4 : decode cX12_drawOf 4 = .ok (.iconst 2, 1) := dq_get (L := lzddX12_drawOf_0) 2 rfl zddX12_drawOf_0 rfl
theorem dX12_drawOf_5 : decode cX12_drawOf 5 = .ok (.ldc2_w 491, 3) := dq_get (L := lzddX12_drawOf_0) 3 rfl zddX12_drawOf_0 rfl
theorem dX12_drawOf_8 : decode cX12_drawOf 8 = .ok (.aload_n 0, 1) := dq_get (L := lzddX12_drawOf_0) 4 rfl zddX12_drawOf_0 rfl
theorem dX12_drawOf_9 : decode cX12_drawOf 9 = .ok (.getfield 17, 3) := dq_get (L := lzddX12_drawOf_0) 5 rfl zddX12_drawOf_0 rfl
theorem dX12_drawOf_12 : decode cX12_drawOf 12 = .ok (.iconst 2, 1) := dq_get (L := lzddX12_drawOf_0) 6 rfl zddX12_drawOf_0 rfl
theorem dX12_drawOf_13 : decode cX12_drawOf 13 = .ok (.iaload, 1) := dq_get (L := lzddX12_drawOf_0) 7 rfl zddX12_drawOf_0 rfl
theorem dX12_drawOf_14 : decode cX12_drawOf 14 = .ok (.i2l, 1) := dq_get (L := lzddX12_drawOf_0) 8 rfl zddX12_drawOf_0 rfl
theorem dX12_drawOf_15 : decode cX12_drawOf 15 = .ok (.lmul, 1) := dq_get (L := lzddX12_drawOf_0) 9 rfl zddX12_drawOf_0 rfl
theorem dX12_drawOf_16 : decode cX12_drawOf 16 = .ok (.ldc2_w 493, 3) := dq_get (L := lzddX12_drawOf_0) 10 rfl zddX12_drawOf_0 rfl
theorem dX12_drawOf_19 : decode cX12_drawOf 19 = .ok (.ladd, 1) := dq_get (L := lzddX12_drawOf_0) 11 rfl zddX12_drawOf_0 rfl
theorem dX12_drawOf_20 : decode cX12_drawOf 20 = .ok (.ldc2_w 495, 3) := dq_get (L := lzddX12_drawOf_0) 12 rfl zddX12_drawOf_0 rfl
theorem dX12_drawOf_23 : decode cX12_drawOf 23 = .ok (.lrem, 1) := dq_get (L := lzddX12_drawOf_0) 13 rfl zddX12_drawOf_0 rfl
theorem dX12_drawOf_24 : decode cX12_drawOf 24 = .ok (.l2i, 1) := dq_get (L := lzddX12_drawOf_0) 14 rfl zddX12_drawOf_0 rfl
theorem dX12_drawOf_25 : decode cX12_drawOf 25 = .ok (.iastore, 1) := dq_get (L := lzddX12_drawOf_0) 15 rfl zddX12_drawOf_0 rfl
theorem dX12_drawOf_26 : decode cX12_drawOf 26 = .ok (.aload_n 0, 1) := dq_get (L := lzddX12_drawOf_0) 16 rfl zddX12_drawOf_0 rfl
theorem dX12_drawOf_27 : decode cX12_drawOf 27 = .ok (.getfield 17, 3) := dq_get (L := lzddX12_drawOf_0) 17 rfl zddX12_drawOf_0 rfl
theorem dX12_drawOf_30 : decode cX12_drawOf 30 = .ok (.iconst 2, 1) := dq_get (L := lzddX12_drawOf_0) 18 rfl zddX12_drawOf_0 rfl
theorem dX12_drawOf_31 : decode cX12_drawOf 31 = .ok (.iaload, 1) := dq_get (L := lzddX12_drawOf_0) 19 rfl zddX12_drawOf_0 rfl
def lzddX12_drawOf_32 : List (Nat × Instr × Nat) := [(32, .iload_n 1, 1), (33, .irem, 1), (34, .ireturn, 1)]
theorem zddX12_drawOf_32 : dqW lzddX12_drawOf_32 (cX12_drawOf.data.toList.drop 32) 32 = true := by decide +kernel
theorem dX12_drawOf_32 : decode cX12_drawOf 32 = .ok (.iload_n 1, 1) := dq_get (L := lzddX12_drawOf_32) 0 rfl zddX12_drawOf_32 rfl
theorem dX12_drawOf_33 : decode cX12_drawOf 33 = .ok (.irem, 1) := dq_get (L := lzddX12_drawOf_32) 1 rfl zddX12_drawOf_32 rfl
theorem dX12_drawOf_34 : decode cX12_drawOf 34 = .ok (.ireturn, 1) := dq_get (L := lzddX12_drawOf_32) 2 rfl zddX12_drawOf_32 rfl
def lzddX12_draws_0 : List (Nat × Instr × Nat) := [(0, .aload_n 0, 1), (1, .aload_n 0, 1), (2, .getfield 385, 3), (5, .getfield 192, 3), (8, .invokevirtual 497, 3), (11, .istore_n 1, 1), (12, .iload_n 1, 1), (13, .iconst 1, 1), (14, .iadd, 1), (15, .aload_n 0, 1), (16, .bipush 20, 2), (18, .invokevirtual 497, 3), (21, .iadd, 1), (22, .istore_n 2, 1), (23, .aload_n 0, 1), (24, .iload_n 1, 1), (25, .iload_n 2, 1), (26, .aload_n 0, 1), (27, .getfield 385, 3), (30, .getfield 192, 3)]
theorem zddX12_draws_0 : dqW lzddX12_draws_0 (cX12_draws.data.toList.drop 0) 0 = true := by decide +kernel
theorem dX12_draws_0 : decode cX12_draws 0 = .ok (.aload_n 0, 1) := dq_get (L := lzddX12_draws_0) 0 rfl zddX12_draws_0 rfl
theorem dX12_draws_1 : decode cX12_draws 1 = .ok (.aload_n 0, 1) := dq_get (L := lzddX12_draws_0) 1 rfl zddX12_draws_0 rfl
theorem dX12_draws_2 : decode cX12_draws 2 = .ok (.getfield 385, 3) := dq_get (L := lzddX12_draws_0) 2 rfl zddX12_draws_0 rfl
theorem dX12_draws_5 : decode cX12_draws 5 = .ok (.getfield 192, 3) := dq_get (L := lzddX12_draws_0) 3 rfl zddX12_draws_0 rfl
theorem dX12_draws_8 : decode cX12_draws 8 = .ok (.invokevirtual 497, 3) := dq_get (L := lzddX12_draws_0) 4 rfl zddX12_draws_0 rfl
theorem dX12_draws_11 : decode cX12_draws 11 = .ok (.istore_n 1, 1) := dq_get (L := lzddX12_draws_0) 5 rfl zddX12_draws_0 rfl
theorem dX12_draws_12 : decode cX12_draws 12 = .ok (.iload_n 1, 1) := dq_get (L := lzddX12_draws_0) 6 rfl zddX12_draws_0 rfl
theorem dX12_draws_13 : decode cX12_draws 13 = .ok (.iconst 1, 1) := dq_get (L := lzddX12_draws_0) 7 rfl zddX12_draws_0 rfl
theorem dX12_draws_14 : decode cX12_draws 14 = .ok (.iadd, 1) := dq_get (L := lzddX12_draws_0) 8 rfl zddX12_draws_0 rfl
theorem dX12_draws_15 : decode cX12_draws 15 = .ok (.aload_n 0, 1) := dq_get (L := lzddX12_draws_0) 9 rfl zddX12_draws_0 rfl
theorem dX12_draws_16 : decode cX12_draws 16 = .ok (.bipush 20, 2) := dq_get (L := lzddX12_draws_0) 10 rfl zddX12_draws_0 rfl
theorem dX12_draws_18 : decode cX12_draws 18 = .ok (.invokevirtual 497, 3) := dq_get (L := lzddX12_draws_0) 11 rfl zddX12_draws_0 rfl
theorem dX12_draws_21 : decode cX12_draws 21 = .ok (.iadd, 1) := dq_get (L := lzddX12_draws_0) 12 rfl zddX12_draws_0 rfl
theorem dX12_draws_22 : decode cX12_draws 22 = .ok (.istore_n 2, 1) := dq_get (L := lzddX12_draws_0) 13 rfl zddX12_draws_0 rfl
theorem dX12_draws_23 : decode cX12_draws 23 = .ok (.aload_n 0, 1) := dq_get (L := lzddX12_draws_0) 14 rfl zddX12_draws_0 rfl
theorem dX12_draws_24 : decode cX12_draws 24 = .ok (.iload_n 1, 1) := dq_get (L := lzddX12_draws_0) 15 rfl zddX12_draws_0 rfl
theorem dX12_draws_25 : decode cX12_draws 25 = .ok (.iload_n 2, 1) := dq_get (L := lzddX12_draws_0) 16 rfl zddX12_draws_0 rfl
theorem dX12_draws_26 : decode cX12_draws 26 = .ok (.aload_n 0, 1) := dq_get (L := lzddX12_draws_0) 17 rfl zddX12_draws_0 rfl
theorem dX12_draws_27 : decode cX12_draws 27 = .ok (.getfield 385, 3) := dq_get (L := lzddX12_draws_0) 18 rfl zddX12_draws_0 rfl
theorem dX12_draws_30 : decode cX12_draws 30 = .ok (.getfield 192, 3) := dq_get (L := lzddX12_draws_0) 19 rfl zddX12_draws_0 rfl
def lzddX12_draws_33 : List (Nat × Instr × Nat) := [(33, .if_icmp .ge 7, 3), (36, .iload_n 2, 1), (37, .goto 10, 3), (40, .aload_n 0, 1), (41, .getfield 385, 3), (44, .getfield 192, 3), (47, .invokevirtual 500, 3), (50, .iload_n 1, 1), (51, .ireturn, 1)]
theorem zddX12_draws_33 : dqW lzddX12_draws_33 (cX12_draws.data.toList.drop 33) 33 = true := by decide +kernel
theorem dX12_draws_33 : decode cX12_draws 33 = .ok (.if_icmp .ge 7, 3) := dq_get (L := lzddX12_draws_33) 0 rfl zddX12_draws_33 rfl
theorem dX12_draws_36 : decode cX12_draws 36 = .ok (.iload_n 2, 1) := dq_get (L := lzddX12_draws_33) 1 rfl zddX12_draws_33 rfl
theorem dX12_draws_37 : decode cX12_draws 37 = .ok (.goto 10, 3) := dq_get (L := lzddX12_draws_33) 2 rfl zddX12_draws_33 rfl
theorem dX12_draws_40 : decode cX12_draws 40 = .ok (.aload_n 0, 1) := dq_get (L := lzddX12_draws_33) 3 rfl zddX12_draws_33 rfl
theorem dX12_draws_41 : decode cX12_draws 41 = .ok (.getfield 385, 3) := dq_get (L := lzddX12_draws_33) 4 rfl zddX12_draws_33 rfl
theorem dX12_draws_44 : decode cX12_draws 44 = .ok (.getfield 192, 3) := dq_get (L := lzddX12_draws_33) 5 rfl zddX12_draws_33 rfl
theorem dX12_draws_47 : decode cX12_draws 47 = .ok (.invokevirtual 500, 3) := dq_get (L := lzddX12_draws_33) 6 rfl zddX12_draws_33 rfl
theorem dX12_draws_50 : decode cX12_draws 50 = .ok (.iload_n 1, 1) := dq_get (L := lzddX12_draws_33) 7 rfl zddX12_draws_33 rfl
theorem dX12_draws_51 : decode cX12_draws 51 = .ok (.ireturn, 1) := dq_get (L := lzddX12_draws_33) 8 rfl zddX12_draws_33 rfl
def lzddX12_due_0 : List (Nat × Instr × Nat) := [(0, .aload_n 0, 1), (1, .iconst 0, 1), (2, .putfield 70, 3), (5, .aload_n 0, 1), (6, .getfield 385, 3), (9, .ifnonnull 9, 3), (12, .aload_n 0, 1), (13, .iconst 1, 1), (14, .invokevirtual 76, 3), (17, .ireturn, 1), (18, .aload_n 0, 1), (19, .iload_n 1, 1), (20, .invokevirtual 443, 3), (23, .ifCond .ne 9, 3), (26, .aload_n 0, 1), (27, .iconst 2, 1), (28, .invokevirtual 76, 3), (31, .ireturn, 1), (32, .aload_n 0, 1), (33, .iconst (-1), 1)]
theorem zddX12_due_0 : dqW lzddX12_due_0 (cX12_due.data.toList.drop 0) 0 = true := by decide +kernel
theorem dX12_due_0 : decode cX12_due 0 = .ok (.aload_n 0, 1) := dq_get (L := lzddX12_due_0) 0 rfl zddX12_due_0 rfl
theorem dX12_due_1 : decode cX12_due 1 = .ok (.iconst 0, 1) := dq_get (L := lzddX12_due_0) 1 rfl zddX12_due_0 rfl
theorem dX12_due_2 : decode cX12_due 2 = .ok (.putfield 70, 3) := dq_get (L := lzddX12_due_0) 2 rfl zddX12_due_0 rfl
theorem dX12_due_5 : decode cX12_due 5 = .ok (.aload_n 0, 1) := dq_get (L := lzddX12_due_0) 3 rfl zddX12_due_0 rfl
theorem dX12_due_6 : decode cX12_due 6 = .ok (.getfield 385, 3) := dq_get (L := lzddX12_due_0) 4 rfl zddX12_due_0 rfl
theorem dX12_due_9 : decode cX12_due 9 = .ok (.ifnonnull 9, 3) := dq_get (L := lzddX12_due_0) 5 rfl zddX12_due_0 rfl
theorem dX12_due_12 : decode cX12_due 12 = .ok (.aload_n 0, 1) := dq_get (L := lzddX12_due_0) 6 rfl zddX12_due_0 rfl
theorem dX12_due_13 : decode cX12_due 13 = .ok (.iconst 1, 1) := dq_get (L := lzddX12_due_0) 7 rfl zddX12_due_0 rfl
theorem dX12_due_14 : decode cX12_due 14 = .ok (.invokevirtual 76, 3) := dq_get (L := lzddX12_due_0) 8 rfl zddX12_due_0 rfl
theorem dX12_due_17 : decode cX12_due 17 = .ok (.ireturn, 1) := dq_get (L := lzddX12_due_0) 9 rfl zddX12_due_0 rfl
theorem dX12_due_18 : decode cX12_due 18 = .ok (.aload_n 0, 1) := dq_get (L := lzddX12_due_0) 10 rfl zddX12_due_0 rfl
theorem dX12_due_19 : decode cX12_due 19 = .ok (.iload_n 1, 1) := dq_get (L := lzddX12_due_0) 11 rfl zddX12_due_0 rfl
theorem dX12_due_20 : decode cX12_due 20 = .ok (.invokevirtual 443, 3) := dq_get (L := lzddX12_due_0) 12 rfl zddX12_due_0 rfl
theorem dX12_due_23 : decode cX12_due 23 = .ok (.ifCond .ne 9, 3) := dq_get (L := lzddX12_due_0) 13 rfl zddX12_due_0 rfl
theorem dX12_due_26 : decode cX12_due 26 = .ok (.aload_n 0, 1) := dq_get (L := lzddX12_due_0) 14 rfl zddX12_due_0 rfl
theorem dX12_due_27 : decode cX12_due 27 = .ok (.iconst 2, 1) := dq_get (L := lzddX12_due_0) 15 rfl zddX12_due_0 rfl
theorem dX12_due_28 : decode cX12_due 28 = .ok (.invokevirtual 76, 3) := dq_get (L := lzddX12_due_0) 16 rfl zddX12_due_0 rfl
theorem dX12_due_31 : decode cX12_due 31 = .ok (.ireturn, 1) := dq_get (L := lzddX12_due_0) 17 rfl zddX12_due_0 rfl
theorem dX12_due_32 : decode cX12_due 32 = .ok (.aload_n 0, 1) := dq_get (L := lzddX12_due_0) 18 rfl zddX12_due_0 rfl
theorem dX12_due_33 : decode cX12_due 33 = .ok (.iconst (-1), 1) := dq_get (L := lzddX12_due_0) 19 rfl zddX12_due_0 rfl
def lzddX12_due_34 : List (Nat × Instr × Nat) := [(34, .invokevirtual 434, 3), (37, .aload_n 0, 1), (38, .aload_n 0, 1), (39, .iload_n 1, 1), (40, .invokevirtual 449, 3), (43, .invokevirtual 81, 3), (46, .ireturn, 1)]
theorem zddX12_due_34 : dqW lzddX12_due_34 (cX12_due.data.toList.drop 34) 34 = true := by decide +kernel
theorem dX12_due_34 : decode cX12_due 34 = .ok (.invokevirtual 434, 3) := dq_get (L := lzddX12_due_34) 0 rfl zddX12_due_34 rfl
theorem dX12_due_37 : decode cX12_due 37 = .ok (.aload_n 0, 1) := dq_get (L := lzddX12_due_34) 1 rfl zddX12_due_34 rfl
theorem dX12_due_38 : decode cX12_due 38 = .ok (.aload_n 0, 1) := dq_get (L := lzddX12_due_34) 2 rfl zddX12_due_34 rfl
theorem dX12_due_39 : decode cX12_due 39 = .ok (.iload_n 1, 1) := dq_get (L := lzddX12_due_34) 3 rfl zddX12_due_34 rfl
theorem dX12_due_40 : decode cX12_due 40 = .ok (.invokevirtual 449, 3) := dq_get (L := lzddX12_due_34) 4 rfl zddX12_due_34 rfl
theorem dX12_due_43 : decode cX12_due 43 = .ok (.invokevirtual 81, 3) := dq_get (L := lzddX12_due_34) 5 rfl zddX12_due_34 rfl
theorem dX12_due_46 : decode cX12_due 46 = .ok (.ireturn, 1) := dq_get (L := lzddX12_due_34) 6 rfl zddX12_due_34 rfl
def lzddX12_dueIn_0 : List (Nat × Instr × Nat) := [(0, .iconst 0, 1), (1, .istore_n 2, 1), (2, .iconst 0, 1), (3, .istore_n 3, 1), (4, .iload_n 3, 1), (5, .aload_n 0, 1), (6, .getfield 385, 3), (9, .getfield 224, 3), (12, .if_icmp .ge 34, 3), (15, .iload_n 2, 1), (16, .aload_n 0, 1), (17, .aload_n 0, 1), (18, .getfield 385, 3), (21, .getfield 296, 3), (24, .iload_n 3, 1), (25, .iaload, 1), (26, .iload_n 1, 1), (27, .invokevirtual 413, 3), (30, .ifCond .eq 7, 3), (33, .iconst 1, 1)]
theorem zddX12_dueIn_0 : dqW lzddX12_dueIn_0 (cX12_dueIn.data.toList.drop 0) 0 = true := by decide +kernel
theorem dX12_dueIn_0 : decode cX12_dueIn 0 = .ok (.iconst 0, 1) := dq_get (L := lzddX12_dueIn_0) 0 rfl zddX12_dueIn_0 rfl
theorem dX12_dueIn_1 : decode cX12_dueIn 1 = .ok (.istore_n 2, 1) := dq_get (L := lzddX12_dueIn_0) 1 rfl zddX12_dueIn_0 rfl
theorem dX12_dueIn_2 : decode cX12_dueIn 2 = .ok (.iconst 0, 1) := dq_get (L := lzddX12_dueIn_0) 2 rfl zddX12_dueIn_0 rfl
theorem dX12_dueIn_3 : decode cX12_dueIn 3 = .ok (.istore_n 3, 1) := dq_get (L := lzddX12_dueIn_0) 3 rfl zddX12_dueIn_0 rfl
theorem dX12_dueIn_4 : decode cX12_dueIn 4 = .ok (.iload_n 3, 1) := dq_get (L := lzddX12_dueIn_0) 4 rfl zddX12_dueIn_0 rfl
theorem dX12_dueIn_5 : decode cX12_dueIn 5 = .ok (.aload_n 0, 1) := dq_get (L := lzddX12_dueIn_0) 5 rfl zddX12_dueIn_0 rfl
theorem dX12_dueIn_6 : decode cX12_dueIn 6 = .ok (.getfield 385, 3) := dq_get (L := lzddX12_dueIn_0) 6 rfl zddX12_dueIn_0 rfl
theorem dX12_dueIn_9 : decode cX12_dueIn 9 = .ok (.getfield 224, 3) := dq_get (L := lzddX12_dueIn_0) 7 rfl zddX12_dueIn_0 rfl
theorem dX12_dueIn_12 : decode cX12_dueIn 12 = .ok (.if_icmp .ge 34, 3) := dq_get (L := lzddX12_dueIn_0) 8 rfl zddX12_dueIn_0 rfl
theorem dX12_dueIn_15 : decode cX12_dueIn 15 = .ok (.iload_n 2, 1) := dq_get (L := lzddX12_dueIn_0) 9 rfl zddX12_dueIn_0 rfl
theorem dX12_dueIn_16 : decode cX12_dueIn 16 = .ok (.aload_n 0, 1) := dq_get (L := lzddX12_dueIn_0) 10 rfl zddX12_dueIn_0 rfl
theorem dX12_dueIn_17 : decode cX12_dueIn 17 = .ok (.aload_n 0, 1) := dq_get (L := lzddX12_dueIn_0) 11 rfl zddX12_dueIn_0 rfl
theorem dX12_dueIn_18 : decode cX12_dueIn 18 = .ok (.getfield 385, 3) := dq_get (L := lzddX12_dueIn_0) 12 rfl zddX12_dueIn_0 rfl
theorem dX12_dueIn_21 : decode cX12_dueIn 21 = .ok (.getfield 296, 3) := dq_get (L := lzddX12_dueIn_0) 13 rfl zddX12_dueIn_0 rfl
theorem dX12_dueIn_24 : decode cX12_dueIn 24 = .ok (.iload_n 3, 1) := dq_get (L := lzddX12_dueIn_0) 14 rfl zddX12_dueIn_0 rfl
theorem dX12_dueIn_25 : decode cX12_dueIn 25 = .ok (.iaload, 1) := dq_get (L := lzddX12_dueIn_0) 15 rfl zddX12_dueIn_0 rfl
theorem dX12_dueIn_26 : decode cX12_dueIn 26 = .ok (.iload_n 1, 1) := dq_get (L := lzddX12_dueIn_0) 16 rfl zddX12_dueIn_0 rfl
theorem dX12_dueIn_27 : decode cX12_dueIn 27 = .ok (.invokevirtual 413, 3) := dq_get (L := lzddX12_dueIn_0) 17 rfl zddX12_dueIn_0 rfl
theorem dX12_dueIn_30 : decode cX12_dueIn 30 = .ok (.ifCond .eq 7, 3) := dq_get (L := lzddX12_dueIn_0) 18 rfl zddX12_dueIn_0 rfl
theorem dX12_dueIn_33 : decode cX12_dueIn 33 = .ok (.iconst 1, 1) := dq_get (L := lzddX12_dueIn_0) 19 rfl zddX12_dueIn_0 rfl
def lzddX12_dueIn_34 : List (Nat × Instr × Nat) := [(34, .goto 4, 3), (37, .iconst 0, 1), (38, .iadd, 1), (39, .istore_n 2, 1), (40, .iinc 3 1, 3), (43, .goto (-39), 3), (46, .iload_n 2, 1), (47, .ireturn, 1)]
theorem zddX12_dueIn_34 : dqW lzddX12_dueIn_34 (cX12_dueIn.data.toList.drop 34) 34 = true := by decide +kernel
theorem dX12_dueIn_34 : decode cX12_dueIn 34 = .ok (.goto 4, 3) := dq_get (L := lzddX12_dueIn_34) 0 rfl zddX12_dueIn_34 rfl
theorem dX12_dueIn_37 : decode cX12_dueIn 37 = .ok (.iconst 0, 1) := dq_get (L := lzddX12_dueIn_34) 1 rfl zddX12_dueIn_34 rfl
theorem dX12_dueIn_38 : decode cX12_dueIn 38 = .ok (.iadd, 1) := dq_get (L := lzddX12_dueIn_34) 2 rfl zddX12_dueIn_34 rfl
theorem dX12_dueIn_39 : decode cX12_dueIn 39 = .ok (.istore_n 2, 1) := dq_get (L := lzddX12_dueIn_34) 3 rfl zddX12_dueIn_34 rfl
theorem dX12_dueIn_40 : decode cX12_dueIn 40 = .ok (.iinc 3 1, 3) := dq_get (L := lzddX12_dueIn_34) 4 rfl zddX12_dueIn_34 rfl
theorem dX12_dueIn_43 : decode cX12_dueIn 43 = .ok (.goto (-39), 3) := dq_get (L := lzddX12_dueIn_34) 5 rfl zddX12_dueIn_34 rfl
theorem dX12_dueIn_46 : decode cX12_dueIn 46 = .ok (.iload_n 2, 1) := dq_get (L := lzddX12_dueIn_34) 6 rfl zddX12_dueIn_34 rfl
theorem dX12_dueIn_47 : decode cX12_dueIn 47 = .ok (.ireturn, 1) := dq_get (L := lzddX12_dueIn_34) 7 rfl zddX12_dueIn_34 rfl
def lzddX12_eatsSign_0 : List (Nat × Instr × Nat) := [(0, .aload_n 0, 1), (1, .getfield 99, 3), (4, .iconst 4, 1), (5, .if_icmp .ne 15, 3), (8, .aload_n 0, 1), (9, .getfield 111, 3), (12, .iload_n 1, 1), (13, .if_icmp .ne 7, 3), (16, .iconst 1, 1), (17, .goto 4, 3), (20, .iconst 0, 1), (21, .istore_n 2, 1), (22, .iload_n 2, 1), (23, .ifCond .eq 7, 3), (26, .aload_n 0, 1), (27, .invokevirtual 142, 3), (30, .iload_n 2, 1), (31, .ireturn, 1)]
theorem zddX12_eatsSign_0 : dqW lzddX12_eatsSign_0 (cX12_eatsSign.data.toList.drop 0) 0 = true := by decide +kernel
theorem dX12_eatsSign_0 : decode cX12_eatsSign 0 = .ok (.aload_n 0, 1) := dq_get (L := lzddX12_eatsSign_0) 0 rfl zddX12_eatsSign_0 rfl
theorem dX12_eatsSign_1 : decode cX12_eatsSign 1 = .ok (.getfield 99, 3) := dq_get (L := lzddX12_eatsSign_0) 1 rfl zddX12_eatsSign_0 rfl
theorem dX12_eatsSign_4 : decode cX12_eatsSign 4 = .ok (.iconst 4, 1) := dq_get (L := lzddX12_eatsSign_0) 2 rfl zddX12_eatsSign_0 rfl
theorem dX12_eatsSign_5 : decode cX12_eatsSign 5 = .ok (.if_icmp .ne 15, 3) := dq_get (L := lzddX12_eatsSign_0) 3 rfl zddX12_eatsSign_0 rfl
theorem dX12_eatsSign_8 : decode cX12_eatsSign 8 = .ok (.aload_n 0, 1) := dq_get (L := lzddX12_eatsSign_0) 4 rfl zddX12_eatsSign_0 rfl
theorem dX12_eatsSign_9 : decode cX12_eatsSign 9 = .ok (.getfield 111, 3) := dq_get (L := lzddX12_eatsSign_0) 5 rfl zddX12_eatsSign_0 rfl
theorem dX12_eatsSign_12 : decode cX12_eatsSign 12 = .ok (.iload_n 1, 1) := dq_get (L := lzddX12_eatsSign_0) 6 rfl zddX12_eatsSign_0 rfl
theorem dX12_eatsSign_13 : decode cX12_eatsSign 13 = .ok (.if_icmp .ne 7, 3) := dq_get (L := lzddX12_eatsSign_0) 7 rfl zddX12_eatsSign_0 rfl
theorem dX12_eatsSign_16 : decode cX12_eatsSign 16 = .ok (.iconst 1, 1) := dq_get (L := lzddX12_eatsSign_0) 8 rfl zddX12_eatsSign_0 rfl
theorem dX12_eatsSign_17 : decode cX12_eatsSign 17 = .ok (.goto 4, 3) := dq_get (L := lzddX12_eatsSign_0) 9 rfl zddX12_eatsSign_0 rfl
theorem dX12_eatsSign_20 : decode cX12_eatsSign 20 = .ok (.iconst 0, 1) := dq_get (L := lzddX12_eatsSign_0) 10 rfl zddX12_eatsSign_0 rfl
theorem dX12_eatsSign_21 : decode cX12_eatsSign 21 = .ok (.istore_n 2, 1) := dq_get (L := lzddX12_eatsSign_0) 11 rfl zddX12_eatsSign_0 rfl
theorem dX12_eatsSign_22 : decode cX12_eatsSign 22 = .ok (.iload_n 2, 1) := dq_get (L := lzddX12_eatsSign_0) 12 rfl zddX12_eatsSign_0 rfl
theorem dX12_eatsSign_23 : decode cX12_eatsSign 23 = .ok (.ifCond .eq 7, 3) := dq_get (L := lzddX12_eatsSign_0) 13 rfl zddX12_eatsSign_0 rfl
theorem dX12_eatsSign_26 : decode cX12_eatsSign 26 = .ok (.aload_n 0, 1) := dq_get (L := lzddX12_eatsSign_0) 14 rfl zddX12_eatsSign_0 rfl
theorem dX12_eatsSign_27 : decode cX12_eatsSign 27 = .ok (.invokevirtual 142, 3) := dq_get (L := lzddX12_eatsSign_0) 15 rfl zddX12_eatsSign_0 rfl
theorem dX12_eatsSign_30 : decode cX12_eatsSign 30 = .ok (.iload_n 2, 1) := dq_get (L := lzddX12_eatsSign_0) 16 rfl zddX12_eatsSign_0 rfl
theorem dX12_eatsSign_31 : decode cX12_eatsSign 31 = .ok (.ireturn, 1) := dq_get (L := lzddX12_eatsSign_0) 17 rfl zddX12_eatsSign_0 rfl
def lzddX12_eatsWord_0 : List (Nat × Instr × Nat) := [(0, .aload_n 0, 1), (1, .aload_n 1, 1), (2, .invokevirtual 138, 3), (5, .istore_n 2, 1), (6, .iload_n 2, 1), (7, .ifCond .eq 7, 3), (10, .aload_n 0, 1), (11, .invokevirtual 142, 3), (14, .iload_n 2, 1), (15, .ireturn, 1)]
theorem zddX12_eatsWord_0 : dqW lzddX12_eatsWord_0 (cX12_eatsWord.data.toList.drop 0) 0 = true := by decide +kernel
theorem dX12_eatsWord_0 : decode cX12_eatsWord 0 = .ok (.aload_n 0, 1) := dq_get (L := lzddX12_eatsWord_0) 0 rfl zddX12_eatsWord_0 rfl
theorem dX12_eatsWord_1 : decode cX12_eatsWord 1 = .ok (.aload_n 1, 1) := dq_get (L := lzddX12_eatsWord_0) 1 rfl zddX12_eatsWord_0 rfl
theorem dX12_eatsWord_2 : decode cX12_eatsWord 2 = .ok (.invokevirtual 138, 3) := dq_get (L := lzddX12_eatsWord_0) 2 rfl zddX12_eatsWord_0 rfl
theorem dX12_eatsWord_5 : decode cX12_eatsWord 5 = .ok (.istore_n 2, 1) := dq_get (L := lzddX12_eatsWord_0) 3 rfl zddX12_eatsWord_0 rfl
theorem dX12_eatsWord_6 : decode cX12_eatsWord 6 = .ok (.iload_n 2, 1) := dq_get (L := lzddX12_eatsWord_0) 4 rfl zddX12_eatsWord_0 rfl
theorem dX12_eatsWord_7 : decode cX12_eatsWord 7 = .ok (.ifCond .eq 7, 3) := dq_get (L := lzddX12_eatsWord_0) 5 rfl zddX12_eatsWord_0 rfl
theorem dX12_eatsWord_10 : decode cX12_eatsWord 10 = .ok (.aload_n 0, 1) := dq_get (L := lzddX12_eatsWord_0) 6 rfl zddX12_eatsWord_0 rfl
theorem dX12_eatsWord_11 : decode cX12_eatsWord 11 = .ok (.invokevirtual 142, 3) := dq_get (L := lzddX12_eatsWord_0) 7 rfl zddX12_eatsWord_0 rfl
theorem dX12_eatsWord_14 : decode cX12_eatsWord 14 = .ok (.iload_n 2, 1) := dq_get (L := lzddX12_eatsWord_0) 8 rfl zddX12_eatsWord_0 rfl
theorem dX12_eatsWord_15 : decode cX12_eatsWord 15 = .ok (.ireturn, 1) := dq_get (L := lzddX12_eatsWord_0) 9 rfl zddX12_eatsWord_0 rfl
def lzddX12_event_0 : List (Nat × Instr × Nat) := [(0, .aload_n 0, 1), (1, .iconst 0, 1), (2, .putfield 70, 3), (5, .aload_n 0, 1), (6, .iload_n 1, 1), (7, .invokevirtual 467, 3), (10, .ifCond .eq 12, 3), (13, .iload_n 2, 1), (14, .iconst 0, 1), (15, .iconst 3, 1), (16, .invokestatic 149, 3), (19, .ifCond .ne 9, 3), (22, .aload_n 0, 1), (23, .iconst 1, 1), (24, .invokevirtual 76, 3), (27, .ireturn, 1), (28, .aload_n 0, 1), (29, .iload_n 2, 1), (30, .ifCond .ne 11, 3), (33, .aload_n 0, 1)]
theorem zddX12_event_0 : dqW lzddX12_event_0 (cX12_event.data.toList.drop 0) 0 = true := by decide +kernel
theorem dX12_event_0 : decode cX12_event 0 = .ok (.aload_n 0, 1) := dq_get (L := lzddX12_event_0) 0 rfl zddX12_event_0 rfl
theorem dX12_event_1 : decode cX12_event 1 = .ok (.iconst 0, 1) := dq_get (L := lzddX12_event_0) 1 rfl zddX12_event_0 rfl
theorem dX12_event_2 : decode cX12_event 2 = .ok (.putfield 70, 3) := dq_get (L := lzddX12_event_0) 2 rfl zddX12_event_0 rfl
theorem dX12_event_5 : decode cX12_event 5 = .ok (.aload_n 0, 1) := dq_get (L := lzddX12_event_0) 3 rfl zddX12_event_0 rfl
theorem dX12_event_6 : decode cX12_event 6 = .ok (.iload_n 1, 1) := dq_get (L := lzddX12_event_0) 4 rfl zddX12_event_0 rfl
theorem dX12_event_7 : decode cX12_event 7 = .ok (.invokevirtual 467, 3) := dq_get (L := lzddX12_event_0) 5 rfl zddX12_event_0 rfl
theorem dX12_event_10 : decode cX12_event 10 = .ok (.ifCond .eq 12, 3) := dq_get (L := lzddX12_event_0) 6 rfl zddX12_event_0 rfl
theorem dX12_event_13 : decode cX12_event 13 = .ok (.iload_n 2, 1) := dq_get (L := lzddX12_event_0) 7 rfl zddX12_event_0 rfl
theorem dX12_event_14 : decode cX12_event 14 = .ok (.iconst 0, 1) := dq_get (L := lzddX12_event_0) 8 rfl zddX12_event_0 rfl
theorem dX12_event_15 : decode cX12_event 15 = .ok (.iconst 3, 1) := dq_get (L := lzddX12_event_0) 9 rfl zddX12_event_0 rfl
theorem dX12_event_16 : decode cX12_event 16 = .ok (.invokestatic 149, 3) := dq_get (L := lzddX12_event_0) 10 rfl zddX12_event_0 rfl
theorem dX12_event_19 : decode cX12_event 19 = .ok (.ifCond .ne 9, 3) := dq_get (L := lzddX12_event_0) 11 rfl zddX12_event_0 rfl
theorem dX12_event_22 : decode cX12_event 22 = .ok (.aload_n 0, 1) := dq_get (L := lzddX12_event_0) 12 rfl zddX12_event_0 rfl
theorem dX12_event_23 : decode cX12_event 23 = .ok (.iconst 1, 1) := dq_get (L := lzddX12_event_0) 13 rfl zddX12_event_0 rfl
theorem dX12_event_24 : decode cX12_event 24 = .ok (.invokevirtual 76, 3) := dq_get (L := lzddX12_event_0) 14 rfl zddX12_event_0 rfl
theorem dX12_event_27 : decode cX12_event 27 = .ok (.ireturn, 1) := dq_get (L := lzddX12_event_0) 15 rfl zddX12_event_0 rfl
theorem dX12_event_28 : decode cX12_event 28 = .ok (.aload_n 0, 1) := dq_get (L := lzddX12_event_0) 16 rfl zddX12_event_0 rfl
theorem dX12_event_29 : decode cX12_event 29 = .ok (.iload_n 2, 1) := dq_get (L := lzddX12_event_0) 17 rfl zddX12_event_0 rfl
theorem dX12_event_30 : decode cX12_event 30 = .ok (.ifCond .ne 11, 3) := dq_get (L := lzddX12_event_0) 18 rfl zddX12_event_0 rfl
theorem dX12_event_33 : decode cX12_event 33 = .ok (.aload_n 0, 1) := dq_get (L := lzddX12_event_0) 19 rfl zddX12_event_0 rfl
def lzddX12_event_34 : List (Nat × Instr × Nat) := [(34, .iload_n 1, 1), (35, .invokevirtual 404, 3), (38, .goto 34, 3), (41, .iload_n 2, 1), (42, .iconst 1, 1), (43, .if_icmp .ne 11, 3), (46, .aload_n 0, 1), (47, .iload_n 1, 1), (48, .invokevirtual 407, 3), (51, .goto 21, 3), (54, .iload_n 2, 1), (55, .iconst 2, 1), (56, .if_icmp .ne 11, 3), (59, .aload_n 0, 1), (60, .iload_n 1, 1), (61, .invokevirtual 395, 3), (64, .goto 8, 3), (67, .aload_n 0, 1), (68, .iload_n 1, 1), (69, .invokevirtual 398, 3)]
theorem zddX12_event_34 : dqW lzddX12_event_34 (cX12_event.data.toList.drop 34) 34 = true := by decide +kernel
theorem dX12_event_34 : decode cX12_event 34 = .ok (.iload_n 1, 1) := dq_get (L := lzddX12_event_34) 0 rfl zddX12_event_34 rfl
theorem dX12_event_35 : decode cX12_event 35 = .ok (.invokevirtual 404, 3) := dq_get (L := lzddX12_event_34) 1 rfl zddX12_event_34 rfl
theorem dX12_event_38 : decode cX12_event 38 = .ok (.goto 34, 3) := dq_get (L := lzddX12_event_34) 2 rfl zddX12_event_34 rfl
theorem dX12_event_41 : decode cX12_event 41 = .ok (.iload_n 2, 1) := dq_get (L := lzddX12_event_34) 3 rfl zddX12_event_34 rfl
theorem dX12_event_42 : decode cX12_event 42 = .ok (.iconst 1, 1) := dq_get (L := lzddX12_event_34) 4 rfl zddX12_event_34 rfl
theorem dX12_event_43 : decode cX12_event 43 = .ok (.if_icmp .ne 11, 3) := dq_get (L := lzddX12_event_34) 5 rfl zddX12_event_34 rfl
theorem dX12_event_46 : decode cX12_event 46 = .ok (.aload_n 0, 1) := dq_get (L := lzddX12_event_34) 6 rfl zddX12_event_34 rfl
theorem dX12_event_47 : decode cX12_event 47 = .ok (.iload_n 1, 1) := dq_get (L := lzddX12_event_34) 7 rfl zddX12_event_34 rfl
theorem dX12_event_48 : decode cX12_event 48 = .ok (.invokevirtual 407, 3) := dq_get (L := lzddX12_event_34) 8 rfl zddX12_event_34 rfl
theorem dX12_event_51 : decode cX12_event 51 = .ok (.goto 21, 3) := dq_get (L := lzddX12_event_34) 9 rfl zddX12_event_34 rfl
theorem dX12_event_54 : decode cX12_event 54 = .ok (.iload_n 2, 1) := dq_get (L := lzddX12_event_34) 10 rfl zddX12_event_34 rfl
theorem dX12_event_55 : decode cX12_event 55 = .ok (.iconst 2, 1) := dq_get (L := lzddX12_event_34) 11 rfl zddX12_event_34 rfl
theorem dX12_event_56 : decode cX12_event 56 = .ok (.if_icmp .ne 11, 3) := dq_get (L := lzddX12_event_34) 12 rfl zddX12_event_34 rfl
theorem dX12_event_59 : decode cX12_event 59 = .ok (.aload_n 0, 1) := dq_get (L := lzddX12_event_34) 13 rfl zddX12_event_34 rfl
theorem dX12_event_60 : decode cX12_event 60 = .ok (.iload_n 1, 1) := dq_get (L := lzddX12_event_34) 14 rfl zddX12_event_34 rfl
theorem dX12_event_61 : decode cX12_event 61 = .ok (.invokevirtual 395, 3) := dq_get (L := lzddX12_event_34) 15 rfl zddX12_event_34 rfl
theorem dX12_event_64 : decode cX12_event 64 = .ok (.goto 8, 3) := dq_get (L := lzddX12_event_34) 16 rfl zddX12_event_34 rfl
theorem dX12_event_67 : decode cX12_event 67 = .ok (.aload_n 0, 1) := dq_get (L := lzddX12_event_34) 17 rfl zddX12_event_34 rfl
theorem dX12_event_68 : decode cX12_event 68 = .ok (.iload_n 1, 1) := dq_get (L := lzddX12_event_34) 18 rfl zddX12_event_34 rfl
theorem dX12_event_69 : decode cX12_event 69 = .ok (.invokevirtual 398, 3) := dq_get (L := lzddX12_event_34) 19 rfl zddX12_event_34 rfl
def lzddX12_event_72 : List (Nat × Instr × Nat) := [(72, .invokevirtual 81, 3), (75, .ireturn, 1)]
theorem zddX12_event_72 : dqW lzddX12_event_72 (cX12_event.data.toList.drop 72) 72 = true := by decide +kernel
theorem dX12_event_72 : decode cX12_event 72 = .ok (.invokevirtual 81, 3) := dq_get (L := lzddX12_event_72) 0 rfl zddX12_event_72 rfl
theorem dX12_event_75 : decode cX12_event 75 = .ok (.ireturn, 1) := dq_get (L := lzddX12_event_72) 1 rfl zddX12_event_72 rfl
def lzddX12_events_0 : List (Nat × Instr × Nat) := [(0, .aload_n 0, 1), (1, .getfield 385, 3), (4, .getfield 265, 3), (7, .aload_n 0, 1), (8, .getfield 17, 3), (11, .iconst 1, 1), (12, .iaload, 1), (13, .iadd, 1), (14, .ireturn, 1)]
theorem zddX12_events_0 : dqW lzddX12_events_0 (cX12_events.data.toList.drop 0) 0 = true := by decide +kernel
theorem dX12_events_0 : decode cX12_events 0 = .ok (.aload_n 0, 1) := dq_get (L := lzddX12_events_0) 0 rfl zddX12_events_0 rfl
theorem dX12_events_1 : decode cX12_events 1 = .ok (.getfield 385, 3) := dq_get (L := lzddX12_events_0) 1 rfl zddX12_events_0 rfl
theorem dX12_events_4 : decode cX12_events 4 = .ok (.getfield 265, 3) := dq_get (L := lzddX12_events_0) 2 rfl zddX12_events_0 rfl
theorem dX12_events_7 : decode cX12_events 7 = .ok (.aload_n 0, 1) := dq_get (L := lzddX12_events_0) 3 rfl zddX12_events_0 rfl
theorem dX12_events_8 : decode cX12_events 8 = .ok (.getfield 17, 3) := dq_get (L := lzddX12_events_0) 4 rfl zddX12_events_0 rfl
theorem dX12_events_11 : decode cX12_events 11 = .ok (.iconst 1, 1) := dq_get (L := lzddX12_events_0) 5 rfl zddX12_events_0 rfl
theorem dX12_events_12 : decode cX12_events 12 = .ok (.iaload, 1) := dq_get (L := lzddX12_events_0) 6 rfl zddX12_events_0 rfl
theorem dX12_events_13 : decode cX12_events 13 = .ok (.iadd, 1) := dq_get (L := lzddX12_events_0) 7 rfl zddX12_events_0 rfl
theorem dX12_events_14 : decode cX12_events 14 = .ok (.ireturn, 1) := dq_get (L := lzddX12_events_0) 8 rfl zddX12_events_0 rfl
def lzddX12_everybody_0 : List (Nat × Instr × Nat) := [(0, .iconst 1, 1), (1, .aload_n 0, 1), (2, .getfield 385, 3), (5, .getfield 315, 3), (8, .ishl, 1), (9, .iconst 1, 1), (10, .isub, 1), (11, .ireturn, 1)]
theorem zddX12_everybody_0 : dqW lzddX12_everybody_0 (cX12_everybody.data.toList.drop 0) 0 = true := by decide +kernel
theorem dX12_everybody_0 : decode cX12_everybody 0 = .ok (.iconst 1, 1) := dq_get (L := lzddX12_everybody_0) 0 rfl zddX12_everybody_0 rfl
theorem dX12_everybody_1 : decode cX12_everybody 1 = .ok (.aload_n 0, 1) := dq_get (L := lzddX12_everybody_0) 1 rfl zddX12_everybody_0 rfl
theorem dX12_everybody_2 : decode cX12_everybody 2 = .ok (.getfield 385, 3) := dq_get (L := lzddX12_everybody_0) 2 rfl zddX12_everybody_0 rfl
theorem dX12_everybody_5 : decode cX12_everybody 5 = .ok (.getfield 315, 3) := dq_get (L := lzddX12_everybody_0) 3 rfl zddX12_everybody_0 rfl
theorem dX12_everybody_8 : decode cX12_everybody 8 = .ok (.ishl, 1) := dq_get (L := lzddX12_everybody_0) 4 rfl zddX12_everybody_0 rfl
theorem dX12_everybody_9 : decode cX12_everybody 9 = .ok (.iconst 1, 1) := dq_get (L := lzddX12_everybody_0) 5 rfl zddX12_everybody_0 rfl
theorem dX12_everybody_10 : decode cX12_everybody 10 = .ok (.isub, 1) := dq_get (L := lzddX12_everybody_0) 6 rfl zddX12_everybody_0 rfl
theorem dX12_everybody_11 : decode cX12_everybody 11 = .ok (.ireturn, 1) := dq_get (L := lzddX12_everybody_0) 7 rfl zddX12_everybody_0 rfl
def lzddX12_fault_0 : List (Nat × Instr × Nat) := [(0, .aload_n 0, 1), (1, .iconst 0, 1), (2, .putfield 70, 3), (5, .aload_n 0, 1), (6, .getfield 128, 3), (9, .ireturn, 1)]
theorem zddX12_fault_0 : dqW lzddX12_fault_0 (cX12_fault.data.toList.drop 0) 0 = true := by decide +kernel
theorem dX12_fault_0 : decode cX12_fault 0 = .ok (.aload_n 0, 1) := dq_get (L := lzddX12_fault_0) 0 rfl zddX12_fault_0 rfl
theorem dX12_fault_1 : decode cX12_fault 1 = .ok (.iconst 0, 1) := dq_get (L := lzddX12_fault_0) 1 rfl zddX12_fault_0 rfl
theorem dX12_fault_2 : decode cX12_fault 2 = .ok (.putfield 70, 3) := dq_get (L := lzddX12_fault_0) 2 rfl zddX12_fault_0 rfl
theorem dX12_fault_5 : decode cX12_fault 5 = .ok (.aload_n 0, 1) := dq_get (L := lzddX12_fault_0) 3 rfl zddX12_fault_0 rfl
theorem dX12_fault_6 : decode cX12_fault 6 = .ok (.getfield 128, 3) := dq_get (L := lzddX12_fault_0) 4 rfl zddX12_fault_0 rfl
theorem dX12_fault_9 : decode cX12_fault 9 = .ok (.ireturn, 1) := dq_get (L := lzddX12_fault_0) 5 rfl zddX12_fault_0 rfl
def lzddX12_feed_0 : List (Nat × Instr × Nat) := [(0, .aload_n 0, 1), (1, .iconst 0, 1), (2, .putfield 70, 3), (5, .aload_n 0, 1), (6, .getfield 378, 3), (9, .bipush 20, 2), (11, .iadd, 1), (12, .sipush 900, 3), (15, .if_icmp .le 5, 3), (18, .iconst (-1), 1), (19, .ireturn, 1), (20, .iconst 0, 1), (21, .istore 6, 2), (23, .iload 6, 2), (25, .bipush 20, 2), (27, .if_icmp .ge 90, 3), (30, .iload 6, 2), (32, .iconst 4, 1), (33, .if_icmp .ge 7, 3), (36, .iload_n 1, 1)]
theorem zddX12_feed_0 : dqW lzddX12_feed_0 (cX12_feed.data.toList.drop 0) 0 = true := by decide +kernel
theorem dX12_feed_0 : decode cX12_feed 0 = .ok (.aload_n 0, 1) := dq_get (L := lzddX12_feed_0) 0 rfl zddX12_feed_0 rfl
theorem dX12_feed_1 : decode cX12_feed 1 = .ok (.iconst 0, 1) := dq_get (L := lzddX12_feed_0) 1 rfl zddX12_feed_0 rfl
theorem dX12_feed_2 : decode cX12_feed 2 = .ok (.putfield 70, 3) := dq_get (L := lzddX12_feed_0) 2 rfl zddX12_feed_0 rfl
theorem dX12_feed_5 : decode cX12_feed 5 = .ok (.aload_n 0, 1) := dq_get (L := lzddX12_feed_0) 3 rfl zddX12_feed_0 rfl
theorem dX12_feed_6 : decode cX12_feed 6 = .ok (.getfield 378, 3) := dq_get (L := lzddX12_feed_0) 4 rfl zddX12_feed_0 rfl
theorem dX12_feed_9 : decode cX12_feed 9 = .ok (.bipush 20, 2) := dq_get (L := lzddX12_feed_0) 5 rfl zddX12_feed_0 rfl
theorem dX12_feed_11 : decode cX12_feed 11 = .ok (.iadd, 1) := dq_get (L := lzddX12_feed_0) 6 rfl zddX12_feed_0 rfl
theorem dX12_feed_12 : decode cX12_feed 12 = .ok (.sipush 900, 3) := dq_get (L := lzddX12_feed_0) 7 rfl zddX12_feed_0 rfl
theorem dX12_feed_15 : decode cX12_feed 15 = .ok (.if_icmp .le 5, 3) := dq_get (L := lzddX12_feed_0) 8 rfl zddX12_feed_0 rfl
theorem dX12_feed_18 : decode cX12_feed 18 = .ok (.iconst (-1), 1) := dq_get (L := lzddX12_feed_0) 9 rfl zddX12_feed_0 rfl
theorem dX12_feed_19 : decode cX12_feed 19 = .ok (.ireturn, 1) := dq_get (L := lzddX12_feed_0) 10 rfl zddX12_feed_0 rfl
theorem dX12_feed_20 : decode cX12_feed 20 = .ok (.iconst 0, 1) := dq_get (L := lzddX12_feed_0) 11 rfl zddX12_feed_0 rfl
theorem dX12_feed_21 : decode cX12_feed 21 = .ok (.istore 6, 2) := dq_get (L := lzddX12_feed_0) 12 rfl zddX12_feed_0 rfl
theorem dX12_feed_23 : decode cX12_feed 23 = .ok (.iload 6, 2) := dq_get (L := lzddX12_feed_0) 13 rfl zddX12_feed_0 rfl
theorem dX12_feed_25 : decode cX12_feed 25 = .ok (.bipush 20, 2) := dq_get (L := lzddX12_feed_0) 14 rfl zddX12_feed_0 rfl
theorem dX12_feed_27 : decode cX12_feed 27 = .ok (.if_icmp .ge 90, 3) := dq_get (L := lzddX12_feed_0) 15 rfl zddX12_feed_0 rfl
theorem dX12_feed_30 : decode cX12_feed 30 = .ok (.iload 6, 2) := dq_get (L := lzddX12_feed_0) 16 rfl zddX12_feed_0 rfl
theorem dX12_feed_32 : decode cX12_feed 32 = .ok (.iconst 4, 1) := dq_get (L := lzddX12_feed_0) 17 rfl zddX12_feed_0 rfl
theorem dX12_feed_33 : decode cX12_feed 33 = .ok (.if_icmp .ge 7, 3) := dq_get (L := lzddX12_feed_0) 18 rfl zddX12_feed_0 rfl
theorem dX12_feed_36 : decode cX12_feed 36 = .ok (.iload_n 1, 1) := dq_get (L := lzddX12_feed_0) 19 rfl zddX12_feed_0 rfl
def lzddX12_feed_37 : List (Nat × Instr × Nat) := [(37, .goto 39, 3), (40, .iload 6, 2), (42, .bipush 8, 2), (44, .if_icmp .ge 7, 3), (47, .iload_n 2, 1), (48, .goto 28, 3), (51, .iload 6, 2), (53, .bipush 12, 2), (55, .if_icmp .ge 7, 3), (58, .iload_n 3, 1), (59, .goto 17, 3), (62, .iload 6, 2), (64, .bipush 16, 2), (66, .if_icmp .ge 8, 3), (69, .iload 4, 2), (71, .goto 5, 3), (74, .iload 5, 2), (76, .istore 7, 2), (78, .aload_n 0, 1), (79, .getfield 13, 3)]
theorem zddX12_feed_37 : dqW lzddX12_feed_37 (cX12_feed.data.toList.drop 37) 37 = true := by decide +kernel
theorem dX12_feed_37 : decode cX12_feed 37 = .ok (.goto 39, 3) := dq_get (L := lzddX12_feed_37) 0 rfl zddX12_feed_37 rfl
theorem dX12_feed_40 : decode cX12_feed 40 = .ok (.iload 6, 2) := dq_get (L := lzddX12_feed_37) 1 rfl zddX12_feed_37 rfl
theorem dX12_feed_42 : decode cX12_feed 42 = .ok (.bipush 8, 2) := dq_get (L := lzddX12_feed_37) 2 rfl zddX12_feed_37 rfl
theorem dX12_feed_44 : decode cX12_feed 44 = .ok (.if_icmp .ge 7, 3) := dq_get (L := lzddX12_feed_37) 3 rfl zddX12_feed_37 rfl
theorem dX12_feed_47 : decode cX12_feed 47 = .ok (.iload_n 2, 1) := dq_get (L := lzddX12_feed_37) 4 rfl zddX12_feed_37 rfl
theorem dX12_feed_48 : decode cX12_feed 48 = .ok (.goto 28, 3) := dq_get (L := lzddX12_feed_37) 5 rfl zddX12_feed_37 rfl
theorem dX12_feed_51 : decode cX12_feed 51 = .ok (.iload 6, 2) := dq_get (L := lzddX12_feed_37) 6 rfl zddX12_feed_37 rfl
theorem dX12_feed_53 : decode cX12_feed 53 = .ok (.bipush 12, 2) := dq_get (L := lzddX12_feed_37) 7 rfl zddX12_feed_37 rfl
theorem dX12_feed_55 : decode cX12_feed 55 = .ok (.if_icmp .ge 7, 3) := dq_get (L := lzddX12_feed_37) 8 rfl zddX12_feed_37 rfl
theorem dX12_feed_58 : decode cX12_feed 58 = .ok (.iload_n 3, 1) := dq_get (L := lzddX12_feed_37) 9 rfl zddX12_feed_37 rfl
theorem dX12_feed_59 : decode cX12_feed 59 = .ok (.goto 17, 3) := dq_get (L := lzddX12_feed_37) 10 rfl zddX12_feed_37 rfl
theorem dX12_feed_62 : decode cX12_feed 62 = .ok (.iload 6, 2) := dq_get (L := lzddX12_feed_37) 11 rfl zddX12_feed_37 rfl
theorem dX12_feed_64 : decode cX12_feed 64 = .ok (.bipush 16, 2) := dq_get (L := lzddX12_feed_37) 12 rfl zddX12_feed_37 rfl
theorem dX12_feed_66 : decode cX12_feed 66 = .ok (.if_icmp .ge 8, 3) := dq_get (L := lzddX12_feed_37) 13 rfl zddX12_feed_37 rfl
theorem dX12_feed_69 : decode cX12_feed 69 = .ok (.iload 4, 2) := dq_get (L := lzddX12_feed_37) 14 rfl zddX12_feed_37 rfl
theorem dX12_feed_71 : decode cX12_feed 71 = .ok (.goto 5, 3) := dq_get (L := lzddX12_feed_37) 15 rfl zddX12_feed_37 rfl
theorem dX12_feed_74 : decode cX12_feed 74 = .ok (.iload 5, 2) := dq_get (L := lzddX12_feed_37) 16 rfl zddX12_feed_37 rfl
theorem dX12_feed_76 : decode cX12_feed 76 = .ok (.istore 7, 2) := dq_get (L := lzddX12_feed_37) 17 rfl zddX12_feed_37 rfl
theorem dX12_feed_78 : decode cX12_feed 78 = .ok (.aload_n 0, 1) := dq_get (L := lzddX12_feed_37) 18 rfl zddX12_feed_37 rfl
theorem dX12_feed_79 : decode cX12_feed 79 = .ok (.getfield 13, 3) := dq_get (L := lzddX12_feed_37) 19 rfl zddX12_feed_37 rfl
def lzddX12_feed_82 : List (Nat × Instr × Nat) := [(82, .aload_n 0, 1), (83, .getfield 378, 3), (86, .iload 7, 2), (88, .bipush 24, 2), (90, .bipush 8, 2), (92, .iload 6, 2), (94, .iconst 4, 1), (95, .irem, 1), (96, .imul, 1), (97, .isub, 1), (98, .ishr, 1), (99, .i2b, 1), (100, .bastore, 1), (101, .aload_n 0, 1), (102, .dup, 1), (103, .getfield 378, 3), (106, .iconst 1, 1), (107, .iadd, 1), (108, .putfield 378, 3), (111, .iinc 6 1, 3)]
theorem zddX12_feed_82 : dqW lzddX12_feed_82 (cX12_feed.data.toList.drop 82) 82 = true := by decide +kernel
theorem dX12_feed_82 : decode cX12_feed 82 = .ok (.aload_n 0, 1) := dq_get (L := lzddX12_feed_82) 0 rfl zddX12_feed_82 rfl
theorem dX12_feed_83 : decode cX12_feed 83 = .ok (.getfield 378, 3) := dq_get (L := lzddX12_feed_82) 1 rfl zddX12_feed_82 rfl
theorem dX12_feed_86 : decode cX12_feed 86 = .ok (.iload 7, 2) := dq_get (L := lzddX12_feed_82) 2 rfl zddX12_feed_82 rfl
theorem dX12_feed_88 : decode cX12_feed 88 = .ok (.bipush 24, 2) := dq_get (L := lzddX12_feed_82) 3 rfl zddX12_feed_82 rfl
theorem dX12_feed_90 : decode cX12_feed 90 = .ok (.bipush 8, 2) := dq_get (L := lzddX12_feed_82) 4 rfl zddX12_feed_82 rfl
theorem dX12_feed_92 : decode cX12_feed 92 = .ok (.iload 6, 2) := dq_get (L := lzddX12_feed_82) 5 rfl zddX12_feed_82 rfl
theorem dX12_feed_94 : decode cX12_feed 94 = .ok (.iconst 4, 1) := dq_get (L := lzddX12_feed_82) 6 rfl zddX12_feed_82 rfl
theorem dX12_feed_95 : decode cX12_feed 95 = .ok (.irem, 1) := dq_get (L := lzddX12_feed_82) 7 rfl zddX12_feed_82 rfl
theorem dX12_feed_96 : decode cX12_feed 96 = .ok (.imul, 1) := dq_get (L := lzddX12_feed_82) 8 rfl zddX12_feed_82 rfl
theorem dX12_feed_97 : decode cX12_feed 97 = .ok (.isub, 1) := dq_get (L := lzddX12_feed_82) 9 rfl zddX12_feed_82 rfl
theorem dX12_feed_98 : decode cX12_feed 98 = .ok (.ishr, 1) := dq_get (L := lzddX12_feed_82) 10 rfl zddX12_feed_82 rfl
theorem dX12_feed_99 : decode cX12_feed 99 = .ok (.i2b, 1) := dq_get (L := lzddX12_feed_82) 11 rfl zddX12_feed_82 rfl
theorem dX12_feed_100 : decode cX12_feed 100 = .ok (.bastore, 1) := dq_get (L := lzddX12_feed_82) 12 rfl zddX12_feed_82 rfl
theorem dX12_feed_101 : decode cX12_feed 101 = .ok (.aload_n 0, 1) := dq_get (L := lzddX12_feed_82) 13 rfl zddX12_feed_82 rfl
theorem dX12_feed_102 : decode cX12_feed 102 = .ok (.dup, 1) := dq_get (L := lzddX12_feed_82) 14 rfl zddX12_feed_82 rfl
theorem dX12_feed_103 : decode cX12_feed 103 = .ok (.getfield 378, 3) := dq_get (L := lzddX12_feed_82) 15 rfl zddX12_feed_82 rfl
theorem dX12_feed_106 : decode cX12_feed 106 = .ok (.iconst 1, 1) := dq_get (L := lzddX12_feed_82) 16 rfl zddX12_feed_82 rfl
theorem dX12_feed_107 : decode cX12_feed 107 = .ok (.iadd, 1) := dq_get (L := lzddX12_feed_82) 17 rfl zddX12_feed_82 rfl
theorem dX12_feed_108 : decode cX12_feed 108 = .ok (.putfield 378, 3) := dq_get (L := lzddX12_feed_82) 18 rfl zddX12_feed_82 rfl
theorem dX12_feed_111 : decode cX12_feed 111 = .ok (.iinc 6 1, 3) := dq_get (L := lzddX12_feed_82) 19 rfl zddX12_feed_82 rfl
def lzddX12_feed_114 : List (Nat × Instr × Nat) := [(114, .goto (-91), 3), (117, .aload_n 0, 1), (118, .getfield 378, 3), (121, .ireturn, 1)]
theorem zddX12_feed_114 : dqW lzddX12_feed_114 (cX12_feed.data.toList.drop 114) 114 = true := by decide +kernel
theorem dX12_feed_114 : decode cX12_feed 114 = .ok (.goto (-91), 3) := dq_get (L := lzddX12_feed_114) 0 rfl zddX12_feed_114 rfl
theorem dX12_feed_117 : decode cX12_feed 117 = .ok (.aload_n 0, 1) := dq_get (L := lzddX12_feed_114) 1 rfl zddX12_feed_114 rfl
theorem dX12_feed_118 : decode cX12_feed 118 = .ok (.getfield 378, 3) := dq_get (L := lzddX12_feed_114) 2 rfl zddX12_feed_114 rfl
theorem dX12_feed_121 : decode cX12_feed 121 = .ok (.ireturn, 1) := dq_get (L := lzddX12_feed_114) 3 rfl zddX12_feed_114 rfl
def lzddX12_fewest_0 : List (Nat × Instr × Nat) := [(0, .aload_n 0, 1), (1, .iconst 0, 1), (2, .putfield 70, 3), (5, .aload_n 0, 1), (6, .getfield 385, 3), (9, .ifnonnull 9, 3), (12, .aload_n 0, 1), (13, .iconst 1, 1), (14, .invokevirtual 76, 3), (17, .ireturn, 1), (18, .aload_n 0, 1), (19, .invokevirtual 482, 3), (22, .istore_n 1, 1), (23, .aload_n 0, 1), (24, .iload_n 1, 1), (25, .bipush (-2), 2), (27, .if_icmp .ne 8, 3), (30, .bipush (-2), 2), (32, .goto 7, 3), (35, .iload_n 1, 1)]
theorem zddX12_fewest_0 : dqW lzddX12_fewest_0 (cX12_fewest.data.toList.drop 0) 0 = true := by decide +kernel
theorem dX12_fewest_0 : decode cX12_fewest 0 = .ok (.aload_n 0, 1) := dq_get (L := lzddX12_fewest_0) 0 rfl zddX12_fewest_0 rfl
theorem dX12_fewest_1 : decode cX12_fewest 1 = .ok (.iconst 0, 1) := dq_get (L := lzddX12_fewest_0) 1 rfl zddX12_fewest_0 rfl
theorem dX12_fewest_2 : decode cX12_fewest 2 = .ok (.putfield 70, 3) := dq_get (L := lzddX12_fewest_0) 2 rfl zddX12_fewest_0 rfl
theorem dX12_fewest_5 : decode cX12_fewest 5 = .ok (.aload_n 0, 1) := dq_get (L := lzddX12_fewest_0) 3 rfl zddX12_fewest_0 rfl
theorem dX12_fewest_6 : decode cX12_fewest 6 = .ok (.getfield 385, 3) := dq_get (L := lzddX12_fewest_0) 4 rfl zddX12_fewest_0 rfl
theorem dX12_fewest_9 : decode cX12_fewest 9 = .ok (.ifnonnull 9, 3) := dq_get (L := lzddX12_fewest_0) 5 rfl zddX12_fewest_0 rfl
theorem dX12_fewest_12 : decode cX12_fewest 12 = .ok (.aload_n 0, 1) := dq_get (L := lzddX12_fewest_0) 6 rfl zddX12_fewest_0 rfl
theorem dX12_fewest_13 : decode cX12_fewest 13 = .ok (.iconst 1, 1) := dq_get (L := lzddX12_fewest_0) 7 rfl zddX12_fewest_0 rfl
theorem dX12_fewest_14 : decode cX12_fewest 14 = .ok (.invokevirtual 76, 3) := dq_get (L := lzddX12_fewest_0) 8 rfl zddX12_fewest_0 rfl
theorem dX12_fewest_17 : decode cX12_fewest 17 = .ok (.ireturn, 1) := dq_get (L := lzddX12_fewest_0) 9 rfl zddX12_fewest_0 rfl
theorem dX12_fewest_18 : decode cX12_fewest 18 = .ok (.aload_n 0, 1) := dq_get (L := lzddX12_fewest_0) 10 rfl zddX12_fewest_0 rfl
theorem dX12_fewest_19 : decode cX12_fewest 19 = .ok (.invokevirtual 482, 3) := dq_get (L := lzddX12_fewest_0) 11 rfl zddX12_fewest_0 rfl
theorem dX12_fewest_22 : decode cX12_fewest 22 = .ok (.istore_n 1, 1) := dq_get (L := lzddX12_fewest_0) 12 rfl zddX12_fewest_0 rfl
theorem dX12_fewest_23 : decode cX12_fewest 23 = .ok (.aload_n 0, 1) := dq_get (L := lzddX12_fewest_0) 13 rfl zddX12_fewest_0 rfl
theorem dX12_fewest_24 : decode cX12_fewest 24 = .ok (.iload_n 1, 1) := dq_get (L := lzddX12_fewest_0) 14 rfl zddX12_fewest_0 rfl
theorem dX12_fewest_25 : decode cX12_fewest 25 = .ok (.bipush (-2), 2) := dq_get (L := lzddX12_fewest_0) 15 rfl zddX12_fewest_0 rfl
theorem dX12_fewest_27 : decode cX12_fewest 27 = .ok (.if_icmp .ne 8, 3) := dq_get (L := lzddX12_fewest_0) 16 rfl zddX12_fewest_0 rfl
theorem dX12_fewest_30 : decode cX12_fewest 30 = .ok (.bipush (-2), 2) := dq_get (L := lzddX12_fewest_0) 17 rfl zddX12_fewest_0 rfl
theorem dX12_fewest_32 : decode cX12_fewest 32 = .ok (.goto 7, 3) := dq_get (L := lzddX12_fewest_0) 18 rfl zddX12_fewest_0 rfl
theorem dX12_fewest_35 : decode cX12_fewest 35 = .ok (.iload_n 1, 1) := dq_get (L := lzddX12_fewest_0) 19 rfl zddX12_fewest_0 rfl
def lzddX12_fewest_36 : List (Nat × Instr × Nat) := [(36, .invokestatic 473, 3), (39, .invokevirtual 81, 3), (42, .ireturn, 1)]
theorem zddX12_fewest_36 : dqW lzddX12_fewest_36 (cX12_fewest.data.toList.drop 36) 36 = true := by decide +kernel
theorem dX12_fewest_36 : decode cX12_fewest 36 = .ok (.invokestatic 473, 3) := dq_get (L := lzddX12_fewest_36) 0 rfl zddX12_fewest_36 rfl
theorem dX12_fewest_39 : decode cX12_fewest 39 = .ok (.invokevirtual 81, 3) := dq_get (L := lzddX12_fewest_36) 1 rfl zddX12_fewest_36 rfl
theorem dX12_fewest_42 : decode cX12_fewest 42 = .ok (.ireturn, 1) := dq_get (L := lzddX12_fewest_36) 2 rfl zddX12_fewest_36 rfl
def lzddX12_fewestBy_0 : List (Nat × Instr × Nat) := [(0, .aload_n 0, 1), (1, .iconst 0, 1), (2, .putfield 70, 3), (5, .aload_n 0, 1), (6, .getfield 385, 3), (9, .ifnonnull 11, 3), (12, .aload_n 0, 1), (13, .iconst 1, 1), (14, .invokevirtual 76, 3), (17, .goto 11, 3), (20, .aload_n 0, 1), (21, .aload_n 0, 1), (22, .invokevirtual 482, 3), (25, .invokevirtual 81, 3), (28, .ireturn, 1)]
theorem zddX12_fewestBy_0 : dqW lzddX12_fewestBy_0 (cX12_fewestBy.data.toList.drop 0) 0 = true := by decide +kernel
theorem dX12_fewestBy_0 : decode cX12_fewestBy 0 = .ok (.aload_n 0, 1) := dq_get (L := lzddX12_fewestBy_0) 0 rfl zddX12_fewestBy_0 rfl
theorem dX12_fewestBy_1 : decode cX12_fewestBy 1 = .ok (.iconst 0, 1) := dq_get (L := lzddX12_fewestBy_0) 1 rfl zddX12_fewestBy_0 rfl
theorem dX12_fewestBy_2 : decode cX12_fewestBy 2 = .ok (.putfield 70, 3) := dq_get (L := lzddX12_fewestBy_0) 2 rfl zddX12_fewestBy_0 rfl
theorem dX12_fewestBy_5 : decode cX12_fewestBy 5 = .ok (.aload_n 0, 1) := dq_get (L := lzddX12_fewestBy_0) 3 rfl zddX12_fewestBy_0 rfl
theorem dX12_fewestBy_6 : decode cX12_fewestBy 6 = .ok (.getfield 385, 3) := dq_get (L := lzddX12_fewestBy_0) 4 rfl zddX12_fewestBy_0 rfl
theorem dX12_fewestBy_9 : decode cX12_fewestBy 9 = .ok (.ifnonnull 11, 3) := dq_get (L := lzddX12_fewestBy_0) 5 rfl zddX12_fewestBy_0 rfl
theorem dX12_fewestBy_12 : decode cX12_fewestBy 12 = .ok (.aload_n 0, 1) := dq_get (L := lzddX12_fewestBy_0) 6 rfl zddX12_fewestBy_0 rfl
theorem dX12_fewestBy_13 : decode cX12_fewestBy 13 = .ok (.iconst 1, 1) := dq_get (L := lzddX12_fewestBy_0) 7 rfl zddX12_fewestBy_0 rfl
theorem dX12_fewestBy_14 : decode cX12_fewestBy 14 = .ok (.invokevirtual 76, 3) := dq_get (L := lzddX12_fewestBy_0) 8 rfl zddX12_fewestBy_0 rfl
theorem dX12_fewestBy_17 : decode cX12_fewestBy 17 = .ok (.goto 11, 3) := dq_get (L := lzddX12_fewestBy_0) 9 rfl zddX12_fewestBy_0 rfl
theorem dX12_fewestBy_20 : decode cX12_fewestBy 20 = .ok (.aload_n 0, 1) := dq_get (L := lzddX12_fewestBy_0) 10 rfl zddX12_fewestBy_0 rfl
theorem dX12_fewestBy_21 : decode cX12_fewestBy 21 = .ok (.aload_n 0, 1) := dq_get (L := lzddX12_fewestBy_0) 11 rfl zddX12_fewestBy_0 rfl
theorem dX12_fewestBy_22 : decode cX12_fewestBy 22 = .ok (.invokevirtual 482, 3) := dq_get (L := lzddX12_fewestBy_0) 12 rfl zddX12_fewestBy_0 rfl
theorem dX12_fewestBy_25 : decode cX12_fewestBy 25 = .ok (.invokevirtual 81, 3) := dq_get (L := lzddX12_fewestBy_0) 13 rfl zddX12_fewestBy_0 rfl
theorem dX12_fewestBy_28 : decode cX12_fewestBy 28 = .ok (.ireturn, 1) := dq_get (L := lzddX12_fewestBy_0) 14 rfl zddX12_fewestBy_0 rfl
def lzddX12_fewestNow_0 : List (Nat × Instr × Nat) := [(0, .aload_n 0, 1), (1, .iconst (-1), 1), (2, .invokevirtual 434, 3), (5, .bipush (-2), 2), (7, .istore_n 1, 1), (8, .iconst 0, 1), (9, .istore_n 2, 1), (10, .iload_n 2, 1), (11, .aload_n 0, 1), (12, .invokevirtual 437, 3), (15, .if_icmp .gt 36, 3), (18, .iload_n 1, 1), (19, .bipush (-2), 2), (21, .if_icmp .eq 14, 3), (24, .iload_n 2, 1), (25, .invokestatic 473, 3), (28, .iload_n 1, 1), (29, .invokestatic 473, 3), (32, .if_icmp .ge 13, 3), (35, .aload_n 0, 1)]
theorem zddX12_fewestNow_0 : dqW lzddX12_fewestNow_0 (cX12_fewestNow.data.toList.drop 0) 0 = true := by decide +kernel
theorem dX12_fewestNow_0 : decode cX12_fewestNow 0 = .ok (.aload_n 0, 1) := dq_get (L := lzddX12_fewestNow_0) 0 rfl zddX12_fewestNow_0 rfl
theorem dX12_fewestNow_1 : decode cX12_fewestNow 1 = .ok (.iconst (-1), 1) := dq_get (L := lzddX12_fewestNow_0) 1 rfl zddX12_fewestNow_0 rfl
theorem dX12_fewestNow_2 : decode cX12_fewestNow 2 = .ok (.invokevirtual 434, 3) := dq_get (L := lzddX12_fewestNow_0) 2 rfl zddX12_fewestNow_0 rfl
theorem dX12_fewestNow_5 : decode cX12_fewestNow 5 = .ok (.bipush (-2), 2) := dq_get (L := lzddX12_fewestNow_0) 3 rfl zddX12_fewestNow_0 rfl
theorem dX12_fewestNow_7 : decode cX12_fewestNow 7 = .ok (.istore_n 1, 1) := dq_get (L := lzddX12_fewestNow_0) 4 rfl zddX12_fewestNow_0 rfl
theorem dX12_fewestNow_8 : decode cX12_fewestNow 8 = .ok (.iconst 0, 1) := dq_get (L := lzddX12_fewestNow_0) 5 rfl zddX12_fewestNow_0 rfl
theorem dX12_fewestNow_9 : decode cX12_fewestNow 9 = .ok (.istore_n 2, 1) := dq_get (L := lzddX12_fewestNow_0) 6 rfl zddX12_fewestNow_0 rfl
theorem dX12_fewestNow_10 : decode cX12_fewestNow 10 = .ok (.iload_n 2, 1) := dq_get (L := lzddX12_fewestNow_0) 7 rfl zddX12_fewestNow_0 rfl
theorem dX12_fewestNow_11 : decode cX12_fewestNow 11 = .ok (.aload_n 0, 1) := dq_get (L := lzddX12_fewestNow_0) 8 rfl zddX12_fewestNow_0 rfl
theorem dX12_fewestNow_12 : decode cX12_fewestNow 12 = .ok (.invokevirtual 437, 3) := dq_get (L := lzddX12_fewestNow_0) 9 rfl zddX12_fewestNow_0 rfl
theorem dX12_fewestNow_15 : decode cX12_fewestNow 15 = .ok (.if_icmp .gt 36, 3) := dq_get (L := lzddX12_fewestNow_0) 10 rfl zddX12_fewestNow_0 rfl
theorem dX12_fewestNow_18 : decode cX12_fewestNow 18 = .ok (.iload_n 1, 1) := dq_get (L := lzddX12_fewestNow_0) 11 rfl zddX12_fewestNow_0 rfl
theorem dX12_fewestNow_19 : decode cX12_fewestNow 19 = .ok (.bipush (-2), 2) := dq_get (L := lzddX12_fewestNow_0) 12 rfl zddX12_fewestNow_0 rfl
theorem dX12_fewestNow_21 : decode cX12_fewestNow 21 = .ok (.if_icmp .eq 14, 3) := dq_get (L := lzddX12_fewestNow_0) 13 rfl zddX12_fewestNow_0 rfl
theorem dX12_fewestNow_24 : decode cX12_fewestNow 24 = .ok (.iload_n 2, 1) := dq_get (L := lzddX12_fewestNow_0) 14 rfl zddX12_fewestNow_0 rfl
theorem dX12_fewestNow_25 : decode cX12_fewestNow 25 = .ok (.invokestatic 473, 3) := dq_get (L := lzddX12_fewestNow_0) 15 rfl zddX12_fewestNow_0 rfl
theorem dX12_fewestNow_28 : decode cX12_fewestNow 28 = .ok (.iload_n 1, 1) := dq_get (L := lzddX12_fewestNow_0) 16 rfl zddX12_fewestNow_0 rfl
theorem dX12_fewestNow_29 : decode cX12_fewestNow 29 = .ok (.invokestatic 473, 3) := dq_get (L := lzddX12_fewestNow_0) 17 rfl zddX12_fewestNow_0 rfl
theorem dX12_fewestNow_32 : decode cX12_fewestNow 32 = .ok (.if_icmp .ge 13, 3) := dq_get (L := lzddX12_fewestNow_0) 18 rfl zddX12_fewestNow_0 rfl
theorem dX12_fewestNow_35 : decode cX12_fewestNow 35 = .ok (.aload_n 0, 1) := dq_get (L := lzddX12_fewestNow_0) 19 rfl zddX12_fewestNow_0 rfl
def lzddX12_fewestNow_36 : List (Nat × Instr × Nat) := [(36, .iload_n 2, 1), (37, .invokevirtual 479, 3), (40, .ifCond .eq 5, 3), (43, .iload_n 2, 1), (44, .istore_n 1, 1), (45, .iinc 2 1, 3), (48, .goto (-38), 3), (51, .iload_n 1, 1), (52, .ireturn, 1)]
theorem zddX12_fewestNow_36 : dqW lzddX12_fewestNow_36 (cX12_fewestNow.data.toList.drop 36) 36 = true := by decide +kernel
theorem dX12_fewestNow_36 : decode cX12_fewestNow 36 = .ok (.iload_n 2, 1) := dq_get (L := lzddX12_fewestNow_36) 0 rfl zddX12_fewestNow_36 rfl
theorem dX12_fewestNow_37 : decode cX12_fewestNow 37 = .ok (.invokevirtual 479, 3) := dq_get (L := lzddX12_fewestNow_36) 1 rfl zddX12_fewestNow_36 rfl
theorem dX12_fewestNow_40 : decode cX12_fewestNow 40 = .ok (.ifCond .eq 5, 3) := dq_get (L := lzddX12_fewestNow_36) 2 rfl zddX12_fewestNow_36 rfl
theorem dX12_fewestNow_43 : decode cX12_fewestNow 43 = .ok (.iload_n 2, 1) := dq_get (L := lzddX12_fewestNow_36) 3 rfl zddX12_fewestNow_36 rfl
theorem dX12_fewestNow_44 : decode cX12_fewestNow 44 = .ok (.istore_n 1, 1) := dq_get (L := lzddX12_fewestNow_36) 4 rfl zddX12_fewestNow_36 rfl
theorem dX12_fewestNow_45 : decode cX12_fewestNow 45 = .ok (.iinc 2 1, 3) := dq_get (L := lzddX12_fewestNow_36) 5 rfl zddX12_fewestNow_36 rfl
theorem dX12_fewestNow_48 : decode cX12_fewestNow 48 = .ok (.goto (-38), 3) := dq_get (L := lzddX12_fewestNow_36) 6 rfl zddX12_fewestNow_36 rfl
theorem dX12_fewestNow_51 : decode cX12_fewestNow 51 = .ok (.iload_n 1, 1) := dq_get (L := lzddX12_fewestNow_36) 7 rfl zddX12_fewestNow_36 rfl
theorem dX12_fewestNow_52 : decode cX12_fewestNow 52 = .ok (.ireturn, 1) := dq_get (L := lzddX12_fewestNow_36) 8 rfl zddX12_fewestNow_36 rfl
def lzddX12_fits_0 : List (Nat × Instr × Nat) := [(0, .aload_n 0, 1), (1, .iconst 0, 1), (2, .putfield 70, 3), (5, .aload_n 0, 1), (6, .iload_n 1, 1), (7, .invokevirtual 485, 3), (10, .ifCond .ne 9, 3), (13, .aload_n 0, 1), (14, .iconst 1, 1), (15, .invokevirtual 76, 3), (18, .ireturn, 1), (19, .aload_n 0, 1), (20, .invokevirtual 455, 3), (23, .pop, 1), (24, .aload_n 0, 1), (25, .aload_n 0, 1), (26, .iload_n 1, 1), (27, .invokevirtual 488, 3), (30, .invokevirtual 81, 3), (33, .ireturn, 1)]
theorem zddX12_fits_0 : dqW lzddX12_fits_0 (cX12_fits.data.toList.drop 0) 0 = true := by decide +kernel
theorem dX12_fits_0 : decode cX12_fits 0 = .ok (.aload_n 0, 1) := dq_get (L := lzddX12_fits_0) 0 rfl zddX12_fits_0 rfl
theorem dX12_fits_1 : decode cX12_fits 1 = .ok (.iconst 0, 1) := dq_get (L := lzddX12_fits_0) 1 rfl zddX12_fits_0 rfl
theorem dX12_fits_2 : decode cX12_fits 2 = .ok (.putfield 70, 3) := dq_get (L := lzddX12_fits_0) 2 rfl zddX12_fits_0 rfl
theorem dX12_fits_5 : decode cX12_fits 5 = .ok (.aload_n 0, 1) := dq_get (L := lzddX12_fits_0) 3 rfl zddX12_fits_0 rfl
theorem dX12_fits_6 : decode cX12_fits 6 = .ok (.iload_n 1, 1) := dq_get (L := lzddX12_fits_0) 4 rfl zddX12_fits_0 rfl
theorem dX12_fits_7 : decode cX12_fits 7 = .ok (.invokevirtual 485, 3) := dq_get (L := lzddX12_fits_0) 5 rfl zddX12_fits_0 rfl
theorem dX12_fits_10 : decode cX12_fits 10 = .ok (.ifCond .ne 9, 3) := dq_get (L := lzddX12_fits_0) 6 rfl zddX12_fits_0 rfl
theorem dX12_fits_13 : decode cX12_fits 13 = .ok (.aload_n 0, 1) := dq_get (L := lzddX12_fits_0) 7 rfl zddX12_fits_0 rfl
theorem dX12_fits_14 : decode cX12_fits 14 = .ok (.iconst 1, 1) := dq_get (L := lzddX12_fits_0) 8 rfl zddX12_fits_0 rfl
theorem dX12_fits_15 : decode cX12_fits 15 = .ok (.invokevirtual 76, 3) := dq_get (L := lzddX12_fits_0) 9 rfl zddX12_fits_0 rfl
theorem dX12_fits_18 : decode cX12_fits 18 = .ok (.ireturn, 1) := dq_get (L := lzddX12_fits_0) 10 rfl zddX12_fits_0 rfl
theorem dX12_fits_19 : decode cX12_fits 19 = .ok (.aload_n 0, 1) := dq_get (L := lzddX12_fits_0) 11 rfl zddX12_fits_0 rfl
theorem dX12_fits_20 : decode cX12_fits 20 = .ok (.invokevirtual 455, 3) := dq_get (L := lzddX12_fits_0) 12 rfl zddX12_fits_0 rfl
theorem dX12_fits_23 : decode cX12_fits 23 = .ok (.pop, 1) := dq_get (L := lzddX12_fits_0) 13 rfl zddX12_fits_0 rfl
theorem dX12_fits_24 : decode cX12_fits 24 = .ok (.aload_n 0, 1) := dq_get (L := lzddX12_fits_0) 14 rfl zddX12_fits_0 rfl
theorem dX12_fits_25 : decode cX12_fits 25 = .ok (.aload_n 0, 1) := dq_get (L := lzddX12_fits_0) 15 rfl zddX12_fits_0 rfl
theorem dX12_fits_26 : decode cX12_fits 26 = .ok (.iload_n 1, 1) := dq_get (L := lzddX12_fits_0) 16 rfl zddX12_fits_0 rfl
theorem dX12_fits_27 : decode cX12_fits 27 = .ok (.invokevirtual 488, 3) := dq_get (L := lzddX12_fits_0) 17 rfl zddX12_fits_0 rfl
theorem dX12_fits_30 : decode cX12_fits 30 = .ok (.invokevirtual 81, 3) := dq_get (L := lzddX12_fits_0) 18 rfl zddX12_fits_0 rfl
theorem dX12_fits_33 : decode cX12_fits 33 = .ok (.ireturn, 1) := dq_get (L := lzddX12_fits_0) 19 rfl zddX12_fits_0 rfl
def lzddX12_fitsNow_0 : List (Nat × Instr × Nat) := [(0, .iconst 0, 1), (1, .istore_n 2, 1), (2, .iconst 0, 1), (3, .istore_n 3, 1), (4, .iload_n 3, 1), (5, .aload_n 0, 1), (6, .getfield 385, 3), (9, .getfield 224, 3), (12, .if_icmp .ge 122, 3), (15, .aload_n 0, 1), (16, .getfield 52, 3), (19, .iload_n 3, 1), (20, .iaload, 1), (21, .aload_n 0, 1), (22, .getfield 58, 3), (25, .iload_n 3, 1), (26, .iaload, 1), (27, .iadd, 1), (28, .aload_n 0, 1), (29, .getfield 385, 3)]
theorem zddX12_fitsNow_0 : dqW lzddX12_fitsNow_0 (cX12_fitsNow.data.toList.drop 0) 0 = true := by decide +kernel
theorem dX12_fitsNow_0 : decode cX12_fitsNow 0 = .ok (.iconst 0, 1) := dq_get (L := lzddX12_fitsNow_0) 0 rfl zddX12_fitsNow_0 rfl
theorem dX12_fitsNow_1 : decode cX12_fitsNow 1 = .ok (.istore_n 2, 1) := dq_get (L := lzddX12_fitsNow_0) 1 rfl zddX12_fitsNow_0 rfl
theorem dX12_fitsNow_2 : decode cX12_fitsNow 2 = .ok (.iconst 0, 1) := dq_get (L := lzddX12_fitsNow_0) 2 rfl zddX12_fitsNow_0 rfl
theorem dX12_fitsNow_3 : decode cX12_fitsNow 3 = .ok (.istore_n 3, 1) := dq_get (L := lzddX12_fitsNow_0) 3 rfl zddX12_fitsNow_0 rfl
theorem dX12_fitsNow_4 : decode cX12_fitsNow 4 = .ok (.iload_n 3, 1) := dq_get (L := lzddX12_fitsNow_0) 4 rfl zddX12_fitsNow_0 rfl
theorem dX12_fitsNow_5 : decode cX12_fitsNow 5 = .ok (.aload_n 0, 1) := dq_get (L := lzddX12_fitsNow_0) 5 rfl zddX12_fitsNow_0 rfl
theorem dX12_fitsNow_6 : decode cX12_fitsNow 6 = .ok (.getfield 385, 3) := dq_get (L := lzddX12_fitsNow_0) 6 rfl zddX12_fitsNow_0 rfl
theorem dX12_fitsNow_9 : decode cX12_fitsNow 9 = .ok (.getfield 224, 3) := dq_get (L := lzddX12_fitsNow_0) 7 rfl zddX12_fitsNow_0 rfl
theorem dX12_fitsNow_12 : decode cX12_fitsNow 12 = .ok (.if_icmp .ge 122, 3) := dq_get (L := lzddX12_fitsNow_0) 8 rfl zddX12_fitsNow_0 rfl
theorem dX12_fitsNow_15 : decode cX12_fitsNow 15 = .ok (.aload_n 0, 1) := dq_get (L := lzddX12_fitsNow_0) 9 rfl zddX12_fitsNow_0 rfl
theorem dX12_fitsNow_16 : decode cX12_fitsNow 16 = .ok (.getfield 52, 3) := dq_get (L := lzddX12_fitsNow_0) 10 rfl zddX12_fitsNow_0 rfl
theorem dX12_fitsNow_19 : decode cX12_fitsNow 19 = .ok (.iload_n 3, 1) := dq_get (L := lzddX12_fitsNow_0) 11 rfl zddX12_fitsNow_0 rfl
theorem dX12_fitsNow_20 : decode cX12_fitsNow 20 = .ok (.iaload, 1) := dq_get (L := lzddX12_fitsNow_0) 12 rfl zddX12_fitsNow_0 rfl
theorem dX12_fitsNow_21 : decode cX12_fitsNow 21 = .ok (.aload_n 0, 1) := dq_get (L := lzddX12_fitsNow_0) 13 rfl zddX12_fitsNow_0 rfl
theorem dX12_fitsNow_22 : decode cX12_fitsNow 22 = .ok (.getfield 58, 3) := dq_get (L := lzddX12_fitsNow_0) 14 rfl zddX12_fitsNow_0 rfl
theorem dX12_fitsNow_25 : decode cX12_fitsNow 25 = .ok (.iload_n 3, 1) := dq_get (L := lzddX12_fitsNow_0) 15 rfl zddX12_fitsNow_0 rfl
theorem dX12_fitsNow_26 : decode cX12_fitsNow 26 = .ok (.iaload, 1) := dq_get (L := lzddX12_fitsNow_0) 16 rfl zddX12_fitsNow_0 rfl
theorem dX12_fitsNow_27 : decode cX12_fitsNow 27 = .ok (.iadd, 1) := dq_get (L := lzddX12_fitsNow_0) 17 rfl zddX12_fitsNow_0 rfl
theorem dX12_fitsNow_28 : decode cX12_fitsNow 28 = .ok (.aload_n 0, 1) := dq_get (L := lzddX12_fitsNow_0) 18 rfl zddX12_fitsNow_0 rfl
theorem dX12_fitsNow_29 : decode cX12_fitsNow 29 = .ok (.getfield 385, 3) := dq_get (L := lzddX12_fitsNow_0) 19 rfl zddX12_fitsNow_0 rfl
def lzddX12_fitsNow_32 : List (Nat × Instr × Nat) := [(32, .getfield 375, 3), (35, .iload_n 1, 1), (36, .iaload, 1), (37, .if_icmp .ne 7, 3), (40, .iconst 1, 1), (41, .goto 4, 3), (44, .iconst 0, 1), (45, .istore 4, 2), (47, .iconst 0, 1), (48, .istore 5, 2), (50, .iload 5, 2), (52, .aload_n 0, 1), (53, .getfield 385, 3), (56, .getfield 375, 3), (59, .iload_n 1, 1), (60, .iaload, 1), (61, .if_icmp .ge 52, 3), (64, .iload 4, 2), (66, .ifCond .eq 38, 3), (69, .aload_n 0, 1)]
theorem zddX12_fitsNow_32 : dqW lzddX12_fitsNow_32 (cX12_fitsNow.data.toList.drop 32) 32 = true := by decide +kernel
theorem dX12_fitsNow_32 : decode cX12_fitsNow 32 = .ok (.getfield 375, 3) := dq_get (L := lzddX12_fitsNow_32) 0 rfl zddX12_fitsNow_32 rfl
theorem dX12_fitsNow_35 : decode cX12_fitsNow 35 = .ok (.iload_n 1, 1) := dq_get (L := lzddX12_fitsNow_32) 1 rfl zddX12_fitsNow_32 rfl
theorem dX12_fitsNow_36 : decode cX12_fitsNow 36 = .ok (.iaload, 1) := dq_get (L := lzddX12_fitsNow_32) 2 rfl zddX12_fitsNow_32 rfl
theorem dX12_fitsNow_37 : decode cX12_fitsNow 37 = .ok (.if_icmp .ne 7, 3) := dq_get (L := lzddX12_fitsNow_32) 3 rfl zddX12_fitsNow_32 rfl
theorem dX12_fitsNow_40 : decode cX12_fitsNow 40 = .ok (.iconst 1, 1) := dq_get (L := lzddX12_fitsNow_32) 4 rfl zddX12_fitsNow_32 rfl
theorem dX12_fitsNow_41 : decode cX12_fitsNow 41 = .ok (.goto 4, 3) := dq_get (L := lzddX12_fitsNow_32) 5 rfl zddX12_fitsNow_32 rfl
theorem dX12_fitsNow_44 : decode cX12_fitsNow 44 = .ok (.iconst 0, 1) := dq_get (L := lzddX12_fitsNow_32) 6 rfl zddX12_fitsNow_32 rfl
theorem dX12_fitsNow_45 : decode cX12_fitsNow 45 = .ok (.istore 4, 2) := dq_get (L := lzddX12_fitsNow_32) 7 rfl zddX12_fitsNow_32 rfl
theorem dX12_fitsNow_47 : decode cX12_fitsNow 47 = .ok (.iconst 0, 1) := dq_get (L := lzddX12_fitsNow_32) 8 rfl zddX12_fitsNow_32 rfl
theorem dX12_fitsNow_48 : decode cX12_fitsNow 48 = .ok (.istore 5, 2) := dq_get (L := lzddX12_fitsNow_32) 9 rfl zddX12_fitsNow_32 rfl
theorem dX12_fitsNow_50 : decode cX12_fitsNow 50 = .ok (.iload 5, 2) := dq_get (L := lzddX12_fitsNow_32) 10 rfl zddX12_fitsNow_32 rfl
theorem dX12_fitsNow_52 : decode cX12_fitsNow 52 = .ok (.aload_n 0, 1) := dq_get (L := lzddX12_fitsNow_32) 11 rfl zddX12_fitsNow_32 rfl
theorem dX12_fitsNow_53 : decode cX12_fitsNow 53 = .ok (.getfield 385, 3) := dq_get (L := lzddX12_fitsNow_32) 12 rfl zddX12_fitsNow_32 rfl
theorem dX12_fitsNow_56 : decode cX12_fitsNow 56 = .ok (.getfield 375, 3) := dq_get (L := lzddX12_fitsNow_32) 13 rfl zddX12_fitsNow_32 rfl
theorem dX12_fitsNow_59 : decode cX12_fitsNow 59 = .ok (.iload_n 1, 1) := dq_get (L := lzddX12_fitsNow_32) 14 rfl zddX12_fitsNow_32 rfl
theorem dX12_fitsNow_60 : decode cX12_fitsNow 60 = .ok (.iaload, 1) := dq_get (L := lzddX12_fitsNow_32) 15 rfl zddX12_fitsNow_32 rfl
theorem dX12_fitsNow_61 : decode cX12_fitsNow 61 = .ok (.if_icmp .ge 52, 3) := dq_get (L := lzddX12_fitsNow_32) 16 rfl zddX12_fitsNow_32 rfl
theorem dX12_fitsNow_64 : decode cX12_fitsNow 64 = .ok (.iload 4, 2) := dq_get (L := lzddX12_fitsNow_32) 17 rfl zddX12_fitsNow_32 rfl
theorem dX12_fitsNow_66 : decode cX12_fitsNow 66 = .ok (.ifCond .eq 38, 3) := dq_get (L := lzddX12_fitsNow_32) 18 rfl zddX12_fitsNow_32 rfl
theorem dX12_fitsNow_69 : decode cX12_fitsNow 69 = .ok (.aload_n 0, 1) := dq_get (L := lzddX12_fitsNow_32) 19 rfl zddX12_fitsNow_32 rfl
def lzddX12_fitsNow_70 : List (Nat × Instr × Nat) := [(70, .getfield 46, 3), (73, .sipush 240, 3), (76, .iload_n 3, 1), (77, .imul, 1), (78, .aload_n 0, 1), (79, .getfield 385, 3), (82, .getfield 373, 3), (85, .bipush 8, 2), (87, .iload_n 1, 1), (88, .imul, 1), (89, .iload 5, 2), (91, .iadd, 1), (92, .iaload, 1), (93, .iadd, 1), (94, .iaload, 1), (95, .bipush (-2), 2), (97, .if_icmp .eq 7, 3), (100, .iconst 1, 1), (101, .goto 4, 3), (104, .iconst 0, 1)]
theorem zddX12_fitsNow_70 : dqW lzddX12_fitsNow_70 (cX12_fitsNow.data.toList.drop 70) 70 = true := by decide +kernel
theorem dX12_fitsNow_70 : decode cX12_fitsNow 70 = .ok (.getfield 46, 3) := dq_get (L := lzddX12_fitsNow_70) 0 rfl zddX12_fitsNow_70 rfl
theorem dX12_fitsNow_73 : decode cX12_fitsNow 73 = .ok (.sipush 240, 3) := dq_get (L := lzddX12_fitsNow_70) 1 rfl zddX12_fitsNow_70 rfl
theorem dX12_fitsNow_76 : decode cX12_fitsNow 76 = .ok (.iload_n 3, 1) := dq_get (L := lzddX12_fitsNow_70) 2 rfl zddX12_fitsNow_70 rfl
theorem dX12_fitsNow_77 : decode cX12_fitsNow 77 = .ok (.imul, 1) := dq_get (L := lzddX12_fitsNow_70) 3 rfl zddX12_fitsNow_70 rfl
theorem dX12_fitsNow_78 : decode cX12_fitsNow 78 = .ok (.aload_n 0, 1) := dq_get (L := lzddX12_fitsNow_70) 4 rfl zddX12_fitsNow_70 rfl
theorem dX12_fitsNow_79 : decode cX12_fitsNow 79 = .ok (.getfield 385, 3) := dq_get (L := lzddX12_fitsNow_70) 5 rfl zddX12_fitsNow_70 rfl
theorem dX12_fitsNow_82 : decode cX12_fitsNow 82 = .ok (.getfield 373, 3) := dq_get (L := lzddX12_fitsNow_70) 6 rfl zddX12_fitsNow_70 rfl
theorem dX12_fitsNow_85 : decode cX12_fitsNow 85 = .ok (.bipush 8, 2) := dq_get (L := lzddX12_fitsNow_70) 7 rfl zddX12_fitsNow_70 rfl
theorem dX12_fitsNow_87 : decode cX12_fitsNow 87 = .ok (.iload_n 1, 1) := dq_get (L := lzddX12_fitsNow_70) 8 rfl zddX12_fitsNow_70 rfl
theorem dX12_fitsNow_88 : decode cX12_fitsNow 88 = .ok (.imul, 1) := dq_get (L := lzddX12_fitsNow_70) 9 rfl zddX12_fitsNow_70 rfl
theorem dX12_fitsNow_89 : decode cX12_fitsNow 89 = .ok (.iload 5, 2) := dq_get (L := lzddX12_fitsNow_70) 10 rfl zddX12_fitsNow_70 rfl
theorem dX12_fitsNow_91 : decode cX12_fitsNow 91 = .ok (.iadd, 1) := dq_get (L := lzddX12_fitsNow_70) 11 rfl zddX12_fitsNow_70 rfl
theorem dX12_fitsNow_92 : decode cX12_fitsNow 92 = .ok (.iaload, 1) := dq_get (L := lzddX12_fitsNow_70) 12 rfl zddX12_fitsNow_70 rfl
theorem dX12_fitsNow_93 : decode cX12_fitsNow 93 = .ok (.iadd, 1) := dq_get (L := lzddX12_fitsNow_70) 13 rfl zddX12_fitsNow_70 rfl
theorem dX12_fitsNow_94 : decode cX12_fitsNow 94 = .ok (.iaload, 1) := dq_get (L := lzddX12_fitsNow_70) 14 rfl zddX12_fitsNow_70 rfl
theorem dX12_fitsNow_95 : decode cX12_fitsNow 95 = .ok (.bipush (-2), 2) := dq_get (L := lzddX12_fitsNow_70) 15 rfl zddX12_fitsNow_70 rfl
theorem dX12_fitsNow_97 : decode cX12_fitsNow 97 = .ok (.if_icmp .eq 7, 3) := dq_get (L := lzddX12_fitsNow_70) 16 rfl zddX12_fitsNow_70 rfl
theorem dX12_fitsNow_100 : decode cX12_fitsNow 100 = .ok (.iconst 1, 1) := dq_get (L := lzddX12_fitsNow_70) 17 rfl zddX12_fitsNow_70 rfl
theorem dX12_fitsNow_101 : decode cX12_fitsNow 101 = .ok (.goto 4, 3) := dq_get (L := lzddX12_fitsNow_70) 18 rfl zddX12_fitsNow_70 rfl
theorem dX12_fitsNow_104 : decode cX12_fitsNow 104 = .ok (.iconst 0, 1) := dq_get (L := lzddX12_fitsNow_70) 19 rfl zddX12_fitsNow_70 rfl
def lzddX12_fitsNow_105 : List (Nat × Instr × Nat) := [(105, .istore 4, 2), (107, .iinc 5 1, 3), (110, .goto (-60), 3), (113, .iload_n 2, 1), (114, .iload 4, 2), (116, .ifCond .eq 9, 3), (119, .iconst 1, 1), (120, .iload_n 3, 1), (121, .ishl, 1), (122, .goto 4, 3), (125, .iconst 0, 1), (126, .ior, 1), (127, .istore_n 2, 1), (128, .iinc 3 1, 3), (131, .goto (-127), 3), (134, .iload_n 2, 1), (135, .ireturn, 1)]
theorem zddX12_fitsNow_105 : dqW lzddX12_fitsNow_105 (cX12_fitsNow.data.toList.drop 105) 105 = true := by decide +kernel
theorem dX12_fitsNow_105 : decode cX12_fitsNow 105 = .ok (.istore 4, 2) := dq_get (L := lzddX12_fitsNow_105) 0 rfl zddX12_fitsNow_105 rfl
theorem dX12_fitsNow_107 : decode cX12_fitsNow 107 = .ok (.iinc 5 1, 3) := dq_get (L := lzddX12_fitsNow_105) 1 rfl zddX12_fitsNow_105 rfl
theorem dX12_fitsNow_110 : decode cX12_fitsNow 110 = .ok (.goto (-60), 3) := dq_get (L := lzddX12_fitsNow_105) 2 rfl zddX12_fitsNow_105 rfl
theorem dX12_fitsNow_113 : decode cX12_fitsNow 113 = .ok (.iload_n 2, 1) := dq_get (L := lzddX12_fitsNow_105) 3 rfl zddX12_fitsNow_105 rfl
theorem dX12_fitsNow_114 : decode cX12_fitsNow 114 = .ok (.iload 4, 2) := dq_get (L := lzddX12_fitsNow_105) 4 rfl zddX12_fitsNow_105 rfl
theorem dX12_fitsNow_116 : decode cX12_fitsNow 116 = .ok (.ifCond .eq 9, 3) := dq_get (L := lzddX12_fitsNow_105) 5 rfl zddX12_fitsNow_105 rfl
theorem dX12_fitsNow_119 : decode cX12_fitsNow 119 = .ok (.iconst 1, 1) := dq_get (L := lzddX12_fitsNow_105) 6 rfl zddX12_fitsNow_105 rfl
theorem dX12_fitsNow_120 : decode cX12_fitsNow 120 = .ok (.iload_n 3, 1) := dq_get (L := lzddX12_fitsNow_105) 7 rfl zddX12_fitsNow_105 rfl
theorem dX12_fitsNow_121 : decode cX12_fitsNow 121 = .ok (.ishl, 1) := dq_get (L := lzddX12_fitsNow_105) 8 rfl zddX12_fitsNow_105 rfl
theorem dX12_fitsNow_122 : decode cX12_fitsNow 122 = .ok (.goto 4, 3) := dq_get (L := lzddX12_fitsNow_105) 9 rfl zddX12_fitsNow_105 rfl
theorem dX12_fitsNow_125 : decode cX12_fitsNow 125 = .ok (.iconst 0, 1) := dq_get (L := lzddX12_fitsNow_105) 10 rfl zddX12_fitsNow_105 rfl
theorem dX12_fitsNow_126 : decode cX12_fitsNow 126 = .ok (.ior, 1) := dq_get (L := lzddX12_fitsNow_105) 11 rfl zddX12_fitsNow_105 rfl
theorem dX12_fitsNow_127 : decode cX12_fitsNow 127 = .ok (.istore_n 2, 1) := dq_get (L := lzddX12_fitsNow_105) 12 rfl zddX12_fitsNow_105 rfl
theorem dX12_fitsNow_128 : decode cX12_fitsNow 128 = .ok (.iinc 3 1, 3) := dq_get (L := lzddX12_fitsNow_105) 13 rfl zddX12_fitsNow_105 rfl
theorem dX12_fitsNow_131 : decode cX12_fitsNow 131 = .ok (.goto (-127), 3) := dq_get (L := lzddX12_fitsNow_105) 14 rfl zddX12_fitsNow_105 rfl
theorem dX12_fitsNow_134 : decode cX12_fitsNow 134 = .ok (.iload_n 2, 1) := dq_get (L := lzddX12_fitsNow_105) 15 rfl zddX12_fitsNow_105 rfl
theorem dX12_fitsNow_135 : decode cX12_fitsNow 135 = .ok (.ireturn, 1) := dq_get (L := lzddX12_fitsNow_105) 16 rfl zddX12_fitsNow_105 rfl
def lzddX12_flaw_0 : List (Nat × Instr × Nat) := [(0, .aload_n 0, 1), (1, .getfield 99, 3), (4, .iconst 5, 1), (5, .if_icmp .ne 4, 3), (8, .return_, 1), (9, .aload_n 0, 1), (10, .iload_n 1, 1), (11, .putfield 128, 3), (14, .aload_n 0, 1), (15, .aload_n 0, 1), (16, .getfield 108, 3), (19, .putfield 131, 3), (22, .aload_n 0, 1), (23, .iconst 5, 1), (24, .putfield 99, 3), (27, .return_, 1)]
theorem zddX12_flaw_0 : dqW lzddX12_flaw_0 (cX12_flaw.data.toList.drop 0) 0 = true := by decide +kernel
theorem dX12_flaw_0 : decode cX12_flaw 0 = .ok (.aload_n 0, 1) := dq_get (L := lzddX12_flaw_0) 0 rfl zddX12_flaw_0 rfl
theorem dX12_flaw_1 : decode cX12_flaw 1 = .ok (.getfield 99, 3) := dq_get (L := lzddX12_flaw_0) 1 rfl zddX12_flaw_0 rfl
theorem dX12_flaw_4 : decode cX12_flaw 4 = .ok (.iconst 5, 1) := dq_get (L := lzddX12_flaw_0) 2 rfl zddX12_flaw_0 rfl
theorem dX12_flaw_5 : decode cX12_flaw 5 = .ok (.if_icmp .ne 4, 3) := dq_get (L := lzddX12_flaw_0) 3 rfl zddX12_flaw_0 rfl
theorem dX12_flaw_8 : decode cX12_flaw 8 = .ok (.return_, 1) := dq_get (L := lzddX12_flaw_0) 4 rfl zddX12_flaw_0 rfl
theorem dX12_flaw_9 : decode cX12_flaw 9 = .ok (.aload_n 0, 1) := dq_get (L := lzddX12_flaw_0) 5 rfl zddX12_flaw_0 rfl
theorem dX12_flaw_10 : decode cX12_flaw 10 = .ok (.iload_n 1, 1) := dq_get (L := lzddX12_flaw_0) 6 rfl zddX12_flaw_0 rfl
theorem dX12_flaw_11 : decode cX12_flaw 11 = .ok (.putfield 128, 3) := dq_get (L := lzddX12_flaw_0) 7 rfl zddX12_flaw_0 rfl
theorem dX12_flaw_14 : decode cX12_flaw 14 = .ok (.aload_n 0, 1) := dq_get (L := lzddX12_flaw_0) 8 rfl zddX12_flaw_0 rfl
theorem dX12_flaw_15 : decode cX12_flaw 15 = .ok (.aload_n 0, 1) := dq_get (L := lzddX12_flaw_0) 9 rfl zddX12_flaw_0 rfl
theorem dX12_flaw_16 : decode cX12_flaw 16 = .ok (.getfield 108, 3) := dq_get (L := lzddX12_flaw_0) 10 rfl zddX12_flaw_0 rfl
theorem dX12_flaw_19 : decode cX12_flaw 19 = .ok (.putfield 131, 3) := dq_get (L := lzddX12_flaw_0) 11 rfl zddX12_flaw_0 rfl
theorem dX12_flaw_22 : decode cX12_flaw 22 = .ok (.aload_n 0, 1) := dq_get (L := lzddX12_flaw_0) 12 rfl zddX12_flaw_0 rfl
theorem dX12_flaw_23 : decode cX12_flaw 23 = .ok (.iconst 5, 1) := dq_get (L := lzddX12_flaw_0) 13 rfl zddX12_flaw_0 rfl
theorem dX12_flaw_24 : decode cX12_flaw 24 = .ok (.putfield 99, 3) := dq_get (L := lzddX12_flaw_0) 14 rfl zddX12_flaw_0 rfl
theorem dX12_flaw_27 : decode cX12_flaw 27 = .ok (.return_, 1) := dq_get (L := lzddX12_flaw_0) 15 rfl zddX12_flaw_0 rfl
def lzddX12_fromOf_0 : List (Nat × Instr × Nat) := [(0, .iload_n 1, 1), (1, .aload_n 0, 1), (2, .getfield 385, 3), (5, .getfield 265, 3), (8, .if_icmp .ge 15, 3), (11, .aload_n 0, 1), (12, .getfield 385, 3), (15, .getfield 280, 3), (18, .iload_n 1, 1), (19, .iaload, 1), (20, .goto 19, 3), (23, .aload_n 0, 1), (24, .getfield 17, 3), (27, .iconst 3, 1), (28, .iload_n 1, 1), (29, .iadd, 1), (30, .aload_n 0, 1), (31, .getfield 385, 3), (34, .getfield 265, 3), (37, .isub, 1)]
theorem zddX12_fromOf_0 : dqW lzddX12_fromOf_0 (cX12_fromOf.data.toList.drop 0) 0 = true := by decide +kernel
theorem dX12_fromOf_0 : decode cX12_fromOf 0 = .ok (.iload_n 1, 1) := dq_get (L := lzddX12_fromOf_0) 0 rfl zddX12_fromOf_0 rfl
theorem dX12_fromOf_1 : decode cX12_fromOf 1 = .ok (.aload_n 0, 1) := dq_get (L := lzddX12_fromOf_0) 1 rfl zddX12_fromOf_0 rfl
theorem dX12_fromOf_2 : decode cX12_fromOf 2 = .ok (.getfield 385, 3) := dq_get (L := lzddX12_fromOf_0) 2 rfl zddX12_fromOf_0 rfl
theorem dX12_fromOf_5 : decode cX12_fromOf 5 = .ok (.getfield 265, 3) := dq_get (L := lzddX12_fromOf_0) 3 rfl zddX12_fromOf_0 rfl
theorem dX12_fromOf_8 : decode cX12_fromOf 8 = .ok (.if_icmp .ge 15, 3) := dq_get (L := lzddX12_fromOf_0) 4 rfl zddX12_fromOf_0 rfl
theorem dX12_fromOf_11 : decode cX12_fromOf 11 = .ok (.aload_n 0, 1) := dq_get (L := lzddX12_fromOf_0) 5 rfl zddX12_fromOf_0 rfl
theorem dX12_fromOf_12 : decode cX12_fromOf 12 = .ok (.getfield 385, 3) := dq_get (L := lzddX12_fromOf_0) 6 rfl zddX12_fromOf_0 rfl
theorem dX12_fromOf_15 : decode cX12_fromOf 15 = .ok (.getfield 280, 3) := dq_get (L := lzddX12_fromOf_0) 7 rfl zddX12_fromOf_0 rfl
theorem dX12_fromOf_18 : decode cX12_fromOf 18 = .ok (.iload_n 1, 1) := dq_get (L := lzddX12_fromOf_0) 8 rfl zddX12_fromOf_0 rfl
theorem dX12_fromOf_19 : decode cX12_fromOf 19 = .ok (.iaload, 1) := dq_get (L := lzddX12_fromOf_0) 9 rfl zddX12_fromOf_0 rfl
theorem dX12_fromOf_20 : decode cX12_fromOf 20 = .ok (.goto 19, 3) := dq_get (L := lzddX12_fromOf_0) 10 rfl zddX12_fromOf_0 rfl
theorem dX12_fromOf_23 : decode cX12_fromOf 23 = .ok (.aload_n 0, 1) := dq_get (L := lzddX12_fromOf_0) 11 rfl zddX12_fromOf_0 rfl
theorem dX12_fromOf_24 : decode cX12_fromOf 24 = .ok (.getfield 17, 3) := dq_get (L := lzddX12_fromOf_0) 12 rfl zddX12_fromOf_0 rfl
theorem dX12_fromOf_27 : decode cX12_fromOf 27 = .ok (.iconst 3, 1) := dq_get (L := lzddX12_fromOf_0) 13 rfl zddX12_fromOf_0 rfl
theorem dX12_fromOf_28 : decode cX12_fromOf 28 = .ok (.iload_n 1, 1) := dq_get (L := lzddX12_fromOf_0) 14 rfl zddX12_fromOf_0 rfl
theorem dX12_fromOf_29 : decode cX12_fromOf 29 = .ok (.iadd, 1) := dq_get (L := lzddX12_fromOf_0) 15 rfl zddX12_fromOf_0 rfl
theorem dX12_fromOf_30 : decode cX12_fromOf 30 = .ok (.aload_n 0, 1) := dq_get (L := lzddX12_fromOf_0) 16 rfl zddX12_fromOf_0 rfl
theorem dX12_fromOf_31 : decode cX12_fromOf 31 = .ok (.getfield 385, 3) := dq_get (L := lzddX12_fromOf_0) 17 rfl zddX12_fromOf_0 rfl
theorem dX12_fromOf_34 : decode cX12_fromOf 34 = .ok (.getfield 265, 3) := dq_get (L := lzddX12_fromOf_0) 18 rfl zddX12_fromOf_0 rfl
theorem dX12_fromOf_37 : decode cX12_fromOf 37 = .ok (.isub, 1) := dq_get (L := lzddX12_fromOf_0) 19 rfl zddX12_fromOf_0 rfl
def lzddX12_fromOf_38 : List (Nat × Instr × Nat) := [(38, .iaload, 1), (39, .ireturn, 1)]
theorem zddX12_fromOf_38 : dqW lzddX12_fromOf_38 (cX12_fromOf.data.toList.drop 38) 38 = true := by decide +kernel
theorem dX12_fromOf_38 : decode cX12_fromOf 38 = .ok (.iaload, 1) := dq_get (L := lzddX12_fromOf_38) 0 rfl zddX12_fromOf_38 rfl
theorem dX12_fromOf_39 : decode cX12_fromOf 39 = .ok (.ireturn, 1) := dq_get (L := lzddX12_fromOf_38) 1 rfl zddX12_fromOf_38 rfl
def lzddX12_goes_0 : List (Nat × Instr × Nat) := [(0, .iconst 0, 1), (1, .istore_n 3, 1), (2, .iload_n 3, 1), (3, .aload_n 0, 1), (4, .getfield 385, 3), (7, .getfield 315, 3), (10, .if_icmp .ge 16, 3), (13, .aload_n 0, 1), (14, .getfield 49, 3), (17, .iload_n 3, 1), (18, .iconst 0, 1), (19, .iastore, 1), (20, .iinc 3 1, 3), (23, .goto (-21), 3), (26, .iconst 0, 1), (27, .istore_n 3, 1), (28, .iload_n 3, 1), (29, .aload_n 0, 1), (30, .getfield 385, 3), (33, .getfield 224, 3)]
theorem zddX12_goes_0 : dqW lzddX12_goes_0 (cX12_goes.data.toList.drop 0) 0 = true := by decide +kernel
theorem dX12_goes_0 : decode cX12_goes 0 = .ok (.iconst 0, 1) := dq_get (L := lzddX12_goes_0) 0 rfl zddX12_goes_0 rfl
theorem dX12_goes_1 : decode cX12_goes 1 = .ok (.istore_n 3, 1) := dq_get (L := lzddX12_goes_0) 1 rfl zddX12_goes_0 rfl
theorem dX12_goes_2 : decode cX12_goes 2 = .ok (.iload_n 3, 1) := dq_get (L := lzddX12_goes_0) 2 rfl zddX12_goes_0 rfl
theorem dX12_goes_3 : decode cX12_goes 3 = .ok (.aload_n 0, 1) := dq_get (L := lzddX12_goes_0) 3 rfl zddX12_goes_0 rfl
theorem dX12_goes_4 : decode cX12_goes 4 = .ok (.getfield 385, 3) := dq_get (L := lzddX12_goes_0) 4 rfl zddX12_goes_0 rfl
theorem dX12_goes_7 : decode cX12_goes 7 = .ok (.getfield 315, 3) := dq_get (L := lzddX12_goes_0) 5 rfl zddX12_goes_0 rfl
theorem dX12_goes_10 : decode cX12_goes 10 = .ok (.if_icmp .ge 16, 3) := dq_get (L := lzddX12_goes_0) 6 rfl zddX12_goes_0 rfl
theorem dX12_goes_13 : decode cX12_goes 13 = .ok (.aload_n 0, 1) := dq_get (L := lzddX12_goes_0) 7 rfl zddX12_goes_0 rfl
theorem dX12_goes_14 : decode cX12_goes 14 = .ok (.getfield 49, 3) := dq_get (L := lzddX12_goes_0) 8 rfl zddX12_goes_0 rfl
theorem dX12_goes_17 : decode cX12_goes 17 = .ok (.iload_n 3, 1) := dq_get (L := lzddX12_goes_0) 9 rfl zddX12_goes_0 rfl
theorem dX12_goes_18 : decode cX12_goes 18 = .ok (.iconst 0, 1) := dq_get (L := lzddX12_goes_0) 10 rfl zddX12_goes_0 rfl
theorem dX12_goes_19 : decode cX12_goes 19 = .ok (.iastore, 1) := dq_get (L := lzddX12_goes_0) 11 rfl zddX12_goes_0 rfl
theorem dX12_goes_20 : decode cX12_goes 20 = .ok (.iinc 3 1, 3) := dq_get (L := lzddX12_goes_0) 12 rfl zddX12_goes_0 rfl
theorem dX12_goes_23 : decode cX12_goes 23 = .ok (.goto (-21), 3) := dq_get (L := lzddX12_goes_0) 13 rfl zddX12_goes_0 rfl
theorem dX12_goes_26 : decode cX12_goes 26 = .ok (.iconst 0, 1) := dq_get (L := lzddX12_goes_0) 14 rfl zddX12_goes_0 rfl
theorem dX12_goes_27 : decode cX12_goes 27 = .ok (.istore_n 3, 1) := dq_get (L := lzddX12_goes_0) 15 rfl zddX12_goes_0 rfl
theorem dX12_goes_28 : decode cX12_goes 28 = .ok (.iload_n 3, 1) := dq_get (L := lzddX12_goes_0) 16 rfl zddX12_goes_0 rfl
theorem dX12_goes_29 : decode cX12_goes 29 = .ok (.aload_n 0, 1) := dq_get (L := lzddX12_goes_0) 17 rfl zddX12_goes_0 rfl
theorem dX12_goes_30 : decode cX12_goes 30 = .ok (.getfield 385, 3) := dq_get (L := lzddX12_goes_0) 18 rfl zddX12_goes_0 rfl
theorem dX12_goes_33 : decode cX12_goes 33 = .ok (.getfield 224, 3) := dq_get (L := lzddX12_goes_0) 19 rfl zddX12_goes_0 rfl
def lzddX12_goes_36 : List (Nat × Instr × Nat) := [(36, .if_icmp .ge 37, 3), (39, .aload_n 0, 1), (40, .getfield 52, 3), (43, .iload_n 3, 1), (44, .iconst 0, 1), (45, .iastore, 1), (46, .aload_n 0, 1), (47, .getfield 55, 3), (50, .iload_n 3, 1), (51, .iconst 0, 1), (52, .iastore, 1), (53, .aload_n 0, 1), (54, .getfield 58, 3), (57, .iload_n 3, 1), (58, .iconst 0, 1), (59, .iastore, 1), (60, .aload_n 0, 1), (61, .getfield 61, 3), (64, .iload_n 3, 1), (65, .iconst 0, 1)]
theorem zddX12_goes_36 : dqW lzddX12_goes_36 (cX12_goes.data.toList.drop 36) 36 = true := by decide +kernel
theorem dX12_goes_36 : decode cX12_goes 36 = .ok (.if_icmp .ge 37, 3) := dq_get (L := lzddX12_goes_36) 0 rfl zddX12_goes_36 rfl
theorem dX12_goes_39 : decode cX12_goes 39 = .ok (.aload_n 0, 1) := dq_get (L := lzddX12_goes_36) 1 rfl zddX12_goes_36 rfl
theorem dX12_goes_40 : decode cX12_goes 40 = .ok (.getfield 52, 3) := dq_get (L := lzddX12_goes_36) 2 rfl zddX12_goes_36 rfl
theorem dX12_goes_43 : decode cX12_goes 43 = .ok (.iload_n 3, 1) := dq_get (L := lzddX12_goes_36) 3 rfl zddX12_goes_36 rfl
theorem dX12_goes_44 : decode cX12_goes 44 = .ok (.iconst 0, 1) := dq_get (L := lzddX12_goes_36) 4 rfl zddX12_goes_36 rfl
theorem dX12_goes_45 : decode cX12_goes 45 = .ok (.iastore, 1) := dq_get (L := lzddX12_goes_36) 5 rfl zddX12_goes_36 rfl
theorem dX12_goes_46 : decode cX12_goes 46 = .ok (.aload_n 0, 1) := dq_get (L := lzddX12_goes_36) 6 rfl zddX12_goes_36 rfl
theorem dX12_goes_47 : decode cX12_goes 47 = .ok (.getfield 55, 3) := dq_get (L := lzddX12_goes_36) 7 rfl zddX12_goes_36 rfl
theorem dX12_goes_50 : decode cX12_goes 50 = .ok (.iload_n 3, 1) := dq_get (L := lzddX12_goes_36) 8 rfl zddX12_goes_36 rfl
theorem dX12_goes_51 : decode cX12_goes 51 = .ok (.iconst 0, 1) := dq_get (L := lzddX12_goes_36) 9 rfl zddX12_goes_36 rfl
theorem dX12_goes_52 : decode cX12_goes 52 = .ok (.iastore, 1) := dq_get (L := lzddX12_goes_36) 10 rfl zddX12_goes_36 rfl
theorem dX12_goes_53 : decode cX12_goes 53 = .ok (.aload_n 0, 1) := dq_get (L := lzddX12_goes_36) 11 rfl zddX12_goes_36 rfl
theorem dX12_goes_54 : decode cX12_goes 54 = .ok (.getfield 58, 3) := dq_get (L := lzddX12_goes_36) 12 rfl zddX12_goes_36 rfl
theorem dX12_goes_57 : decode cX12_goes 57 = .ok (.iload_n 3, 1) := dq_get (L := lzddX12_goes_36) 13 rfl zddX12_goes_36 rfl
theorem dX12_goes_58 : decode cX12_goes 58 = .ok (.iconst 0, 1) := dq_get (L := lzddX12_goes_36) 14 rfl zddX12_goes_36 rfl
theorem dX12_goes_59 : decode cX12_goes 59 = .ok (.iastore, 1) := dq_get (L := lzddX12_goes_36) 15 rfl zddX12_goes_36 rfl
theorem dX12_goes_60 : decode cX12_goes 60 = .ok (.aload_n 0, 1) := dq_get (L := lzddX12_goes_36) 16 rfl zddX12_goes_36 rfl
theorem dX12_goes_61 : decode cX12_goes 61 = .ok (.getfield 61, 3) := dq_get (L := lzddX12_goes_36) 17 rfl zddX12_goes_36 rfl
theorem dX12_goes_64 : decode cX12_goes 64 = .ok (.iload_n 3, 1) := dq_get (L := lzddX12_goes_36) 18 rfl zddX12_goes_36 rfl
theorem dX12_goes_65 : decode cX12_goes 65 = .ok (.iconst 0, 1) := dq_get (L := lzddX12_goes_36) 19 rfl zddX12_goes_36 rfl
def lzddX12_goes_66 : List (Nat × Instr × Nat) := [(66, .iastore, 1), (67, .iinc 3 1, 3), (70, .goto (-42), 3), (73, .iconst 0, 1), (74, .istore_n 3, 1), (75, .iload_n 3, 1), (76, .aload_n 0, 1), (77, .getfield 385, 3), (80, .getfield 192, 3), (83, .if_icmp .ge 136, 3), (86, .iconst 0, 1), (87, .istore 4, 2), (89, .iload 4, 2), (91, .aload_n 0, 1), (92, .getfield 385, 3), (95, .getfield 224, 3), (98, .if_icmp .ge 24, 3), (101, .aload_n 0, 1), (102, .getfield 46, 3), (105, .sipush 240, 3)]
theorem zddX12_goes_66 : dqW lzddX12_goes_66 (cX12_goes.data.toList.drop 66) 66 = true := by decide +kernel
theorem dX12_goes_66 : decode cX12_goes 66 = .ok (.iastore, 1) := dq_get (L := lzddX12_goes_66) 0 rfl zddX12_goes_66 rfl
theorem dX12_goes_67 : decode cX12_goes 67 = .ok (.iinc 3 1, 3) := dq_get (L := lzddX12_goes_66) 1 rfl zddX12_goes_66 rfl
theorem dX12_goes_70 : decode cX12_goes 70 = .ok (.goto (-42), 3) := dq_get (L := lzddX12_goes_66) 2 rfl zddX12_goes_66 rfl
theorem dX12_goes_73 : decode cX12_goes 73 = .ok (.iconst 0, 1) := dq_get (L := lzddX12_goes_66) 3 rfl zddX12_goes_66 rfl
theorem dX12_goes_74 : decode cX12_goes 74 = .ok (.istore_n 3, 1) := dq_get (L := lzddX12_goes_66) 4 rfl zddX12_goes_66 rfl
theorem dX12_goes_75 : decode cX12_goes 75 = .ok (.iload_n 3, 1) := dq_get (L := lzddX12_goes_66) 5 rfl zddX12_goes_66 rfl
theorem dX12_goes_76 : decode cX12_goes 76 = .ok (.aload_n 0, 1) := dq_get (L := lzddX12_goes_66) 6 rfl zddX12_goes_66 rfl
theorem dX12_goes_77 : decode cX12_goes 77 = .ok (.getfield 385, 3) := dq_get (L := lzddX12_goes_66) 7 rfl zddX12_goes_66 rfl
theorem dX12_goes_80 : decode cX12_goes 80 = .ok (.getfield 192, 3) := dq_get (L := lzddX12_goes_66) 8 rfl zddX12_goes_66 rfl
theorem dX12_goes_83 : decode cX12_goes 83 = .ok (.if_icmp .ge 136, 3) := dq_get (L := lzddX12_goes_66) 9 rfl zddX12_goes_66 rfl
theorem dX12_goes_86 : decode cX12_goes 86 = .ok (.iconst 0, 1) := dq_get (L := lzddX12_goes_66) 10 rfl zddX12_goes_66 rfl
theorem dX12_goes_87 : decode cX12_goes 87 = .ok (.istore 4, 2) := dq_get (L := lzddX12_goes_66) 11 rfl zddX12_goes_66 rfl
theorem dX12_goes_89 : decode cX12_goes 89 = .ok (.iload 4, 2) := dq_get (L := lzddX12_goes_66) 12 rfl zddX12_goes_66 rfl
theorem dX12_goes_91 : decode cX12_goes 91 = .ok (.aload_n 0, 1) := dq_get (L := lzddX12_goes_66) 13 rfl zddX12_goes_66 rfl
theorem dX12_goes_92 : decode cX12_goes 92 = .ok (.getfield 385, 3) := dq_get (L := lzddX12_goes_66) 14 rfl zddX12_goes_66 rfl
theorem dX12_goes_95 : decode cX12_goes 95 = .ok (.getfield 224, 3) := dq_get (L := lzddX12_goes_66) 15 rfl zddX12_goes_66 rfl
theorem dX12_goes_98 : decode cX12_goes 98 = .ok (.if_icmp .ge 24, 3) := dq_get (L := lzddX12_goes_66) 16 rfl zddX12_goes_66 rfl
theorem dX12_goes_101 : decode cX12_goes 101 = .ok (.aload_n 0, 1) := dq_get (L := lzddX12_goes_66) 17 rfl zddX12_goes_66 rfl
theorem dX12_goes_102 : decode cX12_goes 102 = .ok (.getfield 46, 3) := dq_get (L := lzddX12_goes_66) 18 rfl zddX12_goes_66 rfl
theorem dX12_goes_105 : decode cX12_goes 105 = .ok (.sipush 240, 3) := dq_get (L := lzddX12_goes_66) 19 rfl zddX12_goes_66 rfl
def lzddX12_goes_108 : List (Nat × Instr × Nat) := [(108, .iload 4, 2), (110, .imul, 1), (111, .iload_n 3, 1), (112, .iadd, 1), (113, .bipush (-2), 2), (115, .iastore, 1), (116, .iinc 4 1, 3), (119, .goto (-30), 3), (122, .iconst 0, 1), (123, .istore 4, 2), (125, .iload 4, 2), (127, .aload_n 0, 1), (128, .getfield 385, 3), (131, .getfield 315, 3), (134, .if_icmp .ge 51, 3), (137, .iload_n 3, 1), (138, .ifCond .le 47, 3), (141, .iload_n 1, 1), (142, .iload 4, 2), (144, .invokestatic 329, 3)]
theorem zddX12_goes_108 : dqW lzddX12_goes_108 (cX12_goes.data.toList.drop 108) 108 = true := by decide +kernel
theorem dX12_goes_108 : decode cX12_goes 108 = .ok (.iload 4, 2) := dq_get (L := lzddX12_goes_108) 0 rfl zddX12_goes_108 rfl
theorem dX12_goes_110 : decode cX12_goes 110 = .ok (.imul, 1) := dq_get (L := lzddX12_goes_108) 1 rfl zddX12_goes_108 rfl
theorem dX12_goes_111 : decode cX12_goes 111 = .ok (.iload_n 3, 1) := dq_get (L := lzddX12_goes_108) 2 rfl zddX12_goes_108 rfl
theorem dX12_goes_112 : decode cX12_goes 112 = .ok (.iadd, 1) := dq_get (L := lzddX12_goes_108) 3 rfl zddX12_goes_108 rfl
theorem dX12_goes_113 : decode cX12_goes 113 = .ok (.bipush (-2), 2) := dq_get (L := lzddX12_goes_108) 4 rfl zddX12_goes_108 rfl
theorem dX12_goes_115 : decode cX12_goes 115 = .ok (.iastore, 1) := dq_get (L := lzddX12_goes_108) 5 rfl zddX12_goes_108 rfl
theorem dX12_goes_116 : decode cX12_goes 116 = .ok (.iinc 4 1, 3) := dq_get (L := lzddX12_goes_108) 6 rfl zddX12_goes_108 rfl
theorem dX12_goes_119 : decode cX12_goes 119 = .ok (.goto (-30), 3) := dq_get (L := lzddX12_goes_108) 7 rfl zddX12_goes_108 rfl
theorem dX12_goes_122 : decode cX12_goes 122 = .ok (.iconst 0, 1) := dq_get (L := lzddX12_goes_108) 8 rfl zddX12_goes_108 rfl
theorem dX12_goes_123 : decode cX12_goes 123 = .ok (.istore 4, 2) := dq_get (L := lzddX12_goes_108) 9 rfl zddX12_goes_108 rfl
theorem dX12_goes_125 : decode cX12_goes 125 = .ok (.iload 4, 2) := dq_get (L := lzddX12_goes_108) 10 rfl zddX12_goes_108 rfl
theorem dX12_goes_127 : decode cX12_goes 127 = .ok (.aload_n 0, 1) := dq_get (L := lzddX12_goes_108) 11 rfl zddX12_goes_108 rfl
theorem dX12_goes_128 : decode cX12_goes 128 = .ok (.getfield 385, 3) := dq_get (L := lzddX12_goes_108) 12 rfl zddX12_goes_108 rfl
theorem dX12_goes_131 : decode cX12_goes 131 = .ok (.getfield 315, 3) := dq_get (L := lzddX12_goes_108) 13 rfl zddX12_goes_108 rfl
theorem dX12_goes_134 : decode cX12_goes 134 = .ok (.if_icmp .ge 51, 3) := dq_get (L := lzddX12_goes_108) 14 rfl zddX12_goes_108 rfl
theorem dX12_goes_137 : decode cX12_goes 137 = .ok (.iload_n 3, 1) := dq_get (L := lzddX12_goes_108) 15 rfl zddX12_goes_108 rfl
theorem dX12_goes_138 : decode cX12_goes 138 = .ok (.ifCond .le 47, 3) := dq_get (L := lzddX12_goes_108) 16 rfl zddX12_goes_108 rfl
theorem dX12_goes_141 : decode cX12_goes 141 = .ok (.iload_n 1, 1) := dq_get (L := lzddX12_goes_108) 17 rfl zddX12_goes_108 rfl
theorem dX12_goes_142 : decode cX12_goes 142 = .ok (.iload 4, 2) := dq_get (L := lzddX12_goes_108) 18 rfl zddX12_goes_108 rfl
theorem dX12_goes_144 : decode cX12_goes 144 = .ok (.invokestatic 329, 3) := dq_get (L := lzddX12_goes_108) 19 rfl zddX12_goes_108 rfl
def lzddX12_goes_147 : List (Nat × Instr × Nat) := [(147, .ifCond .eq 32, 3), (150, .aload_n 0, 1), (151, .getfield 49, 3), (154, .iload 4, 2), (156, .iaload, 1), (157, .iload_n 3, 1), (158, .if_icmp .gt 21, 3), (161, .aload_n 0, 1), (162, .iload 4, 2), (164, .iload_n 3, 1), (165, .iload_n 2, 1), (166, .invokevirtual 419, 3), (169, .ifCond .eq 10, 3), (172, .aload_n 0, 1), (173, .iload 4, 2), (175, .iload_n 3, 1), (176, .invokevirtual 422, 3), (179, .iinc 4 1, 3), (182, .goto (-57), 3), (185, .iconst 0, 1)]
theorem zddX12_goes_147 : dqW lzddX12_goes_147 (cX12_goes.data.toList.drop 147) 147 = true := by decide +kernel
theorem dX12_goes_147 : decode cX12_goes 147 = .ok (.ifCond .eq 32, 3) := dq_get (L := lzddX12_goes_147) 0 rfl zddX12_goes_147 rfl
theorem dX12_goes_150 : decode cX12_goes 150 = .ok (.aload_n 0, 1) := dq_get (L := lzddX12_goes_147) 1 rfl zddX12_goes_147 rfl
theorem dX12_goes_151 : decode cX12_goes 151 = .ok (.getfield 49, 3) := dq_get (L := lzddX12_goes_147) 2 rfl zddX12_goes_147 rfl
theorem dX12_goes_154 : decode cX12_goes 154 = .ok (.iload 4, 2) := dq_get (L := lzddX12_goes_147) 3 rfl zddX12_goes_147 rfl
theorem dX12_goes_156 : decode cX12_goes 156 = .ok (.iaload, 1) := dq_get (L := lzddX12_goes_147) 4 rfl zddX12_goes_147 rfl
theorem dX12_goes_157 : decode cX12_goes 157 = .ok (.iload_n 3, 1) := dq_get (L := lzddX12_goes_147) 5 rfl zddX12_goes_147 rfl
theorem dX12_goes_158 : decode cX12_goes 158 = .ok (.if_icmp .gt 21, 3) := dq_get (L := lzddX12_goes_147) 6 rfl zddX12_goes_147 rfl
theorem dX12_goes_161 : decode cX12_goes 161 = .ok (.aload_n 0, 1) := dq_get (L := lzddX12_goes_147) 7 rfl zddX12_goes_147 rfl
theorem dX12_goes_162 : decode cX12_goes 162 = .ok (.iload 4, 2) := dq_get (L := lzddX12_goes_147) 8 rfl zddX12_goes_147 rfl
theorem dX12_goes_164 : decode cX12_goes 164 = .ok (.iload_n 3, 1) := dq_get (L := lzddX12_goes_147) 9 rfl zddX12_goes_147 rfl
theorem dX12_goes_165 : decode cX12_goes 165 = .ok (.iload_n 2, 1) := dq_get (L := lzddX12_goes_147) 10 rfl zddX12_goes_147 rfl
theorem dX12_goes_166 : decode cX12_goes 166 = .ok (.invokevirtual 419, 3) := dq_get (L := lzddX12_goes_147) 11 rfl zddX12_goes_147 rfl
theorem dX12_goes_169 : decode cX12_goes 169 = .ok (.ifCond .eq 10, 3) := dq_get (L := lzddX12_goes_147) 12 rfl zddX12_goes_147 rfl
theorem dX12_goes_172 : decode cX12_goes 172 = .ok (.aload_n 0, 1) := dq_get (L := lzddX12_goes_147) 13 rfl zddX12_goes_147 rfl
theorem dX12_goes_173 : decode cX12_goes 173 = .ok (.iload 4, 2) := dq_get (L := lzddX12_goes_147) 14 rfl zddX12_goes_147 rfl
theorem dX12_goes_175 : decode cX12_goes 175 = .ok (.iload_n 3, 1) := dq_get (L := lzddX12_goes_147) 15 rfl zddX12_goes_147 rfl
theorem dX12_goes_176 : decode cX12_goes 176 = .ok (.invokevirtual 422, 3) := dq_get (L := lzddX12_goes_147) 16 rfl zddX12_goes_147 rfl
theorem dX12_goes_179 : decode cX12_goes 179 = .ok (.iinc 4 1, 3) := dq_get (L := lzddX12_goes_147) 17 rfl zddX12_goes_147 rfl
theorem dX12_goes_182 : decode cX12_goes 182 = .ok (.goto (-57), 3) := dq_get (L := lzddX12_goes_147) 18 rfl zddX12_goes_147 rfl
theorem dX12_goes_185 : decode cX12_goes 185 = .ok (.iconst 0, 1) := dq_get (L := lzddX12_goes_147) 19 rfl zddX12_goes_147 rfl
def lzddX12_goes_186 : List (Nat × Instr × Nat) := [(186, .istore 4, 2), (188, .iload 4, 2), (190, .aload_n 0, 1), (191, .getfield 385, 3), (194, .getfield 224, 3), (197, .if_icmp .ge 16, 3), (200, .aload_n 0, 1), (201, .iload 4, 2), (203, .iload_n 3, 1), (204, .invokevirtual 425, 3), (207, .iinc 4 1, 3), (210, .goto (-22), 3), (213, .iinc 3 1, 3), (216, .goto (-141), 3), (219, .iconst 0, 1), (220, .istore_n 3, 1), (221, .iconst 0, 1), (222, .istore 4, 2), (224, .iload 4, 2), (226, .aload_n 0, 1)]
theorem zddX12_goes_186 : dqW lzddX12_goes_186 (cX12_goes.data.toList.drop 186) 186 = true := by decide +kernel
theorem dX12_goes_186 : decode cX12_goes 186 = .ok (.istore 4, 2) := dq_get (L := lzddX12_goes_186) 0 rfl zddX12_goes_186 rfl
theorem dX12_goes_188 : decode cX12_goes 188 = .ok (.iload 4, 2) := dq_get (L := lzddX12_goes_186) 1 rfl zddX12_goes_186 rfl
theorem dX12_goes_190 : decode cX12_goes 190 = .ok (.aload_n 0, 1) := dq_get (L := lzddX12_goes_186) 2 rfl zddX12_goes_186 rfl
theorem dX12_goes_191 : decode cX12_goes 191 = .ok (.getfield 385, 3) := dq_get (L := lzddX12_goes_186) 3 rfl zddX12_goes_186 rfl
theorem dX12_goes_194 : decode cX12_goes 194 = .ok (.getfield 224, 3) := dq_get (L := lzddX12_goes_186) 4 rfl zddX12_goes_186 rfl
theorem dX12_goes_197 : decode cX12_goes 197 = .ok (.if_icmp .ge 16, 3) := dq_get (L := lzddX12_goes_186) 5 rfl zddX12_goes_186 rfl
theorem dX12_goes_200 : decode cX12_goes 200 = .ok (.aload_n 0, 1) := dq_get (L := lzddX12_goes_186) 6 rfl zddX12_goes_186 rfl
theorem dX12_goes_201 : decode cX12_goes 201 = .ok (.iload 4, 2) := dq_get (L := lzddX12_goes_186) 7 rfl zddX12_goes_186 rfl
theorem dX12_goes_203 : decode cX12_goes 203 = .ok (.iload_n 3, 1) := dq_get (L := lzddX12_goes_186) 8 rfl zddX12_goes_186 rfl
theorem dX12_goes_204 : decode cX12_goes 204 = .ok (.invokevirtual 425, 3) := dq_get (L := lzddX12_goes_186) 9 rfl zddX12_goes_186 rfl
theorem dX12_goes_207 : decode cX12_goes 207 = .ok (.iinc 4 1, 3) := dq_get (L := lzddX12_goes_186) 10 rfl zddX12_goes_186 rfl
theorem dX12_goes_210 : decode cX12_goes 210 = .ok (.goto (-22), 3) := dq_get (L := lzddX12_goes_186) 11 rfl zddX12_goes_186 rfl
theorem dX12_goes_213 : decode cX12_goes 213 = .ok (.iinc 3 1, 3) := dq_get (L := lzddX12_goes_186) 12 rfl zddX12_goes_186 rfl
theorem dX12_goes_216 : decode cX12_goes 216 = .ok (.goto (-141), 3) := dq_get (L := lzddX12_goes_186) 13 rfl zddX12_goes_186 rfl
theorem dX12_goes_219 : decode cX12_goes 219 = .ok (.iconst 0, 1) := dq_get (L := lzddX12_goes_186) 14 rfl zddX12_goes_186 rfl
theorem dX12_goes_220 : decode cX12_goes 220 = .ok (.istore_n 3, 1) := dq_get (L := lzddX12_goes_186) 15 rfl zddX12_goes_186 rfl
theorem dX12_goes_221 : decode cX12_goes 221 = .ok (.iconst 0, 1) := dq_get (L := lzddX12_goes_186) 16 rfl zddX12_goes_186 rfl
theorem dX12_goes_222 : decode cX12_goes 222 = .ok (.istore 4, 2) := dq_get (L := lzddX12_goes_186) 17 rfl zddX12_goes_186 rfl
theorem dX12_goes_224 : decode cX12_goes 224 = .ok (.iload 4, 2) := dq_get (L := lzddX12_goes_186) 18 rfl zddX12_goes_186 rfl
theorem dX12_goes_226 : decode cX12_goes 226 = .ok (.aload_n 0, 1) := dq_get (L := lzddX12_goes_186) 19 rfl zddX12_goes_186 rfl
def lzddX12_goes_227 : List (Nat × Instr × Nat) := [(227, .getfield 385, 3), (230, .getfield 224, 3), (233, .if_icmp .ge 18, 3), (236, .iload_n 3, 1), (237, .aload_n 0, 1), (238, .iload 4, 2), (240, .invokevirtual 428, 3), (243, .iadd, 1), (244, .istore_n 3, 1), (245, .iinc 4 1, 3), (248, .goto (-24), 3), (251, .iconst 0, 1), (252, .istore 4, 2), (254, .iload 4, 2), (256, .aload_n 0, 1), (257, .getfield 385, 3), (260, .getfield 349, 3), (263, .if_icmp .ge 35, 3), (266, .iload_n 3, 1), (267, .iload_n 2, 1)]
theorem zddX12_goes_227 : dqW lzddX12_goes_227 (cX12_goes.data.toList.drop 227) 227 = true := by decide +kernel
theorem dX12_goes_227 : decode cX12_goes 227 = .ok (.getfield 385, 3) := dq_get (L := lzddX12_goes_227) 0 rfl zddX12_goes_227 rfl
theorem dX12_goes_230 : decode cX12_goes 230 = .ok (.getfield 224, 3) := dq_get (L := lzddX12_goes_227) 1 rfl zddX12_goes_227 rfl
theorem dX12_goes_233 : decode cX12_goes 233 = .ok (.if_icmp .ge 18, 3) := dq_get (L := lzddX12_goes_227) 2 rfl zddX12_goes_227 rfl
theorem dX12_goes_236 : decode cX12_goes 236 = .ok (.iload_n 3, 1) := dq_get (L := lzddX12_goes_227) 3 rfl zddX12_goes_227 rfl
theorem dX12_goes_237 : decode cX12_goes 237 = .ok (.aload_n 0, 1) := dq_get (L := lzddX12_goes_227) 4 rfl zddX12_goes_227 rfl
theorem dX12_goes_238 : decode cX12_goes 238 = .ok (.iload 4, 2) := dq_get (L := lzddX12_goes_227) 5 rfl zddX12_goes_227 rfl
theorem dX12_goes_240 : decode cX12_goes 240 = .ok (.invokevirtual 428, 3) := dq_get (L := lzddX12_goes_227) 6 rfl zddX12_goes_227 rfl
theorem dX12_goes_243 : decode cX12_goes 243 = .ok (.iadd, 1) := dq_get (L := lzddX12_goes_227) 7 rfl zddX12_goes_227 rfl
theorem dX12_goes_244 : decode cX12_goes 244 = .ok (.istore_n 3, 1) := dq_get (L := lzddX12_goes_227) 8 rfl zddX12_goes_227 rfl
theorem dX12_goes_245 : decode cX12_goes 245 = .ok (.iinc 4 1, 3) := dq_get (L := lzddX12_goes_227) 9 rfl zddX12_goes_227 rfl
theorem dX12_goes_248 : decode cX12_goes 248 = .ok (.goto (-24), 3) := dq_get (L := lzddX12_goes_227) 10 rfl zddX12_goes_227 rfl
theorem dX12_goes_251 : decode cX12_goes 251 = .ok (.iconst 0, 1) := dq_get (L := lzddX12_goes_227) 11 rfl zddX12_goes_227 rfl
theorem dX12_goes_252 : decode cX12_goes 252 = .ok (.istore 4, 2) := dq_get (L := lzddX12_goes_227) 12 rfl zddX12_goes_227 rfl
theorem dX12_goes_254 : decode cX12_goes 254 = .ok (.iload 4, 2) := dq_get (L := lzddX12_goes_227) 13 rfl zddX12_goes_227 rfl
theorem dX12_goes_256 : decode cX12_goes 256 = .ok (.aload_n 0, 1) := dq_get (L := lzddX12_goes_227) 14 rfl zddX12_goes_227 rfl
theorem dX12_goes_257 : decode cX12_goes 257 = .ok (.getfield 385, 3) := dq_get (L := lzddX12_goes_227) 15 rfl zddX12_goes_227 rfl
theorem dX12_goes_260 : decode cX12_goes 260 = .ok (.getfield 349, 3) := dq_get (L := lzddX12_goes_227) 16 rfl zddX12_goes_227 rfl
theorem dX12_goes_263 : decode cX12_goes 263 = .ok (.if_icmp .ge 35, 3) := dq_get (L := lzddX12_goes_227) 17 rfl zddX12_goes_227 rfl
theorem dX12_goes_266 : decode cX12_goes 266 = .ok (.iload_n 3, 1) := dq_get (L := lzddX12_goes_227) 18 rfl zddX12_goes_227 rfl
theorem dX12_goes_267 : decode cX12_goes 267 = .ok (.iload_n 2, 1) := dq_get (L := lzddX12_goes_227) 19 rfl zddX12_goes_227 rfl
def lzddX12_goes_268 : List (Nat × Instr × Nat) := [(268, .iload 4, 2), (270, .invokestatic 329, 3), (273, .ifCond .eq 16, 3), (276, .aload_n 0, 1), (277, .getfield 385, 3), (280, .getfield 367, 3), (283, .iload 4, 2), (285, .iaload, 1), (286, .goto 4, 3), (289, .iconst 0, 1), (290, .isub, 1), (291, .istore_n 3, 1), (292, .iinc 4 1, 3), (295, .goto (-41), 3), (298, .iload_n 3, 1), (299, .ireturn, 1)]
theorem zddX12_goes_268 : dqW lzddX12_goes_268 (cX12_goes.data.toList.drop 268) 268 = true := by decide +kernel
theorem dX12_goes_268 : decode cX12_goes 268 = .ok (.iload 4, 2) := dq_get (L := lzddX12_goes_268) 0 rfl zddX12_goes_268 rfl
theorem dX12_goes_270 : decode cX12_goes 270 = .ok (.invokestatic 329, 3) := dq_get (L := lzddX12_goes_268) 1 rfl zddX12_goes_268 rfl
theorem dX12_goes_273 : decode cX12_goes 273 = .ok (.ifCond .eq 16, 3) := dq_get (L := lzddX12_goes_268) 2 rfl zddX12_goes_268 rfl
theorem dX12_goes_276 : decode cX12_goes 276 = .ok (.aload_n 0, 1) := dq_get (L := lzddX12_goes_268) 3 rfl zddX12_goes_268 rfl
theorem dX12_goes_277 : decode cX12_goes 277 = .ok (.getfield 385, 3) := dq_get (L := lzddX12_goes_268) 4 rfl zddX12_goes_268 rfl
theorem dX12_goes_280 : decode cX12_goes 280 = .ok (.getfield 367, 3) := dq_get (L := lzddX12_goes_268) 5 rfl zddX12_goes_268 rfl
theorem dX12_goes_283 : decode cX12_goes 283 = .ok (.iload 4, 2) := dq_get (L := lzddX12_goes_268) 6 rfl zddX12_goes_268 rfl
theorem dX12_goes_285 : decode cX12_goes 285 = .ok (.iaload, 1) := dq_get (L := lzddX12_goes_268) 7 rfl zddX12_goes_268 rfl
theorem dX12_goes_286 : decode cX12_goes 286 = .ok (.goto 4, 3) := dq_get (L := lzddX12_goes_268) 8 rfl zddX12_goes_268 rfl
theorem dX12_goes_289 : decode cX12_goes 289 = .ok (.iconst 0, 1) := dq_get (L := lzddX12_goes_268) 9 rfl zddX12_goes_268 rfl
theorem dX12_goes_290 : decode cX12_goes 290 = .ok (.isub, 1) := dq_get (L := lzddX12_goes_268) 10 rfl zddX12_goes_268 rfl
theorem dX12_goes_291 : decode cX12_goes 291 = .ok (.istore_n 3, 1) := dq_get (L := lzddX12_goes_268) 11 rfl zddX12_goes_268 rfl
theorem dX12_goes_292 : decode cX12_goes 292 = .ok (.iinc 4 1, 3) := dq_get (L := lzddX12_goes_268) 12 rfl zddX12_goes_268 rfl
theorem dX12_goes_295 : decode cX12_goes 295 = .ok (.goto (-41), 3) := dq_get (L := lzddX12_goes_268) 13 rfl zddX12_goes_268 rfl
theorem dX12_goes_298 : decode cX12_goes 298 = .ok (.iload_n 3, 1) := dq_get (L := lzddX12_goes_268) 14 rfl zddX12_goes_268 rfl
theorem dX12_goes_299 : decode cX12_goes 299 = .ok (.ireturn, 1) := dq_get (L := lzddX12_goes_268) 15 rfl zddX12_goes_268 rfl
def lzddX12_goesOn_0 : List (Nat × Instr × Nat) := [(0, .aload_n 0, 1), (1, .getfield 99, 3), (4, .iconst 5, 1), (5, .if_icmp .ne 4, 3), (8, .return_, 1), (9, .aload_n 0, 1), (10, .aload_n 0, 1), (11, .getfield 102, 3), (14, .invokevirtual 105, 3), (17, .bipush 32, 2), (19, .if_icmp .ne 16, 3), (22, .aload_n 0, 1), (23, .dup, 1), (24, .getfield 102, 3), (27, .iconst 1, 1), (28, .iadd, 1), (29, .putfield 102, 3), (32, .goto (-23), 3), (35, .aload_n 0, 1), (36, .aload_n 0, 1)]
theorem zddX12_goesOn_0 : dqW lzddX12_goesOn_0 (cX12_goesOn.data.toList.drop 0) 0 = true := by decide +kernel
theorem dX12_goesOn_0 : decode cX12_goesOn 0 = .ok (.aload_n 0, 1) := dq_get (L := lzddX12_goesOn_0) 0 rfl zddX12_goesOn_0 rfl
theorem dX12_goesOn_1 : decode cX12_goesOn 1 = .ok (.getfield 99, 3) := dq_get (L := lzddX12_goesOn_0) 1 rfl zddX12_goesOn_0 rfl
theorem dX12_goesOn_4 : decode cX12_goesOn 4 = .ok (.iconst 5, 1) := dq_get (L := lzddX12_goesOn_0) 2 rfl zddX12_goesOn_0 rfl
theorem dX12_goesOn_5 : decode cX12_goesOn 5 = .ok (.if_icmp .ne 4, 3) := dq_get (L := lzddX12_goesOn_0) 3 rfl zddX12_goesOn_0 rfl
theorem dX12_goesOn_8 : decode cX12_goesOn 8 = .ok (.return_, 1) := dq_get (L := lzddX12_goesOn_0) 4 rfl zddX12_goesOn_0 rfl
theorem dX12_goesOn_9 : decode cX12_goesOn 9 = .ok (.aload_n 0, 1) := dq_get (L := lzddX12_goesOn_0) 5 rfl zddX12_goesOn_0 rfl
theorem dX12_goesOn_10 : decode cX12_goesOn 10 = .ok (.aload_n 0, 1) := dq_get (L := lzddX12_goesOn_0) 6 rfl zddX12_goesOn_0 rfl
theorem dX12_goesOn_11 : decode cX12_goesOn 11 = .ok (.getfield 102, 3) := dq_get (L := lzddX12_goesOn_0) 7 rfl zddX12_goesOn_0 rfl
theorem dX12_goesOn_14 : decode cX12_goesOn 14 = .ok (.invokevirtual 105, 3) := dq_get (L := lzddX12_goesOn_0) 8 rfl zddX12_goesOn_0 rfl
theorem dX12_goesOn_17 : decode cX12_goesOn 17 = .ok (.bipush 32, 2) := dq_get (L := lzddX12_goesOn_0) 9 rfl zddX12_goesOn_0 rfl
theorem dX12_goesOn_19 : decode cX12_goesOn 19 = .ok (.if_icmp .ne 16, 3) := dq_get (L := lzddX12_goesOn_0) 10 rfl zddX12_goesOn_0 rfl
theorem dX12_goesOn_22 : decode cX12_goesOn 22 = .ok (.aload_n 0, 1) := dq_get (L := lzddX12_goesOn_0) 11 rfl zddX12_goesOn_0 rfl
theorem dX12_goesOn_23 : decode cX12_goesOn 23 = .ok (.dup, 1) := dq_get (L := lzddX12_goesOn_0) 12 rfl zddX12_goesOn_0 rfl
theorem dX12_goesOn_24 : decode cX12_goesOn 24 = .ok (.getfield 102, 3) := dq_get (L := lzddX12_goesOn_0) 13 rfl zddX12_goesOn_0 rfl
theorem dX12_goesOn_27 : decode cX12_goesOn 27 = .ok (.iconst 1, 1) := dq_get (L := lzddX12_goesOn_0) 14 rfl zddX12_goesOn_0 rfl
theorem dX12_goesOn_28 : decode cX12_goesOn 28 = .ok (.iadd, 1) := dq_get (L := lzddX12_goesOn_0) 15 rfl zddX12_goesOn_0 rfl
theorem dX12_goesOn_29 : decode cX12_goesOn 29 = .ok (.putfield 102, 3) := dq_get (L := lzddX12_goesOn_0) 16 rfl zddX12_goesOn_0 rfl
theorem dX12_goesOn_32 : decode cX12_goesOn 32 = .ok (.goto (-23), 3) := dq_get (L := lzddX12_goesOn_0) 17 rfl zddX12_goesOn_0 rfl
theorem dX12_goesOn_35 : decode cX12_goesOn 35 = .ok (.aload_n 0, 1) := dq_get (L := lzddX12_goesOn_0) 18 rfl zddX12_goesOn_0 rfl
theorem dX12_goesOn_36 : decode cX12_goesOn 36 = .ok (.aload_n 0, 1) := dq_get (L := lzddX12_goesOn_0) 19 rfl zddX12_goesOn_0 rfl
def lzddX12_goesOn_37 : List (Nat × Instr × Nat) := [(37, .getfield 102, 3), (40, .putfield 108, 3), (43, .aload_n 0, 1), (44, .iconst 0, 1), (45, .putfield 99, 3), (48, .aload_n 0, 1), (49, .iconst 0, 1), (50, .putfield 111, 3), (53, .aload_n 0, 1), (54, .aload_n 0, 1), (55, .getfield 102, 3), (58, .invokevirtual 105, 3), (61, .istore_n 1, 1), (62, .iconst 0, 1), (63, .istore_n 2, 1), (64, .iload_n 1, 1), (65, .iconst (-1), 1), (66, .if_icmp .ne 11, 3), (69, .aload_n 0, 1), (70, .iconst 1, 1)]
theorem zddX12_goesOn_37 : dqW lzddX12_goesOn_37 (cX12_goesOn.data.toList.drop 37) 37 = true := by decide +kernel
theorem dX12_goesOn_37 : decode cX12_goesOn 37 = .ok (.getfield 102, 3) := dq_get (L := lzddX12_goesOn_37) 0 rfl zddX12_goesOn_37 rfl
theorem dX12_goesOn_40 : decode cX12_goesOn 40 = .ok (.putfield 108, 3) := dq_get (L := lzddX12_goesOn_37) 1 rfl zddX12_goesOn_37 rfl
theorem dX12_goesOn_43 : decode cX12_goesOn 43 = .ok (.aload_n 0, 1) := dq_get (L := lzddX12_goesOn_37) 2 rfl zddX12_goesOn_37 rfl
theorem dX12_goesOn_44 : decode cX12_goesOn 44 = .ok (.iconst 0, 1) := dq_get (L := lzddX12_goesOn_37) 3 rfl zddX12_goesOn_37 rfl
theorem dX12_goesOn_45 : decode cX12_goesOn 45 = .ok (.putfield 99, 3) := dq_get (L := lzddX12_goesOn_37) 4 rfl zddX12_goesOn_37 rfl
theorem dX12_goesOn_48 : decode cX12_goesOn 48 = .ok (.aload_n 0, 1) := dq_get (L := lzddX12_goesOn_37) 5 rfl zddX12_goesOn_37 rfl
theorem dX12_goesOn_49 : decode cX12_goesOn 49 = .ok (.iconst 0, 1) := dq_get (L := lzddX12_goesOn_37) 6 rfl zddX12_goesOn_37 rfl
theorem dX12_goesOn_50 : decode cX12_goesOn 50 = .ok (.putfield 111, 3) := dq_get (L := lzddX12_goesOn_37) 7 rfl zddX12_goesOn_37 rfl
theorem dX12_goesOn_53 : decode cX12_goesOn 53 = .ok (.aload_n 0, 1) := dq_get (L := lzddX12_goesOn_37) 8 rfl zddX12_goesOn_37 rfl
theorem dX12_goesOn_54 : decode cX12_goesOn 54 = .ok (.aload_n 0, 1) := dq_get (L := lzddX12_goesOn_37) 9 rfl zddX12_goesOn_37 rfl
theorem dX12_goesOn_55 : decode cX12_goesOn 55 = .ok (.getfield 102, 3) := dq_get (L := lzddX12_goesOn_37) 10 rfl zddX12_goesOn_37 rfl
theorem dX12_goesOn_58 : decode cX12_goesOn 58 = .ok (.invokevirtual 105, 3) := dq_get (L := lzddX12_goesOn_37) 11 rfl zddX12_goesOn_37 rfl
theorem dX12_goesOn_61 : decode cX12_goesOn 61 = .ok (.istore_n 1, 1) := dq_get (L := lzddX12_goesOn_37) 12 rfl zddX12_goesOn_37 rfl
theorem dX12_goesOn_62 : decode cX12_goesOn 62 = .ok (.iconst 0, 1) := dq_get (L := lzddX12_goesOn_37) 13 rfl zddX12_goesOn_37 rfl
theorem dX12_goesOn_63 : decode cX12_goesOn 63 = .ok (.istore_n 2, 1) := dq_get (L := lzddX12_goesOn_37) 14 rfl zddX12_goesOn_37 rfl
theorem dX12_goesOn_64 : decode cX12_goesOn 64 = .ok (.iload_n 1, 1) := dq_get (L := lzddX12_goesOn_37) 15 rfl zddX12_goesOn_37 rfl
theorem dX12_goesOn_65 : decode cX12_goesOn 65 = .ok (.iconst (-1), 1) := dq_get (L := lzddX12_goesOn_37) 16 rfl zddX12_goesOn_37 rfl
theorem dX12_goesOn_66 : decode cX12_goesOn 66 = .ok (.if_icmp .ne 11, 3) := dq_get (L := lzddX12_goesOn_37) 17 rfl zddX12_goesOn_37 rfl
theorem dX12_goesOn_69 : decode cX12_goesOn 69 = .ok (.aload_n 0, 1) := dq_get (L := lzddX12_goesOn_37) 18 rfl zddX12_goesOn_37 rfl
theorem dX12_goesOn_70 : decode cX12_goesOn 70 = .ok (.iconst 1, 1) := dq_get (L := lzddX12_goesOn_37) 19 rfl zddX12_goesOn_37 rfl
def lzddX12_goesOn_71 : List (Nat × Instr × Nat) := [(71, .putfield 99, 3), (74, .goto 207, 3), (77, .iload_n 1, 1), (78, .invokestatic 114, 3), (81, .ifCond .eq 85, 3), (84, .aload_n 0, 1), (85, .lconst 0, 1), (86, .putfield 118, 3), (89, .aload_n 0, 1), (90, .aload_n 0, 1), (91, .getfield 102, 3), (94, .invokevirtual 105, 3), (97, .invokestatic 114, 3), (100, .ifCond .eq 52, 3), (103, .iload_n 2, 1), (104, .bipush 8, 2), (106, .if_icmp .ge 30, 3), (109, .aload_n 0, 1), (110, .ldc2_w 93, 3), (113, .aload_n 0, 1)]
theorem zddX12_goesOn_71 : dqW lzddX12_goesOn_71 (cX12_goesOn.data.toList.drop 71) 71 = true := by decide +kernel
theorem dX12_goesOn_71 : decode cX12_goesOn 71 = .ok (.putfield 99, 3) := dq_get (L := lzddX12_goesOn_71) 0 rfl zddX12_goesOn_71 rfl
theorem dX12_goesOn_74 : decode cX12_goesOn 74 = .ok (.goto 207, 3) := dq_get (L := lzddX12_goesOn_71) 1 rfl zddX12_goesOn_71 rfl
theorem dX12_goesOn_77 : decode cX12_goesOn 77 = .ok (.iload_n 1, 1) := dq_get (L := lzddX12_goesOn_71) 2 rfl zddX12_goesOn_71 rfl
theorem dX12_goesOn_78 : decode cX12_goesOn 78 = .ok (.invokestatic 114, 3) := dq_get (L := lzddX12_goesOn_71) 3 rfl zddX12_goesOn_71 rfl
theorem dX12_goesOn_81 : decode cX12_goesOn 81 = .ok (.ifCond .eq 85, 3) := dq_get (L := lzddX12_goesOn_71) 4 rfl zddX12_goesOn_71 rfl
theorem dX12_goesOn_84 : decode cX12_goesOn 84 = .ok (.aload_n 0, 1) := dq_get (L := lzddX12_goesOn_71) 5 rfl zddX12_goesOn_71 rfl
theorem dX12_goesOn_85 : decode cX12_goesOn 85 = .ok (.lconst 0, 1) := dq_get (L := lzddX12_goesOn_71) 6 rfl zddX12_goesOn_71 rfl
theorem dX12_goesOn_86 : decode cX12_goesOn 86 = .ok (.putfield 118, 3) := dq_get (L := lzddX12_goesOn_71) 7 rfl zddX12_goesOn_71 rfl
theorem dX12_goesOn_89 : decode cX12_goesOn 89 = .ok (.aload_n 0, 1) := dq_get (L := lzddX12_goesOn_71) 8 rfl zddX12_goesOn_71 rfl
theorem dX12_goesOn_90 : decode cX12_goesOn 90 = .ok (.aload_n 0, 1) := dq_get (L := lzddX12_goesOn_71) 9 rfl zddX12_goesOn_71 rfl
theorem dX12_goesOn_91 : decode cX12_goesOn 91 = .ok (.getfield 102, 3) := dq_get (L := lzddX12_goesOn_71) 10 rfl zddX12_goesOn_71 rfl
theorem dX12_goesOn_94 : decode cX12_goesOn 94 = .ok (.invokevirtual 105, 3) := dq_get (L := lzddX12_goesOn_71) 11 rfl zddX12_goesOn_71 rfl
theorem dX12_goesOn_97 : decode cX12_goesOn 97 = .ok (.invokestatic 114, 3) := dq_get (L := lzddX12_goesOn_71) 12 rfl zddX12_goesOn_71 rfl
theorem dX12_goesOn_100 : decode cX12_goesOn 100 = .ok (.ifCond .eq 52, 3) := dq_get (L := lzddX12_goesOn_71) 13 rfl zddX12_goesOn_71 rfl
theorem dX12_goesOn_103 : decode cX12_goesOn 103 = .ok (.iload_n 2, 1) := dq_get (L := lzddX12_goesOn_71) 14 rfl zddX12_goesOn_71 rfl
theorem dX12_goesOn_104 : decode cX12_goesOn 104 = .ok (.bipush 8, 2) := dq_get (L := lzddX12_goesOn_71) 15 rfl zddX12_goesOn_71 rfl
theorem dX12_goesOn_106 : decode cX12_goesOn 106 = .ok (.if_icmp .ge 30, 3) := dq_get (L := lzddX12_goesOn_71) 16 rfl zddX12_goesOn_71 rfl
theorem dX12_goesOn_109 : decode cX12_goesOn 109 = .ok (.aload_n 0, 1) := dq_get (L := lzddX12_goesOn_71) 17 rfl zddX12_goesOn_71 rfl
theorem dX12_goesOn_110 : decode cX12_goesOn 110 = .ok (.ldc2_w 93, 3) := dq_get (L := lzddX12_goesOn_71) 18 rfl zddX12_goesOn_71 rfl
theorem dX12_goesOn_113 : decode cX12_goesOn 113 = .ok (.aload_n 0, 1) := dq_get (L := lzddX12_goesOn_71) 19 rfl zddX12_goesOn_71 rfl
def lzddX12_goesOn_114 : List (Nat × Instr × Nat) := [(114, .getfield 118, 3), (117, .lmul, 1), (118, .aload_n 0, 1), (119, .aload_n 0, 1), (120, .getfield 102, 3), (123, .invokevirtual 105, 3), (126, .bipush 97, 2), (128, .isub, 1), (129, .iconst 1, 1), (130, .iadd, 1), (131, .i2l, 1), (132, .ladd, 1), (133, .putfield 118, 3), (136, .iinc 2 1, 3), (139, .aload_n 0, 1), (140, .dup, 1), (141, .getfield 102, 3), (144, .iconst 1, 1), (145, .iadd, 1), (146, .putfield 102, 3)]
theorem zddX12_goesOn_114 : dqW lzddX12_goesOn_114 (cX12_goesOn.data.toList.drop 114) 114 = true := by decide +kernel
theorem dX12_goesOn_114 : decode cX12_goesOn 114 = .ok (.getfield 118, 3) := dq_get (L := lzddX12_goesOn_114) 0 rfl zddX12_goesOn_114 rfl
theorem dX12_goesOn_117 : decode cX12_goesOn 117 = .ok (.lmul, 1) := dq_get (L := lzddX12_goesOn_114) 1 rfl zddX12_goesOn_114 rfl
theorem dX12_goesOn_118 : decode cX12_goesOn 118 = .ok (.aload_n 0, 1) := dq_get (L := lzddX12_goesOn_114) 2 rfl zddX12_goesOn_114 rfl
theorem dX12_goesOn_119 : decode cX12_goesOn 119 = .ok (.aload_n 0, 1) := dq_get (L := lzddX12_goesOn_114) 3 rfl zddX12_goesOn_114 rfl
theorem dX12_goesOn_120 : decode cX12_goesOn 120 = .ok (.getfield 102, 3) := dq_get (L := lzddX12_goesOn_114) 4 rfl zddX12_goesOn_114 rfl
theorem dX12_goesOn_123 : decode cX12_goesOn 123 = .ok (.invokevirtual 105, 3) := dq_get (L := lzddX12_goesOn_114) 5 rfl zddX12_goesOn_114 rfl
theorem dX12_goesOn_126 : decode cX12_goesOn 126 = .ok (.bipush 97, 2) := dq_get (L := lzddX12_goesOn_114) 6 rfl zddX12_goesOn_114 rfl
theorem dX12_goesOn_128 : decode cX12_goesOn 128 = .ok (.isub, 1) := dq_get (L := lzddX12_goesOn_114) 7 rfl zddX12_goesOn_114 rfl
theorem dX12_goesOn_129 : decode cX12_goesOn 129 = .ok (.iconst 1, 1) := dq_get (L := lzddX12_goesOn_114) 8 rfl zddX12_goesOn_114 rfl
theorem dX12_goesOn_130 : decode cX12_goesOn 130 = .ok (.iadd, 1) := dq_get (L := lzddX12_goesOn_114) 9 rfl zddX12_goesOn_114 rfl
theorem dX12_goesOn_131 : decode cX12_goesOn 131 = .ok (.i2l, 1) := dq_get (L := lzddX12_goesOn_114) 10 rfl zddX12_goesOn_114 rfl
theorem dX12_goesOn_132 : decode cX12_goesOn 132 = .ok (.ladd, 1) := dq_get (L := lzddX12_goesOn_114) 11 rfl zddX12_goesOn_114 rfl
theorem dX12_goesOn_133 : decode cX12_goesOn 133 = .ok (.putfield 118, 3) := dq_get (L := lzddX12_goesOn_114) 12 rfl zddX12_goesOn_114 rfl
theorem dX12_goesOn_136 : decode cX12_goesOn 136 = .ok (.iinc 2 1, 3) := dq_get (L := lzddX12_goesOn_114) 13 rfl zddX12_goesOn_114 rfl
theorem dX12_goesOn_139 : decode cX12_goesOn 139 = .ok (.aload_n 0, 1) := dq_get (L := lzddX12_goesOn_114) 14 rfl zddX12_goesOn_114 rfl
theorem dX12_goesOn_140 : decode cX12_goesOn 140 = .ok (.dup, 1) := dq_get (L := lzddX12_goesOn_114) 15 rfl zddX12_goesOn_114 rfl
theorem dX12_goesOn_141 : decode cX12_goesOn 141 = .ok (.getfield 102, 3) := dq_get (L := lzddX12_goesOn_114) 16 rfl zddX12_goesOn_114 rfl
theorem dX12_goesOn_144 : decode cX12_goesOn 144 = .ok (.iconst 1, 1) := dq_get (L := lzddX12_goesOn_114) 17 rfl zddX12_goesOn_114 rfl
theorem dX12_goesOn_145 : decode cX12_goesOn 145 = .ok (.iadd, 1) := dq_get (L := lzddX12_goesOn_114) 18 rfl zddX12_goesOn_114 rfl
theorem dX12_goesOn_146 : decode cX12_goesOn 146 = .ok (.putfield 102, 3) := dq_get (L := lzddX12_goesOn_114) 19 rfl zddX12_goesOn_114 rfl
def lzddX12_goesOn_149 : List (Nat × Instr × Nat) := [(149, .goto (-60), 3), (152, .iload_n 2, 1), (153, .bipush 8, 2), (155, .if_icmp .gt 126, 3), (158, .aload_n 0, 1), (159, .iconst 2, 1), (160, .putfield 99, 3), (163, .goto 118, 3), (166, .iload_n 1, 1), (167, .invokestatic 122, 3), (170, .ifCond .eq 79, 3), (173, .aload_n 0, 1), (174, .iconst 0, 1), (175, .putfield 125, 3), (178, .aload_n 0, 1), (179, .aload_n 0, 1), (180, .getfield 102, 3), (183, .invokevirtual 105, 3), (186, .invokestatic 122, 3), (189, .ifCond .eq 47, 3)]
theorem zddX12_goesOn_149 : dqW lzddX12_goesOn_149 (cX12_goesOn.data.toList.drop 149) 149 = true := by decide +kernel
theorem dX12_goesOn_149 : decode cX12_goesOn 149 = .ok (.goto (-60), 3) := dq_get (L := lzddX12_goesOn_149) 0 rfl zddX12_goesOn_149 rfl
theorem dX12_goesOn_152 : decode cX12_goesOn 152 = .ok (.iload_n 2, 1) := dq_get (L := lzddX12_goesOn_149) 1 rfl zddX12_goesOn_149 rfl
theorem dX12_goesOn_153 : decode cX12_goesOn 153 = .ok (.bipush 8, 2) := dq_get (L := lzddX12_goesOn_149) 2 rfl zddX12_goesOn_149 rfl
theorem dX12_goesOn_155 : decode cX12_goesOn 155 = .ok (.if_icmp .gt 126, 3) := dq_get (L := lzddX12_goesOn_149) 3 rfl zddX12_goesOn_149 rfl
theorem dX12_goesOn_158 : decode cX12_goesOn 158 = .ok (.aload_n 0, 1) := dq_get (L := lzddX12_goesOn_149) 4 rfl zddX12_goesOn_149 rfl
theorem dX12_goesOn_159 : decode cX12_goesOn 159 = .ok (.iconst 2, 1) := dq_get (L := lzddX12_goesOn_149) 5 rfl zddX12_goesOn_149 rfl
theorem dX12_goesOn_160 : decode cX12_goesOn 160 = .ok (.putfield 99, 3) := dq_get (L := lzddX12_goesOn_149) 6 rfl zddX12_goesOn_149 rfl
theorem dX12_goesOn_163 : decode cX12_goesOn 163 = .ok (.goto 118, 3) := dq_get (L := lzddX12_goesOn_149) 7 rfl zddX12_goesOn_149 rfl
theorem dX12_goesOn_166 : decode cX12_goesOn 166 = .ok (.iload_n 1, 1) := dq_get (L := lzddX12_goesOn_149) 8 rfl zddX12_goesOn_149 rfl
theorem dX12_goesOn_167 : decode cX12_goesOn 167 = .ok (.invokestatic 122, 3) := dq_get (L := lzddX12_goesOn_149) 9 rfl zddX12_goesOn_149 rfl
theorem dX12_goesOn_170 : decode cX12_goesOn 170 = .ok (.ifCond .eq 79, 3) := dq_get (L := lzddX12_goesOn_149) 10 rfl zddX12_goesOn_149 rfl
theorem dX12_goesOn_173 : decode cX12_goesOn 173 = .ok (.aload_n 0, 1) := dq_get (L := lzddX12_goesOn_149) 11 rfl zddX12_goesOn_149 rfl
theorem dX12_goesOn_174 : decode cX12_goesOn 174 = .ok (.iconst 0, 1) := dq_get (L := lzddX12_goesOn_149) 12 rfl zddX12_goesOn_149 rfl
theorem dX12_goesOn_175 : decode cX12_goesOn 175 = .ok (.putfield 125, 3) := dq_get (L := lzddX12_goesOn_149) 13 rfl zddX12_goesOn_149 rfl
theorem dX12_goesOn_178 : decode cX12_goesOn 178 = .ok (.aload_n 0, 1) := dq_get (L := lzddX12_goesOn_149) 14 rfl zddX12_goesOn_149 rfl
theorem dX12_goesOn_179 : decode cX12_goesOn 179 = .ok (.aload_n 0, 1) := dq_get (L := lzddX12_goesOn_149) 15 rfl zddX12_goesOn_149 rfl
theorem dX12_goesOn_180 : decode cX12_goesOn 180 = .ok (.getfield 102, 3) := dq_get (L := lzddX12_goesOn_149) 16 rfl zddX12_goesOn_149 rfl
theorem dX12_goesOn_183 : decode cX12_goesOn 183 = .ok (.invokevirtual 105, 3) := dq_get (L := lzddX12_goesOn_149) 17 rfl zddX12_goesOn_149 rfl
theorem dX12_goesOn_186 : decode cX12_goesOn 186 = .ok (.invokestatic 122, 3) := dq_get (L := lzddX12_goesOn_149) 18 rfl zddX12_goesOn_149 rfl
theorem dX12_goesOn_189 : decode cX12_goesOn 189 = .ok (.ifCond .eq 47, 3) := dq_get (L := lzddX12_goesOn_149) 19 rfl zddX12_goesOn_149 rfl
def lzddX12_goesOn_192 : List (Nat × Instr × Nat) := [(192, .iload_n 2, 1), (193, .iconst 3, 1), (194, .if_icmp .ge 26, 3), (197, .aload_n 0, 1), (198, .bipush 10, 2), (200, .aload_n 0, 1), (201, .getfield 125, 3), (204, .imul, 1), (205, .aload_n 0, 1), (206, .aload_n 0, 1), (207, .getfield 102, 3), (210, .invokevirtual 105, 3), (213, .iadd, 1), (214, .bipush 48, 2), (216, .isub, 1), (217, .putfield 125, 3), (220, .iinc 2 1, 3), (223, .aload_n 0, 1), (224, .dup, 1), (225, .getfield 102, 3)]
theorem zddX12_goesOn_192 : dqW lzddX12_goesOn_192 (cX12_goesOn.data.toList.drop 192) 192 = true := by decide +kernel
theorem dX12_goesOn_192 : decode cX12_goesOn 192 = .ok (.iload_n 2, 1) := dq_get (L := lzddX12_goesOn_192) 0 rfl zddX12_goesOn_192 rfl
theorem dX12_goesOn_193 : decode cX12_goesOn 193 = .ok (.iconst 3, 1) := dq_get (L := lzddX12_goesOn_192) 1 rfl zddX12_goesOn_192 rfl
theorem dX12_goesOn_194 : decode cX12_goesOn 194 = .ok (.if_icmp .ge 26, 3) := dq_get (L := lzddX12_goesOn_192) 2 rfl zddX12_goesOn_192 rfl
theorem dX12_goesOn_197 : decode cX12_goesOn 197 = .ok (.aload_n 0, 1) := dq_get (L := lzddX12_goesOn_192) 3 rfl zddX12_goesOn_192 rfl
theorem dX12_goesOn_198 : decode cX12_goesOn 198 = .ok (.bipush 10, 2) := dq_get (L := lzddX12_goesOn_192) 4 rfl zddX12_goesOn_192 rfl
theorem dX12_goesOn_200 : decode cX12_goesOn 200 = .ok (.aload_n 0, 1) := dq_get (L := lzddX12_goesOn_192) 5 rfl zddX12_goesOn_192 rfl
theorem dX12_goesOn_201 : decode cX12_goesOn 201 = .ok (.getfield 125, 3) := dq_get (L := lzddX12_goesOn_192) 6 rfl zddX12_goesOn_192 rfl
theorem dX12_goesOn_204 : decode cX12_goesOn 204 = .ok (.imul, 1) := dq_get (L := lzddX12_goesOn_192) 7 rfl zddX12_goesOn_192 rfl
theorem dX12_goesOn_205 : decode cX12_goesOn 205 = .ok (.aload_n 0, 1) := dq_get (L := lzddX12_goesOn_192) 8 rfl zddX12_goesOn_192 rfl
theorem dX12_goesOn_206 : decode cX12_goesOn 206 = .ok (.aload_n 0, 1) := dq_get (L := lzddX12_goesOn_192) 9 rfl zddX12_goesOn_192 rfl
theorem dX12_goesOn_207 : decode cX12_goesOn 207 = .ok (.getfield 102, 3) := dq_get (L := lzddX12_goesOn_192) 10 rfl zddX12_goesOn_192 rfl
theorem dX12_goesOn_210 : decode cX12_goesOn 210 = .ok (.invokevirtual 105, 3) := dq_get (L := lzddX12_goesOn_192) 11 rfl zddX12_goesOn_192 rfl
theorem dX12_goesOn_213 : decode cX12_goesOn 213 = .ok (.iadd, 1) := dq_get (L := lzddX12_goesOn_192) 12 rfl zddX12_goesOn_192 rfl
theorem dX12_goesOn_214 : decode cX12_goesOn 214 = .ok (.bipush 48, 2) := dq_get (L := lzddX12_goesOn_192) 13 rfl zddX12_goesOn_192 rfl
theorem dX12_goesOn_216 : decode cX12_goesOn 216 = .ok (.isub, 1) := dq_get (L := lzddX12_goesOn_192) 14 rfl zddX12_goesOn_192 rfl
theorem dX12_goesOn_217 : decode cX12_goesOn 217 = .ok (.putfield 125, 3) := dq_get (L := lzddX12_goesOn_192) 15 rfl zddX12_goesOn_192 rfl
theorem dX12_goesOn_220 : decode cX12_goesOn 220 = .ok (.iinc 2 1, 3) := dq_get (L := lzddX12_goesOn_192) 16 rfl zddX12_goesOn_192 rfl
theorem dX12_goesOn_223 : decode cX12_goesOn 223 = .ok (.aload_n 0, 1) := dq_get (L := lzddX12_goesOn_192) 17 rfl zddX12_goesOn_192 rfl
theorem dX12_goesOn_224 : decode cX12_goesOn 224 = .ok (.dup, 1) := dq_get (L := lzddX12_goesOn_192) 18 rfl zddX12_goesOn_192 rfl
theorem dX12_goesOn_225 : decode cX12_goesOn 225 = .ok (.getfield 102, 3) := dq_get (L := lzddX12_goesOn_192) 19 rfl zddX12_goesOn_192 rfl
def lzddX12_goesOn_228 : List (Nat × Instr × Nat) := [(228, .iconst 1, 1), (229, .iadd, 1), (230, .putfield 102, 3), (233, .goto (-55), 3), (236, .iload_n 2, 1), (237, .iconst 3, 1), (238, .if_icmp .gt 43, 3), (241, .aload_n 0, 1), (242, .iconst 3, 1), (243, .putfield 99, 3), (246, .goto 35, 3), (249, .iload_n 1, 1), (250, .bipush 59, 2), (252, .if_icmp .eq 9, 3), (255, .iload_n 1, 1), (256, .bipush 44, 2), (258, .if_icmp .ne 23, 3), (261, .aload_n 0, 1), (262, .iconst 4, 1), (263, .putfield 99, 3)]
theorem zddX12_goesOn_228 : dqW lzddX12_goesOn_228 (cX12_goesOn.data.toList.drop 228) 228 = true := by decide +kernel
theorem dX12_goesOn_228 : decode cX12_goesOn 228 = .ok (.iconst 1, 1) := dq_get (L := lzddX12_goesOn_228) 0 rfl zddX12_goesOn_228 rfl
theorem dX12_goesOn_229 : decode cX12_goesOn 229 = .ok (.iadd, 1) := dq_get (L := lzddX12_goesOn_228) 1 rfl zddX12_goesOn_228 rfl
theorem dX12_goesOn_230 : decode cX12_goesOn 230 = .ok (.putfield 102, 3) := dq_get (L := lzddX12_goesOn_228) 2 rfl zddX12_goesOn_228 rfl
theorem dX12_goesOn_233 : decode cX12_goesOn 233 = .ok (.goto (-55), 3) := dq_get (L := lzddX12_goesOn_228) 3 rfl zddX12_goesOn_228 rfl
theorem dX12_goesOn_236 : decode cX12_goesOn 236 = .ok (.iload_n 2, 1) := dq_get (L := lzddX12_goesOn_228) 4 rfl zddX12_goesOn_228 rfl
theorem dX12_goesOn_237 : decode cX12_goesOn 237 = .ok (.iconst 3, 1) := dq_get (L := lzddX12_goesOn_228) 5 rfl zddX12_goesOn_228 rfl
theorem dX12_goesOn_238 : decode cX12_goesOn 238 = .ok (.if_icmp .gt 43, 3) := dq_get (L := lzddX12_goesOn_228) 6 rfl zddX12_goesOn_228 rfl
theorem dX12_goesOn_241 : decode cX12_goesOn 241 = .ok (.aload_n 0, 1) := dq_get (L := lzddX12_goesOn_228) 7 rfl zddX12_goesOn_228 rfl
theorem dX12_goesOn_242 : decode cX12_goesOn 242 = .ok (.iconst 3, 1) := dq_get (L := lzddX12_goesOn_228) 8 rfl zddX12_goesOn_228 rfl
theorem dX12_goesOn_243 : decode cX12_goesOn 243 = .ok (.putfield 99, 3) := dq_get (L := lzddX12_goesOn_228) 9 rfl zddX12_goesOn_228 rfl
theorem dX12_goesOn_246 : decode cX12_goesOn 246 = .ok (.goto 35, 3) := dq_get (L := lzddX12_goesOn_228) 10 rfl zddX12_goesOn_228 rfl
theorem dX12_goesOn_249 : decode cX12_goesOn 249 = .ok (.iload_n 1, 1) := dq_get (L := lzddX12_goesOn_228) 11 rfl zddX12_goesOn_228 rfl
theorem dX12_goesOn_250 : decode cX12_goesOn 250 = .ok (.bipush 59, 2) := dq_get (L := lzddX12_goesOn_228) 12 rfl zddX12_goesOn_228 rfl
theorem dX12_goesOn_252 : decode cX12_goesOn 252 = .ok (.if_icmp .eq 9, 3) := dq_get (L := lzddX12_goesOn_228) 13 rfl zddX12_goesOn_228 rfl
theorem dX12_goesOn_255 : decode cX12_goesOn 255 = .ok (.iload_n 1, 1) := dq_get (L := lzddX12_goesOn_228) 14 rfl zddX12_goesOn_228 rfl
theorem dX12_goesOn_256 : decode cX12_goesOn 256 = .ok (.bipush 44, 2) := dq_get (L := lzddX12_goesOn_228) 15 rfl zddX12_goesOn_228 rfl
theorem dX12_goesOn_258 : decode cX12_goesOn 258 = .ok (.if_icmp .ne 23, 3) := dq_get (L := lzddX12_goesOn_228) 16 rfl zddX12_goesOn_228 rfl
theorem dX12_goesOn_261 : decode cX12_goesOn 261 = .ok (.aload_n 0, 1) := dq_get (L := lzddX12_goesOn_228) 17 rfl zddX12_goesOn_228 rfl
theorem dX12_goesOn_262 : decode cX12_goesOn 262 = .ok (.iconst 4, 1) := dq_get (L := lzddX12_goesOn_228) 18 rfl zddX12_goesOn_228 rfl
theorem dX12_goesOn_263 : decode cX12_goesOn 263 = .ok (.putfield 99, 3) := dq_get (L := lzddX12_goesOn_228) 19 rfl zddX12_goesOn_228 rfl
def lzddX12_goesOn_266 : List (Nat × Instr × Nat) := [(266, .aload_n 0, 1), (267, .iload_n 1, 1), (268, .putfield 111, 3), (271, .aload_n 0, 1), (272, .dup, 1), (273, .getfield 102, 3), (276, .iconst 1, 1), (277, .iadd, 1), (278, .putfield 102, 3), (281, .return_, 1)]
theorem zddX12_goesOn_266 : dqW lzddX12_goesOn_266 (cX12_goesOn.data.toList.drop 266) 266 = true := by decide +kernel
theorem dX12_goesOn_266 : decode cX12_goesOn 266 = .ok (.aload_n 0, 1) := dq_get (L := lzddX12_goesOn_266) 0 rfl zddX12_goesOn_266 rfl
theorem dX12_goesOn_267 : decode cX12_goesOn 267 = .ok (.iload_n 1, 1) := dq_get (L := lzddX12_goesOn_266) 1 rfl zddX12_goesOn_266 rfl
theorem dX12_goesOn_268 : decode cX12_goesOn 268 = .ok (.putfield 111, 3) := dq_get (L := lzddX12_goesOn_266) 2 rfl zddX12_goesOn_266 rfl
theorem dX12_goesOn_271 : decode cX12_goesOn 271 = .ok (.aload_n 0, 1) := dq_get (L := lzddX12_goesOn_266) 3 rfl zddX12_goesOn_266 rfl
theorem dX12_goesOn_272 : decode cX12_goesOn 272 = .ok (.dup, 1) := dq_get (L := lzddX12_goesOn_266) 4 rfl zddX12_goesOn_266 rfl
theorem dX12_goesOn_273 : decode cX12_goesOn 273 = .ok (.getfield 102, 3) := dq_get (L := lzddX12_goesOn_266) 5 rfl zddX12_goesOn_266 rfl
theorem dX12_goesOn_276 : decode cX12_goesOn 276 = .ok (.iconst 1, 1) := dq_get (L := lzddX12_goesOn_266) 6 rfl zddX12_goesOn_266 rfl
theorem dX12_goesOn_277 : decode cX12_goesOn 277 = .ok (.iadd, 1) := dq_get (L := lzddX12_goesOn_266) 7 rfl zddX12_goesOn_266 rfl
theorem dX12_goesOn_278 : decode cX12_goesOn 278 = .ok (.putfield 102, 3) := dq_get (L := lzddX12_goesOn_266) 8 rfl zddX12_goesOn_266 rfl
theorem dX12_goesOn_281 : decode cX12_goesOn 281 = .ok (.return_, 1) := dq_get (L := lzddX12_goesOn_266) 9 rfl zddX12_goesOn_266 rfl
def lzddX12_good_0 : List (Nat × Instr × Nat) := [(0, .aload_n 0, 1), (1, .iconst 0, 1), (2, .putfield 73, 3), (5, .aload_n 0, 1), (6, .iconst (-1), 1), (7, .putfield 9, 3), (10, .iload_n 1, 1), (11, .ireturn, 1)]
theorem zddX12_good_0 : dqW lzddX12_good_0 (cX12_good.data.toList.drop 0) 0 = true := by decide +kernel
theorem dX12_good_0 : decode cX12_good 0 = .ok (.aload_n 0, 1) := dq_get (L := lzddX12_good_0) 0 rfl zddX12_good_0 rfl
theorem dX12_good_1 : decode cX12_good 1 = .ok (.iconst 0, 1) := dq_get (L := lzddX12_good_0) 1 rfl zddX12_good_0 rfl
theorem dX12_good_2 : decode cX12_good 2 = .ok (.putfield 73, 3) := dq_get (L := lzddX12_good_0) 2 rfl zddX12_good_0 rfl
theorem dX12_good_5 : decode cX12_good 5 = .ok (.aload_n 0, 1) := dq_get (L := lzddX12_good_0) 3 rfl zddX12_good_0 rfl
theorem dX12_good_6 : decode cX12_good 6 = .ok (.iconst (-1), 1) := dq_get (L := lzddX12_good_0) 4 rfl zddX12_good_0 rfl
theorem dX12_good_7 : decode cX12_good 7 = .ok (.putfield 9, 3) := dq_get (L := lzddX12_good_0) 5 rfl zddX12_good_0 rfl
theorem dX12_good_10 : decode cX12_good 10 = .ok (.iload_n 1, 1) := dq_get (L := lzddX12_good_0) 6 rfl zddX12_good_0 rfl
theorem dX12_good_11 : decode cX12_good 11 = .ok (.ireturn, 1) := dq_get (L := lzddX12_good_0) 7 rfl zddX12_good_0 rfl
def lzddX12_granted_0 : List (Nat × Instr × Nat) := [(0, .aload_n 0, 1), (1, .iconst 0, 1), (2, .invokevirtual 81, 3), (5, .pop, 1), (6, .iconst 1, 1), (7, .ireturn, 1)]
theorem zddX12_granted_0 : dqW lzddX12_granted_0 (cX12_granted.data.toList.drop 0) 0 = true := by decide +kernel
theorem dX12_granted_0 : decode cX12_granted 0 = .ok (.aload_n 0, 1) := dq_get (L := lzddX12_granted_0) 0 rfl zddX12_granted_0 rfl
theorem dX12_granted_1 : decode cX12_granted 1 = .ok (.iconst 0, 1) := dq_get (L := lzddX12_granted_0) 1 rfl zddX12_granted_0 rfl
theorem dX12_granted_2 : decode cX12_granted 2 = .ok (.invokevirtual 81, 3) := dq_get (L := lzddX12_granted_0) 2 rfl zddX12_granted_0 rfl
theorem dX12_granted_5 : decode cX12_granted 5 = .ok (.pop, 1) := dq_get (L := lzddX12_granted_0) 3 rfl zddX12_granted_0 rfl
theorem dX12_granted_6 : decode cX12_granted 6 = .ok (.iconst 1, 1) := dq_get (L := lzddX12_granted_0) 4 rfl zddX12_granted_0 rfl
theorem dX12_granted_7 : decode cX12_granted 7 = .ok (.ireturn, 1) := dq_get (L := lzddX12_granted_0) 5 rfl zddX12_granted_0 rfl
def lzddX12_has_0 : List (Nat × Instr × Nat) := [(0, .iload_n 0, 1), (1, .iload_n 1, 1), (2, .ishr, 1), (3, .iconst 1, 1), (4, .iand, 1), (5, .iconst 1, 1), (6, .if_icmp .ne 7, 3), (9, .iconst 1, 1), (10, .goto 4, 3), (13, .iconst 0, 1), (14, .ireturn, 1)]
theorem zddX12_has_0 : dqW lzddX12_has_0 (cX12_has.data.toList.drop 0) 0 = true := by decide +kernel
theorem dX12_has_0 : decode cX12_has 0 = .ok (.iload_n 0, 1) := dq_get (L := lzddX12_has_0) 0 rfl zddX12_has_0 rfl
theorem dX12_has_1 : decode cX12_has 1 = .ok (.iload_n 1, 1) := dq_get (L := lzddX12_has_0) 1 rfl zddX12_has_0 rfl
theorem dX12_has_2 : decode cX12_has 2 = .ok (.ishr, 1) := dq_get (L := lzddX12_has_0) 2 rfl zddX12_has_0 rfl
theorem dX12_has_3 : decode cX12_has 3 = .ok (.iconst 1, 1) := dq_get (L := lzddX12_has_0) 3 rfl zddX12_has_0 rfl
theorem dX12_has_4 : decode cX12_has 4 = .ok (.iand, 1) := dq_get (L := lzddX12_has_0) 4 rfl zddX12_has_0 rfl
theorem dX12_has_5 : decode cX12_has 5 = .ok (.iconst 1, 1) := dq_get (L := lzddX12_has_0) 5 rfl zddX12_has_0 rfl
theorem dX12_has_6 : decode cX12_has 6 = .ok (.if_icmp .ne 7, 3) := dq_get (L := lzddX12_has_0) 6 rfl zddX12_has_0 rfl
theorem dX12_has_9 : decode cX12_has 9 = .ok (.iconst 1, 1) := dq_get (L := lzddX12_has_0) 7 rfl zddX12_has_0 rfl
theorem dX12_has_10 : decode cX12_has 10 = .ok (.goto 4, 3) := dq_get (L := lzddX12_has_0) 8 rfl zddX12_has_0 rfl
theorem dX12_has_13 : decode cX12_has 13 = .ok (.iconst 0, 1) := dq_get (L := lzddX12_has_0) 9 rfl zddX12_has_0 rfl
theorem dX12_has_14 : decode cX12_has 14 = .ok (.ireturn, 1) := dq_get (L := lzddX12_has_0) 10 rfl zddX12_has_0 rfl
def lzddX12_hutOf_0 : List (Nat × Instr × Nat) := [(0, .iload_n 1, 1), (1, .aload_n 0, 1), (2, .getfield 385, 3), (5, .getfield 265, 3), (8, .if_icmp .ge 15, 3), (11, .aload_n 0, 1), (12, .getfield 385, 3), (15, .getfield 277, 3), (18, .iload_n 1, 1), (19, .iaload, 1), (20, .goto 5, 3), (23, .bipush (-2), 2), (25, .ireturn, 1)]
theorem zddX12_hutOf_0 : dqW lzddX12_hutOf_0 (cX12_hutOf.data.toList.drop 0) 0 = true := by decide +kernel
theorem dX12_hutOf_0 : decode cX12_hutOf 0 = .ok (.iload_n 1, 1) := dq_get (L := lzddX12_hutOf_0) 0 rfl zddX12_hutOf_0 rfl
theorem dX12_hutOf_1 : decode cX12_hutOf 1 = .ok (.aload_n 0, 1) := dq_get (L := lzddX12_hutOf_0) 1 rfl zddX12_hutOf_0 rfl
theorem dX12_hutOf_2 : decode cX12_hutOf 2 = .ok (.getfield 385, 3) := dq_get (L := lzddX12_hutOf_0) 2 rfl zddX12_hutOf_0 rfl
theorem dX12_hutOf_5 : decode cX12_hutOf 5 = .ok (.getfield 265, 3) := dq_get (L := lzddX12_hutOf_0) 3 rfl zddX12_hutOf_0 rfl
theorem dX12_hutOf_8 : decode cX12_hutOf 8 = .ok (.if_icmp .ge 15, 3) := dq_get (L := lzddX12_hutOf_0) 4 rfl zddX12_hutOf_0 rfl
theorem dX12_hutOf_11 : decode cX12_hutOf 11 = .ok (.aload_n 0, 1) := dq_get (L := lzddX12_hutOf_0) 5 rfl zddX12_hutOf_0 rfl
theorem dX12_hutOf_12 : decode cX12_hutOf 12 = .ok (.getfield 385, 3) := dq_get (L := lzddX12_hutOf_0) 6 rfl zddX12_hutOf_0 rfl
theorem dX12_hutOf_15 : decode cX12_hutOf 15 = .ok (.getfield 277, 3) := dq_get (L := lzddX12_hutOf_0) 7 rfl zddX12_hutOf_0 rfl
theorem dX12_hutOf_18 : decode cX12_hutOf 18 = .ok (.iload_n 1, 1) := dq_get (L := lzddX12_hutOf_0) 8 rfl zddX12_hutOf_0 rfl
theorem dX12_hutOf_19 : decode cX12_hutOf 19 = .ok (.iaload, 1) := dq_get (L := lzddX12_hutOf_0) 9 rfl zddX12_hutOf_0 rfl
theorem dX12_hutOf_20 : decode cX12_hutOf 20 = .ok (.goto 5, 3) := dq_get (L := lzddX12_hutOf_0) 10 rfl zddX12_hutOf_0 rfl
theorem dX12_hutOf_23 : decode cX12_hutOf 23 = .ok (.bipush (-2), 2) := dq_get (L := lzddX12_hutOf_0) 11 rfl zddX12_hutOf_0 rfl
theorem dX12_hutOf_25 : decode cX12_hutOf 25 = .ok (.ireturn, 1) := dq_get (L := lzddX12_hutOf_0) 12 rfl zddX12_hutOf_0 rfl
def lzddX12_in_0 : List (Nat × Instr × Nat) := [(0, .iload_n 0, 1), (1, .iload_n 1, 1), (2, .if_icmp .lt 12, 3), (5, .iload_n 0, 1), (6, .iload_n 2, 1), (7, .if_icmp .gt 7, 3), (10, .iconst 1, 1), (11, .goto 4, 3), (14, .iconst 0, 1), (15, .ireturn, 1)]
theorem zddX12_in_0 : dqW lzddX12_in_0 (cX12_in.data.toList.drop 0) 0 = true := by decide +kernel
theorem dX12_in_0 : decode cX12_in 0 = .ok (.iload_n 0, 1) := dq_get (L := lzddX12_in_0) 0 rfl zddX12_in_0 rfl
theorem dX12_in_1 : decode cX12_in 1 = .ok (.iload_n 1, 1) := dq_get (L := lzddX12_in_0) 1 rfl zddX12_in_0 rfl
theorem dX12_in_2 : decode cX12_in 2 = .ok (.if_icmp .lt 12, 3) := dq_get (L := lzddX12_in_0) 2 rfl zddX12_in_0 rfl
theorem dX12_in_5 : decode cX12_in 5 = .ok (.iload_n 0, 1) := dq_get (L := lzddX12_in_0) 3 rfl zddX12_in_0 rfl
theorem dX12_in_6 : decode cX12_in 6 = .ok (.iload_n 2, 1) := dq_get (L := lzddX12_in_0) 4 rfl zddX12_in_0 rfl
theorem dX12_in_7 : decode cX12_in 7 = .ok (.if_icmp .gt 7, 3) := dq_get (L := lzddX12_in_0) 5 rfl zddX12_in_0 rfl
theorem dX12_in_10 : decode cX12_in 10 = .ok (.iconst 1, 1) := dq_get (L := lzddX12_in_0) 6 rfl zddX12_in_0 rfl
theorem dX12_in_11 : decode cX12_in 11 = .ok (.goto 4, 3) := dq_get (L := lzddX12_in_0) 7 rfl zddX12_in_0 rfl
theorem dX12_in_14 : decode cX12_in 14 = .ok (.iconst 0, 1) := dq_get (L := lzddX12_in_0) 8 rfl zddX12_in_0 rfl
theorem dX12_in_15 : decode cX12_in 15 = .ok (.ireturn, 1) := dq_get (L := lzddX12_in_0) 9 rfl zddX12_in_0 rfl
def lzddX12_isAwake_0 : List (Nat × Instr × Nat) := [(0, .iload_n 2, 1), (1, .aload_n 0, 1), (2, .getfield 385, 3), (5, .getfield 336, 3), (8, .iload_n 1, 1), (9, .iaload, 1), (10, .aload_n 0, 1), (11, .getfield 385, 3), (14, .getfield 339, 3), (17, .iload_n 1, 1), (18, .iaload, 1), (19, .iconst 1, 1), (20, .isub, 1), (21, .invokestatic 149, 3), (24, .ifCond .eq 5, 3), (27, .iconst 1, 1), (28, .ireturn, 1), (29, .aload_n 0, 1), (30, .getfield 385, 3), (33, .getfield 333, 3)]
theorem zddX12_isAwake_0 : dqW lzddX12_isAwake_0 (cX12_isAwake.data.toList.drop 0) 0 = true := by decide +kernel
theorem dX12_isAwake_0 : decode cX12_isAwake 0 = .ok (.iload_n 2, 1) := dq_get (L := lzddX12_isAwake_0) 0 rfl zddX12_isAwake_0 rfl
theorem dX12_isAwake_1 : decode cX12_isAwake 1 = .ok (.aload_n 0, 1) := dq_get (L := lzddX12_isAwake_0) 1 rfl zddX12_isAwake_0 rfl
theorem dX12_isAwake_2 : decode cX12_isAwake 2 = .ok (.getfield 385, 3) := dq_get (L := lzddX12_isAwake_0) 2 rfl zddX12_isAwake_0 rfl
theorem dX12_isAwake_5 : decode cX12_isAwake 5 = .ok (.getfield 336, 3) := dq_get (L := lzddX12_isAwake_0) 3 rfl zddX12_isAwake_0 rfl
theorem dX12_isAwake_8 : decode cX12_isAwake 8 = .ok (.iload_n 1, 1) := dq_get (L := lzddX12_isAwake_0) 4 rfl zddX12_isAwake_0 rfl
theorem dX12_isAwake_9 : decode cX12_isAwake 9 = .ok (.iaload, 1) := dq_get (L := lzddX12_isAwake_0) 5 rfl zddX12_isAwake_0 rfl
theorem dX12_isAwake_10 : decode cX12_isAwake 10 = .ok (.aload_n 0, 1) := dq_get (L := lzddX12_isAwake_0) 6 rfl zddX12_isAwake_0 rfl
theorem dX12_isAwake_11 : decode cX12_isAwake 11 = .ok (.getfield 385, 3) := dq_get (L := lzddX12_isAwake_0) 7 rfl zddX12_isAwake_0 rfl
theorem dX12_isAwake_14 : decode cX12_isAwake 14 = .ok (.getfield 339, 3) := dq_get (L := lzddX12_isAwake_0) 8 rfl zddX12_isAwake_0 rfl
theorem dX12_isAwake_17 : decode cX12_isAwake 17 = .ok (.iload_n 1, 1) := dq_get (L := lzddX12_isAwake_0) 9 rfl zddX12_isAwake_0 rfl
theorem dX12_isAwake_18 : decode cX12_isAwake 18 = .ok (.iaload, 1) := dq_get (L := lzddX12_isAwake_0) 10 rfl zddX12_isAwake_0 rfl
theorem dX12_isAwake_19 : decode cX12_isAwake 19 = .ok (.iconst 1, 1) := dq_get (L := lzddX12_isAwake_0) 11 rfl zddX12_isAwake_0 rfl
theorem dX12_isAwake_20 : decode cX12_isAwake 20 = .ok (.isub, 1) := dq_get (L := lzddX12_isAwake_0) 12 rfl zddX12_isAwake_0 rfl
theorem dX12_isAwake_21 : decode cX12_isAwake 21 = .ok (.invokestatic 149, 3) := dq_get (L := lzddX12_isAwake_0) 13 rfl zddX12_isAwake_0 rfl
theorem dX12_isAwake_24 : decode cX12_isAwake 24 = .ok (.ifCond .eq 5, 3) := dq_get (L := lzddX12_isAwake_0) 14 rfl zddX12_isAwake_0 rfl
theorem dX12_isAwake_27 : decode cX12_isAwake 27 = .ok (.iconst 1, 1) := dq_get (L := lzddX12_isAwake_0) 15 rfl zddX12_isAwake_0 rfl
theorem dX12_isAwake_28 : decode cX12_isAwake 28 = .ok (.ireturn, 1) := dq_get (L := lzddX12_isAwake_0) 16 rfl zddX12_isAwake_0 rfl
theorem dX12_isAwake_29 : decode cX12_isAwake 29 = .ok (.aload_n 0, 1) := dq_get (L := lzddX12_isAwake_0) 17 rfl zddX12_isAwake_0 rfl
theorem dX12_isAwake_30 : decode cX12_isAwake 30 = .ok (.getfield 385, 3) := dq_get (L := lzddX12_isAwake_0) 18 rfl zddX12_isAwake_0 rfl
theorem dX12_isAwake_33 : decode cX12_isAwake 33 = .ok (.getfield 333, 3) := dq_get (L := lzddX12_isAwake_0) 19 rfl zddX12_isAwake_0 rfl
def lzddX12_isAwake_36 : List (Nat × Instr × Nat) := [(36, .iload_n 1, 1), (37, .iaload, 1), (38, .iconst 2, 1), (39, .if_icmp .ne 5, 3), (42, .iconst 0, 1), (43, .ireturn, 1), (44, .aload_n 0, 1), (45, .getfield 37, 3), (48, .iload_n 2, 1), (49, .baload, 1), (50, .ifCond .eq 5, 3), (53, .iconst 1, 1), (54, .ireturn, 1), (55, .iconst 0, 1), (56, .istore 4, 2), (58, .iload 4, 2), (60, .aload_n 0, 1), (61, .getfield 385, 3), (64, .getfield 349, 3), (67, .if_icmp .ge 74, 3)]
theorem zddX12_isAwake_36 : dqW lzddX12_isAwake_36 (cX12_isAwake.data.toList.drop 36) 36 = true := by decide +kernel
theorem dX12_isAwake_36 : decode cX12_isAwake 36 = .ok (.iload_n 1, 1) := dq_get (L := lzddX12_isAwake_36) 0 rfl zddX12_isAwake_36 rfl
theorem dX12_isAwake_37 : decode cX12_isAwake 37 = .ok (.iaload, 1) := dq_get (L := lzddX12_isAwake_36) 1 rfl zddX12_isAwake_36 rfl
theorem dX12_isAwake_38 : decode cX12_isAwake 38 = .ok (.iconst 2, 1) := dq_get (L := lzddX12_isAwake_36) 2 rfl zddX12_isAwake_36 rfl
theorem dX12_isAwake_39 : decode cX12_isAwake 39 = .ok (.if_icmp .ne 5, 3) := dq_get (L := lzddX12_isAwake_36) 3 rfl zddX12_isAwake_36 rfl
theorem dX12_isAwake_42 : decode cX12_isAwake 42 = .ok (.iconst 0, 1) := dq_get (L := lzddX12_isAwake_36) 4 rfl zddX12_isAwake_36 rfl
theorem dX12_isAwake_43 : decode cX12_isAwake 43 = .ok (.ireturn, 1) := dq_get (L := lzddX12_isAwake_36) 5 rfl zddX12_isAwake_36 rfl
theorem dX12_isAwake_44 : decode cX12_isAwake 44 = .ok (.aload_n 0, 1) := dq_get (L := lzddX12_isAwake_36) 6 rfl zddX12_isAwake_36 rfl
theorem dX12_isAwake_45 : decode cX12_isAwake 45 = .ok (.getfield 37, 3) := dq_get (L := lzddX12_isAwake_36) 7 rfl zddX12_isAwake_36 rfl
theorem dX12_isAwake_48 : decode cX12_isAwake 48 = .ok (.iload_n 2, 1) := dq_get (L := lzddX12_isAwake_36) 8 rfl zddX12_isAwake_36 rfl
theorem dX12_isAwake_49 : decode cX12_isAwake 49 = .ok (.baload, 1) := dq_get (L := lzddX12_isAwake_36) 9 rfl zddX12_isAwake_36 rfl
theorem dX12_isAwake_50 : decode cX12_isAwake 50 = .ok (.ifCond .eq 5, 3) := dq_get (L := lzddX12_isAwake_36) 10 rfl zddX12_isAwake_36 rfl
theorem dX12_isAwake_53 : decode cX12_isAwake 53 = .ok (.iconst 1, 1) := dq_get (L := lzddX12_isAwake_36) 11 rfl zddX12_isAwake_36 rfl
theorem dX12_isAwake_54 : decode cX12_isAwake 54 = .ok (.ireturn, 1) := dq_get (L := lzddX12_isAwake_36) 12 rfl zddX12_isAwake_36 rfl
theorem dX12_isAwake_55 : decode cX12_isAwake 55 = .ok (.iconst 0, 1) := dq_get (L := lzddX12_isAwake_36) 13 rfl zddX12_isAwake_36 rfl
theorem dX12_isAwake_56 : decode cX12_isAwake 56 = .ok (.istore 4, 2) := dq_get (L := lzddX12_isAwake_36) 14 rfl zddX12_isAwake_36 rfl
theorem dX12_isAwake_58 : decode cX12_isAwake 58 = .ok (.iload 4, 2) := dq_get (L := lzddX12_isAwake_36) 15 rfl zddX12_isAwake_36 rfl
theorem dX12_isAwake_60 : decode cX12_isAwake 60 = .ok (.aload_n 0, 1) := dq_get (L := lzddX12_isAwake_36) 16 rfl zddX12_isAwake_36 rfl
theorem dX12_isAwake_61 : decode cX12_isAwake 61 = .ok (.getfield 385, 3) := dq_get (L := lzddX12_isAwake_36) 17 rfl zddX12_isAwake_36 rfl
theorem dX12_isAwake_64 : decode cX12_isAwake 64 = .ok (.getfield 349, 3) := dq_get (L := lzddX12_isAwake_36) 18 rfl zddX12_isAwake_36 rfl
theorem dX12_isAwake_67 : decode cX12_isAwake 67 = .ok (.if_icmp .ge 74, 3) := dq_get (L := lzddX12_isAwake_36) 19 rfl zddX12_isAwake_36 rfl
def lzddX12_isAwake_70 : List (Nat × Instr × Nat) := [(70, .iload_n 3, 1), (71, .iload 4, 2), (73, .invokestatic 329, 3), (76, .ifCond .eq 59, 3), (79, .aload_n 0, 1), (80, .getfield 385, 3), (83, .getfield 358, 3), (86, .iload 4, 2), (88, .iaload, 1), (89, .iload_n 1, 1), (90, .if_icmp .ne 45, 3), (93, .iload_n 2, 1), (94, .aload_n 0, 1), (95, .getfield 385, 3), (98, .getfield 361, 3), (101, .iload 4, 2), (103, .iaload, 1), (104, .aload_n 0, 1), (105, .getfield 385, 3), (108, .getfield 361, 3)]
theorem zddX12_isAwake_70 : dqW lzddX12_isAwake_70 (cX12_isAwake.data.toList.drop 70) 70 = true := by decide +kernel
theorem dX12_isAwake_70 : decode cX12_isAwake 70 = .ok (.iload_n 3, 1) := dq_get (L := lzddX12_isAwake_70) 0 rfl zddX12_isAwake_70 rfl
theorem dX12_isAwake_71 : decode cX12_isAwake 71 = .ok (.iload 4, 2) := dq_get (L := lzddX12_isAwake_70) 1 rfl zddX12_isAwake_70 rfl
theorem dX12_isAwake_73 : decode cX12_isAwake 73 = .ok (.invokestatic 329, 3) := dq_get (L := lzddX12_isAwake_70) 2 rfl zddX12_isAwake_70 rfl
theorem dX12_isAwake_76 : decode cX12_isAwake 76 = .ok (.ifCond .eq 59, 3) := dq_get (L := lzddX12_isAwake_70) 3 rfl zddX12_isAwake_70 rfl
theorem dX12_isAwake_79 : decode cX12_isAwake 79 = .ok (.aload_n 0, 1) := dq_get (L := lzddX12_isAwake_70) 4 rfl zddX12_isAwake_70 rfl
theorem dX12_isAwake_80 : decode cX12_isAwake 80 = .ok (.getfield 385, 3) := dq_get (L := lzddX12_isAwake_70) 5 rfl zddX12_isAwake_70 rfl
theorem dX12_isAwake_83 : decode cX12_isAwake 83 = .ok (.getfield 358, 3) := dq_get (L := lzddX12_isAwake_70) 6 rfl zddX12_isAwake_70 rfl
theorem dX12_isAwake_86 : decode cX12_isAwake 86 = .ok (.iload 4, 2) := dq_get (L := lzddX12_isAwake_70) 7 rfl zddX12_isAwake_70 rfl
theorem dX12_isAwake_88 : decode cX12_isAwake 88 = .ok (.iaload, 1) := dq_get (L := lzddX12_isAwake_70) 8 rfl zddX12_isAwake_70 rfl
theorem dX12_isAwake_89 : decode cX12_isAwake 89 = .ok (.iload_n 1, 1) := dq_get (L := lzddX12_isAwake_70) 9 rfl zddX12_isAwake_70 rfl
theorem dX12_isAwake_90 : decode cX12_isAwake 90 = .ok (.if_icmp .ne 45, 3) := dq_get (L := lzddX12_isAwake_70) 10 rfl zddX12_isAwake_70 rfl
theorem dX12_isAwake_93 : decode cX12_isAwake 93 = .ok (.iload_n 2, 1) := dq_get (L := lzddX12_isAwake_70) 11 rfl zddX12_isAwake_70 rfl
theorem dX12_isAwake_94 : decode cX12_isAwake 94 = .ok (.aload_n 0, 1) := dq_get (L := lzddX12_isAwake_70) 12 rfl zddX12_isAwake_70 rfl
theorem dX12_isAwake_95 : decode cX12_isAwake 95 = .ok (.getfield 385, 3) := dq_get (L := lzddX12_isAwake_70) 13 rfl zddX12_isAwake_70 rfl
theorem dX12_isAwake_98 : decode cX12_isAwake 98 = .ok (.getfield 361, 3) := dq_get (L := lzddX12_isAwake_70) 14 rfl zddX12_isAwake_70 rfl
theorem dX12_isAwake_101 : decode cX12_isAwake 101 = .ok (.iload 4, 2) := dq_get (L := lzddX12_isAwake_70) 15 rfl zddX12_isAwake_70 rfl
theorem dX12_isAwake_103 : decode cX12_isAwake 103 = .ok (.iaload, 1) := dq_get (L := lzddX12_isAwake_70) 16 rfl zddX12_isAwake_70 rfl
theorem dX12_isAwake_104 : decode cX12_isAwake 104 = .ok (.aload_n 0, 1) := dq_get (L := lzddX12_isAwake_70) 17 rfl zddX12_isAwake_70 rfl
theorem dX12_isAwake_105 : decode cX12_isAwake 105 = .ok (.getfield 385, 3) := dq_get (L := lzddX12_isAwake_70) 18 rfl zddX12_isAwake_70 rfl
theorem dX12_isAwake_108 : decode cX12_isAwake 108 = .ok (.getfield 361, 3) := dq_get (L := lzddX12_isAwake_70) 19 rfl zddX12_isAwake_70 rfl
def lzddX12_isAwake_111 : List (Nat × Instr × Nat) := [(111, .iload 4, 2), (113, .iaload, 1), (114, .aload_n 0, 1), (115, .getfield 385, 3), (118, .getfield 364, 3), (121, .iload 4, 2), (123, .iaload, 1), (124, .iadd, 1), (125, .iconst 1, 1), (126, .isub, 1), (127, .invokestatic 149, 3), (130, .ifCond .eq 5, 3), (133, .iconst 1, 1), (134, .ireturn, 1), (135, .iinc 4 1, 3), (138, .goto (-80), 3), (141, .iconst 0, 1), (142, .ireturn, 1)]
theorem zddX12_isAwake_111 : dqW lzddX12_isAwake_111 (cX12_isAwake.data.toList.drop 111) 111 = true := by decide +kernel
theorem dX12_isAwake_111 : decode cX12_isAwake 111 = .ok (.iload 4, 2) := dq_get (L := lzddX12_isAwake_111) 0 rfl zddX12_isAwake_111 rfl
theorem dX12_isAwake_113 : decode cX12_isAwake 113 = .ok (.iaload, 1) := dq_get (L := lzddX12_isAwake_111) 1 rfl zddX12_isAwake_111 rfl
theorem dX12_isAwake_114 : decode cX12_isAwake 114 = .ok (.aload_n 0, 1) := dq_get (L := lzddX12_isAwake_111) 2 rfl zddX12_isAwake_111 rfl
theorem dX12_isAwake_115 : decode cX12_isAwake 115 = .ok (.getfield 385, 3) := dq_get (L := lzddX12_isAwake_111) 3 rfl zddX12_isAwake_111 rfl
theorem dX12_isAwake_118 : decode cX12_isAwake 118 = .ok (.getfield 364, 3) := dq_get (L := lzddX12_isAwake_111) 4 rfl zddX12_isAwake_111 rfl
theorem dX12_isAwake_121 : decode cX12_isAwake 121 = .ok (.iload 4, 2) := dq_get (L := lzddX12_isAwake_111) 5 rfl zddX12_isAwake_111 rfl
theorem dX12_isAwake_123 : decode cX12_isAwake 123 = .ok (.iaload, 1) := dq_get (L := lzddX12_isAwake_111) 6 rfl zddX12_isAwake_111 rfl
theorem dX12_isAwake_124 : decode cX12_isAwake 124 = .ok (.iadd, 1) := dq_get (L := lzddX12_isAwake_111) 7 rfl zddX12_isAwake_111 rfl
theorem dX12_isAwake_125 : decode cX12_isAwake 125 = .ok (.iconst 1, 1) := dq_get (L := lzddX12_isAwake_111) 8 rfl zddX12_isAwake_111 rfl
theorem dX12_isAwake_126 : decode cX12_isAwake 126 = .ok (.isub, 1) := dq_get (L := lzddX12_isAwake_111) 9 rfl zddX12_isAwake_111 rfl
theorem dX12_isAwake_127 : decode cX12_isAwake 127 = .ok (.invokestatic 149, 3) := dq_get (L := lzddX12_isAwake_111) 10 rfl zddX12_isAwake_111 rfl
theorem dX12_isAwake_130 : decode cX12_isAwake 130 = .ok (.ifCond .eq 5, 3) := dq_get (L := lzddX12_isAwake_111) 11 rfl zddX12_isAwake_111 rfl
theorem dX12_isAwake_133 : decode cX12_isAwake 133 = .ok (.iconst 1, 1) := dq_get (L := lzddX12_isAwake_111) 12 rfl zddX12_isAwake_111 rfl
theorem dX12_isAwake_134 : decode cX12_isAwake 134 = .ok (.ireturn, 1) := dq_get (L := lzddX12_isAwake_111) 13 rfl zddX12_isAwake_111 rfl
theorem dX12_isAwake_135 : decode cX12_isAwake 135 = .ok (.iinc 4 1, 3) := dq_get (L := lzddX12_isAwake_111) 14 rfl zddX12_isAwake_111 rfl
theorem dX12_isAwake_138 : decode cX12_isAwake 138 = .ok (.goto (-80), 3) := dq_get (L := lzddX12_isAwake_111) 15 rfl zddX12_isAwake_111 rfl
theorem dX12_isAwake_141 : decode cX12_isAwake 141 = .ok (.iconst 0, 1) := dq_get (L := lzddX12_isAwake_111) 16 rfl zddX12_isAwake_111 rfl
theorem dX12_isAwake_142 : decode cX12_isAwake 142 = .ok (.ireturn, 1) := dq_get (L := lzddX12_isAwake_111) 17 rfl zddX12_isAwake_111 rfl
def lzddX12_isCheese_0 : List (Nat × Instr × Nat) := [(0, .aload_n 0, 1), (1, .getfield 385, 3), (4, .ifnull 22, 3), (7, .iload_n 1, 1), (8, .ifCond .lt 18, 3), (11, .iload_n 1, 1), (12, .aload_n 0, 1), (13, .getfield 385, 3), (16, .getfield 224, 3), (19, .if_icmp .ge 7, 3), (22, .iconst 1, 1), (23, .goto 4, 3), (26, .iconst 0, 1), (27, .ireturn, 1)]
theorem zddX12_isCheese_0 : dqW lzddX12_isCheese_0 (cX12_isCheese.data.toList.drop 0) 0 = true := by decide +kernel
theorem dX12_isCheese_0 : decode cX12_isCheese 0 = .ok (.aload_n 0, 1) := dq_get (L := lzddX12_isCheese_0) 0 rfl zddX12_isCheese_0 rfl
theorem dX12_isCheese_1 : decode cX12_isCheese 1 = .ok (.getfield 385, 3) := dq_get (L := lzddX12_isCheese_0) 1 rfl zddX12_isCheese_0 rfl
theorem dX12_isCheese_4 : decode cX12_isCheese 4 = .ok (.ifnull 22, 3) := dq_get (L := lzddX12_isCheese_0) 2 rfl zddX12_isCheese_0 rfl
theorem dX12_isCheese_7 : decode cX12_isCheese 7 = .ok (.iload_n 1, 1) := dq_get (L := lzddX12_isCheese_0) 3 rfl zddX12_isCheese_0 rfl
theorem dX12_isCheese_8 : decode cX12_isCheese 8 = .ok (.ifCond .lt 18, 3) := dq_get (L := lzddX12_isCheese_0) 4 rfl zddX12_isCheese_0 rfl
theorem dX12_isCheese_11 : decode cX12_isCheese 11 = .ok (.iload_n 1, 1) := dq_get (L := lzddX12_isCheese_0) 5 rfl zddX12_isCheese_0 rfl
theorem dX12_isCheese_12 : decode cX12_isCheese 12 = .ok (.aload_n 0, 1) := dq_get (L := lzddX12_isCheese_0) 6 rfl zddX12_isCheese_0 rfl
theorem dX12_isCheese_13 : decode cX12_isCheese 13 = .ok (.getfield 385, 3) := dq_get (L := lzddX12_isCheese_0) 7 rfl zddX12_isCheese_0 rfl
theorem dX12_isCheese_16 : decode cX12_isCheese 16 = .ok (.getfield 224, 3) := dq_get (L := lzddX12_isCheese_0) 8 rfl zddX12_isCheese_0 rfl
theorem dX12_isCheese_19 : decode cX12_isCheese 19 = .ok (.if_icmp .ge 7, 3) := dq_get (L := lzddX12_isCheese_0) 9 rfl zddX12_isCheese_0 rfl
theorem dX12_isCheese_22 : decode cX12_isCheese 22 = .ok (.iconst 1, 1) := dq_get (L := lzddX12_isCheese_0) 10 rfl zddX12_isCheese_0 rfl
theorem dX12_isCheese_23 : decode cX12_isCheese 23 = .ok (.goto 4, 3) := dq_get (L := lzddX12_isCheese_0) 11 rfl zddX12_isCheese_0 rfl
theorem dX12_isCheese_26 : decode cX12_isCheese 26 = .ok (.iconst 0, 1) := dq_get (L := lzddX12_isCheese_0) 12 rfl zddX12_isCheese_0 rfl
theorem dX12_isCheese_27 : decode cX12_isCheese 27 = .ok (.ireturn, 1) := dq_get (L := lzddX12_isCheese_0) 13 rfl zddX12_isCheese_0 rfl
def lzddX12_isDigit_0 : List (Nat × Instr × Nat) := [(0, .iload_n 0, 1), (1, .bipush 48, 2), (3, .if_icmp .lt 13, 3), (6, .iload_n 0, 1), (7, .bipush 57, 2), (9, .if_icmp .gt 7, 3), (12, .iconst 1, 1), (13, .goto 4, 3), (16, .iconst 0, 1), (17, .ireturn, 1)]
theorem zddX12_isDigit_0 : dqW lzddX12_isDigit_0 (cX12_isDigit.data.toList.drop 0) 0 = true := by decide +kernel
theorem dX12_isDigit_0 : decode cX12_isDigit 0 = .ok (.iload_n 0, 1) := dq_get (L := lzddX12_isDigit_0) 0 rfl zddX12_isDigit_0 rfl
theorem dX12_isDigit_1 : decode cX12_isDigit 1 = .ok (.bipush 48, 2) := dq_get (L := lzddX12_isDigit_0) 1 rfl zddX12_isDigit_0 rfl
theorem dX12_isDigit_3 : decode cX12_isDigit 3 = .ok (.if_icmp .lt 13, 3) := dq_get (L := lzddX12_isDigit_0) 2 rfl zddX12_isDigit_0 rfl
theorem dX12_isDigit_6 : decode cX12_isDigit 6 = .ok (.iload_n 0, 1) := dq_get (L := lzddX12_isDigit_0) 3 rfl zddX12_isDigit_0 rfl
theorem dX12_isDigit_7 : decode cX12_isDigit 7 = .ok (.bipush 57, 2) := dq_get (L := lzddX12_isDigit_0) 4 rfl zddX12_isDigit_0 rfl
theorem dX12_isDigit_9 : decode cX12_isDigit 9 = .ok (.if_icmp .gt 7, 3) := dq_get (L := lzddX12_isDigit_0) 5 rfl zddX12_isDigit_0 rfl
theorem dX12_isDigit_12 : decode cX12_isDigit 12 = .ok (.iconst 1, 1) := dq_get (L := lzddX12_isDigit_0) 6 rfl zddX12_isDigit_0 rfl
theorem dX12_isDigit_13 : decode cX12_isDigit 13 = .ok (.goto 4, 3) := dq_get (L := lzddX12_isDigit_0) 7 rfl zddX12_isDigit_0 rfl
theorem dX12_isDigit_16 : decode cX12_isDigit 16 = .ok (.iconst 0, 1) := dq_get (L := lzddX12_isDigit_0) 8 rfl zddX12_isDigit_0 rfl
theorem dX12_isDigit_17 : decode cX12_isDigit 17 = .ok (.ireturn, 1) := dq_get (L := lzddX12_isDigit_0) 9 rfl zddX12_isDigit_0 rfl
def lzddX12_isEvent_0 : List (Nat × Instr × Nat) := [(0, .aload_n 0, 1), (1, .getfield 385, 3), (4, .ifnull 19, 3), (7, .iload_n 1, 1), (8, .ifCond .lt 15, 3), (11, .iload_n 1, 1), (12, .aload_n 0, 1), (13, .invokevirtual 393, 3), (16, .if_icmp .ge 7, 3), (19, .iconst 1, 1), (20, .goto 4, 3), (23, .iconst 0, 1), (24, .ireturn, 1)]
theorem zddX12_isEvent_0 : dqW lzddX12_isEvent_0 (cX12_isEvent.data.toList.drop 0) 0 = true := by decide +kernel
theorem dX12_isEvent_0 : decode cX12_isEvent 0 = .ok (.aload_n 0, 1) := dq_get (L := lzddX12_isEvent_0) 0 rfl zddX12_isEvent_0 rfl
theorem dX12_isEvent_1 : decode cX12_isEvent 1 = .ok (.getfield 385, 3) := dq_get (L := lzddX12_isEvent_0) 1 rfl zddX12_isEvent_0 rfl
theorem dX12_isEvent_4 : decode cX12_isEvent 4 = .ok (.ifnull 19, 3) := dq_get (L := lzddX12_isEvent_0) 2 rfl zddX12_isEvent_0 rfl
theorem dX12_isEvent_7 : decode cX12_isEvent 7 = .ok (.iload_n 1, 1) := dq_get (L := lzddX12_isEvent_0) 3 rfl zddX12_isEvent_0 rfl
theorem dX12_isEvent_8 : decode cX12_isEvent 8 = .ok (.ifCond .lt 15, 3) := dq_get (L := lzddX12_isEvent_0) 4 rfl zddX12_isEvent_0 rfl
theorem dX12_isEvent_11 : decode cX12_isEvent 11 = .ok (.iload_n 1, 1) := dq_get (L := lzddX12_isEvent_0) 5 rfl zddX12_isEvent_0 rfl
theorem dX12_isEvent_12 : decode cX12_isEvent 12 = .ok (.aload_n 0, 1) := dq_get (L := lzddX12_isEvent_0) 6 rfl zddX12_isEvent_0 rfl
theorem dX12_isEvent_13 : decode cX12_isEvent 13 = .ok (.invokevirtual 393, 3) := dq_get (L := lzddX12_isEvent_0) 7 rfl zddX12_isEvent_0 rfl
theorem dX12_isEvent_16 : decode cX12_isEvent 16 = .ok (.if_icmp .ge 7, 3) := dq_get (L := lzddX12_isEvent_0) 8 rfl zddX12_isEvent_0 rfl
theorem dX12_isEvent_19 : decode cX12_isEvent 19 = .ok (.iconst 1, 1) := dq_get (L := lzddX12_isEvent_0) 9 rfl zddX12_isEvent_0 rfl
theorem dX12_isEvent_20 : decode cX12_isEvent 20 = .ok (.goto 4, 3) := dq_get (L := lzddX12_isEvent_0) 10 rfl zddX12_isEvent_0 rfl
theorem dX12_isEvent_23 : decode cX12_isEvent 23 = .ok (.iconst 0, 1) := dq_get (L := lzddX12_isEvent_0) 11 rfl zddX12_isEvent_0 rfl
theorem dX12_isEvent_24 : decode cX12_isEvent 24 = .ok (.ireturn, 1) := dq_get (L := lzddX12_isEvent_0) 12 rfl zddX12_isEvent_0 rfl
def lzddX12_isHut_0 : List (Nat × Instr × Nat) := [(0, .aload_n 0, 1), (1, .getfield 385, 3), (4, .ifnull 22, 3), (7, .iload_n 1, 1), (8, .ifCond .lt 18, 3), (11, .iload_n 1, 1), (12, .aload_n 0, 1), (13, .getfield 385, 3), (16, .getfield 263, 3), (19, .if_icmp .ge 7, 3), (22, .iconst 1, 1), (23, .goto 4, 3), (26, .iconst 0, 1), (27, .ireturn, 1)]
theorem zddX12_isHut_0 : dqW lzddX12_isHut_0 (cX12_isHut.data.toList.drop 0) 0 = true := by decide +kernel
theorem dX12_isHut_0 : decode cX12_isHut 0 = .ok (.aload_n 0, 1) := dq_get (L := lzddX12_isHut_0) 0 rfl zddX12_isHut_0 rfl
theorem dX12_isHut_1 : decode cX12_isHut 1 = .ok (.getfield 385, 3) := dq_get (L := lzddX12_isHut_0) 1 rfl zddX12_isHut_0 rfl
theorem dX12_isHut_4 : decode cX12_isHut 4 = .ok (.ifnull 22, 3) := dq_get (L := lzddX12_isHut_0) 2 rfl zddX12_isHut_0 rfl
theorem dX12_isHut_7 : decode cX12_isHut 7 = .ok (.iload_n 1, 1) := dq_get (L := lzddX12_isHut_0) 3 rfl zddX12_isHut_0 rfl
theorem dX12_isHut_8 : decode cX12_isHut 8 = .ok (.ifCond .lt 18, 3) := dq_get (L := lzddX12_isHut_0) 4 rfl zddX12_isHut_0 rfl
theorem dX12_isHut_11 : decode cX12_isHut 11 = .ok (.iload_n 1, 1) := dq_get (L := lzddX12_isHut_0) 5 rfl zddX12_isHut_0 rfl
theorem dX12_isHut_12 : decode cX12_isHut 12 = .ok (.aload_n 0, 1) := dq_get (L := lzddX12_isHut_0) 6 rfl zddX12_isHut_0 rfl
theorem dX12_isHut_13 : decode cX12_isHut 13 = .ok (.getfield 385, 3) := dq_get (L := lzddX12_isHut_0) 7 rfl zddX12_isHut_0 rfl
theorem dX12_isHut_16 : decode cX12_isHut 16 = .ok (.getfield 263, 3) := dq_get (L := lzddX12_isHut_0) 8 rfl zddX12_isHut_0 rfl
theorem dX12_isHut_19 : decode cX12_isHut 19 = .ok (.if_icmp .ge 7, 3) := dq_get (L := lzddX12_isHut_0) 9 rfl zddX12_isHut_0 rfl
theorem dX12_isHut_22 : decode cX12_isHut 22 = .ok (.iconst 1, 1) := dq_get (L := lzddX12_isHut_0) 10 rfl zddX12_isHut_0 rfl
theorem dX12_isHut_23 : decode cX12_isHut 23 = .ok (.goto 4, 3) := dq_get (L := lzddX12_isHut_0) 11 rfl zddX12_isHut_0 rfl
theorem dX12_isHut_26 : decode cX12_isHut 26 = .ok (.iconst 0, 1) := dq_get (L := lzddX12_isHut_0) 12 rfl zddX12_isHut_0 rfl
theorem dX12_isHut_27 : decode cX12_isHut 27 = .ok (.ireturn, 1) := dq_get (L := lzddX12_isHut_0) 13 rfl zddX12_isHut_0 rfl
def lzddX12_isInAlmanac_0 : List (Nat × Instr × Nat) := [(0, .iconst 0, 1), (1, .istore_n 2, 1), (2, .iload_n 2, 1), (3, .aload_n 0, 1), (4, .getfield 385, 3), (7, .getfield 312, 3), (10, .if_icmp .ge 24, 3), (13, .aload_n 0, 1), (14, .getfield 385, 3), (17, .getfield 306, 3), (20, .iload_n 2, 1), (21, .iaload, 1), (22, .iload_n 1, 1), (23, .if_icmp .ne 5, 3), (26, .iconst 1, 1), (27, .ireturn, 1), (28, .iinc 2 1, 3), (31, .goto (-29), 3), (34, .iconst 0, 1), (35, .ireturn, 1)]
theorem zddX12_isInAlmanac_0 : dqW lzddX12_isInAlmanac_0 (cX12_isInAlmanac.data.toList.drop 0) 0 = true := by decide +kernel
theorem dX12_isInAlmanac_0 : decode cX12_isInAlmanac 0 = .ok (.iconst 0, 1) := dq_get (L := lzddX12_isInAlmanac_0) 0 rfl zddX12_isInAlmanac_0 rfl
theorem dX12_isInAlmanac_1 : decode cX12_isInAlmanac 1 = .ok (.istore_n 2, 1) := dq_get (L := lzddX12_isInAlmanac_0) 1 rfl zddX12_isInAlmanac_0 rfl
theorem dX12_isInAlmanac_2 : decode cX12_isInAlmanac 2 = .ok (.iload_n 2, 1) := dq_get (L := lzddX12_isInAlmanac_0) 2 rfl zddX12_isInAlmanac_0 rfl
theorem dX12_isInAlmanac_3 : decode cX12_isInAlmanac 3 = .ok (.aload_n 0, 1) := dq_get (L := lzddX12_isInAlmanac_0) 3 rfl zddX12_isInAlmanac_0 rfl
theorem dX12_isInAlmanac_4 : decode cX12_isInAlmanac 4 = .ok (.getfield 385, 3) := dq_get (L := lzddX12_isInAlmanac_0) 4 rfl zddX12_isInAlmanac_0 rfl
theorem dX12_isInAlmanac_7 : decode cX12_isInAlmanac 7 = .ok (.getfield 312, 3) := dq_get (L := lzddX12_isInAlmanac_0) 5 rfl zddX12_isInAlmanac_0 rfl
theorem dX12_isInAlmanac_10 : decode cX12_isInAlmanac 10 = .ok (.if_icmp .ge 24, 3) := dq_get (L := lzddX12_isInAlmanac_0) 6 rfl zddX12_isInAlmanac_0 rfl
theorem dX12_isInAlmanac_13 : decode cX12_isInAlmanac 13 = .ok (.aload_n 0, 1) := dq_get (L := lzddX12_isInAlmanac_0) 7 rfl zddX12_isInAlmanac_0 rfl
theorem dX12_isInAlmanac_14 : decode cX12_isInAlmanac 14 = .ok (.getfield 385, 3) := dq_get (L := lzddX12_isInAlmanac_0) 8 rfl zddX12_isInAlmanac_0 rfl
theorem dX12_isInAlmanac_17 : decode cX12_isInAlmanac 17 = .ok (.getfield 306, 3) := dq_get (L := lzddX12_isInAlmanac_0) 9 rfl zddX12_isInAlmanac_0 rfl
theorem dX12_isInAlmanac_20 : decode cX12_isInAlmanac 20 = .ok (.iload_n 2, 1) := dq_get (L := lzddX12_isInAlmanac_0) 10 rfl zddX12_isInAlmanac_0 rfl
theorem dX12_isInAlmanac_21 : decode cX12_isInAlmanac 21 = .ok (.iaload, 1) := dq_get (L := lzddX12_isInAlmanac_0) 11 rfl zddX12_isInAlmanac_0 rfl
theorem dX12_isInAlmanac_22 : decode cX12_isInAlmanac 22 = .ok (.iload_n 1, 1) := dq_get (L := lzddX12_isInAlmanac_0) 12 rfl zddX12_isInAlmanac_0 rfl
theorem dX12_isInAlmanac_23 : decode cX12_isInAlmanac 23 = .ok (.if_icmp .ne 5, 3) := dq_get (L := lzddX12_isInAlmanac_0) 13 rfl zddX12_isInAlmanac_0 rfl
theorem dX12_isInAlmanac_26 : decode cX12_isInAlmanac 26 = .ok (.iconst 1, 1) := dq_get (L := lzddX12_isInAlmanac_0) 14 rfl zddX12_isInAlmanac_0 rfl
theorem dX12_isInAlmanac_27 : decode cX12_isInAlmanac 27 = .ok (.ireturn, 1) := dq_get (L := lzddX12_isInAlmanac_0) 15 rfl zddX12_isInAlmanac_0 rfl
theorem dX12_isInAlmanac_28 : decode cX12_isInAlmanac 28 = .ok (.iinc 2 1, 3) := dq_get (L := lzddX12_isInAlmanac_0) 16 rfl zddX12_isInAlmanac_0 rfl
theorem dX12_isInAlmanac_31 : decode cX12_isInAlmanac 31 = .ok (.goto (-29), 3) := dq_get (L := lzddX12_isInAlmanac_0) 17 rfl zddX12_isInAlmanac_0 rfl
theorem dX12_isInAlmanac_34 : decode cX12_isInAlmanac 34 = .ok (.iconst 0, 1) := dq_get (L := lzddX12_isInAlmanac_0) 18 rfl zddX12_isInAlmanac_0 rfl
theorem dX12_isInAlmanac_35 : decode cX12_isInAlmanac 35 = .ok (.ireturn, 1) := dq_get (L := lzddX12_isInAlmanac_0) 19 rfl zddX12_isInAlmanac_0 rfl
def lzddX12_isLetter_0 : List (Nat × Instr × Nat) := [(0, .iload_n 0, 1), (1, .bipush 97, 2), (3, .if_icmp .lt 13, 3), (6, .iload_n 0, 1), (7, .bipush 122, 2), (9, .if_icmp .gt 7, 3), (12, .iconst 1, 1), (13, .goto 4, 3), (16, .iconst 0, 1), (17, .ireturn, 1)]
theorem zddX12_isLetter_0 : dqW lzddX12_isLetter_0 (cX12_isLetter.data.toList.drop 0) 0 = true := by decide +kernel
theorem dX12_isLetter_0 : decode cX12_isLetter 0 = .ok (.iload_n 0, 1) := dq_get (L := lzddX12_isLetter_0) 0 rfl zddX12_isLetter_0 rfl
theorem dX12_isLetter_1 : decode cX12_isLetter 1 = .ok (.bipush 97, 2) := dq_get (L := lzddX12_isLetter_0) 1 rfl zddX12_isLetter_0 rfl
theorem dX12_isLetter_3 : decode cX12_isLetter 3 = .ok (.if_icmp .lt 13, 3) := dq_get (L := lzddX12_isLetter_0) 2 rfl zddX12_isLetter_0 rfl
theorem dX12_isLetter_6 : decode cX12_isLetter 6 = .ok (.iload_n 0, 1) := dq_get (L := lzddX12_isLetter_0) 3 rfl zddX12_isLetter_0 rfl
theorem dX12_isLetter_7 : decode cX12_isLetter 7 = .ok (.bipush 122, 2) := dq_get (L := lzddX12_isLetter_0) 4 rfl zddX12_isLetter_0 rfl
theorem dX12_isLetter_9 : decode cX12_isLetter 9 = .ok (.if_icmp .gt 7, 3) := dq_get (L := lzddX12_isLetter_0) 5 rfl zddX12_isLetter_0 rfl
theorem dX12_isLetter_12 : decode cX12_isLetter 12 = .ok (.iconst 1, 1) := dq_get (L := lzddX12_isLetter_0) 6 rfl zddX12_isLetter_0 rfl
theorem dX12_isLetter_13 : decode cX12_isLetter 13 = .ok (.goto 4, 3) := dq_get (L := lzddX12_isLetter_0) 7 rfl zddX12_isLetter_0 rfl
theorem dX12_isLetter_16 : decode cX12_isLetter 16 = .ok (.iconst 0, 1) := dq_get (L := lzddX12_isLetter_0) 8 rfl zddX12_isLetter_0 rfl
theorem dX12_isLetter_17 : decode cX12_isLetter 17 = .ok (.ireturn, 1) := dq_get (L := lzddX12_isLetter_0) 9 rfl zddX12_isLetter_0 rfl
def lzddX12_isMinute_0 : List (Nat × Instr × Nat) := [(0, .iload_n 1, 1), (1, .iconst 0, 1), (2, .aload_n 0, 1), (3, .getfield 385, 3), (6, .getfield 192, 3), (9, .iconst 1, 1), (10, .isub, 1), (11, .invokestatic 149, 3), (14, .ireturn, 1)]
theorem zddX12_isMinute_0 : dqW lzddX12_isMinute_0 (cX12_isMinute.data.toList.drop 0) 0 = true := by decide +kernel
theorem dX12_isMinute_0 : decode cX12_isMinute 0 = .ok (.iload_n 1, 1) := dq_get (L := lzddX12_isMinute_0) 0 rfl zddX12_isMinute_0 rfl
theorem dX12_isMinute_1 : decode cX12_isMinute 1 = .ok (.iconst 0, 1) := dq_get (L := lzddX12_isMinute_0) 1 rfl zddX12_isMinute_0 rfl
theorem dX12_isMinute_2 : decode cX12_isMinute 2 = .ok (.aload_n 0, 1) := dq_get (L := lzddX12_isMinute_0) 2 rfl zddX12_isMinute_0 rfl
theorem dX12_isMinute_3 : decode cX12_isMinute 3 = .ok (.getfield 385, 3) := dq_get (L := lzddX12_isMinute_0) 3 rfl zddX12_isMinute_0 rfl
theorem dX12_isMinute_6 : decode cX12_isMinute 6 = .ok (.getfield 192, 3) := dq_get (L := lzddX12_isMinute_0) 4 rfl zddX12_isMinute_0 rfl
theorem dX12_isMinute_9 : decode cX12_isMinute 9 = .ok (.iconst 1, 1) := dq_get (L := lzddX12_isMinute_0) 5 rfl zddX12_isMinute_0 rfl
theorem dX12_isMinute_10 : decode cX12_isMinute 10 = .ok (.isub, 1) := dq_get (L := lzddX12_isMinute_0) 6 rfl zddX12_isMinute_0 rfl
theorem dX12_isMinute_11 : decode cX12_isMinute 11 = .ok (.invokestatic 149, 3) := dq_get (L := lzddX12_isMinute_0) 7 rfl zddX12_isMinute_0 rfl
theorem dX12_isMinute_14 : decode cX12_isMinute 14 = .ok (.ireturn, 1) := dq_get (L := lzddX12_isMinute_0) 8 rfl zddX12_isMinute_0 rfl
def lzddX12_isName_0 : List (Nat × Instr × Nat) := [(0, .aload_n 0, 1), (1, .getfield 99, 3), (4, .iconst 2, 1), (5, .if_icmp .ne 57, 3), (8, .aload_n 0, 1), (9, .ldc 164, 2), (11, .invokevirtual 138, 3), (14, .ifCond .ne 48, 3), (17, .aload_n 0, 1), (18, .ldc 166, 2), (20, .invokevirtual 138, 3), (23, .ifCond .ne 39, 3), (26, .aload_n 0, 1), (27, .ldc 168, 2), (29, .invokevirtual 138, 3), (32, .ifCond .ne 30, 3), (35, .aload_n 0, 1), (36, .ldc 170, 2), (38, .invokevirtual 138, 3), (41, .ifCond .ne 21, 3)]
theorem zddX12_isName_0 : dqW lzddX12_isName_0 (cX12_isName.data.toList.drop 0) 0 = true := by decide +kernel
theorem dX12_isName_0 : decode cX12_isName 0 = .ok (.aload_n 0, 1) := dq_get (L := lzddX12_isName_0) 0 rfl zddX12_isName_0 rfl
theorem dX12_isName_1 : decode cX12_isName 1 = .ok (.getfield 99, 3) := dq_get (L := lzddX12_isName_0) 1 rfl zddX12_isName_0 rfl
theorem dX12_isName_4 : decode cX12_isName 4 = .ok (.iconst 2, 1) := dq_get (L := lzddX12_isName_0) 2 rfl zddX12_isName_0 rfl
theorem dX12_isName_5 : decode cX12_isName 5 = .ok (.if_icmp .ne 57, 3) := dq_get (L := lzddX12_isName_0) 3 rfl zddX12_isName_0 rfl
theorem dX12_isName_8 : decode cX12_isName 8 = .ok (.aload_n 0, 1) := dq_get (L := lzddX12_isName_0) 4 rfl zddX12_isName_0 rfl
theorem dX12_isName_9 : decode cX12_isName 9 = .ok (.ldc 164, 2) := dq_get (L := lzddX12_isName_0) 5 rfl zddX12_isName_0 rfl
theorem dX12_isName_11 : decode cX12_isName 11 = .ok (.invokevirtual 138, 3) := dq_get (L := lzddX12_isName_0) 6 rfl zddX12_isName_0 rfl
theorem dX12_isName_14 : decode cX12_isName 14 = .ok (.ifCond .ne 48, 3) := dq_get (L := lzddX12_isName_0) 7 rfl zddX12_isName_0 rfl
theorem dX12_isName_17 : decode cX12_isName 17 = .ok (.aload_n 0, 1) := dq_get (L := lzddX12_isName_0) 8 rfl zddX12_isName_0 rfl
theorem dX12_isName_18 : decode cX12_isName 18 = .ok (.ldc 166, 2) := dq_get (L := lzddX12_isName_0) 9 rfl zddX12_isName_0 rfl
theorem dX12_isName_20 : decode cX12_isName 20 = .ok (.invokevirtual 138, 3) := dq_get (L := lzddX12_isName_0) 10 rfl zddX12_isName_0 rfl
theorem dX12_isName_23 : decode cX12_isName 23 = .ok (.ifCond .ne 39, 3) := dq_get (L := lzddX12_isName_0) 11 rfl zddX12_isName_0 rfl
theorem dX12_isName_26 : decode cX12_isName 26 = .ok (.aload_n 0, 1) := dq_get (L := lzddX12_isName_0) 12 rfl zddX12_isName_0 rfl
theorem dX12_isName_27 : decode cX12_isName 27 = .ok (.ldc 168, 2) := dq_get (L := lzddX12_isName_0) 13 rfl zddX12_isName_0 rfl
theorem dX12_isName_29 : decode cX12_isName 29 = .ok (.invokevirtual 138, 3) := dq_get (L := lzddX12_isName_0) 14 rfl zddX12_isName_0 rfl
theorem dX12_isName_32 : decode cX12_isName 32 = .ok (.ifCond .ne 30, 3) := dq_get (L := lzddX12_isName_0) 15 rfl zddX12_isName_0 rfl
theorem dX12_isName_35 : decode cX12_isName 35 = .ok (.aload_n 0, 1) := dq_get (L := lzddX12_isName_0) 16 rfl zddX12_isName_0 rfl
theorem dX12_isName_36 : decode cX12_isName 36 = .ok (.ldc 170, 2) := dq_get (L := lzddX12_isName_0) 17 rfl zddX12_isName_0 rfl
theorem dX12_isName_38 : decode cX12_isName 38 = .ok (.invokevirtual 138, 3) := dq_get (L := lzddX12_isName_0) 18 rfl zddX12_isName_0 rfl
theorem dX12_isName_41 : decode cX12_isName 41 = .ok (.ifCond .ne 21, 3) := dq_get (L := lzddX12_isName_0) 19 rfl zddX12_isName_0 rfl
def lzddX12_isName_44 : List (Nat × Instr × Nat) := [(44, .aload_n 0, 1), (45, .ldc 172, 2), (47, .invokevirtual 138, 3), (50, .ifCond .ne 12, 3), (53, .aload_n 0, 1), (54, .ldc 174, 2), (56, .invokevirtual 138, 3), (59, .ifCond .eq 5, 3), (62, .iconst 0, 1), (63, .ireturn, 1), (64, .aload_n 0, 1), (65, .ldc 176, 2), (67, .invokevirtual 138, 3), (70, .ifCond .ne 52, 3), (73, .aload_n 0, 1), (74, .ldc 178, 2), (76, .invokevirtual 138, 3), (79, .ifCond .ne 43, 3), (82, .aload_n 0, 1), (83, .ldc 180, 2)]
theorem zddX12_isName_44 : dqW lzddX12_isName_44 (cX12_isName.data.toList.drop 44) 44 = true := by decide +kernel
theorem dX12_isName_44 : decode cX12_isName 44 = .ok (.aload_n 0, 1) := dq_get (L := lzddX12_isName_44) 0 rfl zddX12_isName_44 rfl
theorem dX12_isName_45 : decode cX12_isName 45 = .ok (.ldc 172, 2) := dq_get (L := lzddX12_isName_44) 1 rfl zddX12_isName_44 rfl
theorem dX12_isName_47 : decode cX12_isName 47 = .ok (.invokevirtual 138, 3) := dq_get (L := lzddX12_isName_44) 2 rfl zddX12_isName_44 rfl
theorem dX12_isName_50 : decode cX12_isName 50 = .ok (.ifCond .ne 12, 3) := dq_get (L := lzddX12_isName_44) 3 rfl zddX12_isName_44 rfl
theorem dX12_isName_53 : decode cX12_isName 53 = .ok (.aload_n 0, 1) := dq_get (L := lzddX12_isName_44) 4 rfl zddX12_isName_44 rfl
theorem dX12_isName_54 : decode cX12_isName 54 = .ok (.ldc 174, 2) := dq_get (L := lzddX12_isName_44) 5 rfl zddX12_isName_44 rfl
theorem dX12_isName_56 : decode cX12_isName 56 = .ok (.invokevirtual 138, 3) := dq_get (L := lzddX12_isName_44) 6 rfl zddX12_isName_44 rfl
theorem dX12_isName_59 : decode cX12_isName 59 = .ok (.ifCond .eq 5, 3) := dq_get (L := lzddX12_isName_44) 7 rfl zddX12_isName_44 rfl
theorem dX12_isName_62 : decode cX12_isName 62 = .ok (.iconst 0, 1) := dq_get (L := lzddX12_isName_44) 8 rfl zddX12_isName_44 rfl
theorem dX12_isName_63 : decode cX12_isName 63 = .ok (.ireturn, 1) := dq_get (L := lzddX12_isName_44) 9 rfl zddX12_isName_44 rfl
theorem dX12_isName_64 : decode cX12_isName 64 = .ok (.aload_n 0, 1) := dq_get (L := lzddX12_isName_44) 10 rfl zddX12_isName_44 rfl
theorem dX12_isName_65 : decode cX12_isName 65 = .ok (.ldc 176, 2) := dq_get (L := lzddX12_isName_44) 11 rfl zddX12_isName_44 rfl
theorem dX12_isName_67 : decode cX12_isName 67 = .ok (.invokevirtual 138, 3) := dq_get (L := lzddX12_isName_44) 12 rfl zddX12_isName_44 rfl
theorem dX12_isName_70 : decode cX12_isName 70 = .ok (.ifCond .ne 52, 3) := dq_get (L := lzddX12_isName_44) 13 rfl zddX12_isName_44 rfl
theorem dX12_isName_73 : decode cX12_isName 73 = .ok (.aload_n 0, 1) := dq_get (L := lzddX12_isName_44) 14 rfl zddX12_isName_44 rfl
theorem dX12_isName_74 : decode cX12_isName 74 = .ok (.ldc 178, 2) := dq_get (L := lzddX12_isName_44) 15 rfl zddX12_isName_44 rfl
theorem dX12_isName_76 : decode cX12_isName 76 = .ok (.invokevirtual 138, 3) := dq_get (L := lzddX12_isName_44) 16 rfl zddX12_isName_44 rfl
theorem dX12_isName_79 : decode cX12_isName 79 = .ok (.ifCond .ne 43, 3) := dq_get (L := lzddX12_isName_44) 17 rfl zddX12_isName_44 rfl
theorem dX12_isName_82 : decode cX12_isName 82 = .ok (.aload_n 0, 1) := dq_get (L := lzddX12_isName_44) 18 rfl zddX12_isName_44 rfl
theorem dX12_isName_83 : decode cX12_isName 83 = .ok (.ldc 180, 2) := dq_get (L := lzddX12_isName_44) 19 rfl zddX12_isName_44 rfl
def lzddX12_isName_85 : List (Nat × Instr × Nat) := [(85, .invokevirtual 138, 3), (88, .ifCond .ne 34, 3), (91, .aload_n 0, 1), (92, .ldc 182, 2), (94, .invokevirtual 138, 3), (97, .ifCond .ne 25, 3), (100, .aload_n 0, 1), (101, .ldc 184, 2), (103, .invokevirtual 138, 3), (106, .ifCond .ne 16, 3), (109, .aload_n 0, 1), (110, .ldc 186, 2), (112, .invokevirtual 138, 3), (115, .ifCond .ne 7, 3), (118, .iconst 1, 1), (119, .goto 4, 3), (122, .iconst 0, 1), (123, .ireturn, 1)]
theorem zddX12_isName_85 : dqW lzddX12_isName_85 (cX12_isName.data.toList.drop 85) 85 = true := by decide +kernel
theorem dX12_isName_85 : decode cX12_isName 85 = .ok (.invokevirtual 138, 3) := dq_get (L := lzddX12_isName_85) 0 rfl zddX12_isName_85 rfl
theorem dX12_isName_88 : decode cX12_isName 88 = .ok (.ifCond .ne 34, 3) := dq_get (L := lzddX12_isName_85) 1 rfl zddX12_isName_85 rfl
theorem dX12_isName_91 : decode cX12_isName 91 = .ok (.aload_n 0, 1) := dq_get (L := lzddX12_isName_85) 2 rfl zddX12_isName_85 rfl
theorem dX12_isName_92 : decode cX12_isName 92 = .ok (.ldc 182, 2) := dq_get (L := lzddX12_isName_85) 3 rfl zddX12_isName_85 rfl
theorem dX12_isName_94 : decode cX12_isName 94 = .ok (.invokevirtual 138, 3) := dq_get (L := lzddX12_isName_85) 4 rfl zddX12_isName_85 rfl
theorem dX12_isName_97 : decode cX12_isName 97 = .ok (.ifCond .ne 25, 3) := dq_get (L := lzddX12_isName_85) 5 rfl zddX12_isName_85 rfl
theorem dX12_isName_100 : decode cX12_isName 100 = .ok (.aload_n 0, 1) := dq_get (L := lzddX12_isName_85) 6 rfl zddX12_isName_85 rfl
theorem dX12_isName_101 : decode cX12_isName 101 = .ok (.ldc 184, 2) := dq_get (L := lzddX12_isName_85) 7 rfl zddX12_isName_85 rfl
theorem dX12_isName_103 : decode cX12_isName 103 = .ok (.invokevirtual 138, 3) := dq_get (L := lzddX12_isName_85) 8 rfl zddX12_isName_85 rfl
theorem dX12_isName_106 : decode cX12_isName 106 = .ok (.ifCond .ne 16, 3) := dq_get (L := lzddX12_isName_85) 9 rfl zddX12_isName_85 rfl
theorem dX12_isName_109 : decode cX12_isName 109 = .ok (.aload_n 0, 1) := dq_get (L := lzddX12_isName_85) 10 rfl zddX12_isName_85 rfl
theorem dX12_isName_110 : decode cX12_isName 110 = .ok (.ldc 186, 2) := dq_get (L := lzddX12_isName_85) 11 rfl zddX12_isName_85 rfl
theorem dX12_isName_112 : decode cX12_isName 112 = .ok (.invokevirtual 138, 3) := dq_get (L := lzddX12_isName_85) 12 rfl zddX12_isName_85 rfl
theorem dX12_isName_115 : decode cX12_isName 115 = .ok (.ifCond .ne 7, 3) := dq_get (L := lzddX12_isName_85) 13 rfl zddX12_isName_85 rfl
theorem dX12_isName_118 : decode cX12_isName 118 = .ok (.iconst 1, 1) := dq_get (L := lzddX12_isName_85) 14 rfl zddX12_isName_85 rfl
theorem dX12_isName_119 : decode cX12_isName 119 = .ok (.goto 4, 3) := dq_get (L := lzddX12_isName_85) 15 rfl zddX12_isName_85 rfl
theorem dX12_isName_122 : decode cX12_isName 122 = .ok (.iconst 0, 1) := dq_get (L := lzddX12_isName_85) 16 rfl zddX12_isName_85 rfl
theorem dX12_isName_123 : decode cX12_isName 123 = .ok (.ireturn, 1) := dq_get (L := lzddX12_isName_85) 17 rfl zddX12_isName_85 rfl
def lzddX12_isSlice_0 : List (Nat × Instr × Nat) := [(0, .aload_n 0, 1), (1, .getfield 385, 3), (4, .ifnull 22, 3), (7, .iload_n 1, 1), (8, .ifCond .lt 18, 3), (11, .iload_n 1, 1), (12, .aload_n 0, 1), (13, .getfield 385, 3), (16, .getfield 370, 3), (19, .if_icmp .ge 7, 3), (22, .iconst 1, 1), (23, .goto 4, 3), (26, .iconst 0, 1), (27, .ireturn, 1)]
theorem zddX12_isSlice_0 : dqW lzddX12_isSlice_0 (cX12_isSlice.data.toList.drop 0) 0 = true := by decide +kernel
theorem dX12_isSlice_0 : decode cX12_isSlice 0 = .ok (.aload_n 0, 1) := dq_get (L := lzddX12_isSlice_0) 0 rfl zddX12_isSlice_0 rfl
theorem dX12_isSlice_1 : decode cX12_isSlice 1 = .ok (.getfield 385, 3) := dq_get (L := lzddX12_isSlice_0) 1 rfl zddX12_isSlice_0 rfl
theorem dX12_isSlice_4 : decode cX12_isSlice 4 = .ok (.ifnull 22, 3) := dq_get (L := lzddX12_isSlice_0) 2 rfl zddX12_isSlice_0 rfl
theorem dX12_isSlice_7 : decode cX12_isSlice 7 = .ok (.iload_n 1, 1) := dq_get (L := lzddX12_isSlice_0) 3 rfl zddX12_isSlice_0 rfl
theorem dX12_isSlice_8 : decode cX12_isSlice 8 = .ok (.ifCond .lt 18, 3) := dq_get (L := lzddX12_isSlice_0) 4 rfl zddX12_isSlice_0 rfl
theorem dX12_isSlice_11 : decode cX12_isSlice 11 = .ok (.iload_n 1, 1) := dq_get (L := lzddX12_isSlice_0) 5 rfl zddX12_isSlice_0 rfl
theorem dX12_isSlice_12 : decode cX12_isSlice 12 = .ok (.aload_n 0, 1) := dq_get (L := lzddX12_isSlice_0) 6 rfl zddX12_isSlice_0 rfl
theorem dX12_isSlice_13 : decode cX12_isSlice 13 = .ok (.getfield 385, 3) := dq_get (L := lzddX12_isSlice_0) 7 rfl zddX12_isSlice_0 rfl
theorem dX12_isSlice_16 : decode cX12_isSlice 16 = .ok (.getfield 370, 3) := dq_get (L := lzddX12_isSlice_0) 8 rfl zddX12_isSlice_0 rfl
theorem dX12_isSlice_19 : decode cX12_isSlice 19 = .ok (.if_icmp .ge 7, 3) := dq_get (L := lzddX12_isSlice_0) 9 rfl zddX12_isSlice_0 rfl
theorem dX12_isSlice_22 : decode cX12_isSlice 22 = .ok (.iconst 1, 1) := dq_get (L := lzddX12_isSlice_0) 10 rfl zddX12_isSlice_0 rfl
theorem dX12_isSlice_23 : decode cX12_isSlice 23 = .ok (.goto 4, 3) := dq_get (L := lzddX12_isSlice_0) 11 rfl zddX12_isSlice_0 rfl
theorem dX12_isSlice_26 : decode cX12_isSlice 26 = .ok (.iconst 0, 1) := dq_get (L := lzddX12_isSlice_0) 12 rfl zddX12_isSlice_0 rfl
theorem dX12_isSlice_27 : decode cX12_isSlice 27 = .ok (.ireturn, 1) := dq_get (L := lzddX12_isSlice_0) 13 rfl zddX12_isSlice_0 rfl
def lzddX12_isTurner_0 : List (Nat × Instr × Nat) := [(0, .aload_n 0, 1), (1, .getfield 385, 3), (4, .ifnull 22, 3), (7, .iload_n 1, 1), (8, .ifCond .lt 18, 3), (11, .iload_n 1, 1), (12, .aload_n 0, 1), (13, .getfield 385, 3), (16, .getfield 315, 3), (19, .if_icmp .ge 7, 3), (22, .iconst 1, 1), (23, .goto 4, 3), (26, .iconst 0, 1), (27, .ireturn, 1)]
theorem zddX12_isTurner_0 : dqW lzddX12_isTurner_0 (cX12_isTurner.data.toList.drop 0) 0 = true := by decide +kernel
theorem dX12_isTurner_0 : decode cX12_isTurner 0 = .ok (.aload_n 0, 1) := dq_get (L := lzddX12_isTurner_0) 0 rfl zddX12_isTurner_0 rfl
theorem dX12_isTurner_1 : decode cX12_isTurner 1 = .ok (.getfield 385, 3) := dq_get (L := lzddX12_isTurner_0) 1 rfl zddX12_isTurner_0 rfl
theorem dX12_isTurner_4 : decode cX12_isTurner 4 = .ok (.ifnull 22, 3) := dq_get (L := lzddX12_isTurner_0) 2 rfl zddX12_isTurner_0 rfl
theorem dX12_isTurner_7 : decode cX12_isTurner 7 = .ok (.iload_n 1, 1) := dq_get (L := lzddX12_isTurner_0) 3 rfl zddX12_isTurner_0 rfl
theorem dX12_isTurner_8 : decode cX12_isTurner 8 = .ok (.ifCond .lt 18, 3) := dq_get (L := lzddX12_isTurner_0) 4 rfl zddX12_isTurner_0 rfl
theorem dX12_isTurner_11 : decode cX12_isTurner 11 = .ok (.iload_n 1, 1) := dq_get (L := lzddX12_isTurner_0) 5 rfl zddX12_isTurner_0 rfl
theorem dX12_isTurner_12 : decode cX12_isTurner 12 = .ok (.aload_n 0, 1) := dq_get (L := lzddX12_isTurner_0) 6 rfl zddX12_isTurner_0 rfl
theorem dX12_isTurner_13 : decode cX12_isTurner 13 = .ok (.getfield 385, 3) := dq_get (L := lzddX12_isTurner_0) 7 rfl zddX12_isTurner_0 rfl
theorem dX12_isTurner_16 : decode cX12_isTurner 16 = .ok (.getfield 315, 3) := dq_get (L := lzddX12_isTurner_0) 8 rfl zddX12_isTurner_0 rfl
theorem dX12_isTurner_19 : decode cX12_isTurner 19 = .ok (.if_icmp .ge 7, 3) := dq_get (L := lzddX12_isTurner_0) 9 rfl zddX12_isTurner_0 rfl
theorem dX12_isTurner_22 : decode cX12_isTurner 22 = .ok (.iconst 1, 1) := dq_get (L := lzddX12_isTurner_0) 10 rfl zddX12_isTurner_0 rfl
theorem dX12_isTurner_23 : decode cX12_isTurner 23 = .ok (.goto 4, 3) := dq_get (L := lzddX12_isTurner_0) 11 rfl zddX12_isTurner_0 rfl
theorem dX12_isTurner_26 : decode cX12_isTurner 26 = .ok (.iconst 0, 1) := dq_get (L := lzddX12_isTurner_0) 12 rfl zddX12_isTurner_0 rfl
theorem dX12_isTurner_27 : decode cX12_isTurner 27 = .ok (.ireturn, 1) := dq_get (L := lzddX12_isTurner_0) 13 rfl zddX12_isTurner_0 rfl
def lzddX12_isWord_0 : List (Nat × Instr × Nat) := [(0, .aload_n 0, 1), (1, .getfield 99, 3), (4, .iconst 2, 1), (5, .if_icmp .ne 19, 3), (8, .aload_n 0, 1), (9, .getfield 118, 3), (12, .aload_n 1, 1), (13, .invokestatic 134, 3), (16, .lcmp, 1), (17, .ifCond .ne 7, 3), (20, .iconst 1, 1), (21, .goto 4, 3), (24, .iconst 0, 1), (25, .ireturn, 1)]
theorem zddX12_isWord_0 : dqW lzddX12_isWord_0 (cX12_isWord.data.toList.drop 0) 0 = true := by decide +kernel
theorem dX12_isWord_0 : decode cX12_isWord 0 = .ok (.aload_n 0, 1) := dq_get (L := lzddX12_isWord_0) 0 rfl zddX12_isWord_0 rfl
theorem dX12_isWord_1 : decode cX12_isWord 1 = .ok (.getfield 99, 3) := dq_get (L := lzddX12_isWord_0) 1 rfl zddX12_isWord_0 rfl
theorem dX12_isWord_4 : decode cX12_isWord 4 = .ok (.iconst 2, 1) := dq_get (L := lzddX12_isWord_0) 2 rfl zddX12_isWord_0 rfl
theorem dX12_isWord_5 : decode cX12_isWord 5 = .ok (.if_icmp .ne 19, 3) := dq_get (L := lzddX12_isWord_0) 3 rfl zddX12_isWord_0 rfl
theorem dX12_isWord_8 : decode cX12_isWord 8 = .ok (.aload_n 0, 1) := dq_get (L := lzddX12_isWord_0) 4 rfl zddX12_isWord_0 rfl
theorem dX12_isWord_9 : decode cX12_isWord 9 = .ok (.getfield 118, 3) := dq_get (L := lzddX12_isWord_0) 5 rfl zddX12_isWord_0 rfl
theorem dX12_isWord_12 : decode cX12_isWord 12 = .ok (.aload_n 1, 1) := dq_get (L := lzddX12_isWord_0) 6 rfl zddX12_isWord_0 rfl
theorem dX12_isWord_13 : decode cX12_isWord 13 = .ok (.invokestatic 134, 3) := dq_get (L := lzddX12_isWord_0) 7 rfl zddX12_isWord_0 rfl
theorem dX12_isWord_16 : decode cX12_isWord 16 = .ok (.lcmp, 1) := dq_get (L := lzddX12_isWord_0) 8 rfl zddX12_isWord_0 rfl
theorem dX12_isWord_17 : decode cX12_isWord 17 = .ok (.ifCond .ne 7, 3) := dq_get (L := lzddX12_isWord_0) 9 rfl zddX12_isWord_0 rfl
theorem dX12_isWord_20 : decode cX12_isWord 20 = .ok (.iconst 1, 1) := dq_get (L := lzddX12_isWord_0) 10 rfl zddX12_isWord_0 rfl
theorem dX12_isWord_21 : decode cX12_isWord 21 = .ok (.goto 4, 3) := dq_get (L := lzddX12_isWord_0) 11 rfl zddX12_isWord_0 rfl
theorem dX12_isWord_24 : decode cX12_isWord 24 = .ok (.iconst 0, 1) := dq_get (L := lzddX12_isWord_0) 12 rfl zddX12_isWord_0 rfl
theorem dX12_isWord_25 : decode cX12_isWord 25 = .ok (.ireturn, 1) := dq_get (L := lzddX12_isWord_0) 13 rfl zddX12_isWord_0 rfl
def lzddX12_keeps_0 : List (Nat × Instr × Nat) := [(0, .aload_n 0, 1), (1, .getfield 387, 3), (4, .bipush 12, 2), (6, .if_icmp .ne 43, 3), (9, .iconst 0, 1), (10, .istore_n 1, 1), (11, .iload_n 1, 1), (12, .sipush 165, 3), (15, .if_icmp .ge 24, 3), (18, .aload_n 0, 1), (19, .getfield 21, 3), (22, .iload_n 1, 1), (23, .aload_n 0, 1), (24, .getfield 21, 3), (27, .iload_n 1, 1), (28, .bipush 15, 2), (30, .iadd, 1), (31, .iaload, 1), (32, .iastore, 1), (33, .iinc 1 1, 3)]
theorem zddX12_keeps_0 : dqW lzddX12_keeps_0 (cX12_keeps.data.toList.drop 0) 0 = true := by decide +kernel
theorem dX12_keeps_0 : decode cX12_keeps 0 = .ok (.aload_n 0, 1) := dq_get (L := lzddX12_keeps_0) 0 rfl zddX12_keeps_0 rfl
theorem dX12_keeps_1 : decode cX12_keeps 1 = .ok (.getfield 387, 3) := dq_get (L := lzddX12_keeps_0) 1 rfl zddX12_keeps_0 rfl
theorem dX12_keeps_4 : decode cX12_keeps 4 = .ok (.bipush 12, 2) := dq_get (L := lzddX12_keeps_0) 2 rfl zddX12_keeps_0 rfl
theorem dX12_keeps_6 : decode cX12_keeps 6 = .ok (.if_icmp .ne 43, 3) := dq_get (L := lzddX12_keeps_0) 3 rfl zddX12_keeps_0 rfl
theorem dX12_keeps_9 : decode cX12_keeps 9 = .ok (.iconst 0, 1) := dq_get (L := lzddX12_keeps_0) 4 rfl zddX12_keeps_0 rfl
theorem dX12_keeps_10 : decode cX12_keeps 10 = .ok (.istore_n 1, 1) := dq_get (L := lzddX12_keeps_0) 5 rfl zddX12_keeps_0 rfl
theorem dX12_keeps_11 : decode cX12_keeps 11 = .ok (.iload_n 1, 1) := dq_get (L := lzddX12_keeps_0) 6 rfl zddX12_keeps_0 rfl
theorem dX12_keeps_12 : decode cX12_keeps 12 = .ok (.sipush 165, 3) := dq_get (L := lzddX12_keeps_0) 7 rfl zddX12_keeps_0 rfl
theorem dX12_keeps_15 : decode cX12_keeps 15 = .ok (.if_icmp .ge 24, 3) := dq_get (L := lzddX12_keeps_0) 8 rfl zddX12_keeps_0 rfl
theorem dX12_keeps_18 : decode cX12_keeps 18 = .ok (.aload_n 0, 1) := dq_get (L := lzddX12_keeps_0) 9 rfl zddX12_keeps_0 rfl
theorem dX12_keeps_19 : decode cX12_keeps 19 = .ok (.getfield 21, 3) := dq_get (L := lzddX12_keeps_0) 10 rfl zddX12_keeps_0 rfl
theorem dX12_keeps_22 : decode cX12_keeps 22 = .ok (.iload_n 1, 1) := dq_get (L := lzddX12_keeps_0) 11 rfl zddX12_keeps_0 rfl
theorem dX12_keeps_23 : decode cX12_keeps 23 = .ok (.aload_n 0, 1) := dq_get (L := lzddX12_keeps_0) 12 rfl zddX12_keeps_0 rfl
theorem dX12_keeps_24 : decode cX12_keeps 24 = .ok (.getfield 21, 3) := dq_get (L := lzddX12_keeps_0) 13 rfl zddX12_keeps_0 rfl
theorem dX12_keeps_27 : decode cX12_keeps 27 = .ok (.iload_n 1, 1) := dq_get (L := lzddX12_keeps_0) 14 rfl zddX12_keeps_0 rfl
theorem dX12_keeps_28 : decode cX12_keeps 28 = .ok (.bipush 15, 2) := dq_get (L := lzddX12_keeps_0) 15 rfl zddX12_keeps_0 rfl
theorem dX12_keeps_30 : decode cX12_keeps 30 = .ok (.iadd, 1) := dq_get (L := lzddX12_keeps_0) 16 rfl zddX12_keeps_0 rfl
theorem dX12_keeps_31 : decode cX12_keeps 31 = .ok (.iaload, 1) := dq_get (L := lzddX12_keeps_0) 17 rfl zddX12_keeps_0 rfl
theorem dX12_keeps_32 : decode cX12_keeps 32 = .ok (.iastore, 1) := dq_get (L := lzddX12_keeps_0) 18 rfl zddX12_keeps_0 rfl
theorem dX12_keeps_33 : decode cX12_keeps 33 = .ok (.iinc 1 1, 3) := dq_get (L := lzddX12_keeps_0) 19 rfl zddX12_keeps_0 rfl
def lzddX12_keeps_36 : List (Nat × Instr × Nat) := [(36, .goto (-25), 3), (39, .aload_n 0, 1), (40, .dup, 1), (41, .getfield 387, 3), (44, .iconst 1, 1), (45, .isub, 1), (46, .putfield 387, 3), (49, .iconst 0, 1), (50, .istore_n 1, 1), (51, .iload_n 1, 1), (52, .bipush 15, 2), (54, .if_icmp .ge 29, 3), (57, .aload_n 0, 1), (58, .getfield 21, 3), (61, .bipush 15, 2), (63, .aload_n 0, 1), (64, .getfield 387, 3), (67, .imul, 1), (68, .iload_n 1, 1), (69, .iadd, 1)]
theorem zddX12_keeps_36 : dqW lzddX12_keeps_36 (cX12_keeps.data.toList.drop 36) 36 = true := by decide +kernel
theorem dX12_keeps_36 : decode cX12_keeps 36 = .ok (.goto (-25), 3) := dq_get (L := lzddX12_keeps_36) 0 rfl zddX12_keeps_36 rfl
theorem dX12_keeps_39 : decode cX12_keeps 39 = .ok (.aload_n 0, 1) := dq_get (L := lzddX12_keeps_36) 1 rfl zddX12_keeps_36 rfl
theorem dX12_keeps_40 : decode cX12_keeps 40 = .ok (.dup, 1) := dq_get (L := lzddX12_keeps_36) 2 rfl zddX12_keeps_36 rfl
theorem dX12_keeps_41 : decode cX12_keeps 41 = .ok (.getfield 387, 3) := dq_get (L := lzddX12_keeps_36) 3 rfl zddX12_keeps_36 rfl
theorem dX12_keeps_44 : decode cX12_keeps 44 = .ok (.iconst 1, 1) := dq_get (L := lzddX12_keeps_36) 4 rfl zddX12_keeps_36 rfl
theorem dX12_keeps_45 : decode cX12_keeps 45 = .ok (.isub, 1) := dq_get (L := lzddX12_keeps_36) 5 rfl zddX12_keeps_36 rfl
theorem dX12_keeps_46 : decode cX12_keeps 46 = .ok (.putfield 387, 3) := dq_get (L := lzddX12_keeps_36) 6 rfl zddX12_keeps_36 rfl
theorem dX12_keeps_49 : decode cX12_keeps 49 = .ok (.iconst 0, 1) := dq_get (L := lzddX12_keeps_36) 7 rfl zddX12_keeps_36 rfl
theorem dX12_keeps_50 : decode cX12_keeps 50 = .ok (.istore_n 1, 1) := dq_get (L := lzddX12_keeps_36) 8 rfl zddX12_keeps_36 rfl
theorem dX12_keeps_51 : decode cX12_keeps 51 = .ok (.iload_n 1, 1) := dq_get (L := lzddX12_keeps_36) 9 rfl zddX12_keeps_36 rfl
theorem dX12_keeps_52 : decode cX12_keeps 52 = .ok (.bipush 15, 2) := dq_get (L := lzddX12_keeps_36) 10 rfl zddX12_keeps_36 rfl
theorem dX12_keeps_54 : decode cX12_keeps 54 = .ok (.if_icmp .ge 29, 3) := dq_get (L := lzddX12_keeps_36) 11 rfl zddX12_keeps_36 rfl
theorem dX12_keeps_57 : decode cX12_keeps 57 = .ok (.aload_n 0, 1) := dq_get (L := lzddX12_keeps_36) 12 rfl zddX12_keeps_36 rfl
theorem dX12_keeps_58 : decode cX12_keeps 58 = .ok (.getfield 21, 3) := dq_get (L := lzddX12_keeps_36) 13 rfl zddX12_keeps_36 rfl
theorem dX12_keeps_61 : decode cX12_keeps 61 = .ok (.bipush 15, 2) := dq_get (L := lzddX12_keeps_36) 14 rfl zddX12_keeps_36 rfl
theorem dX12_keeps_63 : decode cX12_keeps 63 = .ok (.aload_n 0, 1) := dq_get (L := lzddX12_keeps_36) 15 rfl zddX12_keeps_36 rfl
theorem dX12_keeps_64 : decode cX12_keeps 64 = .ok (.getfield 387, 3) := dq_get (L := lzddX12_keeps_36) 16 rfl zddX12_keeps_36 rfl
theorem dX12_keeps_67 : decode cX12_keeps 67 = .ok (.imul, 1) := dq_get (L := lzddX12_keeps_36) 17 rfl zddX12_keeps_36 rfl
theorem dX12_keeps_68 : decode cX12_keeps 68 = .ok (.iload_n 1, 1) := dq_get (L := lzddX12_keeps_36) 18 rfl zddX12_keeps_36 rfl
theorem dX12_keeps_69 : decode cX12_keeps 69 = .ok (.iadd, 1) := dq_get (L := lzddX12_keeps_36) 19 rfl zddX12_keeps_36 rfl
def lzddX12_keeps_70 : List (Nat × Instr × Nat) := [(70, .aload_n 0, 1), (71, .getfield 17, 3), (74, .iload_n 1, 1), (75, .iaload, 1), (76, .iastore, 1), (77, .iinc 1 1, 3), (80, .goto (-29), 3), (83, .aload_n 0, 1), (84, .dup, 1), (85, .getfield 387, 3), (88, .iconst 1, 1), (89, .iadd, 1), (90, .putfield 387, 3), (93, .return_, 1)]
theorem zddX12_keeps_70 : dqW lzddX12_keeps_70 (cX12_keeps.data.toList.drop 70) 70 = true := by decide +kernel
theorem dX12_keeps_70 : decode cX12_keeps 70 = .ok (.aload_n 0, 1) := dq_get (L := lzddX12_keeps_70) 0 rfl zddX12_keeps_70 rfl
theorem dX12_keeps_71 : decode cX12_keeps 71 = .ok (.getfield 17, 3) := dq_get (L := lzddX12_keeps_70) 1 rfl zddX12_keeps_70 rfl
theorem dX12_keeps_74 : decode cX12_keeps 74 = .ok (.iload_n 1, 1) := dq_get (L := lzddX12_keeps_70) 2 rfl zddX12_keeps_70 rfl
theorem dX12_keeps_75 : decode cX12_keeps 75 = .ok (.iaload, 1) := dq_get (L := lzddX12_keeps_70) 3 rfl zddX12_keeps_70 rfl
theorem dX12_keeps_76 : decode cX12_keeps 76 = .ok (.iastore, 1) := dq_get (L := lzddX12_keeps_70) 4 rfl zddX12_keeps_70 rfl
theorem dX12_keeps_77 : decode cX12_keeps 77 = .ok (.iinc 1 1, 3) := dq_get (L := lzddX12_keeps_70) 5 rfl zddX12_keeps_70 rfl
theorem dX12_keeps_80 : decode cX12_keeps 80 = .ok (.goto (-29), 3) := dq_get (L := lzddX12_keeps_70) 6 rfl zddX12_keeps_70 rfl
theorem dX12_keeps_83 : decode cX12_keeps 83 = .ok (.aload_n 0, 1) := dq_get (L := lzddX12_keeps_70) 7 rfl zddX12_keeps_70 rfl
theorem dX12_keeps_84 : decode cX12_keeps 84 = .ok (.dup, 1) := dq_get (L := lzddX12_keeps_70) 8 rfl zddX12_keeps_70 rfl
theorem dX12_keeps_85 : decode cX12_keeps 85 = .ok (.getfield 387, 3) := dq_get (L := lzddX12_keeps_70) 9 rfl zddX12_keeps_70 rfl
theorem dX12_keeps_88 : decode cX12_keeps 88 = .ok (.iconst 1, 1) := dq_get (L := lzddX12_keeps_70) 10 rfl zddX12_keeps_70 rfl
theorem dX12_keeps_89 : decode cX12_keeps 89 = .ok (.iadd, 1) := dq_get (L := lzddX12_keeps_70) 11 rfl zddX12_keeps_70 rfl
theorem dX12_keeps_90 : decode cX12_keeps 90 = .ok (.putfield 387, 3) := dq_get (L := lzddX12_keeps_70) 12 rfl zddX12_keeps_70 rfl
theorem dX12_keeps_93 : decode cX12_keeps 93 = .ok (.return_, 1) := dq_get (L := lzddX12_keeps_70) 13 rfl zddX12_keeps_70 rfl
def lzddX12_kindOf_0 : List (Nat × Instr × Nat) := [(0, .iload_n 1, 1), (1, .aload_n 0, 1), (2, .getfield 385, 3), (5, .getfield 265, 3), (8, .if_icmp .ge 15, 3), (11, .aload_n 0, 1), (12, .getfield 385, 3), (15, .getfield 274, 3), (18, .iload_n 1, 1), (19, .iaload, 1), (20, .goto 4, 3), (23, .iconst 0, 1), (24, .ireturn, 1)]
theorem zddX12_kindOf_0 : dqW lzddX12_kindOf_0 (cX12_kindOf.data.toList.drop 0) 0 = true := by decide +kernel
theorem dX12_kindOf_0 : decode cX12_kindOf 0 = .ok (.iload_n 1, 1) := dq_get (L := lzddX12_kindOf_0) 0 rfl zddX12_kindOf_0 rfl
theorem dX12_kindOf_1 : decode cX12_kindOf 1 = .ok (.aload_n 0, 1) := dq_get (L := lzddX12_kindOf_0) 1 rfl zddX12_kindOf_0 rfl
theorem dX12_kindOf_2 : decode cX12_kindOf 2 = .ok (.getfield 385, 3) := dq_get (L := lzddX12_kindOf_0) 2 rfl zddX12_kindOf_0 rfl
theorem dX12_kindOf_5 : decode cX12_kindOf 5 = .ok (.getfield 265, 3) := dq_get (L := lzddX12_kindOf_0) 3 rfl zddX12_kindOf_0 rfl
theorem dX12_kindOf_8 : decode cX12_kindOf 8 = .ok (.if_icmp .ge 15, 3) := dq_get (L := lzddX12_kindOf_0) 4 rfl zddX12_kindOf_0 rfl
theorem dX12_kindOf_11 : decode cX12_kindOf 11 = .ok (.aload_n 0, 1) := dq_get (L := lzddX12_kindOf_0) 5 rfl zddX12_kindOf_0 rfl
theorem dX12_kindOf_12 : decode cX12_kindOf 12 = .ok (.getfield 385, 3) := dq_get (L := lzddX12_kindOf_0) 6 rfl zddX12_kindOf_0 rfl
theorem dX12_kindOf_15 : decode cX12_kindOf 15 = .ok (.getfield 274, 3) := dq_get (L := lzddX12_kindOf_0) 7 rfl zddX12_kindOf_0 rfl
theorem dX12_kindOf_18 : decode cX12_kindOf 18 = .ok (.iload_n 1, 1) := dq_get (L := lzddX12_kindOf_0) 8 rfl zddX12_kindOf_0 rfl
theorem dX12_kindOf_19 : decode cX12_kindOf 19 = .ok (.iaload, 1) := dq_get (L := lzddX12_kindOf_0) 9 rfl zddX12_kindOf_0 rfl
theorem dX12_kindOf_20 : decode cX12_kindOf 20 = .ok (.goto 4, 3) := dq_get (L := lzddX12_kindOf_0) 10 rfl zddX12_kindOf_0 rfl
theorem dX12_kindOf_23 : decode cX12_kindOf 23 = .ok (.iconst 0, 1) := dq_get (L := lzddX12_kindOf_0) 11 rfl zddX12_kindOf_0 rfl
theorem dX12_kindOf_24 : decode cX12_kindOf 24 = .ok (.ireturn, 1) := dq_get (L := lzddX12_kindOf_0) 12 rfl zddX12_kindOf_0 rfl
def lzddX12_laysLight_0 : List (Nat × Instr × Nat) := [(0, .iconst 0, 1), (1, .istore_n 2, 1), (2, .iload_n 2, 1), (3, .aload_n 0, 1), (4, .getfield 385, 3), (7, .getfield 192, 3), (10, .if_icmp .ge 75, 3), (13, .aload_n 0, 1), (14, .getfield 27, 3), (17, .iload_n 2, 1), (18, .iconst 1, 1), (19, .bastore, 1), (20, .aload_n 0, 1), (21, .getfield 37, 3), (24, .iload_n 2, 1), (25, .iconst 0, 1), (26, .bastore, 1), (27, .aload_n 0, 1), (28, .getfield 40, 3), (31, .iload_n 2, 1)]
theorem zddX12_laysLight_0 : dqW lzddX12_laysLight_0 (cX12_laysLight.data.toList.drop 0) 0 = true := by decide +kernel
theorem dX12_laysLight_0 : decode cX12_laysLight 0 = .ok (.iconst 0, 1) := dq_get (L := lzddX12_laysLight_0) 0 rfl zddX12_laysLight_0 rfl
theorem dX12_laysLight_1 : decode cX12_laysLight 1 = .ok (.istore_n 2, 1) := dq_get (L := lzddX12_laysLight_0) 1 rfl zddX12_laysLight_0 rfl
theorem dX12_laysLight_2 : decode cX12_laysLight 2 = .ok (.iload_n 2, 1) := dq_get (L := lzddX12_laysLight_0) 2 rfl zddX12_laysLight_0 rfl
theorem dX12_laysLight_3 : decode cX12_laysLight 3 = .ok (.aload_n 0, 1) := dq_get (L := lzddX12_laysLight_0) 3 rfl zddX12_laysLight_0 rfl
theorem dX12_laysLight_4 : decode cX12_laysLight 4 = .ok (.getfield 385, 3) := dq_get (L := lzddX12_laysLight_0) 4 rfl zddX12_laysLight_0 rfl
theorem dX12_laysLight_7 : decode cX12_laysLight 7 = .ok (.getfield 192, 3) := dq_get (L := lzddX12_laysLight_0) 5 rfl zddX12_laysLight_0 rfl
theorem dX12_laysLight_10 : decode cX12_laysLight 10 = .ok (.if_icmp .ge 75, 3) := dq_get (L := lzddX12_laysLight_0) 6 rfl zddX12_laysLight_0 rfl
theorem dX12_laysLight_13 : decode cX12_laysLight 13 = .ok (.aload_n 0, 1) := dq_get (L := lzddX12_laysLight_0) 7 rfl zddX12_laysLight_0 rfl
theorem dX12_laysLight_14 : decode cX12_laysLight 14 = .ok (.getfield 27, 3) := dq_get (L := lzddX12_laysLight_0) 8 rfl zddX12_laysLight_0 rfl
theorem dX12_laysLight_17 : decode cX12_laysLight 17 = .ok (.iload_n 2, 1) := dq_get (L := lzddX12_laysLight_0) 9 rfl zddX12_laysLight_0 rfl
theorem dX12_laysLight_18 : decode cX12_laysLight 18 = .ok (.iconst 1, 1) := dq_get (L := lzddX12_laysLight_0) 10 rfl zddX12_laysLight_0 rfl
theorem dX12_laysLight_19 : decode cX12_laysLight 19 = .ok (.bastore, 1) := dq_get (L := lzddX12_laysLight_0) 11 rfl zddX12_laysLight_0 rfl
theorem dX12_laysLight_20 : decode cX12_laysLight 20 = .ok (.aload_n 0, 1) := dq_get (L := lzddX12_laysLight_0) 12 rfl zddX12_laysLight_0 rfl
theorem dX12_laysLight_21 : decode cX12_laysLight 21 = .ok (.getfield 37, 3) := dq_get (L := lzddX12_laysLight_0) 13 rfl zddX12_laysLight_0 rfl
theorem dX12_laysLight_24 : decode cX12_laysLight 24 = .ok (.iload_n 2, 1) := dq_get (L := lzddX12_laysLight_0) 14 rfl zddX12_laysLight_0 rfl
theorem dX12_laysLight_25 : decode cX12_laysLight 25 = .ok (.iconst 0, 1) := dq_get (L := lzddX12_laysLight_0) 15 rfl zddX12_laysLight_0 rfl
theorem dX12_laysLight_26 : decode cX12_laysLight 26 = .ok (.bastore, 1) := dq_get (L := lzddX12_laysLight_0) 16 rfl zddX12_laysLight_0 rfl
theorem dX12_laysLight_27 : decode cX12_laysLight 27 = .ok (.aload_n 0, 1) := dq_get (L := lzddX12_laysLight_0) 17 rfl zddX12_laysLight_0 rfl
theorem dX12_laysLight_28 : decode cX12_laysLight 28 = .ok (.getfield 40, 3) := dq_get (L := lzddX12_laysLight_0) 18 rfl zddX12_laysLight_0 rfl
theorem dX12_laysLight_31 : decode cX12_laysLight 31 = .ok (.iload_n 2, 1) := dq_get (L := lzddX12_laysLight_0) 19 rfl zddX12_laysLight_0 rfl
def lzddX12_laysLight_32 : List (Nat × Instr × Nat) := [(32, .iconst 0, 1), (33, .bastore, 1), (34, .iconst 0, 1), (35, .istore_n 3, 1), (36, .iload_n 3, 1), (37, .aload_n 0, 1), (38, .getfield 385, 3), (41, .getfield 263, 3), (44, .if_icmp .ge 35, 3), (47, .aload_n 0, 1), (48, .getfield 43, 3), (51, .sipush 240, 3), (54, .iload_n 3, 1), (55, .imul, 1), (56, .iload_n 2, 1), (57, .iadd, 1), (58, .iconst 0, 1), (59, .bastore, 1), (60, .aload_n 0, 1), (61, .getfield 34, 3)]
theorem zddX12_laysLight_32 : dqW lzddX12_laysLight_32 (cX12_laysLight.data.toList.drop 32) 32 = true := by decide +kernel
theorem dX12_laysLight_32 : decode cX12_laysLight 32 = .ok (.iconst 0, 1) := dq_get (L := lzddX12_laysLight_32) 0 rfl zddX12_laysLight_32 rfl
theorem dX12_laysLight_33 : decode cX12_laysLight 33 = .ok (.bastore, 1) := dq_get (L := lzddX12_laysLight_32) 1 rfl zddX12_laysLight_32 rfl
theorem dX12_laysLight_34 : decode cX12_laysLight 34 = .ok (.iconst 0, 1) := dq_get (L := lzddX12_laysLight_32) 2 rfl zddX12_laysLight_32 rfl
theorem dX12_laysLight_35 : decode cX12_laysLight 35 = .ok (.istore_n 3, 1) := dq_get (L := lzddX12_laysLight_32) 3 rfl zddX12_laysLight_32 rfl
theorem dX12_laysLight_36 : decode cX12_laysLight 36 = .ok (.iload_n 3, 1) := dq_get (L := lzddX12_laysLight_32) 4 rfl zddX12_laysLight_32 rfl
theorem dX12_laysLight_37 : decode cX12_laysLight 37 = .ok (.aload_n 0, 1) := dq_get (L := lzddX12_laysLight_32) 5 rfl zddX12_laysLight_32 rfl
theorem dX12_laysLight_38 : decode cX12_laysLight 38 = .ok (.getfield 385, 3) := dq_get (L := lzddX12_laysLight_32) 6 rfl zddX12_laysLight_32 rfl
theorem dX12_laysLight_41 : decode cX12_laysLight 41 = .ok (.getfield 263, 3) := dq_get (L := lzddX12_laysLight_32) 7 rfl zddX12_laysLight_32 rfl
theorem dX12_laysLight_44 : decode cX12_laysLight 44 = .ok (.if_icmp .ge 35, 3) := dq_get (L := lzddX12_laysLight_32) 8 rfl zddX12_laysLight_32 rfl
theorem dX12_laysLight_47 : decode cX12_laysLight 47 = .ok (.aload_n 0, 1) := dq_get (L := lzddX12_laysLight_32) 9 rfl zddX12_laysLight_32 rfl
theorem dX12_laysLight_48 : decode cX12_laysLight 48 = .ok (.getfield 43, 3) := dq_get (L := lzddX12_laysLight_32) 10 rfl zddX12_laysLight_32 rfl
theorem dX12_laysLight_51 : decode cX12_laysLight 51 = .ok (.sipush 240, 3) := dq_get (L := lzddX12_laysLight_32) 11 rfl zddX12_laysLight_32 rfl
theorem dX12_laysLight_54 : decode cX12_laysLight 54 = .ok (.iload_n 3, 1) := dq_get (L := lzddX12_laysLight_32) 12 rfl zddX12_laysLight_32 rfl
theorem dX12_laysLight_55 : decode cX12_laysLight 55 = .ok (.imul, 1) := dq_get (L := lzddX12_laysLight_32) 13 rfl zddX12_laysLight_32 rfl
theorem dX12_laysLight_56 : decode cX12_laysLight 56 = .ok (.iload_n 2, 1) := dq_get (L := lzddX12_laysLight_32) 14 rfl zddX12_laysLight_32 rfl
theorem dX12_laysLight_57 : decode cX12_laysLight 57 = .ok (.iadd, 1) := dq_get (L := lzddX12_laysLight_32) 15 rfl zddX12_laysLight_32 rfl
theorem dX12_laysLight_58 : decode cX12_laysLight 58 = .ok (.iconst 0, 1) := dq_get (L := lzddX12_laysLight_32) 16 rfl zddX12_laysLight_32 rfl
theorem dX12_laysLight_59 : decode cX12_laysLight 59 = .ok (.bastore, 1) := dq_get (L := lzddX12_laysLight_32) 17 rfl zddX12_laysLight_32 rfl
theorem dX12_laysLight_60 : decode cX12_laysLight 60 = .ok (.aload_n 0, 1) := dq_get (L := lzddX12_laysLight_32) 18 rfl zddX12_laysLight_32 rfl
theorem dX12_laysLight_61 : decode cX12_laysLight 61 = .ok (.getfield 34, 3) := dq_get (L := lzddX12_laysLight_32) 19 rfl zddX12_laysLight_32 rfl
def lzddX12_laysLight_64 : List (Nat × Instr × Nat) := [(64, .sipush 240, 3), (67, .iload_n 3, 1), (68, .imul, 1), (69, .iload_n 2, 1), (70, .iadd, 1), (71, .iconst 0, 1), (72, .bastore, 1), (73, .iinc 3 1, 3), (76, .goto (-40), 3), (79, .iinc 2 1, 3), (82, .goto (-80), 3), (85, .iconst 0, 1), (86, .istore_n 2, 1), (87, .iload_n 2, 1), (88, .aload_n 0, 1), (89, .invokevirtual 393, 3), (92, .if_icmp .ge 41, 3), (95, .iload_n 2, 1), (96, .iload_n 1, 1), (97, .if_icmp .eq 30, 3)]
theorem zddX12_laysLight_64 : dqW lzddX12_laysLight_64 (cX12_laysLight.data.toList.drop 64) 64 = true := by decide +kernel
theorem dX12_laysLight_64 : decode cX12_laysLight 64 = .ok (.sipush 240, 3) := dq_get (L := lzddX12_laysLight_64) 0 rfl zddX12_laysLight_64 rfl
theorem dX12_laysLight_67 : decode cX12_laysLight 67 = .ok (.iload_n 3, 1) := dq_get (L := lzddX12_laysLight_64) 1 rfl zddX12_laysLight_64 rfl
theorem dX12_laysLight_68 : decode cX12_laysLight 68 = .ok (.imul, 1) := dq_get (L := lzddX12_laysLight_64) 2 rfl zddX12_laysLight_64 rfl
theorem dX12_laysLight_69 : decode cX12_laysLight 69 = .ok (.iload_n 2, 1) := dq_get (L := lzddX12_laysLight_64) 3 rfl zddX12_laysLight_64 rfl
theorem dX12_laysLight_70 : decode cX12_laysLight 70 = .ok (.iadd, 1) := dq_get (L := lzddX12_laysLight_64) 4 rfl zddX12_laysLight_64 rfl
theorem dX12_laysLight_71 : decode cX12_laysLight 71 = .ok (.iconst 0, 1) := dq_get (L := lzddX12_laysLight_64) 5 rfl zddX12_laysLight_64 rfl
theorem dX12_laysLight_72 : decode cX12_laysLight 72 = .ok (.bastore, 1) := dq_get (L := lzddX12_laysLight_64) 6 rfl zddX12_laysLight_64 rfl
theorem dX12_laysLight_73 : decode cX12_laysLight 73 = .ok (.iinc 3 1, 3) := dq_get (L := lzddX12_laysLight_64) 7 rfl zddX12_laysLight_64 rfl
theorem dX12_laysLight_76 : decode cX12_laysLight 76 = .ok (.goto (-40), 3) := dq_get (L := lzddX12_laysLight_64) 8 rfl zddX12_laysLight_64 rfl
theorem dX12_laysLight_79 : decode cX12_laysLight 79 = .ok (.iinc 2 1, 3) := dq_get (L := lzddX12_laysLight_64) 9 rfl zddX12_laysLight_64 rfl
theorem dX12_laysLight_82 : decode cX12_laysLight 82 = .ok (.goto (-80), 3) := dq_get (L := lzddX12_laysLight_64) 10 rfl zddX12_laysLight_64 rfl
theorem dX12_laysLight_85 : decode cX12_laysLight 85 = .ok (.iconst 0, 1) := dq_get (L := lzddX12_laysLight_64) 11 rfl zddX12_laysLight_64 rfl
theorem dX12_laysLight_86 : decode cX12_laysLight 86 = .ok (.istore_n 2, 1) := dq_get (L := lzddX12_laysLight_64) 12 rfl zddX12_laysLight_64 rfl
theorem dX12_laysLight_87 : decode cX12_laysLight 87 = .ok (.iload_n 2, 1) := dq_get (L := lzddX12_laysLight_64) 13 rfl zddX12_laysLight_64 rfl
theorem dX12_laysLight_88 : decode cX12_laysLight 88 = .ok (.aload_n 0, 1) := dq_get (L := lzddX12_laysLight_64) 14 rfl zddX12_laysLight_64 rfl
theorem dX12_laysLight_89 : decode cX12_laysLight 89 = .ok (.invokevirtual 393, 3) := dq_get (L := lzddX12_laysLight_64) 15 rfl zddX12_laysLight_64 rfl
theorem dX12_laysLight_92 : decode cX12_laysLight 92 = .ok (.if_icmp .ge 41, 3) := dq_get (L := lzddX12_laysLight_64) 16 rfl zddX12_laysLight_64 rfl
theorem dX12_laysLight_95 : decode cX12_laysLight 95 = .ok (.iload_n 2, 1) := dq_get (L := lzddX12_laysLight_64) 17 rfl zddX12_laysLight_64 rfl
theorem dX12_laysLight_96 : decode cX12_laysLight 96 = .ok (.iload_n 1, 1) := dq_get (L := lzddX12_laysLight_64) 18 rfl zddX12_laysLight_64 rfl
theorem dX12_laysLight_97 : decode cX12_laysLight 97 = .ok (.if_icmp .eq 30, 3) := dq_get (L := lzddX12_laysLight_64) 19 rfl zddX12_laysLight_64 rfl
def lzddX12_laysLight_100 : List (Nat × Instr × Nat) := [(100, .aload_n 0, 1), (101, .iload_n 2, 1), (102, .invokevirtual 395, 3), (105, .istore_n 3, 1), (106, .iload_n 3, 1), (107, .aload_n 0, 1), (108, .iload_n 2, 1), (109, .invokevirtual 398, 3), (112, .if_icmp .ge 15, 3), (115, .aload_n 0, 1), (116, .iload_n 2, 1), (117, .iload_n 3, 1), (118, .invokevirtual 401, 3), (121, .iinc 3 1, 3), (124, .goto (-18), 3), (127, .iinc 2 1, 3), (130, .goto (-43), 3), (133, .iconst 0, 1), (134, .istore_n 2, 1), (135, .iload_n 2, 1)]
theorem zddX12_laysLight_100 : dqW lzddX12_laysLight_100 (cX12_laysLight.data.toList.drop 100) 100 = true := by decide +kernel
theorem dX12_laysLight_100 : decode cX12_laysLight 100 = .ok (.aload_n 0, 1) := dq_get (L := lzddX12_laysLight_100) 0 rfl zddX12_laysLight_100 rfl
theorem dX12_laysLight_101 : decode cX12_laysLight 101 = .ok (.iload_n 2, 1) := dq_get (L := lzddX12_laysLight_100) 1 rfl zddX12_laysLight_100 rfl
theorem dX12_laysLight_102 : decode cX12_laysLight 102 = .ok (.invokevirtual 395, 3) := dq_get (L := lzddX12_laysLight_100) 2 rfl zddX12_laysLight_100 rfl
theorem dX12_laysLight_105 : decode cX12_laysLight 105 = .ok (.istore_n 3, 1) := dq_get (L := lzddX12_laysLight_100) 3 rfl zddX12_laysLight_100 rfl
theorem dX12_laysLight_106 : decode cX12_laysLight 106 = .ok (.iload_n 3, 1) := dq_get (L := lzddX12_laysLight_100) 4 rfl zddX12_laysLight_100 rfl
theorem dX12_laysLight_107 : decode cX12_laysLight 107 = .ok (.aload_n 0, 1) := dq_get (L := lzddX12_laysLight_100) 5 rfl zddX12_laysLight_100 rfl
theorem dX12_laysLight_108 : decode cX12_laysLight 108 = .ok (.iload_n 2, 1) := dq_get (L := lzddX12_laysLight_100) 6 rfl zddX12_laysLight_100 rfl
theorem dX12_laysLight_109 : decode cX12_laysLight 109 = .ok (.invokevirtual 398, 3) := dq_get (L := lzddX12_laysLight_100) 7 rfl zddX12_laysLight_100 rfl
theorem dX12_laysLight_112 : decode cX12_laysLight 112 = .ok (.if_icmp .ge 15, 3) := dq_get (L := lzddX12_laysLight_100) 8 rfl zddX12_laysLight_100 rfl
theorem dX12_laysLight_115 : decode cX12_laysLight 115 = .ok (.aload_n 0, 1) := dq_get (L := lzddX12_laysLight_100) 9 rfl zddX12_laysLight_100 rfl
theorem dX12_laysLight_116 : decode cX12_laysLight 116 = .ok (.iload_n 2, 1) := dq_get (L := lzddX12_laysLight_100) 10 rfl zddX12_laysLight_100 rfl
theorem dX12_laysLight_117 : decode cX12_laysLight 117 = .ok (.iload_n 3, 1) := dq_get (L := lzddX12_laysLight_100) 11 rfl zddX12_laysLight_100 rfl
theorem dX12_laysLight_118 : decode cX12_laysLight 118 = .ok (.invokevirtual 401, 3) := dq_get (L := lzddX12_laysLight_100) 12 rfl zddX12_laysLight_100 rfl
theorem dX12_laysLight_121 : decode cX12_laysLight 121 = .ok (.iinc 3 1, 3) := dq_get (L := lzddX12_laysLight_100) 13 rfl zddX12_laysLight_100 rfl
theorem dX12_laysLight_124 : decode cX12_laysLight 124 = .ok (.goto (-18), 3) := dq_get (L := lzddX12_laysLight_100) 14 rfl zddX12_laysLight_100 rfl
theorem dX12_laysLight_127 : decode cX12_laysLight 127 = .ok (.iinc 2 1, 3) := dq_get (L := lzddX12_laysLight_100) 15 rfl zddX12_laysLight_100 rfl
theorem dX12_laysLight_130 : decode cX12_laysLight 130 = .ok (.goto (-43), 3) := dq_get (L := lzddX12_laysLight_100) 16 rfl zddX12_laysLight_100 rfl
theorem dX12_laysLight_133 : decode cX12_laysLight 133 = .ok (.iconst 0, 1) := dq_get (L := lzddX12_laysLight_100) 17 rfl zddX12_laysLight_100 rfl
theorem dX12_laysLight_134 : decode cX12_laysLight 134 = .ok (.istore_n 2, 1) := dq_get (L := lzddX12_laysLight_100) 18 rfl zddX12_laysLight_100 rfl
theorem dX12_laysLight_135 : decode cX12_laysLight 135 = .ok (.iload_n 2, 1) := dq_get (L := lzddX12_laysLight_100) 19 rfl zddX12_laysLight_100 rfl
def lzddX12_laysLight_136 : List (Nat × Instr × Nat) := [(136, .aload_n 0, 1), (137, .getfield 385, 3), (140, .getfield 192, 3), (143, .if_icmp .ge 154, 3), (146, .aload_n 0, 1), (147, .getfield 27, 3), (150, .iload_n 2, 1), (151, .aload_n 0, 1), (152, .getfield 37, 3), (155, .iload_n 2, 1), (156, .baload, 1), (157, .ifCond .ne 25, 3), (160, .aload_n 0, 1), (161, .getfield 40, 3), (164, .iload_n 2, 1), (165, .baload, 1), (166, .ifCond .ne 12, 3), (169, .aload_n 0, 1), (170, .getfield 27, 3), (173, .iload_n 2, 1)]
theorem zddX12_laysLight_136 : dqW lzddX12_laysLight_136 (cX12_laysLight.data.toList.drop 136) 136 = true := by decide +kernel
theorem dX12_laysLight_136 : decode cX12_laysLight 136 = .ok (.aload_n 0, 1) := dq_get (L := lzddX12_laysLight_136) 0 rfl zddX12_laysLight_136 rfl
theorem dX12_laysLight_137 : decode cX12_laysLight 137 = .ok (.getfield 385, 3) := dq_get (L := lzddX12_laysLight_136) 1 rfl zddX12_laysLight_136 rfl
theorem dX12_laysLight_140 : decode cX12_laysLight 140 = .ok (.getfield 192, 3) := dq_get (L := lzddX12_laysLight_136) 2 rfl zddX12_laysLight_136 rfl
theorem dX12_laysLight_143 : decode cX12_laysLight 143 = .ok (.if_icmp .ge 154, 3) := dq_get (L := lzddX12_laysLight_136) 3 rfl zddX12_laysLight_136 rfl
theorem dX12_laysLight_146 : decode cX12_laysLight 146 = .ok (.aload_n 0, 1) := dq_get (L := lzddX12_laysLight_136) 4 rfl zddX12_laysLight_136 rfl
theorem dX12_laysLight_147 : decode cX12_laysLight 147 = .ok (.getfield 27, 3) := dq_get (L := lzddX12_laysLight_136) 5 rfl zddX12_laysLight_136 rfl
theorem dX12_laysLight_150 : decode cX12_laysLight 150 = .ok (.iload_n 2, 1) := dq_get (L := lzddX12_laysLight_136) 6 rfl zddX12_laysLight_136 rfl
theorem dX12_laysLight_151 : decode cX12_laysLight 151 = .ok (.aload_n 0, 1) := dq_get (L := lzddX12_laysLight_136) 7 rfl zddX12_laysLight_136 rfl
theorem dX12_laysLight_152 : decode cX12_laysLight 152 = .ok (.getfield 37, 3) := dq_get (L := lzddX12_laysLight_136) 8 rfl zddX12_laysLight_136 rfl
theorem dX12_laysLight_155 : decode cX12_laysLight 155 = .ok (.iload_n 2, 1) := dq_get (L := lzddX12_laysLight_136) 9 rfl zddX12_laysLight_136 rfl
theorem dX12_laysLight_156 : decode cX12_laysLight 156 = .ok (.baload, 1) := dq_get (L := lzddX12_laysLight_136) 10 rfl zddX12_laysLight_136 rfl
theorem dX12_laysLight_157 : decode cX12_laysLight 157 = .ok (.ifCond .ne 25, 3) := dq_get (L := lzddX12_laysLight_136) 11 rfl zddX12_laysLight_136 rfl
theorem dX12_laysLight_160 : decode cX12_laysLight 160 = .ok (.aload_n 0, 1) := dq_get (L := lzddX12_laysLight_136) 12 rfl zddX12_laysLight_136 rfl
theorem dX12_laysLight_161 : decode cX12_laysLight 161 = .ok (.getfield 40, 3) := dq_get (L := lzddX12_laysLight_136) 13 rfl zddX12_laysLight_136 rfl
theorem dX12_laysLight_164 : decode cX12_laysLight 164 = .ok (.iload_n 2, 1) := dq_get (L := lzddX12_laysLight_136) 14 rfl zddX12_laysLight_136 rfl
theorem dX12_laysLight_165 : decode cX12_laysLight 165 = .ok (.baload, 1) := dq_get (L := lzddX12_laysLight_136) 15 rfl zddX12_laysLight_136 rfl
theorem dX12_laysLight_166 : decode cX12_laysLight 166 = .ok (.ifCond .ne 12, 3) := dq_get (L := lzddX12_laysLight_136) 16 rfl zddX12_laysLight_136 rfl
theorem dX12_laysLight_169 : decode cX12_laysLight 169 = .ok (.aload_n 0, 1) := dq_get (L := lzddX12_laysLight_136) 17 rfl zddX12_laysLight_136 rfl
theorem dX12_laysLight_170 : decode cX12_laysLight 170 = .ok (.getfield 27, 3) := dq_get (L := lzddX12_laysLight_136) 18 rfl zddX12_laysLight_136 rfl
theorem dX12_laysLight_173 : decode cX12_laysLight 173 = .ok (.iload_n 2, 1) := dq_get (L := lzddX12_laysLight_136) 19 rfl zddX12_laysLight_136 rfl
def lzddX12_laysLight_174 : List (Nat × Instr × Nat) := [(174, .baload, 1), (175, .ifCond .eq 7, 3), (178, .iconst 1, 1), (179, .goto 4, 3), (182, .iconst 0, 1), (183, .bastore, 1), (184, .iconst 0, 1), (185, .istore_n 3, 1), (186, .iload_n 3, 1), (187, .aload_n 0, 1), (188, .getfield 385, 3), (191, .getfield 263, 3), (194, .if_icmp .ge 97, 3), (197, .aload_n 0, 1), (198, .getfield 31, 3), (201, .sipush 240, 3), (204, .iload_n 3, 1), (205, .imul, 1), (206, .iload_n 2, 1), (207, .iadd, 1)]
theorem zddX12_laysLight_174 : dqW lzddX12_laysLight_174 (cX12_laysLight.data.toList.drop 174) 174 = true := by decide +kernel
theorem dX12_laysLight_174 : decode cX12_laysLight 174 = .ok (.baload, 1) := dq_get (L := lzddX12_laysLight_174) 0 rfl zddX12_laysLight_174 rfl
theorem dX12_laysLight_175 : decode cX12_laysLight 175 = .ok (.ifCond .eq 7, 3) := dq_get (L := lzddX12_laysLight_174) 1 rfl zddX12_laysLight_174 rfl
theorem dX12_laysLight_178 : decode cX12_laysLight 178 = .ok (.iconst 1, 1) := dq_get (L := lzddX12_laysLight_174) 2 rfl zddX12_laysLight_174 rfl
theorem dX12_laysLight_179 : decode cX12_laysLight 179 = .ok (.goto 4, 3) := dq_get (L := lzddX12_laysLight_174) 3 rfl zddX12_laysLight_174 rfl
theorem dX12_laysLight_182 : decode cX12_laysLight 182 = .ok (.iconst 0, 1) := dq_get (L := lzddX12_laysLight_174) 4 rfl zddX12_laysLight_174 rfl
theorem dX12_laysLight_183 : decode cX12_laysLight 183 = .ok (.bastore, 1) := dq_get (L := lzddX12_laysLight_174) 5 rfl zddX12_laysLight_174 rfl
theorem dX12_laysLight_184 : decode cX12_laysLight 184 = .ok (.iconst 0, 1) := dq_get (L := lzddX12_laysLight_174) 6 rfl zddX12_laysLight_174 rfl
theorem dX12_laysLight_185 : decode cX12_laysLight 185 = .ok (.istore_n 3, 1) := dq_get (L := lzddX12_laysLight_174) 7 rfl zddX12_laysLight_174 rfl
theorem dX12_laysLight_186 : decode cX12_laysLight 186 = .ok (.iload_n 3, 1) := dq_get (L := lzddX12_laysLight_174) 8 rfl zddX12_laysLight_174 rfl
theorem dX12_laysLight_187 : decode cX12_laysLight 187 = .ok (.aload_n 0, 1) := dq_get (L := lzddX12_laysLight_174) 9 rfl zddX12_laysLight_174 rfl
theorem dX12_laysLight_188 : decode cX12_laysLight 188 = .ok (.getfield 385, 3) := dq_get (L := lzddX12_laysLight_174) 10 rfl zddX12_laysLight_174 rfl
theorem dX12_laysLight_191 : decode cX12_laysLight 191 = .ok (.getfield 263, 3) := dq_get (L := lzddX12_laysLight_174) 11 rfl zddX12_laysLight_174 rfl
theorem dX12_laysLight_194 : decode cX12_laysLight 194 = .ok (.if_icmp .ge 97, 3) := dq_get (L := lzddX12_laysLight_174) 12 rfl zddX12_laysLight_174 rfl
theorem dX12_laysLight_197 : decode cX12_laysLight 197 = .ok (.aload_n 0, 1) := dq_get (L := lzddX12_laysLight_174) 13 rfl zddX12_laysLight_174 rfl
theorem dX12_laysLight_198 : decode cX12_laysLight 198 = .ok (.getfield 31, 3) := dq_get (L := lzddX12_laysLight_174) 14 rfl zddX12_laysLight_174 rfl
theorem dX12_laysLight_201 : decode cX12_laysLight 201 = .ok (.sipush 240, 3) := dq_get (L := lzddX12_laysLight_174) 15 rfl zddX12_laysLight_174 rfl
theorem dX12_laysLight_204 : decode cX12_laysLight 204 = .ok (.iload_n 3, 1) := dq_get (L := lzddX12_laysLight_174) 16 rfl zddX12_laysLight_174 rfl
theorem dX12_laysLight_205 : decode cX12_laysLight 205 = .ok (.imul, 1) := dq_get (L := lzddX12_laysLight_174) 17 rfl zddX12_laysLight_174 rfl
theorem dX12_laysLight_206 : decode cX12_laysLight 206 = .ok (.iload_n 2, 1) := dq_get (L := lzddX12_laysLight_174) 18 rfl zddX12_laysLight_174 rfl
theorem dX12_laysLight_207 : decode cX12_laysLight 207 = .ok (.iadd, 1) := dq_get (L := lzddX12_laysLight_174) 19 rfl zddX12_laysLight_174 rfl
def lzddX12_laysLight_208 : List (Nat × Instr × Nat) := [(208, .aload_n 0, 1), (209, .getfield 43, 3), (212, .sipush 240, 3), (215, .iload_n 3, 1), (216, .imul, 1), (217, .iload_n 2, 1), (218, .iadd, 1), (219, .baload, 1), (220, .ifCond .ne 16, 3), (223, .aload_n 0, 1), (224, .getfield 27, 3), (227, .iload_n 2, 1), (228, .baload, 1), (229, .ifCond .eq 7, 3), (232, .iconst 1, 1), (233, .goto 4, 3), (236, .iconst 0, 1), (237, .bastore, 1), (238, .aload_n 0, 1), (239, .getfield 34, 3)]
theorem zddX12_laysLight_208 : dqW lzddX12_laysLight_208 (cX12_laysLight.data.toList.drop 208) 208 = true := by decide +kernel
theorem dX12_laysLight_208 : decode cX12_laysLight 208 = .ok (.aload_n 0, 1) := dq_get (L := lzddX12_laysLight_208) 0 rfl zddX12_laysLight_208 rfl
theorem dX12_laysLight_209 : decode cX12_laysLight 209 = .ok (.getfield 43, 3) := dq_get (L := lzddX12_laysLight_208) 1 rfl zddX12_laysLight_208 rfl
theorem dX12_laysLight_212 : decode cX12_laysLight 212 = .ok (.sipush 240, 3) := dq_get (L := lzddX12_laysLight_208) 2 rfl zddX12_laysLight_208 rfl
theorem dX12_laysLight_215 : decode cX12_laysLight 215 = .ok (.iload_n 3, 1) := dq_get (L := lzddX12_laysLight_208) 3 rfl zddX12_laysLight_208 rfl
theorem dX12_laysLight_216 : decode cX12_laysLight 216 = .ok (.imul, 1) := dq_get (L := lzddX12_laysLight_208) 4 rfl zddX12_laysLight_208 rfl
theorem dX12_laysLight_217 : decode cX12_laysLight 217 = .ok (.iload_n 2, 1) := dq_get (L := lzddX12_laysLight_208) 5 rfl zddX12_laysLight_208 rfl
theorem dX12_laysLight_218 : decode cX12_laysLight 218 = .ok (.iadd, 1) := dq_get (L := lzddX12_laysLight_208) 6 rfl zddX12_laysLight_208 rfl
theorem dX12_laysLight_219 : decode cX12_laysLight 219 = .ok (.baload, 1) := dq_get (L := lzddX12_laysLight_208) 7 rfl zddX12_laysLight_208 rfl
theorem dX12_laysLight_220 : decode cX12_laysLight 220 = .ok (.ifCond .ne 16, 3) := dq_get (L := lzddX12_laysLight_208) 8 rfl zddX12_laysLight_208 rfl
theorem dX12_laysLight_223 : decode cX12_laysLight 223 = .ok (.aload_n 0, 1) := dq_get (L := lzddX12_laysLight_208) 9 rfl zddX12_laysLight_208 rfl
theorem dX12_laysLight_224 : decode cX12_laysLight 224 = .ok (.getfield 27, 3) := dq_get (L := lzddX12_laysLight_208) 10 rfl zddX12_laysLight_208 rfl
theorem dX12_laysLight_227 : decode cX12_laysLight 227 = .ok (.iload_n 2, 1) := dq_get (L := lzddX12_laysLight_208) 11 rfl zddX12_laysLight_208 rfl
theorem dX12_laysLight_228 : decode cX12_laysLight 228 = .ok (.baload, 1) := dq_get (L := lzddX12_laysLight_208) 12 rfl zddX12_laysLight_208 rfl
theorem dX12_laysLight_229 : decode cX12_laysLight 229 = .ok (.ifCond .eq 7, 3) := dq_get (L := lzddX12_laysLight_208) 13 rfl zddX12_laysLight_208 rfl
theorem dX12_laysLight_232 : decode cX12_laysLight 232 = .ok (.iconst 1, 1) := dq_get (L := lzddX12_laysLight_208) 14 rfl zddX12_laysLight_208 rfl
theorem dX12_laysLight_233 : decode cX12_laysLight 233 = .ok (.goto 4, 3) := dq_get (L := lzddX12_laysLight_208) 15 rfl zddX12_laysLight_208 rfl
theorem dX12_laysLight_236 : decode cX12_laysLight 236 = .ok (.iconst 0, 1) := dq_get (L := lzddX12_laysLight_208) 16 rfl zddX12_laysLight_208 rfl
theorem dX12_laysLight_237 : decode cX12_laysLight 237 = .ok (.bastore, 1) := dq_get (L := lzddX12_laysLight_208) 17 rfl zddX12_laysLight_208 rfl
theorem dX12_laysLight_238 : decode cX12_laysLight 238 = .ok (.aload_n 0, 1) := dq_get (L := lzddX12_laysLight_208) 18 rfl zddX12_laysLight_208 rfl
theorem dX12_laysLight_239 : decode cX12_laysLight 239 = .ok (.getfield 34, 3) := dq_get (L := lzddX12_laysLight_208) 19 rfl zddX12_laysLight_208 rfl
def lzddX12_laysLight_242 : List (Nat × Instr × Nat) := [(242, .sipush 240, 3), (245, .iload_n 3, 1), (246, .imul, 1), (247, .iload_n 2, 1), (248, .iadd, 1), (249, .aload_n 0, 1), (250, .getfield 34, 3), (253, .sipush 240, 3), (256, .iload_n 3, 1), (257, .imul, 1), (258, .iload_n 2, 1), (259, .iadd, 1), (260, .baload, 1), (261, .ifCond .ne 18, 3), (264, .aload_n 0, 1), (265, .getfield 31, 3), (268, .sipush 240, 3), (271, .iload_n 3, 1), (272, .imul, 1), (273, .iload_n 2, 1)]
theorem zddX12_laysLight_242 : dqW lzddX12_laysLight_242 (cX12_laysLight.data.toList.drop 242) 242 = true := by decide +kernel
theorem dX12_laysLight_242 : decode cX12_laysLight 242 = .ok (.sipush 240, 3) := dq_get (L := lzddX12_laysLight_242) 0 rfl zddX12_laysLight_242 rfl
theorem dX12_laysLight_245 : decode cX12_laysLight 245 = .ok (.iload_n 3, 1) := dq_get (L := lzddX12_laysLight_242) 1 rfl zddX12_laysLight_242 rfl
theorem dX12_laysLight_246 : decode cX12_laysLight 246 = .ok (.imul, 1) := dq_get (L := lzddX12_laysLight_242) 2 rfl zddX12_laysLight_242 rfl
theorem dX12_laysLight_247 : decode cX12_laysLight 247 = .ok (.iload_n 2, 1) := dq_get (L := lzddX12_laysLight_242) 3 rfl zddX12_laysLight_242 rfl
theorem dX12_laysLight_248 : decode cX12_laysLight 248 = .ok (.iadd, 1) := dq_get (L := lzddX12_laysLight_242) 4 rfl zddX12_laysLight_242 rfl
theorem dX12_laysLight_249 : decode cX12_laysLight 249 = .ok (.aload_n 0, 1) := dq_get (L := lzddX12_laysLight_242) 5 rfl zddX12_laysLight_242 rfl
theorem dX12_laysLight_250 : decode cX12_laysLight 250 = .ok (.getfield 34, 3) := dq_get (L := lzddX12_laysLight_242) 6 rfl zddX12_laysLight_242 rfl
theorem dX12_laysLight_253 : decode cX12_laysLight 253 = .ok (.sipush 240, 3) := dq_get (L := lzddX12_laysLight_242) 7 rfl zddX12_laysLight_242 rfl
theorem dX12_laysLight_256 : decode cX12_laysLight 256 = .ok (.iload_n 3, 1) := dq_get (L := lzddX12_laysLight_242) 8 rfl zddX12_laysLight_242 rfl
theorem dX12_laysLight_257 : decode cX12_laysLight 257 = .ok (.imul, 1) := dq_get (L := lzddX12_laysLight_242) 9 rfl zddX12_laysLight_242 rfl
theorem dX12_laysLight_258 : decode cX12_laysLight 258 = .ok (.iload_n 2, 1) := dq_get (L := lzddX12_laysLight_242) 10 rfl zddX12_laysLight_242 rfl
theorem dX12_laysLight_259 : decode cX12_laysLight 259 = .ok (.iadd, 1) := dq_get (L := lzddX12_laysLight_242) 11 rfl zddX12_laysLight_242 rfl
theorem dX12_laysLight_260 : decode cX12_laysLight 260 = .ok (.baload, 1) := dq_get (L := lzddX12_laysLight_242) 12 rfl zddX12_laysLight_242 rfl
theorem dX12_laysLight_261 : decode cX12_laysLight 261 = .ok (.ifCond .ne 18, 3) := dq_get (L := lzddX12_laysLight_242) 13 rfl zddX12_laysLight_242 rfl
theorem dX12_laysLight_264 : decode cX12_laysLight 264 = .ok (.aload_n 0, 1) := dq_get (L := lzddX12_laysLight_242) 14 rfl zddX12_laysLight_242 rfl
theorem dX12_laysLight_265 : decode cX12_laysLight 265 = .ok (.getfield 31, 3) := dq_get (L := lzddX12_laysLight_242) 15 rfl zddX12_laysLight_242 rfl
theorem dX12_laysLight_268 : decode cX12_laysLight 268 = .ok (.sipush 240, 3) := dq_get (L := lzddX12_laysLight_242) 16 rfl zddX12_laysLight_242 rfl
theorem dX12_laysLight_271 : decode cX12_laysLight 271 = .ok (.iload_n 3, 1) := dq_get (L := lzddX12_laysLight_242) 17 rfl zddX12_laysLight_242 rfl
theorem dX12_laysLight_272 : decode cX12_laysLight 272 = .ok (.imul, 1) := dq_get (L := lzddX12_laysLight_242) 18 rfl zddX12_laysLight_242 rfl
theorem dX12_laysLight_273 : decode cX12_laysLight 273 = .ok (.iload_n 2, 1) := dq_get (L := lzddX12_laysLight_242) 19 rfl zddX12_laysLight_242 rfl
def lzddX12_laysLight_274 : List (Nat × Instr × Nat) := [(274, .iadd, 1), (275, .baload, 1), (276, .ifCond .eq 7, 3), (279, .iconst 1, 1), (280, .goto 4, 3), (283, .iconst 0, 1), (284, .bastore, 1), (285, .iinc 3 1, 3), (288, .goto (-102), 3), (291, .iinc 2 1, 3), (294, .goto (-159), 3), (297, .return_, 1)]
theorem zddX12_laysLight_274 : dqW lzddX12_laysLight_274 (cX12_laysLight.data.toList.drop 274) 274 = true := by decide +kernel
theorem dX12_laysLight_274 : decode cX12_laysLight 274 = .ok (.iadd, 1) := dq_get (L := lzddX12_laysLight_274) 0 rfl zddX12_laysLight_274 rfl
theorem dX12_laysLight_275 : decode cX12_laysLight 275 = .ok (.baload, 1) := dq_get (L := lzddX12_laysLight_274) 1 rfl zddX12_laysLight_274 rfl
theorem dX12_laysLight_276 : decode cX12_laysLight 276 = .ok (.ifCond .eq 7, 3) := dq_get (L := lzddX12_laysLight_274) 2 rfl zddX12_laysLight_274 rfl
theorem dX12_laysLight_279 : decode cX12_laysLight 279 = .ok (.iconst 1, 1) := dq_get (L := lzddX12_laysLight_274) 3 rfl zddX12_laysLight_274 rfl
theorem dX12_laysLight_280 : decode cX12_laysLight 280 = .ok (.goto 4, 3) := dq_get (L := lzddX12_laysLight_274) 4 rfl zddX12_laysLight_274 rfl
theorem dX12_laysLight_283 : decode cX12_laysLight 283 = .ok (.iconst 0, 1) := dq_get (L := lzddX12_laysLight_274) 5 rfl zddX12_laysLight_274 rfl
theorem dX12_laysLight_284 : decode cX12_laysLight 284 = .ok (.bastore, 1) := dq_get (L := lzddX12_laysLight_274) 6 rfl zddX12_laysLight_274 rfl
theorem dX12_laysLight_285 : decode cX12_laysLight 285 = .ok (.iinc 3 1, 3) := dq_get (L := lzddX12_laysLight_274) 7 rfl zddX12_laysLight_274 rfl
theorem dX12_laysLight_288 : decode cX12_laysLight 288 = .ok (.goto (-102), 3) := dq_get (L := lzddX12_laysLight_274) 8 rfl zddX12_laysLight_274 rfl
theorem dX12_laysLight_291 : decode cX12_laysLight 291 = .ok (.iinc 2 1, 3) := dq_get (L := lzddX12_laysLight_274) 9 rfl zddX12_laysLight_274 rfl
theorem dX12_laysLight_294 : decode cX12_laysLight 294 = .ok (.goto (-159), 3) := dq_get (L := lzddX12_laysLight_274) 10 rfl zddX12_laysLight_274 rfl
theorem dX12_laysLight_297 : decode cX12_laysLight 297 = .ok (.return_, 1) := dq_get (L := lzddX12_laysLight_274) 11 rfl zddX12_laysLight_274 rfl
def lzddX12_led_0 : List (Nat × Instr × Nat) := [(0, .aload_n 0, 1), (1, .iconst 0, 1), (2, .putfield 70, 3), (5, .iconst 0, 1), (6, .istore_n 2, 1), (7, .aload_n 0, 1), (8, .getfield 385, 3), (11, .ifnull 8, 3), (14, .aload_n 0, 1), (15, .invokevirtual 455, 3), (18, .pop, 1), (19, .iconst 0, 1), (20, .istore_n 3, 1), (21, .aload_n 0, 1), (22, .getfield 385, 3), (25, .ifnull 42, 3), (28, .iload_n 3, 1), (29, .aload_n 0, 1), (30, .getfield 385, 3), (33, .getfield 224, 3)]
theorem zddX12_led_0 : dqW lzddX12_led_0 (cX12_led.data.toList.drop 0) 0 = true := by decide +kernel
theorem dX12_led_0 : decode cX12_led 0 = .ok (.aload_n 0, 1) := dq_get (L := lzddX12_led_0) 0 rfl zddX12_led_0 rfl
theorem dX12_led_1 : decode cX12_led 1 = .ok (.iconst 0, 1) := dq_get (L := lzddX12_led_0) 1 rfl zddX12_led_0 rfl
theorem dX12_led_2 : decode cX12_led 2 = .ok (.putfield 70, 3) := dq_get (L := lzddX12_led_0) 2 rfl zddX12_led_0 rfl
theorem dX12_led_5 : decode cX12_led 5 = .ok (.iconst 0, 1) := dq_get (L := lzddX12_led_0) 3 rfl zddX12_led_0 rfl
theorem dX12_led_6 : decode cX12_led 6 = .ok (.istore_n 2, 1) := dq_get (L := lzddX12_led_0) 4 rfl zddX12_led_0 rfl
theorem dX12_led_7 : decode cX12_led 7 = .ok (.aload_n 0, 1) := dq_get (L := lzddX12_led_0) 5 rfl zddX12_led_0 rfl
theorem dX12_led_8 : decode cX12_led 8 = .ok (.getfield 385, 3) := dq_get (L := lzddX12_led_0) 6 rfl zddX12_led_0 rfl
theorem dX12_led_11 : decode cX12_led 11 = .ok (.ifnull 8, 3) := dq_get (L := lzddX12_led_0) 7 rfl zddX12_led_0 rfl
theorem dX12_led_14 : decode cX12_led 14 = .ok (.aload_n 0, 1) := dq_get (L := lzddX12_led_0) 8 rfl zddX12_led_0 rfl
theorem dX12_led_15 : decode cX12_led 15 = .ok (.invokevirtual 455, 3) := dq_get (L := lzddX12_led_0) 9 rfl zddX12_led_0 rfl
theorem dX12_led_18 : decode cX12_led 18 = .ok (.pop, 1) := dq_get (L := lzddX12_led_0) 10 rfl zddX12_led_0 rfl
theorem dX12_led_19 : decode cX12_led 19 = .ok (.iconst 0, 1) := dq_get (L := lzddX12_led_0) 11 rfl zddX12_led_0 rfl
theorem dX12_led_20 : decode cX12_led 20 = .ok (.istore_n 3, 1) := dq_get (L := lzddX12_led_0) 12 rfl zddX12_led_0 rfl
theorem dX12_led_21 : decode cX12_led 21 = .ok (.aload_n 0, 1) := dq_get (L := lzddX12_led_0) 13 rfl zddX12_led_0 rfl
theorem dX12_led_22 : decode cX12_led 22 = .ok (.getfield 385, 3) := dq_get (L := lzddX12_led_0) 14 rfl zddX12_led_0 rfl
theorem dX12_led_25 : decode cX12_led 25 = .ok (.ifnull 42, 3) := dq_get (L := lzddX12_led_0) 15 rfl zddX12_led_0 rfl
theorem dX12_led_28 : decode cX12_led 28 = .ok (.iload_n 3, 1) := dq_get (L := lzddX12_led_0) 16 rfl zddX12_led_0 rfl
theorem dX12_led_29 : decode cX12_led 29 = .ok (.aload_n 0, 1) := dq_get (L := lzddX12_led_0) 17 rfl zddX12_led_0 rfl
theorem dX12_led_30 : decode cX12_led 30 = .ok (.getfield 385, 3) := dq_get (L := lzddX12_led_0) 18 rfl zddX12_led_0 rfl
theorem dX12_led_33 : decode cX12_led 33 = .ok (.getfield 224, 3) := dq_get (L := lzddX12_led_0) 19 rfl zddX12_led_0 rfl
def lzddX12_led_36 : List (Nat × Instr × Nat) := [(36, .if_icmp .ge 31, 3), (39, .aload_n 0, 1), (40, .getfield 55, 3), (43, .iload_n 3, 1), (44, .iaload, 1), (45, .ifCond .ne 6, 3), (48, .goto 13, 3), (51, .iload_n 2, 1), (52, .iload_n 1, 1), (53, .if_icmp .ne 5, 3), (56, .iload_n 3, 1), (57, .ireturn, 1), (58, .iinc 2 1, 3), (61, .iinc 3 1, 3), (64, .goto (-43), 3), (67, .aload_n 0, 1), (68, .iconst 1, 1), (69, .putfield 70, 3), (72, .iconst 0, 1), (73, .ireturn, 1)]
theorem zddX12_led_36 : dqW lzddX12_led_36 (cX12_led.data.toList.drop 36) 36 = true := by decide +kernel
theorem dX12_led_36 : decode cX12_led 36 = .ok (.if_icmp .ge 31, 3) := dq_get (L := lzddX12_led_36) 0 rfl zddX12_led_36 rfl
theorem dX12_led_39 : decode cX12_led 39 = .ok (.aload_n 0, 1) := dq_get (L := lzddX12_led_36) 1 rfl zddX12_led_36 rfl
theorem dX12_led_40 : decode cX12_led 40 = .ok (.getfield 55, 3) := dq_get (L := lzddX12_led_36) 2 rfl zddX12_led_36 rfl
theorem dX12_led_43 : decode cX12_led 43 = .ok (.iload_n 3, 1) := dq_get (L := lzddX12_led_36) 3 rfl zddX12_led_36 rfl
theorem dX12_led_44 : decode cX12_led 44 = .ok (.iaload, 1) := dq_get (L := lzddX12_led_36) 4 rfl zddX12_led_36 rfl
theorem dX12_led_45 : decode cX12_led 45 = .ok (.ifCond .ne 6, 3) := dq_get (L := lzddX12_led_36) 5 rfl zddX12_led_36 rfl
theorem dX12_led_48 : decode cX12_led 48 = .ok (.goto 13, 3) := dq_get (L := lzddX12_led_36) 6 rfl zddX12_led_36 rfl
theorem dX12_led_51 : decode cX12_led 51 = .ok (.iload_n 2, 1) := dq_get (L := lzddX12_led_36) 7 rfl zddX12_led_36 rfl
theorem dX12_led_52 : decode cX12_led 52 = .ok (.iload_n 1, 1) := dq_get (L := lzddX12_led_36) 8 rfl zddX12_led_36 rfl
theorem dX12_led_53 : decode cX12_led 53 = .ok (.if_icmp .ne 5, 3) := dq_get (L := lzddX12_led_36) 9 rfl zddX12_led_36 rfl
theorem dX12_led_56 : decode cX12_led 56 = .ok (.iload_n 3, 1) := dq_get (L := lzddX12_led_36) 10 rfl zddX12_led_36 rfl
theorem dX12_led_57 : decode cX12_led 57 = .ok (.ireturn, 1) := dq_get (L := lzddX12_led_36) 11 rfl zddX12_led_36 rfl
theorem dX12_led_58 : decode cX12_led 58 = .ok (.iinc 2 1, 3) := dq_get (L := lzddX12_led_36) 12 rfl zddX12_led_36 rfl
theorem dX12_led_61 : decode cX12_led 61 = .ok (.iinc 3 1, 3) := dq_get (L := lzddX12_led_36) 13 rfl zddX12_led_36 rfl
theorem dX12_led_64 : decode cX12_led 64 = .ok (.goto (-43), 3) := dq_get (L := lzddX12_led_36) 14 rfl zddX12_led_36 rfl
theorem dX12_led_67 : decode cX12_led 67 = .ok (.aload_n 0, 1) := dq_get (L := lzddX12_led_36) 15 rfl zddX12_led_36 rfl
theorem dX12_led_68 : decode cX12_led 68 = .ok (.iconst 1, 1) := dq_get (L := lzddX12_led_36) 16 rfl zddX12_led_36 rfl
theorem dX12_led_69 : decode cX12_led 69 = .ok (.putfield 70, 3) := dq_get (L := lzddX12_led_36) 17 rfl zddX12_led_36 rfl
theorem dX12_led_72 : decode cX12_led 72 = .ok (.iconst 0, 1) := dq_get (L := lzddX12_led_36) 18 rfl zddX12_led_36 rfl
theorem dX12_led_73 : decode cX12_led 73 = .ok (.ireturn, 1) := dq_get (L := lzddX12_led_36) 19 rfl zddX12_led_36 rfl
def lzddX12_lift_0 : List (Nat × Instr × Nat) := [(0, .aload_n 0, 1), (1, .iconst 0, 1), (2, .putfield 70, 3), (5, .aload_n 0, 1), (6, .getfield 385, 3), (9, .ifnull 12, 3), (12, .aload_n 0, 1), (13, .getfield 17, 3), (16, .iconst 1, 1), (17, .iaload, 1), (18, .ifCond .ne 10, 3), (21, .aload_n 0, 1), (22, .bipush 6, 2), (24, .invokevirtual 507, 3), (27, .ireturn, 1), (28, .aload_n 0, 1), (29, .invokevirtual 510, 3), (32, .aload_n 0, 1), (33, .getfield 17, 3), (36, .iconst 1, 1)]
theorem zddX12_lift_0 : dqW lzddX12_lift_0 (cX12_lift.data.toList.drop 0) 0 = true := by decide +kernel
theorem dX12_lift_0 : decode cX12_lift 0 = .ok (.aload_n 0, 1) := dq_get (L := lzddX12_lift_0) 0 rfl zddX12_lift_0 rfl
theorem dX12_lift_1 : decode cX12_lift 1 = .ok (.iconst 0, 1) := dq_get (L := lzddX12_lift_0) 1 rfl zddX12_lift_0 rfl
theorem dX12_lift_2 : decode cX12_lift 2 = .ok (.putfield 70, 3) := dq_get (L := lzddX12_lift_0) 2 rfl zddX12_lift_0 rfl
theorem dX12_lift_5 : decode cX12_lift 5 = .ok (.aload_n 0, 1) := dq_get (L := lzddX12_lift_0) 3 rfl zddX12_lift_0 rfl
theorem dX12_lift_6 : decode cX12_lift 6 = .ok (.getfield 385, 3) := dq_get (L := lzddX12_lift_0) 4 rfl zddX12_lift_0 rfl
theorem dX12_lift_9 : decode cX12_lift 9 = .ok (.ifnull 12, 3) := dq_get (L := lzddX12_lift_0) 5 rfl zddX12_lift_0 rfl
theorem dX12_lift_12 : decode cX12_lift 12 = .ok (.aload_n 0, 1) := dq_get (L := lzddX12_lift_0) 6 rfl zddX12_lift_0 rfl
theorem dX12_lift_13 : decode cX12_lift 13 = .ok (.getfield 17, 3) := dq_get (L := lzddX12_lift_0) 7 rfl zddX12_lift_0 rfl
theorem dX12_lift_16 : decode cX12_lift 16 = .ok (.iconst 1, 1) := dq_get (L := lzddX12_lift_0) 8 rfl zddX12_lift_0 rfl
theorem dX12_lift_17 : decode cX12_lift 17 = .ok (.iaload, 1) := dq_get (L := lzddX12_lift_0) 9 rfl zddX12_lift_0 rfl
theorem dX12_lift_18 : decode cX12_lift 18 = .ok (.ifCond .ne 10, 3) := dq_get (L := lzddX12_lift_0) 10 rfl zddX12_lift_0 rfl
theorem dX12_lift_21 : decode cX12_lift 21 = .ok (.aload_n 0, 1) := dq_get (L := lzddX12_lift_0) 11 rfl zddX12_lift_0 rfl
theorem dX12_lift_22 : decode cX12_lift 22 = .ok (.bipush 6, 2) := dq_get (L := lzddX12_lift_0) 12 rfl zddX12_lift_0 rfl
theorem dX12_lift_24 : decode cX12_lift 24 = .ok (.invokevirtual 507, 3) := dq_get (L := lzddX12_lift_0) 13 rfl zddX12_lift_0 rfl
theorem dX12_lift_27 : decode cX12_lift 27 = .ok (.ireturn, 1) := dq_get (L := lzddX12_lift_0) 14 rfl zddX12_lift_0 rfl
theorem dX12_lift_28 : decode cX12_lift 28 = .ok (.aload_n 0, 1) := dq_get (L := lzddX12_lift_0) 15 rfl zddX12_lift_0 rfl
theorem dX12_lift_29 : decode cX12_lift 29 = .ok (.invokevirtual 510, 3) := dq_get (L := lzddX12_lift_0) 16 rfl zddX12_lift_0 rfl
theorem dX12_lift_32 : decode cX12_lift 32 = .ok (.aload_n 0, 1) := dq_get (L := lzddX12_lift_0) 17 rfl zddX12_lift_0 rfl
theorem dX12_lift_33 : decode cX12_lift 33 = .ok (.getfield 17, 3) := dq_get (L := lzddX12_lift_0) 18 rfl zddX12_lift_0 rfl
theorem dX12_lift_36 : decode cX12_lift 36 = .ok (.iconst 1, 1) := dq_get (L := lzddX12_lift_0) 19 rfl zddX12_lift_0 rfl
def lzddX12_lift_37 : List (Nat × Instr × Nat) := [(37, .dup2, 1), (38, .iaload, 1), (39, .iconst 1, 1), (40, .isub, 1), (41, .iastore, 1), (42, .aload_n 0, 1), (43, .invokevirtual 513, 3), (46, .ireturn, 1)]
theorem zddX12_lift_37 : dqW lzddX12_lift_37 (cX12_lift.data.toList.drop 37) 37 = true := by decide +kernel
theorem dX12_lift_37 : decode cX12_lift 37 = .ok (.dup2, 1) := dq_get (L := lzddX12_lift_37) 0 rfl zddX12_lift_37 rfl
theorem dX12_lift_38 : decode cX12_lift 38 = .ok (.iaload, 1) := dq_get (L := lzddX12_lift_37) 1 rfl zddX12_lift_37 rfl
theorem dX12_lift_39 : decode cX12_lift 39 = .ok (.iconst 1, 1) := dq_get (L := lzddX12_lift_37) 2 rfl zddX12_lift_37 rfl
theorem dX12_lift_40 : decode cX12_lift 40 = .ok (.isub, 1) := dq_get (L := lzddX12_lift_37) 3 rfl zddX12_lift_37 rfl
theorem dX12_lift_41 : decode cX12_lift 41 = .ok (.iastore, 1) := dq_get (L := lzddX12_lift_37) 4 rfl zddX12_lift_37 rfl
theorem dX12_lift_42 : decode cX12_lift 42 = .ok (.aload_n 0, 1) := dq_get (L := lzddX12_lift_37) 5 rfl zddX12_lift_37 rfl
theorem dX12_lift_43 : decode cX12_lift 43 = .ok (.invokevirtual 513, 3) := dq_get (L := lzddX12_lift_37) 6 rfl zddX12_lift_37 rfl
theorem dX12_lift_46 : decode cX12_lift 46 = .ok (.ireturn, 1) := dq_get (L := lzddX12_lift_37) 7 rfl zddX12_lift_37 rfl
def lzddX12_light_0 : List (Nat × Instr × Nat) := [(0, .aload_n 0, 1), (1, .iconst 0, 1), (2, .putfield 70, 3), (5, .aload_n 0, 1), (6, .iload_n 1, 1), (7, .invokevirtual 446, 3), (10, .ifCond .ne 9, 3), (13, .aload_n 0, 1), (14, .iconst 1, 1), (15, .invokevirtual 76, 3), (18, .ireturn, 1), (19, .aload_n 0, 1), (20, .iload_n 2, 1), (21, .invokevirtual 443, 3), (24, .ifCond .ne 9, 3), (27, .aload_n 0, 1), (28, .iconst 2, 1), (29, .invokevirtual 76, 3), (32, .ireturn, 1), (33, .aload_n 0, 1)]
theorem zddX12_light_0 : dqW lzddX12_light_0 (cX12_light.data.toList.drop 0) 0 = true := by decide +kernel
theorem dX12_light_0 : decode cX12_light 0 = .ok (.aload_n 0, 1) := dq_get (L := lzddX12_light_0) 0 rfl zddX12_light_0 rfl
theorem dX12_light_1 : decode cX12_light 1 = .ok (.iconst 0, 1) := dq_get (L := lzddX12_light_0) 1 rfl zddX12_light_0 rfl
theorem dX12_light_2 : decode cX12_light 2 = .ok (.putfield 70, 3) := dq_get (L := lzddX12_light_0) 2 rfl zddX12_light_0 rfl
theorem dX12_light_5 : decode cX12_light 5 = .ok (.aload_n 0, 1) := dq_get (L := lzddX12_light_0) 3 rfl zddX12_light_0 rfl
theorem dX12_light_6 : decode cX12_light 6 = .ok (.iload_n 1, 1) := dq_get (L := lzddX12_light_0) 4 rfl zddX12_light_0 rfl
theorem dX12_light_7 : decode cX12_light 7 = .ok (.invokevirtual 446, 3) := dq_get (L := lzddX12_light_0) 5 rfl zddX12_light_0 rfl
theorem dX12_light_10 : decode cX12_light 10 = .ok (.ifCond .ne 9, 3) := dq_get (L := lzddX12_light_0) 6 rfl zddX12_light_0 rfl
theorem dX12_light_13 : decode cX12_light 13 = .ok (.aload_n 0, 1) := dq_get (L := lzddX12_light_0) 7 rfl zddX12_light_0 rfl
theorem dX12_light_14 : decode cX12_light 14 = .ok (.iconst 1, 1) := dq_get (L := lzddX12_light_0) 8 rfl zddX12_light_0 rfl
theorem dX12_light_15 : decode cX12_light 15 = .ok (.invokevirtual 76, 3) := dq_get (L := lzddX12_light_0) 9 rfl zddX12_light_0 rfl
theorem dX12_light_18 : decode cX12_light 18 = .ok (.ireturn, 1) := dq_get (L := lzddX12_light_0) 10 rfl zddX12_light_0 rfl
theorem dX12_light_19 : decode cX12_light 19 = .ok (.aload_n 0, 1) := dq_get (L := lzddX12_light_0) 11 rfl zddX12_light_0 rfl
theorem dX12_light_20 : decode cX12_light 20 = .ok (.iload_n 2, 1) := dq_get (L := lzddX12_light_0) 12 rfl zddX12_light_0 rfl
theorem dX12_light_21 : decode cX12_light 21 = .ok (.invokevirtual 443, 3) := dq_get (L := lzddX12_light_0) 13 rfl zddX12_light_0 rfl
theorem dX12_light_24 : decode cX12_light 24 = .ok (.ifCond .ne 9, 3) := dq_get (L := lzddX12_light_0) 14 rfl zddX12_light_0 rfl
theorem dX12_light_27 : decode cX12_light 27 = .ok (.aload_n 0, 1) := dq_get (L := lzddX12_light_0) 15 rfl zddX12_light_0 rfl
theorem dX12_light_28 : decode cX12_light 28 = .ok (.iconst 2, 1) := dq_get (L := lzddX12_light_0) 16 rfl zddX12_light_0 rfl
theorem dX12_light_29 : decode cX12_light 29 = .ok (.invokevirtual 76, 3) := dq_get (L := lzddX12_light_0) 17 rfl zddX12_light_0 rfl
theorem dX12_light_32 : decode cX12_light 32 = .ok (.ireturn, 1) := dq_get (L := lzddX12_light_0) 18 rfl zddX12_light_0 rfl
theorem dX12_light_33 : decode cX12_light 33 = .ok (.aload_n 0, 1) := dq_get (L := lzddX12_light_0) 19 rfl zddX12_light_0 rfl
def lzddX12_light_34 : List (Nat × Instr × Nat) := [(34, .iconst (-1), 1), (35, .invokevirtual 434, 3), (38, .aload_n 0, 1), (39, .iload_n 3, 1), (40, .ifCond .eq 21, 3), (43, .aload_n 0, 1), (44, .getfield 34, 3), (47, .sipush 240, 3), (50, .iload_n 1, 1), (51, .imul, 1), (52, .iload_n 2, 1), (53, .iadd, 1), (54, .baload, 1), (55, .ifCond .eq 25, 3), (58, .goto 18, 3), (61, .aload_n 0, 1), (62, .getfield 31, 3), (65, .sipush 240, 3), (68, .iload_n 1, 1), (69, .imul, 1)]
theorem zddX12_light_34 : dqW lzddX12_light_34 (cX12_light.data.toList.drop 34) 34 = true := by decide +kernel
theorem dX12_light_34 : decode cX12_light 34 = .ok (.iconst (-1), 1) := dq_get (L := lzddX12_light_34) 0 rfl zddX12_light_34 rfl
theorem dX12_light_35 : decode cX12_light 35 = .ok (.invokevirtual 434, 3) := dq_get (L := lzddX12_light_34) 1 rfl zddX12_light_34 rfl
theorem dX12_light_38 : decode cX12_light 38 = .ok (.aload_n 0, 1) := dq_get (L := lzddX12_light_34) 2 rfl zddX12_light_34 rfl
theorem dX12_light_39 : decode cX12_light 39 = .ok (.iload_n 3, 1) := dq_get (L := lzddX12_light_34) 3 rfl zddX12_light_34 rfl
theorem dX12_light_40 : decode cX12_light 40 = .ok (.ifCond .eq 21, 3) := dq_get (L := lzddX12_light_34) 4 rfl zddX12_light_34 rfl
theorem dX12_light_43 : decode cX12_light 43 = .ok (.aload_n 0, 1) := dq_get (L := lzddX12_light_34) 5 rfl zddX12_light_34 rfl
theorem dX12_light_44 : decode cX12_light 44 = .ok (.getfield 34, 3) := dq_get (L := lzddX12_light_34) 6 rfl zddX12_light_34 rfl
theorem dX12_light_47 : decode cX12_light 47 = .ok (.sipush 240, 3) := dq_get (L := lzddX12_light_34) 7 rfl zddX12_light_34 rfl
theorem dX12_light_50 : decode cX12_light 50 = .ok (.iload_n 1, 1) := dq_get (L := lzddX12_light_34) 8 rfl zddX12_light_34 rfl
theorem dX12_light_51 : decode cX12_light 51 = .ok (.imul, 1) := dq_get (L := lzddX12_light_34) 9 rfl zddX12_light_34 rfl
theorem dX12_light_52 : decode cX12_light 52 = .ok (.iload_n 2, 1) := dq_get (L := lzddX12_light_34) 10 rfl zddX12_light_34 rfl
theorem dX12_light_53 : decode cX12_light 53 = .ok (.iadd, 1) := dq_get (L := lzddX12_light_34) 11 rfl zddX12_light_34 rfl
theorem dX12_light_54 : decode cX12_light 54 = .ok (.baload, 1) := dq_get (L := lzddX12_light_34) 12 rfl zddX12_light_34 rfl
theorem dX12_light_55 : decode cX12_light 55 = .ok (.ifCond .eq 25, 3) := dq_get (L := lzddX12_light_34) 13 rfl zddX12_light_34 rfl
theorem dX12_light_58 : decode cX12_light 58 = .ok (.goto 18, 3) := dq_get (L := lzddX12_light_34) 14 rfl zddX12_light_34 rfl
theorem dX12_light_61 : decode cX12_light 61 = .ok (.aload_n 0, 1) := dq_get (L := lzddX12_light_34) 15 rfl zddX12_light_34 rfl
theorem dX12_light_62 : decode cX12_light 62 = .ok (.getfield 31, 3) := dq_get (L := lzddX12_light_34) 16 rfl zddX12_light_34 rfl
theorem dX12_light_65 : decode cX12_light 65 = .ok (.sipush 240, 3) := dq_get (L := lzddX12_light_34) 17 rfl zddX12_light_34 rfl
theorem dX12_light_68 : decode cX12_light 68 = .ok (.iload_n 1, 1) := dq_get (L := lzddX12_light_34) 18 rfl zddX12_light_34 rfl
theorem dX12_light_69 : decode cX12_light 69 = .ok (.imul, 1) := dq_get (L := lzddX12_light_34) 19 rfl zddX12_light_34 rfl
def lzddX12_light_70 : List (Nat × Instr × Nat) := [(70, .iload_n 2, 1), (71, .iadd, 1), (72, .baload, 1), (73, .ifCond .eq 7, 3), (76, .iconst 1, 1), (77, .goto 4, 3), (80, .iconst 0, 1), (81, .invokevirtual 81, 3), (84, .ireturn, 1)]
theorem zddX12_light_70 : dqW lzddX12_light_70 (cX12_light.data.toList.drop 70) 70 = true := by decide +kernel
theorem dX12_light_70 : decode cX12_light 70 = .ok (.iload_n 2, 1) := dq_get (L := lzddX12_light_70) 0 rfl zddX12_light_70 rfl
theorem dX12_light_71 : decode cX12_light 71 = .ok (.iadd, 1) := dq_get (L := lzddX12_light_70) 1 rfl zddX12_light_70 rfl
theorem dX12_light_72 : decode cX12_light 72 = .ok (.baload, 1) := dq_get (L := lzddX12_light_70) 2 rfl zddX12_light_70 rfl
theorem dX12_light_73 : decode cX12_light 73 = .ok (.ifCond .eq 7, 3) := dq_get (L := lzddX12_light_70) 3 rfl zddX12_light_70 rfl
theorem dX12_light_76 : decode cX12_light 76 = .ok (.iconst 1, 1) := dq_get (L := lzddX12_light_70) 4 rfl zddX12_light_70 rfl
theorem dX12_light_77 : decode cX12_light 77 = .ok (.goto 4, 3) := dq_get (L := lzddX12_light_70) 5 rfl zddX12_light_70 rfl
theorem dX12_light_80 : decode cX12_light 80 = .ok (.iconst 0, 1) := dq_get (L := lzddX12_light_70) 6 rfl zddX12_light_70 rfl
theorem dX12_light_81 : decode cX12_light 81 = .ok (.invokevirtual 81, 3) := dq_get (L := lzddX12_light_70) 7 rfl zddX12_light_70 rfl
theorem dX12_light_84 : decode cX12_light 84 = .ok (.ireturn, 1) := dq_get (L := lzddX12_light_70) 8 rfl zddX12_light_70 rfl
def lzddX12_lost_0 : List (Nat × Instr × Nat) := [(0, .aload_n 0, 1), (1, .iload_n 1, 1), (2, .invokevirtual 76, 3), (5, .pop, 1), (6, .ldc 80, 2), (8, .ireturn, 1)]
theorem zddX12_lost_0 : dqW lzddX12_lost_0 (cX12_lost.data.toList.drop 0) 0 = true := by decide +kernel
theorem dX12_lost_0 : decode cX12_lost 0 = .ok (.aload_n 0, 1) := dq_get (L := lzddX12_lost_0) 0 rfl zddX12_lost_0 rfl
theorem dX12_lost_1 : decode cX12_lost 1 = .ok (.iload_n 1, 1) := dq_get (L := lzddX12_lost_0) 1 rfl zddX12_lost_0 rfl
theorem dX12_lost_2 : decode cX12_lost 2 = .ok (.invokevirtual 76, 3) := dq_get (L := lzddX12_lost_0) 2 rfl zddX12_lost_0 rfl
theorem dX12_lost_5 : decode cX12_lost 5 = .ok (.pop, 1) := dq_get (L := lzddX12_lost_0) 3 rfl zddX12_lost_0 rfl
theorem dX12_lost_6 : decode cX12_lost 6 = .ok (.ldc 80, 2) := dq_get (L := lzddX12_lost_0) 4 rfl zddX12_lost_0 rfl
theorem dX12_lost_8 : decode cX12_lost 8 = .ok (.ireturn, 1) := dq_get (L := lzddX12_lost_0) 5 rfl zddX12_lost_0 rfl
def lzddX12_mark_0 : List (Nat × Instr × Nat) := [(0, .aload_n 0, 1), (1, .iconst 0, 1), (2, .putfield 70, 3), (5, .aload_n 0, 1), (6, .getfield 385, 3), (9, .ifnonnull 9, 3), (12, .aload_n 0, 1), (13, .iconst 1, 1), (14, .invokevirtual 76, 3), (17, .ireturn, 1), (18, .aload_n 0, 1), (19, .getfield 390, 3), (22, .iconst 3, 1), (23, .if_icmp .ne 9, 3), (26, .aload_n 0, 1), (27, .iconst 3, 1), (28, .invokevirtual 76, 3), (31, .ireturn, 1), (32, .iconst 0, 1), (33, .istore_n 1, 1)]
theorem zddX12_mark_0 : dqW lzddX12_mark_0 (cX12_mark.data.toList.drop 0) 0 = true := by decide +kernel
theorem dX12_mark_0 : decode cX12_mark 0 = .ok (.aload_n 0, 1) := dq_get (L := lzddX12_mark_0) 0 rfl zddX12_mark_0 rfl
theorem dX12_mark_1 : decode cX12_mark 1 = .ok (.iconst 0, 1) := dq_get (L := lzddX12_mark_0) 1 rfl zddX12_mark_0 rfl
theorem dX12_mark_2 : decode cX12_mark 2 = .ok (.putfield 70, 3) := dq_get (L := lzddX12_mark_0) 2 rfl zddX12_mark_0 rfl
theorem dX12_mark_5 : decode cX12_mark 5 = .ok (.aload_n 0, 1) := dq_get (L := lzddX12_mark_0) 3 rfl zddX12_mark_0 rfl
theorem dX12_mark_6 : decode cX12_mark 6 = .ok (.getfield 385, 3) := dq_get (L := lzddX12_mark_0) 4 rfl zddX12_mark_0 rfl
theorem dX12_mark_9 : decode cX12_mark 9 = .ok (.ifnonnull 9, 3) := dq_get (L := lzddX12_mark_0) 5 rfl zddX12_mark_0 rfl
theorem dX12_mark_12 : decode cX12_mark 12 = .ok (.aload_n 0, 1) := dq_get (L := lzddX12_mark_0) 6 rfl zddX12_mark_0 rfl
theorem dX12_mark_13 : decode cX12_mark 13 = .ok (.iconst 1, 1) := dq_get (L := lzddX12_mark_0) 7 rfl zddX12_mark_0 rfl
theorem dX12_mark_14 : decode cX12_mark 14 = .ok (.invokevirtual 76, 3) := dq_get (L := lzddX12_mark_0) 8 rfl zddX12_mark_0 rfl
theorem dX12_mark_17 : decode cX12_mark 17 = .ok (.ireturn, 1) := dq_get (L := lzddX12_mark_0) 9 rfl zddX12_mark_0 rfl
theorem dX12_mark_18 : decode cX12_mark 18 = .ok (.aload_n 0, 1) := dq_get (L := lzddX12_mark_0) 10 rfl zddX12_mark_0 rfl
theorem dX12_mark_19 : decode cX12_mark 19 = .ok (.getfield 390, 3) := dq_get (L := lzddX12_mark_0) 11 rfl zddX12_mark_0 rfl
theorem dX12_mark_22 : decode cX12_mark 22 = .ok (.iconst 3, 1) := dq_get (L := lzddX12_mark_0) 12 rfl zddX12_mark_0 rfl
theorem dX12_mark_23 : decode cX12_mark 23 = .ok (.if_icmp .ne 9, 3) := dq_get (L := lzddX12_mark_0) 13 rfl zddX12_mark_0 rfl
theorem dX12_mark_26 : decode cX12_mark 26 = .ok (.aload_n 0, 1) := dq_get (L := lzddX12_mark_0) 14 rfl zddX12_mark_0 rfl
theorem dX12_mark_27 : decode cX12_mark 27 = .ok (.iconst 3, 1) := dq_get (L := lzddX12_mark_0) 15 rfl zddX12_mark_0 rfl
theorem dX12_mark_28 : decode cX12_mark 28 = .ok (.invokevirtual 76, 3) := dq_get (L := lzddX12_mark_0) 16 rfl zddX12_mark_0 rfl
theorem dX12_mark_31 : decode cX12_mark 31 = .ok (.ireturn, 1) := dq_get (L := lzddX12_mark_0) 17 rfl zddX12_mark_0 rfl
theorem dX12_mark_32 : decode cX12_mark 32 = .ok (.iconst 0, 1) := dq_get (L := lzddX12_mark_0) 18 rfl zddX12_mark_0 rfl
theorem dX12_mark_33 : decode cX12_mark 33 = .ok (.istore_n 1, 1) := dq_get (L := lzddX12_mark_0) 19 rfl zddX12_mark_0 rfl
def lzddX12_mark_34 : List (Nat × Instr × Nat) := [(34, .iload_n 1, 1), (35, .bipush 15, 2), (37, .if_icmp .ge 29, 3), (40, .aload_n 0, 1), (41, .getfield 24, 3), (44, .bipush 15, 2), (46, .aload_n 0, 1), (47, .getfield 390, 3), (50, .imul, 1), (51, .iload_n 1, 1), (52, .iadd, 1), (53, .aload_n 0, 1), (54, .getfield 17, 3), (57, .iload_n 1, 1), (58, .iaload, 1), (59, .iastore, 1), (60, .iinc 1 1, 3), (63, .goto (-29), 3), (66, .aload_n 0, 1), (67, .dup, 1)]
theorem zddX12_mark_34 : dqW lzddX12_mark_34 (cX12_mark.data.toList.drop 34) 34 = true := by decide +kernel
theorem dX12_mark_34 : decode cX12_mark 34 = .ok (.iload_n 1, 1) := dq_get (L := lzddX12_mark_34) 0 rfl zddX12_mark_34 rfl
theorem dX12_mark_35 : decode cX12_mark 35 = .ok (.bipush 15, 2) := dq_get (L := lzddX12_mark_34) 1 rfl zddX12_mark_34 rfl
theorem dX12_mark_37 : decode cX12_mark 37 = .ok (.if_icmp .ge 29, 3) := dq_get (L := lzddX12_mark_34) 2 rfl zddX12_mark_34 rfl
theorem dX12_mark_40 : decode cX12_mark 40 = .ok (.aload_n 0, 1) := dq_get (L := lzddX12_mark_34) 3 rfl zddX12_mark_34 rfl
theorem dX12_mark_41 : decode cX12_mark 41 = .ok (.getfield 24, 3) := dq_get (L := lzddX12_mark_34) 4 rfl zddX12_mark_34 rfl
theorem dX12_mark_44 : decode cX12_mark 44 = .ok (.bipush 15, 2) := dq_get (L := lzddX12_mark_34) 5 rfl zddX12_mark_34 rfl
theorem dX12_mark_46 : decode cX12_mark 46 = .ok (.aload_n 0, 1) := dq_get (L := lzddX12_mark_34) 6 rfl zddX12_mark_34 rfl
theorem dX12_mark_47 : decode cX12_mark 47 = .ok (.getfield 390, 3) := dq_get (L := lzddX12_mark_34) 7 rfl zddX12_mark_34 rfl
theorem dX12_mark_50 : decode cX12_mark 50 = .ok (.imul, 1) := dq_get (L := lzddX12_mark_34) 8 rfl zddX12_mark_34 rfl
theorem dX12_mark_51 : decode cX12_mark 51 = .ok (.iload_n 1, 1) := dq_get (L := lzddX12_mark_34) 9 rfl zddX12_mark_34 rfl
theorem dX12_mark_52 : decode cX12_mark 52 = .ok (.iadd, 1) := dq_get (L := lzddX12_mark_34) 10 rfl zddX12_mark_34 rfl
theorem dX12_mark_53 : decode cX12_mark 53 = .ok (.aload_n 0, 1) := dq_get (L := lzddX12_mark_34) 11 rfl zddX12_mark_34 rfl
theorem dX12_mark_54 : decode cX12_mark 54 = .ok (.getfield 17, 3) := dq_get (L := lzddX12_mark_34) 12 rfl zddX12_mark_34 rfl
theorem dX12_mark_57 : decode cX12_mark 57 = .ok (.iload_n 1, 1) := dq_get (L := lzddX12_mark_34) 13 rfl zddX12_mark_34 rfl
theorem dX12_mark_58 : decode cX12_mark 58 = .ok (.iaload, 1) := dq_get (L := lzddX12_mark_34) 14 rfl zddX12_mark_34 rfl
theorem dX12_mark_59 : decode cX12_mark 59 = .ok (.iastore, 1) := dq_get (L := lzddX12_mark_34) 15 rfl zddX12_mark_34 rfl
theorem dX12_mark_60 : decode cX12_mark 60 = .ok (.iinc 1 1, 3) := dq_get (L := lzddX12_mark_34) 16 rfl zddX12_mark_34 rfl
theorem dX12_mark_63 : decode cX12_mark 63 = .ok (.goto (-29), 3) := dq_get (L := lzddX12_mark_34) 17 rfl zddX12_mark_34 rfl
theorem dX12_mark_66 : decode cX12_mark 66 = .ok (.aload_n 0, 1) := dq_get (L := lzddX12_mark_34) 18 rfl zddX12_mark_34 rfl
theorem dX12_mark_67 : decode cX12_mark 67 = .ok (.dup, 1) := dq_get (L := lzddX12_mark_34) 19 rfl zddX12_mark_34 rfl
def lzddX12_mark_68 : List (Nat × Instr × Nat) := [(68, .getfield 390, 3), (71, .iconst 1, 1), (72, .iadd, 1), (73, .putfield 390, 3), (76, .aload_n 0, 1), (77, .aload_n 0, 1), (78, .getfield 390, 3), (81, .iconst 1, 1), (82, .isub, 1), (83, .invokevirtual 81, 3), (86, .ireturn, 1)]
theorem zddX12_mark_68 : dqW lzddX12_mark_68 (cX12_mark.data.toList.drop 68) 68 = true := by decide +kernel
theorem dX12_mark_68 : decode cX12_mark 68 = .ok (.getfield 390, 3) := dq_get (L := lzddX12_mark_68) 0 rfl zddX12_mark_68 rfl
theorem dX12_mark_71 : decode cX12_mark 71 = .ok (.iconst 1, 1) := dq_get (L := lzddX12_mark_68) 1 rfl zddX12_mark_68 rfl
theorem dX12_mark_72 : decode cX12_mark 72 = .ok (.iadd, 1) := dq_get (L := lzddX12_mark_68) 2 rfl zddX12_mark_68 rfl
theorem dX12_mark_73 : decode cX12_mark 73 = .ok (.putfield 390, 3) := dq_get (L := lzddX12_mark_68) 3 rfl zddX12_mark_68 rfl
theorem dX12_mark_76 : decode cX12_mark 76 = .ok (.aload_n 0, 1) := dq_get (L := lzddX12_mark_68) 4 rfl zddX12_mark_68 rfl
theorem dX12_mark_77 : decode cX12_mark 77 = .ok (.aload_n 0, 1) := dq_get (L := lzddX12_mark_68) 5 rfl zddX12_mark_68 rfl
theorem dX12_mark_78 : decode cX12_mark 78 = .ok (.getfield 390, 3) := dq_get (L := lzddX12_mark_68) 6 rfl zddX12_mark_68 rfl
theorem dX12_mark_81 : decode cX12_mark 81 = .ok (.iconst 1, 1) := dq_get (L := lzddX12_mark_68) 7 rfl zddX12_mark_68 rfl
theorem dX12_mark_82 : decode cX12_mark 82 = .ok (.isub, 1) := dq_get (L := lzddX12_mark_68) 8 rfl zddX12_mark_68 rfl
theorem dX12_mark_83 : decode cX12_mark 83 = .ok (.invokevirtual 81, 3) := dq_get (L := lzddX12_mark_68) 9 rfl zddX12_mark_68 rfl
theorem dX12_mark_86 : decode cX12_mark 86 = .ok (.ireturn, 1) := dq_get (L := lzddX12_mark_68) 10 rfl zddX12_mark_68 rfl
def lzddX12_marksLight_0 : List (Nat × Instr × Nat) := [(0, .aload_n 0, 1), (1, .iload_n 1, 1), (2, .invokevirtual 404, 3)]
theorem zddX12_marksLight_0 : dqW lzddX12_marksLight_0 (cX12_marksLight.data.toList.drop 0) 0 = true := by decide +kernel
theorem dX12_marksLight_0 : decode cX12_marksLight 0 = .ok (.aload_n 0, 1) := dq_get (L := lzddX12_marksLight_0) 0 rfl zddX12_marksLight_0 rfl
theorem dX12_marksLight_1 : decode cX12_marksLight 1 = .ok (.iload_n 1, 1) := dq_get (L := lzddX12_marksLight_0) 1 rfl zddX12_marksLight_0 rfl
theorem dX12_marksLight_2 : decode cX12_marksLight 2 = .ok (.invokevirtual 404, 3) := dq_get (L := lzddX12_marksLight_0) 2 rfl zddX12_marksLight_0 rfl
theorem dX12_marksLight_5 : decode cX12_marksLight 5 = .ok (.tableswitch 91 0 3 #[31, 41, 51, 71], 31) := by decide +kernel
def lzddX12_marksLight_36 : List (Nat × Instr × Nat) := [(36, .aload_n 0, 1), (37, .getfield 27, 3), (40, .iload_n 2, 1), (41, .iconst 0, 1), (42, .bastore, 1), (43, .goto 60, 3), (46, .aload_n 0, 1), (47, .getfield 37, 3), (50, .iload_n 2, 1), (51, .iconst 1, 1), (52, .bastore, 1), (53, .goto 50, 3), (56, .aload_n 0, 1), (57, .getfield 34, 3), (60, .sipush 240, 3), (63, .aload_n 0, 1), (64, .iload_n 1, 1), (65, .invokevirtual 407, 3), (68, .imul, 1), (69, .iload_n 2, 1)]
theorem zddX12_marksLight_36 : dqW lzddX12_marksLight_36 (cX12_marksLight.data.toList.drop 36) 36 = true := by decide +kernel
theorem dX12_marksLight_36 : decode cX12_marksLight 36 = .ok (.aload_n 0, 1) := dq_get (L := lzddX12_marksLight_36) 0 rfl zddX12_marksLight_36 rfl
theorem dX12_marksLight_37 : decode cX12_marksLight 37 = .ok (.getfield 27, 3) := dq_get (L := lzddX12_marksLight_36) 1 rfl zddX12_marksLight_36 rfl
theorem dX12_marksLight_40 : decode cX12_marksLight 40 = .ok (.iload_n 2, 1) := dq_get (L := lzddX12_marksLight_36) 2 rfl zddX12_marksLight_36 rfl
theorem dX12_marksLight_41 : decode cX12_marksLight 41 = .ok (.iconst 0, 1) := dq_get (L := lzddX12_marksLight_36) 3 rfl zddX12_marksLight_36 rfl
theorem dX12_marksLight_42 : decode cX12_marksLight 42 = .ok (.bastore, 1) := dq_get (L := lzddX12_marksLight_36) 4 rfl zddX12_marksLight_36 rfl
theorem dX12_marksLight_43 : decode cX12_marksLight 43 = .ok (.goto 60, 3) := dq_get (L := lzddX12_marksLight_36) 5 rfl zddX12_marksLight_36 rfl
theorem dX12_marksLight_46 : decode cX12_marksLight 46 = .ok (.aload_n 0, 1) := dq_get (L := lzddX12_marksLight_36) 6 rfl zddX12_marksLight_36 rfl
theorem dX12_marksLight_47 : decode cX12_marksLight 47 = .ok (.getfield 37, 3) := dq_get (L := lzddX12_marksLight_36) 7 rfl zddX12_marksLight_36 rfl
theorem dX12_marksLight_50 : decode cX12_marksLight 50 = .ok (.iload_n 2, 1) := dq_get (L := lzddX12_marksLight_36) 8 rfl zddX12_marksLight_36 rfl
theorem dX12_marksLight_51 : decode cX12_marksLight 51 = .ok (.iconst 1, 1) := dq_get (L := lzddX12_marksLight_36) 9 rfl zddX12_marksLight_36 rfl
theorem dX12_marksLight_52 : decode cX12_marksLight 52 = .ok (.bastore, 1) := dq_get (L := lzddX12_marksLight_36) 10 rfl zddX12_marksLight_36 rfl
theorem dX12_marksLight_53 : decode cX12_marksLight 53 = .ok (.goto 50, 3) := dq_get (L := lzddX12_marksLight_36) 11 rfl zddX12_marksLight_36 rfl
theorem dX12_marksLight_56 : decode cX12_marksLight 56 = .ok (.aload_n 0, 1) := dq_get (L := lzddX12_marksLight_36) 12 rfl zddX12_marksLight_36 rfl
theorem dX12_marksLight_57 : decode cX12_marksLight 57 = .ok (.getfield 34, 3) := dq_get (L := lzddX12_marksLight_36) 13 rfl zddX12_marksLight_36 rfl
theorem dX12_marksLight_60 : decode cX12_marksLight 60 = .ok (.sipush 240, 3) := dq_get (L := lzddX12_marksLight_36) 14 rfl zddX12_marksLight_36 rfl
theorem dX12_marksLight_63 : decode cX12_marksLight 63 = .ok (.aload_n 0, 1) := dq_get (L := lzddX12_marksLight_36) 15 rfl zddX12_marksLight_36 rfl
theorem dX12_marksLight_64 : decode cX12_marksLight 64 = .ok (.iload_n 1, 1) := dq_get (L := lzddX12_marksLight_36) 16 rfl zddX12_marksLight_36 rfl
theorem dX12_marksLight_65 : decode cX12_marksLight 65 = .ok (.invokevirtual 407, 3) := dq_get (L := lzddX12_marksLight_36) 17 rfl zddX12_marksLight_36 rfl
theorem dX12_marksLight_68 : decode cX12_marksLight 68 = .ok (.imul, 1) := dq_get (L := lzddX12_marksLight_36) 18 rfl zddX12_marksLight_36 rfl
theorem dX12_marksLight_69 : decode cX12_marksLight 69 = .ok (.iload_n 2, 1) := dq_get (L := lzddX12_marksLight_36) 19 rfl zddX12_marksLight_36 rfl
def lzddX12_marksLight_70 : List (Nat × Instr × Nat) := [(70, .iadd, 1), (71, .iconst 1, 1), (72, .bastore, 1), (73, .goto 30, 3), (76, .aload_n 0, 1), (77, .getfield 43, 3), (80, .sipush 240, 3), (83, .aload_n 0, 1), (84, .iload_n 1, 1), (85, .invokevirtual 407, 3), (88, .imul, 1), (89, .iload_n 2, 1), (90, .iadd, 1), (91, .iconst 1, 1), (92, .bastore, 1), (93, .goto 10, 3), (96, .aload_n 0, 1), (97, .getfield 40, 3), (100, .iload_n 2, 1), (101, .iconst 1, 1)]
theorem zddX12_marksLight_70 : dqW lzddX12_marksLight_70 (cX12_marksLight.data.toList.drop 70) 70 = true := by decide +kernel
theorem dX12_marksLight_70 : decode cX12_marksLight 70 = .ok (.iadd, 1) := dq_get (L := lzddX12_marksLight_70) 0 rfl zddX12_marksLight_70 rfl
theorem dX12_marksLight_71 : decode cX12_marksLight 71 = .ok (.iconst 1, 1) := dq_get (L := lzddX12_marksLight_70) 1 rfl zddX12_marksLight_70 rfl
theorem dX12_marksLight_72 : decode cX12_marksLight 72 = .ok (.bastore, 1) := dq_get (L := lzddX12_marksLight_70) 2 rfl zddX12_marksLight_70 rfl
theorem dX12_marksLight_73 : decode cX12_marksLight 73 = .ok (.goto 30, 3) := dq_get (L := lzddX12_marksLight_70) 3 rfl zddX12_marksLight_70 rfl
theorem dX12_marksLight_76 : decode cX12_marksLight 76 = .ok (.aload_n 0, 1) := dq_get (L := lzddX12_marksLight_70) 4 rfl zddX12_marksLight_70 rfl
theorem dX12_marksLight_77 : decode cX12_marksLight 77 = .ok (.getfield 43, 3) := dq_get (L := lzddX12_marksLight_70) 5 rfl zddX12_marksLight_70 rfl
theorem dX12_marksLight_80 : decode cX12_marksLight 80 = .ok (.sipush 240, 3) := dq_get (L := lzddX12_marksLight_70) 6 rfl zddX12_marksLight_70 rfl
theorem dX12_marksLight_83 : decode cX12_marksLight 83 = .ok (.aload_n 0, 1) := dq_get (L := lzddX12_marksLight_70) 7 rfl zddX12_marksLight_70 rfl
theorem dX12_marksLight_84 : decode cX12_marksLight 84 = .ok (.iload_n 1, 1) := dq_get (L := lzddX12_marksLight_70) 8 rfl zddX12_marksLight_70 rfl
theorem dX12_marksLight_85 : decode cX12_marksLight 85 = .ok (.invokevirtual 407, 3) := dq_get (L := lzddX12_marksLight_70) 9 rfl zddX12_marksLight_70 rfl
theorem dX12_marksLight_88 : decode cX12_marksLight 88 = .ok (.imul, 1) := dq_get (L := lzddX12_marksLight_70) 10 rfl zddX12_marksLight_70 rfl
theorem dX12_marksLight_89 : decode cX12_marksLight 89 = .ok (.iload_n 2, 1) := dq_get (L := lzddX12_marksLight_70) 11 rfl zddX12_marksLight_70 rfl
theorem dX12_marksLight_90 : decode cX12_marksLight 90 = .ok (.iadd, 1) := dq_get (L := lzddX12_marksLight_70) 12 rfl zddX12_marksLight_70 rfl
theorem dX12_marksLight_91 : decode cX12_marksLight 91 = .ok (.iconst 1, 1) := dq_get (L := lzddX12_marksLight_70) 13 rfl zddX12_marksLight_70 rfl
theorem dX12_marksLight_92 : decode cX12_marksLight 92 = .ok (.bastore, 1) := dq_get (L := lzddX12_marksLight_70) 14 rfl zddX12_marksLight_70 rfl
theorem dX12_marksLight_93 : decode cX12_marksLight 93 = .ok (.goto 10, 3) := dq_get (L := lzddX12_marksLight_70) 15 rfl zddX12_marksLight_70 rfl
theorem dX12_marksLight_96 : decode cX12_marksLight 96 = .ok (.aload_n 0, 1) := dq_get (L := lzddX12_marksLight_70) 16 rfl zddX12_marksLight_70 rfl
theorem dX12_marksLight_97 : decode cX12_marksLight 97 = .ok (.getfield 40, 3) := dq_get (L := lzddX12_marksLight_70) 17 rfl zddX12_marksLight_70 rfl
theorem dX12_marksLight_100 : decode cX12_marksLight 100 = .ok (.iload_n 2, 1) := dq_get (L := lzddX12_marksLight_70) 18 rfl zddX12_marksLight_70 rfl
theorem dX12_marksLight_101 : decode cX12_marksLight 101 = .ok (.iconst 1, 1) := dq_get (L := lzddX12_marksLight_70) 19 rfl zddX12_marksLight_70 rfl
def lzddX12_marksLight_102 : List (Nat × Instr × Nat) := [(102, .bastore, 1), (103, .return_, 1)]
theorem zddX12_marksLight_102 : dqW lzddX12_marksLight_102 (cX12_marksLight.data.toList.drop 102) 102 = true := by decide +kernel
theorem dX12_marksLight_102 : decode cX12_marksLight 102 = .ok (.bastore, 1) := dq_get (L := lzddX12_marksLight_102) 0 rfl zddX12_marksLight_102 rfl
theorem dX12_marksLight_103 : decode cX12_marksLight 103 = .ok (.return_, 1) := dq_get (L := lzddX12_marksLight_102) 1 rfl zddX12_marksLight_102 rfl
def lzddX12_missesNone_0 : List (Nat × Instr × Nat) := [(0, .aload_n 0, 1), (1, .iload_n 1, 1), (2, .aload_n 0, 1), (3, .getfield 17, 3), (6, .iconst 0, 1), (7, .iaload, 1), (8, .invokevirtual 440, 3), (11, .pop, 1), (12, .iconst 0, 1), (13, .istore_n 2, 1), (14, .iload_n 2, 1), (15, .aload_n 0, 1), (16, .getfield 385, 3), (19, .getfield 224, 3), (22, .if_icmp .ge 20, 3), (25, .aload_n 0, 1), (26, .getfield 55, 3), (29, .iload_n 2, 1), (30, .iaload, 1), (31, .ifCond .le 5, 3)]
theorem zddX12_missesNone_0 : dqW lzddX12_missesNone_0 (cX12_missesNone.data.toList.drop 0) 0 = true := by decide +kernel
theorem dX12_missesNone_0 : decode cX12_missesNone 0 = .ok (.aload_n 0, 1) := dq_get (L := lzddX12_missesNone_0) 0 rfl zddX12_missesNone_0 rfl
theorem dX12_missesNone_1 : decode cX12_missesNone 1 = .ok (.iload_n 1, 1) := dq_get (L := lzddX12_missesNone_0) 1 rfl zddX12_missesNone_0 rfl
theorem dX12_missesNone_2 : decode cX12_missesNone 2 = .ok (.aload_n 0, 1) := dq_get (L := lzddX12_missesNone_0) 2 rfl zddX12_missesNone_0 rfl
theorem dX12_missesNone_3 : decode cX12_missesNone 3 = .ok (.getfield 17, 3) := dq_get (L := lzddX12_missesNone_0) 3 rfl zddX12_missesNone_0 rfl
theorem dX12_missesNone_6 : decode cX12_missesNone 6 = .ok (.iconst 0, 1) := dq_get (L := lzddX12_missesNone_0) 4 rfl zddX12_missesNone_0 rfl
theorem dX12_missesNone_7 : decode cX12_missesNone 7 = .ok (.iaload, 1) := dq_get (L := lzddX12_missesNone_0) 5 rfl zddX12_missesNone_0 rfl
theorem dX12_missesNone_8 : decode cX12_missesNone 8 = .ok (.invokevirtual 440, 3) := dq_get (L := lzddX12_missesNone_0) 6 rfl zddX12_missesNone_0 rfl
theorem dX12_missesNone_11 : decode cX12_missesNone 11 = .ok (.pop, 1) := dq_get (L := lzddX12_missesNone_0) 7 rfl zddX12_missesNone_0 rfl
theorem dX12_missesNone_12 : decode cX12_missesNone 12 = .ok (.iconst 0, 1) := dq_get (L := lzddX12_missesNone_0) 8 rfl zddX12_missesNone_0 rfl
theorem dX12_missesNone_13 : decode cX12_missesNone 13 = .ok (.istore_n 2, 1) := dq_get (L := lzddX12_missesNone_0) 9 rfl zddX12_missesNone_0 rfl
theorem dX12_missesNone_14 : decode cX12_missesNone 14 = .ok (.iload_n 2, 1) := dq_get (L := lzddX12_missesNone_0) 10 rfl zddX12_missesNone_0 rfl
theorem dX12_missesNone_15 : decode cX12_missesNone 15 = .ok (.aload_n 0, 1) := dq_get (L := lzddX12_missesNone_0) 11 rfl zddX12_missesNone_0 rfl
theorem dX12_missesNone_16 : decode cX12_missesNone 16 = .ok (.getfield 385, 3) := dq_get (L := lzddX12_missesNone_0) 12 rfl zddX12_missesNone_0 rfl
theorem dX12_missesNone_19 : decode cX12_missesNone 19 = .ok (.getfield 224, 3) := dq_get (L := lzddX12_missesNone_0) 13 rfl zddX12_missesNone_0 rfl
theorem dX12_missesNone_22 : decode cX12_missesNone 22 = .ok (.if_icmp .ge 20, 3) := dq_get (L := lzddX12_missesNone_0) 14 rfl zddX12_missesNone_0 rfl
theorem dX12_missesNone_25 : decode cX12_missesNone 25 = .ok (.aload_n 0, 1) := dq_get (L := lzddX12_missesNone_0) 15 rfl zddX12_missesNone_0 rfl
theorem dX12_missesNone_26 : decode cX12_missesNone 26 = .ok (.getfield 55, 3) := dq_get (L := lzddX12_missesNone_0) 16 rfl zddX12_missesNone_0 rfl
theorem dX12_missesNone_29 : decode cX12_missesNone 29 = .ok (.iload_n 2, 1) := dq_get (L := lzddX12_missesNone_0) 17 rfl zddX12_missesNone_0 rfl
theorem dX12_missesNone_30 : decode cX12_missesNone 30 = .ok (.iaload, 1) := dq_get (L := lzddX12_missesNone_0) 18 rfl zddX12_missesNone_0 rfl
theorem dX12_missesNone_31 : decode cX12_missesNone 31 = .ok (.ifCond .le 5, 3) := dq_get (L := lzddX12_missesNone_0) 19 rfl zddX12_missesNone_0 rfl
def lzddX12_missesNone_34 : List (Nat × Instr × Nat) := [(34, .iconst 0, 1), (35, .ireturn, 1), (36, .iinc 2 1, 3), (39, .goto (-25), 3), (42, .iconst 1, 1), (43, .ireturn, 1)]
theorem zddX12_missesNone_34 : dqW lzddX12_missesNone_34 (cX12_missesNone.data.toList.drop 34) 34 = true := by decide +kernel
theorem dX12_missesNone_34 : decode cX12_missesNone 34 = .ok (.iconst 0, 1) := dq_get (L := lzddX12_missesNone_34) 0 rfl zddX12_missesNone_34 rfl
theorem dX12_missesNone_35 : decode cX12_missesNone 35 = .ok (.ireturn, 1) := dq_get (L := lzddX12_missesNone_34) 1 rfl zddX12_missesNone_34 rfl
theorem dX12_missesNone_36 : decode cX12_missesNone 36 = .ok (.iinc 2 1, 3) := dq_get (L := lzddX12_missesNone_34) 2 rfl zddX12_missesNone_34 rfl
theorem dX12_missesNone_39 : decode cX12_missesNone 39 = .ok (.goto (-25), 3) := dq_get (L := lzddX12_missesNone_34) 3 rfl zddX12_missesNone_34 rfl
theorem dX12_missesNone_42 : decode cX12_missesNone 42 = .ok (.iconst 1, 1) := dq_get (L := lzddX12_missesNone_34) 4 rfl zddX12_missesNone_34 rfl
theorem dX12_missesNone_43 : decode cX12_missesNone 43 = .ok (.ireturn, 1) := dq_get (L := lzddX12_missesNone_34) 5 rfl zddX12_missesNone_34 rfl
def lzddX12_names_0 : List (Nat × Instr × Nat) := [(0, .aload_n 0, 1), (1, .getfield 188, 3), (4, .getfield 205, 3), (7, .aload_n 0, 1), (8, .getfield 188, 3), (11, .getfield 209, 3), (14, .lload_n 1, 1), (15, .lastore, 1), (16, .aload_n 0, 1), (17, .getfield 188, 3), (20, .getfield 212, 3), (23, .aload_n 0, 1), (24, .getfield 188, 3), (27, .getfield 209, 3), (30, .iload_n 3, 1), (31, .iastore, 1), (32, .aload_n 0, 1), (33, .getfield 188, 3), (36, .getfield 215, 3), (39, .aload_n 0, 1)]
theorem zddX12_names_0 : dqW lzddX12_names_0 (cX12_names.data.toList.drop 0) 0 = true := by decide +kernel
theorem dX12_names_0 : decode cX12_names 0 = .ok (.aload_n 0, 1) := dq_get (L := lzddX12_names_0) 0 rfl zddX12_names_0 rfl
theorem dX12_names_1 : decode cX12_names 1 = .ok (.getfield 188, 3) := dq_get (L := lzddX12_names_0) 1 rfl zddX12_names_0 rfl
theorem dX12_names_4 : decode cX12_names 4 = .ok (.getfield 205, 3) := dq_get (L := lzddX12_names_0) 2 rfl zddX12_names_0 rfl
theorem dX12_names_7 : decode cX12_names 7 = .ok (.aload_n 0, 1) := dq_get (L := lzddX12_names_0) 3 rfl zddX12_names_0 rfl
theorem dX12_names_8 : decode cX12_names 8 = .ok (.getfield 188, 3) := dq_get (L := lzddX12_names_0) 4 rfl zddX12_names_0 rfl
theorem dX12_names_11 : decode cX12_names 11 = .ok (.getfield 209, 3) := dq_get (L := lzddX12_names_0) 5 rfl zddX12_names_0 rfl
theorem dX12_names_14 : decode cX12_names 14 = .ok (.lload_n 1, 1) := dq_get (L := lzddX12_names_0) 6 rfl zddX12_names_0 rfl
theorem dX12_names_15 : decode cX12_names 15 = .ok (.lastore, 1) := dq_get (L := lzddX12_names_0) 7 rfl zddX12_names_0 rfl
theorem dX12_names_16 : decode cX12_names 16 = .ok (.aload_n 0, 1) := dq_get (L := lzddX12_names_0) 8 rfl zddX12_names_0 rfl
theorem dX12_names_17 : decode cX12_names 17 = .ok (.getfield 188, 3) := dq_get (L := lzddX12_names_0) 9 rfl zddX12_names_0 rfl
theorem dX12_names_20 : decode cX12_names 20 = .ok (.getfield 212, 3) := dq_get (L := lzddX12_names_0) 10 rfl zddX12_names_0 rfl
theorem dX12_names_23 : decode cX12_names 23 = .ok (.aload_n 0, 1) := dq_get (L := lzddX12_names_0) 11 rfl zddX12_names_0 rfl
theorem dX12_names_24 : decode cX12_names 24 = .ok (.getfield 188, 3) := dq_get (L := lzddX12_names_0) 12 rfl zddX12_names_0 rfl
theorem dX12_names_27 : decode cX12_names 27 = .ok (.getfield 209, 3) := dq_get (L := lzddX12_names_0) 13 rfl zddX12_names_0 rfl
theorem dX12_names_30 : decode cX12_names 30 = .ok (.iload_n 3, 1) := dq_get (L := lzddX12_names_0) 14 rfl zddX12_names_0 rfl
theorem dX12_names_31 : decode cX12_names 31 = .ok (.iastore, 1) := dq_get (L := lzddX12_names_0) 15 rfl zddX12_names_0 rfl
theorem dX12_names_32 : decode cX12_names 32 = .ok (.aload_n 0, 1) := dq_get (L := lzddX12_names_0) 16 rfl zddX12_names_0 rfl
theorem dX12_names_33 : decode cX12_names 33 = .ok (.getfield 188, 3) := dq_get (L := lzddX12_names_0) 17 rfl zddX12_names_0 rfl
theorem dX12_names_36 : decode cX12_names 36 = .ok (.getfield 215, 3) := dq_get (L := lzddX12_names_0) 18 rfl zddX12_names_0 rfl
theorem dX12_names_39 : decode cX12_names 39 = .ok (.aload_n 0, 1) := dq_get (L := lzddX12_names_0) 19 rfl zddX12_names_0 rfl
def lzddX12_names_40 : List (Nat × Instr × Nat) := [(40, .getfield 188, 3), (43, .getfield 209, 3), (46, .iload 4, 2), (48, .iastore, 1), (49, .aload_n 0, 1), (50, .getfield 188, 3), (53, .dup, 1), (54, .getfield 209, 3), (57, .iconst 1, 1), (58, .iadd, 1), (59, .putfield 209, 3), (62, .return_, 1)]
theorem zddX12_names_40 : dqW lzddX12_names_40 (cX12_names.data.toList.drop 40) 40 = true := by decide +kernel
theorem dX12_names_40 : decode cX12_names 40 = .ok (.getfield 188, 3) := dq_get (L := lzddX12_names_40) 0 rfl zddX12_names_40 rfl
theorem dX12_names_43 : decode cX12_names 43 = .ok (.getfield 209, 3) := dq_get (L := lzddX12_names_40) 1 rfl zddX12_names_40 rfl
theorem dX12_names_46 : decode cX12_names 46 = .ok (.iload 4, 2) := dq_get (L := lzddX12_names_40) 2 rfl zddX12_names_40 rfl
theorem dX12_names_48 : decode cX12_names 48 = .ok (.iastore, 1) := dq_get (L := lzddX12_names_40) 3 rfl zddX12_names_40 rfl
theorem dX12_names_49 : decode cX12_names 49 = .ok (.aload_n 0, 1) := dq_get (L := lzddX12_names_40) 4 rfl zddX12_names_40 rfl
theorem dX12_names_50 : decode cX12_names 50 = .ok (.getfield 188, 3) := dq_get (L := lzddX12_names_40) 5 rfl zddX12_names_40 rfl
theorem dX12_names_53 : decode cX12_names 53 = .ok (.dup, 1) := dq_get (L := lzddX12_names_40) 6 rfl zddX12_names_40 rfl
theorem dX12_names_54 : decode cX12_names 54 = .ok (.getfield 209, 3) := dq_get (L := lzddX12_names_40) 7 rfl zddX12_names_40 rfl
theorem dX12_names_57 : decode cX12_names 57 = .ok (.iconst 1, 1) := dq_get (L := lzddX12_names_40) 8 rfl zddX12_names_40 rfl
theorem dX12_names_58 : decode cX12_names 58 = .ok (.iadd, 1) := dq_get (L := lzddX12_names_40) 9 rfl zddX12_names_40 rfl
theorem dX12_names_59 : decode cX12_names 59 = .ok (.putfield 209, 3) := dq_get (L := lzddX12_names_40) 10 rfl zddX12_names_40 rfl
theorem dX12_names_62 : decode cX12_names 62 = .ok (.return_, 1) := dq_get (L := lzddX12_names_40) 11 rfl zddX12_names_40 rfl
def lzddX12_needs_0 : List (Nat × Instr × Nat) := [(0, .aload_n 0, 1), (1, .aload_n 1, 1), (2, .invokevirtual 138, 3), (5, .ifCond .ne 8, 3), (8, .aload_n 0, 1), (9, .iconst 1, 1), (10, .invokevirtual 145, 3), (13, .aload_n 0, 1), (14, .invokevirtual 142, 3), (17, .return_, 1)]
theorem zddX12_needs_0 : dqW lzddX12_needs_0 (cX12_needs.data.toList.drop 0) 0 = true := by decide +kernel
theorem dX12_needs_0 : decode cX12_needs 0 = .ok (.aload_n 0, 1) := dq_get (L := lzddX12_needs_0) 0 rfl zddX12_needs_0 rfl
theorem dX12_needs_1 : decode cX12_needs 1 = .ok (.aload_n 1, 1) := dq_get (L := lzddX12_needs_0) 1 rfl zddX12_needs_0 rfl
theorem dX12_needs_2 : decode cX12_needs 2 = .ok (.invokevirtual 138, 3) := dq_get (L := lzddX12_needs_0) 2 rfl zddX12_needs_0 rfl
theorem dX12_needs_5 : decode cX12_needs 5 = .ok (.ifCond .ne 8, 3) := dq_get (L := lzddX12_needs_0) 3 rfl zddX12_needs_0 rfl
theorem dX12_needs_8 : decode cX12_needs 8 = .ok (.aload_n 0, 1) := dq_get (L := lzddX12_needs_0) 4 rfl zddX12_needs_0 rfl
theorem dX12_needs_9 : decode cX12_needs 9 = .ok (.iconst 1, 1) := dq_get (L := lzddX12_needs_0) 5 rfl zddX12_needs_0 rfl
theorem dX12_needs_10 : decode cX12_needs 10 = .ok (.invokevirtual 145, 3) := dq_get (L := lzddX12_needs_0) 6 rfl zddX12_needs_0 rfl
theorem dX12_needs_13 : decode cX12_needs 13 = .ok (.aload_n 0, 1) := dq_get (L := lzddX12_needs_0) 7 rfl zddX12_needs_0 rfl
theorem dX12_needs_14 : decode cX12_needs 14 = .ok (.invokevirtual 142, 3) := dq_get (L := lzddX12_needs_0) 8 rfl zddX12_needs_0 rfl
theorem dX12_needs_17 : decode cX12_needs 17 = .ok (.return_, 1) := dq_get (L := lzddX12_needs_0) 9 rfl zddX12_needs_0 rfl
def lzddX12_needsSign_0 : List (Nat × Instr × Nat) := [(0, .aload_n 0, 1), (1, .getfield 99, 3), (4, .iconst 4, 1), (5, .if_icmp .ne 11, 3), (8, .aload_n 0, 1), (9, .getfield 111, 3), (12, .iload_n 1, 1), (13, .if_icmp .eq 8, 3), (16, .aload_n 0, 1), (17, .iconst 1, 1), (18, .invokevirtual 145, 3), (21, .aload_n 0, 1), (22, .invokevirtual 142, 3), (25, .return_, 1)]
theorem zddX12_needsSign_0 : dqW lzddX12_needsSign_0 (cX12_needsSign.data.toList.drop 0) 0 = true := by decide +kernel
theorem dX12_needsSign_0 : decode cX12_needsSign 0 = .ok (.aload_n 0, 1) := dq_get (L := lzddX12_needsSign_0) 0 rfl zddX12_needsSign_0 rfl
theorem dX12_needsSign_1 : decode cX12_needsSign 1 = .ok (.getfield 99, 3) := dq_get (L := lzddX12_needsSign_0) 1 rfl zddX12_needsSign_0 rfl
theorem dX12_needsSign_4 : decode cX12_needsSign 4 = .ok (.iconst 4, 1) := dq_get (L := lzddX12_needsSign_0) 2 rfl zddX12_needsSign_0 rfl
theorem dX12_needsSign_5 : decode cX12_needsSign 5 = .ok (.if_icmp .ne 11, 3) := dq_get (L := lzddX12_needsSign_0) 3 rfl zddX12_needsSign_0 rfl
theorem dX12_needsSign_8 : decode cX12_needsSign 8 = .ok (.aload_n 0, 1) := dq_get (L := lzddX12_needsSign_0) 4 rfl zddX12_needsSign_0 rfl
theorem dX12_needsSign_9 : decode cX12_needsSign 9 = .ok (.getfield 111, 3) := dq_get (L := lzddX12_needsSign_0) 5 rfl zddX12_needsSign_0 rfl
theorem dX12_needsSign_12 : decode cX12_needsSign 12 = .ok (.iload_n 1, 1) := dq_get (L := lzddX12_needsSign_0) 6 rfl zddX12_needsSign_0 rfl
theorem dX12_needsSign_13 : decode cX12_needsSign 13 = .ok (.if_icmp .eq 8, 3) := dq_get (L := lzddX12_needsSign_0) 7 rfl zddX12_needsSign_0 rfl
theorem dX12_needsSign_16 : decode cX12_needsSign 16 = .ok (.aload_n 0, 1) := dq_get (L := lzddX12_needsSign_0) 8 rfl zddX12_needsSign_0 rfl
theorem dX12_needsSign_17 : decode cX12_needsSign 17 = .ok (.iconst 1, 1) := dq_get (L := lzddX12_needsSign_0) 9 rfl zddX12_needsSign_0 rfl
theorem dX12_needsSign_18 : decode cX12_needsSign 18 = .ok (.invokevirtual 145, 3) := dq_get (L := lzddX12_needsSign_0) 10 rfl zddX12_needsSign_0 rfl
theorem dX12_needsSign_21 : decode cX12_needsSign 21 = .ok (.aload_n 0, 1) := dq_get (L := lzddX12_needsSign_0) 11 rfl zddX12_needsSign_0 rfl
theorem dX12_needsSign_22 : decode cX12_needsSign 22 = .ok (.invokevirtual 142, 3) := dq_get (L := lzddX12_needsSign_0) 12 rfl zddX12_needsSign_0 rfl
theorem dX12_needsSign_25 : decode cX12_needsSign 25 = .ok (.return_, 1) := dq_get (L := lzddX12_needsSign_0) 13 rfl zddX12_needsSign_0 rfl
def lzddX12_nights_0 : List (Nat × Instr × Nat) := [(0, .aload_n 0, 1), (1, .iconst 0, 1), (2, .putfield 70, 3), (5, .aload_n 0, 1), (6, .getfield 385, 3), (9, .ifnonnull 9, 3), (12, .aload_n 0, 1), (13, .iconst 1, 1), (14, .invokevirtual 458, 3), (17, .ireturn, 1), (18, .iload_n 1, 1), (19, .iconst 0, 1), (20, .ldc_w 503, 3), (23, .invokestatic 149, 3), (26, .ifCond .eq 23, 3), (29, .iload_n 2, 1), (30, .iconst 1, 1), (31, .bipush 8, 2), (33, .invokestatic 149, 3), (36, .ifCond .eq 13, 3)]
theorem zddX12_nights_0 : dqW lzddX12_nights_0 (cX12_nights.data.toList.drop 0) 0 = true := by decide +kernel
theorem dX12_nights_0 : decode cX12_nights 0 = .ok (.aload_n 0, 1) := dq_get (L := lzddX12_nights_0) 0 rfl zddX12_nights_0 rfl
theorem dX12_nights_1 : decode cX12_nights 1 = .ok (.iconst 0, 1) := dq_get (L := lzddX12_nights_0) 1 rfl zddX12_nights_0 rfl
theorem dX12_nights_2 : decode cX12_nights 2 = .ok (.putfield 70, 3) := dq_get (L := lzddX12_nights_0) 2 rfl zddX12_nights_0 rfl
theorem dX12_nights_5 : decode cX12_nights 5 = .ok (.aload_n 0, 1) := dq_get (L := lzddX12_nights_0) 3 rfl zddX12_nights_0 rfl
theorem dX12_nights_6 : decode cX12_nights 6 = .ok (.getfield 385, 3) := dq_get (L := lzddX12_nights_0) 4 rfl zddX12_nights_0 rfl
theorem dX12_nights_9 : decode cX12_nights 9 = .ok (.ifnonnull 9, 3) := dq_get (L := lzddX12_nights_0) 5 rfl zddX12_nights_0 rfl
theorem dX12_nights_12 : decode cX12_nights 12 = .ok (.aload_n 0, 1) := dq_get (L := lzddX12_nights_0) 6 rfl zddX12_nights_0 rfl
theorem dX12_nights_13 : decode cX12_nights 13 = .ok (.iconst 1, 1) := dq_get (L := lzddX12_nights_0) 7 rfl zddX12_nights_0 rfl
theorem dX12_nights_14 : decode cX12_nights 14 = .ok (.invokevirtual 458, 3) := dq_get (L := lzddX12_nights_0) 8 rfl zddX12_nights_0 rfl
theorem dX12_nights_17 : decode cX12_nights 17 = .ok (.ireturn, 1) := dq_get (L := lzddX12_nights_0) 9 rfl zddX12_nights_0 rfl
theorem dX12_nights_18 : decode cX12_nights 18 = .ok (.iload_n 1, 1) := dq_get (L := lzddX12_nights_0) 10 rfl zddX12_nights_0 rfl
theorem dX12_nights_19 : decode cX12_nights 19 = .ok (.iconst 0, 1) := dq_get (L := lzddX12_nights_0) 11 rfl zddX12_nights_0 rfl
theorem dX12_nights_20 : decode cX12_nights 20 = .ok (.ldc_w 503, 3) := dq_get (L := lzddX12_nights_0) 12 rfl zddX12_nights_0 rfl
theorem dX12_nights_23 : decode cX12_nights 23 = .ok (.invokestatic 149, 3) := dq_get (L := lzddX12_nights_0) 13 rfl zddX12_nights_0 rfl
theorem dX12_nights_26 : decode cX12_nights 26 = .ok (.ifCond .eq 23, 3) := dq_get (L := lzddX12_nights_0) 14 rfl zddX12_nights_0 rfl
theorem dX12_nights_29 : decode cX12_nights 29 = .ok (.iload_n 2, 1) := dq_get (L := lzddX12_nights_0) 15 rfl zddX12_nights_0 rfl
theorem dX12_nights_30 : decode cX12_nights 30 = .ok (.iconst 1, 1) := dq_get (L := lzddX12_nights_0) 16 rfl zddX12_nights_0 rfl
theorem dX12_nights_31 : decode cX12_nights 31 = .ok (.bipush 8, 2) := dq_get (L := lzddX12_nights_0) 17 rfl zddX12_nights_0 rfl
theorem dX12_nights_33 : decode cX12_nights 33 = .ok (.invokestatic 149, 3) := dq_get (L := lzddX12_nights_0) 18 rfl zddX12_nights_0 rfl
theorem dX12_nights_36 : decode cX12_nights 36 = .ok (.ifCond .eq 13, 3) := dq_get (L := lzddX12_nights_0) 19 rfl zddX12_nights_0 rfl
def lzddX12_nights_39 : List (Nat × Instr × Nat) := [(39, .iload_n 3, 1), (40, .iconst 0, 1), (41, .bipush 6, 2), (43, .invokestatic 149, 3), (46, .ifCond .ne 9, 3), (49, .aload_n 0, 1), (50, .iconst 2, 1), (51, .invokevirtual 458, 3), (54, .ireturn, 1), (55, .iconst 0, 1), (56, .istore 4, 2), (58, .iload 4, 2), (60, .bipush 15, 2), (62, .if_icmp .ge 23, 3), (65, .aload_n 0, 1), (66, .getfield 67, 3), (69, .iload 4, 2), (71, .aload_n 0, 1), (72, .getfield 17, 3), (75, .iload 4, 2)]
theorem zddX12_nights_39 : dqW lzddX12_nights_39 (cX12_nights.data.toList.drop 39) 39 = true := by decide +kernel
theorem dX12_nights_39 : decode cX12_nights 39 = .ok (.iload_n 3, 1) := dq_get (L := lzddX12_nights_39) 0 rfl zddX12_nights_39 rfl
theorem dX12_nights_40 : decode cX12_nights 40 = .ok (.iconst 0, 1) := dq_get (L := lzddX12_nights_39) 1 rfl zddX12_nights_39 rfl
theorem dX12_nights_41 : decode cX12_nights 41 = .ok (.bipush 6, 2) := dq_get (L := lzddX12_nights_39) 2 rfl zddX12_nights_39 rfl
theorem dX12_nights_43 : decode cX12_nights 43 = .ok (.invokestatic 149, 3) := dq_get (L := lzddX12_nights_39) 3 rfl zddX12_nights_39 rfl
theorem dX12_nights_46 : decode cX12_nights 46 = .ok (.ifCond .ne 9, 3) := dq_get (L := lzddX12_nights_39) 4 rfl zddX12_nights_39 rfl
theorem dX12_nights_49 : decode cX12_nights 49 = .ok (.aload_n 0, 1) := dq_get (L := lzddX12_nights_39) 5 rfl zddX12_nights_39 rfl
theorem dX12_nights_50 : decode cX12_nights 50 = .ok (.iconst 2, 1) := dq_get (L := lzddX12_nights_39) 6 rfl zddX12_nights_39 rfl
theorem dX12_nights_51 : decode cX12_nights 51 = .ok (.invokevirtual 458, 3) := dq_get (L := lzddX12_nights_39) 7 rfl zddX12_nights_39 rfl
theorem dX12_nights_54 : decode cX12_nights 54 = .ok (.ireturn, 1) := dq_get (L := lzddX12_nights_39) 8 rfl zddX12_nights_39 rfl
theorem dX12_nights_55 : decode cX12_nights 55 = .ok (.iconst 0, 1) := dq_get (L := lzddX12_nights_39) 9 rfl zddX12_nights_39 rfl
theorem dX12_nights_56 : decode cX12_nights 56 = .ok (.istore 4, 2) := dq_get (L := lzddX12_nights_39) 10 rfl zddX12_nights_39 rfl
theorem dX12_nights_58 : decode cX12_nights 58 = .ok (.iload 4, 2) := dq_get (L := lzddX12_nights_39) 11 rfl zddX12_nights_39 rfl
theorem dX12_nights_60 : decode cX12_nights 60 = .ok (.bipush 15, 2) := dq_get (L := lzddX12_nights_39) 12 rfl zddX12_nights_39 rfl
theorem dX12_nights_62 : decode cX12_nights 62 = .ok (.if_icmp .ge 23, 3) := dq_get (L := lzddX12_nights_39) 13 rfl zddX12_nights_39 rfl
theorem dX12_nights_65 : decode cX12_nights 65 = .ok (.aload_n 0, 1) := dq_get (L := lzddX12_nights_39) 14 rfl zddX12_nights_39 rfl
theorem dX12_nights_66 : decode cX12_nights 66 = .ok (.getfield 67, 3) := dq_get (L := lzddX12_nights_39) 15 rfl zddX12_nights_39 rfl
theorem dX12_nights_69 : decode cX12_nights 69 = .ok (.iload 4, 2) := dq_get (L := lzddX12_nights_39) 16 rfl zddX12_nights_39 rfl
theorem dX12_nights_71 : decode cX12_nights 71 = .ok (.aload_n 0, 1) := dq_get (L := lzddX12_nights_39) 17 rfl zddX12_nights_39 rfl
theorem dX12_nights_72 : decode cX12_nights 72 = .ok (.getfield 17, 3) := dq_get (L := lzddX12_nights_39) 18 rfl zddX12_nights_39 rfl
theorem dX12_nights_75 : decode cX12_nights 75 = .ok (.iload 4, 2) := dq_get (L := lzddX12_nights_39) 19 rfl zddX12_nights_39 rfl
def lzddX12_nights_77 : List (Nat × Instr × Nat) := [(77, .iaload, 1), (78, .iastore, 1), (79, .iinc 4 1, 3), (82, .goto (-24), 3), (85, .aload_n 0, 1), (86, .getfield 17, 3), (89, .iconst 2, 1), (90, .iload_n 1, 1), (91, .iastore, 1), (92, .iconst 0, 1), (93, .istore 4, 2), (95, .iconst 0, 1), (96, .istore 5, 2), (98, .iload 5, 2), (100, .iload_n 2, 1), (101, .if_icmp .ge 45, 3), (104, .aload_n 0, 1), (105, .getfield 17, 3), (108, .iconst 1, 1), (109, .iconst 0, 1)]
theorem zddX12_nights_77 : dqW lzddX12_nights_77 (cX12_nights.data.toList.drop 77) 77 = true := by decide +kernel
theorem dX12_nights_77 : decode cX12_nights 77 = .ok (.iaload, 1) := dq_get (L := lzddX12_nights_77) 0 rfl zddX12_nights_77 rfl
theorem dX12_nights_78 : decode cX12_nights 78 = .ok (.iastore, 1) := dq_get (L := lzddX12_nights_77) 1 rfl zddX12_nights_77 rfl
theorem dX12_nights_79 : decode cX12_nights 79 = .ok (.iinc 4 1, 3) := dq_get (L := lzddX12_nights_77) 2 rfl zddX12_nights_77 rfl
theorem dX12_nights_82 : decode cX12_nights 82 = .ok (.goto (-24), 3) := dq_get (L := lzddX12_nights_77) 3 rfl zddX12_nights_77 rfl
theorem dX12_nights_85 : decode cX12_nights 85 = .ok (.aload_n 0, 1) := dq_get (L := lzddX12_nights_77) 4 rfl zddX12_nights_77 rfl
theorem dX12_nights_86 : decode cX12_nights 86 = .ok (.getfield 17, 3) := dq_get (L := lzddX12_nights_77) 5 rfl zddX12_nights_77 rfl
theorem dX12_nights_89 : decode cX12_nights 89 = .ok (.iconst 2, 1) := dq_get (L := lzddX12_nights_77) 6 rfl zddX12_nights_77 rfl
theorem dX12_nights_90 : decode cX12_nights 90 = .ok (.iload_n 1, 1) := dq_get (L := lzddX12_nights_77) 7 rfl zddX12_nights_77 rfl
theorem dX12_nights_91 : decode cX12_nights 91 = .ok (.iastore, 1) := dq_get (L := lzddX12_nights_77) 8 rfl zddX12_nights_77 rfl
theorem dX12_nights_92 : decode cX12_nights 92 = .ok (.iconst 0, 1) := dq_get (L := lzddX12_nights_77) 9 rfl zddX12_nights_77 rfl
theorem dX12_nights_93 : decode cX12_nights 93 = .ok (.istore 4, 2) := dq_get (L := lzddX12_nights_77) 10 rfl zddX12_nights_77 rfl
theorem dX12_nights_95 : decode cX12_nights 95 = .ok (.iconst 0, 1) := dq_get (L := lzddX12_nights_77) 11 rfl zddX12_nights_77 rfl
theorem dX12_nights_96 : decode cX12_nights 96 = .ok (.istore 5, 2) := dq_get (L := lzddX12_nights_77) 12 rfl zddX12_nights_77 rfl
theorem dX12_nights_98 : decode cX12_nights 98 = .ok (.iload 5, 2) := dq_get (L := lzddX12_nights_77) 13 rfl zddX12_nights_77 rfl
theorem dX12_nights_100 : decode cX12_nights 100 = .ok (.iload_n 2, 1) := dq_get (L := lzddX12_nights_77) 14 rfl zddX12_nights_77 rfl
theorem dX12_nights_101 : decode cX12_nights 101 = .ok (.if_icmp .ge 45, 3) := dq_get (L := lzddX12_nights_77) 15 rfl zddX12_nights_77 rfl
theorem dX12_nights_104 : decode cX12_nights 104 = .ok (.aload_n 0, 1) := dq_get (L := lzddX12_nights_77) 16 rfl zddX12_nights_77 rfl
theorem dX12_nights_105 : decode cX12_nights 105 = .ok (.getfield 17, 3) := dq_get (L := lzddX12_nights_77) 17 rfl zddX12_nights_77 rfl
theorem dX12_nights_108 : decode cX12_nights 108 = .ok (.iconst 1, 1) := dq_get (L := lzddX12_nights_77) 18 rfl zddX12_nights_77 rfl
theorem dX12_nights_109 : decode cX12_nights 109 = .ok (.iconst 0, 1) := dq_get (L := lzddX12_nights_77) 19 rfl zddX12_nights_77 rfl
def lzddX12_nights_110 : List (Nat × Instr × Nat) := [(110, .iastore, 1), (111, .iconst 0, 1), (112, .istore 6, 2), (114, .iload 6, 2), (116, .iload_n 3, 1), (117, .if_icmp .ge 14, 3), (120, .aload_n 0, 1), (121, .invokevirtual 504, 3), (124, .pop, 1), (125, .iinc 6 1, 3), (128, .goto (-14), 3), (131, .iload 4, 2), (133, .aload_n 0, 1), (134, .invokevirtual 455, 3), (137, .iadd, 1), (138, .istore 4, 2), (140, .iinc 5 1, 3), (143, .goto (-45), 3), (146, .iconst 0, 1), (147, .istore 5, 2)]
theorem zddX12_nights_110 : dqW lzddX12_nights_110 (cX12_nights.data.toList.drop 110) 110 = true := by decide +kernel
theorem dX12_nights_110 : decode cX12_nights 110 = .ok (.iastore, 1) := dq_get (L := lzddX12_nights_110) 0 rfl zddX12_nights_110 rfl
theorem dX12_nights_111 : decode cX12_nights 111 = .ok (.iconst 0, 1) := dq_get (L := lzddX12_nights_110) 1 rfl zddX12_nights_110 rfl
theorem dX12_nights_112 : decode cX12_nights 112 = .ok (.istore 6, 2) := dq_get (L := lzddX12_nights_110) 2 rfl zddX12_nights_110 rfl
theorem dX12_nights_114 : decode cX12_nights 114 = .ok (.iload 6, 2) := dq_get (L := lzddX12_nights_110) 3 rfl zddX12_nights_110 rfl
theorem dX12_nights_116 : decode cX12_nights 116 = .ok (.iload_n 3, 1) := dq_get (L := lzddX12_nights_110) 4 rfl zddX12_nights_110 rfl
theorem dX12_nights_117 : decode cX12_nights 117 = .ok (.if_icmp .ge 14, 3) := dq_get (L := lzddX12_nights_110) 5 rfl zddX12_nights_110 rfl
theorem dX12_nights_120 : decode cX12_nights 120 = .ok (.aload_n 0, 1) := dq_get (L := lzddX12_nights_110) 6 rfl zddX12_nights_110 rfl
theorem dX12_nights_121 : decode cX12_nights 121 = .ok (.invokevirtual 504, 3) := dq_get (L := lzddX12_nights_110) 7 rfl zddX12_nights_110 rfl
theorem dX12_nights_124 : decode cX12_nights 124 = .ok (.pop, 1) := dq_get (L := lzddX12_nights_110) 8 rfl zddX12_nights_110 rfl
theorem dX12_nights_125 : decode cX12_nights 125 = .ok (.iinc 6 1, 3) := dq_get (L := lzddX12_nights_110) 9 rfl zddX12_nights_110 rfl
theorem dX12_nights_128 : decode cX12_nights 128 = .ok (.goto (-14), 3) := dq_get (L := lzddX12_nights_110) 10 rfl zddX12_nights_110 rfl
theorem dX12_nights_131 : decode cX12_nights 131 = .ok (.iload 4, 2) := dq_get (L := lzddX12_nights_110) 11 rfl zddX12_nights_110 rfl
theorem dX12_nights_133 : decode cX12_nights 133 = .ok (.aload_n 0, 1) := dq_get (L := lzddX12_nights_110) 12 rfl zddX12_nights_110 rfl
theorem dX12_nights_134 : decode cX12_nights 134 = .ok (.invokevirtual 455, 3) := dq_get (L := lzddX12_nights_110) 13 rfl zddX12_nights_110 rfl
theorem dX12_nights_137 : decode cX12_nights 137 = .ok (.iadd, 1) := dq_get (L := lzddX12_nights_110) 14 rfl zddX12_nights_110 rfl
theorem dX12_nights_138 : decode cX12_nights 138 = .ok (.istore 4, 2) := dq_get (L := lzddX12_nights_110) 15 rfl zddX12_nights_110 rfl
theorem dX12_nights_140 : decode cX12_nights 140 = .ok (.iinc 5 1, 3) := dq_get (L := lzddX12_nights_110) 16 rfl zddX12_nights_110 rfl
theorem dX12_nights_143 : decode cX12_nights 143 = .ok (.goto (-45), 3) := dq_get (L := lzddX12_nights_110) 17 rfl zddX12_nights_110 rfl
theorem dX12_nights_146 : decode cX12_nights 146 = .ok (.iconst 0, 1) := dq_get (L := lzddX12_nights_110) 18 rfl zddX12_nights_110 rfl
theorem dX12_nights_147 : decode cX12_nights 147 = .ok (.istore 5, 2) := dq_get (L := lzddX12_nights_110) 19 rfl zddX12_nights_110 rfl
def lzddX12_nights_149 : List (Nat × Instr × Nat) := [(149, .iload 5, 2), (151, .bipush 15, 2), (153, .if_icmp .ge 23, 3), (156, .aload_n 0, 1), (157, .getfield 17, 3), (160, .iload 5, 2), (162, .aload_n 0, 1), (163, .getfield 67, 3), (166, .iload 5, 2), (168, .iaload, 1), (169, .iastore, 1), (170, .iinc 5 1, 3), (173, .goto (-24), 3), (176, .aload_n 0, 1), (177, .iload 4, 2), (179, .invokevirtual 81, 3), (182, .ireturn, 1)]
theorem zddX12_nights_149 : dqW lzddX12_nights_149 (cX12_nights.data.toList.drop 149) 149 = true := by decide +kernel
theorem dX12_nights_149 : decode cX12_nights 149 = .ok (.iload 5, 2) := dq_get (L := lzddX12_nights_149) 0 rfl zddX12_nights_149 rfl
theorem dX12_nights_151 : decode cX12_nights 151 = .ok (.bipush 15, 2) := dq_get (L := lzddX12_nights_149) 1 rfl zddX12_nights_149 rfl
theorem dX12_nights_153 : decode cX12_nights 153 = .ok (.if_icmp .ge 23, 3) := dq_get (L := lzddX12_nights_149) 2 rfl zddX12_nights_149 rfl
theorem dX12_nights_156 : decode cX12_nights 156 = .ok (.aload_n 0, 1) := dq_get (L := lzddX12_nights_149) 3 rfl zddX12_nights_149 rfl
theorem dX12_nights_157 : decode cX12_nights 157 = .ok (.getfield 17, 3) := dq_get (L := lzddX12_nights_149) 4 rfl zddX12_nights_149 rfl
theorem dX12_nights_160 : decode cX12_nights 160 = .ok (.iload 5, 2) := dq_get (L := lzddX12_nights_149) 5 rfl zddX12_nights_149 rfl
theorem dX12_nights_162 : decode cX12_nights 162 = .ok (.aload_n 0, 1) := dq_get (L := lzddX12_nights_149) 6 rfl zddX12_nights_149 rfl
theorem dX12_nights_163 : decode cX12_nights 163 = .ok (.getfield 67, 3) := dq_get (L := lzddX12_nights_149) 7 rfl zddX12_nights_149 rfl
theorem dX12_nights_166 : decode cX12_nights 166 = .ok (.iload 5, 2) := dq_get (L := lzddX12_nights_149) 8 rfl zddX12_nights_149 rfl
theorem dX12_nights_168 : decode cX12_nights 168 = .ok (.iaload, 1) := dq_get (L := lzddX12_nights_149) 9 rfl zddX12_nights_149 rfl
theorem dX12_nights_169 : decode cX12_nights 169 = .ok (.iastore, 1) := dq_get (L := lzddX12_nights_149) 10 rfl zddX12_nights_149 rfl
theorem dX12_nights_170 : decode cX12_nights 170 = .ok (.iinc 5 1, 3) := dq_get (L := lzddX12_nights_149) 11 rfl zddX12_nights_149 rfl
theorem dX12_nights_173 : decode cX12_nights 173 = .ok (.goto (-24), 3) := dq_get (L := lzddX12_nights_149) 12 rfl zddX12_nights_149 rfl
theorem dX12_nights_176 : decode cX12_nights 176 = .ok (.aload_n 0, 1) := dq_get (L := lzddX12_nights_149) 13 rfl zddX12_nights_149 rfl
theorem dX12_nights_177 : decode cX12_nights 177 = .ok (.iload 4, 2) := dq_get (L := lzddX12_nights_149) 14 rfl zddX12_nights_149 rfl
theorem dX12_nights_179 : decode cX12_nights 179 = .ok (.invokevirtual 81, 3) := dq_get (L := lzddX12_nights_149) 15 rfl zddX12_nights_149 rfl
theorem dX12_nights_182 : decode cX12_nights 182 = .ok (.ireturn, 1) := dq_get (L := lzddX12_nights_149) 16 rfl zddX12_nights_149 rfl
def lzddX12_notes_0 : List (Nat × Instr × Nat) := [(0, .aload_n 0, 1), (1, .getfield 385, 3), (4, .getfield 296, 3), (7, .iload_n 1, 1), (8, .iaload, 1), (9, .istore_n 3, 1), (10, .aload_n 0, 1), (11, .getfield 46, 3), (14, .sipush 240, 3), (17, .iload_n 1, 1), (18, .imul, 1), (19, .iload_n 2, 1), (20, .iadd, 1), (21, .iaload, 1), (22, .bipush (-2), 2), (24, .if_icmp .eq 7, 3), (27, .iconst 1, 1), (28, .goto 4, 3), (31, .iconst 0, 1), (32, .istore 4, 2)]
theorem zddX12_notes_0 : dqW lzddX12_notes_0 (cX12_notes.data.toList.drop 0) 0 = true := by decide +kernel
theorem dX12_notes_0 : decode cX12_notes 0 = .ok (.aload_n 0, 1) := dq_get (L := lzddX12_notes_0) 0 rfl zddX12_notes_0 rfl
theorem dX12_notes_1 : decode cX12_notes 1 = .ok (.getfield 385, 3) := dq_get (L := lzddX12_notes_0) 1 rfl zddX12_notes_0 rfl
theorem dX12_notes_4 : decode cX12_notes 4 = .ok (.getfield 296, 3) := dq_get (L := lzddX12_notes_0) 2 rfl zddX12_notes_0 rfl
theorem dX12_notes_7 : decode cX12_notes 7 = .ok (.iload_n 1, 1) := dq_get (L := lzddX12_notes_0) 3 rfl zddX12_notes_0 rfl
theorem dX12_notes_8 : decode cX12_notes 8 = .ok (.iaload, 1) := dq_get (L := lzddX12_notes_0) 4 rfl zddX12_notes_0 rfl
theorem dX12_notes_9 : decode cX12_notes 9 = .ok (.istore_n 3, 1) := dq_get (L := lzddX12_notes_0) 5 rfl zddX12_notes_0 rfl
theorem dX12_notes_10 : decode cX12_notes 10 = .ok (.aload_n 0, 1) := dq_get (L := lzddX12_notes_0) 6 rfl zddX12_notes_0 rfl
theorem dX12_notes_11 : decode cX12_notes 11 = .ok (.getfield 46, 3) := dq_get (L := lzddX12_notes_0) 7 rfl zddX12_notes_0 rfl
theorem dX12_notes_14 : decode cX12_notes 14 = .ok (.sipush 240, 3) := dq_get (L := lzddX12_notes_0) 8 rfl zddX12_notes_0 rfl
theorem dX12_notes_17 : decode cX12_notes 17 = .ok (.iload_n 1, 1) := dq_get (L := lzddX12_notes_0) 9 rfl zddX12_notes_0 rfl
theorem dX12_notes_18 : decode cX12_notes 18 = .ok (.imul, 1) := dq_get (L := lzddX12_notes_0) 10 rfl zddX12_notes_0 rfl
theorem dX12_notes_19 : decode cX12_notes 19 = .ok (.iload_n 2, 1) := dq_get (L := lzddX12_notes_0) 11 rfl zddX12_notes_0 rfl
theorem dX12_notes_20 : decode cX12_notes 20 = .ok (.iadd, 1) := dq_get (L := lzddX12_notes_0) 12 rfl zddX12_notes_0 rfl
theorem dX12_notes_21 : decode cX12_notes 21 = .ok (.iaload, 1) := dq_get (L := lzddX12_notes_0) 13 rfl zddX12_notes_0 rfl
theorem dX12_notes_22 : decode cX12_notes 22 = .ok (.bipush (-2), 2) := dq_get (L := lzddX12_notes_0) 14 rfl zddX12_notes_0 rfl
theorem dX12_notes_24 : decode cX12_notes 24 = .ok (.if_icmp .eq 7, 3) := dq_get (L := lzddX12_notes_0) 15 rfl zddX12_notes_0 rfl
theorem dX12_notes_27 : decode cX12_notes 27 = .ok (.iconst 1, 1) := dq_get (L := lzddX12_notes_0) 16 rfl zddX12_notes_0 rfl
theorem dX12_notes_28 : decode cX12_notes 28 = .ok (.goto 4, 3) := dq_get (L := lzddX12_notes_0) 17 rfl zddX12_notes_0 rfl
theorem dX12_notes_31 : decode cX12_notes 31 = .ok (.iconst 0, 1) := dq_get (L := lzddX12_notes_0) 18 rfl zddX12_notes_0 rfl
theorem dX12_notes_32 : decode cX12_notes 32 = .ok (.istore 4, 2) := dq_get (L := lzddX12_notes_0) 19 rfl zddX12_notes_0 rfl
def lzddX12_notes_34 : List (Nat × Instr × Nat) := [(34, .iload_n 2, 1), (35, .ifCond .ne 23, 3), (38, .aload_n 0, 1), (39, .getfield 385, 3), (42, .getfield 299, 3), (45, .iload_n 1, 1), (46, .baload, 1), (47, .ifCond .ne 7, 3), (50, .iconst 1, 1), (51, .goto 21, 3), (54, .iconst 0, 1), (55, .goto 17, 3), (58, .aload_n 0, 1), (59, .getfield 64, 3), (62, .sipush 240, 3), (65, .iload_n 1, 1), (66, .imul, 1), (67, .iload_n 2, 1), (68, .iadd, 1), (69, .iconst 1, 1)]
theorem zddX12_notes_34 : dqW lzddX12_notes_34 (cX12_notes.data.toList.drop 34) 34 = true := by decide +kernel
theorem dX12_notes_34 : decode cX12_notes 34 = .ok (.iload_n 2, 1) := dq_get (L := lzddX12_notes_34) 0 rfl zddX12_notes_34 rfl
theorem dX12_notes_35 : decode cX12_notes 35 = .ok (.ifCond .ne 23, 3) := dq_get (L := lzddX12_notes_34) 1 rfl zddX12_notes_34 rfl
theorem dX12_notes_38 : decode cX12_notes 38 = .ok (.aload_n 0, 1) := dq_get (L := lzddX12_notes_34) 2 rfl zddX12_notes_34 rfl
theorem dX12_notes_39 : decode cX12_notes 39 = .ok (.getfield 385, 3) := dq_get (L := lzddX12_notes_34) 3 rfl zddX12_notes_34 rfl
theorem dX12_notes_42 : decode cX12_notes 42 = .ok (.getfield 299, 3) := dq_get (L := lzddX12_notes_34) 4 rfl zddX12_notes_34 rfl
theorem dX12_notes_45 : decode cX12_notes 45 = .ok (.iload_n 1, 1) := dq_get (L := lzddX12_notes_34) 5 rfl zddX12_notes_34 rfl
theorem dX12_notes_46 : decode cX12_notes 46 = .ok (.baload, 1) := dq_get (L := lzddX12_notes_34) 6 rfl zddX12_notes_34 rfl
theorem dX12_notes_47 : decode cX12_notes 47 = .ok (.ifCond .ne 7, 3) := dq_get (L := lzddX12_notes_34) 7 rfl zddX12_notes_34 rfl
theorem dX12_notes_50 : decode cX12_notes 50 = .ok (.iconst 1, 1) := dq_get (L := lzddX12_notes_34) 8 rfl zddX12_notes_34 rfl
theorem dX12_notes_51 : decode cX12_notes 51 = .ok (.goto 21, 3) := dq_get (L := lzddX12_notes_34) 9 rfl zddX12_notes_34 rfl
theorem dX12_notes_54 : decode cX12_notes 54 = .ok (.iconst 0, 1) := dq_get (L := lzddX12_notes_34) 10 rfl zddX12_notes_34 rfl
theorem dX12_notes_55 : decode cX12_notes 55 = .ok (.goto 17, 3) := dq_get (L := lzddX12_notes_34) 11 rfl zddX12_notes_34 rfl
theorem dX12_notes_58 : decode cX12_notes 58 = .ok (.aload_n 0, 1) := dq_get (L := lzddX12_notes_34) 12 rfl zddX12_notes_34 rfl
theorem dX12_notes_59 : decode cX12_notes 59 = .ok (.getfield 64, 3) := dq_get (L := lzddX12_notes_34) 13 rfl zddX12_notes_34 rfl
theorem dX12_notes_62 : decode cX12_notes 62 = .ok (.sipush 240, 3) := dq_get (L := lzddX12_notes_34) 14 rfl zddX12_notes_34 rfl
theorem dX12_notes_65 : decode cX12_notes 65 = .ok (.iload_n 1, 1) := dq_get (L := lzddX12_notes_34) 15 rfl zddX12_notes_34 rfl
theorem dX12_notes_66 : decode cX12_notes 66 = .ok (.imul, 1) := dq_get (L := lzddX12_notes_34) 16 rfl zddX12_notes_34 rfl
theorem dX12_notes_67 : decode cX12_notes 67 = .ok (.iload_n 2, 1) := dq_get (L := lzddX12_notes_34) 17 rfl zddX12_notes_34 rfl
theorem dX12_notes_68 : decode cX12_notes 68 = .ok (.iadd, 1) := dq_get (L := lzddX12_notes_34) 18 rfl zddX12_notes_34 rfl
theorem dX12_notes_69 : decode cX12_notes 69 = .ok (.iconst 1, 1) := dq_get (L := lzddX12_notes_34) 19 rfl zddX12_notes_34 rfl
def lzddX12_notes_70 : List (Nat × Instr × Nat) := [(70, .isub, 1), (71, .baload, 1), (72, .istore 5, 2), (74, .aload_n 0, 1), (75, .getfield 64, 3), (78, .sipush 240, 3), (81, .iload_n 1, 1), (82, .imul, 1), (83, .iload_n 2, 1), (84, .iadd, 1), (85, .iload 5, 2), (87, .iload 4, 2), (89, .if_icmp .eq 7, 3), (92, .iconst 1, 1), (93, .goto 4, 3), (96, .iconst 0, 1), (97, .bastore, 1), (98, .aload_n 0, 1), (99, .iload_n 3, 1), (100, .iload_n 2, 1)]
theorem zddX12_notes_70 : dqW lzddX12_notes_70 (cX12_notes.data.toList.drop 70) 70 = true := by decide +kernel
theorem dX12_notes_70 : decode cX12_notes 70 = .ok (.isub, 1) := dq_get (L := lzddX12_notes_70) 0 rfl zddX12_notes_70 rfl
theorem dX12_notes_71 : decode cX12_notes 71 = .ok (.baload, 1) := dq_get (L := lzddX12_notes_70) 1 rfl zddX12_notes_70 rfl
theorem dX12_notes_72 : decode cX12_notes 72 = .ok (.istore 5, 2) := dq_get (L := lzddX12_notes_70) 2 rfl zddX12_notes_70 rfl
theorem dX12_notes_74 : decode cX12_notes 74 = .ok (.aload_n 0, 1) := dq_get (L := lzddX12_notes_70) 3 rfl zddX12_notes_70 rfl
theorem dX12_notes_75 : decode cX12_notes 75 = .ok (.getfield 64, 3) := dq_get (L := lzddX12_notes_70) 4 rfl zddX12_notes_70 rfl
theorem dX12_notes_78 : decode cX12_notes 78 = .ok (.sipush 240, 3) := dq_get (L := lzddX12_notes_70) 5 rfl zddX12_notes_70 rfl
theorem dX12_notes_81 : decode cX12_notes 81 = .ok (.iload_n 1, 1) := dq_get (L := lzddX12_notes_70) 6 rfl zddX12_notes_70 rfl
theorem dX12_notes_82 : decode cX12_notes 82 = .ok (.imul, 1) := dq_get (L := lzddX12_notes_70) 7 rfl zddX12_notes_70 rfl
theorem dX12_notes_83 : decode cX12_notes 83 = .ok (.iload_n 2, 1) := dq_get (L := lzddX12_notes_70) 8 rfl zddX12_notes_70 rfl
theorem dX12_notes_84 : decode cX12_notes 84 = .ok (.iadd, 1) := dq_get (L := lzddX12_notes_70) 9 rfl zddX12_notes_70 rfl
theorem dX12_notes_85 : decode cX12_notes 85 = .ok (.iload 5, 2) := dq_get (L := lzddX12_notes_70) 10 rfl zddX12_notes_70 rfl
theorem dX12_notes_87 : decode cX12_notes 87 = .ok (.iload 4, 2) := dq_get (L := lzddX12_notes_70) 11 rfl zddX12_notes_70 rfl
theorem dX12_notes_89 : decode cX12_notes 89 = .ok (.if_icmp .eq 7, 3) := dq_get (L := lzddX12_notes_70) 12 rfl zddX12_notes_70 rfl
theorem dX12_notes_92 : decode cX12_notes 92 = .ok (.iconst 1, 1) := dq_get (L := lzddX12_notes_70) 13 rfl zddX12_notes_70 rfl
theorem dX12_notes_93 : decode cX12_notes 93 = .ok (.goto 4, 3) := dq_get (L := lzddX12_notes_70) 14 rfl zddX12_notes_70 rfl
theorem dX12_notes_96 : decode cX12_notes 96 = .ok (.iconst 0, 1) := dq_get (L := lzddX12_notes_70) 15 rfl zddX12_notes_70 rfl
theorem dX12_notes_97 : decode cX12_notes 97 = .ok (.bastore, 1) := dq_get (L := lzddX12_notes_70) 16 rfl zddX12_notes_70 rfl
theorem dX12_notes_98 : decode cX12_notes 98 = .ok (.aload_n 0, 1) := dq_get (L := lzddX12_notes_70) 17 rfl zddX12_notes_70 rfl
theorem dX12_notes_99 : decode cX12_notes 99 = .ok (.iload_n 3, 1) := dq_get (L := lzddX12_notes_70) 18 rfl zddX12_notes_70 rfl
theorem dX12_notes_100 : decode cX12_notes 100 = .ok (.iload_n 2, 1) := dq_get (L := lzddX12_notes_70) 19 rfl zddX12_notes_70 rfl
def lzddX12_notes_101 : List (Nat × Instr × Nat) := [(101, .invokevirtual 413, 3), (104, .istore 6, 2), (106, .iload 4, 2), (108, .ifCond .eq 18, 3), (111, .iload 6, 2), (113, .ifCond .eq 13, 3), (116, .aload_n 0, 1), (117, .getfield 52, 3), (120, .iload_n 1, 1), (121, .dup2, 1), (122, .iaload, 1), (123, .iconst 1, 1), (124, .iadd, 1), (125, .iastore, 1), (126, .iload 4, 2), (128, .ifCond .eq 18, 3), (131, .iload 6, 2), (133, .ifCond .ne 13, 3), (136, .aload_n 0, 1), (137, .getfield 58, 3)]
theorem zddX12_notes_101 : dqW lzddX12_notes_101 (cX12_notes.data.toList.drop 101) 101 = true := by decide +kernel
theorem dX12_notes_101 : decode cX12_notes 101 = .ok (.invokevirtual 413, 3) := dq_get (L := lzddX12_notes_101) 0 rfl zddX12_notes_101 rfl
theorem dX12_notes_104 : decode cX12_notes 104 = .ok (.istore 6, 2) := dq_get (L := lzddX12_notes_101) 1 rfl zddX12_notes_101 rfl
theorem dX12_notes_106 : decode cX12_notes 106 = .ok (.iload 4, 2) := dq_get (L := lzddX12_notes_101) 2 rfl zddX12_notes_101 rfl
theorem dX12_notes_108 : decode cX12_notes 108 = .ok (.ifCond .eq 18, 3) := dq_get (L := lzddX12_notes_101) 3 rfl zddX12_notes_101 rfl
theorem dX12_notes_111 : decode cX12_notes 111 = .ok (.iload 6, 2) := dq_get (L := lzddX12_notes_101) 4 rfl zddX12_notes_101 rfl
theorem dX12_notes_113 : decode cX12_notes 113 = .ok (.ifCond .eq 13, 3) := dq_get (L := lzddX12_notes_101) 5 rfl zddX12_notes_101 rfl
theorem dX12_notes_116 : decode cX12_notes 116 = .ok (.aload_n 0, 1) := dq_get (L := lzddX12_notes_101) 6 rfl zddX12_notes_101 rfl
theorem dX12_notes_117 : decode cX12_notes 117 = .ok (.getfield 52, 3) := dq_get (L := lzddX12_notes_101) 7 rfl zddX12_notes_101 rfl
theorem dX12_notes_120 : decode cX12_notes 120 = .ok (.iload_n 1, 1) := dq_get (L := lzddX12_notes_101) 8 rfl zddX12_notes_101 rfl
theorem dX12_notes_121 : decode cX12_notes 121 = .ok (.dup2, 1) := dq_get (L := lzddX12_notes_101) 9 rfl zddX12_notes_101 rfl
theorem dX12_notes_122 : decode cX12_notes 122 = .ok (.iaload, 1) := dq_get (L := lzddX12_notes_101) 10 rfl zddX12_notes_101 rfl
theorem dX12_notes_123 : decode cX12_notes 123 = .ok (.iconst 1, 1) := dq_get (L := lzddX12_notes_101) 11 rfl zddX12_notes_101 rfl
theorem dX12_notes_124 : decode cX12_notes 124 = .ok (.iadd, 1) := dq_get (L := lzddX12_notes_101) 12 rfl zddX12_notes_101 rfl
theorem dX12_notes_125 : decode cX12_notes 125 = .ok (.iastore, 1) := dq_get (L := lzddX12_notes_101) 13 rfl zddX12_notes_101 rfl
theorem dX12_notes_126 : decode cX12_notes 126 = .ok (.iload 4, 2) := dq_get (L := lzddX12_notes_101) 14 rfl zddX12_notes_101 rfl
theorem dX12_notes_128 : decode cX12_notes 128 = .ok (.ifCond .eq 18, 3) := dq_get (L := lzddX12_notes_101) 15 rfl zddX12_notes_101 rfl
theorem dX12_notes_131 : decode cX12_notes 131 = .ok (.iload 6, 2) := dq_get (L := lzddX12_notes_101) 16 rfl zddX12_notes_101 rfl
theorem dX12_notes_133 : decode cX12_notes 133 = .ok (.ifCond .ne 13, 3) := dq_get (L := lzddX12_notes_101) 17 rfl zddX12_notes_101 rfl
theorem dX12_notes_136 : decode cX12_notes 136 = .ok (.aload_n 0, 1) := dq_get (L := lzddX12_notes_101) 18 rfl zddX12_notes_101 rfl
theorem dX12_notes_137 : decode cX12_notes 137 = .ok (.getfield 58, 3) := dq_get (L := lzddX12_notes_101) 19 rfl zddX12_notes_101 rfl
def lzddX12_notes_140 : List (Nat × Instr × Nat) := [(140, .iload_n 1, 1), (141, .dup2, 1), (142, .iaload, 1), (143, .iconst 1, 1), (144, .iadd, 1), (145, .iastore, 1), (146, .iload 4, 2), (148, .ifCond .ne 18, 3), (151, .iload 6, 2), (153, .ifCond .eq 13, 3), (156, .aload_n 0, 1), (157, .getfield 55, 3), (160, .iload_n 1, 1), (161, .dup2, 1), (162, .iaload, 1), (163, .iconst 1, 1), (164, .iadd, 1), (165, .iastore, 1), (166, .aload_n 0, 1), (167, .getfield 40, 3)]
theorem zddX12_notes_140 : dqW lzddX12_notes_140 (cX12_notes.data.toList.drop 140) 140 = true := by decide +kernel
theorem dX12_notes_140 : decode cX12_notes 140 = .ok (.iload_n 1, 1) := dq_get (L := lzddX12_notes_140) 0 rfl zddX12_notes_140 rfl
theorem dX12_notes_141 : decode cX12_notes 141 = .ok (.dup2, 1) := dq_get (L := lzddX12_notes_140) 1 rfl zddX12_notes_140 rfl
theorem dX12_notes_142 : decode cX12_notes 142 = .ok (.iaload, 1) := dq_get (L := lzddX12_notes_140) 2 rfl zddX12_notes_140 rfl
theorem dX12_notes_143 : decode cX12_notes 143 = .ok (.iconst 1, 1) := dq_get (L := lzddX12_notes_140) 3 rfl zddX12_notes_140 rfl
theorem dX12_notes_144 : decode cX12_notes 144 = .ok (.iadd, 1) := dq_get (L := lzddX12_notes_140) 4 rfl zddX12_notes_140 rfl
theorem dX12_notes_145 : decode cX12_notes 145 = .ok (.iastore, 1) := dq_get (L := lzddX12_notes_140) 5 rfl zddX12_notes_140 rfl
theorem dX12_notes_146 : decode cX12_notes 146 = .ok (.iload 4, 2) := dq_get (L := lzddX12_notes_140) 6 rfl zddX12_notes_140 rfl
theorem dX12_notes_148 : decode cX12_notes 148 = .ok (.ifCond .ne 18, 3) := dq_get (L := lzddX12_notes_140) 7 rfl zddX12_notes_140 rfl
theorem dX12_notes_151 : decode cX12_notes 151 = .ok (.iload 6, 2) := dq_get (L := lzddX12_notes_140) 8 rfl zddX12_notes_140 rfl
theorem dX12_notes_153 : decode cX12_notes 153 = .ok (.ifCond .eq 13, 3) := dq_get (L := lzddX12_notes_140) 9 rfl zddX12_notes_140 rfl
theorem dX12_notes_156 : decode cX12_notes 156 = .ok (.aload_n 0, 1) := dq_get (L := lzddX12_notes_140) 10 rfl zddX12_notes_140 rfl
theorem dX12_notes_157 : decode cX12_notes 157 = .ok (.getfield 55, 3) := dq_get (L := lzddX12_notes_140) 11 rfl zddX12_notes_140 rfl
theorem dX12_notes_160 : decode cX12_notes 160 = .ok (.iload_n 1, 1) := dq_get (L := lzddX12_notes_140) 12 rfl zddX12_notes_140 rfl
theorem dX12_notes_161 : decode cX12_notes 161 = .ok (.dup2, 1) := dq_get (L := lzddX12_notes_140) 13 rfl zddX12_notes_140 rfl
theorem dX12_notes_162 : decode cX12_notes 162 = .ok (.iaload, 1) := dq_get (L := lzddX12_notes_140) 14 rfl zddX12_notes_140 rfl
theorem dX12_notes_163 : decode cX12_notes 163 = .ok (.iconst 1, 1) := dq_get (L := lzddX12_notes_140) 15 rfl zddX12_notes_140 rfl
theorem dX12_notes_164 : decode cX12_notes 164 = .ok (.iadd, 1) := dq_get (L := lzddX12_notes_140) 16 rfl zddX12_notes_140 rfl
theorem dX12_notes_165 : decode cX12_notes 165 = .ok (.iastore, 1) := dq_get (L := lzddX12_notes_140) 17 rfl zddX12_notes_140 rfl
theorem dX12_notes_166 : decode cX12_notes 166 = .ok (.aload_n 0, 1) := dq_get (L := lzddX12_notes_140) 18 rfl zddX12_notes_140 rfl
theorem dX12_notes_167 : decode cX12_notes 167 = .ok (.getfield 40, 3) := dq_get (L := lzddX12_notes_140) 19 rfl zddX12_notes_140 rfl
def lzddX12_notes_170 : List (Nat × Instr × Nat) := [(170, .iload_n 2, 1), (171, .baload, 1), (172, .ifCond .eq 52, 3), (175, .aload_n 0, 1), (176, .getfield 37, 3), (179, .iload_n 2, 1), (180, .baload, 1), (181, .ifCond .ne 43, 3), (184, .aload_n 0, 1), (185, .getfield 43, 3), (188, .sipush 240, 3), (191, .iload_n 3, 1), (192, .imul, 1), (193, .iload_n 2, 1), (194, .iadd, 1), (195, .baload, 1), (196, .ifCond .ne 28, 3), (199, .aload_n 0, 1), (200, .getfield 64, 3), (203, .sipush 240, 3)]
theorem zddX12_notes_170 : dqW lzddX12_notes_170 (cX12_notes.data.toList.drop 170) 170 = true := by decide +kernel
theorem dX12_notes_170 : decode cX12_notes 170 = .ok (.iload_n 2, 1) := dq_get (L := lzddX12_notes_170) 0 rfl zddX12_notes_170 rfl
theorem dX12_notes_171 : decode cX12_notes 171 = .ok (.baload, 1) := dq_get (L := lzddX12_notes_170) 1 rfl zddX12_notes_170 rfl
theorem dX12_notes_172 : decode cX12_notes 172 = .ok (.ifCond .eq 52, 3) := dq_get (L := lzddX12_notes_170) 2 rfl zddX12_notes_170 rfl
theorem dX12_notes_175 : decode cX12_notes 175 = .ok (.aload_n 0, 1) := dq_get (L := lzddX12_notes_170) 3 rfl zddX12_notes_170 rfl
theorem dX12_notes_176 : decode cX12_notes 176 = .ok (.getfield 37, 3) := dq_get (L := lzddX12_notes_170) 4 rfl zddX12_notes_170 rfl
theorem dX12_notes_179 : decode cX12_notes 179 = .ok (.iload_n 2, 1) := dq_get (L := lzddX12_notes_170) 5 rfl zddX12_notes_170 rfl
theorem dX12_notes_180 : decode cX12_notes 180 = .ok (.baload, 1) := dq_get (L := lzddX12_notes_170) 6 rfl zddX12_notes_170 rfl
theorem dX12_notes_181 : decode cX12_notes 181 = .ok (.ifCond .ne 43, 3) := dq_get (L := lzddX12_notes_170) 7 rfl zddX12_notes_170 rfl
theorem dX12_notes_184 : decode cX12_notes 184 = .ok (.aload_n 0, 1) := dq_get (L := lzddX12_notes_170) 8 rfl zddX12_notes_170 rfl
theorem dX12_notes_185 : decode cX12_notes 185 = .ok (.getfield 43, 3) := dq_get (L := lzddX12_notes_170) 9 rfl zddX12_notes_170 rfl
theorem dX12_notes_188 : decode cX12_notes 188 = .ok (.sipush 240, 3) := dq_get (L := lzddX12_notes_170) 10 rfl zddX12_notes_170 rfl
theorem dX12_notes_191 : decode cX12_notes 191 = .ok (.iload_n 3, 1) := dq_get (L := lzddX12_notes_170) 11 rfl zddX12_notes_170 rfl
theorem dX12_notes_192 : decode cX12_notes 192 = .ok (.imul, 1) := dq_get (L := lzddX12_notes_170) 12 rfl zddX12_notes_170 rfl
theorem dX12_notes_193 : decode cX12_notes 193 = .ok (.iload_n 2, 1) := dq_get (L := lzddX12_notes_170) 13 rfl zddX12_notes_170 rfl
theorem dX12_notes_194 : decode cX12_notes 194 = .ok (.iadd, 1) := dq_get (L := lzddX12_notes_170) 14 rfl zddX12_notes_170 rfl
theorem dX12_notes_195 : decode cX12_notes 195 = .ok (.baload, 1) := dq_get (L := lzddX12_notes_170) 15 rfl zddX12_notes_170 rfl
theorem dX12_notes_196 : decode cX12_notes 196 = .ok (.ifCond .ne 28, 3) := dq_get (L := lzddX12_notes_170) 16 rfl zddX12_notes_170 rfl
theorem dX12_notes_199 : decode cX12_notes 199 = .ok (.aload_n 0, 1) := dq_get (L := lzddX12_notes_170) 17 rfl zddX12_notes_170 rfl
theorem dX12_notes_200 : decode cX12_notes 200 = .ok (.getfield 64, 3) := dq_get (L := lzddX12_notes_170) 18 rfl zddX12_notes_170 rfl
theorem dX12_notes_203 : decode cX12_notes 203 = .ok (.sipush 240, 3) := dq_get (L := lzddX12_notes_170) 19 rfl zddX12_notes_170 rfl
def lzddX12_notes_206 : List (Nat × Instr × Nat) := [(206, .iload_n 1, 1), (207, .imul, 1), (208, .iload_n 2, 1), (209, .iadd, 1), (210, .baload, 1), (211, .ifCond .eq 13, 3), (214, .aload_n 0, 1), (215, .getfield 61, 3), (218, .iload_n 1, 1), (219, .dup2, 1), (220, .iaload, 1), (221, .iconst 1, 1), (222, .iadd, 1), (223, .iastore, 1), (224, .return_, 1)]
theorem zddX12_notes_206 : dqW lzddX12_notes_206 (cX12_notes.data.toList.drop 206) 206 = true := by decide +kernel
theorem dX12_notes_206 : decode cX12_notes 206 = .ok (.iload_n 1, 1) := dq_get (L := lzddX12_notes_206) 0 rfl zddX12_notes_206 rfl
theorem dX12_notes_207 : decode cX12_notes 207 = .ok (.imul, 1) := dq_get (L := lzddX12_notes_206) 1 rfl zddX12_notes_206 rfl
theorem dX12_notes_208 : decode cX12_notes 208 = .ok (.iload_n 2, 1) := dq_get (L := lzddX12_notes_206) 2 rfl zddX12_notes_206 rfl
theorem dX12_notes_209 : decode cX12_notes 209 = .ok (.iadd, 1) := dq_get (L := lzddX12_notes_206) 3 rfl zddX12_notes_206 rfl
theorem dX12_notes_210 : decode cX12_notes 210 = .ok (.baload, 1) := dq_get (L := lzddX12_notes_206) 4 rfl zddX12_notes_206 rfl
theorem dX12_notes_211 : decode cX12_notes 211 = .ok (.ifCond .eq 13, 3) := dq_get (L := lzddX12_notes_206) 5 rfl zddX12_notes_206 rfl
theorem dX12_notes_214 : decode cX12_notes 214 = .ok (.aload_n 0, 1) := dq_get (L := lzddX12_notes_206) 6 rfl zddX12_notes_206 rfl
theorem dX12_notes_215 : decode cX12_notes 215 = .ok (.getfield 61, 3) := dq_get (L := lzddX12_notes_206) 7 rfl zddX12_notes_206 rfl
theorem dX12_notes_218 : decode cX12_notes 218 = .ok (.iload_n 1, 1) := dq_get (L := lzddX12_notes_206) 8 rfl zddX12_notes_206 rfl
theorem dX12_notes_219 : decode cX12_notes 219 = .ok (.dup2, 1) := dq_get (L := lzddX12_notes_206) 9 rfl zddX12_notes_206 rfl
theorem dX12_notes_220 : decode cX12_notes 220 = .ok (.iaload, 1) := dq_get (L := lzddX12_notes_206) 10 rfl zddX12_notes_206 rfl
theorem dX12_notes_221 : decode cX12_notes 221 = .ok (.iconst 1, 1) := dq_get (L := lzddX12_notes_206) 11 rfl zddX12_notes_206 rfl
theorem dX12_notes_222 : decode cX12_notes 222 = .ok (.iadd, 1) := dq_get (L := lzddX12_notes_206) 12 rfl zddX12_notes_206 rfl
theorem dX12_notes_223 : decode cX12_notes 223 = .ok (.iastore, 1) := dq_get (L := lzddX12_notes_206) 13 rfl zddX12_notes_206 rfl
theorem dX12_notes_224 : decode cX12_notes 224 = .ok (.return_, 1) := dq_get (L := lzddX12_notes_206) 14 rfl zddX12_notes_206 rfl
def lzddX12_notices_0 : List (Nat × Instr × Nat) := [(0, .aload_n 0, 1), (1, .iconst 0, 1), (2, .putfield 70, 3), (5, .aload_n 0, 1), (6, .iload_n 1, 1), (7, .invokevirtual 452, 3), (10, .ifCond .eq 11, 3), (13, .aload_n 0, 1), (14, .iload_n 2, 1), (15, .invokevirtual 446, 3), (18, .ifCond .ne 9, 3), (21, .aload_n 0, 1), (22, .iconst 1, 1), (23, .invokevirtual 76, 3), (26, .ireturn, 1), (27, .aload_n 0, 1), (28, .iload_n 3, 1), (29, .invokevirtual 443, 3), (32, .ifCond .ne 9, 3), (35, .aload_n 0, 1)]
theorem zddX12_notices_0 : dqW lzddX12_notices_0 (cX12_notices.data.toList.drop 0) 0 = true := by decide +kernel
theorem dX12_notices_0 : decode cX12_notices 0 = .ok (.aload_n 0, 1) := dq_get (L := lzddX12_notices_0) 0 rfl zddX12_notices_0 rfl
theorem dX12_notices_1 : decode cX12_notices 1 = .ok (.iconst 0, 1) := dq_get (L := lzddX12_notices_0) 1 rfl zddX12_notices_0 rfl
theorem dX12_notices_2 : decode cX12_notices 2 = .ok (.putfield 70, 3) := dq_get (L := lzddX12_notices_0) 2 rfl zddX12_notices_0 rfl
theorem dX12_notices_5 : decode cX12_notices 5 = .ok (.aload_n 0, 1) := dq_get (L := lzddX12_notices_0) 3 rfl zddX12_notices_0 rfl
theorem dX12_notices_6 : decode cX12_notices 6 = .ok (.iload_n 1, 1) := dq_get (L := lzddX12_notices_0) 4 rfl zddX12_notices_0 rfl
theorem dX12_notices_7 : decode cX12_notices 7 = .ok (.invokevirtual 452, 3) := dq_get (L := lzddX12_notices_0) 5 rfl zddX12_notices_0 rfl
theorem dX12_notices_10 : decode cX12_notices 10 = .ok (.ifCond .eq 11, 3) := dq_get (L := lzddX12_notices_0) 6 rfl zddX12_notices_0 rfl
theorem dX12_notices_13 : decode cX12_notices 13 = .ok (.aload_n 0, 1) := dq_get (L := lzddX12_notices_0) 7 rfl zddX12_notices_0 rfl
theorem dX12_notices_14 : decode cX12_notices 14 = .ok (.iload_n 2, 1) := dq_get (L := lzddX12_notices_0) 8 rfl zddX12_notices_0 rfl
theorem dX12_notices_15 : decode cX12_notices 15 = .ok (.invokevirtual 446, 3) := dq_get (L := lzddX12_notices_0) 9 rfl zddX12_notices_0 rfl
theorem dX12_notices_18 : decode cX12_notices 18 = .ok (.ifCond .ne 9, 3) := dq_get (L := lzddX12_notices_0) 10 rfl zddX12_notices_0 rfl
theorem dX12_notices_21 : decode cX12_notices 21 = .ok (.aload_n 0, 1) := dq_get (L := lzddX12_notices_0) 11 rfl zddX12_notices_0 rfl
theorem dX12_notices_22 : decode cX12_notices 22 = .ok (.iconst 1, 1) := dq_get (L := lzddX12_notices_0) 12 rfl zddX12_notices_0 rfl
theorem dX12_notices_23 : decode cX12_notices 23 = .ok (.invokevirtual 76, 3) := dq_get (L := lzddX12_notices_0) 13 rfl zddX12_notices_0 rfl
theorem dX12_notices_26 : decode cX12_notices 26 = .ok (.ireturn, 1) := dq_get (L := lzddX12_notices_0) 14 rfl zddX12_notices_0 rfl
theorem dX12_notices_27 : decode cX12_notices 27 = .ok (.aload_n 0, 1) := dq_get (L := lzddX12_notices_0) 15 rfl zddX12_notices_0 rfl
theorem dX12_notices_28 : decode cX12_notices 28 = .ok (.iload_n 3, 1) := dq_get (L := lzddX12_notices_0) 16 rfl zddX12_notices_0 rfl
theorem dX12_notices_29 : decode cX12_notices 29 = .ok (.invokevirtual 443, 3) := dq_get (L := lzddX12_notices_0) 17 rfl zddX12_notices_0 rfl
theorem dX12_notices_32 : decode cX12_notices 32 = .ok (.ifCond .ne 9, 3) := dq_get (L := lzddX12_notices_0) 18 rfl zddX12_notices_0 rfl
theorem dX12_notices_35 : decode cX12_notices 35 = .ok (.aload_n 0, 1) := dq_get (L := lzddX12_notices_0) 19 rfl zddX12_notices_0 rfl
def lzddX12_notices_36 : List (Nat × Instr × Nat) := [(36, .iconst 2, 1), (37, .invokevirtual 76, 3), (40, .ireturn, 1), (41, .aload_n 0, 1), (42, .iconst (-1), 1), (43, .invokevirtual 434, 3), (46, .aload_n 0, 1), (47, .aload_n 0, 1), (48, .iload_n 1, 1), (49, .iload_n 2, 1), (50, .iload_n 3, 1), (51, .invokevirtual 431, 3), (54, .ifCond .eq 7, 3), (57, .iconst 1, 1), (58, .goto 4, 3), (61, .iconst 0, 1), (62, .invokevirtual 81, 3), (65, .ireturn, 1)]
theorem zddX12_notices_36 : dqW lzddX12_notices_36 (cX12_notices.data.toList.drop 36) 36 = true := by decide +kernel
theorem dX12_notices_36 : decode cX12_notices 36 = .ok (.iconst 2, 1) := dq_get (L := lzddX12_notices_36) 0 rfl zddX12_notices_36 rfl
theorem dX12_notices_37 : decode cX12_notices 37 = .ok (.invokevirtual 76, 3) := dq_get (L := lzddX12_notices_36) 1 rfl zddX12_notices_36 rfl
theorem dX12_notices_40 : decode cX12_notices 40 = .ok (.ireturn, 1) := dq_get (L := lzddX12_notices_36) 2 rfl zddX12_notices_36 rfl
theorem dX12_notices_41 : decode cX12_notices 41 = .ok (.aload_n 0, 1) := dq_get (L := lzddX12_notices_36) 3 rfl zddX12_notices_36 rfl
theorem dX12_notices_42 : decode cX12_notices 42 = .ok (.iconst (-1), 1) := dq_get (L := lzddX12_notices_36) 4 rfl zddX12_notices_36 rfl
theorem dX12_notices_43 : decode cX12_notices 43 = .ok (.invokevirtual 434, 3) := dq_get (L := lzddX12_notices_36) 5 rfl zddX12_notices_36 rfl
theorem dX12_notices_46 : decode cX12_notices 46 = .ok (.aload_n 0, 1) := dq_get (L := lzddX12_notices_36) 6 rfl zddX12_notices_36 rfl
theorem dX12_notices_47 : decode cX12_notices 47 = .ok (.aload_n 0, 1) := dq_get (L := lzddX12_notices_36) 7 rfl zddX12_notices_36 rfl
theorem dX12_notices_48 : decode cX12_notices 48 = .ok (.iload_n 1, 1) := dq_get (L := lzddX12_notices_36) 8 rfl zddX12_notices_36 rfl
theorem dX12_notices_49 : decode cX12_notices 49 = .ok (.iload_n 2, 1) := dq_get (L := lzddX12_notices_36) 9 rfl zddX12_notices_36 rfl
theorem dX12_notices_50 : decode cX12_notices 50 = .ok (.iload_n 3, 1) := dq_get (L := lzddX12_notices_36) 10 rfl zddX12_notices_36 rfl
theorem dX12_notices_51 : decode cX12_notices 51 = .ok (.invokevirtual 431, 3) := dq_get (L := lzddX12_notices_36) 11 rfl zddX12_notices_36 rfl
theorem dX12_notices_54 : decode cX12_notices 54 = .ok (.ifCond .eq 7, 3) := dq_get (L := lzddX12_notices_36) 12 rfl zddX12_notices_36 rfl
theorem dX12_notices_57 : decode cX12_notices 57 = .ok (.iconst 1, 1) := dq_get (L := lzddX12_notices_36) 13 rfl zddX12_notices_36 rfl
theorem dX12_notices_58 : decode cX12_notices 58 = .ok (.goto 4, 3) := dq_get (L := lzddX12_notices_36) 14 rfl zddX12_notices_36 rfl
theorem dX12_notices_61 : decode cX12_notices 61 = .ok (.iconst 0, 1) := dq_get (L := lzddX12_notices_36) 15 rfl zddX12_notices_36 rfl
theorem dX12_notices_62 : decode cX12_notices 62 = .ok (.invokevirtual 81, 3) := dq_get (L := lzddX12_notices_36) 16 rfl zddX12_notices_36 rfl
theorem dX12_notices_65 : decode cX12_notices 65 = .ok (.ireturn, 1) := dq_get (L := lzddX12_notices_36) 17 rfl zddX12_notices_36 rfl
def lzddX12_noticesIn_0 : List (Nat × Instr × Nat) := [(0, .aload_n 0, 1), (1, .getfield 385, 3), (4, .getfield 333, 3), (7, .iload_n 1, 1), (8, .iaload, 1), (9, .istore 4, 2), (11, .iload 4, 2), (13, .iconst 3, 1), (14, .if_icmp .ne 11, 3), (17, .aload_n 0, 1), (18, .iload_n 3, 1), (19, .invokevirtual 410, 3), (22, .goto 24, 3), (25, .iload 4, 2), (27, .iconst 1, 1), (28, .if_icmp .ne 12, 3), (31, .aload_n 0, 1), (32, .iload_n 2, 1), (33, .iload_n 3, 1), (34, .invokevirtual 413, 3)]
theorem zddX12_noticesIn_0 : dqW lzddX12_noticesIn_0 (cX12_noticesIn.data.toList.drop 0) 0 = true := by decide +kernel
theorem dX12_noticesIn_0 : decode cX12_noticesIn 0 = .ok (.aload_n 0, 1) := dq_get (L := lzddX12_noticesIn_0) 0 rfl zddX12_noticesIn_0 rfl
theorem dX12_noticesIn_1 : decode cX12_noticesIn 1 = .ok (.getfield 385, 3) := dq_get (L := lzddX12_noticesIn_0) 1 rfl zddX12_noticesIn_0 rfl
theorem dX12_noticesIn_4 : decode cX12_noticesIn 4 = .ok (.getfield 333, 3) := dq_get (L := lzddX12_noticesIn_0) 2 rfl zddX12_noticesIn_0 rfl
theorem dX12_noticesIn_7 : decode cX12_noticesIn 7 = .ok (.iload_n 1, 1) := dq_get (L := lzddX12_noticesIn_0) 3 rfl zddX12_noticesIn_0 rfl
theorem dX12_noticesIn_8 : decode cX12_noticesIn 8 = .ok (.iaload, 1) := dq_get (L := lzddX12_noticesIn_0) 4 rfl zddX12_noticesIn_0 rfl
theorem dX12_noticesIn_9 : decode cX12_noticesIn 9 = .ok (.istore 4, 2) := dq_get (L := lzddX12_noticesIn_0) 5 rfl zddX12_noticesIn_0 rfl
theorem dX12_noticesIn_11 : decode cX12_noticesIn 11 = .ok (.iload 4, 2) := dq_get (L := lzddX12_noticesIn_0) 6 rfl zddX12_noticesIn_0 rfl
theorem dX12_noticesIn_13 : decode cX12_noticesIn 13 = .ok (.iconst 3, 1) := dq_get (L := lzddX12_noticesIn_0) 7 rfl zddX12_noticesIn_0 rfl
theorem dX12_noticesIn_14 : decode cX12_noticesIn 14 = .ok (.if_icmp .ne 11, 3) := dq_get (L := lzddX12_noticesIn_0) 8 rfl zddX12_noticesIn_0 rfl
theorem dX12_noticesIn_17 : decode cX12_noticesIn 17 = .ok (.aload_n 0, 1) := dq_get (L := lzddX12_noticesIn_0) 9 rfl zddX12_noticesIn_0 rfl
theorem dX12_noticesIn_18 : decode cX12_noticesIn 18 = .ok (.iload_n 3, 1) := dq_get (L := lzddX12_noticesIn_0) 10 rfl zddX12_noticesIn_0 rfl
theorem dX12_noticesIn_19 : decode cX12_noticesIn 19 = .ok (.invokevirtual 410, 3) := dq_get (L := lzddX12_noticesIn_0) 11 rfl zddX12_noticesIn_0 rfl
theorem dX12_noticesIn_22 : decode cX12_noticesIn 22 = .ok (.goto 24, 3) := dq_get (L := lzddX12_noticesIn_0) 12 rfl zddX12_noticesIn_0 rfl
theorem dX12_noticesIn_25 : decode cX12_noticesIn 25 = .ok (.iload 4, 2) := dq_get (L := lzddX12_noticesIn_0) 13 rfl zddX12_noticesIn_0 rfl
theorem dX12_noticesIn_27 : decode cX12_noticesIn 27 = .ok (.iconst 1, 1) := dq_get (L := lzddX12_noticesIn_0) 14 rfl zddX12_noticesIn_0 rfl
theorem dX12_noticesIn_28 : decode cX12_noticesIn 28 = .ok (.if_icmp .ne 12, 3) := dq_get (L := lzddX12_noticesIn_0) 15 rfl zddX12_noticesIn_0 rfl
theorem dX12_noticesIn_31 : decode cX12_noticesIn 31 = .ok (.aload_n 0, 1) := dq_get (L := lzddX12_noticesIn_0) 16 rfl zddX12_noticesIn_0 rfl
theorem dX12_noticesIn_32 : decode cX12_noticesIn 32 = .ok (.iload_n 2, 1) := dq_get (L := lzddX12_noticesIn_0) 17 rfl zddX12_noticesIn_0 rfl
theorem dX12_noticesIn_33 : decode cX12_noticesIn 33 = .ok (.iload_n 3, 1) := dq_get (L := lzddX12_noticesIn_0) 18 rfl zddX12_noticesIn_0 rfl
theorem dX12_noticesIn_34 : decode cX12_noticesIn 34 = .ok (.invokevirtual 413, 3) := dq_get (L := lzddX12_noticesIn_0) 19 rfl zddX12_noticesIn_0 rfl
def lzddX12_noticesIn_37 : List (Nat × Instr × Nat) := [(37, .goto 9, 3), (40, .aload_n 0, 1), (41, .iload_n 2, 1), (42, .iload_n 3, 1), (43, .invokevirtual 416, 3), (46, .ireturn, 1)]
theorem zddX12_noticesIn_37 : dqW lzddX12_noticesIn_37 (cX12_noticesIn.data.toList.drop 37) 37 = true := by decide +kernel
theorem dX12_noticesIn_37 : decode cX12_noticesIn 37 = .ok (.goto 9, 3) := dq_get (L := lzddX12_noticesIn_37) 0 rfl zddX12_noticesIn_37 rfl
theorem dX12_noticesIn_40 : decode cX12_noticesIn 40 = .ok (.aload_n 0, 1) := dq_get (L := lzddX12_noticesIn_37) 1 rfl zddX12_noticesIn_37 rfl
theorem dX12_noticesIn_41 : decode cX12_noticesIn 41 = .ok (.iload_n 2, 1) := dq_get (L := lzddX12_noticesIn_37) 2 rfl zddX12_noticesIn_37 rfl
theorem dX12_noticesIn_42 : decode cX12_noticesIn 42 = .ok (.iload_n 3, 1) := dq_get (L := lzddX12_noticesIn_37) 3 rfl zddX12_noticesIn_37 rfl
theorem dX12_noticesIn_43 : decode cX12_noticesIn 43 = .ok (.invokevirtual 416, 3) := dq_get (L := lzddX12_noticesIn_37) 4 rfl zddX12_noticesIn_37 rfl
theorem dX12_noticesIn_46 : decode cX12_noticesIn 46 = .ok (.ireturn, 1) := dq_get (L := lzddX12_noticesIn_37) 5 rfl zddX12_noticesIn_37 rfl
def lzddX12_peak_0 : List (Nat × Instr × Nat) := [(0, .aload_n 0, 1), (1, .iconst 0, 1), (2, .putfield 70, 3), (5, .aload_n 0, 1), (6, .getfield 385, 3), (9, .ifnonnull 9, 3), (12, .aload_n 0, 1), (13, .iconst 1, 1), (14, .invokevirtual 76, 3), (17, .ireturn, 1), (18, .aload_n 0, 1), (19, .iconst (-1), 1), (20, .invokevirtual 434, 3), (23, .bipush (-2), 2), (25, .istore_n 1, 1), (26, .iconst 0, 1), (27, .istore_n 2, 1), (28, .iload_n 2, 1), (29, .aload_n 0, 1), (30, .getfield 385, 3)]
theorem zddX12_peak_0 : dqW lzddX12_peak_0 (cX12_peak.data.toList.drop 0) 0 = true := by decide +kernel
theorem dX12_peak_0 : decode cX12_peak 0 = .ok (.aload_n 0, 1) := dq_get (L := lzddX12_peak_0) 0 rfl zddX12_peak_0 rfl
theorem dX12_peak_1 : decode cX12_peak 1 = .ok (.iconst 0, 1) := dq_get (L := lzddX12_peak_0) 1 rfl zddX12_peak_0 rfl
theorem dX12_peak_2 : decode cX12_peak 2 = .ok (.putfield 70, 3) := dq_get (L := lzddX12_peak_0) 2 rfl zddX12_peak_0 rfl
theorem dX12_peak_5 : decode cX12_peak 5 = .ok (.aload_n 0, 1) := dq_get (L := lzddX12_peak_0) 3 rfl zddX12_peak_0 rfl
theorem dX12_peak_6 : decode cX12_peak 6 = .ok (.getfield 385, 3) := dq_get (L := lzddX12_peak_0) 4 rfl zddX12_peak_0 rfl
theorem dX12_peak_9 : decode cX12_peak 9 = .ok (.ifnonnull 9, 3) := dq_get (L := lzddX12_peak_0) 5 rfl zddX12_peak_0 rfl
theorem dX12_peak_12 : decode cX12_peak 12 = .ok (.aload_n 0, 1) := dq_get (L := lzddX12_peak_0) 6 rfl zddX12_peak_0 rfl
theorem dX12_peak_13 : decode cX12_peak 13 = .ok (.iconst 1, 1) := dq_get (L := lzddX12_peak_0) 7 rfl zddX12_peak_0 rfl
theorem dX12_peak_14 : decode cX12_peak 14 = .ok (.invokevirtual 76, 3) := dq_get (L := lzddX12_peak_0) 8 rfl zddX12_peak_0 rfl
theorem dX12_peak_17 : decode cX12_peak 17 = .ok (.ireturn, 1) := dq_get (L := lzddX12_peak_0) 9 rfl zddX12_peak_0 rfl
theorem dX12_peak_18 : decode cX12_peak 18 = .ok (.aload_n 0, 1) := dq_get (L := lzddX12_peak_0) 10 rfl zddX12_peak_0 rfl
theorem dX12_peak_19 : decode cX12_peak 19 = .ok (.iconst (-1), 1) := dq_get (L := lzddX12_peak_0) 11 rfl zddX12_peak_0 rfl
theorem dX12_peak_20 : decode cX12_peak 20 = .ok (.invokevirtual 434, 3) := dq_get (L := lzddX12_peak_0) 12 rfl zddX12_peak_0 rfl
theorem dX12_peak_23 : decode cX12_peak 23 = .ok (.bipush (-2), 2) := dq_get (L := lzddX12_peak_0) 13 rfl zddX12_peak_0 rfl
theorem dX12_peak_25 : decode cX12_peak 25 = .ok (.istore_n 1, 1) := dq_get (L := lzddX12_peak_0) 14 rfl zddX12_peak_0 rfl
theorem dX12_peak_26 : decode cX12_peak 26 = .ok (.iconst 0, 1) := dq_get (L := lzddX12_peak_0) 15 rfl zddX12_peak_0 rfl
theorem dX12_peak_27 : decode cX12_peak 27 = .ok (.istore_n 2, 1) := dq_get (L := lzddX12_peak_0) 16 rfl zddX12_peak_0 rfl
theorem dX12_peak_28 : decode cX12_peak 28 = .ok (.iload_n 2, 1) := dq_get (L := lzddX12_peak_0) 17 rfl zddX12_peak_0 rfl
theorem dX12_peak_29 : decode cX12_peak 29 = .ok (.aload_n 0, 1) := dq_get (L := lzddX12_peak_0) 18 rfl zddX12_peak_0 rfl
theorem dX12_peak_30 : decode cX12_peak 30 = .ok (.getfield 385, 3) := dq_get (L := lzddX12_peak_0) 19 rfl zddX12_peak_0 rfl
def lzddX12_peak_33 : List (Nat × Instr × Nat) := [(33, .getfield 192, 3), (36, .if_icmp .ge 34, 3), (39, .aload_n 0, 1), (40, .iload_n 2, 1), (41, .invokevirtual 449, 3), (44, .iload_n 1, 1), (45, .bipush (-2), 2), (47, .if_icmp .ne 7, 3), (50, .iconst 0, 1), (51, .goto 8, 3), (54, .aload_n 0, 1), (55, .iload_n 1, 1), (56, .invokevirtual 449, 3), (59, .if_icmp .le 5, 3), (62, .iload_n 2, 1), (63, .istore_n 1, 1), (64, .iinc 2 1, 3), (67, .goto (-39), 3), (70, .aload_n 0, 1), (71, .iload_n 1, 1)]
theorem zddX12_peak_33 : dqW lzddX12_peak_33 (cX12_peak.data.toList.drop 33) 33 = true := by decide +kernel
theorem dX12_peak_33 : decode cX12_peak 33 = .ok (.getfield 192, 3) := dq_get (L := lzddX12_peak_33) 0 rfl zddX12_peak_33 rfl
theorem dX12_peak_36 : decode cX12_peak 36 = .ok (.if_icmp .ge 34, 3) := dq_get (L := lzddX12_peak_33) 1 rfl zddX12_peak_33 rfl
theorem dX12_peak_39 : decode cX12_peak 39 = .ok (.aload_n 0, 1) := dq_get (L := lzddX12_peak_33) 2 rfl zddX12_peak_33 rfl
theorem dX12_peak_40 : decode cX12_peak 40 = .ok (.iload_n 2, 1) := dq_get (L := lzddX12_peak_33) 3 rfl zddX12_peak_33 rfl
theorem dX12_peak_41 : decode cX12_peak 41 = .ok (.invokevirtual 449, 3) := dq_get (L := lzddX12_peak_33) 4 rfl zddX12_peak_33 rfl
theorem dX12_peak_44 : decode cX12_peak 44 = .ok (.iload_n 1, 1) := dq_get (L := lzddX12_peak_33) 5 rfl zddX12_peak_33 rfl
theorem dX12_peak_45 : decode cX12_peak 45 = .ok (.bipush (-2), 2) := dq_get (L := lzddX12_peak_33) 6 rfl zddX12_peak_33 rfl
theorem dX12_peak_47 : decode cX12_peak 47 = .ok (.if_icmp .ne 7, 3) := dq_get (L := lzddX12_peak_33) 7 rfl zddX12_peak_33 rfl
theorem dX12_peak_50 : decode cX12_peak 50 = .ok (.iconst 0, 1) := dq_get (L := lzddX12_peak_33) 8 rfl zddX12_peak_33 rfl
theorem dX12_peak_51 : decode cX12_peak 51 = .ok (.goto 8, 3) := dq_get (L := lzddX12_peak_33) 9 rfl zddX12_peak_33 rfl
theorem dX12_peak_54 : decode cX12_peak 54 = .ok (.aload_n 0, 1) := dq_get (L := lzddX12_peak_33) 10 rfl zddX12_peak_33 rfl
theorem dX12_peak_55 : decode cX12_peak 55 = .ok (.iload_n 1, 1) := dq_get (L := lzddX12_peak_33) 11 rfl zddX12_peak_33 rfl
theorem dX12_peak_56 : decode cX12_peak 56 = .ok (.invokevirtual 449, 3) := dq_get (L := lzddX12_peak_33) 12 rfl zddX12_peak_33 rfl
theorem dX12_peak_59 : decode cX12_peak 59 = .ok (.if_icmp .le 5, 3) := dq_get (L := lzddX12_peak_33) 13 rfl zddX12_peak_33 rfl
theorem dX12_peak_62 : decode cX12_peak 62 = .ok (.iload_n 2, 1) := dq_get (L := lzddX12_peak_33) 14 rfl zddX12_peak_33 rfl
theorem dX12_peak_63 : decode cX12_peak 63 = .ok (.istore_n 1, 1) := dq_get (L := lzddX12_peak_33) 15 rfl zddX12_peak_33 rfl
theorem dX12_peak_64 : decode cX12_peak 64 = .ok (.iinc 2 1, 3) := dq_get (L := lzddX12_peak_33) 16 rfl zddX12_peak_33 rfl
theorem dX12_peak_67 : decode cX12_peak 67 = .ok (.goto (-39), 3) := dq_get (L := lzddX12_peak_33) 17 rfl zddX12_peak_33 rfl
theorem dX12_peak_70 : decode cX12_peak 70 = .ok (.aload_n 0, 1) := dq_get (L := lzddX12_peak_33) 18 rfl zddX12_peak_33 rfl
theorem dX12_peak_71 : decode cX12_peak 71 = .ok (.iload_n 1, 1) := dq_get (L := lzddX12_peak_33) 19 rfl zddX12_peak_33 rfl
def lzddX12_peak_72 : List (Nat × Instr × Nat) := [(72, .invokevirtual 81, 3), (75, .ireturn, 1)]
theorem zddX12_peak_72 : dqW lzddX12_peak_72 (cX12_peak.data.toList.drop 72) 72 = true := by decide +kernel
theorem dX12_peak_72 : decode cX12_peak 72 = .ok (.invokevirtual 81, 3) := dq_get (L := lzddX12_peak_72) 0 rfl zddX12_peak_72 rfl
theorem dX12_peak_75 : decode cX12_peak 75 = .ok (.ireturn, 1) := dq_get (L := lzddX12_peak_72) 1 rfl zddX12_peak_72 rfl
def lzddX12_priceOf_0 : List (Nat × Instr × Nat) := [(0, .aload_n 0, 1), (1, .getfield 385, 3), (4, .getfield 260, 3), (7, .iconst 0, 1), (8, .iaload, 1), (9, .aload_n 0, 1), (10, .getfield 385, 3), (13, .getfield 260, 3), (16, .iconst 1, 1), (17, .iaload, 1), (18, .aload_n 0, 1), (19, .getfield 52, 3), (22, .iload_n 1, 1), (23, .iaload, 1), (24, .imul, 1), (25, .iadd, 1), (26, .aload_n 0, 1), (27, .getfield 385, 3), (30, .getfield 260, 3), (33, .iconst 2, 1)]
theorem zddX12_priceOf_0 : dqW lzddX12_priceOf_0 (cX12_priceOf.data.toList.drop 0) 0 = true := by decide +kernel
theorem dX12_priceOf_0 : decode cX12_priceOf 0 = .ok (.aload_n 0, 1) := dq_get (L := lzddX12_priceOf_0) 0 rfl zddX12_priceOf_0 rfl
theorem dX12_priceOf_1 : decode cX12_priceOf 1 = .ok (.getfield 385, 3) := dq_get (L := lzddX12_priceOf_0) 1 rfl zddX12_priceOf_0 rfl
theorem dX12_priceOf_4 : decode cX12_priceOf 4 = .ok (.getfield 260, 3) := dq_get (L := lzddX12_priceOf_0) 2 rfl zddX12_priceOf_0 rfl
theorem dX12_priceOf_7 : decode cX12_priceOf 7 = .ok (.iconst 0, 1) := dq_get (L := lzddX12_priceOf_0) 3 rfl zddX12_priceOf_0 rfl
theorem dX12_priceOf_8 : decode cX12_priceOf 8 = .ok (.iaload, 1) := dq_get (L := lzddX12_priceOf_0) 4 rfl zddX12_priceOf_0 rfl
theorem dX12_priceOf_9 : decode cX12_priceOf 9 = .ok (.aload_n 0, 1) := dq_get (L := lzddX12_priceOf_0) 5 rfl zddX12_priceOf_0 rfl
theorem dX12_priceOf_10 : decode cX12_priceOf 10 = .ok (.getfield 385, 3) := dq_get (L := lzddX12_priceOf_0) 6 rfl zddX12_priceOf_0 rfl
theorem dX12_priceOf_13 : decode cX12_priceOf 13 = .ok (.getfield 260, 3) := dq_get (L := lzddX12_priceOf_0) 7 rfl zddX12_priceOf_0 rfl
theorem dX12_priceOf_16 : decode cX12_priceOf 16 = .ok (.iconst 1, 1) := dq_get (L := lzddX12_priceOf_0) 8 rfl zddX12_priceOf_0 rfl
theorem dX12_priceOf_17 : decode cX12_priceOf 17 = .ok (.iaload, 1) := dq_get (L := lzddX12_priceOf_0) 9 rfl zddX12_priceOf_0 rfl
theorem dX12_priceOf_18 : decode cX12_priceOf 18 = .ok (.aload_n 0, 1) := dq_get (L := lzddX12_priceOf_0) 10 rfl zddX12_priceOf_0 rfl
theorem dX12_priceOf_19 : decode cX12_priceOf 19 = .ok (.getfield 52, 3) := dq_get (L := lzddX12_priceOf_0) 11 rfl zddX12_priceOf_0 rfl
theorem dX12_priceOf_22 : decode cX12_priceOf 22 = .ok (.iload_n 1, 1) := dq_get (L := lzddX12_priceOf_0) 12 rfl zddX12_priceOf_0 rfl
theorem dX12_priceOf_23 : decode cX12_priceOf 23 = .ok (.iaload, 1) := dq_get (L := lzddX12_priceOf_0) 13 rfl zddX12_priceOf_0 rfl
theorem dX12_priceOf_24 : decode cX12_priceOf 24 = .ok (.imul, 1) := dq_get (L := lzddX12_priceOf_0) 14 rfl zddX12_priceOf_0 rfl
theorem dX12_priceOf_25 : decode cX12_priceOf 25 = .ok (.iadd, 1) := dq_get (L := lzddX12_priceOf_0) 15 rfl zddX12_priceOf_0 rfl
theorem dX12_priceOf_26 : decode cX12_priceOf 26 = .ok (.aload_n 0, 1) := dq_get (L := lzddX12_priceOf_0) 16 rfl zddX12_priceOf_0 rfl
theorem dX12_priceOf_27 : decode cX12_priceOf 27 = .ok (.getfield 385, 3) := dq_get (L := lzddX12_priceOf_0) 17 rfl zddX12_priceOf_0 rfl
theorem dX12_priceOf_30 : decode cX12_priceOf 30 = .ok (.getfield 260, 3) := dq_get (L := lzddX12_priceOf_0) 18 rfl zddX12_priceOf_0 rfl
theorem dX12_priceOf_33 : decode cX12_priceOf 33 = .ok (.iconst 2, 1) := dq_get (L := lzddX12_priceOf_0) 19 rfl zddX12_priceOf_0 rfl
def lzddX12_priceOf_34 : List (Nat × Instr × Nat) := [(34, .iaload, 1), (35, .aload_n 0, 1), (36, .getfield 55, 3), (39, .iload_n 1, 1), (40, .iaload, 1), (41, .imul, 1), (42, .isub, 1), (43, .aload_n 0, 1), (44, .getfield 385, 3), (47, .getfield 260, 3), (50, .iconst 3, 1), (51, .iaload, 1), (52, .aload_n 0, 1), (53, .getfield 61, 3), (56, .iload_n 1, 1), (57, .iaload, 1), (58, .imul, 1), (59, .isub, 1), (60, .aload_n 0, 1), (61, .getfield 385, 3)]
theorem zddX12_priceOf_34 : dqW lzddX12_priceOf_34 (cX12_priceOf.data.toList.drop 34) 34 = true := by decide +kernel
theorem dX12_priceOf_34 : decode cX12_priceOf 34 = .ok (.iaload, 1) := dq_get (L := lzddX12_priceOf_34) 0 rfl zddX12_priceOf_34 rfl
theorem dX12_priceOf_35 : decode cX12_priceOf 35 = .ok (.aload_n 0, 1) := dq_get (L := lzddX12_priceOf_34) 1 rfl zddX12_priceOf_34 rfl
theorem dX12_priceOf_36 : decode cX12_priceOf 36 = .ok (.getfield 55, 3) := dq_get (L := lzddX12_priceOf_34) 2 rfl zddX12_priceOf_34 rfl
theorem dX12_priceOf_39 : decode cX12_priceOf 39 = .ok (.iload_n 1, 1) := dq_get (L := lzddX12_priceOf_34) 3 rfl zddX12_priceOf_34 rfl
theorem dX12_priceOf_40 : decode cX12_priceOf 40 = .ok (.iaload, 1) := dq_get (L := lzddX12_priceOf_34) 4 rfl zddX12_priceOf_34 rfl
theorem dX12_priceOf_41 : decode cX12_priceOf 41 = .ok (.imul, 1) := dq_get (L := lzddX12_priceOf_34) 5 rfl zddX12_priceOf_34 rfl
theorem dX12_priceOf_42 : decode cX12_priceOf 42 = .ok (.isub, 1) := dq_get (L := lzddX12_priceOf_34) 6 rfl zddX12_priceOf_34 rfl
theorem dX12_priceOf_43 : decode cX12_priceOf 43 = .ok (.aload_n 0, 1) := dq_get (L := lzddX12_priceOf_34) 7 rfl zddX12_priceOf_34 rfl
theorem dX12_priceOf_44 : decode cX12_priceOf 44 = .ok (.getfield 385, 3) := dq_get (L := lzddX12_priceOf_34) 8 rfl zddX12_priceOf_34 rfl
theorem dX12_priceOf_47 : decode cX12_priceOf 47 = .ok (.getfield 260, 3) := dq_get (L := lzddX12_priceOf_34) 9 rfl zddX12_priceOf_34 rfl
theorem dX12_priceOf_50 : decode cX12_priceOf 50 = .ok (.iconst 3, 1) := dq_get (L := lzddX12_priceOf_34) 10 rfl zddX12_priceOf_34 rfl
theorem dX12_priceOf_51 : decode cX12_priceOf 51 = .ok (.iaload, 1) := dq_get (L := lzddX12_priceOf_34) 11 rfl zddX12_priceOf_34 rfl
theorem dX12_priceOf_52 : decode cX12_priceOf 52 = .ok (.aload_n 0, 1) := dq_get (L := lzddX12_priceOf_34) 12 rfl zddX12_priceOf_34 rfl
theorem dX12_priceOf_53 : decode cX12_priceOf 53 = .ok (.getfield 61, 3) := dq_get (L := lzddX12_priceOf_34) 13 rfl zddX12_priceOf_34 rfl
theorem dX12_priceOf_56 : decode cX12_priceOf 56 = .ok (.iload_n 1, 1) := dq_get (L := lzddX12_priceOf_34) 14 rfl zddX12_priceOf_34 rfl
theorem dX12_priceOf_57 : decode cX12_priceOf 57 = .ok (.iaload, 1) := dq_get (L := lzddX12_priceOf_34) 15 rfl zddX12_priceOf_34 rfl
theorem dX12_priceOf_58 : decode cX12_priceOf 58 = .ok (.imul, 1) := dq_get (L := lzddX12_priceOf_34) 16 rfl zddX12_priceOf_34 rfl
theorem dX12_priceOf_59 : decode cX12_priceOf 59 = .ok (.isub, 1) := dq_get (L := lzddX12_priceOf_34) 17 rfl zddX12_priceOf_34 rfl
theorem dX12_priceOf_60 : decode cX12_priceOf 60 = .ok (.aload_n 0, 1) := dq_get (L := lzddX12_priceOf_34) 18 rfl zddX12_priceOf_34 rfl
theorem dX12_priceOf_61 : decode cX12_priceOf 61 = .ok (.getfield 385, 3) := dq_get (L := lzddX12_priceOf_34) 19 rfl zddX12_priceOf_34 rfl
def lzddX12_priceOf_64 : List (Nat × Instr × Nat) := [(64, .getfield 260, 3), (67, .iconst 4, 1), (68, .iaload, 1), (69, .aload_n 0, 1), (70, .getfield 58, 3), (73, .iload_n 1, 1), (74, .iaload, 1), (75, .imul, 1), (76, .isub, 1), (77, .istore_n 2, 1), (78, .iload_n 2, 1), (79, .ifCond .ge 7, 3), (82, .iconst 0, 1), (83, .goto 4, 3), (86, .iload_n 2, 1), (87, .ireturn, 1)]
theorem zddX12_priceOf_64 : dqW lzddX12_priceOf_64 (cX12_priceOf.data.toList.drop 64) 64 = true := by decide +kernel
theorem dX12_priceOf_64 : decode cX12_priceOf 64 = .ok (.getfield 260, 3) := dq_get (L := lzddX12_priceOf_64) 0 rfl zddX12_priceOf_64 rfl
theorem dX12_priceOf_67 : decode cX12_priceOf 67 = .ok (.iconst 4, 1) := dq_get (L := lzddX12_priceOf_64) 1 rfl zddX12_priceOf_64 rfl
theorem dX12_priceOf_68 : decode cX12_priceOf 68 = .ok (.iaload, 1) := dq_get (L := lzddX12_priceOf_64) 2 rfl zddX12_priceOf_64 rfl
theorem dX12_priceOf_69 : decode cX12_priceOf 69 = .ok (.aload_n 0, 1) := dq_get (L := lzddX12_priceOf_64) 3 rfl zddX12_priceOf_64 rfl
theorem dX12_priceOf_70 : decode cX12_priceOf 70 = .ok (.getfield 58, 3) := dq_get (L := lzddX12_priceOf_64) 4 rfl zddX12_priceOf_64 rfl
theorem dX12_priceOf_73 : decode cX12_priceOf 73 = .ok (.iload_n 1, 1) := dq_get (L := lzddX12_priceOf_64) 5 rfl zddX12_priceOf_64 rfl
theorem dX12_priceOf_74 : decode cX12_priceOf 74 = .ok (.iaload, 1) := dq_get (L := lzddX12_priceOf_64) 6 rfl zddX12_priceOf_64 rfl
theorem dX12_priceOf_75 : decode cX12_priceOf 75 = .ok (.imul, 1) := dq_get (L := lzddX12_priceOf_64) 7 rfl zddX12_priceOf_64 rfl
theorem dX12_priceOf_76 : decode cX12_priceOf 76 = .ok (.isub, 1) := dq_get (L := lzddX12_priceOf_64) 8 rfl zddX12_priceOf_64 rfl
theorem dX12_priceOf_77 : decode cX12_priceOf 77 = .ok (.istore_n 2, 1) := dq_get (L := lzddX12_priceOf_64) 9 rfl zddX12_priceOf_64 rfl
theorem dX12_priceOf_78 : decode cX12_priceOf 78 = .ok (.iload_n 2, 1) := dq_get (L := lzddX12_priceOf_64) 10 rfl zddX12_priceOf_64 rfl
theorem dX12_priceOf_79 : decode cX12_priceOf 79 = .ok (.ifCond .ge 7, 3) := dq_get (L := lzddX12_priceOf_64) 11 rfl zddX12_priceOf_64 rfl
theorem dX12_priceOf_82 : decode cX12_priceOf 82 = .ok (.iconst 0, 1) := dq_get (L := lzddX12_priceOf_64) 12 rfl zddX12_priceOf_64 rfl
theorem dX12_priceOf_83 : decode cX12_priceOf 83 = .ok (.goto 4, 3) := dq_get (L := lzddX12_priceOf_64) 13 rfl zddX12_priceOf_64 rfl
theorem dX12_priceOf_86 : decode cX12_priceOf 86 = .ok (.iload_n 2, 1) := dq_get (L := lzddX12_priceOf_64) 14 rfl zddX12_priceOf_64 rfl
theorem dX12_priceOf_87 : decode cX12_priceOf 87 = .ok (.ireturn, 1) := dq_get (L := lzddX12_priceOf_64) 15 rfl zddX12_priceOf_64 rfl
def lzddX12_readAll_0 : List (Nat × Instr × Nat) := [(0, .iconst 1, 1), (1, .istore_n 1, 1), (2, .iload_n 1, 1), (3, .ifCond .eq 17, 3), (6, .aload_n 0, 1), (7, .invokevirtual 218, 3), (10, .aload_n 0, 1), (11, .bipush 59, 2), (13, .invokevirtual 221, 3), (16, .istore_n 1, 1), (17, .goto (-15), 3), (20, .aload_n 0, 1), (21, .getfield 99, 3), (24, .iconst 1, 1), (25, .if_icmp .eq 8, 3), (28, .aload_n 0, 1), (29, .iconst 1, 1), (30, .invokevirtual 145, 3), (33, .aload_n 0, 1), (34, .getfield 188, 3)]
theorem zddX12_readAll_0 : dqW lzddX12_readAll_0 (cX12_readAll.data.toList.drop 0) 0 = true := by decide +kernel
theorem dX12_readAll_0 : decode cX12_readAll 0 = .ok (.iconst 1, 1) := dq_get (L := lzddX12_readAll_0) 0 rfl zddX12_readAll_0 rfl
theorem dX12_readAll_1 : decode cX12_readAll 1 = .ok (.istore_n 1, 1) := dq_get (L := lzddX12_readAll_0) 1 rfl zddX12_readAll_0 rfl
theorem dX12_readAll_2 : decode cX12_readAll 2 = .ok (.iload_n 1, 1) := dq_get (L := lzddX12_readAll_0) 2 rfl zddX12_readAll_0 rfl
theorem dX12_readAll_3 : decode cX12_readAll 3 = .ok (.ifCond .eq 17, 3) := dq_get (L := lzddX12_readAll_0) 3 rfl zddX12_readAll_0 rfl
theorem dX12_readAll_6 : decode cX12_readAll 6 = .ok (.aload_n 0, 1) := dq_get (L := lzddX12_readAll_0) 4 rfl zddX12_readAll_0 rfl
theorem dX12_readAll_7 : decode cX12_readAll 7 = .ok (.invokevirtual 218, 3) := dq_get (L := lzddX12_readAll_0) 5 rfl zddX12_readAll_0 rfl
theorem dX12_readAll_10 : decode cX12_readAll 10 = .ok (.aload_n 0, 1) := dq_get (L := lzddX12_readAll_0) 6 rfl zddX12_readAll_0 rfl
theorem dX12_readAll_11 : decode cX12_readAll 11 = .ok (.bipush 59, 2) := dq_get (L := lzddX12_readAll_0) 7 rfl zddX12_readAll_0 rfl
theorem dX12_readAll_13 : decode cX12_readAll 13 = .ok (.invokevirtual 221, 3) := dq_get (L := lzddX12_readAll_0) 8 rfl zddX12_readAll_0 rfl
theorem dX12_readAll_16 : decode cX12_readAll 16 = .ok (.istore_n 1, 1) := dq_get (L := lzddX12_readAll_0) 9 rfl zddX12_readAll_0 rfl
theorem dX12_readAll_17 : decode cX12_readAll 17 = .ok (.goto (-15), 3) := dq_get (L := lzddX12_readAll_0) 10 rfl zddX12_readAll_0 rfl
theorem dX12_readAll_20 : decode cX12_readAll 20 = .ok (.aload_n 0, 1) := dq_get (L := lzddX12_readAll_0) 11 rfl zddX12_readAll_0 rfl
theorem dX12_readAll_21 : decode cX12_readAll 21 = .ok (.getfield 99, 3) := dq_get (L := lzddX12_readAll_0) 12 rfl zddX12_readAll_0 rfl
theorem dX12_readAll_24 : decode cX12_readAll 24 = .ok (.iconst 1, 1) := dq_get (L := lzddX12_readAll_0) 13 rfl zddX12_readAll_0 rfl
theorem dX12_readAll_25 : decode cX12_readAll 25 = .ok (.if_icmp .eq 8, 3) := dq_get (L := lzddX12_readAll_0) 14 rfl zddX12_readAll_0 rfl
theorem dX12_readAll_28 : decode cX12_readAll 28 = .ok (.aload_n 0, 1) := dq_get (L := lzddX12_readAll_0) 15 rfl zddX12_readAll_0 rfl
theorem dX12_readAll_29 : decode cX12_readAll 29 = .ok (.iconst 1, 1) := dq_get (L := lzddX12_readAll_0) 16 rfl zddX12_readAll_0 rfl
theorem dX12_readAll_30 : decode cX12_readAll 30 = .ok (.invokevirtual 145, 3) := dq_get (L := lzddX12_readAll_0) 17 rfl zddX12_readAll_0 rfl
theorem dX12_readAll_33 : decode cX12_readAll 33 = .ok (.aload_n 0, 1) := dq_get (L := lzddX12_readAll_0) 18 rfl zddX12_readAll_0 rfl
theorem dX12_readAll_34 : decode cX12_readAll 34 = .ok (.getfield 188, 3) := dq_get (L := lzddX12_readAll_0) 19 rfl zddX12_readAll_0 rfl
def lzddX12_readAll_37 : List (Nat × Instr × Nat) := [(37, .getfield 192, 3), (40, .ifCond .eq 13, 3), (43, .aload_n 0, 1), (44, .getfield 188, 3), (47, .getfield 224, 3), (50, .ifCond .ne 9, 3), (53, .aload_n 0, 1), (54, .bipush 6, 2), (56, .invokevirtual 145, 3), (59, .return_, 1)]
theorem zddX12_readAll_37 : dqW lzddX12_readAll_37 (cX12_readAll.data.toList.drop 37) 37 = true := by decide +kernel
theorem dX12_readAll_37 : decode cX12_readAll 37 = .ok (.getfield 192, 3) := dq_get (L := lzddX12_readAll_37) 0 rfl zddX12_readAll_37 rfl
theorem dX12_readAll_40 : decode cX12_readAll 40 = .ok (.ifCond .eq 13, 3) := dq_get (L := lzddX12_readAll_37) 1 rfl zddX12_readAll_37 rfl
theorem dX12_readAll_43 : decode cX12_readAll 43 = .ok (.aload_n 0, 1) := dq_get (L := lzddX12_readAll_37) 2 rfl zddX12_readAll_37 rfl
theorem dX12_readAll_44 : decode cX12_readAll 44 = .ok (.getfield 188, 3) := dq_get (L := lzddX12_readAll_37) 3 rfl zddX12_readAll_37 rfl
theorem dX12_readAll_47 : decode cX12_readAll 47 = .ok (.getfield 224, 3) := dq_get (L := lzddX12_readAll_37) 4 rfl zddX12_readAll_37 rfl
theorem dX12_readAll_50 : decode cX12_readAll 50 = .ok (.ifCond .ne 9, 3) := dq_get (L := lzddX12_readAll_37) 5 rfl zddX12_readAll_37 rfl
theorem dX12_readAll_53 : decode cX12_readAll 53 = .ok (.aload_n 0, 1) := dq_get (L := lzddX12_readAll_37) 6 rfl zddX12_readAll_37 rfl
theorem dX12_readAll_54 : decode cX12_readAll 54 = .ok (.bipush 6, 2) := dq_get (L := lzddX12_readAll_37) 7 rfl zddX12_readAll_37 rfl
theorem dX12_readAll_56 : decode cX12_readAll 56 = .ok (.invokevirtual 145, 3) := dq_get (L := lzddX12_readAll_37) 8 rfl zddX12_readAll_37 rfl
theorem dX12_readAll_59 : decode cX12_readAll 59 = .ok (.return_, 1) := dq_get (L := lzddX12_readAll_37) 9 rfl zddX12_readAll_37 rfl
def lzddX12_readAlmanac_0 : List (Nat × Instr × Nat) := [(0, .aload_n 0, 1), (1, .getfield 188, 3), (4, .getfield 302, 3), (7, .ifCond .eq 8, 3), (10, .aload_n 0, 1), (11, .iconst 3, 1), (12, .invokevirtual 145, 3), (15, .aload_n 0, 1), (16, .iconst 0, 1), (17, .iconst 1, 1), (18, .invokevirtual 268, 3), (21, .aload_n 0, 1), (22, .aload_n 0, 1), (23, .getfield 188, 3), (26, .getfield 306, 3), (29, .iconst 0, 1), (30, .bipush 8, 2), (32, .invokevirtual 308, 3), (35, .istore_n 1, 1), (36, .aload_n 0, 1)]
theorem zddX12_readAlmanac_0 : dqW lzddX12_readAlmanac_0 (cX12_readAlmanac.data.toList.drop 0) 0 = true := by decide +kernel
theorem dX12_readAlmanac_0 : decode cX12_readAlmanac 0 = .ok (.aload_n 0, 1) := dq_get (L := lzddX12_readAlmanac_0) 0 rfl zddX12_readAlmanac_0 rfl
theorem dX12_readAlmanac_1 : decode cX12_readAlmanac 1 = .ok (.getfield 188, 3) := dq_get (L := lzddX12_readAlmanac_0) 1 rfl zddX12_readAlmanac_0 rfl
theorem dX12_readAlmanac_4 : decode cX12_readAlmanac 4 = .ok (.getfield 302, 3) := dq_get (L := lzddX12_readAlmanac_0) 2 rfl zddX12_readAlmanac_0 rfl
theorem dX12_readAlmanac_7 : decode cX12_readAlmanac 7 = .ok (.ifCond .eq 8, 3) := dq_get (L := lzddX12_readAlmanac_0) 3 rfl zddX12_readAlmanac_0 rfl
theorem dX12_readAlmanac_10 : decode cX12_readAlmanac 10 = .ok (.aload_n 0, 1) := dq_get (L := lzddX12_readAlmanac_0) 4 rfl zddX12_readAlmanac_0 rfl
theorem dX12_readAlmanac_11 : decode cX12_readAlmanac 11 = .ok (.iconst 3, 1) := dq_get (L := lzddX12_readAlmanac_0) 5 rfl zddX12_readAlmanac_0 rfl
theorem dX12_readAlmanac_12 : decode cX12_readAlmanac 12 = .ok (.invokevirtual 145, 3) := dq_get (L := lzddX12_readAlmanac_0) 6 rfl zddX12_readAlmanac_0 rfl
theorem dX12_readAlmanac_15 : decode cX12_readAlmanac 15 = .ok (.aload_n 0, 1) := dq_get (L := lzddX12_readAlmanac_0) 7 rfl zddX12_readAlmanac_0 rfl
theorem dX12_readAlmanac_16 : decode cX12_readAlmanac 16 = .ok (.iconst 0, 1) := dq_get (L := lzddX12_readAlmanac_0) 8 rfl zddX12_readAlmanac_0 rfl
theorem dX12_readAlmanac_17 : decode cX12_readAlmanac 17 = .ok (.iconst 1, 1) := dq_get (L := lzddX12_readAlmanac_0) 9 rfl zddX12_readAlmanac_0 rfl
theorem dX12_readAlmanac_18 : decode cX12_readAlmanac 18 = .ok (.invokevirtual 268, 3) := dq_get (L := lzddX12_readAlmanac_0) 10 rfl zddX12_readAlmanac_0 rfl
theorem dX12_readAlmanac_21 : decode cX12_readAlmanac 21 = .ok (.aload_n 0, 1) := dq_get (L := lzddX12_readAlmanac_0) 11 rfl zddX12_readAlmanac_0 rfl
theorem dX12_readAlmanac_22 : decode cX12_readAlmanac 22 = .ok (.aload_n 0, 1) := dq_get (L := lzddX12_readAlmanac_0) 12 rfl zddX12_readAlmanac_0 rfl
theorem dX12_readAlmanac_23 : decode cX12_readAlmanac 23 = .ok (.getfield 188, 3) := dq_get (L := lzddX12_readAlmanac_0) 13 rfl zddX12_readAlmanac_0 rfl
theorem dX12_readAlmanac_26 : decode cX12_readAlmanac 26 = .ok (.getfield 306, 3) := dq_get (L := lzddX12_readAlmanac_0) 14 rfl zddX12_readAlmanac_0 rfl
theorem dX12_readAlmanac_29 : decode cX12_readAlmanac 29 = .ok (.iconst 0, 1) := dq_get (L := lzddX12_readAlmanac_0) 15 rfl zddX12_readAlmanac_0 rfl
theorem dX12_readAlmanac_30 : decode cX12_readAlmanac 30 = .ok (.bipush 8, 2) := dq_get (L := lzddX12_readAlmanac_0) 16 rfl zddX12_readAlmanac_0 rfl
theorem dX12_readAlmanac_32 : decode cX12_readAlmanac 32 = .ok (.invokevirtual 308, 3) := dq_get (L := lzddX12_readAlmanac_0) 17 rfl zddX12_readAlmanac_0 rfl
theorem dX12_readAlmanac_35 : decode cX12_readAlmanac 35 = .ok (.istore_n 1, 1) := dq_get (L := lzddX12_readAlmanac_0) 18 rfl zddX12_readAlmanac_0 rfl
theorem dX12_readAlmanac_36 : decode cX12_readAlmanac 36 = .ok (.aload_n 0, 1) := dq_get (L := lzddX12_readAlmanac_0) 19 rfl zddX12_readAlmanac_0 rfl
def lzddX12_readAlmanac_37 : List (Nat × Instr × Nat) := [(37, .getfield 99, 3), (40, .iconst 5, 1), (41, .if_icmp .ne 4, 3), (44, .return_, 1), (45, .aload_n 0, 1), (46, .getfield 188, 3), (49, .iload_n 1, 1), (50, .putfield 312, 3), (53, .aload_n 0, 1), (54, .getfield 188, 3), (57, .iconst 1, 1), (58, .putfield 302, 3), (61, .return_, 1)]
theorem zddX12_readAlmanac_37 : dqW lzddX12_readAlmanac_37 (cX12_readAlmanac.data.toList.drop 37) 37 = true := by decide +kernel
theorem dX12_readAlmanac_37 : decode cX12_readAlmanac 37 = .ok (.getfield 99, 3) := dq_get (L := lzddX12_readAlmanac_37) 0 rfl zddX12_readAlmanac_37 rfl
theorem dX12_readAlmanac_40 : decode cX12_readAlmanac 40 = .ok (.iconst 5, 1) := dq_get (L := lzddX12_readAlmanac_37) 1 rfl zddX12_readAlmanac_37 rfl
theorem dX12_readAlmanac_41 : decode cX12_readAlmanac 41 = .ok (.if_icmp .ne 4, 3) := dq_get (L := lzddX12_readAlmanac_37) 2 rfl zddX12_readAlmanac_37 rfl
theorem dX12_readAlmanac_44 : decode cX12_readAlmanac 44 = .ok (.return_, 1) := dq_get (L := lzddX12_readAlmanac_37) 3 rfl zddX12_readAlmanac_37 rfl
theorem dX12_readAlmanac_45 : decode cX12_readAlmanac 45 = .ok (.aload_n 0, 1) := dq_get (L := lzddX12_readAlmanac_37) 4 rfl zddX12_readAlmanac_37 rfl
theorem dX12_readAlmanac_46 : decode cX12_readAlmanac 46 = .ok (.getfield 188, 3) := dq_get (L := lzddX12_readAlmanac_37) 5 rfl zddX12_readAlmanac_37 rfl
theorem dX12_readAlmanac_49 : decode cX12_readAlmanac 49 = .ok (.iload_n 1, 1) := dq_get (L := lzddX12_readAlmanac_37) 6 rfl zddX12_readAlmanac_37 rfl
theorem dX12_readAlmanac_50 : decode cX12_readAlmanac 50 = .ok (.putfield 312, 3) := dq_get (L := lzddX12_readAlmanac_37) 7 rfl zddX12_readAlmanac_37 rfl
theorem dX12_readAlmanac_53 : decode cX12_readAlmanac 53 = .ok (.aload_n 0, 1) := dq_get (L := lzddX12_readAlmanac_37) 8 rfl zddX12_readAlmanac_37 rfl
theorem dX12_readAlmanac_54 : decode cX12_readAlmanac 54 = .ok (.getfield 188, 3) := dq_get (L := lzddX12_readAlmanac_37) 9 rfl zddX12_readAlmanac_37 rfl
theorem dX12_readAlmanac_57 : decode cX12_readAlmanac 57 = .ok (.iconst 1, 1) := dq_get (L := lzddX12_readAlmanac_37) 10 rfl zddX12_readAlmanac_37 rfl
theorem dX12_readAlmanac_58 : decode cX12_readAlmanac 58 = .ok (.putfield 302, 3) := dq_get (L := lzddX12_readAlmanac_37) 11 rfl zddX12_readAlmanac_37 rfl
theorem dX12_readAlmanac_61 : decode cX12_readAlmanac 61 = .ok (.return_, 1) := dq_get (L := lzddX12_readAlmanac_37) 12 rfl zddX12_readAlmanac_37 rfl
def lzddX12_readAlp_0 : List (Nat × Instr × Nat) := [(0, .aload_n 0, 1), (1, .getfield 188, 3), (4, .getfield 192, 3), (7, .ifCond .le 8, 3), (10, .aload_n 0, 1), (11, .iconst 3, 1), (12, .invokevirtual 145, 3), (15, .aload_n 0, 1), (16, .invokevirtual 142, 3), (19, .aload_n 0, 1), (20, .ldc 248, 2), (22, .bipush 10, 2), (24, .sipush 240, 3), (27, .invokevirtual 249, 3), (30, .istore_n 1, 1), (31, .aload_n 0, 1), (32, .ldc 253, 2), (34, .iconst 1, 1), (35, .iconst 4, 1), (36, .invokevirtual 249, 3)]
theorem zddX12_readAlp_0 : dqW lzddX12_readAlp_0 (cX12_readAlp.data.toList.drop 0) 0 = true := by decide +kernel
theorem dX12_readAlp_0 : decode cX12_readAlp 0 = .ok (.aload_n 0, 1) := dq_get (L := lzddX12_readAlp_0) 0 rfl zddX12_readAlp_0 rfl
theorem dX12_readAlp_1 : decode cX12_readAlp 1 = .ok (.getfield 188, 3) := dq_get (L := lzddX12_readAlp_0) 1 rfl zddX12_readAlp_0 rfl
theorem dX12_readAlp_4 : decode cX12_readAlp 4 = .ok (.getfield 192, 3) := dq_get (L := lzddX12_readAlp_0) 2 rfl zddX12_readAlp_0 rfl
theorem dX12_readAlp_7 : decode cX12_readAlp 7 = .ok (.ifCond .le 8, 3) := dq_get (L := lzddX12_readAlp_0) 3 rfl zddX12_readAlp_0 rfl
theorem dX12_readAlp_10 : decode cX12_readAlp 10 = .ok (.aload_n 0, 1) := dq_get (L := lzddX12_readAlp_0) 4 rfl zddX12_readAlp_0 rfl
theorem dX12_readAlp_11 : decode cX12_readAlp 11 = .ok (.iconst 3, 1) := dq_get (L := lzddX12_readAlp_0) 5 rfl zddX12_readAlp_0 rfl
theorem dX12_readAlp_12 : decode cX12_readAlp 12 = .ok (.invokevirtual 145, 3) := dq_get (L := lzddX12_readAlp_0) 6 rfl zddX12_readAlp_0 rfl
theorem dX12_readAlp_15 : decode cX12_readAlp 15 = .ok (.aload_n 0, 1) := dq_get (L := lzddX12_readAlp_0) 7 rfl zddX12_readAlp_0 rfl
theorem dX12_readAlp_16 : decode cX12_readAlp 16 = .ok (.invokevirtual 142, 3) := dq_get (L := lzddX12_readAlp_0) 8 rfl zddX12_readAlp_0 rfl
theorem dX12_readAlp_19 : decode cX12_readAlp 19 = .ok (.aload_n 0, 1) := dq_get (L := lzddX12_readAlp_0) 9 rfl zddX12_readAlp_0 rfl
theorem dX12_readAlp_20 : decode cX12_readAlp 20 = .ok (.ldc 248, 2) := dq_get (L := lzddX12_readAlp_0) 10 rfl zddX12_readAlp_0 rfl
theorem dX12_readAlp_22 : decode cX12_readAlp 22 = .ok (.bipush 10, 2) := dq_get (L := lzddX12_readAlp_0) 11 rfl zddX12_readAlp_0 rfl
theorem dX12_readAlp_24 : decode cX12_readAlp 24 = .ok (.sipush 240, 3) := dq_get (L := lzddX12_readAlp_0) 12 rfl zddX12_readAlp_0 rfl
theorem dX12_readAlp_27 : decode cX12_readAlp 27 = .ok (.invokevirtual 249, 3) := dq_get (L := lzddX12_readAlp_0) 13 rfl zddX12_readAlp_0 rfl
theorem dX12_readAlp_30 : decode cX12_readAlp 30 = .ok (.istore_n 1, 1) := dq_get (L := lzddX12_readAlp_0) 14 rfl zddX12_readAlp_0 rfl
theorem dX12_readAlp_31 : decode cX12_readAlp 31 = .ok (.aload_n 0, 1) := dq_get (L := lzddX12_readAlp_0) 15 rfl zddX12_readAlp_0 rfl
theorem dX12_readAlp_32 : decode cX12_readAlp 32 = .ok (.ldc 253, 2) := dq_get (L := lzddX12_readAlp_0) 16 rfl zddX12_readAlp_0 rfl
theorem dX12_readAlp_34 : decode cX12_readAlp 34 = .ok (.iconst 1, 1) := dq_get (L := lzddX12_readAlp_0) 17 rfl zddX12_readAlp_0 rfl
theorem dX12_readAlp_35 : decode cX12_readAlp 35 = .ok (.iconst 4, 1) := dq_get (L := lzddX12_readAlp_0) 18 rfl zddX12_readAlp_0 rfl
theorem dX12_readAlp_36 : decode cX12_readAlp 36 = .ok (.invokevirtual 249, 3) := dq_get (L := lzddX12_readAlp_0) 19 rfl zddX12_readAlp_0 rfl
def lzddX12_readAlp_39 : List (Nat × Instr × Nat) := [(39, .istore_n 2, 1), (40, .aload_n 0, 1), (41, .ldc 255, 2), (43, .invokevirtual 157, 3), (46, .iconst 0, 1), (47, .istore_n 3, 1), (48, .iload_n 3, 1), (49, .iconst 5, 1), (50, .if_icmp .ge 35, 3), (53, .iload_n 3, 1), (54, .ifCond .le 9, 3), (57, .aload_n 0, 1), (58, .bipush 44, 2), (60, .invokevirtual 257, 3), (63, .aload_n 0, 1), (64, .getfield 188, 3), (67, .getfield 260, 3), (70, .iload_n 3, 1), (71, .aload_n 0, 1), (72, .iconst 0, 1)]
theorem zddX12_readAlp_39 : dqW lzddX12_readAlp_39 (cX12_readAlp.data.toList.drop 39) 39 = true := by decide +kernel
theorem dX12_readAlp_39 : decode cX12_readAlp 39 = .ok (.istore_n 2, 1) := dq_get (L := lzddX12_readAlp_39) 0 rfl zddX12_readAlp_39 rfl
theorem dX12_readAlp_40 : decode cX12_readAlp 40 = .ok (.aload_n 0, 1) := dq_get (L := lzddX12_readAlp_39) 1 rfl zddX12_readAlp_39 rfl
theorem dX12_readAlp_41 : decode cX12_readAlp 41 = .ok (.ldc 255, 2) := dq_get (L := lzddX12_readAlp_39) 2 rfl zddX12_readAlp_39 rfl
theorem dX12_readAlp_43 : decode cX12_readAlp 43 = .ok (.invokevirtual 157, 3) := dq_get (L := lzddX12_readAlp_39) 3 rfl zddX12_readAlp_39 rfl
theorem dX12_readAlp_46 : decode cX12_readAlp 46 = .ok (.iconst 0, 1) := dq_get (L := lzddX12_readAlp_39) 4 rfl zddX12_readAlp_39 rfl
theorem dX12_readAlp_47 : decode cX12_readAlp 47 = .ok (.istore_n 3, 1) := dq_get (L := lzddX12_readAlp_39) 5 rfl zddX12_readAlp_39 rfl
theorem dX12_readAlp_48 : decode cX12_readAlp 48 = .ok (.iload_n 3, 1) := dq_get (L := lzddX12_readAlp_39) 6 rfl zddX12_readAlp_39 rfl
theorem dX12_readAlp_49 : decode cX12_readAlp 49 = .ok (.iconst 5, 1) := dq_get (L := lzddX12_readAlp_39) 7 rfl zddX12_readAlp_39 rfl
theorem dX12_readAlp_50 : decode cX12_readAlp 50 = .ok (.if_icmp .ge 35, 3) := dq_get (L := lzddX12_readAlp_39) 8 rfl zddX12_readAlp_39 rfl
theorem dX12_readAlp_53 : decode cX12_readAlp 53 = .ok (.iload_n 3, 1) := dq_get (L := lzddX12_readAlp_39) 9 rfl zddX12_readAlp_39 rfl
theorem dX12_readAlp_54 : decode cX12_readAlp 54 = .ok (.ifCond .le 9, 3) := dq_get (L := lzddX12_readAlp_39) 10 rfl zddX12_readAlp_39 rfl
theorem dX12_readAlp_57 : decode cX12_readAlp 57 = .ok (.aload_n 0, 1) := dq_get (L := lzddX12_readAlp_39) 11 rfl zddX12_readAlp_39 rfl
theorem dX12_readAlp_58 : decode cX12_readAlp 58 = .ok (.bipush 44, 2) := dq_get (L := lzddX12_readAlp_39) 12 rfl zddX12_readAlp_39 rfl
theorem dX12_readAlp_60 : decode cX12_readAlp 60 = .ok (.invokevirtual 257, 3) := dq_get (L := lzddX12_readAlp_39) 13 rfl zddX12_readAlp_39 rfl
theorem dX12_readAlp_63 : decode cX12_readAlp 63 = .ok (.aload_n 0, 1) := dq_get (L := lzddX12_readAlp_39) 14 rfl zddX12_readAlp_39 rfl
theorem dX12_readAlp_64 : decode cX12_readAlp 64 = .ok (.getfield 188, 3) := dq_get (L := lzddX12_readAlp_39) 15 rfl zddX12_readAlp_39 rfl
theorem dX12_readAlp_67 : decode cX12_readAlp 67 = .ok (.getfield 260, 3) := dq_get (L := lzddX12_readAlp_39) 16 rfl zddX12_readAlp_39 rfl
theorem dX12_readAlp_70 : decode cX12_readAlp 70 = .ok (.iload_n 3, 1) := dq_get (L := lzddX12_readAlp_39) 17 rfl zddX12_readAlp_39 rfl
theorem dX12_readAlp_71 : decode cX12_readAlp 71 = .ok (.aload_n 0, 1) := dq_get (L := lzddX12_readAlp_39) 18 rfl zddX12_readAlp_39 rfl
theorem dX12_readAlp_72 : decode cX12_readAlp 72 = .ok (.iconst 0, 1) := dq_get (L := lzddX12_readAlp_39) 19 rfl zddX12_readAlp_39 rfl
def lzddX12_readAlp_73 : List (Nat × Instr × Nat) := [(73, .bipush 99, 2), (75, .invokevirtual 161, 3), (78, .iastore, 1), (79, .iinc 3 1, 3), (82, .goto (-34), 3), (85, .aload_n 0, 1), (86, .getfield 99, 3), (89, .iconst 5, 1), (90, .if_icmp .ne 4, 3), (93, .return_, 1), (94, .aload_n 0, 1), (95, .getfield 188, 3), (98, .iload_n 1, 1), (99, .putfield 192, 3), (102, .aload_n 0, 1), (103, .getfield 188, 3), (106, .iload_n 2, 1), (107, .putfield 263, 3), (110, .return_, 1)]
theorem zddX12_readAlp_73 : dqW lzddX12_readAlp_73 (cX12_readAlp.data.toList.drop 73) 73 = true := by decide +kernel
theorem dX12_readAlp_73 : decode cX12_readAlp 73 = .ok (.bipush 99, 2) := dq_get (L := lzddX12_readAlp_73) 0 rfl zddX12_readAlp_73 rfl
theorem dX12_readAlp_75 : decode cX12_readAlp 75 = .ok (.invokevirtual 161, 3) := dq_get (L := lzddX12_readAlp_73) 1 rfl zddX12_readAlp_73 rfl
theorem dX12_readAlp_78 : decode cX12_readAlp 78 = .ok (.iastore, 1) := dq_get (L := lzddX12_readAlp_73) 2 rfl zddX12_readAlp_73 rfl
theorem dX12_readAlp_79 : decode cX12_readAlp 79 = .ok (.iinc 3 1, 3) := dq_get (L := lzddX12_readAlp_73) 3 rfl zddX12_readAlp_73 rfl
theorem dX12_readAlp_82 : decode cX12_readAlp 82 = .ok (.goto (-34), 3) := dq_get (L := lzddX12_readAlp_73) 4 rfl zddX12_readAlp_73 rfl
theorem dX12_readAlp_85 : decode cX12_readAlp 85 = .ok (.aload_n 0, 1) := dq_get (L := lzddX12_readAlp_73) 5 rfl zddX12_readAlp_73 rfl
theorem dX12_readAlp_86 : decode cX12_readAlp 86 = .ok (.getfield 99, 3) := dq_get (L := lzddX12_readAlp_73) 6 rfl zddX12_readAlp_73 rfl
theorem dX12_readAlp_89 : decode cX12_readAlp 89 = .ok (.iconst 5, 1) := dq_get (L := lzddX12_readAlp_73) 7 rfl zddX12_readAlp_73 rfl
theorem dX12_readAlp_90 : decode cX12_readAlp 90 = .ok (.if_icmp .ne 4, 3) := dq_get (L := lzddX12_readAlp_73) 8 rfl zddX12_readAlp_73 rfl
theorem dX12_readAlp_93 : decode cX12_readAlp 93 = .ok (.return_, 1) := dq_get (L := lzddX12_readAlp_73) 9 rfl zddX12_readAlp_73 rfl
theorem dX12_readAlp_94 : decode cX12_readAlp 94 = .ok (.aload_n 0, 1) := dq_get (L := lzddX12_readAlp_73) 10 rfl zddX12_readAlp_73 rfl
theorem dX12_readAlp_95 : decode cX12_readAlp 95 = .ok (.getfield 188, 3) := dq_get (L := lzddX12_readAlp_73) 11 rfl zddX12_readAlp_73 rfl
theorem dX12_readAlp_98 : decode cX12_readAlp 98 = .ok (.iload_n 1, 1) := dq_get (L := lzddX12_readAlp_73) 12 rfl zddX12_readAlp_73 rfl
theorem dX12_readAlp_99 : decode cX12_readAlp 99 = .ok (.putfield 192, 3) := dq_get (L := lzddX12_readAlp_73) 13 rfl zddX12_readAlp_73 rfl
theorem dX12_readAlp_102 : decode cX12_readAlp 102 = .ok (.aload_n 0, 1) := dq_get (L := lzddX12_readAlp_73) 14 rfl zddX12_readAlp_73 rfl
theorem dX12_readAlp_103 : decode cX12_readAlp 103 = .ok (.getfield 188, 3) := dq_get (L := lzddX12_readAlp_73) 15 rfl zddX12_readAlp_73 rfl
theorem dX12_readAlp_106 : decode cX12_readAlp 106 = .ok (.iload_n 2, 1) := dq_get (L := lzddX12_readAlp_73) 16 rfl zddX12_readAlp_73 rfl
theorem dX12_readAlp_107 : decode cX12_readAlp 107 = .ok (.putfield 263, 3) := dq_get (L := lzddX12_readAlp_73) 17 rfl zddX12_readAlp_73 rfl
theorem dX12_readAlp_110 : decode cX12_readAlp 110 = .ok (.return_, 1) := dq_get (L := lzddX12_readAlp_73) 18 rfl zddX12_readAlp_73 rfl
def lzddX12_readCall_0 : List (Nat × Instr × Nat) := [(0, .aload_n 0, 1), (1, .aload_n 0, 1), (2, .getfield 188, 3), (5, .getfield 349, 3), (8, .bipush 6, 2), (10, .invokevirtual 268, 3), (13, .aload_n 0, 1), (14, .invokevirtual 197, 3), (17, .ifCond .ne 8, 3), (20, .aload_n 0, 1), (21, .iconst 1, 1), (22, .invokevirtual 145, 3), (25, .aload_n 0, 1), (26, .getfield 188, 3), (29, .aload_n 0, 1), (30, .getfield 118, 3), (33, .invokevirtual 201, 3), (36, .istore_n 1, 1), (37, .iload_n 1, 1), (38, .iconst (-1), 1)]
theorem zddX12_readCall_0 : dqW lzddX12_readCall_0 (cX12_readCall.data.toList.drop 0) 0 = true := by decide +kernel
theorem dX12_readCall_0 : decode cX12_readCall 0 = .ok (.aload_n 0, 1) := dq_get (L := lzddX12_readCall_0) 0 rfl zddX12_readCall_0 rfl
theorem dX12_readCall_1 : decode cX12_readCall 1 = .ok (.aload_n 0, 1) := dq_get (L := lzddX12_readCall_0) 1 rfl zddX12_readCall_0 rfl
theorem dX12_readCall_2 : decode cX12_readCall 2 = .ok (.getfield 188, 3) := dq_get (L := lzddX12_readCall_0) 2 rfl zddX12_readCall_0 rfl
theorem dX12_readCall_5 : decode cX12_readCall 5 = .ok (.getfield 349, 3) := dq_get (L := lzddX12_readCall_0) 3 rfl zddX12_readCall_0 rfl
theorem dX12_readCall_8 : decode cX12_readCall 8 = .ok (.bipush 6, 2) := dq_get (L := lzddX12_readCall_0) 4 rfl zddX12_readCall_0 rfl
theorem dX12_readCall_10 : decode cX12_readCall 10 = .ok (.invokevirtual 268, 3) := dq_get (L := lzddX12_readCall_0) 5 rfl zddX12_readCall_0 rfl
theorem dX12_readCall_13 : decode cX12_readCall 13 = .ok (.aload_n 0, 1) := dq_get (L := lzddX12_readCall_0) 6 rfl zddX12_readCall_0 rfl
theorem dX12_readCall_14 : decode cX12_readCall 14 = .ok (.invokevirtual 197, 3) := dq_get (L := lzddX12_readCall_0) 7 rfl zddX12_readCall_0 rfl
theorem dX12_readCall_17 : decode cX12_readCall 17 = .ok (.ifCond .ne 8, 3) := dq_get (L := lzddX12_readCall_0) 8 rfl zddX12_readCall_0 rfl
theorem dX12_readCall_20 : decode cX12_readCall 20 = .ok (.aload_n 0, 1) := dq_get (L := lzddX12_readCall_0) 9 rfl zddX12_readCall_0 rfl
theorem dX12_readCall_21 : decode cX12_readCall 21 = .ok (.iconst 1, 1) := dq_get (L := lzddX12_readCall_0) 10 rfl zddX12_readCall_0 rfl
theorem dX12_readCall_22 : decode cX12_readCall 22 = .ok (.invokevirtual 145, 3) := dq_get (L := lzddX12_readCall_0) 11 rfl zddX12_readCall_0 rfl
theorem dX12_readCall_25 : decode cX12_readCall 25 = .ok (.aload_n 0, 1) := dq_get (L := lzddX12_readCall_0) 12 rfl zddX12_readCall_0 rfl
theorem dX12_readCall_26 : decode cX12_readCall 26 = .ok (.getfield 188, 3) := dq_get (L := lzddX12_readCall_0) 13 rfl zddX12_readCall_0 rfl
theorem dX12_readCall_29 : decode cX12_readCall 29 = .ok (.aload_n 0, 1) := dq_get (L := lzddX12_readCall_0) 14 rfl zddX12_readCall_0 rfl
theorem dX12_readCall_30 : decode cX12_readCall 30 = .ok (.getfield 118, 3) := dq_get (L := lzddX12_readCall_0) 15 rfl zddX12_readCall_0 rfl
theorem dX12_readCall_33 : decode cX12_readCall 33 = .ok (.invokevirtual 201, 3) := dq_get (L := lzddX12_readCall_0) 16 rfl zddX12_readCall_0 rfl
theorem dX12_readCall_36 : decode cX12_readCall 36 = .ok (.istore_n 1, 1) := dq_get (L := lzddX12_readCall_0) 17 rfl zddX12_readCall_0 rfl
theorem dX12_readCall_37 : decode cX12_readCall 37 = .ok (.iload_n 1, 1) := dq_get (L := lzddX12_readCall_0) 18 rfl zddX12_readCall_0 rfl
theorem dX12_readCall_38 : decode cX12_readCall 38 = .ok (.iconst (-1), 1) := dq_get (L := lzddX12_readCall_0) 19 rfl zddX12_readCall_0 rfl
def lzddX12_readCall_39 : List (Nat × Instr × Nat) := [(39, .if_icmp .eq 16, 3), (42, .aload_n 0, 1), (43, .getfield 188, 3), (46, .getfield 212, 3), (49, .iload_n 1, 1), (50, .iaload, 1), (51, .iconst 1, 1), (52, .if_icmp .eq 8, 3), (55, .aload_n 0, 1), (56, .iconst 2, 1), (57, .invokevirtual 145, 3), (60, .aload_n 0, 1), (61, .getfield 99, 3), (64, .iconst 5, 1), (65, .if_icmp .ne 7, 3), (68, .iconst 0, 1), (69, .goto 12, 3), (72, .aload_n 0, 1), (73, .getfield 188, 3), (76, .getfield 215, 3)]
theorem zddX12_readCall_39 : dqW lzddX12_readCall_39 (cX12_readCall.data.toList.drop 39) 39 = true := by decide +kernel
theorem dX12_readCall_39 : decode cX12_readCall 39 = .ok (.if_icmp .eq 16, 3) := dq_get (L := lzddX12_readCall_39) 0 rfl zddX12_readCall_39 rfl
theorem dX12_readCall_42 : decode cX12_readCall 42 = .ok (.aload_n 0, 1) := dq_get (L := lzddX12_readCall_39) 1 rfl zddX12_readCall_39 rfl
theorem dX12_readCall_43 : decode cX12_readCall 43 = .ok (.getfield 188, 3) := dq_get (L := lzddX12_readCall_39) 2 rfl zddX12_readCall_39 rfl
theorem dX12_readCall_46 : decode cX12_readCall 46 = .ok (.getfield 212, 3) := dq_get (L := lzddX12_readCall_39) 3 rfl zddX12_readCall_39 rfl
theorem dX12_readCall_49 : decode cX12_readCall 49 = .ok (.iload_n 1, 1) := dq_get (L := lzddX12_readCall_39) 4 rfl zddX12_readCall_39 rfl
theorem dX12_readCall_50 : decode cX12_readCall 50 = .ok (.iaload, 1) := dq_get (L := lzddX12_readCall_39) 5 rfl zddX12_readCall_39 rfl
theorem dX12_readCall_51 : decode cX12_readCall 51 = .ok (.iconst 1, 1) := dq_get (L := lzddX12_readCall_39) 6 rfl zddX12_readCall_39 rfl
theorem dX12_readCall_52 : decode cX12_readCall 52 = .ok (.if_icmp .eq 8, 3) := dq_get (L := lzddX12_readCall_39) 7 rfl zddX12_readCall_39 rfl
theorem dX12_readCall_55 : decode cX12_readCall 55 = .ok (.aload_n 0, 1) := dq_get (L := lzddX12_readCall_39) 8 rfl zddX12_readCall_39 rfl
theorem dX12_readCall_56 : decode cX12_readCall 56 = .ok (.iconst 2, 1) := dq_get (L := lzddX12_readCall_39) 9 rfl zddX12_readCall_39 rfl
theorem dX12_readCall_57 : decode cX12_readCall 57 = .ok (.invokevirtual 145, 3) := dq_get (L := lzddX12_readCall_39) 10 rfl zddX12_readCall_39 rfl
theorem dX12_readCall_60 : decode cX12_readCall 60 = .ok (.aload_n 0, 1) := dq_get (L := lzddX12_readCall_39) 11 rfl zddX12_readCall_39 rfl
theorem dX12_readCall_61 : decode cX12_readCall 61 = .ok (.getfield 99, 3) := dq_get (L := lzddX12_readCall_39) 12 rfl zddX12_readCall_39 rfl
theorem dX12_readCall_64 : decode cX12_readCall 64 = .ok (.iconst 5, 1) := dq_get (L := lzddX12_readCall_39) 13 rfl zddX12_readCall_39 rfl
theorem dX12_readCall_65 : decode cX12_readCall 65 = .ok (.if_icmp .ne 7, 3) := dq_get (L := lzddX12_readCall_39) 14 rfl zddX12_readCall_39 rfl
theorem dX12_readCall_68 : decode cX12_readCall 68 = .ok (.iconst 0, 1) := dq_get (L := lzddX12_readCall_39) 15 rfl zddX12_readCall_39 rfl
theorem dX12_readCall_69 : decode cX12_readCall 69 = .ok (.goto 12, 3) := dq_get (L := lzddX12_readCall_39) 16 rfl zddX12_readCall_39 rfl
theorem dX12_readCall_72 : decode cX12_readCall 72 = .ok (.aload_n 0, 1) := dq_get (L := lzddX12_readCall_39) 17 rfl zddX12_readCall_39 rfl
theorem dX12_readCall_73 : decode cX12_readCall 73 = .ok (.getfield 188, 3) := dq_get (L := lzddX12_readCall_39) 18 rfl zddX12_readCall_39 rfl
theorem dX12_readCall_76 : decode cX12_readCall 76 = .ok (.getfield 215, 3) := dq_get (L := lzddX12_readCall_39) 19 rfl zddX12_readCall_39 rfl
def lzddX12_readCall_79 : List (Nat × Instr × Nat) := [(79, .iload_n 1, 1), (80, .iaload, 1), (81, .istore_n 2, 1), (82, .aload_n 0, 1), (83, .invokevirtual 142, 3), (86, .aload_n 0, 1), (87, .ldc_w 352, 3), (90, .iconst 0, 1), (91, .aload_n 0, 1), (92, .getfield 188, 3), (95, .getfield 192, 3), (98, .iconst 1, 1), (99, .isub, 1), (100, .invokevirtual 249, 3), (103, .istore_n 3, 1), (104, .aload_n 0, 1), (105, .ldc_w 354, 3), (108, .iconst 1, 1), (109, .bipush 60, 2), (111, .invokevirtual 249, 3)]
theorem zddX12_readCall_79 : dqW lzddX12_readCall_79 (cX12_readCall.data.toList.drop 79) 79 = true := by decide +kernel
theorem dX12_readCall_79 : decode cX12_readCall 79 = .ok (.iload_n 1, 1) := dq_get (L := lzddX12_readCall_79) 0 rfl zddX12_readCall_79 rfl
theorem dX12_readCall_80 : decode cX12_readCall 80 = .ok (.iaload, 1) := dq_get (L := lzddX12_readCall_79) 1 rfl zddX12_readCall_79 rfl
theorem dX12_readCall_81 : decode cX12_readCall 81 = .ok (.istore_n 2, 1) := dq_get (L := lzddX12_readCall_79) 2 rfl zddX12_readCall_79 rfl
theorem dX12_readCall_82 : decode cX12_readCall 82 = .ok (.aload_n 0, 1) := dq_get (L := lzddX12_readCall_79) 3 rfl zddX12_readCall_79 rfl
theorem dX12_readCall_83 : decode cX12_readCall 83 = .ok (.invokevirtual 142, 3) := dq_get (L := lzddX12_readCall_79) 4 rfl zddX12_readCall_79 rfl
theorem dX12_readCall_86 : decode cX12_readCall 86 = .ok (.aload_n 0, 1) := dq_get (L := lzddX12_readCall_79) 5 rfl zddX12_readCall_79 rfl
theorem dX12_readCall_87 : decode cX12_readCall 87 = .ok (.ldc_w 352, 3) := dq_get (L := lzddX12_readCall_79) 6 rfl zddX12_readCall_79 rfl
theorem dX12_readCall_90 : decode cX12_readCall 90 = .ok (.iconst 0, 1) := dq_get (L := lzddX12_readCall_79) 7 rfl zddX12_readCall_79 rfl
theorem dX12_readCall_91 : decode cX12_readCall 91 = .ok (.aload_n 0, 1) := dq_get (L := lzddX12_readCall_79) 8 rfl zddX12_readCall_79 rfl
theorem dX12_readCall_92 : decode cX12_readCall 92 = .ok (.getfield 188, 3) := dq_get (L := lzddX12_readCall_79) 9 rfl zddX12_readCall_79 rfl
theorem dX12_readCall_95 : decode cX12_readCall 95 = .ok (.getfield 192, 3) := dq_get (L := lzddX12_readCall_79) 10 rfl zddX12_readCall_79 rfl
theorem dX12_readCall_98 : decode cX12_readCall 98 = .ok (.iconst 1, 1) := dq_get (L := lzddX12_readCall_79) 11 rfl zddX12_readCall_79 rfl
theorem dX12_readCall_99 : decode cX12_readCall 99 = .ok (.isub, 1) := dq_get (L := lzddX12_readCall_79) 12 rfl zddX12_readCall_79 rfl
theorem dX12_readCall_100 : decode cX12_readCall 100 = .ok (.invokevirtual 249, 3) := dq_get (L := lzddX12_readCall_79) 13 rfl zddX12_readCall_79 rfl
theorem dX12_readCall_103 : decode cX12_readCall 103 = .ok (.istore_n 3, 1) := dq_get (L := lzddX12_readCall_79) 14 rfl zddX12_readCall_79 rfl
theorem dX12_readCall_104 : decode cX12_readCall 104 = .ok (.aload_n 0, 1) := dq_get (L := lzddX12_readCall_79) 15 rfl zddX12_readCall_79 rfl
theorem dX12_readCall_105 : decode cX12_readCall 105 = .ok (.ldc_w 354, 3) := dq_get (L := lzddX12_readCall_79) 16 rfl zddX12_readCall_79 rfl
theorem dX12_readCall_108 : decode cX12_readCall 108 = .ok (.iconst 1, 1) := dq_get (L := lzddX12_readCall_79) 17 rfl zddX12_readCall_79 rfl
theorem dX12_readCall_109 : decode cX12_readCall 109 = .ok (.bipush 60, 2) := dq_get (L := lzddX12_readCall_79) 18 rfl zddX12_readCall_79 rfl
theorem dX12_readCall_111 : decode cX12_readCall 111 = .ok (.invokevirtual 249, 3) := dq_get (L := lzddX12_readCall_79) 19 rfl zddX12_readCall_79 rfl
def lzddX12_readCall_114 : List (Nat × Instr × Nat) := [(114, .istore 4, 2), (116, .aload_n 0, 1), (117, .ldc_w 356, 3), (120, .iconst 0, 1), (121, .bipush 99, 2), (123, .invokevirtual 249, 3), (126, .istore 5, 2), (128, .aload_n 0, 1), (129, .getfield 99, 3), (132, .iconst 5, 1), (133, .if_icmp .ne 4, 3), (136, .return_, 1), (137, .aload_n 0, 1), (138, .getfield 188, 3), (141, .getfield 358, 3), (144, .aload_n 0, 1), (145, .getfield 188, 3), (148, .getfield 349, 3), (151, .iload_n 2, 1), (152, .iastore, 1)]
theorem zddX12_readCall_114 : dqW lzddX12_readCall_114 (cX12_readCall.data.toList.drop 114) 114 = true := by decide +kernel
theorem dX12_readCall_114 : decode cX12_readCall 114 = .ok (.istore 4, 2) := dq_get (L := lzddX12_readCall_114) 0 rfl zddX12_readCall_114 rfl
theorem dX12_readCall_116 : decode cX12_readCall 116 = .ok (.aload_n 0, 1) := dq_get (L := lzddX12_readCall_114) 1 rfl zddX12_readCall_114 rfl
theorem dX12_readCall_117 : decode cX12_readCall 117 = .ok (.ldc_w 356, 3) := dq_get (L := lzddX12_readCall_114) 2 rfl zddX12_readCall_114 rfl
theorem dX12_readCall_120 : decode cX12_readCall 120 = .ok (.iconst 0, 1) := dq_get (L := lzddX12_readCall_114) 3 rfl zddX12_readCall_114 rfl
theorem dX12_readCall_121 : decode cX12_readCall 121 = .ok (.bipush 99, 2) := dq_get (L := lzddX12_readCall_114) 4 rfl zddX12_readCall_114 rfl
theorem dX12_readCall_123 : decode cX12_readCall 123 = .ok (.invokevirtual 249, 3) := dq_get (L := lzddX12_readCall_114) 5 rfl zddX12_readCall_114 rfl
theorem dX12_readCall_126 : decode cX12_readCall 126 = .ok (.istore 5, 2) := dq_get (L := lzddX12_readCall_114) 6 rfl zddX12_readCall_114 rfl
theorem dX12_readCall_128 : decode cX12_readCall 128 = .ok (.aload_n 0, 1) := dq_get (L := lzddX12_readCall_114) 7 rfl zddX12_readCall_114 rfl
theorem dX12_readCall_129 : decode cX12_readCall 129 = .ok (.getfield 99, 3) := dq_get (L := lzddX12_readCall_114) 8 rfl zddX12_readCall_114 rfl
theorem dX12_readCall_132 : decode cX12_readCall 132 = .ok (.iconst 5, 1) := dq_get (L := lzddX12_readCall_114) 9 rfl zddX12_readCall_114 rfl
theorem dX12_readCall_133 : decode cX12_readCall 133 = .ok (.if_icmp .ne 4, 3) := dq_get (L := lzddX12_readCall_114) 10 rfl zddX12_readCall_114 rfl
theorem dX12_readCall_136 : decode cX12_readCall 136 = .ok (.return_, 1) := dq_get (L := lzddX12_readCall_114) 11 rfl zddX12_readCall_114 rfl
theorem dX12_readCall_137 : decode cX12_readCall 137 = .ok (.aload_n 0, 1) := dq_get (L := lzddX12_readCall_114) 12 rfl zddX12_readCall_114 rfl
theorem dX12_readCall_138 : decode cX12_readCall 138 = .ok (.getfield 188, 3) := dq_get (L := lzddX12_readCall_114) 13 rfl zddX12_readCall_114 rfl
theorem dX12_readCall_141 : decode cX12_readCall 141 = .ok (.getfield 358, 3) := dq_get (L := lzddX12_readCall_114) 14 rfl zddX12_readCall_114 rfl
theorem dX12_readCall_144 : decode cX12_readCall 144 = .ok (.aload_n 0, 1) := dq_get (L := lzddX12_readCall_114) 15 rfl zddX12_readCall_114 rfl
theorem dX12_readCall_145 : decode cX12_readCall 145 = .ok (.getfield 188, 3) := dq_get (L := lzddX12_readCall_114) 16 rfl zddX12_readCall_114 rfl
theorem dX12_readCall_148 : decode cX12_readCall 148 = .ok (.getfield 349, 3) := dq_get (L := lzddX12_readCall_114) 17 rfl zddX12_readCall_114 rfl
theorem dX12_readCall_151 : decode cX12_readCall 151 = .ok (.iload_n 2, 1) := dq_get (L := lzddX12_readCall_114) 18 rfl zddX12_readCall_114 rfl
theorem dX12_readCall_152 : decode cX12_readCall 152 = .ok (.iastore, 1) := dq_get (L := lzddX12_readCall_114) 19 rfl zddX12_readCall_114 rfl
def lzddX12_readCall_153 : List (Nat × Instr × Nat) := [(153, .aload_n 0, 1), (154, .getfield 188, 3), (157, .getfield 361, 3), (160, .aload_n 0, 1), (161, .getfield 188, 3), (164, .getfield 349, 3), (167, .iload_n 3, 1), (168, .iastore, 1), (169, .aload_n 0, 1), (170, .getfield 188, 3), (173, .getfield 364, 3), (176, .aload_n 0, 1), (177, .getfield 188, 3), (180, .getfield 349, 3), (183, .iload 4, 2), (185, .iastore, 1), (186, .aload_n 0, 1), (187, .getfield 188, 3), (190, .getfield 367, 3), (193, .aload_n 0, 1)]
theorem zddX12_readCall_153 : dqW lzddX12_readCall_153 (cX12_readCall.data.toList.drop 153) 153 = true := by decide +kernel
theorem dX12_readCall_153 : decode cX12_readCall 153 = .ok (.aload_n 0, 1) := dq_get (L := lzddX12_readCall_153) 0 rfl zddX12_readCall_153 rfl
theorem dX12_readCall_154 : decode cX12_readCall 154 = .ok (.getfield 188, 3) := dq_get (L := lzddX12_readCall_153) 1 rfl zddX12_readCall_153 rfl
theorem dX12_readCall_157 : decode cX12_readCall 157 = .ok (.getfield 361, 3) := dq_get (L := lzddX12_readCall_153) 2 rfl zddX12_readCall_153 rfl
theorem dX12_readCall_160 : decode cX12_readCall 160 = .ok (.aload_n 0, 1) := dq_get (L := lzddX12_readCall_153) 3 rfl zddX12_readCall_153 rfl
theorem dX12_readCall_161 : decode cX12_readCall 161 = .ok (.getfield 188, 3) := dq_get (L := lzddX12_readCall_153) 4 rfl zddX12_readCall_153 rfl
theorem dX12_readCall_164 : decode cX12_readCall 164 = .ok (.getfield 349, 3) := dq_get (L := lzddX12_readCall_153) 5 rfl zddX12_readCall_153 rfl
theorem dX12_readCall_167 : decode cX12_readCall 167 = .ok (.iload_n 3, 1) := dq_get (L := lzddX12_readCall_153) 6 rfl zddX12_readCall_153 rfl
theorem dX12_readCall_168 : decode cX12_readCall 168 = .ok (.iastore, 1) := dq_get (L := lzddX12_readCall_153) 7 rfl zddX12_readCall_153 rfl
theorem dX12_readCall_169 : decode cX12_readCall 169 = .ok (.aload_n 0, 1) := dq_get (L := lzddX12_readCall_153) 8 rfl zddX12_readCall_153 rfl
theorem dX12_readCall_170 : decode cX12_readCall 170 = .ok (.getfield 188, 3) := dq_get (L := lzddX12_readCall_153) 9 rfl zddX12_readCall_153 rfl
theorem dX12_readCall_173 : decode cX12_readCall 173 = .ok (.getfield 364, 3) := dq_get (L := lzddX12_readCall_153) 10 rfl zddX12_readCall_153 rfl
theorem dX12_readCall_176 : decode cX12_readCall 176 = .ok (.aload_n 0, 1) := dq_get (L := lzddX12_readCall_153) 11 rfl zddX12_readCall_153 rfl
theorem dX12_readCall_177 : decode cX12_readCall 177 = .ok (.getfield 188, 3) := dq_get (L := lzddX12_readCall_153) 12 rfl zddX12_readCall_153 rfl
theorem dX12_readCall_180 : decode cX12_readCall 180 = .ok (.getfield 349, 3) := dq_get (L := lzddX12_readCall_153) 13 rfl zddX12_readCall_153 rfl
theorem dX12_readCall_183 : decode cX12_readCall 183 = .ok (.iload 4, 2) := dq_get (L := lzddX12_readCall_153) 14 rfl zddX12_readCall_153 rfl
theorem dX12_readCall_185 : decode cX12_readCall 185 = .ok (.iastore, 1) := dq_get (L := lzddX12_readCall_153) 15 rfl zddX12_readCall_153 rfl
theorem dX12_readCall_186 : decode cX12_readCall 186 = .ok (.aload_n 0, 1) := dq_get (L := lzddX12_readCall_153) 16 rfl zddX12_readCall_153 rfl
theorem dX12_readCall_187 : decode cX12_readCall 187 = .ok (.getfield 188, 3) := dq_get (L := lzddX12_readCall_153) 17 rfl zddX12_readCall_153 rfl
theorem dX12_readCall_190 : decode cX12_readCall 190 = .ok (.getfield 367, 3) := dq_get (L := lzddX12_readCall_153) 18 rfl zddX12_readCall_153 rfl
theorem dX12_readCall_193 : decode cX12_readCall 193 = .ok (.aload_n 0, 1) := dq_get (L := lzddX12_readCall_153) 19 rfl zddX12_readCall_153 rfl
def lzddX12_readCall_194 : List (Nat × Instr × Nat) := [(194, .getfield 188, 3), (197, .getfield 349, 3), (200, .iload 5, 2), (202, .iastore, 1), (203, .aload_n 0, 1), (204, .getfield 188, 3), (207, .dup, 1), (208, .getfield 349, 3), (211, .iconst 1, 1), (212, .iadd, 1), (213, .putfield 349, 3), (216, .return_, 1)]
theorem zddX12_readCall_194 : dqW lzddX12_readCall_194 (cX12_readCall.data.toList.drop 194) 194 = true := by decide +kernel
theorem dX12_readCall_194 : decode cX12_readCall 194 = .ok (.getfield 188, 3) := dq_get (L := lzddX12_readCall_194) 0 rfl zddX12_readCall_194 rfl
theorem dX12_readCall_197 : decode cX12_readCall 197 = .ok (.getfield 349, 3) := dq_get (L := lzddX12_readCall_194) 1 rfl zddX12_readCall_194 rfl
theorem dX12_readCall_200 : decode cX12_readCall 200 = .ok (.iload 5, 2) := dq_get (L := lzddX12_readCall_194) 2 rfl zddX12_readCall_194 rfl
theorem dX12_readCall_202 : decode cX12_readCall 202 = .ok (.iastore, 1) := dq_get (L := lzddX12_readCall_194) 3 rfl zddX12_readCall_194 rfl
theorem dX12_readCall_203 : decode cX12_readCall 203 = .ok (.aload_n 0, 1) := dq_get (L := lzddX12_readCall_194) 4 rfl zddX12_readCall_194 rfl
theorem dX12_readCall_204 : decode cX12_readCall 204 = .ok (.getfield 188, 3) := dq_get (L := lzddX12_readCall_194) 5 rfl zddX12_readCall_194 rfl
theorem dX12_readCall_207 : decode cX12_readCall 207 = .ok (.dup, 1) := dq_get (L := lzddX12_readCall_194) 6 rfl zddX12_readCall_194 rfl
theorem dX12_readCall_208 : decode cX12_readCall 208 = .ok (.getfield 349, 3) := dq_get (L := lzddX12_readCall_194) 7 rfl zddX12_readCall_194 rfl
theorem dX12_readCall_211 : decode cX12_readCall 211 = .ok (.iconst 1, 1) := dq_get (L := lzddX12_readCall_194) 8 rfl zddX12_readCall_194 rfl
theorem dX12_readCall_212 : decode cX12_readCall 212 = .ok (.iadd, 1) := dq_get (L := lzddX12_readCall_194) 9 rfl zddX12_readCall_194 rfl
theorem dX12_readCall_213 : decode cX12_readCall 213 = .ok (.putfield 349, 3) := dq_get (L := lzddX12_readCall_194) 10 rfl zddX12_readCall_194 rfl
theorem dX12_readCall_216 : decode cX12_readCall 216 = .ok (.return_, 1) := dq_get (L := lzddX12_readCall_194) 11 rfl zddX12_readCall_194 rfl
def lzddX12_readCheese_0 : List (Nat × Instr × Nat) := [(0, .aload_n 0, 1), (1, .aload_n 0, 1), (2, .getfield 188, 3), (5, .getfield 224, 3), (8, .bipush 8, 2), (10, .invokevirtual 268, 3), (13, .aload_n 0, 1), (14, .invokevirtual 285, 3), (17, .lstore_n 1, 1), (18, .aload_n 0, 1), (19, .ldc_w 289, 3), (22, .iconst 0, 1), (23, .aload_n 0, 1), (24, .getfield 188, 3), (27, .getfield 263, 3), (30, .iconst 1, 1), (31, .isub, 1), (32, .invokevirtual 249, 3), (35, .istore_n 3, 1), (36, .aload_n 0, 1)]
theorem zddX12_readCheese_0 : dqW lzddX12_readCheese_0 (cX12_readCheese.data.toList.drop 0) 0 = true := by decide +kernel
theorem dX12_readCheese_0 : decode cX12_readCheese 0 = .ok (.aload_n 0, 1) := dq_get (L := lzddX12_readCheese_0) 0 rfl zddX12_readCheese_0 rfl
theorem dX12_readCheese_1 : decode cX12_readCheese 1 = .ok (.aload_n 0, 1) := dq_get (L := lzddX12_readCheese_0) 1 rfl zddX12_readCheese_0 rfl
theorem dX12_readCheese_2 : decode cX12_readCheese 2 = .ok (.getfield 188, 3) := dq_get (L := lzddX12_readCheese_0) 2 rfl zddX12_readCheese_0 rfl
theorem dX12_readCheese_5 : decode cX12_readCheese 5 = .ok (.getfield 224, 3) := dq_get (L := lzddX12_readCheese_0) 3 rfl zddX12_readCheese_0 rfl
theorem dX12_readCheese_8 : decode cX12_readCheese 8 = .ok (.bipush 8, 2) := dq_get (L := lzddX12_readCheese_0) 4 rfl zddX12_readCheese_0 rfl
theorem dX12_readCheese_10 : decode cX12_readCheese 10 = .ok (.invokevirtual 268, 3) := dq_get (L := lzddX12_readCheese_0) 5 rfl zddX12_readCheese_0 rfl
theorem dX12_readCheese_13 : decode cX12_readCheese 13 = .ok (.aload_n 0, 1) := dq_get (L := lzddX12_readCheese_0) 6 rfl zddX12_readCheese_0 rfl
theorem dX12_readCheese_14 : decode cX12_readCheese 14 = .ok (.invokevirtual 285, 3) := dq_get (L := lzddX12_readCheese_0) 7 rfl zddX12_readCheese_0 rfl
theorem dX12_readCheese_17 : decode cX12_readCheese 17 = .ok (.lstore_n 1, 1) := dq_get (L := lzddX12_readCheese_0) 8 rfl zddX12_readCheese_0 rfl
theorem dX12_readCheese_18 : decode cX12_readCheese 18 = .ok (.aload_n 0, 1) := dq_get (L := lzddX12_readCheese_0) 9 rfl zddX12_readCheese_0 rfl
theorem dX12_readCheese_19 : decode cX12_readCheese 19 = .ok (.ldc_w 289, 3) := dq_get (L := lzddX12_readCheese_0) 10 rfl zddX12_readCheese_0 rfl
theorem dX12_readCheese_22 : decode cX12_readCheese 22 = .ok (.iconst 0, 1) := dq_get (L := lzddX12_readCheese_0) 11 rfl zddX12_readCheese_0 rfl
theorem dX12_readCheese_23 : decode cX12_readCheese 23 = .ok (.aload_n 0, 1) := dq_get (L := lzddX12_readCheese_0) 12 rfl zddX12_readCheese_0 rfl
theorem dX12_readCheese_24 : decode cX12_readCheese 24 = .ok (.getfield 188, 3) := dq_get (L := lzddX12_readCheese_0) 13 rfl zddX12_readCheese_0 rfl
theorem dX12_readCheese_27 : decode cX12_readCheese 27 = .ok (.getfield 263, 3) := dq_get (L := lzddX12_readCheese_0) 14 rfl zddX12_readCheese_0 rfl
theorem dX12_readCheese_30 : decode cX12_readCheese 30 = .ok (.iconst 1, 1) := dq_get (L := lzddX12_readCheese_0) 15 rfl zddX12_readCheese_0 rfl
theorem dX12_readCheese_31 : decode cX12_readCheese 31 = .ok (.isub, 1) := dq_get (L := lzddX12_readCheese_0) 16 rfl zddX12_readCheese_0 rfl
theorem dX12_readCheese_32 : decode cX12_readCheese 32 = .ok (.invokevirtual 249, 3) := dq_get (L := lzddX12_readCheese_0) 17 rfl zddX12_readCheese_0 rfl
theorem dX12_readCheese_35 : decode cX12_readCheese 35 = .ok (.istore_n 3, 1) := dq_get (L := lzddX12_readCheese_0) 18 rfl zddX12_readCheese_0 rfl
theorem dX12_readCheese_36 : decode cX12_readCheese 36 = .ok (.aload_n 0, 1) := dq_get (L := lzddX12_readCheese_0) 19 rfl zddX12_readCheese_0 rfl
def lzddX12_readCheese_37 : List (Nat × Instr × Nat) := [(37, .ldc 186, 2), (39, .invokevirtual 290, 3), (42, .istore 4, 2), (44, .aload_n 0, 1), (45, .getfield 99, 3), (48, .iconst 5, 1), (49, .if_icmp .ne 4, 3), (52, .return_, 1), (53, .aload_n 0, 1), (54, .lload_n 1, 1), (55, .iconst 0, 1), (56, .aload_n 0, 1), (57, .getfield 188, 3), (60, .getfield 224, 3), (63, .invokevirtual 293, 3), (66, .aload_n 0, 1), (67, .getfield 188, 3), (70, .getfield 296, 3), (73, .aload_n 0, 1), (74, .getfield 188, 3)]
theorem zddX12_readCheese_37 : dqW lzddX12_readCheese_37 (cX12_readCheese.data.toList.drop 37) 37 = true := by decide +kernel
theorem dX12_readCheese_37 : decode cX12_readCheese 37 = .ok (.ldc 186, 2) := dq_get (L := lzddX12_readCheese_37) 0 rfl zddX12_readCheese_37 rfl
theorem dX12_readCheese_39 : decode cX12_readCheese 39 = .ok (.invokevirtual 290, 3) := dq_get (L := lzddX12_readCheese_37) 1 rfl zddX12_readCheese_37 rfl
theorem dX12_readCheese_42 : decode cX12_readCheese 42 = .ok (.istore 4, 2) := dq_get (L := lzddX12_readCheese_37) 2 rfl zddX12_readCheese_37 rfl
theorem dX12_readCheese_44 : decode cX12_readCheese 44 = .ok (.aload_n 0, 1) := dq_get (L := lzddX12_readCheese_37) 3 rfl zddX12_readCheese_37 rfl
theorem dX12_readCheese_45 : decode cX12_readCheese 45 = .ok (.getfield 99, 3) := dq_get (L := lzddX12_readCheese_37) 4 rfl zddX12_readCheese_37 rfl
theorem dX12_readCheese_48 : decode cX12_readCheese 48 = .ok (.iconst 5, 1) := dq_get (L := lzddX12_readCheese_37) 5 rfl zddX12_readCheese_37 rfl
theorem dX12_readCheese_49 : decode cX12_readCheese 49 = .ok (.if_icmp .ne 4, 3) := dq_get (L := lzddX12_readCheese_37) 6 rfl zddX12_readCheese_37 rfl
theorem dX12_readCheese_52 : decode cX12_readCheese 52 = .ok (.return_, 1) := dq_get (L := lzddX12_readCheese_37) 7 rfl zddX12_readCheese_37 rfl
theorem dX12_readCheese_53 : decode cX12_readCheese 53 = .ok (.aload_n 0, 1) := dq_get (L := lzddX12_readCheese_37) 8 rfl zddX12_readCheese_37 rfl
theorem dX12_readCheese_54 : decode cX12_readCheese 54 = .ok (.lload_n 1, 1) := dq_get (L := lzddX12_readCheese_37) 9 rfl zddX12_readCheese_37 rfl
theorem dX12_readCheese_55 : decode cX12_readCheese 55 = .ok (.iconst 0, 1) := dq_get (L := lzddX12_readCheese_37) 10 rfl zddX12_readCheese_37 rfl
theorem dX12_readCheese_56 : decode cX12_readCheese 56 = .ok (.aload_n 0, 1) := dq_get (L := lzddX12_readCheese_37) 11 rfl zddX12_readCheese_37 rfl
theorem dX12_readCheese_57 : decode cX12_readCheese 57 = .ok (.getfield 188, 3) := dq_get (L := lzddX12_readCheese_37) 12 rfl zddX12_readCheese_37 rfl
theorem dX12_readCheese_60 : decode cX12_readCheese 60 = .ok (.getfield 224, 3) := dq_get (L := lzddX12_readCheese_37) 13 rfl zddX12_readCheese_37 rfl
theorem dX12_readCheese_63 : decode cX12_readCheese 63 = .ok (.invokevirtual 293, 3) := dq_get (L := lzddX12_readCheese_37) 14 rfl zddX12_readCheese_37 rfl
theorem dX12_readCheese_66 : decode cX12_readCheese 66 = .ok (.aload_n 0, 1) := dq_get (L := lzddX12_readCheese_37) 15 rfl zddX12_readCheese_37 rfl
theorem dX12_readCheese_67 : decode cX12_readCheese 67 = .ok (.getfield 188, 3) := dq_get (L := lzddX12_readCheese_37) 16 rfl zddX12_readCheese_37 rfl
theorem dX12_readCheese_70 : decode cX12_readCheese 70 = .ok (.getfield 296, 3) := dq_get (L := lzddX12_readCheese_37) 17 rfl zddX12_readCheese_37 rfl
theorem dX12_readCheese_73 : decode cX12_readCheese 73 = .ok (.aload_n 0, 1) := dq_get (L := lzddX12_readCheese_37) 18 rfl zddX12_readCheese_37 rfl
theorem dX12_readCheese_74 : decode cX12_readCheese 74 = .ok (.getfield 188, 3) := dq_get (L := lzddX12_readCheese_37) 19 rfl zddX12_readCheese_37 rfl
def lzddX12_readCheese_77 : List (Nat × Instr × Nat) := [(77, .getfield 224, 3), (80, .iload_n 3, 1), (81, .iastore, 1), (82, .aload_n 0, 1), (83, .getfield 188, 3), (86, .getfield 299, 3), (89, .aload_n 0, 1), (90, .getfield 188, 3), (93, .getfield 224, 3), (96, .iload 4, 2), (98, .bastore, 1), (99, .aload_n 0, 1), (100, .getfield 188, 3), (103, .dup, 1), (104, .getfield 224, 3), (107, .iconst 1, 1), (108, .iadd, 1), (109, .putfield 224, 3), (112, .return_, 1)]
theorem zddX12_readCheese_77 : dqW lzddX12_readCheese_77 (cX12_readCheese.data.toList.drop 77) 77 = true := by decide +kernel
theorem dX12_readCheese_77 : decode cX12_readCheese 77 = .ok (.getfield 224, 3) := dq_get (L := lzddX12_readCheese_77) 0 rfl zddX12_readCheese_77 rfl
theorem dX12_readCheese_80 : decode cX12_readCheese 80 = .ok (.iload_n 3, 1) := dq_get (L := lzddX12_readCheese_77) 1 rfl zddX12_readCheese_77 rfl
theorem dX12_readCheese_81 : decode cX12_readCheese 81 = .ok (.iastore, 1) := dq_get (L := lzddX12_readCheese_77) 2 rfl zddX12_readCheese_77 rfl
theorem dX12_readCheese_82 : decode cX12_readCheese 82 = .ok (.aload_n 0, 1) := dq_get (L := lzddX12_readCheese_77) 3 rfl zddX12_readCheese_77 rfl
theorem dX12_readCheese_83 : decode cX12_readCheese 83 = .ok (.getfield 188, 3) := dq_get (L := lzddX12_readCheese_77) 4 rfl zddX12_readCheese_77 rfl
theorem dX12_readCheese_86 : decode cX12_readCheese 86 = .ok (.getfield 299, 3) := dq_get (L := lzddX12_readCheese_77) 5 rfl zddX12_readCheese_77 rfl
theorem dX12_readCheese_89 : decode cX12_readCheese 89 = .ok (.aload_n 0, 1) := dq_get (L := lzddX12_readCheese_77) 6 rfl zddX12_readCheese_77 rfl
theorem dX12_readCheese_90 : decode cX12_readCheese 90 = .ok (.getfield 188, 3) := dq_get (L := lzddX12_readCheese_77) 7 rfl zddX12_readCheese_77 rfl
theorem dX12_readCheese_93 : decode cX12_readCheese 93 = .ok (.getfield 224, 3) := dq_get (L := lzddX12_readCheese_77) 8 rfl zddX12_readCheese_77 rfl
theorem dX12_readCheese_96 : decode cX12_readCheese 96 = .ok (.iload 4, 2) := dq_get (L := lzddX12_readCheese_77) 9 rfl zddX12_readCheese_77 rfl
theorem dX12_readCheese_98 : decode cX12_readCheese 98 = .ok (.bastore, 1) := dq_get (L := lzddX12_readCheese_77) 10 rfl zddX12_readCheese_77 rfl
theorem dX12_readCheese_99 : decode cX12_readCheese 99 = .ok (.aload_n 0, 1) := dq_get (L := lzddX12_readCheese_77) 11 rfl zddX12_readCheese_77 rfl
theorem dX12_readCheese_100 : decode cX12_readCheese 100 = .ok (.getfield 188, 3) := dq_get (L := lzddX12_readCheese_77) 12 rfl zddX12_readCheese_77 rfl
theorem dX12_readCheese_103 : decode cX12_readCheese 103 = .ok (.dup, 1) := dq_get (L := lzddX12_readCheese_77) 13 rfl zddX12_readCheese_77 rfl
theorem dX12_readCheese_104 : decode cX12_readCheese 104 = .ok (.getfield 224, 3) := dq_get (L := lzddX12_readCheese_77) 14 rfl zddX12_readCheese_77 rfl
theorem dX12_readCheese_107 : decode cX12_readCheese 107 = .ok (.iconst 1, 1) := dq_get (L := lzddX12_readCheese_77) 15 rfl zddX12_readCheese_77 rfl
theorem dX12_readCheese_108 : decode cX12_readCheese 108 = .ok (.iadd, 1) := dq_get (L := lzddX12_readCheese_77) 16 rfl zddX12_readCheese_77 rfl
theorem dX12_readCheese_109 : decode cX12_readCheese 109 = .ok (.putfield 224, 3) := dq_get (L := lzddX12_readCheese_77) 17 rfl zddX12_readCheese_77 rfl
theorem dX12_readCheese_112 : decode cX12_readCheese 112 = .ok (.return_, 1) := dq_get (L := lzddX12_readCheese_77) 18 rfl zddX12_readCheese_77 rfl
def lzddX12_readEvent_0 : List (Nat × Instr × Nat) := [(0, .aload_n 0, 1), (1, .aload_n 0, 1), (2, .getfield 188, 3), (5, .getfield 265, 3), (8, .bipush 14, 2), (10, .invokevirtual 268, 3), (13, .iload_n 1, 1), (14, .iconst 2, 1), (15, .if_icmp .eq 8, 3), (18, .iload_n 1, 1), (19, .iconst 3, 1), (20, .if_icmp .ne 20, 3), (23, .aload_n 0, 1), (24, .iconst 0, 1), (25, .aload_n 0, 1), (26, .getfield 188, 3), (29, .getfield 263, 3), (32, .iconst 1, 1), (33, .isub, 1), (34, .invokevirtual 161, 3)]
theorem zddX12_readEvent_0 : dqW lzddX12_readEvent_0 (cX12_readEvent.data.toList.drop 0) 0 = true := by decide +kernel
theorem dX12_readEvent_0 : decode cX12_readEvent 0 = .ok (.aload_n 0, 1) := dq_get (L := lzddX12_readEvent_0) 0 rfl zddX12_readEvent_0 rfl
theorem dX12_readEvent_1 : decode cX12_readEvent 1 = .ok (.aload_n 0, 1) := dq_get (L := lzddX12_readEvent_0) 1 rfl zddX12_readEvent_0 rfl
theorem dX12_readEvent_2 : decode cX12_readEvent 2 = .ok (.getfield 188, 3) := dq_get (L := lzddX12_readEvent_0) 2 rfl zddX12_readEvent_0 rfl
theorem dX12_readEvent_5 : decode cX12_readEvent 5 = .ok (.getfield 265, 3) := dq_get (L := lzddX12_readEvent_0) 3 rfl zddX12_readEvent_0 rfl
theorem dX12_readEvent_8 : decode cX12_readEvent 8 = .ok (.bipush 14, 2) := dq_get (L := lzddX12_readEvent_0) 4 rfl zddX12_readEvent_0 rfl
theorem dX12_readEvent_10 : decode cX12_readEvent 10 = .ok (.invokevirtual 268, 3) := dq_get (L := lzddX12_readEvent_0) 5 rfl zddX12_readEvent_0 rfl
theorem dX12_readEvent_13 : decode cX12_readEvent 13 = .ok (.iload_n 1, 1) := dq_get (L := lzddX12_readEvent_0) 6 rfl zddX12_readEvent_0 rfl
theorem dX12_readEvent_14 : decode cX12_readEvent 14 = .ok (.iconst 2, 1) := dq_get (L := lzddX12_readEvent_0) 7 rfl zddX12_readEvent_0 rfl
theorem dX12_readEvent_15 : decode cX12_readEvent 15 = .ok (.if_icmp .eq 8, 3) := dq_get (L := lzddX12_readEvent_0) 8 rfl zddX12_readEvent_0 rfl
theorem dX12_readEvent_18 : decode cX12_readEvent 18 = .ok (.iload_n 1, 1) := dq_get (L := lzddX12_readEvent_0) 9 rfl zddX12_readEvent_0 rfl
theorem dX12_readEvent_19 : decode cX12_readEvent 19 = .ok (.iconst 3, 1) := dq_get (L := lzddX12_readEvent_0) 10 rfl zddX12_readEvent_0 rfl
theorem dX12_readEvent_20 : decode cX12_readEvent 20 = .ok (.if_icmp .ne 20, 3) := dq_get (L := lzddX12_readEvent_0) 11 rfl zddX12_readEvent_0 rfl
theorem dX12_readEvent_23 : decode cX12_readEvent 23 = .ok (.aload_n 0, 1) := dq_get (L := lzddX12_readEvent_0) 12 rfl zddX12_readEvent_0 rfl
theorem dX12_readEvent_24 : decode cX12_readEvent 24 = .ok (.iconst 0, 1) := dq_get (L := lzddX12_readEvent_0) 13 rfl zddX12_readEvent_0 rfl
theorem dX12_readEvent_25 : decode cX12_readEvent 25 = .ok (.aload_n 0, 1) := dq_get (L := lzddX12_readEvent_0) 14 rfl zddX12_readEvent_0 rfl
theorem dX12_readEvent_26 : decode cX12_readEvent 26 = .ok (.getfield 188, 3) := dq_get (L := lzddX12_readEvent_0) 15 rfl zddX12_readEvent_0 rfl
theorem dX12_readEvent_29 : decode cX12_readEvent 29 = .ok (.getfield 263, 3) := dq_get (L := lzddX12_readEvent_0) 16 rfl zddX12_readEvent_0 rfl
theorem dX12_readEvent_32 : decode cX12_readEvent 32 = .ok (.iconst 1, 1) := dq_get (L := lzddX12_readEvent_0) 17 rfl zddX12_readEvent_0 rfl
theorem dX12_readEvent_33 : decode cX12_readEvent 33 = .ok (.isub, 1) := dq_get (L := lzddX12_readEvent_0) 18 rfl zddX12_readEvent_0 rfl
theorem dX12_readEvent_34 : decode cX12_readEvent 34 = .ok (.invokevirtual 161, 3) := dq_get (L := lzddX12_readEvent_0) 19 rfl zddX12_readEvent_0 rfl
def lzddX12_readEvent_37 : List (Nat × Instr × Nat) := [(37, .goto 5, 3), (40, .bipush (-2), 2), (42, .istore_n 2, 1), (43, .aload_n 0, 1), (44, .iconst 0, 1), (45, .aload_n 0, 1), (46, .getfield 188, 3), (49, .getfield 192, 3), (52, .iconst 1, 1), (53, .isub, 1), (54, .invokevirtual 161, 3), (57, .istore_n 3, 1), (58, .iload_n 1, 1), (59, .iconst 4, 1), (60, .if_icmp .ne 9, 3), (63, .iload_n 3, 1), (64, .iconst 1, 1), (65, .iadd, 1), (66, .goto 20, 3), (69, .aload_n 0, 1)]
theorem zddX12_readEvent_37 : dqW lzddX12_readEvent_37 (cX12_readEvent.data.toList.drop 37) 37 = true := by decide +kernel
theorem dX12_readEvent_37 : decode cX12_readEvent 37 = .ok (.goto 5, 3) := dq_get (L := lzddX12_readEvent_37) 0 rfl zddX12_readEvent_37 rfl
theorem dX12_readEvent_40 : decode cX12_readEvent 40 = .ok (.bipush (-2), 2) := dq_get (L := lzddX12_readEvent_37) 1 rfl zddX12_readEvent_37 rfl
theorem dX12_readEvent_42 : decode cX12_readEvent 42 = .ok (.istore_n 2, 1) := dq_get (L := lzddX12_readEvent_37) 2 rfl zddX12_readEvent_37 rfl
theorem dX12_readEvent_43 : decode cX12_readEvent 43 = .ok (.aload_n 0, 1) := dq_get (L := lzddX12_readEvent_37) 3 rfl zddX12_readEvent_37 rfl
theorem dX12_readEvent_44 : decode cX12_readEvent 44 = .ok (.iconst 0, 1) := dq_get (L := lzddX12_readEvent_37) 4 rfl zddX12_readEvent_37 rfl
theorem dX12_readEvent_45 : decode cX12_readEvent 45 = .ok (.aload_n 0, 1) := dq_get (L := lzddX12_readEvent_37) 5 rfl zddX12_readEvent_37 rfl
theorem dX12_readEvent_46 : decode cX12_readEvent 46 = .ok (.getfield 188, 3) := dq_get (L := lzddX12_readEvent_37) 6 rfl zddX12_readEvent_37 rfl
theorem dX12_readEvent_49 : decode cX12_readEvent 49 = .ok (.getfield 192, 3) := dq_get (L := lzddX12_readEvent_37) 7 rfl zddX12_readEvent_37 rfl
theorem dX12_readEvent_52 : decode cX12_readEvent 52 = .ok (.iconst 1, 1) := dq_get (L := lzddX12_readEvent_37) 8 rfl zddX12_readEvent_37 rfl
theorem dX12_readEvent_53 : decode cX12_readEvent 53 = .ok (.isub, 1) := dq_get (L := lzddX12_readEvent_37) 9 rfl zddX12_readEvent_37 rfl
theorem dX12_readEvent_54 : decode cX12_readEvent 54 = .ok (.invokevirtual 161, 3) := dq_get (L := lzddX12_readEvent_37) 10 rfl zddX12_readEvent_37 rfl
theorem dX12_readEvent_57 : decode cX12_readEvent 57 = .ok (.istore_n 3, 1) := dq_get (L := lzddX12_readEvent_37) 11 rfl zddX12_readEvent_37 rfl
theorem dX12_readEvent_58 : decode cX12_readEvent 58 = .ok (.iload_n 1, 1) := dq_get (L := lzddX12_readEvent_37) 12 rfl zddX12_readEvent_37 rfl
theorem dX12_readEvent_59 : decode cX12_readEvent 59 = .ok (.iconst 4, 1) := dq_get (L := lzddX12_readEvent_37) 13 rfl zddX12_readEvent_37 rfl
theorem dX12_readEvent_60 : decode cX12_readEvent 60 = .ok (.if_icmp .ne 9, 3) := dq_get (L := lzddX12_readEvent_37) 14 rfl zddX12_readEvent_37 rfl
theorem dX12_readEvent_63 : decode cX12_readEvent 63 = .ok (.iload_n 3, 1) := dq_get (L := lzddX12_readEvent_37) 15 rfl zddX12_readEvent_37 rfl
theorem dX12_readEvent_64 : decode cX12_readEvent 64 = .ok (.iconst 1, 1) := dq_get (L := lzddX12_readEvent_37) 16 rfl zddX12_readEvent_37 rfl
theorem dX12_readEvent_65 : decode cX12_readEvent 65 = .ok (.iadd, 1) := dq_get (L := lzddX12_readEvent_37) 17 rfl zddX12_readEvent_37 rfl
theorem dX12_readEvent_66 : decode cX12_readEvent 66 = .ok (.goto 20, 3) := dq_get (L := lzddX12_readEvent_37) 18 rfl zddX12_readEvent_37 rfl
theorem dX12_readEvent_69 : decode cX12_readEvent 69 = .ok (.aload_n 0, 1) := dq_get (L := lzddX12_readEvent_37) 19 rfl zddX12_readEvent_37 rfl
def lzddX12_readEvent_70 : List (Nat × Instr × Nat) := [(70, .ldc_w 272, 3), (73, .iload_n 3, 1), (74, .iconst 1, 1), (75, .iadd, 1), (76, .aload_n 0, 1), (77, .getfield 188, 3), (80, .getfield 192, 3), (83, .invokevirtual 249, 3), (86, .istore 4, 2), (88, .aload_n 0, 1), (89, .getfield 99, 3), (92, .iconst 5, 1), (93, .if_icmp .ne 4, 3), (96, .return_, 1), (97, .aload_n 0, 1), (98, .getfield 188, 3), (101, .getfield 265, 3), (104, .istore 5, 2), (106, .aload_n 0, 1), (107, .getfield 188, 3)]
theorem zddX12_readEvent_70 : dqW lzddX12_readEvent_70 (cX12_readEvent.data.toList.drop 70) 70 = true := by decide +kernel
theorem dX12_readEvent_70 : decode cX12_readEvent 70 = .ok (.ldc_w 272, 3) := dq_get (L := lzddX12_readEvent_70) 0 rfl zddX12_readEvent_70 rfl
theorem dX12_readEvent_73 : decode cX12_readEvent 73 = .ok (.iload_n 3, 1) := dq_get (L := lzddX12_readEvent_70) 1 rfl zddX12_readEvent_70 rfl
theorem dX12_readEvent_74 : decode cX12_readEvent 74 = .ok (.iconst 1, 1) := dq_get (L := lzddX12_readEvent_70) 2 rfl zddX12_readEvent_70 rfl
theorem dX12_readEvent_75 : decode cX12_readEvent 75 = .ok (.iadd, 1) := dq_get (L := lzddX12_readEvent_70) 3 rfl zddX12_readEvent_70 rfl
theorem dX12_readEvent_76 : decode cX12_readEvent 76 = .ok (.aload_n 0, 1) := dq_get (L := lzddX12_readEvent_70) 4 rfl zddX12_readEvent_70 rfl
theorem dX12_readEvent_77 : decode cX12_readEvent 77 = .ok (.getfield 188, 3) := dq_get (L := lzddX12_readEvent_70) 5 rfl zddX12_readEvent_70 rfl
theorem dX12_readEvent_80 : decode cX12_readEvent 80 = .ok (.getfield 192, 3) := dq_get (L := lzddX12_readEvent_70) 6 rfl zddX12_readEvent_70 rfl
theorem dX12_readEvent_83 : decode cX12_readEvent 83 = .ok (.invokevirtual 249, 3) := dq_get (L := lzddX12_readEvent_70) 7 rfl zddX12_readEvent_70 rfl
theorem dX12_readEvent_86 : decode cX12_readEvent 86 = .ok (.istore 4, 2) := dq_get (L := lzddX12_readEvent_70) 8 rfl zddX12_readEvent_70 rfl
theorem dX12_readEvent_88 : decode cX12_readEvent 88 = .ok (.aload_n 0, 1) := dq_get (L := lzddX12_readEvent_70) 9 rfl zddX12_readEvent_70 rfl
theorem dX12_readEvent_89 : decode cX12_readEvent 89 = .ok (.getfield 99, 3) := dq_get (L := lzddX12_readEvent_70) 10 rfl zddX12_readEvent_70 rfl
theorem dX12_readEvent_92 : decode cX12_readEvent 92 = .ok (.iconst 5, 1) := dq_get (L := lzddX12_readEvent_70) 11 rfl zddX12_readEvent_70 rfl
theorem dX12_readEvent_93 : decode cX12_readEvent 93 = .ok (.if_icmp .ne 4, 3) := dq_get (L := lzddX12_readEvent_70) 12 rfl zddX12_readEvent_70 rfl
theorem dX12_readEvent_96 : decode cX12_readEvent 96 = .ok (.return_, 1) := dq_get (L := lzddX12_readEvent_70) 13 rfl zddX12_readEvent_70 rfl
theorem dX12_readEvent_97 : decode cX12_readEvent 97 = .ok (.aload_n 0, 1) := dq_get (L := lzddX12_readEvent_70) 14 rfl zddX12_readEvent_70 rfl
theorem dX12_readEvent_98 : decode cX12_readEvent 98 = .ok (.getfield 188, 3) := dq_get (L := lzddX12_readEvent_70) 15 rfl zddX12_readEvent_70 rfl
theorem dX12_readEvent_101 : decode cX12_readEvent 101 = .ok (.getfield 265, 3) := dq_get (L := lzddX12_readEvent_70) 16 rfl zddX12_readEvent_70 rfl
theorem dX12_readEvent_104 : decode cX12_readEvent 104 = .ok (.istore 5, 2) := dq_get (L := lzddX12_readEvent_70) 17 rfl zddX12_readEvent_70 rfl
theorem dX12_readEvent_106 : decode cX12_readEvent 106 = .ok (.aload_n 0, 1) := dq_get (L := lzddX12_readEvent_70) 18 rfl zddX12_readEvent_70 rfl
theorem dX12_readEvent_107 : decode cX12_readEvent 107 = .ok (.getfield 188, 3) := dq_get (L := lzddX12_readEvent_70) 19 rfl zddX12_readEvent_70 rfl
def lzddX12_readEvent_110 : List (Nat × Instr × Nat) := [(110, .getfield 274, 3), (113, .iload 5, 2), (115, .iload_n 1, 1), (116, .iastore, 1), (117, .aload_n 0, 1), (118, .getfield 188, 3), (121, .getfield 277, 3), (124, .iload 5, 2), (126, .iload_n 2, 1), (127, .iastore, 1), (128, .aload_n 0, 1), (129, .getfield 188, 3), (132, .getfield 280, 3), (135, .iload 5, 2), (137, .iload_n 3, 1), (138, .iastore, 1), (139, .aload_n 0, 1), (140, .getfield 188, 3), (143, .getfield 283, 3), (146, .iload 5, 2)]
theorem zddX12_readEvent_110 : dqW lzddX12_readEvent_110 (cX12_readEvent.data.toList.drop 110) 110 = true := by decide +kernel
theorem dX12_readEvent_110 : decode cX12_readEvent 110 = .ok (.getfield 274, 3) := dq_get (L := lzddX12_readEvent_110) 0 rfl zddX12_readEvent_110 rfl
theorem dX12_readEvent_113 : decode cX12_readEvent 113 = .ok (.iload 5, 2) := dq_get (L := lzddX12_readEvent_110) 1 rfl zddX12_readEvent_110 rfl
theorem dX12_readEvent_115 : decode cX12_readEvent 115 = .ok (.iload_n 1, 1) := dq_get (L := lzddX12_readEvent_110) 2 rfl zddX12_readEvent_110 rfl
theorem dX12_readEvent_116 : decode cX12_readEvent 116 = .ok (.iastore, 1) := dq_get (L := lzddX12_readEvent_110) 3 rfl zddX12_readEvent_110 rfl
theorem dX12_readEvent_117 : decode cX12_readEvent 117 = .ok (.aload_n 0, 1) := dq_get (L := lzddX12_readEvent_110) 4 rfl zddX12_readEvent_110 rfl
theorem dX12_readEvent_118 : decode cX12_readEvent 118 = .ok (.getfield 188, 3) := dq_get (L := lzddX12_readEvent_110) 5 rfl zddX12_readEvent_110 rfl
theorem dX12_readEvent_121 : decode cX12_readEvent 121 = .ok (.getfield 277, 3) := dq_get (L := lzddX12_readEvent_110) 6 rfl zddX12_readEvent_110 rfl
theorem dX12_readEvent_124 : decode cX12_readEvent 124 = .ok (.iload 5, 2) := dq_get (L := lzddX12_readEvent_110) 7 rfl zddX12_readEvent_110 rfl
theorem dX12_readEvent_126 : decode cX12_readEvent 126 = .ok (.iload_n 2, 1) := dq_get (L := lzddX12_readEvent_110) 8 rfl zddX12_readEvent_110 rfl
theorem dX12_readEvent_127 : decode cX12_readEvent 127 = .ok (.iastore, 1) := dq_get (L := lzddX12_readEvent_110) 9 rfl zddX12_readEvent_110 rfl
theorem dX12_readEvent_128 : decode cX12_readEvent 128 = .ok (.aload_n 0, 1) := dq_get (L := lzddX12_readEvent_110) 10 rfl zddX12_readEvent_110 rfl
theorem dX12_readEvent_129 : decode cX12_readEvent 129 = .ok (.getfield 188, 3) := dq_get (L := lzddX12_readEvent_110) 11 rfl zddX12_readEvent_110 rfl
theorem dX12_readEvent_132 : decode cX12_readEvent 132 = .ok (.getfield 280, 3) := dq_get (L := lzddX12_readEvent_110) 12 rfl zddX12_readEvent_110 rfl
theorem dX12_readEvent_135 : decode cX12_readEvent 135 = .ok (.iload 5, 2) := dq_get (L := lzddX12_readEvent_110) 13 rfl zddX12_readEvent_110 rfl
theorem dX12_readEvent_137 : decode cX12_readEvent 137 = .ok (.iload_n 3, 1) := dq_get (L := lzddX12_readEvent_110) 14 rfl zddX12_readEvent_110 rfl
theorem dX12_readEvent_138 : decode cX12_readEvent 138 = .ok (.iastore, 1) := dq_get (L := lzddX12_readEvent_110) 15 rfl zddX12_readEvent_110 rfl
theorem dX12_readEvent_139 : decode cX12_readEvent 139 = .ok (.aload_n 0, 1) := dq_get (L := lzddX12_readEvent_110) 16 rfl zddX12_readEvent_110 rfl
theorem dX12_readEvent_140 : decode cX12_readEvent 140 = .ok (.getfield 188, 3) := dq_get (L := lzddX12_readEvent_110) 17 rfl zddX12_readEvent_110 rfl
theorem dX12_readEvent_143 : decode cX12_readEvent 143 = .ok (.getfield 283, 3) := dq_get (L := lzddX12_readEvent_110) 18 rfl zddX12_readEvent_110 rfl
theorem dX12_readEvent_146 : decode cX12_readEvent 146 = .ok (.iload 5, 2) := dq_get (L := lzddX12_readEvent_110) 19 rfl zddX12_readEvent_110 rfl
def lzddX12_readEvent_148 : List (Nat × Instr × Nat) := [(148, .iload 4, 2), (150, .iastore, 1), (151, .aload_n 0, 1), (152, .getfield 188, 3), (155, .dup, 1), (156, .getfield 265, 3), (159, .iconst 1, 1), (160, .iadd, 1), (161, .putfield 265, 3), (164, .return_, 1)]
theorem zddX12_readEvent_148 : dqW lzddX12_readEvent_148 (cX12_readEvent.data.toList.drop 148) 148 = true := by decide +kernel
theorem dX12_readEvent_148 : decode cX12_readEvent 148 = .ok (.iload 4, 2) := dq_get (L := lzddX12_readEvent_148) 0 rfl zddX12_readEvent_148 rfl
theorem dX12_readEvent_150 : decode cX12_readEvent 150 = .ok (.iastore, 1) := dq_get (L := lzddX12_readEvent_148) 1 rfl zddX12_readEvent_148 rfl
theorem dX12_readEvent_151 : decode cX12_readEvent 151 = .ok (.aload_n 0, 1) := dq_get (L := lzddX12_readEvent_148) 2 rfl zddX12_readEvent_148 rfl
theorem dX12_readEvent_152 : decode cX12_readEvent 152 = .ok (.getfield 188, 3) := dq_get (L := lzddX12_readEvent_148) 3 rfl zddX12_readEvent_148 rfl
theorem dX12_readEvent_155 : decode cX12_readEvent 155 = .ok (.dup, 1) := dq_get (L := lzddX12_readEvent_148) 4 rfl zddX12_readEvent_148 rfl
theorem dX12_readEvent_156 : decode cX12_readEvent 156 = .ok (.getfield 265, 3) := dq_get (L := lzddX12_readEvent_148) 5 rfl zddX12_readEvent_148 rfl
theorem dX12_readEvent_159 : decode cX12_readEvent 159 = .ok (.iconst 1, 1) := dq_get (L := lzddX12_readEvent_148) 6 rfl zddX12_readEvent_148 rfl
theorem dX12_readEvent_160 : decode cX12_readEvent 160 = .ok (.iadd, 1) := dq_get (L := lzddX12_readEvent_148) 7 rfl zddX12_readEvent_148 rfl
theorem dX12_readEvent_161 : decode cX12_readEvent 161 = .ok (.putfield 265, 3) := dq_get (L := lzddX12_readEvent_148) 8 rfl zddX12_readEvent_148 rfl
theorem dX12_readEvent_164 : decode cX12_readEvent 164 = .ok (.return_, 1) := dq_get (L := lzddX12_readEvent_148) 9 rfl zddX12_readEvent_148 rfl
def lzddX12_readFresh_0 : List (Nat × Instr × Nat) := [(0, .aload_n 0, 1), (1, .invokevirtual 197, 3), (4, .ifCond .ne 8, 3), (7, .aload_n 0, 1), (8, .iconst 1, 1), (9, .invokevirtual 145, 3), (12, .aload_n 0, 1), (13, .getfield 188, 3), (16, .aload_n 0, 1), (17, .getfield 118, 3), (20, .invokevirtual 201, 3), (23, .iconst (-1), 1), (24, .if_icmp .eq 8, 3), (27, .aload_n 0, 1), (28, .iconst 3, 1), (29, .invokevirtual 145, 3), (32, .aload_n 0, 1), (33, .getfield 118, 3), (36, .lstore_n 1, 1), (37, .aload_n 0, 1)]
theorem zddX12_readFresh_0 : dqW lzddX12_readFresh_0 (cX12_readFresh.data.toList.drop 0) 0 = true := by decide +kernel
theorem dX12_readFresh_0 : decode cX12_readFresh 0 = .ok (.aload_n 0, 1) := dq_get (L := lzddX12_readFresh_0) 0 rfl zddX12_readFresh_0 rfl
theorem dX12_readFresh_1 : decode cX12_readFresh 1 = .ok (.invokevirtual 197, 3) := dq_get (L := lzddX12_readFresh_0) 1 rfl zddX12_readFresh_0 rfl
theorem dX12_readFresh_4 : decode cX12_readFresh 4 = .ok (.ifCond .ne 8, 3) := dq_get (L := lzddX12_readFresh_0) 2 rfl zddX12_readFresh_0 rfl
theorem dX12_readFresh_7 : decode cX12_readFresh 7 = .ok (.aload_n 0, 1) := dq_get (L := lzddX12_readFresh_0) 3 rfl zddX12_readFresh_0 rfl
theorem dX12_readFresh_8 : decode cX12_readFresh 8 = .ok (.iconst 1, 1) := dq_get (L := lzddX12_readFresh_0) 4 rfl zddX12_readFresh_0 rfl
theorem dX12_readFresh_9 : decode cX12_readFresh 9 = .ok (.invokevirtual 145, 3) := dq_get (L := lzddX12_readFresh_0) 5 rfl zddX12_readFresh_0 rfl
theorem dX12_readFresh_12 : decode cX12_readFresh 12 = .ok (.aload_n 0, 1) := dq_get (L := lzddX12_readFresh_0) 6 rfl zddX12_readFresh_0 rfl
theorem dX12_readFresh_13 : decode cX12_readFresh 13 = .ok (.getfield 188, 3) := dq_get (L := lzddX12_readFresh_0) 7 rfl zddX12_readFresh_0 rfl
theorem dX12_readFresh_16 : decode cX12_readFresh 16 = .ok (.aload_n 0, 1) := dq_get (L := lzddX12_readFresh_0) 8 rfl zddX12_readFresh_0 rfl
theorem dX12_readFresh_17 : decode cX12_readFresh 17 = .ok (.getfield 118, 3) := dq_get (L := lzddX12_readFresh_0) 9 rfl zddX12_readFresh_0 rfl
theorem dX12_readFresh_20 : decode cX12_readFresh 20 = .ok (.invokevirtual 201, 3) := dq_get (L := lzddX12_readFresh_0) 10 rfl zddX12_readFresh_0 rfl
theorem dX12_readFresh_23 : decode cX12_readFresh 23 = .ok (.iconst (-1), 1) := dq_get (L := lzddX12_readFresh_0) 11 rfl zddX12_readFresh_0 rfl
theorem dX12_readFresh_24 : decode cX12_readFresh 24 = .ok (.if_icmp .eq 8, 3) := dq_get (L := lzddX12_readFresh_0) 12 rfl zddX12_readFresh_0 rfl
theorem dX12_readFresh_27 : decode cX12_readFresh 27 = .ok (.aload_n 0, 1) := dq_get (L := lzddX12_readFresh_0) 13 rfl zddX12_readFresh_0 rfl
theorem dX12_readFresh_28 : decode cX12_readFresh 28 = .ok (.iconst 3, 1) := dq_get (L := lzddX12_readFresh_0) 14 rfl zddX12_readFresh_0 rfl
theorem dX12_readFresh_29 : decode cX12_readFresh 29 = .ok (.invokevirtual 145, 3) := dq_get (L := lzddX12_readFresh_0) 15 rfl zddX12_readFresh_0 rfl
theorem dX12_readFresh_32 : decode cX12_readFresh 32 = .ok (.aload_n 0, 1) := dq_get (L := lzddX12_readFresh_0) 16 rfl zddX12_readFresh_0 rfl
theorem dX12_readFresh_33 : decode cX12_readFresh 33 = .ok (.getfield 118, 3) := dq_get (L := lzddX12_readFresh_0) 17 rfl zddX12_readFresh_0 rfl
theorem dX12_readFresh_36 : decode cX12_readFresh 36 = .ok (.lstore_n 1, 1) := dq_get (L := lzddX12_readFresh_0) 18 rfl zddX12_readFresh_0 rfl
theorem dX12_readFresh_37 : decode cX12_readFresh 37 = .ok (.aload_n 0, 1) := dq_get (L := lzddX12_readFresh_0) 19 rfl zddX12_readFresh_0 rfl
def lzddX12_readFresh_38 : List (Nat × Instr × Nat) := [(38, .invokevirtual 142, 3), (41, .lload_n 1, 1), (42, .lreturn, 1)]
theorem zddX12_readFresh_38 : dqW lzddX12_readFresh_38 (cX12_readFresh.data.toList.drop 38) 38 = true := by decide +kernel
theorem dX12_readFresh_38 : decode cX12_readFresh 38 = .ok (.invokevirtual 142, 3) := dq_get (L := lzddX12_readFresh_38) 0 rfl zddX12_readFresh_38 rfl
theorem dX12_readFresh_41 : decode cX12_readFresh 41 = .ok (.lload_n 1, 1) := dq_get (L := lzddX12_readFresh_38) 1 rfl zddX12_readFresh_38 rfl
theorem dX12_readFresh_42 : decode cX12_readFresh 42 = .ok (.lreturn, 1) := dq_get (L := lzddX12_readFresh_38) 2 rfl zddX12_readFresh_38 rfl
def lzddX12_readLine_0 : List (Nat × Instr × Nat) := [(0, .aload_n 0, 1), (1, .ldc 164, 2), (3, .invokevirtual 138, 3), (6, .ifCond .eq 10, 3), (9, .aload_n 0, 1), (10, .invokevirtual 227, 3), (13, .goto 173, 3), (16, .aload_n 0, 1), (17, .ldc 166, 2), (19, .invokevirtual 138, 3), (22, .ifCond .eq 11, 3), (25, .aload_n 0, 1), (26, .iconst 0, 1), (27, .invokevirtual 230, 3), (30, .goto 156, 3), (33, .aload_n 0, 1), (34, .ldc 168, 2), (36, .invokevirtual 138, 3), (39, .ifCond .eq 11, 3), (42, .aload_n 0, 1)]
theorem zddX12_readLine_0 : dqW lzddX12_readLine_0 (cX12_readLine.data.toList.drop 0) 0 = true := by decide +kernel
theorem dX12_readLine_0 : decode cX12_readLine 0 = .ok (.aload_n 0, 1) := dq_get (L := lzddX12_readLine_0) 0 rfl zddX12_readLine_0 rfl
theorem dX12_readLine_1 : decode cX12_readLine 1 = .ok (.ldc 164, 2) := dq_get (L := lzddX12_readLine_0) 1 rfl zddX12_readLine_0 rfl
theorem dX12_readLine_3 : decode cX12_readLine 3 = .ok (.invokevirtual 138, 3) := dq_get (L := lzddX12_readLine_0) 2 rfl zddX12_readLine_0 rfl
theorem dX12_readLine_6 : decode cX12_readLine 6 = .ok (.ifCond .eq 10, 3) := dq_get (L := lzddX12_readLine_0) 3 rfl zddX12_readLine_0 rfl
theorem dX12_readLine_9 : decode cX12_readLine 9 = .ok (.aload_n 0, 1) := dq_get (L := lzddX12_readLine_0) 4 rfl zddX12_readLine_0 rfl
theorem dX12_readLine_10 : decode cX12_readLine 10 = .ok (.invokevirtual 227, 3) := dq_get (L := lzddX12_readLine_0) 5 rfl zddX12_readLine_0 rfl
theorem dX12_readLine_13 : decode cX12_readLine 13 = .ok (.goto 173, 3) := dq_get (L := lzddX12_readLine_0) 6 rfl zddX12_readLine_0 rfl
theorem dX12_readLine_16 : decode cX12_readLine 16 = .ok (.aload_n 0, 1) := dq_get (L := lzddX12_readLine_0) 7 rfl zddX12_readLine_0 rfl
theorem dX12_readLine_17 : decode cX12_readLine 17 = .ok (.ldc 166, 2) := dq_get (L := lzddX12_readLine_0) 8 rfl zddX12_readLine_0 rfl
theorem dX12_readLine_19 : decode cX12_readLine 19 = .ok (.invokevirtual 138, 3) := dq_get (L := lzddX12_readLine_0) 9 rfl zddX12_readLine_0 rfl
theorem dX12_readLine_22 : decode cX12_readLine 22 = .ok (.ifCond .eq 11, 3) := dq_get (L := lzddX12_readLine_0) 10 rfl zddX12_readLine_0 rfl
theorem dX12_readLine_25 : decode cX12_readLine 25 = .ok (.aload_n 0, 1) := dq_get (L := lzddX12_readLine_0) 11 rfl zddX12_readLine_0 rfl
theorem dX12_readLine_26 : decode cX12_readLine 26 = .ok (.iconst 0, 1) := dq_get (L := lzddX12_readLine_0) 12 rfl zddX12_readLine_0 rfl
theorem dX12_readLine_27 : decode cX12_readLine 27 = .ok (.invokevirtual 230, 3) := dq_get (L := lzddX12_readLine_0) 13 rfl zddX12_readLine_0 rfl
theorem dX12_readLine_30 : decode cX12_readLine 30 = .ok (.goto 156, 3) := dq_get (L := lzddX12_readLine_0) 14 rfl zddX12_readLine_0 rfl
theorem dX12_readLine_33 : decode cX12_readLine 33 = .ok (.aload_n 0, 1) := dq_get (L := lzddX12_readLine_0) 15 rfl zddX12_readLine_0 rfl
theorem dX12_readLine_34 : decode cX12_readLine 34 = .ok (.ldc 168, 2) := dq_get (L := lzddX12_readLine_0) 16 rfl zddX12_readLine_0 rfl
theorem dX12_readLine_36 : decode cX12_readLine 36 = .ok (.invokevirtual 138, 3) := dq_get (L := lzddX12_readLine_0) 17 rfl zddX12_readLine_0 rfl
theorem dX12_readLine_39 : decode cX12_readLine 39 = .ok (.ifCond .eq 11, 3) := dq_get (L := lzddX12_readLine_0) 18 rfl zddX12_readLine_0 rfl
theorem dX12_readLine_42 : decode cX12_readLine 42 = .ok (.aload_n 0, 1) := dq_get (L := lzddX12_readLine_0) 19 rfl zddX12_readLine_0 rfl
def lzddX12_readLine_43 : List (Nat × Instr × Nat) := [(43, .iconst 1, 1), (44, .invokevirtual 230, 3), (47, .goto 139, 3), (50, .aload_n 0, 1), (51, .ldc 170, 2), (53, .invokevirtual 138, 3), (56, .ifCond .eq 11, 3), (59, .aload_n 0, 1), (60, .iconst 2, 1), (61, .invokevirtual 230, 3), (64, .goto 122, 3), (67, .aload_n 0, 1), (68, .ldc 172, 2), (70, .invokevirtual 138, 3), (73, .ifCond .eq 11, 3), (76, .aload_n 0, 1), (77, .iconst 3, 1), (78, .invokevirtual 230, 3), (81, .goto 105, 3), (84, .aload_n 0, 1)]
theorem zddX12_readLine_43 : dqW lzddX12_readLine_43 (cX12_readLine.data.toList.drop 43) 43 = true := by decide +kernel
theorem dX12_readLine_43 : decode cX12_readLine 43 = .ok (.iconst 1, 1) := dq_get (L := lzddX12_readLine_43) 0 rfl zddX12_readLine_43 rfl
theorem dX12_readLine_44 : decode cX12_readLine 44 = .ok (.invokevirtual 230, 3) := dq_get (L := lzddX12_readLine_43) 1 rfl zddX12_readLine_43 rfl
theorem dX12_readLine_47 : decode cX12_readLine 47 = .ok (.goto 139, 3) := dq_get (L := lzddX12_readLine_43) 2 rfl zddX12_readLine_43 rfl
theorem dX12_readLine_50 : decode cX12_readLine 50 = .ok (.aload_n 0, 1) := dq_get (L := lzddX12_readLine_43) 3 rfl zddX12_readLine_43 rfl
theorem dX12_readLine_51 : decode cX12_readLine 51 = .ok (.ldc 170, 2) := dq_get (L := lzddX12_readLine_43) 4 rfl zddX12_readLine_43 rfl
theorem dX12_readLine_53 : decode cX12_readLine 53 = .ok (.invokevirtual 138, 3) := dq_get (L := lzddX12_readLine_43) 5 rfl zddX12_readLine_43 rfl
theorem dX12_readLine_56 : decode cX12_readLine 56 = .ok (.ifCond .eq 11, 3) := dq_get (L := lzddX12_readLine_43) 6 rfl zddX12_readLine_43 rfl
theorem dX12_readLine_59 : decode cX12_readLine 59 = .ok (.aload_n 0, 1) := dq_get (L := lzddX12_readLine_43) 7 rfl zddX12_readLine_43 rfl
theorem dX12_readLine_60 : decode cX12_readLine 60 = .ok (.iconst 2, 1) := dq_get (L := lzddX12_readLine_43) 8 rfl zddX12_readLine_43 rfl
theorem dX12_readLine_61 : decode cX12_readLine 61 = .ok (.invokevirtual 230, 3) := dq_get (L := lzddX12_readLine_43) 9 rfl zddX12_readLine_43 rfl
theorem dX12_readLine_64 : decode cX12_readLine 64 = .ok (.goto 122, 3) := dq_get (L := lzddX12_readLine_43) 10 rfl zddX12_readLine_43 rfl
theorem dX12_readLine_67 : decode cX12_readLine 67 = .ok (.aload_n 0, 1) := dq_get (L := lzddX12_readLine_43) 11 rfl zddX12_readLine_43 rfl
theorem dX12_readLine_68 : decode cX12_readLine 68 = .ok (.ldc 172, 2) := dq_get (L := lzddX12_readLine_43) 12 rfl zddX12_readLine_43 rfl
theorem dX12_readLine_70 : decode cX12_readLine 70 = .ok (.invokevirtual 138, 3) := dq_get (L := lzddX12_readLine_43) 13 rfl zddX12_readLine_43 rfl
theorem dX12_readLine_73 : decode cX12_readLine 73 = .ok (.ifCond .eq 11, 3) := dq_get (L := lzddX12_readLine_43) 14 rfl zddX12_readLine_43 rfl
theorem dX12_readLine_76 : decode cX12_readLine 76 = .ok (.aload_n 0, 1) := dq_get (L := lzddX12_readLine_43) 15 rfl zddX12_readLine_43 rfl
theorem dX12_readLine_77 : decode cX12_readLine 77 = .ok (.iconst 3, 1) := dq_get (L := lzddX12_readLine_43) 16 rfl zddX12_readLine_43 rfl
theorem dX12_readLine_78 : decode cX12_readLine 78 = .ok (.invokevirtual 230, 3) := dq_get (L := lzddX12_readLine_43) 17 rfl zddX12_readLine_43 rfl
theorem dX12_readLine_81 : decode cX12_readLine 81 = .ok (.goto 105, 3) := dq_get (L := lzddX12_readLine_43) 18 rfl zddX12_readLine_43 rfl
theorem dX12_readLine_84 : decode cX12_readLine 84 = .ok (.aload_n 0, 1) := dq_get (L := lzddX12_readLine_43) 19 rfl zddX12_readLine_43 rfl
def lzddX12_readLine_85 : List (Nat × Instr × Nat) := [(85, .ldc 174, 2), (87, .invokevirtual 138, 3), (90, .ifCond .eq 11, 3), (93, .aload_n 0, 1), (94, .iconst 4, 1), (95, .invokevirtual 230, 3), (98, .goto 88, 3), (101, .aload_n 0, 1), (102, .ldc 176, 2), (104, .invokevirtual 138, 3), (107, .ifCond .eq 10, 3), (110, .aload_n 0, 1), (111, .invokevirtual 233, 3), (114, .goto 72, 3), (117, .aload_n 0, 1), (118, .ldc 178, 2), (120, .invokevirtual 138, 3), (123, .ifCond .eq 10, 3), (126, .aload_n 0, 1), (127, .invokevirtual 236, 3)]
theorem zddX12_readLine_85 : dqW lzddX12_readLine_85 (cX12_readLine.data.toList.drop 85) 85 = true := by decide +kernel
theorem dX12_readLine_85 : decode cX12_readLine 85 = .ok (.ldc 174, 2) := dq_get (L := lzddX12_readLine_85) 0 rfl zddX12_readLine_85 rfl
theorem dX12_readLine_87 : decode cX12_readLine 87 = .ok (.invokevirtual 138, 3) := dq_get (L := lzddX12_readLine_85) 1 rfl zddX12_readLine_85 rfl
theorem dX12_readLine_90 : decode cX12_readLine 90 = .ok (.ifCond .eq 11, 3) := dq_get (L := lzddX12_readLine_85) 2 rfl zddX12_readLine_85 rfl
theorem dX12_readLine_93 : decode cX12_readLine 93 = .ok (.aload_n 0, 1) := dq_get (L := lzddX12_readLine_85) 3 rfl zddX12_readLine_85 rfl
theorem dX12_readLine_94 : decode cX12_readLine 94 = .ok (.iconst 4, 1) := dq_get (L := lzddX12_readLine_85) 4 rfl zddX12_readLine_85 rfl
theorem dX12_readLine_95 : decode cX12_readLine 95 = .ok (.invokevirtual 230, 3) := dq_get (L := lzddX12_readLine_85) 5 rfl zddX12_readLine_85 rfl
theorem dX12_readLine_98 : decode cX12_readLine 98 = .ok (.goto 88, 3) := dq_get (L := lzddX12_readLine_85) 6 rfl zddX12_readLine_85 rfl
theorem dX12_readLine_101 : decode cX12_readLine 101 = .ok (.aload_n 0, 1) := dq_get (L := lzddX12_readLine_85) 7 rfl zddX12_readLine_85 rfl
theorem dX12_readLine_102 : decode cX12_readLine 102 = .ok (.ldc 176, 2) := dq_get (L := lzddX12_readLine_85) 8 rfl zddX12_readLine_85 rfl
theorem dX12_readLine_104 : decode cX12_readLine 104 = .ok (.invokevirtual 138, 3) := dq_get (L := lzddX12_readLine_85) 9 rfl zddX12_readLine_85 rfl
theorem dX12_readLine_107 : decode cX12_readLine 107 = .ok (.ifCond .eq 10, 3) := dq_get (L := lzddX12_readLine_85) 10 rfl zddX12_readLine_85 rfl
theorem dX12_readLine_110 : decode cX12_readLine 110 = .ok (.aload_n 0, 1) := dq_get (L := lzddX12_readLine_85) 11 rfl zddX12_readLine_85 rfl
theorem dX12_readLine_111 : decode cX12_readLine 111 = .ok (.invokevirtual 233, 3) := dq_get (L := lzddX12_readLine_85) 12 rfl zddX12_readLine_85 rfl
theorem dX12_readLine_114 : decode cX12_readLine 114 = .ok (.goto 72, 3) := dq_get (L := lzddX12_readLine_85) 13 rfl zddX12_readLine_85 rfl
theorem dX12_readLine_117 : decode cX12_readLine 117 = .ok (.aload_n 0, 1) := dq_get (L := lzddX12_readLine_85) 14 rfl zddX12_readLine_85 rfl
theorem dX12_readLine_118 : decode cX12_readLine 118 = .ok (.ldc 178, 2) := dq_get (L := lzddX12_readLine_85) 15 rfl zddX12_readLine_85 rfl
theorem dX12_readLine_120 : decode cX12_readLine 120 = .ok (.invokevirtual 138, 3) := dq_get (L := lzddX12_readLine_85) 16 rfl zddX12_readLine_85 rfl
theorem dX12_readLine_123 : decode cX12_readLine 123 = .ok (.ifCond .eq 10, 3) := dq_get (L := lzddX12_readLine_85) 17 rfl zddX12_readLine_85 rfl
theorem dX12_readLine_126 : decode cX12_readLine 126 = .ok (.aload_n 0, 1) := dq_get (L := lzddX12_readLine_85) 18 rfl zddX12_readLine_85 rfl
theorem dX12_readLine_127 : decode cX12_readLine 127 = .ok (.invokevirtual 236, 3) := dq_get (L := lzddX12_readLine_85) 19 rfl zddX12_readLine_85 rfl
def lzddX12_readLine_130 : List (Nat × Instr × Nat) := [(130, .goto 56, 3), (133, .aload_n 0, 1), (134, .ldc 180, 2), (136, .invokevirtual 138, 3), (139, .ifCond .eq 10, 3), (142, .aload_n 0, 1), (143, .invokevirtual 239, 3), (146, .goto 40, 3), (149, .aload_n 0, 1), (150, .ldc 182, 2), (152, .invokevirtual 138, 3), (155, .ifCond .eq 10, 3), (158, .aload_n 0, 1), (159, .invokevirtual 242, 3), (162, .goto 24, 3), (165, .aload_n 0, 1), (166, .ldc 184, 2), (168, .invokevirtual 138, 3), (171, .ifCond .eq 10, 3), (174, .aload_n 0, 1)]
theorem zddX12_readLine_130 : dqW lzddX12_readLine_130 (cX12_readLine.data.toList.drop 130) 130 = true := by decide +kernel
theorem dX12_readLine_130 : decode cX12_readLine 130 = .ok (.goto 56, 3) := dq_get (L := lzddX12_readLine_130) 0 rfl zddX12_readLine_130 rfl
theorem dX12_readLine_133 : decode cX12_readLine 133 = .ok (.aload_n 0, 1) := dq_get (L := lzddX12_readLine_130) 1 rfl zddX12_readLine_130 rfl
theorem dX12_readLine_134 : decode cX12_readLine 134 = .ok (.ldc 180, 2) := dq_get (L := lzddX12_readLine_130) 2 rfl zddX12_readLine_130 rfl
theorem dX12_readLine_136 : decode cX12_readLine 136 = .ok (.invokevirtual 138, 3) := dq_get (L := lzddX12_readLine_130) 3 rfl zddX12_readLine_130 rfl
theorem dX12_readLine_139 : decode cX12_readLine 139 = .ok (.ifCond .eq 10, 3) := dq_get (L := lzddX12_readLine_130) 4 rfl zddX12_readLine_130 rfl
theorem dX12_readLine_142 : decode cX12_readLine 142 = .ok (.aload_n 0, 1) := dq_get (L := lzddX12_readLine_130) 5 rfl zddX12_readLine_130 rfl
theorem dX12_readLine_143 : decode cX12_readLine 143 = .ok (.invokevirtual 239, 3) := dq_get (L := lzddX12_readLine_130) 6 rfl zddX12_readLine_130 rfl
theorem dX12_readLine_146 : decode cX12_readLine 146 = .ok (.goto 40, 3) := dq_get (L := lzddX12_readLine_130) 7 rfl zddX12_readLine_130 rfl
theorem dX12_readLine_149 : decode cX12_readLine 149 = .ok (.aload_n 0, 1) := dq_get (L := lzddX12_readLine_130) 8 rfl zddX12_readLine_130 rfl
theorem dX12_readLine_150 : decode cX12_readLine 150 = .ok (.ldc 182, 2) := dq_get (L := lzddX12_readLine_130) 9 rfl zddX12_readLine_130 rfl
theorem dX12_readLine_152 : decode cX12_readLine 152 = .ok (.invokevirtual 138, 3) := dq_get (L := lzddX12_readLine_130) 10 rfl zddX12_readLine_130 rfl
theorem dX12_readLine_155 : decode cX12_readLine 155 = .ok (.ifCond .eq 10, 3) := dq_get (L := lzddX12_readLine_130) 11 rfl zddX12_readLine_130 rfl
theorem dX12_readLine_158 : decode cX12_readLine 158 = .ok (.aload_n 0, 1) := dq_get (L := lzddX12_readLine_130) 12 rfl zddX12_readLine_130 rfl
theorem dX12_readLine_159 : decode cX12_readLine 159 = .ok (.invokevirtual 242, 3) := dq_get (L := lzddX12_readLine_130) 13 rfl zddX12_readLine_130 rfl
theorem dX12_readLine_162 : decode cX12_readLine 162 = .ok (.goto 24, 3) := dq_get (L := lzddX12_readLine_130) 14 rfl zddX12_readLine_130 rfl
theorem dX12_readLine_165 : decode cX12_readLine 165 = .ok (.aload_n 0, 1) := dq_get (L := lzddX12_readLine_130) 15 rfl zddX12_readLine_130 rfl
theorem dX12_readLine_166 : decode cX12_readLine 166 = .ok (.ldc 184, 2) := dq_get (L := lzddX12_readLine_130) 16 rfl zddX12_readLine_130 rfl
theorem dX12_readLine_168 : decode cX12_readLine 168 = .ok (.invokevirtual 138, 3) := dq_get (L := lzddX12_readLine_130) 17 rfl zddX12_readLine_130 rfl
theorem dX12_readLine_171 : decode cX12_readLine 171 = .ok (.ifCond .eq 10, 3) := dq_get (L := lzddX12_readLine_130) 18 rfl zddX12_readLine_130 rfl
theorem dX12_readLine_174 : decode cX12_readLine 174 = .ok (.aload_n 0, 1) := dq_get (L := lzddX12_readLine_130) 19 rfl zddX12_readLine_130 rfl
def lzddX12_readLine_175 : List (Nat × Instr × Nat) := [(175, .invokevirtual 245, 3), (178, .goto 8, 3), (181, .aload_n 0, 1), (182, .iconst 1, 1), (183, .invokevirtual 145, 3), (186, .return_, 1)]
theorem zddX12_readLine_175 : dqW lzddX12_readLine_175 (cX12_readLine.data.toList.drop 175) 175 = true := by decide +kernel
theorem dX12_readLine_175 : decode cX12_readLine 175 = .ok (.invokevirtual 245, 3) := dq_get (L := lzddX12_readLine_175) 0 rfl zddX12_readLine_175 rfl
theorem dX12_readLine_178 : decode cX12_readLine 178 = .ok (.goto 8, 3) := dq_get (L := lzddX12_readLine_175) 1 rfl zddX12_readLine_175 rfl
theorem dX12_readLine_181 : decode cX12_readLine 181 = .ok (.aload_n 0, 1) := dq_get (L := lzddX12_readLine_175) 2 rfl zddX12_readLine_175 rfl
theorem dX12_readLine_182 : decode cX12_readLine 182 = .ok (.iconst 1, 1) := dq_get (L := lzddX12_readLine_175) 3 rfl zddX12_readLine_175 rfl
theorem dX12_readLine_183 : decode cX12_readLine 183 = .ok (.invokevirtual 145, 3) := dq_get (L := lzddX12_readLine_175) 4 rfl zddX12_readLine_175 rfl
theorem dX12_readLine_186 : decode cX12_readLine 186 = .ok (.return_, 1) := dq_get (L := lzddX12_readLine_175) 5 rfl zddX12_readLine_175 rfl
def lzddX12_readPart_0 : List (Nat × Instr × Nat) := [(0, .aload_n 0, 1), (1, .aload_n 1, 1), (2, .invokevirtual 157, 3), (5, .aload_n 0, 1), (6, .iload_n 2, 1), (7, .iload_n 3, 1), (8, .invokevirtual 161, 3), (11, .ireturn, 1)]
theorem zddX12_readPart_0 : dqW lzddX12_readPart_0 (cX12_readPart.data.toList.drop 0) 0 = true := by decide +kernel
theorem dX12_readPart_0 : decode cX12_readPart 0 = .ok (.aload_n 0, 1) := dq_get (L := lzddX12_readPart_0) 0 rfl zddX12_readPart_0 rfl
theorem dX12_readPart_1 : decode cX12_readPart 1 = .ok (.aload_n 1, 1) := dq_get (L := lzddX12_readPart_0) 1 rfl zddX12_readPart_0 rfl
theorem dX12_readPart_2 : decode cX12_readPart 2 = .ok (.invokevirtual 157, 3) := dq_get (L := lzddX12_readPart_0) 2 rfl zddX12_readPart_0 rfl
theorem dX12_readPart_5 : decode cX12_readPart 5 = .ok (.aload_n 0, 1) := dq_get (L := lzddX12_readPart_0) 3 rfl zddX12_readPart_0 rfl
theorem dX12_readPart_6 : decode cX12_readPart 6 = .ok (.iload_n 2, 1) := dq_get (L := lzddX12_readPart_0) 4 rfl zddX12_readPart_0 rfl
theorem dX12_readPart_7 : decode cX12_readPart 7 = .ok (.iload_n 3, 1) := dq_get (L := lzddX12_readPart_0) 5 rfl zddX12_readPart_0 rfl
theorem dX12_readPart_8 : decode cX12_readPart 8 = .ok (.invokevirtual 161, 3) := dq_get (L := lzddX12_readPart_0) 6 rfl zddX12_readPart_0 rfl
theorem dX12_readPart_11 : decode cX12_readPart 11 = .ok (.ireturn, 1) := dq_get (L := lzddX12_readPart_0) 7 rfl zddX12_readPart_0 rfl
def lzddX12_readRising_0 : List (Nat × Instr × Nat) := [(0, .iconst 0, 1), (1, .istore 4, 2), (3, .iconst 0, 1), (4, .istore 5, 2), (6, .iconst 1, 1), (7, .istore 6, 2), (9, .iload 6, 2), (11, .ifCond .eq 81, 3), (14, .aload_n 0, 1), (15, .getfield 99, 3), (18, .iconst 5, 1), (19, .if_icmp .eq 73, 3), (22, .aload_n 0, 1), (23, .iload 5, 2), (25, .aload_n 0, 1), (26, .getfield 188, 3), (29, .getfield 192, 3), (32, .iconst 1, 1), (33, .isub, 1), (34, .invokevirtual 153, 3)]
theorem zddX12_readRising_0 : dqW lzddX12_readRising_0 (cX12_readRising.data.toList.drop 0) 0 = true := by decide +kernel
theorem dX12_readRising_0 : decode cX12_readRising 0 = .ok (.iconst 0, 1) := dq_get (L := lzddX12_readRising_0) 0 rfl zddX12_readRising_0 rfl
theorem dX12_readRising_1 : decode cX12_readRising 1 = .ok (.istore 4, 2) := dq_get (L := lzddX12_readRising_0) 1 rfl zddX12_readRising_0 rfl
theorem dX12_readRising_3 : decode cX12_readRising 3 = .ok (.iconst 0, 1) := dq_get (L := lzddX12_readRising_0) 2 rfl zddX12_readRising_0 rfl
theorem dX12_readRising_4 : decode cX12_readRising 4 = .ok (.istore 5, 2) := dq_get (L := lzddX12_readRising_0) 3 rfl zddX12_readRising_0 rfl
theorem dX12_readRising_6 : decode cX12_readRising 6 = .ok (.iconst 1, 1) := dq_get (L := lzddX12_readRising_0) 4 rfl zddX12_readRising_0 rfl
theorem dX12_readRising_7 : decode cX12_readRising 7 = .ok (.istore 6, 2) := dq_get (L := lzddX12_readRising_0) 5 rfl zddX12_readRising_0 rfl
theorem dX12_readRising_9 : decode cX12_readRising 9 = .ok (.iload 6, 2) := dq_get (L := lzddX12_readRising_0) 6 rfl zddX12_readRising_0 rfl
theorem dX12_readRising_11 : decode cX12_readRising 11 = .ok (.ifCond .eq 81, 3) := dq_get (L := lzddX12_readRising_0) 7 rfl zddX12_readRising_0 rfl
theorem dX12_readRising_14 : decode cX12_readRising 14 = .ok (.aload_n 0, 1) := dq_get (L := lzddX12_readRising_0) 8 rfl zddX12_readRising_0 rfl
theorem dX12_readRising_15 : decode cX12_readRising 15 = .ok (.getfield 99, 3) := dq_get (L := lzddX12_readRising_0) 9 rfl zddX12_readRising_0 rfl
theorem dX12_readRising_18 : decode cX12_readRising 18 = .ok (.iconst 5, 1) := dq_get (L := lzddX12_readRising_0) 10 rfl zddX12_readRising_0 rfl
theorem dX12_readRising_19 : decode cX12_readRising 19 = .ok (.if_icmp .eq 73, 3) := dq_get (L := lzddX12_readRising_0) 11 rfl zddX12_readRising_0 rfl
theorem dX12_readRising_22 : decode cX12_readRising 22 = .ok (.aload_n 0, 1) := dq_get (L := lzddX12_readRising_0) 12 rfl zddX12_readRising_0 rfl
theorem dX12_readRising_23 : decode cX12_readRising 23 = .ok (.iload 5, 2) := dq_get (L := lzddX12_readRising_0) 13 rfl zddX12_readRising_0 rfl
theorem dX12_readRising_25 : decode cX12_readRising 25 = .ok (.aload_n 0, 1) := dq_get (L := lzddX12_readRising_0) 14 rfl zddX12_readRising_0 rfl
theorem dX12_readRising_26 : decode cX12_readRising 26 = .ok (.getfield 188, 3) := dq_get (L := lzddX12_readRising_0) 15 rfl zddX12_readRising_0 rfl
theorem dX12_readRising_29 : decode cX12_readRising 29 = .ok (.getfield 192, 3) := dq_get (L := lzddX12_readRising_0) 16 rfl zddX12_readRising_0 rfl
theorem dX12_readRising_32 : decode cX12_readRising 32 = .ok (.iconst 1, 1) := dq_get (L := lzddX12_readRising_0) 17 rfl zddX12_readRising_0 rfl
theorem dX12_readRising_33 : decode cX12_readRising 33 = .ok (.isub, 1) := dq_get (L := lzddX12_readRising_0) 18 rfl zddX12_readRising_0 rfl
theorem dX12_readRising_34 : decode cX12_readRising 34 = .ok (.invokevirtual 153, 3) := dq_get (L := lzddX12_readRising_0) 19 rfl zddX12_readRising_0 rfl
def lzddX12_readRising_37 : List (Nat × Instr × Nat) := [(37, .istore 7, 2), (39, .iload 4, 2), (41, .iload_n 3, 1), (42, .if_icmp .ne 8, 3), (45, .aload_n 0, 1), (46, .iconst 5, 1), (47, .invokevirtual 145, 3), (50, .aload_n 0, 1), (51, .invokevirtual 142, 3), (54, .aload_n 0, 1), (55, .getfield 99, 3), (58, .iconst 5, 1), (59, .if_icmp .ne 5, 3), (62, .iconst 0, 1), (63, .ireturn, 1), (64, .aload_n 1, 1), (65, .iload_n 2, 1), (66, .iload 4, 2), (68, .iadd, 1), (69, .iload 7, 2)]
theorem zddX12_readRising_37 : dqW lzddX12_readRising_37 (cX12_readRising.data.toList.drop 37) 37 = true := by decide +kernel
theorem dX12_readRising_37 : decode cX12_readRising 37 = .ok (.istore 7, 2) := dq_get (L := lzddX12_readRising_37) 0 rfl zddX12_readRising_37 rfl
theorem dX12_readRising_39 : decode cX12_readRising 39 = .ok (.iload 4, 2) := dq_get (L := lzddX12_readRising_37) 1 rfl zddX12_readRising_37 rfl
theorem dX12_readRising_41 : decode cX12_readRising 41 = .ok (.iload_n 3, 1) := dq_get (L := lzddX12_readRising_37) 2 rfl zddX12_readRising_37 rfl
theorem dX12_readRising_42 : decode cX12_readRising 42 = .ok (.if_icmp .ne 8, 3) := dq_get (L := lzddX12_readRising_37) 3 rfl zddX12_readRising_37 rfl
theorem dX12_readRising_45 : decode cX12_readRising 45 = .ok (.aload_n 0, 1) := dq_get (L := lzddX12_readRising_37) 4 rfl zddX12_readRising_37 rfl
theorem dX12_readRising_46 : decode cX12_readRising 46 = .ok (.iconst 5, 1) := dq_get (L := lzddX12_readRising_37) 5 rfl zddX12_readRising_37 rfl
theorem dX12_readRising_47 : decode cX12_readRising 47 = .ok (.invokevirtual 145, 3) := dq_get (L := lzddX12_readRising_37) 6 rfl zddX12_readRising_37 rfl
theorem dX12_readRising_50 : decode cX12_readRising 50 = .ok (.aload_n 0, 1) := dq_get (L := lzddX12_readRising_37) 7 rfl zddX12_readRising_37 rfl
theorem dX12_readRising_51 : decode cX12_readRising 51 = .ok (.invokevirtual 142, 3) := dq_get (L := lzddX12_readRising_37) 8 rfl zddX12_readRising_37 rfl
theorem dX12_readRising_54 : decode cX12_readRising 54 = .ok (.aload_n 0, 1) := dq_get (L := lzddX12_readRising_37) 9 rfl zddX12_readRising_37 rfl
theorem dX12_readRising_55 : decode cX12_readRising 55 = .ok (.getfield 99, 3) := dq_get (L := lzddX12_readRising_37) 10 rfl zddX12_readRising_37 rfl
theorem dX12_readRising_58 : decode cX12_readRising 58 = .ok (.iconst 5, 1) := dq_get (L := lzddX12_readRising_37) 11 rfl zddX12_readRising_37 rfl
theorem dX12_readRising_59 : decode cX12_readRising 59 = .ok (.if_icmp .ne 5, 3) := dq_get (L := lzddX12_readRising_37) 12 rfl zddX12_readRising_37 rfl
theorem dX12_readRising_62 : decode cX12_readRising 62 = .ok (.iconst 0, 1) := dq_get (L := lzddX12_readRising_37) 13 rfl zddX12_readRising_37 rfl
theorem dX12_readRising_63 : decode cX12_readRising 63 = .ok (.ireturn, 1) := dq_get (L := lzddX12_readRising_37) 14 rfl zddX12_readRising_37 rfl
theorem dX12_readRising_64 : decode cX12_readRising 64 = .ok (.aload_n 1, 1) := dq_get (L := lzddX12_readRising_37) 15 rfl zddX12_readRising_37 rfl
theorem dX12_readRising_65 : decode cX12_readRising 65 = .ok (.iload_n 2, 1) := dq_get (L := lzddX12_readRising_37) 16 rfl zddX12_readRising_37 rfl
theorem dX12_readRising_66 : decode cX12_readRising 66 = .ok (.iload 4, 2) := dq_get (L := lzddX12_readRising_37) 17 rfl zddX12_readRising_37 rfl
theorem dX12_readRising_68 : decode cX12_readRising 68 = .ok (.iadd, 1) := dq_get (L := lzddX12_readRising_37) 18 rfl zddX12_readRising_37 rfl
theorem dX12_readRising_69 : decode cX12_readRising 69 = .ok (.iload 7, 2) := dq_get (L := lzddX12_readRising_37) 19 rfl zddX12_readRising_37 rfl
def lzddX12_readRising_71 : List (Nat × Instr × Nat) := [(71, .iastore, 1), (72, .iinc 4 1, 3), (75, .iload 7, 2), (77, .iconst 1, 1), (78, .iadd, 1), (79, .istore 5, 2), (81, .aload_n 0, 1), (82, .bipush 44, 2), (84, .invokevirtual 221, 3), (87, .istore 6, 2), (89, .goto (-80), 3), (92, .iload 4, 2), (94, .ireturn, 1)]
theorem zddX12_readRising_71 : dqW lzddX12_readRising_71 (cX12_readRising.data.toList.drop 71) 71 = true := by decide +kernel
theorem dX12_readRising_71 : decode cX12_readRising 71 = .ok (.iastore, 1) := dq_get (L := lzddX12_readRising_71) 0 rfl zddX12_readRising_71 rfl
theorem dX12_readRising_72 : decode cX12_readRising 72 = .ok (.iinc 4 1, 3) := dq_get (L := lzddX12_readRising_71) 1 rfl zddX12_readRising_71 rfl
theorem dX12_readRising_75 : decode cX12_readRising 75 = .ok (.iload 7, 2) := dq_get (L := lzddX12_readRising_71) 2 rfl zddX12_readRising_71 rfl
theorem dX12_readRising_77 : decode cX12_readRising 77 = .ok (.iconst 1, 1) := dq_get (L := lzddX12_readRising_71) 3 rfl zddX12_readRising_71 rfl
theorem dX12_readRising_78 : decode cX12_readRising 78 = .ok (.iadd, 1) := dq_get (L := lzddX12_readRising_71) 4 rfl zddX12_readRising_71 rfl
theorem dX12_readRising_79 : decode cX12_readRising 79 = .ok (.istore 5, 2) := dq_get (L := lzddX12_readRising_71) 5 rfl zddX12_readRising_71 rfl
theorem dX12_readRising_81 : decode cX12_readRising 81 = .ok (.aload_n 0, 1) := dq_get (L := lzddX12_readRising_71) 6 rfl zddX12_readRising_71 rfl
theorem dX12_readRising_82 : decode cX12_readRising 82 = .ok (.bipush 44, 2) := dq_get (L := lzddX12_readRising_71) 7 rfl zddX12_readRising_71 rfl
theorem dX12_readRising_84 : decode cX12_readRising 84 = .ok (.invokevirtual 221, 3) := dq_get (L := lzddX12_readRising_71) 8 rfl zddX12_readRising_71 rfl
theorem dX12_readRising_87 : decode cX12_readRising 87 = .ok (.istore 6, 2) := dq_get (L := lzddX12_readRising_71) 9 rfl zddX12_readRising_71 rfl
theorem dX12_readRising_89 : decode cX12_readRising 89 = .ok (.goto (-80), 3) := dq_get (L := lzddX12_readRising_71) 10 rfl zddX12_readRising_71 rfl
theorem dX12_readRising_92 : decode cX12_readRising 92 = .ok (.iload 4, 2) := dq_get (L := lzddX12_readRising_71) 11 rfl zddX12_readRising_71 rfl
theorem dX12_readRising_94 : decode cX12_readRising 94 = .ok (.ireturn, 1) := dq_get (L := lzddX12_readRising_71) 12 rfl zddX12_readRising_71 rfl
def lzddX12_readSlice_0 : List (Nat × Instr × Nat) := [(0, .aload_n 0, 1), (1, .aload_n 0, 1), (2, .getfield 188, 3), (5, .getfield 370, 3), (8, .iconst 4, 1), (9, .invokevirtual 268, 3), (12, .aload_n 0, 1), (13, .aload_n 0, 1), (14, .getfield 188, 3), (17, .getfield 373, 3), (20, .bipush 8, 2), (22, .aload_n 0, 1), (23, .getfield 188, 3), (26, .getfield 370, 3), (29, .imul, 1), (30, .bipush 8, 2), (32, .invokevirtual 308, 3), (35, .istore_n 1, 1), (36, .aload_n 0, 1), (37, .getfield 99, 3)]
theorem zddX12_readSlice_0 : dqW lzddX12_readSlice_0 (cX12_readSlice.data.toList.drop 0) 0 = true := by decide +kernel
theorem dX12_readSlice_0 : decode cX12_readSlice 0 = .ok (.aload_n 0, 1) := dq_get (L := lzddX12_readSlice_0) 0 rfl zddX12_readSlice_0 rfl
theorem dX12_readSlice_1 : decode cX12_readSlice 1 = .ok (.aload_n 0, 1) := dq_get (L := lzddX12_readSlice_0) 1 rfl zddX12_readSlice_0 rfl
theorem dX12_readSlice_2 : decode cX12_readSlice 2 = .ok (.getfield 188, 3) := dq_get (L := lzddX12_readSlice_0) 2 rfl zddX12_readSlice_0 rfl
theorem dX12_readSlice_5 : decode cX12_readSlice 5 = .ok (.getfield 370, 3) := dq_get (L := lzddX12_readSlice_0) 3 rfl zddX12_readSlice_0 rfl
theorem dX12_readSlice_8 : decode cX12_readSlice 8 = .ok (.iconst 4, 1) := dq_get (L := lzddX12_readSlice_0) 4 rfl zddX12_readSlice_0 rfl
theorem dX12_readSlice_9 : decode cX12_readSlice 9 = .ok (.invokevirtual 268, 3) := dq_get (L := lzddX12_readSlice_0) 5 rfl zddX12_readSlice_0 rfl
theorem dX12_readSlice_12 : decode cX12_readSlice 12 = .ok (.aload_n 0, 1) := dq_get (L := lzddX12_readSlice_0) 6 rfl zddX12_readSlice_0 rfl
theorem dX12_readSlice_13 : decode cX12_readSlice 13 = .ok (.aload_n 0, 1) := dq_get (L := lzddX12_readSlice_0) 7 rfl zddX12_readSlice_0 rfl
theorem dX12_readSlice_14 : decode cX12_readSlice 14 = .ok (.getfield 188, 3) := dq_get (L := lzddX12_readSlice_0) 8 rfl zddX12_readSlice_0 rfl
theorem dX12_readSlice_17 : decode cX12_readSlice 17 = .ok (.getfield 373, 3) := dq_get (L := lzddX12_readSlice_0) 9 rfl zddX12_readSlice_0 rfl
theorem dX12_readSlice_20 : decode cX12_readSlice 20 = .ok (.bipush 8, 2) := dq_get (L := lzddX12_readSlice_0) 10 rfl zddX12_readSlice_0 rfl
theorem dX12_readSlice_22 : decode cX12_readSlice 22 = .ok (.aload_n 0, 1) := dq_get (L := lzddX12_readSlice_0) 11 rfl zddX12_readSlice_0 rfl
theorem dX12_readSlice_23 : decode cX12_readSlice 23 = .ok (.getfield 188, 3) := dq_get (L := lzddX12_readSlice_0) 12 rfl zddX12_readSlice_0 rfl
theorem dX12_readSlice_26 : decode cX12_readSlice 26 = .ok (.getfield 370, 3) := dq_get (L := lzddX12_readSlice_0) 13 rfl zddX12_readSlice_0 rfl
theorem dX12_readSlice_29 : decode cX12_readSlice 29 = .ok (.imul, 1) := dq_get (L := lzddX12_readSlice_0) 14 rfl zddX12_readSlice_0 rfl
theorem dX12_readSlice_30 : decode cX12_readSlice 30 = .ok (.bipush 8, 2) := dq_get (L := lzddX12_readSlice_0) 15 rfl zddX12_readSlice_0 rfl
theorem dX12_readSlice_32 : decode cX12_readSlice 32 = .ok (.invokevirtual 308, 3) := dq_get (L := lzddX12_readSlice_0) 16 rfl zddX12_readSlice_0 rfl
theorem dX12_readSlice_35 : decode cX12_readSlice 35 = .ok (.istore_n 1, 1) := dq_get (L := lzddX12_readSlice_0) 17 rfl zddX12_readSlice_0 rfl
theorem dX12_readSlice_36 : decode cX12_readSlice 36 = .ok (.aload_n 0, 1) := dq_get (L := lzddX12_readSlice_0) 18 rfl zddX12_readSlice_0 rfl
theorem dX12_readSlice_37 : decode cX12_readSlice 37 = .ok (.getfield 99, 3) := dq_get (L := lzddX12_readSlice_0) 19 rfl zddX12_readSlice_0 rfl
def lzddX12_readSlice_40 : List (Nat × Instr × Nat) := [(40, .iconst 5, 1), (41, .if_icmp .ne 4, 3), (44, .return_, 1), (45, .aload_n 0, 1), (46, .getfield 188, 3), (49, .getfield 375, 3), (52, .aload_n 0, 1), (53, .getfield 188, 3), (56, .getfield 370, 3), (59, .iload_n 1, 1), (60, .iastore, 1), (61, .aload_n 0, 1), (62, .getfield 188, 3), (65, .dup, 1), (66, .getfield 370, 3), (69, .iconst 1, 1), (70, .iadd, 1), (71, .putfield 370, 3), (74, .return_, 1)]
theorem zddX12_readSlice_40 : dqW lzddX12_readSlice_40 (cX12_readSlice.data.toList.drop 40) 40 = true := by decide +kernel
theorem dX12_readSlice_40 : decode cX12_readSlice 40 = .ok (.iconst 5, 1) := dq_get (L := lzddX12_readSlice_40) 0 rfl zddX12_readSlice_40 rfl
theorem dX12_readSlice_41 : decode cX12_readSlice 41 = .ok (.if_icmp .ne 4, 3) := dq_get (L := lzddX12_readSlice_40) 1 rfl zddX12_readSlice_40 rfl
theorem dX12_readSlice_44 : decode cX12_readSlice 44 = .ok (.return_, 1) := dq_get (L := lzddX12_readSlice_40) 2 rfl zddX12_readSlice_40 rfl
theorem dX12_readSlice_45 : decode cX12_readSlice 45 = .ok (.aload_n 0, 1) := dq_get (L := lzddX12_readSlice_40) 3 rfl zddX12_readSlice_40 rfl
theorem dX12_readSlice_46 : decode cX12_readSlice 46 = .ok (.getfield 188, 3) := dq_get (L := lzddX12_readSlice_40) 4 rfl zddX12_readSlice_40 rfl
theorem dX12_readSlice_49 : decode cX12_readSlice 49 = .ok (.getfield 375, 3) := dq_get (L := lzddX12_readSlice_40) 5 rfl zddX12_readSlice_40 rfl
theorem dX12_readSlice_52 : decode cX12_readSlice 52 = .ok (.aload_n 0, 1) := dq_get (L := lzddX12_readSlice_40) 6 rfl zddX12_readSlice_40 rfl
theorem dX12_readSlice_53 : decode cX12_readSlice 53 = .ok (.getfield 188, 3) := dq_get (L := lzddX12_readSlice_40) 7 rfl zddX12_readSlice_40 rfl
theorem dX12_readSlice_56 : decode cX12_readSlice 56 = .ok (.getfield 370, 3) := dq_get (L := lzddX12_readSlice_40) 8 rfl zddX12_readSlice_40 rfl
theorem dX12_readSlice_59 : decode cX12_readSlice 59 = .ok (.iload_n 1, 1) := dq_get (L := lzddX12_readSlice_40) 9 rfl zddX12_readSlice_40 rfl
theorem dX12_readSlice_60 : decode cX12_readSlice 60 = .ok (.iastore, 1) := dq_get (L := lzddX12_readSlice_40) 10 rfl zddX12_readSlice_40 rfl
theorem dX12_readSlice_61 : decode cX12_readSlice 61 = .ok (.aload_n 0, 1) := dq_get (L := lzddX12_readSlice_40) 11 rfl zddX12_readSlice_40 rfl
theorem dX12_readSlice_62 : decode cX12_readSlice 62 = .ok (.getfield 188, 3) := dq_get (L := lzddX12_readSlice_40) 12 rfl zddX12_readSlice_40 rfl
theorem dX12_readSlice_65 : decode cX12_readSlice 65 = .ok (.dup, 1) := dq_get (L := lzddX12_readSlice_40) 13 rfl zddX12_readSlice_40 rfl
theorem dX12_readSlice_66 : decode cX12_readSlice 66 = .ok (.getfield 370, 3) := dq_get (L := lzddX12_readSlice_40) 14 rfl zddX12_readSlice_40 rfl
theorem dX12_readSlice_69 : decode cX12_readSlice 69 = .ok (.iconst 1, 1) := dq_get (L := lzddX12_readSlice_40) 15 rfl zddX12_readSlice_40 rfl
theorem dX12_readSlice_70 : decode cX12_readSlice 70 = .ok (.iadd, 1) := dq_get (L := lzddX12_readSlice_40) 16 rfl zddX12_readSlice_40 rfl
theorem dX12_readSlice_71 : decode cX12_readSlice 71 = .ok (.putfield 370, 3) := dq_get (L := lzddX12_readSlice_40) 17 rfl zddX12_readSlice_40 rfl
theorem dX12_readSlice_74 : decode cX12_readSlice 74 = .ok (.return_, 1) := dq_get (L := lzddX12_readSlice_40) 18 rfl zddX12_readSlice_40 rfl
def lzddX12_readTurner_0 : List (Nat × Instr × Nat) := [(0, .aload_n 0, 1), (1, .aload_n 0, 1), (2, .getfield 188, 3), (5, .getfield 315, 3), (8, .iconst 5, 1), (9, .invokevirtual 268, 3), (12, .aload_n 0, 1), (13, .invokevirtual 285, 3), (16, .lstore_n 1, 1), (17, .aload_n 0, 1), (18, .ldc_w 318, 3), (21, .invokevirtual 290, 3), (24, .ifCond .eq 7, 3), (27, .iconst 0, 1), (28, .goto 45, 3), (31, .aload_n 0, 1), (32, .ldc_w 320, 3), (35, .invokevirtual 290, 3), (38, .ifCond .eq 7, 3), (41, .iconst 1, 1)]
theorem zddX12_readTurner_0 : dqW lzddX12_readTurner_0 (cX12_readTurner.data.toList.drop 0) 0 = true := by decide +kernel
theorem dX12_readTurner_0 : decode cX12_readTurner 0 = .ok (.aload_n 0, 1) := dq_get (L := lzddX12_readTurner_0) 0 rfl zddX12_readTurner_0 rfl
theorem dX12_readTurner_1 : decode cX12_readTurner 1 = .ok (.aload_n 0, 1) := dq_get (L := lzddX12_readTurner_0) 1 rfl zddX12_readTurner_0 rfl
theorem dX12_readTurner_2 : decode cX12_readTurner 2 = .ok (.getfield 188, 3) := dq_get (L := lzddX12_readTurner_0) 2 rfl zddX12_readTurner_0 rfl
theorem dX12_readTurner_5 : decode cX12_readTurner 5 = .ok (.getfield 315, 3) := dq_get (L := lzddX12_readTurner_0) 3 rfl zddX12_readTurner_0 rfl
theorem dX12_readTurner_8 : decode cX12_readTurner 8 = .ok (.iconst 5, 1) := dq_get (L := lzddX12_readTurner_0) 4 rfl zddX12_readTurner_0 rfl
theorem dX12_readTurner_9 : decode cX12_readTurner 9 = .ok (.invokevirtual 268, 3) := dq_get (L := lzddX12_readTurner_0) 5 rfl zddX12_readTurner_0 rfl
theorem dX12_readTurner_12 : decode cX12_readTurner 12 = .ok (.aload_n 0, 1) := dq_get (L := lzddX12_readTurner_0) 6 rfl zddX12_readTurner_0 rfl
theorem dX12_readTurner_13 : decode cX12_readTurner 13 = .ok (.invokevirtual 285, 3) := dq_get (L := lzddX12_readTurner_0) 7 rfl zddX12_readTurner_0 rfl
theorem dX12_readTurner_16 : decode cX12_readTurner 16 = .ok (.lstore_n 1, 1) := dq_get (L := lzddX12_readTurner_0) 8 rfl zddX12_readTurner_0 rfl
theorem dX12_readTurner_17 : decode cX12_readTurner 17 = .ok (.aload_n 0, 1) := dq_get (L := lzddX12_readTurner_0) 9 rfl zddX12_readTurner_0 rfl
theorem dX12_readTurner_18 : decode cX12_readTurner 18 = .ok (.ldc_w 318, 3) := dq_get (L := lzddX12_readTurner_0) 10 rfl zddX12_readTurner_0 rfl
theorem dX12_readTurner_21 : decode cX12_readTurner 21 = .ok (.invokevirtual 290, 3) := dq_get (L := lzddX12_readTurner_0) 11 rfl zddX12_readTurner_0 rfl
theorem dX12_readTurner_24 : decode cX12_readTurner 24 = .ok (.ifCond .eq 7, 3) := dq_get (L := lzddX12_readTurner_0) 12 rfl zddX12_readTurner_0 rfl
theorem dX12_readTurner_27 : decode cX12_readTurner 27 = .ok (.iconst 0, 1) := dq_get (L := lzddX12_readTurner_0) 13 rfl zddX12_readTurner_0 rfl
theorem dX12_readTurner_28 : decode cX12_readTurner 28 = .ok (.goto 45, 3) := dq_get (L := lzddX12_readTurner_0) 14 rfl zddX12_readTurner_0 rfl
theorem dX12_readTurner_31 : decode cX12_readTurner 31 = .ok (.aload_n 0, 1) := dq_get (L := lzddX12_readTurner_0) 15 rfl zddX12_readTurner_0 rfl
theorem dX12_readTurner_32 : decode cX12_readTurner 32 = .ok (.ldc_w 320, 3) := dq_get (L := lzddX12_readTurner_0) 16 rfl zddX12_readTurner_0 rfl
theorem dX12_readTurner_35 : decode cX12_readTurner 35 = .ok (.invokevirtual 290, 3) := dq_get (L := lzddX12_readTurner_0) 17 rfl zddX12_readTurner_0 rfl
theorem dX12_readTurner_38 : decode cX12_readTurner 38 = .ok (.ifCond .eq 7, 3) := dq_get (L := lzddX12_readTurner_0) 18 rfl zddX12_readTurner_0 rfl
theorem dX12_readTurner_41 : decode cX12_readTurner 41 = .ok (.iconst 1, 1) := dq_get (L := lzddX12_readTurner_0) 19 rfl zddX12_readTurner_0 rfl
def lzddX12_readTurner_42 : List (Nat × Instr × Nat) := [(42, .goto 31, 3), (45, .aload_n 0, 1), (46, .ldc_w 322, 3), (49, .invokevirtual 290, 3), (52, .ifCond .eq 7, 3), (55, .iconst 2, 1), (56, .goto 17, 3), (59, .aload_n 0, 1), (60, .ldc 178, 2), (62, .invokevirtual 290, 3), (65, .ifCond .eq 7, 3), (68, .iconst 3, 1), (69, .goto 4, 3), (72, .iconst (-1), 1), (73, .istore_n 3, 1), (74, .iload_n 3, 1), (75, .iconst (-1), 1), (76, .if_icmp .ne 8, 3), (79, .aload_n 0, 1), (80, .iconst 1, 1)]
theorem zddX12_readTurner_42 : dqW lzddX12_readTurner_42 (cX12_readTurner.data.toList.drop 42) 42 = true := by decide +kernel
theorem dX12_readTurner_42 : decode cX12_readTurner 42 = .ok (.goto 31, 3) := dq_get (L := lzddX12_readTurner_42) 0 rfl zddX12_readTurner_42 rfl
theorem dX12_readTurner_45 : decode cX12_readTurner 45 = .ok (.aload_n 0, 1) := dq_get (L := lzddX12_readTurner_42) 1 rfl zddX12_readTurner_42 rfl
theorem dX12_readTurner_46 : decode cX12_readTurner 46 = .ok (.ldc_w 322, 3) := dq_get (L := lzddX12_readTurner_42) 2 rfl zddX12_readTurner_42 rfl
theorem dX12_readTurner_49 : decode cX12_readTurner 49 = .ok (.invokevirtual 290, 3) := dq_get (L := lzddX12_readTurner_42) 3 rfl zddX12_readTurner_42 rfl
theorem dX12_readTurner_52 : decode cX12_readTurner 52 = .ok (.ifCond .eq 7, 3) := dq_get (L := lzddX12_readTurner_42) 4 rfl zddX12_readTurner_42 rfl
theorem dX12_readTurner_55 : decode cX12_readTurner 55 = .ok (.iconst 2, 1) := dq_get (L := lzddX12_readTurner_42) 5 rfl zddX12_readTurner_42 rfl
theorem dX12_readTurner_56 : decode cX12_readTurner 56 = .ok (.goto 17, 3) := dq_get (L := lzddX12_readTurner_42) 6 rfl zddX12_readTurner_42 rfl
theorem dX12_readTurner_59 : decode cX12_readTurner 59 = .ok (.aload_n 0, 1) := dq_get (L := lzddX12_readTurner_42) 7 rfl zddX12_readTurner_42 rfl
theorem dX12_readTurner_60 : decode cX12_readTurner 60 = .ok (.ldc 178, 2) := dq_get (L := lzddX12_readTurner_42) 8 rfl zddX12_readTurner_42 rfl
theorem dX12_readTurner_62 : decode cX12_readTurner 62 = .ok (.invokevirtual 290, 3) := dq_get (L := lzddX12_readTurner_42) 9 rfl zddX12_readTurner_42 rfl
theorem dX12_readTurner_65 : decode cX12_readTurner 65 = .ok (.ifCond .eq 7, 3) := dq_get (L := lzddX12_readTurner_42) 10 rfl zddX12_readTurner_42 rfl
theorem dX12_readTurner_68 : decode cX12_readTurner 68 = .ok (.iconst 3, 1) := dq_get (L := lzddX12_readTurner_42) 11 rfl zddX12_readTurner_42 rfl
theorem dX12_readTurner_69 : decode cX12_readTurner 69 = .ok (.goto 4, 3) := dq_get (L := lzddX12_readTurner_42) 12 rfl zddX12_readTurner_42 rfl
theorem dX12_readTurner_72 : decode cX12_readTurner 72 = .ok (.iconst (-1), 1) := dq_get (L := lzddX12_readTurner_42) 13 rfl zddX12_readTurner_42 rfl
theorem dX12_readTurner_73 : decode cX12_readTurner 73 = .ok (.istore_n 3, 1) := dq_get (L := lzddX12_readTurner_42) 14 rfl zddX12_readTurner_42 rfl
theorem dX12_readTurner_74 : decode cX12_readTurner 74 = .ok (.iload_n 3, 1) := dq_get (L := lzddX12_readTurner_42) 15 rfl zddX12_readTurner_42 rfl
theorem dX12_readTurner_75 : decode cX12_readTurner 75 = .ok (.iconst (-1), 1) := dq_get (L := lzddX12_readTurner_42) 16 rfl zddX12_readTurner_42 rfl
theorem dX12_readTurner_76 : decode cX12_readTurner 76 = .ok (.if_icmp .ne 8, 3) := dq_get (L := lzddX12_readTurner_42) 17 rfl zddX12_readTurner_42 rfl
theorem dX12_readTurner_79 : decode cX12_readTurner 79 = .ok (.aload_n 0, 1) := dq_get (L := lzddX12_readTurner_42) 18 rfl zddX12_readTurner_42 rfl
theorem dX12_readTurner_80 : decode cX12_readTurner 80 = .ok (.iconst 1, 1) := dq_get (L := lzddX12_readTurner_42) 19 rfl zddX12_readTurner_42 rfl
def lzddX12_readTurner_81 : List (Nat × Instr × Nat) := [(81, .invokevirtual 145, 3), (84, .aload_n 0, 1), (85, .ldc_w 324, 3), (88, .iconst 0, 1), (89, .aload_n 0, 1), (90, .getfield 188, 3), (93, .getfield 192, 3), (96, .iconst 1, 1), (97, .isub, 1), (98, .invokevirtual 249, 3), (101, .istore 4, 2), (103, .aload_n 0, 1), (104, .ldc_w 272, 3), (107, .iload 4, 2), (109, .iconst 1, 1), (110, .iadd, 1), (111, .aload_n 0, 1), (112, .getfield 188, 3), (115, .getfield 192, 3), (118, .invokevirtual 249, 3)]
theorem zddX12_readTurner_81 : dqW lzddX12_readTurner_81 (cX12_readTurner.data.toList.drop 81) 81 = true := by decide +kernel
theorem dX12_readTurner_81 : decode cX12_readTurner 81 = .ok (.invokevirtual 145, 3) := dq_get (L := lzddX12_readTurner_81) 0 rfl zddX12_readTurner_81 rfl
theorem dX12_readTurner_84 : decode cX12_readTurner 84 = .ok (.aload_n 0, 1) := dq_get (L := lzddX12_readTurner_81) 1 rfl zddX12_readTurner_81 rfl
theorem dX12_readTurner_85 : decode cX12_readTurner 85 = .ok (.ldc_w 324, 3) := dq_get (L := lzddX12_readTurner_81) 2 rfl zddX12_readTurner_81 rfl
theorem dX12_readTurner_88 : decode cX12_readTurner 88 = .ok (.iconst 0, 1) := dq_get (L := lzddX12_readTurner_81) 3 rfl zddX12_readTurner_81 rfl
theorem dX12_readTurner_89 : decode cX12_readTurner 89 = .ok (.aload_n 0, 1) := dq_get (L := lzddX12_readTurner_81) 4 rfl zddX12_readTurner_81 rfl
theorem dX12_readTurner_90 : decode cX12_readTurner 90 = .ok (.getfield 188, 3) := dq_get (L := lzddX12_readTurner_81) 5 rfl zddX12_readTurner_81 rfl
theorem dX12_readTurner_93 : decode cX12_readTurner 93 = .ok (.getfield 192, 3) := dq_get (L := lzddX12_readTurner_81) 6 rfl zddX12_readTurner_81 rfl
theorem dX12_readTurner_96 : decode cX12_readTurner 96 = .ok (.iconst 1, 1) := dq_get (L := lzddX12_readTurner_81) 7 rfl zddX12_readTurner_81 rfl
theorem dX12_readTurner_97 : decode cX12_readTurner 97 = .ok (.isub, 1) := dq_get (L := lzddX12_readTurner_81) 8 rfl zddX12_readTurner_81 rfl
theorem dX12_readTurner_98 : decode cX12_readTurner 98 = .ok (.invokevirtual 249, 3) := dq_get (L := lzddX12_readTurner_81) 9 rfl zddX12_readTurner_81 rfl
theorem dX12_readTurner_101 : decode cX12_readTurner 101 = .ok (.istore 4, 2) := dq_get (L := lzddX12_readTurner_81) 10 rfl zddX12_readTurner_81 rfl
theorem dX12_readTurner_103 : decode cX12_readTurner 103 = .ok (.aload_n 0, 1) := dq_get (L := lzddX12_readTurner_81) 11 rfl zddX12_readTurner_81 rfl
theorem dX12_readTurner_104 : decode cX12_readTurner 104 = .ok (.ldc_w 272, 3) := dq_get (L := lzddX12_readTurner_81) 12 rfl zddX12_readTurner_81 rfl
theorem dX12_readTurner_107 : decode cX12_readTurner 107 = .ok (.iload 4, 2) := dq_get (L := lzddX12_readTurner_81) 13 rfl zddX12_readTurner_81 rfl
theorem dX12_readTurner_109 : decode cX12_readTurner 109 = .ok (.iconst 1, 1) := dq_get (L := lzddX12_readTurner_81) 14 rfl zddX12_readTurner_81 rfl
theorem dX12_readTurner_110 : decode cX12_readTurner 110 = .ok (.iadd, 1) := dq_get (L := lzddX12_readTurner_81) 15 rfl zddX12_readTurner_81 rfl
theorem dX12_readTurner_111 : decode cX12_readTurner 111 = .ok (.aload_n 0, 1) := dq_get (L := lzddX12_readTurner_81) 16 rfl zddX12_readTurner_81 rfl
theorem dX12_readTurner_112 : decode cX12_readTurner 112 = .ok (.getfield 188, 3) := dq_get (L := lzddX12_readTurner_81) 17 rfl zddX12_readTurner_81 rfl
theorem dX12_readTurner_115 : decode cX12_readTurner 115 = .ok (.getfield 192, 3) := dq_get (L := lzddX12_readTurner_81) 18 rfl zddX12_readTurner_81 rfl
theorem dX12_readTurner_118 : decode cX12_readTurner 118 = .ok (.invokevirtual 249, 3) := dq_get (L := lzddX12_readTurner_81) 19 rfl zddX12_readTurner_81 rfl
def lzddX12_readTurner_121 : List (Nat × Instr × Nat) := [(121, .istore 5, 2), (123, .aload_n 0, 1), (124, .ldc_w 325, 3), (127, .iconst 1, 1), (128, .bipush 8, 2), (130, .invokevirtual 249, 3), (133, .istore 6, 2), (135, .aload_n 0, 1), (136, .ldc_w 327, 3), (139, .iconst 1, 1), (140, .bipush 20, 2), (142, .invokevirtual 249, 3), (145, .istore 7, 2), (147, .aload_n 0, 1), (148, .ldc 253, 2), (150, .invokevirtual 157, 3), (153, .iconst 0, 1), (154, .istore 8, 2), (156, .iconst 1, 1), (157, .istore 9, 2)]
theorem zddX12_readTurner_121 : dqW lzddX12_readTurner_121 (cX12_readTurner.data.toList.drop 121) 121 = true := by decide +kernel
theorem dX12_readTurner_121 : decode cX12_readTurner 121 = .ok (.istore 5, 2) := dq_get (L := lzddX12_readTurner_121) 0 rfl zddX12_readTurner_121 rfl
theorem dX12_readTurner_123 : decode cX12_readTurner 123 = .ok (.aload_n 0, 1) := dq_get (L := lzddX12_readTurner_121) 1 rfl zddX12_readTurner_121 rfl
theorem dX12_readTurner_124 : decode cX12_readTurner 124 = .ok (.ldc_w 325, 3) := dq_get (L := lzddX12_readTurner_121) 2 rfl zddX12_readTurner_121 rfl
theorem dX12_readTurner_127 : decode cX12_readTurner 127 = .ok (.iconst 1, 1) := dq_get (L := lzddX12_readTurner_121) 3 rfl zddX12_readTurner_121 rfl
theorem dX12_readTurner_128 : decode cX12_readTurner 128 = .ok (.bipush 8, 2) := dq_get (L := lzddX12_readTurner_121) 4 rfl zddX12_readTurner_121 rfl
theorem dX12_readTurner_130 : decode cX12_readTurner 130 = .ok (.invokevirtual 249, 3) := dq_get (L := lzddX12_readTurner_121) 5 rfl zddX12_readTurner_121 rfl
theorem dX12_readTurner_133 : decode cX12_readTurner 133 = .ok (.istore 6, 2) := dq_get (L := lzddX12_readTurner_121) 6 rfl zddX12_readTurner_121 rfl
theorem dX12_readTurner_135 : decode cX12_readTurner 135 = .ok (.aload_n 0, 1) := dq_get (L := lzddX12_readTurner_121) 7 rfl zddX12_readTurner_121 rfl
theorem dX12_readTurner_136 : decode cX12_readTurner 136 = .ok (.ldc_w 327, 3) := dq_get (L := lzddX12_readTurner_121) 8 rfl zddX12_readTurner_121 rfl
theorem dX12_readTurner_139 : decode cX12_readTurner 139 = .ok (.iconst 1, 1) := dq_get (L := lzddX12_readTurner_121) 9 rfl zddX12_readTurner_121 rfl
theorem dX12_readTurner_140 : decode cX12_readTurner 140 = .ok (.bipush 20, 2) := dq_get (L := lzddX12_readTurner_121) 10 rfl zddX12_readTurner_121 rfl
theorem dX12_readTurner_142 : decode cX12_readTurner 142 = .ok (.invokevirtual 249, 3) := dq_get (L := lzddX12_readTurner_121) 11 rfl zddX12_readTurner_121 rfl
theorem dX12_readTurner_145 : decode cX12_readTurner 145 = .ok (.istore 7, 2) := dq_get (L := lzddX12_readTurner_121) 12 rfl zddX12_readTurner_121 rfl
theorem dX12_readTurner_147 : decode cX12_readTurner 147 = .ok (.aload_n 0, 1) := dq_get (L := lzddX12_readTurner_121) 13 rfl zddX12_readTurner_121 rfl
theorem dX12_readTurner_148 : decode cX12_readTurner 148 = .ok (.ldc 253, 2) := dq_get (L := lzddX12_readTurner_121) 14 rfl zddX12_readTurner_121 rfl
theorem dX12_readTurner_150 : decode cX12_readTurner 150 = .ok (.invokevirtual 157, 3) := dq_get (L := lzddX12_readTurner_121) 15 rfl zddX12_readTurner_121 rfl
theorem dX12_readTurner_153 : decode cX12_readTurner 153 = .ok (.iconst 0, 1) := dq_get (L := lzddX12_readTurner_121) 16 rfl zddX12_readTurner_121 rfl
theorem dX12_readTurner_154 : decode cX12_readTurner 154 = .ok (.istore 8, 2) := dq_get (L := lzddX12_readTurner_121) 17 rfl zddX12_readTurner_121 rfl
theorem dX12_readTurner_156 : decode cX12_readTurner 156 = .ok (.iconst 1, 1) := dq_get (L := lzddX12_readTurner_121) 18 rfl zddX12_readTurner_121 rfl
theorem dX12_readTurner_157 : decode cX12_readTurner 157 = .ok (.istore 9, 2) := dq_get (L := lzddX12_readTurner_121) 19 rfl zddX12_readTurner_121 rfl
def lzddX12_readTurner_159 : List (Nat × Instr × Nat) := [(159, .iload 9, 2), (161, .ifCond .eq 66, 3), (164, .aload_n 0, 1), (165, .getfield 99, 3), (168, .iconst 5, 1), (169, .if_icmp .eq 58, 3), (172, .aload_n 0, 1), (173, .iconst 0, 1), (174, .aload_n 0, 1), (175, .getfield 188, 3), (178, .getfield 263, 3), (181, .iconst 1, 1), (182, .isub, 1), (183, .invokevirtual 153, 3), (186, .istore 10, 2), (188, .iload 8, 2), (190, .iload 10, 2), (192, .invokestatic 329, 3), (195, .ifCond .eq 8, 3), (198, .aload_n 0, 1)]
theorem zddX12_readTurner_159 : dqW lzddX12_readTurner_159 (cX12_readTurner.data.toList.drop 159) 159 = true := by decide +kernel
theorem dX12_readTurner_159 : decode cX12_readTurner 159 = .ok (.iload 9, 2) := dq_get (L := lzddX12_readTurner_159) 0 rfl zddX12_readTurner_159 rfl
theorem dX12_readTurner_161 : decode cX12_readTurner 161 = .ok (.ifCond .eq 66, 3) := dq_get (L := lzddX12_readTurner_159) 1 rfl zddX12_readTurner_159 rfl
theorem dX12_readTurner_164 : decode cX12_readTurner 164 = .ok (.aload_n 0, 1) := dq_get (L := lzddX12_readTurner_159) 2 rfl zddX12_readTurner_159 rfl
theorem dX12_readTurner_165 : decode cX12_readTurner 165 = .ok (.getfield 99, 3) := dq_get (L := lzddX12_readTurner_159) 3 rfl zddX12_readTurner_159 rfl
theorem dX12_readTurner_168 : decode cX12_readTurner 168 = .ok (.iconst 5, 1) := dq_get (L := lzddX12_readTurner_159) 4 rfl zddX12_readTurner_159 rfl
theorem dX12_readTurner_169 : decode cX12_readTurner 169 = .ok (.if_icmp .eq 58, 3) := dq_get (L := lzddX12_readTurner_159) 5 rfl zddX12_readTurner_159 rfl
theorem dX12_readTurner_172 : decode cX12_readTurner 172 = .ok (.aload_n 0, 1) := dq_get (L := lzddX12_readTurner_159) 6 rfl zddX12_readTurner_159 rfl
theorem dX12_readTurner_173 : decode cX12_readTurner 173 = .ok (.iconst 0, 1) := dq_get (L := lzddX12_readTurner_159) 7 rfl zddX12_readTurner_159 rfl
theorem dX12_readTurner_174 : decode cX12_readTurner 174 = .ok (.aload_n 0, 1) := dq_get (L := lzddX12_readTurner_159) 8 rfl zddX12_readTurner_159 rfl
theorem dX12_readTurner_175 : decode cX12_readTurner 175 = .ok (.getfield 188, 3) := dq_get (L := lzddX12_readTurner_159) 9 rfl zddX12_readTurner_159 rfl
theorem dX12_readTurner_178 : decode cX12_readTurner 178 = .ok (.getfield 263, 3) := dq_get (L := lzddX12_readTurner_159) 10 rfl zddX12_readTurner_159 rfl
theorem dX12_readTurner_181 : decode cX12_readTurner 181 = .ok (.iconst 1, 1) := dq_get (L := lzddX12_readTurner_159) 11 rfl zddX12_readTurner_159 rfl
theorem dX12_readTurner_182 : decode cX12_readTurner 182 = .ok (.isub, 1) := dq_get (L := lzddX12_readTurner_159) 12 rfl zddX12_readTurner_159 rfl
theorem dX12_readTurner_183 : decode cX12_readTurner 183 = .ok (.invokevirtual 153, 3) := dq_get (L := lzddX12_readTurner_159) 13 rfl zddX12_readTurner_159 rfl
theorem dX12_readTurner_186 : decode cX12_readTurner 186 = .ok (.istore 10, 2) := dq_get (L := lzddX12_readTurner_159) 14 rfl zddX12_readTurner_159 rfl
theorem dX12_readTurner_188 : decode cX12_readTurner 188 = .ok (.iload 8, 2) := dq_get (L := lzddX12_readTurner_159) 15 rfl zddX12_readTurner_159 rfl
theorem dX12_readTurner_190 : decode cX12_readTurner 190 = .ok (.iload 10, 2) := dq_get (L := lzddX12_readTurner_159) 16 rfl zddX12_readTurner_159 rfl
theorem dX12_readTurner_192 : decode cX12_readTurner 192 = .ok (.invokestatic 329, 3) := dq_get (L := lzddX12_readTurner_159) 17 rfl zddX12_readTurner_159 rfl
theorem dX12_readTurner_195 : decode cX12_readTurner 195 = .ok (.ifCond .eq 8, 3) := dq_get (L := lzddX12_readTurner_159) 18 rfl zddX12_readTurner_159 rfl
theorem dX12_readTurner_198 : decode cX12_readTurner 198 = .ok (.aload_n 0, 1) := dq_get (L := lzddX12_readTurner_159) 19 rfl zddX12_readTurner_159 rfl
def lzddX12_readTurner_199 : List (Nat × Instr × Nat) := [(199, .iconst 3, 1), (200, .invokevirtual 145, 3), (203, .aload_n 0, 1), (204, .invokevirtual 142, 3), (207, .iload 8, 2), (209, .iconst 1, 1), (210, .iload 10, 2), (212, .ishl, 1), (213, .ior, 1), (214, .istore 8, 2), (216, .aload_n 0, 1), (217, .bipush 44, 2), (219, .invokevirtual 221, 3), (222, .istore 9, 2), (224, .goto (-65), 3), (227, .aload_n 0, 1), (228, .getfield 99, 3), (231, .iconst 5, 1), (232, .if_icmp .ne 4, 3), (235, .return_, 1)]
theorem zddX12_readTurner_199 : dqW lzddX12_readTurner_199 (cX12_readTurner.data.toList.drop 199) 199 = true := by decide +kernel
theorem dX12_readTurner_199 : decode cX12_readTurner 199 = .ok (.iconst 3, 1) := dq_get (L := lzddX12_readTurner_199) 0 rfl zddX12_readTurner_199 rfl
theorem dX12_readTurner_200 : decode cX12_readTurner 200 = .ok (.invokevirtual 145, 3) := dq_get (L := lzddX12_readTurner_199) 1 rfl zddX12_readTurner_199 rfl
theorem dX12_readTurner_203 : decode cX12_readTurner 203 = .ok (.aload_n 0, 1) := dq_get (L := lzddX12_readTurner_199) 2 rfl zddX12_readTurner_199 rfl
theorem dX12_readTurner_204 : decode cX12_readTurner 204 = .ok (.invokevirtual 142, 3) := dq_get (L := lzddX12_readTurner_199) 3 rfl zddX12_readTurner_199 rfl
theorem dX12_readTurner_207 : decode cX12_readTurner 207 = .ok (.iload 8, 2) := dq_get (L := lzddX12_readTurner_199) 4 rfl zddX12_readTurner_199 rfl
theorem dX12_readTurner_209 : decode cX12_readTurner 209 = .ok (.iconst 1, 1) := dq_get (L := lzddX12_readTurner_199) 5 rfl zddX12_readTurner_199 rfl
theorem dX12_readTurner_210 : decode cX12_readTurner 210 = .ok (.iload 10, 2) := dq_get (L := lzddX12_readTurner_199) 6 rfl zddX12_readTurner_199 rfl
theorem dX12_readTurner_212 : decode cX12_readTurner 212 = .ok (.ishl, 1) := dq_get (L := lzddX12_readTurner_199) 7 rfl zddX12_readTurner_199 rfl
theorem dX12_readTurner_213 : decode cX12_readTurner 213 = .ok (.ior, 1) := dq_get (L := lzddX12_readTurner_199) 8 rfl zddX12_readTurner_199 rfl
theorem dX12_readTurner_214 : decode cX12_readTurner 214 = .ok (.istore 8, 2) := dq_get (L := lzddX12_readTurner_199) 9 rfl zddX12_readTurner_199 rfl
theorem dX12_readTurner_216 : decode cX12_readTurner 216 = .ok (.aload_n 0, 1) := dq_get (L := lzddX12_readTurner_199) 10 rfl zddX12_readTurner_199 rfl
theorem dX12_readTurner_217 : decode cX12_readTurner 217 = .ok (.bipush 44, 2) := dq_get (L := lzddX12_readTurner_199) 11 rfl zddX12_readTurner_199 rfl
theorem dX12_readTurner_219 : decode cX12_readTurner 219 = .ok (.invokevirtual 221, 3) := dq_get (L := lzddX12_readTurner_199) 12 rfl zddX12_readTurner_199 rfl
theorem dX12_readTurner_222 : decode cX12_readTurner 222 = .ok (.istore 9, 2) := dq_get (L := lzddX12_readTurner_199) 13 rfl zddX12_readTurner_199 rfl
theorem dX12_readTurner_224 : decode cX12_readTurner 224 = .ok (.goto (-65), 3) := dq_get (L := lzddX12_readTurner_199) 14 rfl zddX12_readTurner_199 rfl
theorem dX12_readTurner_227 : decode cX12_readTurner 227 = .ok (.aload_n 0, 1) := dq_get (L := lzddX12_readTurner_199) 15 rfl zddX12_readTurner_199 rfl
theorem dX12_readTurner_228 : decode cX12_readTurner 228 = .ok (.getfield 99, 3) := dq_get (L := lzddX12_readTurner_199) 16 rfl zddX12_readTurner_199 rfl
theorem dX12_readTurner_231 : decode cX12_readTurner 231 = .ok (.iconst 5, 1) := dq_get (L := lzddX12_readTurner_199) 17 rfl zddX12_readTurner_199 rfl
theorem dX12_readTurner_232 : decode cX12_readTurner 232 = .ok (.if_icmp .ne 4, 3) := dq_get (L := lzddX12_readTurner_199) 18 rfl zddX12_readTurner_199 rfl
theorem dX12_readTurner_235 : decode cX12_readTurner 235 = .ok (.return_, 1) := dq_get (L := lzddX12_readTurner_199) 19 rfl zddX12_readTurner_199 rfl
def lzddX12_readTurner_236 : List (Nat × Instr × Nat) := [(236, .aload_n 0, 1), (237, .getfield 188, 3), (240, .getfield 315, 3), (243, .istore 10, 2), (245, .aload_n 0, 1), (246, .lload_n 1, 1), (247, .iconst 1, 1), (248, .iload 10, 2), (250, .invokevirtual 293, 3), (253, .aload_n 0, 1), (254, .getfield 188, 3), (257, .getfield 333, 3), (260, .iload 10, 2), (262, .iload_n 3, 1), (263, .iastore, 1), (264, .aload_n 0, 1), (265, .getfield 188, 3), (268, .getfield 336, 3), (271, .iload 10, 2), (273, .iload 4, 2)]
theorem zddX12_readTurner_236 : dqW lzddX12_readTurner_236 (cX12_readTurner.data.toList.drop 236) 236 = true := by decide +kernel
theorem dX12_readTurner_236 : decode cX12_readTurner 236 = .ok (.aload_n 0, 1) := dq_get (L := lzddX12_readTurner_236) 0 rfl zddX12_readTurner_236 rfl
theorem dX12_readTurner_237 : decode cX12_readTurner 237 = .ok (.getfield 188, 3) := dq_get (L := lzddX12_readTurner_236) 1 rfl zddX12_readTurner_236 rfl
theorem dX12_readTurner_240 : decode cX12_readTurner 240 = .ok (.getfield 315, 3) := dq_get (L := lzddX12_readTurner_236) 2 rfl zddX12_readTurner_236 rfl
theorem dX12_readTurner_243 : decode cX12_readTurner 243 = .ok (.istore 10, 2) := dq_get (L := lzddX12_readTurner_236) 3 rfl zddX12_readTurner_236 rfl
theorem dX12_readTurner_245 : decode cX12_readTurner 245 = .ok (.aload_n 0, 1) := dq_get (L := lzddX12_readTurner_236) 4 rfl zddX12_readTurner_236 rfl
theorem dX12_readTurner_246 : decode cX12_readTurner 246 = .ok (.lload_n 1, 1) := dq_get (L := lzddX12_readTurner_236) 5 rfl zddX12_readTurner_236 rfl
theorem dX12_readTurner_247 : decode cX12_readTurner 247 = .ok (.iconst 1, 1) := dq_get (L := lzddX12_readTurner_236) 6 rfl zddX12_readTurner_236 rfl
theorem dX12_readTurner_248 : decode cX12_readTurner 248 = .ok (.iload 10, 2) := dq_get (L := lzddX12_readTurner_236) 7 rfl zddX12_readTurner_236 rfl
theorem dX12_readTurner_250 : decode cX12_readTurner 250 = .ok (.invokevirtual 293, 3) := dq_get (L := lzddX12_readTurner_236) 8 rfl zddX12_readTurner_236 rfl
theorem dX12_readTurner_253 : decode cX12_readTurner 253 = .ok (.aload_n 0, 1) := dq_get (L := lzddX12_readTurner_236) 9 rfl zddX12_readTurner_236 rfl
theorem dX12_readTurner_254 : decode cX12_readTurner 254 = .ok (.getfield 188, 3) := dq_get (L := lzddX12_readTurner_236) 10 rfl zddX12_readTurner_236 rfl
theorem dX12_readTurner_257 : decode cX12_readTurner 257 = .ok (.getfield 333, 3) := dq_get (L := lzddX12_readTurner_236) 11 rfl zddX12_readTurner_236 rfl
theorem dX12_readTurner_260 : decode cX12_readTurner 260 = .ok (.iload 10, 2) := dq_get (L := lzddX12_readTurner_236) 12 rfl zddX12_readTurner_236 rfl
theorem dX12_readTurner_262 : decode cX12_readTurner 262 = .ok (.iload_n 3, 1) := dq_get (L := lzddX12_readTurner_236) 13 rfl zddX12_readTurner_236 rfl
theorem dX12_readTurner_263 : decode cX12_readTurner 263 = .ok (.iastore, 1) := dq_get (L := lzddX12_readTurner_236) 14 rfl zddX12_readTurner_236 rfl
theorem dX12_readTurner_264 : decode cX12_readTurner 264 = .ok (.aload_n 0, 1) := dq_get (L := lzddX12_readTurner_236) 15 rfl zddX12_readTurner_236 rfl
theorem dX12_readTurner_265 : decode cX12_readTurner 265 = .ok (.getfield 188, 3) := dq_get (L := lzddX12_readTurner_236) 16 rfl zddX12_readTurner_236 rfl
theorem dX12_readTurner_268 : decode cX12_readTurner 268 = .ok (.getfield 336, 3) := dq_get (L := lzddX12_readTurner_236) 17 rfl zddX12_readTurner_236 rfl
theorem dX12_readTurner_271 : decode cX12_readTurner 271 = .ok (.iload 10, 2) := dq_get (L := lzddX12_readTurner_236) 18 rfl zddX12_readTurner_236 rfl
theorem dX12_readTurner_273 : decode cX12_readTurner 273 = .ok (.iload 4, 2) := dq_get (L := lzddX12_readTurner_236) 19 rfl zddX12_readTurner_236 rfl
def lzddX12_readTurner_275 : List (Nat × Instr × Nat) := [(275, .iastore, 1), (276, .aload_n 0, 1), (277, .getfield 188, 3), (280, .getfield 339, 3), (283, .iload 10, 2), (285, .iload 5, 2), (287, .iastore, 1), (288, .aload_n 0, 1), (289, .getfield 188, 3), (292, .getfield 342, 3), (295, .iload 10, 2), (297, .iload 6, 2), (299, .iastore, 1), (300, .aload_n 0, 1), (301, .getfield 188, 3), (304, .getfield 344, 3), (307, .iload 10, 2), (309, .iload 7, 2), (311, .iastore, 1), (312, .aload_n 0, 1)]
theorem zddX12_readTurner_275 : dqW lzddX12_readTurner_275 (cX12_readTurner.data.toList.drop 275) 275 = true := by decide +kernel
theorem dX12_readTurner_275 : decode cX12_readTurner 275 = .ok (.iastore, 1) := dq_get (L := lzddX12_readTurner_275) 0 rfl zddX12_readTurner_275 rfl
theorem dX12_readTurner_276 : decode cX12_readTurner 276 = .ok (.aload_n 0, 1) := dq_get (L := lzddX12_readTurner_275) 1 rfl zddX12_readTurner_275 rfl
theorem dX12_readTurner_277 : decode cX12_readTurner 277 = .ok (.getfield 188, 3) := dq_get (L := lzddX12_readTurner_275) 2 rfl zddX12_readTurner_275 rfl
theorem dX12_readTurner_280 : decode cX12_readTurner 280 = .ok (.getfield 339, 3) := dq_get (L := lzddX12_readTurner_275) 3 rfl zddX12_readTurner_275 rfl
theorem dX12_readTurner_283 : decode cX12_readTurner 283 = .ok (.iload 10, 2) := dq_get (L := lzddX12_readTurner_275) 4 rfl zddX12_readTurner_275 rfl
theorem dX12_readTurner_285 : decode cX12_readTurner 285 = .ok (.iload 5, 2) := dq_get (L := lzddX12_readTurner_275) 5 rfl zddX12_readTurner_275 rfl
theorem dX12_readTurner_287 : decode cX12_readTurner 287 = .ok (.iastore, 1) := dq_get (L := lzddX12_readTurner_275) 6 rfl zddX12_readTurner_275 rfl
theorem dX12_readTurner_288 : decode cX12_readTurner 288 = .ok (.aload_n 0, 1) := dq_get (L := lzddX12_readTurner_275) 7 rfl zddX12_readTurner_275 rfl
theorem dX12_readTurner_289 : decode cX12_readTurner 289 = .ok (.getfield 188, 3) := dq_get (L := lzddX12_readTurner_275) 8 rfl zddX12_readTurner_275 rfl
theorem dX12_readTurner_292 : decode cX12_readTurner 292 = .ok (.getfield 342, 3) := dq_get (L := lzddX12_readTurner_275) 9 rfl zddX12_readTurner_275 rfl
theorem dX12_readTurner_295 : decode cX12_readTurner 295 = .ok (.iload 10, 2) := dq_get (L := lzddX12_readTurner_275) 10 rfl zddX12_readTurner_275 rfl
theorem dX12_readTurner_297 : decode cX12_readTurner 297 = .ok (.iload 6, 2) := dq_get (L := lzddX12_readTurner_275) 11 rfl zddX12_readTurner_275 rfl
theorem dX12_readTurner_299 : decode cX12_readTurner 299 = .ok (.iastore, 1) := dq_get (L := lzddX12_readTurner_275) 12 rfl zddX12_readTurner_275 rfl
theorem dX12_readTurner_300 : decode cX12_readTurner 300 = .ok (.aload_n 0, 1) := dq_get (L := lzddX12_readTurner_275) 13 rfl zddX12_readTurner_275 rfl
theorem dX12_readTurner_301 : decode cX12_readTurner 301 = .ok (.getfield 188, 3) := dq_get (L := lzddX12_readTurner_275) 14 rfl zddX12_readTurner_275 rfl
theorem dX12_readTurner_304 : decode cX12_readTurner 304 = .ok (.getfield 344, 3) := dq_get (L := lzddX12_readTurner_275) 15 rfl zddX12_readTurner_275 rfl
theorem dX12_readTurner_307 : decode cX12_readTurner 307 = .ok (.iload 10, 2) := dq_get (L := lzddX12_readTurner_275) 16 rfl zddX12_readTurner_275 rfl
theorem dX12_readTurner_309 : decode cX12_readTurner 309 = .ok (.iload 7, 2) := dq_get (L := lzddX12_readTurner_275) 17 rfl zddX12_readTurner_275 rfl
theorem dX12_readTurner_311 : decode cX12_readTurner 311 = .ok (.iastore, 1) := dq_get (L := lzddX12_readTurner_275) 18 rfl zddX12_readTurner_275 rfl
theorem dX12_readTurner_312 : decode cX12_readTurner 312 = .ok (.aload_n 0, 1) := dq_get (L := lzddX12_readTurner_275) 19 rfl zddX12_readTurner_275 rfl
def lzddX12_readTurner_313 : List (Nat × Instr × Nat) := [(313, .getfield 188, 3), (316, .getfield 346, 3), (319, .iload 10, 2), (321, .iload 8, 2), (323, .iastore, 1), (324, .aload_n 0, 1), (325, .getfield 188, 3), (328, .dup, 1), (329, .getfield 315, 3), (332, .iconst 1, 1), (333, .iadd, 1), (334, .putfield 315, 3), (337, .return_, 1)]
theorem zddX12_readTurner_313 : dqW lzddX12_readTurner_313 (cX12_readTurner.data.toList.drop 313) 313 = true := by decide +kernel
theorem dX12_readTurner_313 : decode cX12_readTurner 313 = .ok (.getfield 188, 3) := dq_get (L := lzddX12_readTurner_313) 0 rfl zddX12_readTurner_313 rfl
theorem dX12_readTurner_316 : decode cX12_readTurner 316 = .ok (.getfield 346, 3) := dq_get (L := lzddX12_readTurner_313) 1 rfl zddX12_readTurner_313 rfl
theorem dX12_readTurner_319 : decode cX12_readTurner 319 = .ok (.iload 10, 2) := dq_get (L := lzddX12_readTurner_313) 2 rfl zddX12_readTurner_313 rfl
theorem dX12_readTurner_321 : decode cX12_readTurner 321 = .ok (.iload 8, 2) := dq_get (L := lzddX12_readTurner_313) 3 rfl zddX12_readTurner_313 rfl
theorem dX12_readTurner_323 : decode cX12_readTurner 323 = .ok (.iastore, 1) := dq_get (L := lzddX12_readTurner_313) 4 rfl zddX12_readTurner_313 rfl
theorem dX12_readTurner_324 : decode cX12_readTurner 324 = .ok (.aload_n 0, 1) := dq_get (L := lzddX12_readTurner_313) 5 rfl zddX12_readTurner_313 rfl
theorem dX12_readTurner_325 : decode cX12_readTurner 325 = .ok (.getfield 188, 3) := dq_get (L := lzddX12_readTurner_313) 6 rfl zddX12_readTurner_313 rfl
theorem dX12_readTurner_328 : decode cX12_readTurner 328 = .ok (.dup, 1) := dq_get (L := lzddX12_readTurner_313) 7 rfl zddX12_readTurner_313 rfl
theorem dX12_readTurner_329 : decode cX12_readTurner 329 = .ok (.getfield 315, 3) := dq_get (L := lzddX12_readTurner_313) 8 rfl zddX12_readTurner_313 rfl
theorem dX12_readTurner_332 : decode cX12_readTurner 332 = .ok (.iconst 1, 1) := dq_get (L := lzddX12_readTurner_313) 9 rfl zddX12_readTurner_313 rfl
theorem dX12_readTurner_333 : decode cX12_readTurner 333 = .ok (.iadd, 1) := dq_get (L := lzddX12_readTurner_313) 10 rfl zddX12_readTurner_313 rfl
theorem dX12_readTurner_334 : decode cX12_readTurner 334 = .ok (.putfield 315, 3) := dq_get (L := lzddX12_readTurner_313) 11 rfl zddX12_readTurner_313 rfl
theorem dX12_readTurner_337 : decode cX12_readTurner 337 = .ok (.return_, 1) := dq_get (L := lzddX12_readTurner_313) 12 rfl zddX12_readTurner_313 rfl
def lzddX12_readWhole_0 : List (Nat × Instr × Nat) := [(0, .aload_n 0, 1), (1, .iload_n 1, 1), (2, .iload_n 2, 1), (3, .invokevirtual 153, 3), (6, .istore_n 3, 1), (7, .aload_n 0, 1), (8, .invokevirtual 142, 3), (11, .iload_n 3, 1), (12, .ireturn, 1)]
theorem zddX12_readWhole_0 : dqW lzddX12_readWhole_0 (cX12_readWhole.data.toList.drop 0) 0 = true := by decide +kernel
theorem dX12_readWhole_0 : decode cX12_readWhole 0 = .ok (.aload_n 0, 1) := dq_get (L := lzddX12_readWhole_0) 0 rfl zddX12_readWhole_0 rfl
theorem dX12_readWhole_1 : decode cX12_readWhole 1 = .ok (.iload_n 1, 1) := dq_get (L := lzddX12_readWhole_0) 1 rfl zddX12_readWhole_0 rfl
theorem dX12_readWhole_2 : decode cX12_readWhole 2 = .ok (.iload_n 2, 1) := dq_get (L := lzddX12_readWhole_0) 2 rfl zddX12_readWhole_0 rfl
theorem dX12_readWhole_3 : decode cX12_readWhole 3 = .ok (.invokevirtual 153, 3) := dq_get (L := lzddX12_readWhole_0) 3 rfl zddX12_readWhole_0 rfl
theorem dX12_readWhole_6 : decode cX12_readWhole 6 = .ok (.istore_n 3, 1) := dq_get (L := lzddX12_readWhole_0) 4 rfl zddX12_readWhole_0 rfl
theorem dX12_readWhole_7 : decode cX12_readWhole 7 = .ok (.aload_n 0, 1) := dq_get (L := lzddX12_readWhole_0) 5 rfl zddX12_readWhole_0 rfl
theorem dX12_readWhole_8 : decode cX12_readWhole 8 = .ok (.invokevirtual 142, 3) := dq_get (L := lzddX12_readWhole_0) 6 rfl zddX12_readWhole_0 rfl
theorem dX12_readWhole_11 : decode cX12_readWhole 11 = .ok (.iload_n 3, 1) := dq_get (L := lzddX12_readWhole_0) 7 rfl zddX12_readWhole_0 rfl
theorem dX12_readWhole_12 : decode cX12_readWhole 12 = .ok (.ireturn, 1) := dq_get (L := lzddX12_readWhole_0) 8 rfl zddX12_readWhole_0 rfl
def lzddX12_refused_0 : List (Nat × Instr × Nat) := [(0, .aload_n 0, 1), (1, .iload_n 1, 1), (2, .putfield 73, 3), (5, .aload_n 0, 1), (6, .iconst (-1), 1), (7, .putfield 9, 3), (10, .iconst (-1), 1), (11, .ireturn, 1)]
theorem zddX12_refused_0 : dqW lzddX12_refused_0 (cX12_refused.data.toList.drop 0) 0 = true := by decide +kernel
theorem dX12_refused_0 : decode cX12_refused 0 = .ok (.aload_n 0, 1) := dq_get (L := lzddX12_refused_0) 0 rfl zddX12_refused_0 rfl
theorem dX12_refused_1 : decode cX12_refused 1 = .ok (.iload_n 1, 1) := dq_get (L := lzddX12_refused_0) 1 rfl zddX12_refused_0 rfl
theorem dX12_refused_2 : decode cX12_refused 2 = .ok (.putfield 73, 3) := dq_get (L := lzddX12_refused_0) 2 rfl zddX12_refused_0 rfl
theorem dX12_refused_5 : decode cX12_refused 5 = .ok (.aload_n 0, 1) := dq_get (L := lzddX12_refused_0) 3 rfl zddX12_refused_0 rfl
theorem dX12_refused_6 : decode cX12_refused 6 = .ok (.iconst (-1), 1) := dq_get (L := lzddX12_refused_0) 4 rfl zddX12_refused_0 rfl
theorem dX12_refused_7 : decode cX12_refused 7 = .ok (.putfield 9, 3) := dq_get (L := lzddX12_refused_0) 5 rfl zddX12_refused_0 rfl
theorem dX12_refused_10 : decode cX12_refused 10 = .ok (.iconst (-1), 1) := dq_get (L := lzddX12_refused_0) 6 rfl zddX12_refused_0 rfl
theorem dX12_refused_11 : decode cX12_refused 11 = .ok (.ireturn, 1) := dq_get (L := lzddX12_refused_0) 7 rfl zddX12_refused_0 rfl
def lzddX12_seed_0 : List (Nat × Instr × Nat) := [(0, .aload_n 0, 1), (1, .iconst 0, 1), (2, .putfield 70, 3), (5, .aload_n 0, 1), (6, .getfield 385, 3), (9, .ifnonnull 9, 3), (12, .aload_n 0, 1), (13, .iconst 1, 1), (14, .invokevirtual 507, 3), (17, .ireturn, 1), (18, .iload_n 1, 1), (19, .iconst 0, 1), (20, .ldc_w 503, 3), (23, .invokestatic 149, 3), (26, .ifCond .ne 9, 3), (29, .aload_n 0, 1), (30, .iconst 2, 1), (31, .invokevirtual 507, 3), (34, .ireturn, 1), (35, .aload_n 0, 1)]
theorem zddX12_seed_0 : dqW lzddX12_seed_0 (cX12_seed.data.toList.drop 0) 0 = true := by decide +kernel
theorem dX12_seed_0 : decode cX12_seed 0 = .ok (.aload_n 0, 1) := dq_get (L := lzddX12_seed_0) 0 rfl zddX12_seed_0 rfl
theorem dX12_seed_1 : decode cX12_seed 1 = .ok (.iconst 0, 1) := dq_get (L := lzddX12_seed_0) 1 rfl zddX12_seed_0 rfl
theorem dX12_seed_2 : decode cX12_seed 2 = .ok (.putfield 70, 3) := dq_get (L := lzddX12_seed_0) 2 rfl zddX12_seed_0 rfl
theorem dX12_seed_5 : decode cX12_seed 5 = .ok (.aload_n 0, 1) := dq_get (L := lzddX12_seed_0) 3 rfl zddX12_seed_0 rfl
theorem dX12_seed_6 : decode cX12_seed 6 = .ok (.getfield 385, 3) := dq_get (L := lzddX12_seed_0) 4 rfl zddX12_seed_0 rfl
theorem dX12_seed_9 : decode cX12_seed 9 = .ok (.ifnonnull 9, 3) := dq_get (L := lzddX12_seed_0) 5 rfl zddX12_seed_0 rfl
theorem dX12_seed_12 : decode cX12_seed 12 = .ok (.aload_n 0, 1) := dq_get (L := lzddX12_seed_0) 6 rfl zddX12_seed_0 rfl
theorem dX12_seed_13 : decode cX12_seed 13 = .ok (.iconst 1, 1) := dq_get (L := lzddX12_seed_0) 7 rfl zddX12_seed_0 rfl
theorem dX12_seed_14 : decode cX12_seed 14 = .ok (.invokevirtual 507, 3) := dq_get (L := lzddX12_seed_0) 8 rfl zddX12_seed_0 rfl
theorem dX12_seed_17 : decode cX12_seed 17 = .ok (.ireturn, 1) := dq_get (L := lzddX12_seed_0) 9 rfl zddX12_seed_0 rfl
theorem dX12_seed_18 : decode cX12_seed 18 = .ok (.iload_n 1, 1) := dq_get (L := lzddX12_seed_0) 10 rfl zddX12_seed_0 rfl
theorem dX12_seed_19 : decode cX12_seed 19 = .ok (.iconst 0, 1) := dq_get (L := lzddX12_seed_0) 11 rfl zddX12_seed_0 rfl
theorem dX12_seed_20 : decode cX12_seed 20 = .ok (.ldc_w 503, 3) := dq_get (L := lzddX12_seed_0) 12 rfl zddX12_seed_0 rfl
theorem dX12_seed_23 : decode cX12_seed 23 = .ok (.invokestatic 149, 3) := dq_get (L := lzddX12_seed_0) 13 rfl zddX12_seed_0 rfl
theorem dX12_seed_26 : decode cX12_seed 26 = .ok (.ifCond .ne 9, 3) := dq_get (L := lzddX12_seed_0) 14 rfl zddX12_seed_0 rfl
theorem dX12_seed_29 : decode cX12_seed 29 = .ok (.aload_n 0, 1) := dq_get (L := lzddX12_seed_0) 15 rfl zddX12_seed_0 rfl
theorem dX12_seed_30 : decode cX12_seed 30 = .ok (.iconst 2, 1) := dq_get (L := lzddX12_seed_0) 16 rfl zddX12_seed_0 rfl
theorem dX12_seed_31 : decode cX12_seed 31 = .ok (.invokevirtual 507, 3) := dq_get (L := lzddX12_seed_0) 17 rfl zddX12_seed_0 rfl
theorem dX12_seed_34 : decode cX12_seed 34 = .ok (.ireturn, 1) := dq_get (L := lzddX12_seed_0) 18 rfl zddX12_seed_0 rfl
theorem dX12_seed_35 : decode cX12_seed 35 = .ok (.aload_n 0, 1) := dq_get (L := lzddX12_seed_0) 19 rfl zddX12_seed_0 rfl
def lzddX12_seed_36 : List (Nat × Instr × Nat) := [(36, .getfield 17, 3), (39, .iconst 2, 1), (40, .iload_n 1, 1), (41, .iastore, 1), (42, .aload_n 0, 1), (43, .invokevirtual 513, 3), (46, .ireturn, 1)]
theorem zddX12_seed_36 : dqW lzddX12_seed_36 (cX12_seed.data.toList.drop 36) 36 = true := by decide +kernel
theorem dX12_seed_36 : decode cX12_seed 36 = .ok (.getfield 17, 3) := dq_get (L := lzddX12_seed_36) 0 rfl zddX12_seed_36 rfl
theorem dX12_seed_39 : decode cX12_seed 39 = .ok (.iconst 2, 1) := dq_get (L := lzddX12_seed_36) 1 rfl zddX12_seed_36 rfl
theorem dX12_seed_40 : decode cX12_seed 40 = .ok (.iload_n 1, 1) := dq_get (L := lzddX12_seed_36) 2 rfl zddX12_seed_36 rfl
theorem dX12_seed_41 : decode cX12_seed 41 = .ok (.iastore, 1) := dq_get (L := lzddX12_seed_36) 3 rfl zddX12_seed_36 rfl
theorem dX12_seed_42 : decode cX12_seed 42 = .ok (.aload_n 0, 1) := dq_get (L := lzddX12_seed_36) 4 rfl zddX12_seed_36 rfl
theorem dX12_seed_43 : decode cX12_seed 43 = .ok (.invokevirtual 513, 3) := dq_get (L := lzddX12_seed_36) 5 rfl zddX12_seed_36 rfl
theorem dX12_seed_46 : decode cX12_seed 46 = .ok (.ireturn, 1) := dq_get (L := lzddX12_seed_36) 6 rfl zddX12_seed_36 rfl
def lzddX12_seemsToIn_0 : List (Nat × Instr × Nat) := [(0, .iload_n 2, 1), (1, .ifCond .le 36, 3), (4, .aload_n 0, 1), (5, .getfield 34, 3), (8, .sipush 240, 3), (11, .iload_n 1, 1), (12, .imul, 1), (13, .iload_n 2, 1), (14, .iadd, 1), (15, .baload, 1), (16, .aload_n 0, 1), (17, .getfield 34, 3), (20, .sipush 240, 3), (23, .iload_n 1, 1), (24, .imul, 1), (25, .iload_n 2, 1), (26, .iadd, 1), (27, .iconst 1, 1), (28, .isub, 1), (29, .baload, 1)]
theorem zddX12_seemsToIn_0 : dqW lzddX12_seemsToIn_0 (cX12_seemsToIn.data.toList.drop 0) 0 = true := by decide +kernel
theorem dX12_seemsToIn_0 : decode cX12_seemsToIn 0 = .ok (.iload_n 2, 1) := dq_get (L := lzddX12_seemsToIn_0) 0 rfl zddX12_seemsToIn_0 rfl
theorem dX12_seemsToIn_1 : decode cX12_seemsToIn 1 = .ok (.ifCond .le 36, 3) := dq_get (L := lzddX12_seemsToIn_0) 1 rfl zddX12_seemsToIn_0 rfl
theorem dX12_seemsToIn_4 : decode cX12_seemsToIn 4 = .ok (.aload_n 0, 1) := dq_get (L := lzddX12_seemsToIn_0) 2 rfl zddX12_seemsToIn_0 rfl
theorem dX12_seemsToIn_5 : decode cX12_seemsToIn 5 = .ok (.getfield 34, 3) := dq_get (L := lzddX12_seemsToIn_0) 3 rfl zddX12_seemsToIn_0 rfl
theorem dX12_seemsToIn_8 : decode cX12_seemsToIn 8 = .ok (.sipush 240, 3) := dq_get (L := lzddX12_seemsToIn_0) 4 rfl zddX12_seemsToIn_0 rfl
theorem dX12_seemsToIn_11 : decode cX12_seemsToIn 11 = .ok (.iload_n 1, 1) := dq_get (L := lzddX12_seemsToIn_0) 5 rfl zddX12_seemsToIn_0 rfl
theorem dX12_seemsToIn_12 : decode cX12_seemsToIn 12 = .ok (.imul, 1) := dq_get (L := lzddX12_seemsToIn_0) 6 rfl zddX12_seemsToIn_0 rfl
theorem dX12_seemsToIn_13 : decode cX12_seemsToIn 13 = .ok (.iload_n 2, 1) := dq_get (L := lzddX12_seemsToIn_0) 7 rfl zddX12_seemsToIn_0 rfl
theorem dX12_seemsToIn_14 : decode cX12_seemsToIn 14 = .ok (.iadd, 1) := dq_get (L := lzddX12_seemsToIn_0) 8 rfl zddX12_seemsToIn_0 rfl
theorem dX12_seemsToIn_15 : decode cX12_seemsToIn 15 = .ok (.baload, 1) := dq_get (L := lzddX12_seemsToIn_0) 9 rfl zddX12_seemsToIn_0 rfl
theorem dX12_seemsToIn_16 : decode cX12_seemsToIn 16 = .ok (.aload_n 0, 1) := dq_get (L := lzddX12_seemsToIn_0) 10 rfl zddX12_seemsToIn_0 rfl
theorem dX12_seemsToIn_17 : decode cX12_seemsToIn 17 = .ok (.getfield 34, 3) := dq_get (L := lzddX12_seemsToIn_0) 11 rfl zddX12_seemsToIn_0 rfl
theorem dX12_seemsToIn_20 : decode cX12_seemsToIn 20 = .ok (.sipush 240, 3) := dq_get (L := lzddX12_seemsToIn_0) 12 rfl zddX12_seemsToIn_0 rfl
theorem dX12_seemsToIn_23 : decode cX12_seemsToIn 23 = .ok (.iload_n 1, 1) := dq_get (L := lzddX12_seemsToIn_0) 13 rfl zddX12_seemsToIn_0 rfl
theorem dX12_seemsToIn_24 : decode cX12_seemsToIn 24 = .ok (.imul, 1) := dq_get (L := lzddX12_seemsToIn_0) 14 rfl zddX12_seemsToIn_0 rfl
theorem dX12_seemsToIn_25 : decode cX12_seemsToIn 25 = .ok (.iload_n 2, 1) := dq_get (L := lzddX12_seemsToIn_0) 15 rfl zddX12_seemsToIn_0 rfl
theorem dX12_seemsToIn_26 : decode cX12_seemsToIn 26 = .ok (.iadd, 1) := dq_get (L := lzddX12_seemsToIn_0) 16 rfl zddX12_seemsToIn_0 rfl
theorem dX12_seemsToIn_27 : decode cX12_seemsToIn 27 = .ok (.iconst 1, 1) := dq_get (L := lzddX12_seemsToIn_0) 17 rfl zddX12_seemsToIn_0 rfl
theorem dX12_seemsToIn_28 : decode cX12_seemsToIn 28 = .ok (.isub, 1) := dq_get (L := lzddX12_seemsToIn_0) 18 rfl zddX12_seemsToIn_0 rfl
theorem dX12_seemsToIn_29 : decode cX12_seemsToIn 29 = .ok (.baload, 1) := dq_get (L := lzddX12_seemsToIn_0) 19 rfl zddX12_seemsToIn_0 rfl
def lzddX12_seemsToIn_30 : List (Nat × Instr × Nat) := [(30, .if_icmp .eq 7, 3), (33, .iconst 1, 1), (34, .goto 4, 3), (37, .iconst 0, 1), (38, .ireturn, 1)]
theorem zddX12_seemsToIn_30 : dqW lzddX12_seemsToIn_30 (cX12_seemsToIn.data.toList.drop 30) 30 = true := by decide +kernel
theorem dX12_seemsToIn_30 : decode cX12_seemsToIn 30 = .ok (.if_icmp .eq 7, 3) := dq_get (L := lzddX12_seemsToIn_30) 0 rfl zddX12_seemsToIn_30 rfl
theorem dX12_seemsToIn_33 : decode cX12_seemsToIn 33 = .ok (.iconst 1, 1) := dq_get (L := lzddX12_seemsToIn_30) 1 rfl zddX12_seemsToIn_30 rfl
theorem dX12_seemsToIn_34 : decode cX12_seemsToIn 34 = .ok (.goto 4, 3) := dq_get (L := lzddX12_seemsToIn_30) 2 rfl zddX12_seemsToIn_30 rfl
theorem dX12_seemsToIn_37 : decode cX12_seemsToIn 37 = .ok (.iconst 0, 1) := dq_get (L := lzddX12_seemsToIn_30) 3 rfl zddX12_seemsToIn_30 rfl
theorem dX12_seemsToIn_38 : decode cX12_seemsToIn 38 = .ok (.ireturn, 1) := dq_get (L := lzddX12_seemsToIn_30) 4 rfl zddX12_seemsToIn_30 rfl
def lzddX12_size_0 : List (Nat × Instr × Nat) := [(0, .aload_n 0, 1), (1, .iconst 0, 1), (2, .putfield 70, 3), (5, .iload_n 1, 1), (6, .bipush 12, 2), (8, .if_icmp .ne 8, 3), (11, .aload_n 0, 1), (12, .getfield 378, 3), (15, .ireturn, 1), (16, .iload_n 1, 1), (17, .iconst 0, 1), (18, .bipush 11, 2), (20, .invokestatic 149, 3), (23, .ifCond .ne 5, 3), (26, .iconst (-1), 1), (27, .ireturn, 1), (28, .aload_n 0, 1), (29, .getfield 385, 3), (32, .ifnonnull 5, 3), (35, .iconst 0, 1)]
theorem zddX12_size_0 : dqW lzddX12_size_0 (cX12_size.data.toList.drop 0) 0 = true := by decide +kernel
theorem dX12_size_0 : decode cX12_size 0 = .ok (.aload_n 0, 1) := dq_get (L := lzddX12_size_0) 0 rfl zddX12_size_0 rfl
theorem dX12_size_1 : decode cX12_size 1 = .ok (.iconst 0, 1) := dq_get (L := lzddX12_size_0) 1 rfl zddX12_size_0 rfl
theorem dX12_size_2 : decode cX12_size 2 = .ok (.putfield 70, 3) := dq_get (L := lzddX12_size_0) 2 rfl zddX12_size_0 rfl
theorem dX12_size_5 : decode cX12_size 5 = .ok (.iload_n 1, 1) := dq_get (L := lzddX12_size_0) 3 rfl zddX12_size_0 rfl
theorem dX12_size_6 : decode cX12_size 6 = .ok (.bipush 12, 2) := dq_get (L := lzddX12_size_0) 4 rfl zddX12_size_0 rfl
theorem dX12_size_8 : decode cX12_size 8 = .ok (.if_icmp .ne 8, 3) := dq_get (L := lzddX12_size_0) 5 rfl zddX12_size_0 rfl
theorem dX12_size_11 : decode cX12_size 11 = .ok (.aload_n 0, 1) := dq_get (L := lzddX12_size_0) 6 rfl zddX12_size_0 rfl
theorem dX12_size_12 : decode cX12_size 12 = .ok (.getfield 378, 3) := dq_get (L := lzddX12_size_0) 7 rfl zddX12_size_0 rfl
theorem dX12_size_15 : decode cX12_size 15 = .ok (.ireturn, 1) := dq_get (L := lzddX12_size_0) 8 rfl zddX12_size_0 rfl
theorem dX12_size_16 : decode cX12_size 16 = .ok (.iload_n 1, 1) := dq_get (L := lzddX12_size_0) 9 rfl zddX12_size_0 rfl
theorem dX12_size_17 : decode cX12_size 17 = .ok (.iconst 0, 1) := dq_get (L := lzddX12_size_0) 10 rfl zddX12_size_0 rfl
theorem dX12_size_18 : decode cX12_size 18 = .ok (.bipush 11, 2) := dq_get (L := lzddX12_size_0) 11 rfl zddX12_size_0 rfl
theorem dX12_size_20 : decode cX12_size 20 = .ok (.invokestatic 149, 3) := dq_get (L := lzddX12_size_0) 12 rfl zddX12_size_0 rfl
theorem dX12_size_23 : decode cX12_size 23 = .ok (.ifCond .ne 5, 3) := dq_get (L := lzddX12_size_0) 13 rfl zddX12_size_0 rfl
theorem dX12_size_26 : decode cX12_size 26 = .ok (.iconst (-1), 1) := dq_get (L := lzddX12_size_0) 14 rfl zddX12_size_0 rfl
theorem dX12_size_27 : decode cX12_size 27 = .ok (.ireturn, 1) := dq_get (L := lzddX12_size_0) 15 rfl zddX12_size_0 rfl
theorem dX12_size_28 : decode cX12_size 28 = .ok (.aload_n 0, 1) := dq_get (L := lzddX12_size_0) 16 rfl zddX12_size_0 rfl
theorem dX12_size_29 : decode cX12_size 29 = .ok (.getfield 385, 3) := dq_get (L := lzddX12_size_0) 17 rfl zddX12_size_0 rfl
theorem dX12_size_32 : decode cX12_size 32 = .ok (.ifnonnull 5, 3) := dq_get (L := lzddX12_size_0) 18 rfl zddX12_size_0 rfl
theorem dX12_size_35 : decode cX12_size 35 = .ok (.iconst 0, 1) := dq_get (L := lzddX12_size_0) 19 rfl zddX12_size_0 rfl
def lzddX12_size_36 : List (Nat × Instr × Nat) := [(36, .ireturn, 1), (37, .iload_n 1, 1)]
theorem zddX12_size_36 : dqW lzddX12_size_36 (cX12_size.data.toList.drop 36) 36 = true := by decide +kernel
theorem dX12_size_36 : decode cX12_size 36 = .ok (.ireturn, 1) := dq_get (L := lzddX12_size_36) 0 rfl zddX12_size_36 rfl
theorem dX12_size_37 : decode cX12_size 37 = .ok (.iload_n 1, 1) := dq_get (L := lzddX12_size_36) 1 rfl zddX12_size_36 rfl
theorem dX12_size_38 : decode cX12_size 38 = .ok (.tableswitch 141 0 10 #[58, 66, 74, 82, 89, 97, 105, 113, 121, 129, 136], 58) := by decide +kernel
def lzddX12_size_96 : List (Nat × Instr × Nat) := [(96, .aload_n 0, 1), (97, .getfield 385, 3), (100, .getfield 192, 3), (103, .ireturn, 1), (104, .aload_n 0, 1), (105, .getfield 385, 3), (108, .getfield 263, 3), (111, .ireturn, 1), (112, .aload_n 0, 1), (113, .getfield 385, 3), (116, .getfield 265, 3), (119, .ireturn, 1), (120, .aload_n 0, 1), (121, .getfield 17, 3), (124, .iconst 1, 1), (125, .iaload, 1), (126, .ireturn, 1), (127, .aload_n 0, 1), (128, .getfield 385, 3), (131, .getfield 224, 3)]
theorem zddX12_size_96 : dqW lzddX12_size_96 (cX12_size.data.toList.drop 96) 96 = true := by decide +kernel
theorem dX12_size_96 : decode cX12_size 96 = .ok (.aload_n 0, 1) := dq_get (L := lzddX12_size_96) 0 rfl zddX12_size_96 rfl
theorem dX12_size_97 : decode cX12_size 97 = .ok (.getfield 385, 3) := dq_get (L := lzddX12_size_96) 1 rfl zddX12_size_96 rfl
theorem dX12_size_100 : decode cX12_size 100 = .ok (.getfield 192, 3) := dq_get (L := lzddX12_size_96) 2 rfl zddX12_size_96 rfl
theorem dX12_size_103 : decode cX12_size 103 = .ok (.ireturn, 1) := dq_get (L := lzddX12_size_96) 3 rfl zddX12_size_96 rfl
theorem dX12_size_104 : decode cX12_size 104 = .ok (.aload_n 0, 1) := dq_get (L := lzddX12_size_96) 4 rfl zddX12_size_96 rfl
theorem dX12_size_105 : decode cX12_size 105 = .ok (.getfield 385, 3) := dq_get (L := lzddX12_size_96) 5 rfl zddX12_size_96 rfl
theorem dX12_size_108 : decode cX12_size 108 = .ok (.getfield 263, 3) := dq_get (L := lzddX12_size_96) 6 rfl zddX12_size_96 rfl
theorem dX12_size_111 : decode cX12_size 111 = .ok (.ireturn, 1) := dq_get (L := lzddX12_size_96) 7 rfl zddX12_size_96 rfl
theorem dX12_size_112 : decode cX12_size 112 = .ok (.aload_n 0, 1) := dq_get (L := lzddX12_size_96) 8 rfl zddX12_size_96 rfl
theorem dX12_size_113 : decode cX12_size 113 = .ok (.getfield 385, 3) := dq_get (L := lzddX12_size_96) 9 rfl zddX12_size_96 rfl
theorem dX12_size_116 : decode cX12_size 116 = .ok (.getfield 265, 3) := dq_get (L := lzddX12_size_96) 10 rfl zddX12_size_96 rfl
theorem dX12_size_119 : decode cX12_size 119 = .ok (.ireturn, 1) := dq_get (L := lzddX12_size_96) 11 rfl zddX12_size_96 rfl
theorem dX12_size_120 : decode cX12_size 120 = .ok (.aload_n 0, 1) := dq_get (L := lzddX12_size_96) 12 rfl zddX12_size_96 rfl
theorem dX12_size_121 : decode cX12_size 121 = .ok (.getfield 17, 3) := dq_get (L := lzddX12_size_96) 13 rfl zddX12_size_96 rfl
theorem dX12_size_124 : decode cX12_size 124 = .ok (.iconst 1, 1) := dq_get (L := lzddX12_size_96) 14 rfl zddX12_size_96 rfl
theorem dX12_size_125 : decode cX12_size 125 = .ok (.iaload, 1) := dq_get (L := lzddX12_size_96) 15 rfl zddX12_size_96 rfl
theorem dX12_size_126 : decode cX12_size 126 = .ok (.ireturn, 1) := dq_get (L := lzddX12_size_96) 16 rfl zddX12_size_96 rfl
theorem dX12_size_127 : decode cX12_size 127 = .ok (.aload_n 0, 1) := dq_get (L := lzddX12_size_96) 17 rfl zddX12_size_96 rfl
theorem dX12_size_128 : decode cX12_size 128 = .ok (.getfield 385, 3) := dq_get (L := lzddX12_size_96) 18 rfl zddX12_size_96 rfl
theorem dX12_size_131 : decode cX12_size 131 = .ok (.getfield 224, 3) := dq_get (L := lzddX12_size_96) 19 rfl zddX12_size_96 rfl
def lzddX12_size_134 : List (Nat × Instr × Nat) := [(134, .ireturn, 1), (135, .aload_n 0, 1), (136, .getfield 385, 3), (139, .getfield 315, 3), (142, .ireturn, 1), (143, .aload_n 0, 1), (144, .getfield 385, 3), (147, .getfield 349, 3), (150, .ireturn, 1), (151, .aload_n 0, 1), (152, .getfield 385, 3), (155, .getfield 370, 3), (158, .ireturn, 1), (159, .aload_n 0, 1), (160, .getfield 385, 3), (163, .getfield 312, 3), (166, .ireturn, 1), (167, .aload_n 0, 1), (168, .getfield 17, 3), (171, .iconst 2, 1)]
theorem zddX12_size_134 : dqW lzddX12_size_134 (cX12_size.data.toList.drop 134) 134 = true := by decide +kernel
theorem dX12_size_134 : decode cX12_size 134 = .ok (.ireturn, 1) := dq_get (L := lzddX12_size_134) 0 rfl zddX12_size_134 rfl
theorem dX12_size_135 : decode cX12_size 135 = .ok (.aload_n 0, 1) := dq_get (L := lzddX12_size_134) 1 rfl zddX12_size_134 rfl
theorem dX12_size_136 : decode cX12_size 136 = .ok (.getfield 385, 3) := dq_get (L := lzddX12_size_134) 2 rfl zddX12_size_134 rfl
theorem dX12_size_139 : decode cX12_size 139 = .ok (.getfield 315, 3) := dq_get (L := lzddX12_size_134) 3 rfl zddX12_size_134 rfl
theorem dX12_size_142 : decode cX12_size 142 = .ok (.ireturn, 1) := dq_get (L := lzddX12_size_134) 4 rfl zddX12_size_134 rfl
theorem dX12_size_143 : decode cX12_size 143 = .ok (.aload_n 0, 1) := dq_get (L := lzddX12_size_134) 5 rfl zddX12_size_134 rfl
theorem dX12_size_144 : decode cX12_size 144 = .ok (.getfield 385, 3) := dq_get (L := lzddX12_size_134) 6 rfl zddX12_size_134 rfl
theorem dX12_size_147 : decode cX12_size 147 = .ok (.getfield 349, 3) := dq_get (L := lzddX12_size_134) 7 rfl zddX12_size_134 rfl
theorem dX12_size_150 : decode cX12_size 150 = .ok (.ireturn, 1) := dq_get (L := lzddX12_size_134) 8 rfl zddX12_size_134 rfl
theorem dX12_size_151 : decode cX12_size 151 = .ok (.aload_n 0, 1) := dq_get (L := lzddX12_size_134) 9 rfl zddX12_size_134 rfl
theorem dX12_size_152 : decode cX12_size 152 = .ok (.getfield 385, 3) := dq_get (L := lzddX12_size_134) 10 rfl zddX12_size_134 rfl
theorem dX12_size_155 : decode cX12_size 155 = .ok (.getfield 370, 3) := dq_get (L := lzddX12_size_134) 11 rfl zddX12_size_134 rfl
theorem dX12_size_158 : decode cX12_size 158 = .ok (.ireturn, 1) := dq_get (L := lzddX12_size_134) 12 rfl zddX12_size_134 rfl
theorem dX12_size_159 : decode cX12_size 159 = .ok (.aload_n 0, 1) := dq_get (L := lzddX12_size_134) 13 rfl zddX12_size_134 rfl
theorem dX12_size_160 : decode cX12_size 160 = .ok (.getfield 385, 3) := dq_get (L := lzddX12_size_134) 14 rfl zddX12_size_134 rfl
theorem dX12_size_163 : decode cX12_size 163 = .ok (.getfield 312, 3) := dq_get (L := lzddX12_size_134) 15 rfl zddX12_size_134 rfl
theorem dX12_size_166 : decode cX12_size 166 = .ok (.ireturn, 1) := dq_get (L := lzddX12_size_134) 16 rfl zddX12_size_134 rfl
theorem dX12_size_167 : decode cX12_size 167 = .ok (.aload_n 0, 1) := dq_get (L := lzddX12_size_134) 17 rfl zddX12_size_134 rfl
theorem dX12_size_168 : decode cX12_size 168 = .ok (.getfield 17, 3) := dq_get (L := lzddX12_size_134) 18 rfl zddX12_size_134 rfl
theorem dX12_size_171 : decode cX12_size 171 = .ok (.iconst 2, 1) := dq_get (L := lzddX12_size_134) 19 rfl zddX12_size_134 rfl
def lzddX12_size_172 : List (Nat × Instr × Nat) := [(172, .iaload, 1), (173, .ireturn, 1), (174, .aload_n 0, 1), (175, .getfield 387, 3), (178, .ireturn, 1), (179, .aload_n 0, 1), (180, .getfield 390, 3), (183, .ireturn, 1)]
theorem zddX12_size_172 : dqW lzddX12_size_172 (cX12_size.data.toList.drop 172) 172 = true := by decide +kernel
theorem dX12_size_172 : decode cX12_size 172 = .ok (.iaload, 1) := dq_get (L := lzddX12_size_172) 0 rfl zddX12_size_172 rfl
theorem dX12_size_173 : decode cX12_size 173 = .ok (.ireturn, 1) := dq_get (L := lzddX12_size_172) 1 rfl zddX12_size_172 rfl
theorem dX12_size_174 : decode cX12_size 174 = .ok (.aload_n 0, 1) := dq_get (L := lzddX12_size_172) 2 rfl zddX12_size_172 rfl
theorem dX12_size_175 : decode cX12_size 175 = .ok (.getfield 387, 3) := dq_get (L := lzddX12_size_172) 3 rfl zddX12_size_172 rfl
theorem dX12_size_178 : decode cX12_size 178 = .ok (.ireturn, 1) := dq_get (L := lzddX12_size_172) 4 rfl zddX12_size_172 rfl
theorem dX12_size_179 : decode cX12_size 179 = .ok (.aload_n 0, 1) := dq_get (L := lzddX12_size_172) 5 rfl zddX12_size_172 rfl
theorem dX12_size_180 : decode cX12_size 180 = .ok (.getfield 390, 3) := dq_get (L := lzddX12_size_172) 6 rfl zddX12_size_172 rfl
theorem dX12_size_183 : decode cX12_size 183 = .ok (.ireturn, 1) := dq_get (L := lzddX12_size_172) 7 rfl zddX12_size_172 rfl
def lzddX12_sky_0 : List (Nat × Instr × Nat) := [(0, .aload_n 0, 1), (1, .iconst 0, 1), (2, .putfield 70, 3), (5, .aload_n 0, 1), (6, .getfield 385, 3), (9, .ifnonnull 9, 3), (12, .aload_n 0, 1), (13, .iconst 1, 1), (14, .invokevirtual 76, 3), (17, .ireturn, 1), (18, .aload_n 0, 1), (19, .iload_n 1, 1), (20, .invokevirtual 443, 3), (23, .ifCond .ne 9, 3), (26, .aload_n 0, 1), (27, .iconst 2, 1), (28, .invokevirtual 76, 3), (31, .ireturn, 1), (32, .aload_n 0, 1), (33, .iconst (-1), 1)]
theorem zddX12_sky_0 : dqW lzddX12_sky_0 (cX12_sky.data.toList.drop 0) 0 = true := by decide +kernel
theorem dX12_sky_0 : decode cX12_sky 0 = .ok (.aload_n 0, 1) := dq_get (L := lzddX12_sky_0) 0 rfl zddX12_sky_0 rfl
theorem dX12_sky_1 : decode cX12_sky 1 = .ok (.iconst 0, 1) := dq_get (L := lzddX12_sky_0) 1 rfl zddX12_sky_0 rfl
theorem dX12_sky_2 : decode cX12_sky 2 = .ok (.putfield 70, 3) := dq_get (L := lzddX12_sky_0) 2 rfl zddX12_sky_0 rfl
theorem dX12_sky_5 : decode cX12_sky 5 = .ok (.aload_n 0, 1) := dq_get (L := lzddX12_sky_0) 3 rfl zddX12_sky_0 rfl
theorem dX12_sky_6 : decode cX12_sky 6 = .ok (.getfield 385, 3) := dq_get (L := lzddX12_sky_0) 4 rfl zddX12_sky_0 rfl
theorem dX12_sky_9 : decode cX12_sky 9 = .ok (.ifnonnull 9, 3) := dq_get (L := lzddX12_sky_0) 5 rfl zddX12_sky_0 rfl
theorem dX12_sky_12 : decode cX12_sky 12 = .ok (.aload_n 0, 1) := dq_get (L := lzddX12_sky_0) 6 rfl zddX12_sky_0 rfl
theorem dX12_sky_13 : decode cX12_sky 13 = .ok (.iconst 1, 1) := dq_get (L := lzddX12_sky_0) 7 rfl zddX12_sky_0 rfl
theorem dX12_sky_14 : decode cX12_sky 14 = .ok (.invokevirtual 76, 3) := dq_get (L := lzddX12_sky_0) 8 rfl zddX12_sky_0 rfl
theorem dX12_sky_17 : decode cX12_sky 17 = .ok (.ireturn, 1) := dq_get (L := lzddX12_sky_0) 9 rfl zddX12_sky_0 rfl
theorem dX12_sky_18 : decode cX12_sky 18 = .ok (.aload_n 0, 1) := dq_get (L := lzddX12_sky_0) 10 rfl zddX12_sky_0 rfl
theorem dX12_sky_19 : decode cX12_sky 19 = .ok (.iload_n 1, 1) := dq_get (L := lzddX12_sky_0) 11 rfl zddX12_sky_0 rfl
theorem dX12_sky_20 : decode cX12_sky 20 = .ok (.invokevirtual 443, 3) := dq_get (L := lzddX12_sky_0) 12 rfl zddX12_sky_0 rfl
theorem dX12_sky_23 : decode cX12_sky 23 = .ok (.ifCond .ne 9, 3) := dq_get (L := lzddX12_sky_0) 13 rfl zddX12_sky_0 rfl
theorem dX12_sky_26 : decode cX12_sky 26 = .ok (.aload_n 0, 1) := dq_get (L := lzddX12_sky_0) 14 rfl zddX12_sky_0 rfl
theorem dX12_sky_27 : decode cX12_sky 27 = .ok (.iconst 2, 1) := dq_get (L := lzddX12_sky_0) 15 rfl zddX12_sky_0 rfl
theorem dX12_sky_28 : decode cX12_sky 28 = .ok (.invokevirtual 76, 3) := dq_get (L := lzddX12_sky_0) 16 rfl zddX12_sky_0 rfl
theorem dX12_sky_31 : decode cX12_sky 31 = .ok (.ireturn, 1) := dq_get (L := lzddX12_sky_0) 17 rfl zddX12_sky_0 rfl
theorem dX12_sky_32 : decode cX12_sky 32 = .ok (.aload_n 0, 1) := dq_get (L := lzddX12_sky_0) 18 rfl zddX12_sky_0 rfl
theorem dX12_sky_33 : decode cX12_sky 33 = .ok (.iconst (-1), 1) := dq_get (L := lzddX12_sky_0) 19 rfl zddX12_sky_0 rfl
def lzddX12_sky_34 : List (Nat × Instr × Nat) := [(34, .invokevirtual 434, 3), (37, .aload_n 0, 1), (38, .aload_n 0, 1), (39, .getfield 27, 3), (42, .iload_n 1, 1), (43, .baload, 1), (44, .ifCond .eq 7, 3), (47, .iconst 1, 1), (48, .goto 4, 3), (51, .iconst 0, 1), (52, .invokevirtual 81, 3), (55, .ireturn, 1)]
theorem zddX12_sky_34 : dqW lzddX12_sky_34 (cX12_sky.data.toList.drop 34) 34 = true := by decide +kernel
theorem dX12_sky_34 : decode cX12_sky 34 = .ok (.invokevirtual 434, 3) := dq_get (L := lzddX12_sky_34) 0 rfl zddX12_sky_34 rfl
theorem dX12_sky_37 : decode cX12_sky 37 = .ok (.aload_n 0, 1) := dq_get (L := lzddX12_sky_34) 1 rfl zddX12_sky_34 rfl
theorem dX12_sky_38 : decode cX12_sky 38 = .ok (.aload_n 0, 1) := dq_get (L := lzddX12_sky_34) 2 rfl zddX12_sky_34 rfl
theorem dX12_sky_39 : decode cX12_sky 39 = .ok (.getfield 27, 3) := dq_get (L := lzddX12_sky_34) 3 rfl zddX12_sky_34 rfl
theorem dX12_sky_42 : decode cX12_sky 42 = .ok (.iload_n 1, 1) := dq_get (L := lzddX12_sky_34) 4 rfl zddX12_sky_34 rfl
theorem dX12_sky_43 : decode cX12_sky 43 = .ok (.baload, 1) := dq_get (L := lzddX12_sky_34) 5 rfl zddX12_sky_34 rfl
theorem dX12_sky_44 : decode cX12_sky 44 = .ok (.ifCond .eq 7, 3) := dq_get (L := lzddX12_sky_34) 6 rfl zddX12_sky_34 rfl
theorem dX12_sky_47 : decode cX12_sky 47 = .ok (.iconst 1, 1) := dq_get (L := lzddX12_sky_34) 7 rfl zddX12_sky_34 rfl
theorem dX12_sky_48 : decode cX12_sky 48 = .ok (.goto 4, 3) := dq_get (L := lzddX12_sky_34) 8 rfl zddX12_sky_34 rfl
theorem dX12_sky_51 : decode cX12_sky 51 = .ok (.iconst 0, 1) := dq_get (L := lzddX12_sky_34) 9 rfl zddX12_sky_34 rfl
theorem dX12_sky_52 : decode cX12_sky 52 = .ok (.invokevirtual 81, 3) := dq_get (L := lzddX12_sky_34) 10 rfl zddX12_sky_34 rfl
theorem dX12_sky_55 : decode cX12_sky 55 = .ok (.ireturn, 1) := dq_get (L := lzddX12_sky_34) 11 rfl zddX12_sky_34 rfl
def lzddX12_toOf_0 : List (Nat × Instr × Nat) := [(0, .iload_n 1, 1), (1, .aload_n 0, 1), (2, .getfield 385, 3), (5, .getfield 265, 3), (8, .if_icmp .ge 15, 3), (11, .aload_n 0, 1), (12, .getfield 385, 3), (15, .getfield 283, 3), (18, .iload_n 1, 1), (19, .iaload, 1), (20, .goto 20, 3), (23, .aload_n 0, 1), (24, .getfield 17, 3), (27, .bipush 9, 2), (29, .iload_n 1, 1), (30, .iadd, 1), (31, .aload_n 0, 1), (32, .getfield 385, 3), (35, .getfield 265, 3), (38, .isub, 1)]
theorem zddX12_toOf_0 : dqW lzddX12_toOf_0 (cX12_toOf.data.toList.drop 0) 0 = true := by decide +kernel
theorem dX12_toOf_0 : decode cX12_toOf 0 = .ok (.iload_n 1, 1) := dq_get (L := lzddX12_toOf_0) 0 rfl zddX12_toOf_0 rfl
theorem dX12_toOf_1 : decode cX12_toOf 1 = .ok (.aload_n 0, 1) := dq_get (L := lzddX12_toOf_0) 1 rfl zddX12_toOf_0 rfl
theorem dX12_toOf_2 : decode cX12_toOf 2 = .ok (.getfield 385, 3) := dq_get (L := lzddX12_toOf_0) 2 rfl zddX12_toOf_0 rfl
theorem dX12_toOf_5 : decode cX12_toOf 5 = .ok (.getfield 265, 3) := dq_get (L := lzddX12_toOf_0) 3 rfl zddX12_toOf_0 rfl
theorem dX12_toOf_8 : decode cX12_toOf 8 = .ok (.if_icmp .ge 15, 3) := dq_get (L := lzddX12_toOf_0) 4 rfl zddX12_toOf_0 rfl
theorem dX12_toOf_11 : decode cX12_toOf 11 = .ok (.aload_n 0, 1) := dq_get (L := lzddX12_toOf_0) 5 rfl zddX12_toOf_0 rfl
theorem dX12_toOf_12 : decode cX12_toOf 12 = .ok (.getfield 385, 3) := dq_get (L := lzddX12_toOf_0) 6 rfl zddX12_toOf_0 rfl
theorem dX12_toOf_15 : decode cX12_toOf 15 = .ok (.getfield 283, 3) := dq_get (L := lzddX12_toOf_0) 7 rfl zddX12_toOf_0 rfl
theorem dX12_toOf_18 : decode cX12_toOf 18 = .ok (.iload_n 1, 1) := dq_get (L := lzddX12_toOf_0) 8 rfl zddX12_toOf_0 rfl
theorem dX12_toOf_19 : decode cX12_toOf 19 = .ok (.iaload, 1) := dq_get (L := lzddX12_toOf_0) 9 rfl zddX12_toOf_0 rfl
theorem dX12_toOf_20 : decode cX12_toOf 20 = .ok (.goto 20, 3) := dq_get (L := lzddX12_toOf_0) 10 rfl zddX12_toOf_0 rfl
theorem dX12_toOf_23 : decode cX12_toOf 23 = .ok (.aload_n 0, 1) := dq_get (L := lzddX12_toOf_0) 11 rfl zddX12_toOf_0 rfl
theorem dX12_toOf_24 : decode cX12_toOf 24 = .ok (.getfield 17, 3) := dq_get (L := lzddX12_toOf_0) 12 rfl zddX12_toOf_0 rfl
theorem dX12_toOf_27 : decode cX12_toOf 27 = .ok (.bipush 9, 2) := dq_get (L := lzddX12_toOf_0) 13 rfl zddX12_toOf_0 rfl
theorem dX12_toOf_29 : decode cX12_toOf 29 = .ok (.iload_n 1, 1) := dq_get (L := lzddX12_toOf_0) 14 rfl zddX12_toOf_0 rfl
theorem dX12_toOf_30 : decode cX12_toOf 30 = .ok (.iadd, 1) := dq_get (L := lzddX12_toOf_0) 15 rfl zddX12_toOf_0 rfl
theorem dX12_toOf_31 : decode cX12_toOf 31 = .ok (.aload_n 0, 1) := dq_get (L := lzddX12_toOf_0) 16 rfl zddX12_toOf_0 rfl
theorem dX12_toOf_32 : decode cX12_toOf 32 = .ok (.getfield 385, 3) := dq_get (L := lzddX12_toOf_0) 17 rfl zddX12_toOf_0 rfl
theorem dX12_toOf_35 : decode cX12_toOf 35 = .ok (.getfield 265, 3) := dq_get (L := lzddX12_toOf_0) 18 rfl zddX12_toOf_0 rfl
theorem dX12_toOf_38 : decode cX12_toOf 38 = .ok (.isub, 1) := dq_get (L := lzddX12_toOf_0) 19 rfl zddX12_toOf_0 rfl
def lzddX12_toOf_39 : List (Nat × Instr × Nat) := [(39, .iaload, 1), (40, .ireturn, 1)]
theorem zddX12_toOf_39 : dqW lzddX12_toOf_39 (cX12_toOf.data.toList.drop 39) 39 = true := by decide +kernel
theorem dX12_toOf_39 : decode cX12_toOf 39 = .ok (.iaload, 1) := dq_get (L := lzddX12_toOf_39) 0 rfl zddX12_toOf_39 rfl
theorem dX12_toOf_40 : decode cX12_toOf 40 = .ok (.ireturn, 1) := dq_get (L := lzddX12_toOf_39) 1 rfl zddX12_toOf_39 rfl
def lzddX12_tonight_0 : List (Nat × Instr × Nat) := [(0, .aload_n 0, 1), (1, .iconst (-1), 1), (2, .invokevirtual 434, 3), (5, .aload_n 0, 1), (6, .aload_n 0, 1), (7, .invokevirtual 437, 3), (10, .aload_n 0, 1), (11, .getfield 17, 3), (14, .iconst 0, 1), (15, .iaload, 1), (16, .invokevirtual 440, 3), (19, .ireturn, 1)]
theorem zddX12_tonight_0 : dqW lzddX12_tonight_0 (cX12_tonight.data.toList.drop 0) 0 = true := by decide +kernel
theorem dX12_tonight_0 : decode cX12_tonight 0 = .ok (.aload_n 0, 1) := dq_get (L := lzddX12_tonight_0) 0 rfl zddX12_tonight_0 rfl
theorem dX12_tonight_1 : decode cX12_tonight 1 = .ok (.iconst (-1), 1) := dq_get (L := lzddX12_tonight_0) 1 rfl zddX12_tonight_0 rfl
theorem dX12_tonight_2 : decode cX12_tonight 2 = .ok (.invokevirtual 434, 3) := dq_get (L := lzddX12_tonight_0) 2 rfl zddX12_tonight_0 rfl
theorem dX12_tonight_5 : decode cX12_tonight 5 = .ok (.aload_n 0, 1) := dq_get (L := lzddX12_tonight_0) 3 rfl zddX12_tonight_0 rfl
theorem dX12_tonight_6 : decode cX12_tonight 6 = .ok (.aload_n 0, 1) := dq_get (L := lzddX12_tonight_0) 4 rfl zddX12_tonight_0 rfl
theorem dX12_tonight_7 : decode cX12_tonight 7 = .ok (.invokevirtual 437, 3) := dq_get (L := lzddX12_tonight_0) 5 rfl zddX12_tonight_0 rfl
theorem dX12_tonight_10 : decode cX12_tonight 10 = .ok (.aload_n 0, 1) := dq_get (L := lzddX12_tonight_0) 6 rfl zddX12_tonight_0 rfl
theorem dX12_tonight_11 : decode cX12_tonight 11 = .ok (.getfield 17, 3) := dq_get (L := lzddX12_tonight_0) 7 rfl zddX12_tonight_0 rfl
theorem dX12_tonight_14 : decode cX12_tonight 14 = .ok (.iconst 0, 1) := dq_get (L := lzddX12_tonight_0) 8 rfl zddX12_tonight_0 rfl
theorem dX12_tonight_15 : decode cX12_tonight 15 = .ok (.iaload, 1) := dq_get (L := lzddX12_tonight_0) 9 rfl zddX12_tonight_0 rfl
theorem dX12_tonight_16 : decode cX12_tonight 16 = .ok (.invokevirtual 440, 3) := dq_get (L := lzddX12_tonight_0) 10 rfl zddX12_tonight_0 rfl
theorem dX12_tonight_19 : decode cX12_tonight 19 = .ok (.ireturn, 1) := dq_get (L := lzddX12_tonight_0) 11 rfl zddX12_tonight_0 rfl
def lzddX12_total_0 : List (Nat × Instr × Nat) := [(0, .aload_n 0, 1), (1, .iconst 0, 1), (2, .putfield 70, 3), (5, .aload_n 0, 1), (6, .getfield 385, 3), (9, .ifnonnull 11, 3), (12, .aload_n 0, 1), (13, .iconst 1, 1), (14, .invokevirtual 458, 3), (17, .goto 11, 3), (20, .aload_n 0, 1), (21, .aload_n 0, 1), (22, .invokevirtual 455, 3), (25, .invokevirtual 81, 3), (28, .ireturn, 1)]
theorem zddX12_total_0 : dqW lzddX12_total_0 (cX12_total.data.toList.drop 0) 0 = true := by decide +kernel
theorem dX12_total_0 : decode cX12_total 0 = .ok (.aload_n 0, 1) := dq_get (L := lzddX12_total_0) 0 rfl zddX12_total_0 rfl
theorem dX12_total_1 : decode cX12_total 1 = .ok (.iconst 0, 1) := dq_get (L := lzddX12_total_0) 1 rfl zddX12_total_0 rfl
theorem dX12_total_2 : decode cX12_total 2 = .ok (.putfield 70, 3) := dq_get (L := lzddX12_total_0) 2 rfl zddX12_total_0 rfl
theorem dX12_total_5 : decode cX12_total 5 = .ok (.aload_n 0, 1) := dq_get (L := lzddX12_total_0) 3 rfl zddX12_total_0 rfl
theorem dX12_total_6 : decode cX12_total 6 = .ok (.getfield 385, 3) := dq_get (L := lzddX12_total_0) 4 rfl zddX12_total_0 rfl
theorem dX12_total_9 : decode cX12_total 9 = .ok (.ifnonnull 11, 3) := dq_get (L := lzddX12_total_0) 5 rfl zddX12_total_0 rfl
theorem dX12_total_12 : decode cX12_total 12 = .ok (.aload_n 0, 1) := dq_get (L := lzddX12_total_0) 6 rfl zddX12_total_0 rfl
theorem dX12_total_13 : decode cX12_total 13 = .ok (.iconst 1, 1) := dq_get (L := lzddX12_total_0) 7 rfl zddX12_total_0 rfl
theorem dX12_total_14 : decode cX12_total 14 = .ok (.invokevirtual 458, 3) := dq_get (L := lzddX12_total_0) 8 rfl zddX12_total_0 rfl
theorem dX12_total_17 : decode cX12_total 17 = .ok (.goto 11, 3) := dq_get (L := lzddX12_total_0) 9 rfl zddX12_total_0 rfl
theorem dX12_total_20 : decode cX12_total 20 = .ok (.aload_n 0, 1) := dq_get (L := lzddX12_total_0) 10 rfl zddX12_total_0 rfl
theorem dX12_total_21 : decode cX12_total 21 = .ok (.aload_n 0, 1) := dq_get (L := lzddX12_total_0) 11 rfl zddX12_total_0 rfl
theorem dX12_total_22 : decode cX12_total 22 = .ok (.invokevirtual 455, 3) := dq_get (L := lzddX12_total_0) 12 rfl zddX12_total_0 rfl
theorem dX12_total_25 : decode cX12_total 25 = .ok (.invokevirtual 81, 3) := dq_get (L := lzddX12_total_0) 13 rfl zddX12_total_0 rfl
theorem dX12_total_28 : decode cX12_total 28 = .ok (.ireturn, 1) := dq_get (L := lzddX12_total_0) 14 rfl zddX12_total_0 rfl
def lzddX12_trouble_0 : List (Nat × Instr × Nat) := [(0, .aload_n 0, 1), (1, .iconst 0, 1), (2, .putfield 70, 3), (5, .aload_n 0, 1), (6, .getfield 73, 3), (9, .ireturn, 1)]
theorem zddX12_trouble_0 : dqW lzddX12_trouble_0 (cX12_trouble.data.toList.drop 0) 0 = true := by decide +kernel
theorem dX12_trouble_0 : decode cX12_trouble 0 = .ok (.aload_n 0, 1) := dq_get (L := lzddX12_trouble_0) 0 rfl zddX12_trouble_0 rfl
theorem dX12_trouble_1 : decode cX12_trouble 1 = .ok (.iconst 0, 1) := dq_get (L := lzddX12_trouble_0) 1 rfl zddX12_trouble_0 rfl
theorem dX12_trouble_2 : decode cX12_trouble 2 = .ok (.putfield 70, 3) := dq_get (L := lzddX12_trouble_0) 2 rfl zddX12_trouble_0 rfl
theorem dX12_trouble_5 : decode cX12_trouble 5 = .ok (.aload_n 0, 1) := dq_get (L := lzddX12_trouble_0) 3 rfl zddX12_trouble_0 rfl
theorem dX12_trouble_6 : decode cX12_trouble 6 = .ok (.getfield 73, 3) := dq_get (L := lzddX12_trouble_0) 4 rfl zddX12_trouble_0 rfl
theorem dX12_trouble_9 : decode cX12_trouble 9 = .ok (.ireturn, 1) := dq_get (L := lzddX12_trouble_0) 5 rfl zddX12_trouble_0 rfl
def lzddX12_turned_0 : List (Nat × Instr × Nat) := [(0, .aload_n 0, 1), (1, .iconst 0, 1), (2, .putfield 70, 3), (5, .aload_n 0, 1), (6, .iload_n 1, 1), (7, .invokevirtual 461, 3), (10, .ifCond .ne 9, 3), (13, .aload_n 0, 1), (14, .iconst 1, 1), (15, .invokevirtual 76, 3), (18, .ireturn, 1), (19, .aload_n 0, 1), (20, .iload_n 2, 1), (21, .invokevirtual 443, 3), (24, .ifCond .ne 9, 3), (27, .aload_n 0, 1), (28, .iconst 2, 1), (29, .invokevirtual 76, 3), (32, .ireturn, 1), (33, .aload_n 0, 1)]
theorem zddX12_turned_0 : dqW lzddX12_turned_0 (cX12_turned.data.toList.drop 0) 0 = true := by decide +kernel
theorem dX12_turned_0 : decode cX12_turned 0 = .ok (.aload_n 0, 1) := dq_get (L := lzddX12_turned_0) 0 rfl zddX12_turned_0 rfl
theorem dX12_turned_1 : decode cX12_turned 1 = .ok (.iconst 0, 1) := dq_get (L := lzddX12_turned_0) 1 rfl zddX12_turned_0 rfl
theorem dX12_turned_2 : decode cX12_turned 2 = .ok (.putfield 70, 3) := dq_get (L := lzddX12_turned_0) 2 rfl zddX12_turned_0 rfl
theorem dX12_turned_5 : decode cX12_turned 5 = .ok (.aload_n 0, 1) := dq_get (L := lzddX12_turned_0) 3 rfl zddX12_turned_0 rfl
theorem dX12_turned_6 : decode cX12_turned 6 = .ok (.iload_n 1, 1) := dq_get (L := lzddX12_turned_0) 4 rfl zddX12_turned_0 rfl
theorem dX12_turned_7 : decode cX12_turned 7 = .ok (.invokevirtual 461, 3) := dq_get (L := lzddX12_turned_0) 5 rfl zddX12_turned_0 rfl
theorem dX12_turned_10 : decode cX12_turned 10 = .ok (.ifCond .ne 9, 3) := dq_get (L := lzddX12_turned_0) 6 rfl zddX12_turned_0 rfl
theorem dX12_turned_13 : decode cX12_turned 13 = .ok (.aload_n 0, 1) := dq_get (L := lzddX12_turned_0) 7 rfl zddX12_turned_0 rfl
theorem dX12_turned_14 : decode cX12_turned 14 = .ok (.iconst 1, 1) := dq_get (L := lzddX12_turned_0) 8 rfl zddX12_turned_0 rfl
theorem dX12_turned_15 : decode cX12_turned 15 = .ok (.invokevirtual 76, 3) := dq_get (L := lzddX12_turned_0) 9 rfl zddX12_turned_0 rfl
theorem dX12_turned_18 : decode cX12_turned 18 = .ok (.ireturn, 1) := dq_get (L := lzddX12_turned_0) 10 rfl zddX12_turned_0 rfl
theorem dX12_turned_19 : decode cX12_turned 19 = .ok (.aload_n 0, 1) := dq_get (L := lzddX12_turned_0) 11 rfl zddX12_turned_0 rfl
theorem dX12_turned_20 : decode cX12_turned 20 = .ok (.iload_n 2, 1) := dq_get (L := lzddX12_turned_0) 12 rfl zddX12_turned_0 rfl
theorem dX12_turned_21 : decode cX12_turned 21 = .ok (.invokevirtual 443, 3) := dq_get (L := lzddX12_turned_0) 13 rfl zddX12_turned_0 rfl
theorem dX12_turned_24 : decode cX12_turned 24 = .ok (.ifCond .ne 9, 3) := dq_get (L := lzddX12_turned_0) 14 rfl zddX12_turned_0 rfl
theorem dX12_turned_27 : decode cX12_turned 27 = .ok (.aload_n 0, 1) := dq_get (L := lzddX12_turned_0) 15 rfl zddX12_turned_0 rfl
theorem dX12_turned_28 : decode cX12_turned 28 = .ok (.iconst 2, 1) := dq_get (L := lzddX12_turned_0) 16 rfl zddX12_turned_0 rfl
theorem dX12_turned_29 : decode cX12_turned 29 = .ok (.invokevirtual 76, 3) := dq_get (L := lzddX12_turned_0) 17 rfl zddX12_turned_0 rfl
theorem dX12_turned_32 : decode cX12_turned 32 = .ok (.ireturn, 1) := dq_get (L := lzddX12_turned_0) 18 rfl zddX12_turned_0 rfl
theorem dX12_turned_33 : decode cX12_turned 33 = .ok (.aload_n 0, 1) := dq_get (L := lzddX12_turned_0) 19 rfl zddX12_turned_0 rfl
def lzddX12_turned_34 : List (Nat × Instr × Nat) := [(34, .invokevirtual 455, 3), (37, .pop, 1), (38, .aload_n 0, 1), (39, .aload_n 0, 1), (40, .getfield 46, 3), (43, .sipush 240, 3), (46, .iload_n 1, 1), (47, .imul, 1), (48, .iload_n 2, 1), (49, .iadd, 1), (50, .iaload, 1), (51, .invokevirtual 81, 3), (54, .ireturn, 1)]
theorem zddX12_turned_34 : dqW lzddX12_turned_34 (cX12_turned.data.toList.drop 34) 34 = true := by decide +kernel
theorem dX12_turned_34 : decode cX12_turned 34 = .ok (.invokevirtual 455, 3) := dq_get (L := lzddX12_turned_34) 0 rfl zddX12_turned_34 rfl
theorem dX12_turned_37 : decode cX12_turned 37 = .ok (.pop, 1) := dq_get (L := lzddX12_turned_34) 1 rfl zddX12_turned_34 rfl
theorem dX12_turned_38 : decode cX12_turned 38 = .ok (.aload_n 0, 1) := dq_get (L := lzddX12_turned_34) 2 rfl zddX12_turned_34 rfl
theorem dX12_turned_39 : decode cX12_turned 39 = .ok (.aload_n 0, 1) := dq_get (L := lzddX12_turned_34) 3 rfl zddX12_turned_34 rfl
theorem dX12_turned_40 : decode cX12_turned 40 = .ok (.getfield 46, 3) := dq_get (L := lzddX12_turned_34) 4 rfl zddX12_turned_34 rfl
theorem dX12_turned_43 : decode cX12_turned 43 = .ok (.sipush 240, 3) := dq_get (L := lzddX12_turned_34) 5 rfl zddX12_turned_34 rfl
theorem dX12_turned_46 : decode cX12_turned 46 = .ok (.iload_n 1, 1) := dq_get (L := lzddX12_turned_34) 6 rfl zddX12_turned_34 rfl
theorem dX12_turned_47 : decode cX12_turned 47 = .ok (.imul, 1) := dq_get (L := lzddX12_turned_34) 7 rfl zddX12_turned_34 rfl
theorem dX12_turned_48 : decode cX12_turned 48 = .ok (.iload_n 2, 1) := dq_get (L := lzddX12_turned_34) 8 rfl zddX12_turned_34 rfl
theorem dX12_turned_49 : decode cX12_turned 49 = .ok (.iadd, 1) := dq_get (L := lzddX12_turned_34) 9 rfl zddX12_turned_34 rfl
theorem dX12_turned_50 : decode cX12_turned 50 = .ok (.iaload, 1) := dq_get (L := lzddX12_turned_34) 10 rfl zddX12_turned_34 rfl
theorem dX12_turned_51 : decode cX12_turned 51 = .ok (.invokevirtual 81, 3) := dq_get (L := lzddX12_turned_34) 11 rfl zddX12_turned_34 rfl
theorem dX12_turned_54 : decode cX12_turned 54 = .ok (.ireturn, 1) := dq_get (L := lzddX12_turned_34) 12 rfl zddX12_turned_34 rfl
def lzddX12_turns_0 : List (Nat × Instr × Nat) := [(0, .aload_n 0, 1), (1, .getfield 385, 3), (4, .getfield 342, 3), (7, .iload_n 1, 1), (8, .iaload, 1), (9, .istore_n 3, 1), (10, .iconst 0, 1), (11, .istore 4, 2), (13, .iload 4, 2), (15, .aload_n 0, 1), (16, .getfield 385, 3), (19, .getfield 224, 3), (22, .if_icmp .ge 91, 3), (25, .iload_n 3, 1), (26, .ifCond .le 87, 3), (29, .aload_n 0, 1), (30, .getfield 385, 3), (33, .getfield 296, 3), (36, .iload 4, 2), (38, .iaload, 1)]
theorem zddX12_turns_0 : dqW lzddX12_turns_0 (cX12_turns.data.toList.drop 0) 0 = true := by decide +kernel
theorem dX12_turns_0 : decode cX12_turns 0 = .ok (.aload_n 0, 1) := dq_get (L := lzddX12_turns_0) 0 rfl zddX12_turns_0 rfl
theorem dX12_turns_1 : decode cX12_turns 1 = .ok (.getfield 385, 3) := dq_get (L := lzddX12_turns_0) 1 rfl zddX12_turns_0 rfl
theorem dX12_turns_4 : decode cX12_turns 4 = .ok (.getfield 342, 3) := dq_get (L := lzddX12_turns_0) 2 rfl zddX12_turns_0 rfl
theorem dX12_turns_7 : decode cX12_turns 7 = .ok (.iload_n 1, 1) := dq_get (L := lzddX12_turns_0) 3 rfl zddX12_turns_0 rfl
theorem dX12_turns_8 : decode cX12_turns 8 = .ok (.iaload, 1) := dq_get (L := lzddX12_turns_0) 4 rfl zddX12_turns_0 rfl
theorem dX12_turns_9 : decode cX12_turns 9 = .ok (.istore_n 3, 1) := dq_get (L := lzddX12_turns_0) 5 rfl zddX12_turns_0 rfl
theorem dX12_turns_10 : decode cX12_turns 10 = .ok (.iconst 0, 1) := dq_get (L := lzddX12_turns_0) 6 rfl zddX12_turns_0 rfl
theorem dX12_turns_11 : decode cX12_turns 11 = .ok (.istore 4, 2) := dq_get (L := lzddX12_turns_0) 7 rfl zddX12_turns_0 rfl
theorem dX12_turns_13 : decode cX12_turns 13 = .ok (.iload 4, 2) := dq_get (L := lzddX12_turns_0) 8 rfl zddX12_turns_0 rfl
theorem dX12_turns_15 : decode cX12_turns 15 = .ok (.aload_n 0, 1) := dq_get (L := lzddX12_turns_0) 9 rfl zddX12_turns_0 rfl
theorem dX12_turns_16 : decode cX12_turns 16 = .ok (.getfield 385, 3) := dq_get (L := lzddX12_turns_0) 10 rfl zddX12_turns_0 rfl
theorem dX12_turns_19 : decode cX12_turns 19 = .ok (.getfield 224, 3) := dq_get (L := lzddX12_turns_0) 11 rfl zddX12_turns_0 rfl
theorem dX12_turns_22 : decode cX12_turns 22 = .ok (.if_icmp .ge 91, 3) := dq_get (L := lzddX12_turns_0) 12 rfl zddX12_turns_0 rfl
theorem dX12_turns_25 : decode cX12_turns 25 = .ok (.iload_n 3, 1) := dq_get (L := lzddX12_turns_0) 13 rfl zddX12_turns_0 rfl
theorem dX12_turns_26 : decode cX12_turns 26 = .ok (.ifCond .le 87, 3) := dq_get (L := lzddX12_turns_0) 14 rfl zddX12_turns_0 rfl
theorem dX12_turns_29 : decode cX12_turns 29 = .ok (.aload_n 0, 1) := dq_get (L := lzddX12_turns_0) 15 rfl zddX12_turns_0 rfl
theorem dX12_turns_30 : decode cX12_turns 30 = .ok (.getfield 385, 3) := dq_get (L := lzddX12_turns_0) 16 rfl zddX12_turns_0 rfl
theorem dX12_turns_33 : decode cX12_turns 33 = .ok (.getfield 296, 3) := dq_get (L := lzddX12_turns_0) 17 rfl zddX12_turns_0 rfl
theorem dX12_turns_36 : decode cX12_turns 36 = .ok (.iload 4, 2) := dq_get (L := lzddX12_turns_0) 18 rfl zddX12_turns_0 rfl
theorem dX12_turns_38 : decode cX12_turns 38 = .ok (.iaload, 1) := dq_get (L := lzddX12_turns_0) 19 rfl zddX12_turns_0 rfl
def lzddX12_turns_39 : List (Nat × Instr × Nat) := [(39, .istore 5, 2), (41, .aload_n 0, 1), (42, .getfield 46, 3), (45, .sipush 240, 3), (48, .iload 4, 2), (50, .imul, 1), (51, .iload_n 2, 1), (52, .iadd, 1), (53, .iaload, 1), (54, .bipush (-2), 2), (56, .if_icmp .ne 51, 3), (59, .aload_n 0, 1), (60, .getfield 385, 3), (63, .getfield 346, 3), (66, .iload_n 1, 1), (67, .iaload, 1), (68, .iload 5, 2), (70, .invokestatic 329, 3), (73, .ifCond .eq 34, 3), (76, .aload_n 0, 1)]
theorem zddX12_turns_39 : dqW lzddX12_turns_39 (cX12_turns.data.toList.drop 39) 39 = true := by decide +kernel
theorem dX12_turns_39 : decode cX12_turns 39 = .ok (.istore 5, 2) := dq_get (L := lzddX12_turns_39) 0 rfl zddX12_turns_39 rfl
theorem dX12_turns_41 : decode cX12_turns 41 = .ok (.aload_n 0, 1) := dq_get (L := lzddX12_turns_39) 1 rfl zddX12_turns_39 rfl
theorem dX12_turns_42 : decode cX12_turns 42 = .ok (.getfield 46, 3) := dq_get (L := lzddX12_turns_39) 2 rfl zddX12_turns_39 rfl
theorem dX12_turns_45 : decode cX12_turns 45 = .ok (.sipush 240, 3) := dq_get (L := lzddX12_turns_39) 3 rfl zddX12_turns_39 rfl
theorem dX12_turns_48 : decode cX12_turns 48 = .ok (.iload 4, 2) := dq_get (L := lzddX12_turns_39) 4 rfl zddX12_turns_39 rfl
theorem dX12_turns_50 : decode cX12_turns 50 = .ok (.imul, 1) := dq_get (L := lzddX12_turns_39) 5 rfl zddX12_turns_39 rfl
theorem dX12_turns_51 : decode cX12_turns 51 = .ok (.iload_n 2, 1) := dq_get (L := lzddX12_turns_39) 6 rfl zddX12_turns_39 rfl
theorem dX12_turns_52 : decode cX12_turns 52 = .ok (.iadd, 1) := dq_get (L := lzddX12_turns_39) 7 rfl zddX12_turns_39 rfl
theorem dX12_turns_53 : decode cX12_turns 53 = .ok (.iaload, 1) := dq_get (L := lzddX12_turns_39) 8 rfl zddX12_turns_39 rfl
theorem dX12_turns_54 : decode cX12_turns 54 = .ok (.bipush (-2), 2) := dq_get (L := lzddX12_turns_39) 9 rfl zddX12_turns_39 rfl
theorem dX12_turns_56 : decode cX12_turns 56 = .ok (.if_icmp .ne 51, 3) := dq_get (L := lzddX12_turns_39) 10 rfl zddX12_turns_39 rfl
theorem dX12_turns_59 : decode cX12_turns 59 = .ok (.aload_n 0, 1) := dq_get (L := lzddX12_turns_39) 11 rfl zddX12_turns_39 rfl
theorem dX12_turns_60 : decode cX12_turns 60 = .ok (.getfield 385, 3) := dq_get (L := lzddX12_turns_39) 12 rfl zddX12_turns_39 rfl
theorem dX12_turns_63 : decode cX12_turns 63 = .ok (.getfield 346, 3) := dq_get (L := lzddX12_turns_39) 13 rfl zddX12_turns_39 rfl
theorem dX12_turns_66 : decode cX12_turns 66 = .ok (.iload_n 1, 1) := dq_get (L := lzddX12_turns_39) 14 rfl zddX12_turns_39 rfl
theorem dX12_turns_67 : decode cX12_turns 67 = .ok (.iaload, 1) := dq_get (L := lzddX12_turns_39) 15 rfl zddX12_turns_39 rfl
theorem dX12_turns_68 : decode cX12_turns 68 = .ok (.iload 5, 2) := dq_get (L := lzddX12_turns_39) 16 rfl zddX12_turns_39 rfl
theorem dX12_turns_70 : decode cX12_turns 70 = .ok (.invokestatic 329, 3) := dq_get (L := lzddX12_turns_39) 17 rfl zddX12_turns_39 rfl
theorem dX12_turns_73 : decode cX12_turns 73 = .ok (.ifCond .eq 34, 3) := dq_get (L := lzddX12_turns_39) 18 rfl zddX12_turns_39 rfl
theorem dX12_turns_76 : decode cX12_turns 76 = .ok (.aload_n 0, 1) := dq_get (L := lzddX12_turns_39) 19 rfl zddX12_turns_39 rfl
def lzddX12_turns_77 : List (Nat × Instr × Nat) := [(77, .iload_n 1, 1), (78, .iload 5, 2), (80, .iload_n 2, 1), (81, .invokevirtual 431, 3), (84, .ifCond .ne 6, 3), (87, .goto 20, 3), (90, .aload_n 0, 1), (91, .getfield 46, 3), (94, .sipush 240, 3), (97, .iload 4, 2), (99, .imul, 1), (100, .iload_n 2, 1), (101, .iadd, 1), (102, .iload_n 1, 1), (103, .iastore, 1), (104, .iinc 3 (-1), 3), (107, .iinc 4 1, 3), (110, .goto (-97), 3), (113, .iload_n 3, 1), (114, .aload_n 0, 1)]
theorem zddX12_turns_77 : dqW lzddX12_turns_77 (cX12_turns.data.toList.drop 77) 77 = true := by decide +kernel
theorem dX12_turns_77 : decode cX12_turns 77 = .ok (.iload_n 1, 1) := dq_get (L := lzddX12_turns_77) 0 rfl zddX12_turns_77 rfl
theorem dX12_turns_78 : decode cX12_turns 78 = .ok (.iload 5, 2) := dq_get (L := lzddX12_turns_77) 1 rfl zddX12_turns_77 rfl
theorem dX12_turns_80 : decode cX12_turns 80 = .ok (.iload_n 2, 1) := dq_get (L := lzddX12_turns_77) 2 rfl zddX12_turns_77 rfl
theorem dX12_turns_81 : decode cX12_turns 81 = .ok (.invokevirtual 431, 3) := dq_get (L := lzddX12_turns_77) 3 rfl zddX12_turns_77 rfl
theorem dX12_turns_84 : decode cX12_turns 84 = .ok (.ifCond .ne 6, 3) := dq_get (L := lzddX12_turns_77) 4 rfl zddX12_turns_77 rfl
theorem dX12_turns_87 : decode cX12_turns 87 = .ok (.goto 20, 3) := dq_get (L := lzddX12_turns_77) 5 rfl zddX12_turns_77 rfl
theorem dX12_turns_90 : decode cX12_turns 90 = .ok (.aload_n 0, 1) := dq_get (L := lzddX12_turns_77) 6 rfl zddX12_turns_77 rfl
theorem dX12_turns_91 : decode cX12_turns 91 = .ok (.getfield 46, 3) := dq_get (L := lzddX12_turns_77) 7 rfl zddX12_turns_77 rfl
theorem dX12_turns_94 : decode cX12_turns 94 = .ok (.sipush 240, 3) := dq_get (L := lzddX12_turns_77) 8 rfl zddX12_turns_77 rfl
theorem dX12_turns_97 : decode cX12_turns 97 = .ok (.iload 4, 2) := dq_get (L := lzddX12_turns_77) 9 rfl zddX12_turns_77 rfl
theorem dX12_turns_99 : decode cX12_turns 99 = .ok (.imul, 1) := dq_get (L := lzddX12_turns_77) 10 rfl zddX12_turns_77 rfl
theorem dX12_turns_100 : decode cX12_turns 100 = .ok (.iload_n 2, 1) := dq_get (L := lzddX12_turns_77) 11 rfl zddX12_turns_77 rfl
theorem dX12_turns_101 : decode cX12_turns 101 = .ok (.iadd, 1) := dq_get (L := lzddX12_turns_77) 12 rfl zddX12_turns_77 rfl
theorem dX12_turns_102 : decode cX12_turns 102 = .ok (.iload_n 1, 1) := dq_get (L := lzddX12_turns_77) 13 rfl zddX12_turns_77 rfl
theorem dX12_turns_103 : decode cX12_turns 103 = .ok (.iastore, 1) := dq_get (L := lzddX12_turns_77) 14 rfl zddX12_turns_77 rfl
theorem dX12_turns_104 : decode cX12_turns 104 = .ok (.iinc 3 (-1), 3) := dq_get (L := lzddX12_turns_77) 15 rfl zddX12_turns_77 rfl
theorem dX12_turns_107 : decode cX12_turns 107 = .ok (.iinc 4 1, 3) := dq_get (L := lzddX12_turns_77) 16 rfl zddX12_turns_77 rfl
theorem dX12_turns_110 : decode cX12_turns 110 = .ok (.goto (-97), 3) := dq_get (L := lzddX12_turns_77) 17 rfl zddX12_turns_77 rfl
theorem dX12_turns_113 : decode cX12_turns 113 = .ok (.iload_n 3, 1) := dq_get (L := lzddX12_turns_77) 18 rfl zddX12_turns_77 rfl
theorem dX12_turns_114 : decode cX12_turns 114 = .ok (.aload_n 0, 1) := dq_get (L := lzddX12_turns_77) 19 rfl zddX12_turns_77 rfl
def lzddX12_turns_115 : List (Nat × Instr × Nat) := [(115, .getfield 385, 3), (118, .getfield 342, 3), (121, .iload_n 1, 1), (122, .iaload, 1), (123, .if_icmp .ge 20, 3), (126, .aload_n 0, 1), (127, .getfield 49, 3), (130, .iload_n 1, 1), (131, .iload_n 2, 1), (132, .aload_n 0, 1), (133, .getfield 385, 3), (136, .getfield 344, 3), (139, .iload_n 1, 1), (140, .iaload, 1), (141, .iadd, 1), (142, .iastore, 1), (143, .return_, 1)]
theorem zddX12_turns_115 : dqW lzddX12_turns_115 (cX12_turns.data.toList.drop 115) 115 = true := by decide +kernel
theorem dX12_turns_115 : decode cX12_turns 115 = .ok (.getfield 385, 3) := dq_get (L := lzddX12_turns_115) 0 rfl zddX12_turns_115 rfl
theorem dX12_turns_118 : decode cX12_turns 118 = .ok (.getfield 342, 3) := dq_get (L := lzddX12_turns_115) 1 rfl zddX12_turns_115 rfl
theorem dX12_turns_121 : decode cX12_turns 121 = .ok (.iload_n 1, 1) := dq_get (L := lzddX12_turns_115) 2 rfl zddX12_turns_115 rfl
theorem dX12_turns_122 : decode cX12_turns 122 = .ok (.iaload, 1) := dq_get (L := lzddX12_turns_115) 3 rfl zddX12_turns_115 rfl
theorem dX12_turns_123 : decode cX12_turns 123 = .ok (.if_icmp .ge 20, 3) := dq_get (L := lzddX12_turns_115) 4 rfl zddX12_turns_115 rfl
theorem dX12_turns_126 : decode cX12_turns 126 = .ok (.aload_n 0, 1) := dq_get (L := lzddX12_turns_115) 5 rfl zddX12_turns_115 rfl
theorem dX12_turns_127 : decode cX12_turns 127 = .ok (.getfield 49, 3) := dq_get (L := lzddX12_turns_115) 6 rfl zddX12_turns_115 rfl
theorem dX12_turns_130 : decode cX12_turns 130 = .ok (.iload_n 1, 1) := dq_get (L := lzddX12_turns_115) 7 rfl zddX12_turns_115 rfl
theorem dX12_turns_131 : decode cX12_turns 131 = .ok (.iload_n 2, 1) := dq_get (L := lzddX12_turns_115) 8 rfl zddX12_turns_115 rfl
theorem dX12_turns_132 : decode cX12_turns 132 = .ok (.aload_n 0, 1) := dq_get (L := lzddX12_turns_115) 9 rfl zddX12_turns_115 rfl
theorem dX12_turns_133 : decode cX12_turns 133 = .ok (.getfield 385, 3) := dq_get (L := lzddX12_turns_115) 10 rfl zddX12_turns_115 rfl
theorem dX12_turns_136 : decode cX12_turns 136 = .ok (.getfield 344, 3) := dq_get (L := lzddX12_turns_115) 11 rfl zddX12_turns_115 rfl
theorem dX12_turns_139 : decode cX12_turns 139 = .ok (.iload_n 1, 1) := dq_get (L := lzddX12_turns_115) 12 rfl zddX12_turns_115 rfl
theorem dX12_turns_140 : decode cX12_turns 140 = .ok (.iaload, 1) := dq_get (L := lzddX12_turns_115) 13 rfl zddX12_turns_115 rfl
theorem dX12_turns_141 : decode cX12_turns 141 = .ok (.iadd, 1) := dq_get (L := lzddX12_turns_115) 14 rfl zddX12_turns_115 rfl
theorem dX12_turns_142 : decode cX12_turns 142 = .ok (.iastore, 1) := dq_get (L := lzddX12_turns_115) 15 rfl zddX12_turns_115 rfl
theorem dX12_turns_143 : decode cX12_turns 143 = .ok (.return_, 1) := dq_get (L := lzddX12_turns_115) 16 rfl zddX12_turns_115 rfl
def lzddX12_undo_0 : List (Nat × Instr × Nat) := [(0, .aload_n 0, 1), (1, .iconst 0, 1), (2, .putfield 70, 3), (5, .aload_n 0, 1), (6, .getfield 385, 3), (9, .ifnull 10, 3), (12, .aload_n 0, 1), (13, .getfield 387, 3), (16, .ifCond .ne 10, 3), (19, .aload_n 0, 1), (20, .bipush 6, 2), (22, .invokevirtual 507, 3), (25, .ireturn, 1), (26, .aload_n 0, 1), (27, .dup, 1), (28, .getfield 387, 3), (31, .iconst 1, 1), (32, .isub, 1), (33, .putfield 387, 3), (36, .iconst 0, 1)]
theorem zddX12_undo_0 : dqW lzddX12_undo_0 (cX12_undo.data.toList.drop 0) 0 = true := by decide +kernel
theorem dX12_undo_0 : decode cX12_undo 0 = .ok (.aload_n 0, 1) := dq_get (L := lzddX12_undo_0) 0 rfl zddX12_undo_0 rfl
theorem dX12_undo_1 : decode cX12_undo 1 = .ok (.iconst 0, 1) := dq_get (L := lzddX12_undo_0) 1 rfl zddX12_undo_0 rfl
theorem dX12_undo_2 : decode cX12_undo 2 = .ok (.putfield 70, 3) := dq_get (L := lzddX12_undo_0) 2 rfl zddX12_undo_0 rfl
theorem dX12_undo_5 : decode cX12_undo 5 = .ok (.aload_n 0, 1) := dq_get (L := lzddX12_undo_0) 3 rfl zddX12_undo_0 rfl
theorem dX12_undo_6 : decode cX12_undo 6 = .ok (.getfield 385, 3) := dq_get (L := lzddX12_undo_0) 4 rfl zddX12_undo_0 rfl
theorem dX12_undo_9 : decode cX12_undo 9 = .ok (.ifnull 10, 3) := dq_get (L := lzddX12_undo_0) 5 rfl zddX12_undo_0 rfl
theorem dX12_undo_12 : decode cX12_undo 12 = .ok (.aload_n 0, 1) := dq_get (L := lzddX12_undo_0) 6 rfl zddX12_undo_0 rfl
theorem dX12_undo_13 : decode cX12_undo 13 = .ok (.getfield 387, 3) := dq_get (L := lzddX12_undo_0) 7 rfl zddX12_undo_0 rfl
theorem dX12_undo_16 : decode cX12_undo 16 = .ok (.ifCond .ne 10, 3) := dq_get (L := lzddX12_undo_0) 8 rfl zddX12_undo_0 rfl
theorem dX12_undo_19 : decode cX12_undo 19 = .ok (.aload_n 0, 1) := dq_get (L := lzddX12_undo_0) 9 rfl zddX12_undo_0 rfl
theorem dX12_undo_20 : decode cX12_undo 20 = .ok (.bipush 6, 2) := dq_get (L := lzddX12_undo_0) 10 rfl zddX12_undo_0 rfl
theorem dX12_undo_22 : decode cX12_undo 22 = .ok (.invokevirtual 507, 3) := dq_get (L := lzddX12_undo_0) 11 rfl zddX12_undo_0 rfl
theorem dX12_undo_25 : decode cX12_undo 25 = .ok (.ireturn, 1) := dq_get (L := lzddX12_undo_0) 12 rfl zddX12_undo_0 rfl
theorem dX12_undo_26 : decode cX12_undo 26 = .ok (.aload_n 0, 1) := dq_get (L := lzddX12_undo_0) 13 rfl zddX12_undo_0 rfl
theorem dX12_undo_27 : decode cX12_undo 27 = .ok (.dup, 1) := dq_get (L := lzddX12_undo_0) 14 rfl zddX12_undo_0 rfl
theorem dX12_undo_28 : decode cX12_undo 28 = .ok (.getfield 387, 3) := dq_get (L := lzddX12_undo_0) 15 rfl zddX12_undo_0 rfl
theorem dX12_undo_31 : decode cX12_undo 31 = .ok (.iconst 1, 1) := dq_get (L := lzddX12_undo_0) 16 rfl zddX12_undo_0 rfl
theorem dX12_undo_32 : decode cX12_undo 32 = .ok (.isub, 1) := dq_get (L := lzddX12_undo_0) 17 rfl zddX12_undo_0 rfl
theorem dX12_undo_33 : decode cX12_undo 33 = .ok (.putfield 387, 3) := dq_get (L := lzddX12_undo_0) 18 rfl zddX12_undo_0 rfl
theorem dX12_undo_36 : decode cX12_undo 36 = .ok (.iconst 0, 1) := dq_get (L := lzddX12_undo_0) 19 rfl zddX12_undo_0 rfl
def lzddX12_undo_37 : List (Nat × Instr × Nat) := [(37, .istore_n 1, 1), (38, .iload_n 1, 1), (39, .bipush 15, 2), (41, .if_icmp .ge 29, 3), (44, .aload_n 0, 1), (45, .getfield 17, 3), (48, .iload_n 1, 1), (49, .aload_n 0, 1), (50, .getfield 21, 3), (53, .bipush 15, 2), (55, .aload_n 0, 1), (56, .getfield 387, 3), (59, .imul, 1), (60, .iload_n 1, 1), (61, .iadd, 1), (62, .iaload, 1), (63, .iastore, 1), (64, .iinc 1 1, 3), (67, .goto (-29), 3), (70, .aload_n 0, 1)]
theorem zddX12_undo_37 : dqW lzddX12_undo_37 (cX12_undo.data.toList.drop 37) 37 = true := by decide +kernel
theorem dX12_undo_37 : decode cX12_undo 37 = .ok (.istore_n 1, 1) := dq_get (L := lzddX12_undo_37) 0 rfl zddX12_undo_37 rfl
theorem dX12_undo_38 : decode cX12_undo 38 = .ok (.iload_n 1, 1) := dq_get (L := lzddX12_undo_37) 1 rfl zddX12_undo_37 rfl
theorem dX12_undo_39 : decode cX12_undo 39 = .ok (.bipush 15, 2) := dq_get (L := lzddX12_undo_37) 2 rfl zddX12_undo_37 rfl
theorem dX12_undo_41 : decode cX12_undo 41 = .ok (.if_icmp .ge 29, 3) := dq_get (L := lzddX12_undo_37) 3 rfl zddX12_undo_37 rfl
theorem dX12_undo_44 : decode cX12_undo 44 = .ok (.aload_n 0, 1) := dq_get (L := lzddX12_undo_37) 4 rfl zddX12_undo_37 rfl
theorem dX12_undo_45 : decode cX12_undo 45 = .ok (.getfield 17, 3) := dq_get (L := lzddX12_undo_37) 5 rfl zddX12_undo_37 rfl
theorem dX12_undo_48 : decode cX12_undo 48 = .ok (.iload_n 1, 1) := dq_get (L := lzddX12_undo_37) 6 rfl zddX12_undo_37 rfl
theorem dX12_undo_49 : decode cX12_undo 49 = .ok (.aload_n 0, 1) := dq_get (L := lzddX12_undo_37) 7 rfl zddX12_undo_37 rfl
theorem dX12_undo_50 : decode cX12_undo 50 = .ok (.getfield 21, 3) := dq_get (L := lzddX12_undo_37) 8 rfl zddX12_undo_37 rfl
theorem dX12_undo_53 : decode cX12_undo 53 = .ok (.bipush 15, 2) := dq_get (L := lzddX12_undo_37) 9 rfl zddX12_undo_37 rfl
theorem dX12_undo_55 : decode cX12_undo 55 = .ok (.aload_n 0, 1) := dq_get (L := lzddX12_undo_37) 10 rfl zddX12_undo_37 rfl
theorem dX12_undo_56 : decode cX12_undo 56 = .ok (.getfield 387, 3) := dq_get (L := lzddX12_undo_37) 11 rfl zddX12_undo_37 rfl
theorem dX12_undo_59 : decode cX12_undo 59 = .ok (.imul, 1) := dq_get (L := lzddX12_undo_37) 12 rfl zddX12_undo_37 rfl
theorem dX12_undo_60 : decode cX12_undo 60 = .ok (.iload_n 1, 1) := dq_get (L := lzddX12_undo_37) 13 rfl zddX12_undo_37 rfl
theorem dX12_undo_61 : decode cX12_undo 61 = .ok (.iadd, 1) := dq_get (L := lzddX12_undo_37) 14 rfl zddX12_undo_37 rfl
theorem dX12_undo_62 : decode cX12_undo 62 = .ok (.iaload, 1) := dq_get (L := lzddX12_undo_37) 15 rfl zddX12_undo_37 rfl
theorem dX12_undo_63 : decode cX12_undo 63 = .ok (.iastore, 1) := dq_get (L := lzddX12_undo_37) 16 rfl zddX12_undo_37 rfl
theorem dX12_undo_64 : decode cX12_undo 64 = .ok (.iinc 1 1, 3) := dq_get (L := lzddX12_undo_37) 17 rfl zddX12_undo_37 rfl
theorem dX12_undo_67 : decode cX12_undo 67 = .ok (.goto (-29), 3) := dq_get (L := lzddX12_undo_37) 18 rfl zddX12_undo_37 rfl
theorem dX12_undo_70 : decode cX12_undo 70 = .ok (.aload_n 0, 1) := dq_get (L := lzddX12_undo_37) 19 rfl zddX12_undo_37 rfl
def lzddX12_undo_71 : List (Nat × Instr × Nat) := [(71, .invokevirtual 513, 3), (74, .ireturn, 1)]
theorem zddX12_undo_71 : dqW lzddX12_undo_71 (cX12_undo.data.toList.drop 71) 71 = true := by decide +kernel
theorem dX12_undo_71 : decode cX12_undo 71 = .ok (.invokevirtual 513, 3) := dq_get (L := lzddX12_undo_71) 0 rfl zddX12_undo_71 rfl
theorem dX12_undo_74 : decode cX12_undo 74 = .ok (.ireturn, 1) := dq_get (L := lzddX12_undo_71) 1 rfl zddX12_undo_71 rfl
def lzddX12_up_0 : List (Nat × Instr × Nat) := [(0, .aload_n 0, 1), (1, .iconst 0, 1), (2, .putfield 70, 3), (5, .aload_n 0, 1), (6, .iload_n 1, 1), (7, .invokevirtual 461, 3), (10, .ifCond .ne 9, 3), (13, .aload_n 0, 1), (14, .iconst 1, 1), (15, .invokevirtual 76, 3), (18, .ireturn, 1), (19, .aload_n 0, 1), (20, .iload_n 2, 1), (21, .invokevirtual 443, 3), (24, .ifCond .ne 9, 3), (27, .aload_n 0, 1), (28, .iconst 2, 1), (29, .invokevirtual 76, 3), (32, .ireturn, 1), (33, .aload_n 0, 1)]
theorem zddX12_up_0 : dqW lzddX12_up_0 (cX12_up.data.toList.drop 0) 0 = true := by decide +kernel
theorem dX12_up_0 : decode cX12_up 0 = .ok (.aload_n 0, 1) := dq_get (L := lzddX12_up_0) 0 rfl zddX12_up_0 rfl
theorem dX12_up_1 : decode cX12_up 1 = .ok (.iconst 0, 1) := dq_get (L := lzddX12_up_0) 1 rfl zddX12_up_0 rfl
theorem dX12_up_2 : decode cX12_up 2 = .ok (.putfield 70, 3) := dq_get (L := lzddX12_up_0) 2 rfl zddX12_up_0 rfl
theorem dX12_up_5 : decode cX12_up 5 = .ok (.aload_n 0, 1) := dq_get (L := lzddX12_up_0) 3 rfl zddX12_up_0 rfl
theorem dX12_up_6 : decode cX12_up 6 = .ok (.iload_n 1, 1) := dq_get (L := lzddX12_up_0) 4 rfl zddX12_up_0 rfl
theorem dX12_up_7 : decode cX12_up 7 = .ok (.invokevirtual 461, 3) := dq_get (L := lzddX12_up_0) 5 rfl zddX12_up_0 rfl
theorem dX12_up_10 : decode cX12_up 10 = .ok (.ifCond .ne 9, 3) := dq_get (L := lzddX12_up_0) 6 rfl zddX12_up_0 rfl
theorem dX12_up_13 : decode cX12_up 13 = .ok (.aload_n 0, 1) := dq_get (L := lzddX12_up_0) 7 rfl zddX12_up_0 rfl
theorem dX12_up_14 : decode cX12_up 14 = .ok (.iconst 1, 1) := dq_get (L := lzddX12_up_0) 8 rfl zddX12_up_0 rfl
theorem dX12_up_15 : decode cX12_up 15 = .ok (.invokevirtual 76, 3) := dq_get (L := lzddX12_up_0) 9 rfl zddX12_up_0 rfl
theorem dX12_up_18 : decode cX12_up 18 = .ok (.ireturn, 1) := dq_get (L := lzddX12_up_0) 10 rfl zddX12_up_0 rfl
theorem dX12_up_19 : decode cX12_up 19 = .ok (.aload_n 0, 1) := dq_get (L := lzddX12_up_0) 11 rfl zddX12_up_0 rfl
theorem dX12_up_20 : decode cX12_up 20 = .ok (.iload_n 2, 1) := dq_get (L := lzddX12_up_0) 12 rfl zddX12_up_0 rfl
theorem dX12_up_21 : decode cX12_up 21 = .ok (.invokevirtual 443, 3) := dq_get (L := lzddX12_up_0) 13 rfl zddX12_up_0 rfl
theorem dX12_up_24 : decode cX12_up 24 = .ok (.ifCond .ne 9, 3) := dq_get (L := lzddX12_up_0) 14 rfl zddX12_up_0 rfl
theorem dX12_up_27 : decode cX12_up 27 = .ok (.aload_n 0, 1) := dq_get (L := lzddX12_up_0) 15 rfl zddX12_up_0 rfl
theorem dX12_up_28 : decode cX12_up 28 = .ok (.iconst 2, 1) := dq_get (L := lzddX12_up_0) 16 rfl zddX12_up_0 rfl
theorem dX12_up_29 : decode cX12_up 29 = .ok (.invokevirtual 76, 3) := dq_get (L := lzddX12_up_0) 17 rfl zddX12_up_0 rfl
theorem dX12_up_32 : decode cX12_up 32 = .ok (.ireturn, 1) := dq_get (L := lzddX12_up_0) 18 rfl zddX12_up_0 rfl
theorem dX12_up_33 : decode cX12_up 33 = .ok (.aload_n 0, 1) := dq_get (L := lzddX12_up_0) 19 rfl zddX12_up_0 rfl
def lzddX12_up_34 : List (Nat × Instr × Nat) := [(34, .invokevirtual 455, 3), (37, .pop, 1), (38, .aload_n 0, 1), (39, .aload_n 0, 1), (40, .getfield 64, 3), (43, .sipush 240, 3), (46, .iload_n 1, 1), (47, .imul, 1), (48, .iload_n 2, 1), (49, .iadd, 1), (50, .baload, 1), (51, .ifCond .eq 7, 3), (54, .iconst 1, 1), (55, .goto 4, 3), (58, .iconst 0, 1), (59, .invokevirtual 81, 3), (62, .ireturn, 1)]
theorem zddX12_up_34 : dqW lzddX12_up_34 (cX12_up.data.toList.drop 34) 34 = true := by decide +kernel
theorem dX12_up_34 : decode cX12_up 34 = .ok (.invokevirtual 455, 3) := dq_get (L := lzddX12_up_34) 0 rfl zddX12_up_34 rfl
theorem dX12_up_37 : decode cX12_up 37 = .ok (.pop, 1) := dq_get (L := lzddX12_up_34) 1 rfl zddX12_up_34 rfl
theorem dX12_up_38 : decode cX12_up 38 = .ok (.aload_n 0, 1) := dq_get (L := lzddX12_up_34) 2 rfl zddX12_up_34 rfl
theorem dX12_up_39 : decode cX12_up 39 = .ok (.aload_n 0, 1) := dq_get (L := lzddX12_up_34) 3 rfl zddX12_up_34 rfl
theorem dX12_up_40 : decode cX12_up 40 = .ok (.getfield 64, 3) := dq_get (L := lzddX12_up_34) 4 rfl zddX12_up_34 rfl
theorem dX12_up_43 : decode cX12_up 43 = .ok (.sipush 240, 3) := dq_get (L := lzddX12_up_34) 5 rfl zddX12_up_34 rfl
theorem dX12_up_46 : decode cX12_up 46 = .ok (.iload_n 1, 1) := dq_get (L := lzddX12_up_34) 6 rfl zddX12_up_34 rfl
theorem dX12_up_47 : decode cX12_up 47 = .ok (.imul, 1) := dq_get (L := lzddX12_up_34) 7 rfl zddX12_up_34 rfl
theorem dX12_up_48 : decode cX12_up 48 = .ok (.iload_n 2, 1) := dq_get (L := lzddX12_up_34) 8 rfl zddX12_up_34 rfl
theorem dX12_up_49 : decode cX12_up 49 = .ok (.iadd, 1) := dq_get (L := lzddX12_up_34) 9 rfl zddX12_up_34 rfl
theorem dX12_up_50 : decode cX12_up 50 = .ok (.baload, 1) := dq_get (L := lzddX12_up_34) 10 rfl zddX12_up_34 rfl
theorem dX12_up_51 : decode cX12_up 51 = .ok (.ifCond .eq 7, 3) := dq_get (L := lzddX12_up_34) 11 rfl zddX12_up_34 rfl
theorem dX12_up_54 : decode cX12_up 54 = .ok (.iconst 1, 1) := dq_get (L := lzddX12_up_34) 12 rfl zddX12_up_34 rfl
theorem dX12_up_55 : decode cX12_up 55 = .ok (.goto 4, 3) := dq_get (L := lzddX12_up_34) 13 rfl zddX12_up_34 rfl
theorem dX12_up_58 : decode cX12_up 58 = .ok (.iconst 0, 1) := dq_get (L := lzddX12_up_34) 14 rfl zddX12_up_34 rfl
theorem dX12_up_59 : decode cX12_up 59 = .ok (.invokevirtual 81, 3) := dq_get (L := lzddX12_up_34) 15 rfl zddX12_up_34 rfl
theorem dX12_up_62 : decode cX12_up 62 = .ok (.ireturn, 1) := dq_get (L := lzddX12_up_34) 16 rfl zddX12_up_34 rfl
def lzddX12_vein_0 : List (Nat × Instr × Nat) := [(0, .aload_n 0, 1), (1, .iconst 0, 1), (2, .putfield 70, 3), (5, .aload_n 0, 1), (6, .iload_n 1, 1), (7, .invokevirtual 461, 3), (10, .ifCond .ne 9, 3), (13, .aload_n 0, 1), (14, .iconst 1, 1), (15, .invokevirtual 76, 3), (18, .ireturn, 1), (19, .aload_n 0, 1), (20, .invokevirtual 455, 3), (23, .pop, 1), (24, .aload_n 0, 1), (25, .iload_n 1, 1), (26, .iload_n 2, 1), (27, .invokevirtual 464, 3), (30, .istore_n 3, 1), (31, .iload_n 3, 1)]
theorem zddX12_vein_0 : dqW lzddX12_vein_0 (cX12_vein.data.toList.drop 0) 0 = true := by decide +kernel
theorem dX12_vein_0 : decode cX12_vein 0 = .ok (.aload_n 0, 1) := dq_get (L := lzddX12_vein_0) 0 rfl zddX12_vein_0 rfl
theorem dX12_vein_1 : decode cX12_vein 1 = .ok (.iconst 0, 1) := dq_get (L := lzddX12_vein_0) 1 rfl zddX12_vein_0 rfl
theorem dX12_vein_2 : decode cX12_vein 2 = .ok (.putfield 70, 3) := dq_get (L := lzddX12_vein_0) 2 rfl zddX12_vein_0 rfl
theorem dX12_vein_5 : decode cX12_vein 5 = .ok (.aload_n 0, 1) := dq_get (L := lzddX12_vein_0) 3 rfl zddX12_vein_0 rfl
theorem dX12_vein_6 : decode cX12_vein 6 = .ok (.iload_n 1, 1) := dq_get (L := lzddX12_vein_0) 4 rfl zddX12_vein_0 rfl
theorem dX12_vein_7 : decode cX12_vein 7 = .ok (.invokevirtual 461, 3) := dq_get (L := lzddX12_vein_0) 5 rfl zddX12_vein_0 rfl
theorem dX12_vein_10 : decode cX12_vein 10 = .ok (.ifCond .ne 9, 3) := dq_get (L := lzddX12_vein_0) 6 rfl zddX12_vein_0 rfl
theorem dX12_vein_13 : decode cX12_vein 13 = .ok (.aload_n 0, 1) := dq_get (L := lzddX12_vein_0) 7 rfl zddX12_vein_0 rfl
theorem dX12_vein_14 : decode cX12_vein 14 = .ok (.iconst 1, 1) := dq_get (L := lzddX12_vein_0) 8 rfl zddX12_vein_0 rfl
theorem dX12_vein_15 : decode cX12_vein 15 = .ok (.invokevirtual 76, 3) := dq_get (L := lzddX12_vein_0) 9 rfl zddX12_vein_0 rfl
theorem dX12_vein_18 : decode cX12_vein 18 = .ok (.ireturn, 1) := dq_get (L := lzddX12_vein_0) 10 rfl zddX12_vein_0 rfl
theorem dX12_vein_19 : decode cX12_vein 19 = .ok (.aload_n 0, 1) := dq_get (L := lzddX12_vein_0) 11 rfl zddX12_vein_0 rfl
theorem dX12_vein_20 : decode cX12_vein 20 = .ok (.invokevirtual 455, 3) := dq_get (L := lzddX12_vein_0) 12 rfl zddX12_vein_0 rfl
theorem dX12_vein_23 : decode cX12_vein 23 = .ok (.pop, 1) := dq_get (L := lzddX12_vein_0) 13 rfl zddX12_vein_0 rfl
theorem dX12_vein_24 : decode cX12_vein 24 = .ok (.aload_n 0, 1) := dq_get (L := lzddX12_vein_0) 14 rfl zddX12_vein_0 rfl
theorem dX12_vein_25 : decode cX12_vein 25 = .ok (.iload_n 1, 1) := dq_get (L := lzddX12_vein_0) 15 rfl zddX12_vein_0 rfl
theorem dX12_vein_26 : decode cX12_vein 26 = .ok (.iload_n 2, 1) := dq_get (L := lzddX12_vein_0) 16 rfl zddX12_vein_0 rfl
theorem dX12_vein_27 : decode cX12_vein 27 = .ok (.invokevirtual 464, 3) := dq_get (L := lzddX12_vein_0) 17 rfl zddX12_vein_0 rfl
theorem dX12_vein_30 : decode cX12_vein 30 = .ok (.istore_n 3, 1) := dq_get (L := lzddX12_vein_0) 18 rfl zddX12_vein_0 rfl
theorem dX12_vein_31 : decode cX12_vein 31 = .ok (.iload_n 3, 1) := dq_get (L := lzddX12_vein_0) 19 rfl zddX12_vein_0 rfl
def lzddX12_vein_32 : List (Nat × Instr × Nat) := [(32, .iconst (-1), 1), (33, .if_icmp .ne 11, 3), (36, .aload_n 0, 1), (37, .iconst 1, 1), (38, .invokevirtual 76, 3), (41, .goto 8, 3), (44, .aload_n 0, 1), (45, .iload_n 3, 1), (46, .invokevirtual 81, 3), (49, .ireturn, 1)]
theorem zddX12_vein_32 : dqW lzddX12_vein_32 (cX12_vein.data.toList.drop 32) 32 = true := by decide +kernel
theorem dX12_vein_32 : decode cX12_vein 32 = .ok (.iconst (-1), 1) := dq_get (L := lzddX12_vein_32) 0 rfl zddX12_vein_32 rfl
theorem dX12_vein_33 : decode cX12_vein 33 = .ok (.if_icmp .ne 11, 3) := dq_get (L := lzddX12_vein_32) 1 rfl zddX12_vein_32 rfl
theorem dX12_vein_36 : decode cX12_vein 36 = .ok (.aload_n 0, 1) := dq_get (L := lzddX12_vein_32) 2 rfl zddX12_vein_32 rfl
theorem dX12_vein_37 : decode cX12_vein 37 = .ok (.iconst 1, 1) := dq_get (L := lzddX12_vein_32) 3 rfl zddX12_vein_32 rfl
theorem dX12_vein_38 : decode cX12_vein 38 = .ok (.invokevirtual 76, 3) := dq_get (L := lzddX12_vein_32) 4 rfl zddX12_vein_32 rfl
theorem dX12_vein_41 : decode cX12_vein 41 = .ok (.goto 8, 3) := dq_get (L := lzddX12_vein_32) 5 rfl zddX12_vein_32 rfl
theorem dX12_vein_44 : decode cX12_vein 44 = .ok (.aload_n 0, 1) := dq_get (L := lzddX12_vein_32) 6 rfl zddX12_vein_32 rfl
theorem dX12_vein_45 : decode cX12_vein 45 = .ok (.iload_n 3, 1) := dq_get (L := lzddX12_vein_32) 7 rfl zddX12_vein_32 rfl
theorem dX12_vein_46 : decode cX12_vein 46 = .ok (.invokevirtual 81, 3) := dq_get (L := lzddX12_vein_32) 8 rfl zddX12_vein_32 rfl
theorem dX12_vein_49 : decode cX12_vein 49 = .ok (.ireturn, 1) := dq_get (L := lzddX12_vein_32) 9 rfl zddX12_vein_32 rfl
def lzddX12_veinAt_0 : List (Nat × Instr × Nat) := [(0, .iconst 0, 1), (1, .istore_n 3, 1), (2, .iconst 0, 1), (3, .istore 4, 2), (5, .iload 4, 2), (7, .aload_n 0, 1), (8, .getfield 385, 3), (11, .getfield 192, 3), (14, .if_icmp .ge 41, 3), (17, .aload_n 0, 1), (18, .getfield 46, 3), (21, .sipush 240, 3), (24, .iload_n 1, 1), (25, .imul, 1), (26, .iload 4, 2), (28, .iadd, 1), (29, .iaload, 1), (30, .bipush (-2), 2), (32, .if_icmp .ne 6, 3), (35, .goto 14, 3)]
theorem zddX12_veinAt_0 : dqW lzddX12_veinAt_0 (cX12_veinAt.data.toList.drop 0) 0 = true := by decide +kernel
theorem dX12_veinAt_0 : decode cX12_veinAt 0 = .ok (.iconst 0, 1) := dq_get (L := lzddX12_veinAt_0) 0 rfl zddX12_veinAt_0 rfl
theorem dX12_veinAt_1 : decode cX12_veinAt 1 = .ok (.istore_n 3, 1) := dq_get (L := lzddX12_veinAt_0) 1 rfl zddX12_veinAt_0 rfl
theorem dX12_veinAt_2 : decode cX12_veinAt 2 = .ok (.iconst 0, 1) := dq_get (L := lzddX12_veinAt_0) 2 rfl zddX12_veinAt_0 rfl
theorem dX12_veinAt_3 : decode cX12_veinAt 3 = .ok (.istore 4, 2) := dq_get (L := lzddX12_veinAt_0) 3 rfl zddX12_veinAt_0 rfl
theorem dX12_veinAt_5 : decode cX12_veinAt 5 = .ok (.iload 4, 2) := dq_get (L := lzddX12_veinAt_0) 4 rfl zddX12_veinAt_0 rfl
theorem dX12_veinAt_7 : decode cX12_veinAt 7 = .ok (.aload_n 0, 1) := dq_get (L := lzddX12_veinAt_0) 5 rfl zddX12_veinAt_0 rfl
theorem dX12_veinAt_8 : decode cX12_veinAt 8 = .ok (.getfield 385, 3) := dq_get (L := lzddX12_veinAt_0) 6 rfl zddX12_veinAt_0 rfl
theorem dX12_veinAt_11 : decode cX12_veinAt 11 = .ok (.getfield 192, 3) := dq_get (L := lzddX12_veinAt_0) 7 rfl zddX12_veinAt_0 rfl
theorem dX12_veinAt_14 : decode cX12_veinAt 14 = .ok (.if_icmp .ge 41, 3) := dq_get (L := lzddX12_veinAt_0) 8 rfl zddX12_veinAt_0 rfl
theorem dX12_veinAt_17 : decode cX12_veinAt 17 = .ok (.aload_n 0, 1) := dq_get (L := lzddX12_veinAt_0) 9 rfl zddX12_veinAt_0 rfl
theorem dX12_veinAt_18 : decode cX12_veinAt 18 = .ok (.getfield 46, 3) := dq_get (L := lzddX12_veinAt_0) 10 rfl zddX12_veinAt_0 rfl
theorem dX12_veinAt_21 : decode cX12_veinAt 21 = .ok (.sipush 240, 3) := dq_get (L := lzddX12_veinAt_0) 11 rfl zddX12_veinAt_0 rfl
theorem dX12_veinAt_24 : decode cX12_veinAt 24 = .ok (.iload_n 1, 1) := dq_get (L := lzddX12_veinAt_0) 12 rfl zddX12_veinAt_0 rfl
theorem dX12_veinAt_25 : decode cX12_veinAt 25 = .ok (.imul, 1) := dq_get (L := lzddX12_veinAt_0) 13 rfl zddX12_veinAt_0 rfl
theorem dX12_veinAt_26 : decode cX12_veinAt 26 = .ok (.iload 4, 2) := dq_get (L := lzddX12_veinAt_0) 14 rfl zddX12_veinAt_0 rfl
theorem dX12_veinAt_28 : decode cX12_veinAt 28 = .ok (.iadd, 1) := dq_get (L := lzddX12_veinAt_0) 15 rfl zddX12_veinAt_0 rfl
theorem dX12_veinAt_29 : decode cX12_veinAt 29 = .ok (.iaload, 1) := dq_get (L := lzddX12_veinAt_0) 16 rfl zddX12_veinAt_0 rfl
theorem dX12_veinAt_30 : decode cX12_veinAt 30 = .ok (.bipush (-2), 2) := dq_get (L := lzddX12_veinAt_0) 17 rfl zddX12_veinAt_0 rfl
theorem dX12_veinAt_32 : decode cX12_veinAt 32 = .ok (.if_icmp .ne 6, 3) := dq_get (L := lzddX12_veinAt_0) 18 rfl zddX12_veinAt_0 rfl
theorem dX12_veinAt_35 : decode cX12_veinAt 35 = .ok (.goto 14, 3) := dq_get (L := lzddX12_veinAt_0) 19 rfl zddX12_veinAt_0 rfl
def lzddX12_veinAt_38 : List (Nat × Instr × Nat) := [(38, .iload_n 3, 1), (39, .iload_n 2, 1), (40, .if_icmp .ne 6, 3), (43, .iload 4, 2), (45, .ireturn, 1), (46, .iinc 3 1, 3), (49, .iinc 4 1, 3), (52, .goto (-47), 3), (55, .iconst (-1), 1), (56, .ireturn, 1)]
theorem zddX12_veinAt_38 : dqW lzddX12_veinAt_38 (cX12_veinAt.data.toList.drop 38) 38 = true := by decide +kernel
theorem dX12_veinAt_38 : decode cX12_veinAt 38 = .ok (.iload_n 3, 1) := dq_get (L := lzddX12_veinAt_38) 0 rfl zddX12_veinAt_38 rfl
theorem dX12_veinAt_39 : decode cX12_veinAt 39 = .ok (.iload_n 2, 1) := dq_get (L := lzddX12_veinAt_38) 1 rfl zddX12_veinAt_38 rfl
theorem dX12_veinAt_40 : decode cX12_veinAt 40 = .ok (.if_icmp .ne 6, 3) := dq_get (L := lzddX12_veinAt_38) 2 rfl zddX12_veinAt_38 rfl
theorem dX12_veinAt_43 : decode cX12_veinAt 43 = .ok (.iload 4, 2) := dq_get (L := lzddX12_veinAt_38) 3 rfl zddX12_veinAt_38 rfl
theorem dX12_veinAt_45 : decode cX12_veinAt 45 = .ok (.ireturn, 1) := dq_get (L := lzddX12_veinAt_38) 4 rfl zddX12_veinAt_38 rfl
theorem dX12_veinAt_46 : decode cX12_veinAt 46 = .ok (.iinc 3 1, 3) := dq_get (L := lzddX12_veinAt_38) 5 rfl zddX12_veinAt_38 rfl
theorem dX12_veinAt_49 : decode cX12_veinAt 49 = .ok (.iinc 4 1, 3) := dq_get (L := lzddX12_veinAt_38) 6 rfl zddX12_veinAt_38 rfl
theorem dX12_veinAt_52 : decode cX12_veinAt 52 = .ok (.goto (-47), 3) := dq_get (L := lzddX12_veinAt_38) 7 rfl zddX12_veinAt_38 rfl
theorem dX12_veinAt_55 : decode cX12_veinAt 55 = .ok (.iconst (-1), 1) := dq_get (L := lzddX12_veinAt_38) 8 rfl zddX12_veinAt_38 rfl
theorem dX12_veinAt_56 : decode cX12_veinAt 56 = .ok (.ireturn, 1) := dq_get (L := lzddX12_veinAt_38) 9 rfl zddX12_veinAt_38 rfl
def lzddX12_wake_0 : List (Nat × Instr × Nat) := [(0, .aload_n 0, 1), (1, .iconst 0, 1), (2, .putfield 70, 3), (5, .aload_n 0, 1), (6, .getfield 385, 3), (9, .ifnonnull 11, 3), (12, .aload_n 0, 1), (13, .iconst 1, 1), (14, .invokevirtual 76, 3), (17, .goto 11, 3), (20, .aload_n 0, 1), (21, .aload_n 0, 1), (22, .invokevirtual 476, 3), (25, .invokevirtual 81, 3), (28, .ireturn, 1)]
theorem zddX12_wake_0 : dqW lzddX12_wake_0 (cX12_wake.data.toList.drop 0) 0 = true := by decide +kernel
theorem dX12_wake_0 : decode cX12_wake 0 = .ok (.aload_n 0, 1) := dq_get (L := lzddX12_wake_0) 0 rfl zddX12_wake_0 rfl
theorem dX12_wake_1 : decode cX12_wake 1 = .ok (.iconst 0, 1) := dq_get (L := lzddX12_wake_0) 1 rfl zddX12_wake_0 rfl
theorem dX12_wake_2 : decode cX12_wake 2 = .ok (.putfield 70, 3) := dq_get (L := lzddX12_wake_0) 2 rfl zddX12_wake_0 rfl
theorem dX12_wake_5 : decode cX12_wake 5 = .ok (.aload_n 0, 1) := dq_get (L := lzddX12_wake_0) 3 rfl zddX12_wake_0 rfl
theorem dX12_wake_6 : decode cX12_wake 6 = .ok (.getfield 385, 3) := dq_get (L := lzddX12_wake_0) 4 rfl zddX12_wake_0 rfl
theorem dX12_wake_9 : decode cX12_wake 9 = .ok (.ifnonnull 11, 3) := dq_get (L := lzddX12_wake_0) 5 rfl zddX12_wake_0 rfl
theorem dX12_wake_12 : decode cX12_wake 12 = .ok (.aload_n 0, 1) := dq_get (L := lzddX12_wake_0) 6 rfl zddX12_wake_0 rfl
theorem dX12_wake_13 : decode cX12_wake 13 = .ok (.iconst 1, 1) := dq_get (L := lzddX12_wake_0) 7 rfl zddX12_wake_0 rfl
theorem dX12_wake_14 : decode cX12_wake 14 = .ok (.invokevirtual 76, 3) := dq_get (L := lzddX12_wake_0) 8 rfl zddX12_wake_0 rfl
theorem dX12_wake_17 : decode cX12_wake 17 = .ok (.goto 11, 3) := dq_get (L := lzddX12_wake_0) 9 rfl zddX12_wake_0 rfl
theorem dX12_wake_20 : decode cX12_wake 20 = .ok (.aload_n 0, 1) := dq_get (L := lzddX12_wake_0) 10 rfl zddX12_wake_0 rfl
theorem dX12_wake_21 : decode cX12_wake 21 = .ok (.aload_n 0, 1) := dq_get (L := lzddX12_wake_0) 11 rfl zddX12_wake_0 rfl
theorem dX12_wake_22 : decode cX12_wake 22 = .ok (.invokevirtual 476, 3) := dq_get (L := lzddX12_wake_0) 12 rfl zddX12_wake_0 rfl
theorem dX12_wake_25 : decode cX12_wake 25 = .ok (.invokevirtual 81, 3) := dq_get (L := lzddX12_wake_0) 13 rfl zddX12_wake_0 rfl
theorem dX12_wake_28 : decode cX12_wake 28 = .ok (.ireturn, 1) := dq_get (L := lzddX12_wake_0) 14 rfl zddX12_wake_0 rfl
def lzddX12_wakeNow_0 : List (Nat × Instr × Nat) := [(0, .aload_n 0, 1), (1, .iconst (-1), 1), (2, .invokevirtual 434, 3), (5, .iconst (-1), 1), (6, .istore_n 1, 1), (7, .iconst 0, 1), (8, .istore_n 2, 1), (9, .iload_n 2, 1), (10, .iconst 1, 1), (11, .aload_n 0, 1), (12, .getfield 385, 3), (15, .getfield 349, 3), (18, .ishl, 1), (19, .if_icmp .ge 61, 3), (22, .aload_n 0, 1), (23, .aload_n 0, 1), (24, .invokevirtual 437, 3), (27, .iload_n 2, 1), (28, .invokevirtual 440, 3), (31, .istore_n 3, 1)]
theorem zddX12_wakeNow_0 : dqW lzddX12_wakeNow_0 (cX12_wakeNow.data.toList.drop 0) 0 = true := by decide +kernel
theorem dX12_wakeNow_0 : decode cX12_wakeNow 0 = .ok (.aload_n 0, 1) := dq_get (L := lzddX12_wakeNow_0) 0 rfl zddX12_wakeNow_0 rfl
theorem dX12_wakeNow_1 : decode cX12_wakeNow 1 = .ok (.iconst (-1), 1) := dq_get (L := lzddX12_wakeNow_0) 1 rfl zddX12_wakeNow_0 rfl
theorem dX12_wakeNow_2 : decode cX12_wakeNow 2 = .ok (.invokevirtual 434, 3) := dq_get (L := lzddX12_wakeNow_0) 2 rfl zddX12_wakeNow_0 rfl
theorem dX12_wakeNow_5 : decode cX12_wakeNow 5 = .ok (.iconst (-1), 1) := dq_get (L := lzddX12_wakeNow_0) 3 rfl zddX12_wakeNow_0 rfl
theorem dX12_wakeNow_6 : decode cX12_wakeNow 6 = .ok (.istore_n 1, 1) := dq_get (L := lzddX12_wakeNow_0) 4 rfl zddX12_wakeNow_0 rfl
theorem dX12_wakeNow_7 : decode cX12_wakeNow 7 = .ok (.iconst 0, 1) := dq_get (L := lzddX12_wakeNow_0) 5 rfl zddX12_wakeNow_0 rfl
theorem dX12_wakeNow_8 : decode cX12_wakeNow 8 = .ok (.istore_n 2, 1) := dq_get (L := lzddX12_wakeNow_0) 6 rfl zddX12_wakeNow_0 rfl
theorem dX12_wakeNow_9 : decode cX12_wakeNow 9 = .ok (.iload_n 2, 1) := dq_get (L := lzddX12_wakeNow_0) 7 rfl zddX12_wakeNow_0 rfl
theorem dX12_wakeNow_10 : decode cX12_wakeNow 10 = .ok (.iconst 1, 1) := dq_get (L := lzddX12_wakeNow_0) 8 rfl zddX12_wakeNow_0 rfl
theorem dX12_wakeNow_11 : decode cX12_wakeNow 11 = .ok (.aload_n 0, 1) := dq_get (L := lzddX12_wakeNow_0) 9 rfl zddX12_wakeNow_0 rfl
theorem dX12_wakeNow_12 : decode cX12_wakeNow 12 = .ok (.getfield 385, 3) := dq_get (L := lzddX12_wakeNow_0) 10 rfl zddX12_wakeNow_0 rfl
theorem dX12_wakeNow_15 : decode cX12_wakeNow 15 = .ok (.getfield 349, 3) := dq_get (L := lzddX12_wakeNow_0) 11 rfl zddX12_wakeNow_0 rfl
theorem dX12_wakeNow_18 : decode cX12_wakeNow 18 = .ok (.ishl, 1) := dq_get (L := lzddX12_wakeNow_0) 12 rfl zddX12_wakeNow_0 rfl
theorem dX12_wakeNow_19 : decode cX12_wakeNow 19 = .ok (.if_icmp .ge 61, 3) := dq_get (L := lzddX12_wakeNow_0) 13 rfl zddX12_wakeNow_0 rfl
theorem dX12_wakeNow_22 : decode cX12_wakeNow 22 = .ok (.aload_n 0, 1) := dq_get (L := lzddX12_wakeNow_0) 14 rfl zddX12_wakeNow_0 rfl
theorem dX12_wakeNow_23 : decode cX12_wakeNow 23 = .ok (.aload_n 0, 1) := dq_get (L := lzddX12_wakeNow_0) 15 rfl zddX12_wakeNow_0 rfl
theorem dX12_wakeNow_24 : decode cX12_wakeNow 24 = .ok (.invokevirtual 437, 3) := dq_get (L := lzddX12_wakeNow_0) 16 rfl zddX12_wakeNow_0 rfl
theorem dX12_wakeNow_27 : decode cX12_wakeNow 27 = .ok (.iload_n 2, 1) := dq_get (L := lzddX12_wakeNow_0) 17 rfl zddX12_wakeNow_0 rfl
theorem dX12_wakeNow_28 : decode cX12_wakeNow 28 = .ok (.invokevirtual 440, 3) := dq_get (L := lzddX12_wakeNow_0) 18 rfl zddX12_wakeNow_0 rfl
theorem dX12_wakeNow_31 : decode cX12_wakeNow 31 = .ok (.istore_n 3, 1) := dq_get (L := lzddX12_wakeNow_0) 19 rfl zddX12_wakeNow_0 rfl
def lzddX12_wakeNow_32 : List (Nat × Instr × Nat) := [(32, .iload_n 1, 1), (33, .iconst (-1), 1), (34, .if_icmp .eq 33, 3), (37, .iload_n 3, 1), (38, .aload_n 0, 1), (39, .getfield 470, 3), (42, .if_icmp .lt 32, 3), (45, .iload_n 3, 1), (46, .aload_n 0, 1), (47, .getfield 470, 3), (50, .if_icmp .ne 17, 3), (53, .iload_n 2, 1), (54, .invokestatic 473, 3), (57, .iload_n 1, 1), (58, .invokestatic 473, 3), (61, .if_icmp .lt 6, 3), (64, .goto 10, 3), (67, .iload_n 2, 1), (68, .istore_n 1, 1), (69, .aload_n 0, 1)]
theorem zddX12_wakeNow_32 : dqW lzddX12_wakeNow_32 (cX12_wakeNow.data.toList.drop 32) 32 = true := by decide +kernel
theorem dX12_wakeNow_32 : decode cX12_wakeNow 32 = .ok (.iload_n 1, 1) := dq_get (L := lzddX12_wakeNow_32) 0 rfl zddX12_wakeNow_32 rfl
theorem dX12_wakeNow_33 : decode cX12_wakeNow 33 = .ok (.iconst (-1), 1) := dq_get (L := lzddX12_wakeNow_32) 1 rfl zddX12_wakeNow_32 rfl
theorem dX12_wakeNow_34 : decode cX12_wakeNow 34 = .ok (.if_icmp .eq 33, 3) := dq_get (L := lzddX12_wakeNow_32) 2 rfl zddX12_wakeNow_32 rfl
theorem dX12_wakeNow_37 : decode cX12_wakeNow 37 = .ok (.iload_n 3, 1) := dq_get (L := lzddX12_wakeNow_32) 3 rfl zddX12_wakeNow_32 rfl
theorem dX12_wakeNow_38 : decode cX12_wakeNow 38 = .ok (.aload_n 0, 1) := dq_get (L := lzddX12_wakeNow_32) 4 rfl zddX12_wakeNow_32 rfl
theorem dX12_wakeNow_39 : decode cX12_wakeNow 39 = .ok (.getfield 470, 3) := dq_get (L := lzddX12_wakeNow_32) 5 rfl zddX12_wakeNow_32 rfl
theorem dX12_wakeNow_42 : decode cX12_wakeNow 42 = .ok (.if_icmp .lt 32, 3) := dq_get (L := lzddX12_wakeNow_32) 6 rfl zddX12_wakeNow_32 rfl
theorem dX12_wakeNow_45 : decode cX12_wakeNow 45 = .ok (.iload_n 3, 1) := dq_get (L := lzddX12_wakeNow_32) 7 rfl zddX12_wakeNow_32 rfl
theorem dX12_wakeNow_46 : decode cX12_wakeNow 46 = .ok (.aload_n 0, 1) := dq_get (L := lzddX12_wakeNow_32) 8 rfl zddX12_wakeNow_32 rfl
theorem dX12_wakeNow_47 : decode cX12_wakeNow 47 = .ok (.getfield 470, 3) := dq_get (L := lzddX12_wakeNow_32) 9 rfl zddX12_wakeNow_32 rfl
theorem dX12_wakeNow_50 : decode cX12_wakeNow 50 = .ok (.if_icmp .ne 17, 3) := dq_get (L := lzddX12_wakeNow_32) 10 rfl zddX12_wakeNow_32 rfl
theorem dX12_wakeNow_53 : decode cX12_wakeNow 53 = .ok (.iload_n 2, 1) := dq_get (L := lzddX12_wakeNow_32) 11 rfl zddX12_wakeNow_32 rfl
theorem dX12_wakeNow_54 : decode cX12_wakeNow 54 = .ok (.invokestatic 473, 3) := dq_get (L := lzddX12_wakeNow_32) 12 rfl zddX12_wakeNow_32 rfl
theorem dX12_wakeNow_57 : decode cX12_wakeNow 57 = .ok (.iload_n 1, 1) := dq_get (L := lzddX12_wakeNow_32) 13 rfl zddX12_wakeNow_32 rfl
theorem dX12_wakeNow_58 : decode cX12_wakeNow 58 = .ok (.invokestatic 473, 3) := dq_get (L := lzddX12_wakeNow_32) 14 rfl zddX12_wakeNow_32 rfl
theorem dX12_wakeNow_61 : decode cX12_wakeNow 61 = .ok (.if_icmp .lt 6, 3) := dq_get (L := lzddX12_wakeNow_32) 15 rfl zddX12_wakeNow_32 rfl
theorem dX12_wakeNow_64 : decode cX12_wakeNow 64 = .ok (.goto 10, 3) := dq_get (L := lzddX12_wakeNow_32) 16 rfl zddX12_wakeNow_32 rfl
theorem dX12_wakeNow_67 : decode cX12_wakeNow 67 = .ok (.iload_n 2, 1) := dq_get (L := lzddX12_wakeNow_32) 17 rfl zddX12_wakeNow_32 rfl
theorem dX12_wakeNow_68 : decode cX12_wakeNow 68 = .ok (.istore_n 1, 1) := dq_get (L := lzddX12_wakeNow_32) 18 rfl zddX12_wakeNow_32 rfl
theorem dX12_wakeNow_69 : decode cX12_wakeNow 69 = .ok (.aload_n 0, 1) := dq_get (L := lzddX12_wakeNow_32) 19 rfl zddX12_wakeNow_32 rfl
def lzddX12_wakeNow_70 : List (Nat × Instr × Nat) := [(70, .iload_n 3, 1), (71, .putfield 470, 3), (74, .iinc 2 1, 3), (77, .goto (-68), 3), (80, .iload_n 1, 1), (81, .ireturn, 1)]
theorem zddX12_wakeNow_70 : dqW lzddX12_wakeNow_70 (cX12_wakeNow.data.toList.drop 70) 70 = true := by decide +kernel
theorem dX12_wakeNow_70 : decode cX12_wakeNow 70 = .ok (.iload_n 3, 1) := dq_get (L := lzddX12_wakeNow_70) 0 rfl zddX12_wakeNow_70 rfl
theorem dX12_wakeNow_71 : decode cX12_wakeNow 71 = .ok (.putfield 470, 3) := dq_get (L := lzddX12_wakeNow_70) 1 rfl zddX12_wakeNow_70 rfl
theorem dX12_wakeNow_74 : decode cX12_wakeNow 74 = .ok (.iinc 2 1, 3) := dq_get (L := lzddX12_wakeNow_70) 2 rfl zddX12_wakeNow_70 rfl
theorem dX12_wakeNow_77 : decode cX12_wakeNow 77 = .ok (.goto (-68), 3) := dq_get (L := lzddX12_wakeNow_70) 3 rfl zddX12_wakeNow_70 rfl
theorem dX12_wakeNow_80 : decode cX12_wakeNow 80 = .ok (.iload_n 1, 1) := dq_get (L := lzddX12_wakeNow_70) 4 rfl zddX12_wakeNow_70 rfl
theorem dX12_wakeNow_81 : decode cX12_wakeNow 81 = .ok (.ireturn, 1) := dq_get (L := lzddX12_wakeNow_70) 5 rfl zddX12_wakeNow_70 rfl
def lzddX12_wakeTotal_0 : List (Nat × Instr × Nat) := [(0, .aload_n 0, 1), (1, .iconst 0, 1), (2, .putfield 70, 3), (5, .aload_n 0, 1), (6, .getfield 385, 3), (9, .ifnonnull 9, 3), (12, .aload_n 0, 1), (13, .iconst 1, 1), (14, .invokevirtual 458, 3), (17, .ireturn, 1), (18, .aload_n 0, 1), (19, .invokevirtual 476, 3), (22, .pop, 1), (23, .aload_n 0, 1), (24, .aload_n 0, 1), (25, .getfield 470, 3), (28, .invokevirtual 81, 3), (31, .ireturn, 1)]
theorem zddX12_wakeTotal_0 : dqW lzddX12_wakeTotal_0 (cX12_wakeTotal.data.toList.drop 0) 0 = true := by decide +kernel
theorem dX12_wakeTotal_0 : decode cX12_wakeTotal 0 = .ok (.aload_n 0, 1) := dq_get (L := lzddX12_wakeTotal_0) 0 rfl zddX12_wakeTotal_0 rfl
theorem dX12_wakeTotal_1 : decode cX12_wakeTotal 1 = .ok (.iconst 0, 1) := dq_get (L := lzddX12_wakeTotal_0) 1 rfl zddX12_wakeTotal_0 rfl
theorem dX12_wakeTotal_2 : decode cX12_wakeTotal 2 = .ok (.putfield 70, 3) := dq_get (L := lzddX12_wakeTotal_0) 2 rfl zddX12_wakeTotal_0 rfl
theorem dX12_wakeTotal_5 : decode cX12_wakeTotal 5 = .ok (.aload_n 0, 1) := dq_get (L := lzddX12_wakeTotal_0) 3 rfl zddX12_wakeTotal_0 rfl
theorem dX12_wakeTotal_6 : decode cX12_wakeTotal 6 = .ok (.getfield 385, 3) := dq_get (L := lzddX12_wakeTotal_0) 4 rfl zddX12_wakeTotal_0 rfl
theorem dX12_wakeTotal_9 : decode cX12_wakeTotal 9 = .ok (.ifnonnull 9, 3) := dq_get (L := lzddX12_wakeTotal_0) 5 rfl zddX12_wakeTotal_0 rfl
theorem dX12_wakeTotal_12 : decode cX12_wakeTotal 12 = .ok (.aload_n 0, 1) := dq_get (L := lzddX12_wakeTotal_0) 6 rfl zddX12_wakeTotal_0 rfl
theorem dX12_wakeTotal_13 : decode cX12_wakeTotal 13 = .ok (.iconst 1, 1) := dq_get (L := lzddX12_wakeTotal_0) 7 rfl zddX12_wakeTotal_0 rfl
theorem dX12_wakeTotal_14 : decode cX12_wakeTotal 14 = .ok (.invokevirtual 458, 3) := dq_get (L := lzddX12_wakeTotal_0) 8 rfl zddX12_wakeTotal_0 rfl
theorem dX12_wakeTotal_17 : decode cX12_wakeTotal 17 = .ok (.ireturn, 1) := dq_get (L := lzddX12_wakeTotal_0) 9 rfl zddX12_wakeTotal_0 rfl
theorem dX12_wakeTotal_18 : decode cX12_wakeTotal 18 = .ok (.aload_n 0, 1) := dq_get (L := lzddX12_wakeTotal_0) 10 rfl zddX12_wakeTotal_0 rfl
theorem dX12_wakeTotal_19 : decode cX12_wakeTotal 19 = .ok (.invokevirtual 476, 3) := dq_get (L := lzddX12_wakeTotal_0) 11 rfl zddX12_wakeTotal_0 rfl
theorem dX12_wakeTotal_22 : decode cX12_wakeTotal 22 = .ok (.pop, 1) := dq_get (L := lzddX12_wakeTotal_0) 12 rfl zddX12_wakeTotal_0 rfl
theorem dX12_wakeTotal_23 : decode cX12_wakeTotal 23 = .ok (.aload_n 0, 1) := dq_get (L := lzddX12_wakeTotal_0) 13 rfl zddX12_wakeTotal_0 rfl
theorem dX12_wakeTotal_24 : decode cX12_wakeTotal 24 = .ok (.aload_n 0, 1) := dq_get (L := lzddX12_wakeTotal_0) 14 rfl zddX12_wakeTotal_0 rfl
theorem dX12_wakeTotal_25 : decode cX12_wakeTotal 25 = .ok (.getfield 470, 3) := dq_get (L := lzddX12_wakeTotal_0) 15 rfl zddX12_wakeTotal_0 rfl
theorem dX12_wakeTotal_28 : decode cX12_wakeTotal 28 = .ok (.invokevirtual 81, 3) := dq_get (L := lzddX12_wakeTotal_0) 16 rfl zddX12_wakeTotal_0 rfl
theorem dX12_wakeTotal_31 : decode cX12_wakeTotal 31 = .ok (.ireturn, 1) := dq_get (L := lzddX12_wakeTotal_0) 17 rfl zddX12_wakeTotal_0 rfl
def lzddX12_where_0 : List (Nat × Instr × Nat) := [(0, .aload_n 0, 1), (1, .iconst 0, 1), (2, .putfield 70, 3), (5, .aload_n 0, 1), (6, .getfield 9, 3), (9, .ireturn, 1)]
theorem zddX12_where_0 : dqW lzddX12_where_0 (cX12_where.data.toList.drop 0) 0 = true := by decide +kernel
theorem dX12_where_0 : decode cX12_where 0 = .ok (.aload_n 0, 1) := dq_get (L := lzddX12_where_0) 0 rfl zddX12_where_0 rfl
theorem dX12_where_1 : decode cX12_where 1 = .ok (.iconst 0, 1) := dq_get (L := lzddX12_where_0) 1 rfl zddX12_where_0 rfl
theorem dX12_where_2 : decode cX12_where 2 = .ok (.putfield 70, 3) := dq_get (L := lzddX12_where_0) 2 rfl zddX12_where_0 rfl
theorem dX12_where_5 : decode cX12_where 5 = .ok (.aload_n 0, 1) := dq_get (L := lzddX12_where_0) 3 rfl zddX12_where_0 rfl
theorem dX12_where_6 : decode cX12_where 6 = .ok (.getfield 9, 3) := dq_get (L := lzddX12_where_0) 4 rfl zddX12_where_0 rfl
theorem dX12_where_9 : decode cX12_where 9 = .ok (.ireturn, 1) := dq_get (L := lzddX12_where_0) 5 rfl zddX12_where_0 rfl
def lzddX12_without_0 : List (Nat × Instr × Nat) := [(0, .aload_n 0, 1), (1, .iconst 0, 1), (2, .putfield 70, 3), (5, .aload_n 0, 1), (6, .iload_n 1, 1), (7, .invokevirtual 467, 3), (10, .ifCond .ne 9, 3), (13, .aload_n 0, 1), (14, .iconst 1, 1), (15, .invokevirtual 458, 3), (18, .ireturn, 1), (19, .aload_n 0, 1), (20, .invokevirtual 455, 3), (23, .istore_n 2, 1), (24, .aload_n 0, 1), (25, .iload_n 1, 1), (26, .invokevirtual 434, 3), (29, .aload_n 0, 1), (30, .aload_n 0, 1), (31, .aload_n 0, 1)]
theorem zddX12_without_0 : dqW lzddX12_without_0 (cX12_without.data.toList.drop 0) 0 = true := by decide +kernel
theorem dX12_without_0 : decode cX12_without 0 = .ok (.aload_n 0, 1) := dq_get (L := lzddX12_without_0) 0 rfl zddX12_without_0 rfl
theorem dX12_without_1 : decode cX12_without 1 = .ok (.iconst 0, 1) := dq_get (L := lzddX12_without_0) 1 rfl zddX12_without_0 rfl
theorem dX12_without_2 : decode cX12_without 2 = .ok (.putfield 70, 3) := dq_get (L := lzddX12_without_0) 2 rfl zddX12_without_0 rfl
theorem dX12_without_5 : decode cX12_without 5 = .ok (.aload_n 0, 1) := dq_get (L := lzddX12_without_0) 3 rfl zddX12_without_0 rfl
theorem dX12_without_6 : decode cX12_without 6 = .ok (.iload_n 1, 1) := dq_get (L := lzddX12_without_0) 4 rfl zddX12_without_0 rfl
theorem dX12_without_7 : decode cX12_without 7 = .ok (.invokevirtual 467, 3) := dq_get (L := lzddX12_without_0) 5 rfl zddX12_without_0 rfl
theorem dX12_without_10 : decode cX12_without 10 = .ok (.ifCond .ne 9, 3) := dq_get (L := lzddX12_without_0) 6 rfl zddX12_without_0 rfl
theorem dX12_without_13 : decode cX12_without 13 = .ok (.aload_n 0, 1) := dq_get (L := lzddX12_without_0) 7 rfl zddX12_without_0 rfl
theorem dX12_without_14 : decode cX12_without 14 = .ok (.iconst 1, 1) := dq_get (L := lzddX12_without_0) 8 rfl zddX12_without_0 rfl
theorem dX12_without_15 : decode cX12_without 15 = .ok (.invokevirtual 458, 3) := dq_get (L := lzddX12_without_0) 9 rfl zddX12_without_0 rfl
theorem dX12_without_18 : decode cX12_without 18 = .ok (.ireturn, 1) := dq_get (L := lzddX12_without_0) 10 rfl zddX12_without_0 rfl
theorem dX12_without_19 : decode cX12_without 19 = .ok (.aload_n 0, 1) := dq_get (L := lzddX12_without_0) 11 rfl zddX12_without_0 rfl
theorem dX12_without_20 : decode cX12_without 20 = .ok (.invokevirtual 455, 3) := dq_get (L := lzddX12_without_0) 12 rfl zddX12_without_0 rfl
theorem dX12_without_23 : decode cX12_without 23 = .ok (.istore_n 2, 1) := dq_get (L := lzddX12_without_0) 13 rfl zddX12_without_0 rfl
theorem dX12_without_24 : decode cX12_without 24 = .ok (.aload_n 0, 1) := dq_get (L := lzddX12_without_0) 14 rfl zddX12_without_0 rfl
theorem dX12_without_25 : decode cX12_without 25 = .ok (.iload_n 1, 1) := dq_get (L := lzddX12_without_0) 15 rfl zddX12_without_0 rfl
theorem dX12_without_26 : decode cX12_without 26 = .ok (.invokevirtual 434, 3) := dq_get (L := lzddX12_without_0) 16 rfl zddX12_without_0 rfl
theorem dX12_without_29 : decode cX12_without 29 = .ok (.aload_n 0, 1) := dq_get (L := lzddX12_without_0) 17 rfl zddX12_without_0 rfl
theorem dX12_without_30 : decode cX12_without 30 = .ok (.aload_n 0, 1) := dq_get (L := lzddX12_without_0) 18 rfl zddX12_without_0 rfl
theorem dX12_without_31 : decode cX12_without 31 = .ok (.aload_n 0, 1) := dq_get (L := lzddX12_without_0) 19 rfl zddX12_without_0 rfl
def lzddX12_without_32 : List (Nat × Instr × Nat) := [(32, .invokevirtual 437, 3), (35, .aload_n 0, 1), (36, .getfield 17, 3), (39, .iconst 0, 1), (40, .iaload, 1), (41, .invokevirtual 440, 3), (44, .iload_n 2, 1), (45, .isub, 1), (46, .invokevirtual 81, 3), (49, .ireturn, 1)]
theorem zddX12_without_32 : dqW lzddX12_without_32 (cX12_without.data.toList.drop 32) 32 = true := by decide +kernel
theorem dX12_without_32 : decode cX12_without 32 = .ok (.invokevirtual 437, 3) := dq_get (L := lzddX12_without_32) 0 rfl zddX12_without_32 rfl
theorem dX12_without_35 : decode cX12_without 35 = .ok (.aload_n 0, 1) := dq_get (L := lzddX12_without_32) 1 rfl zddX12_without_32 rfl
theorem dX12_without_36 : decode cX12_without 36 = .ok (.getfield 17, 3) := dq_get (L := lzddX12_without_32) 2 rfl zddX12_without_32 rfl
theorem dX12_without_39 : decode cX12_without 39 = .ok (.iconst 0, 1) := dq_get (L := lzddX12_without_32) 3 rfl zddX12_without_32 rfl
theorem dX12_without_40 : decode cX12_without 40 = .ok (.iaload, 1) := dq_get (L := lzddX12_without_32) 4 rfl zddX12_without_32 rfl
theorem dX12_without_41 : decode cX12_without 41 = .ok (.invokevirtual 440, 3) := dq_get (L := lzddX12_without_32) 5 rfl zddX12_without_32 rfl
theorem dX12_without_44 : decode cX12_without 44 = .ok (.iload_n 2, 1) := dq_get (L := lzddX12_without_32) 6 rfl zddX12_without_32 rfl
theorem dX12_without_45 : decode cX12_without 45 = .ok (.isub, 1) := dq_get (L := lzddX12_without_32) 7 rfl zddX12_without_32 rfl
theorem dX12_without_46 : decode cX12_without 46 = .ok (.invokevirtual 81, 3) := dq_get (L := lzddX12_without_32) 8 rfl zddX12_without_32 rfl
theorem dX12_without_49 : decode cX12_without 49 = .ok (.ireturn, 1) := dq_get (L := lzddX12_without_32) 9 rfl zddX12_without_32 rfl
def lzddX12_work_0 : List (Nat × Instr × Nat) := [(0, .aload_n 0, 1), (1, .iconst 0, 1), (2, .putfield 70, 3), (5, .aload_n 0, 1), (6, .iload_n 1, 1), (7, .invokevirtual 452, 3), (10, .ifCond .eq 12, 3), (13, .iload_n 2, 1), (14, .iconst 0, 1), (15, .iconst 3, 1), (16, .invokestatic 149, 3), (19, .ifCond .ne 9, 3), (22, .aload_n 0, 1), (23, .iconst 1, 1), (24, .invokevirtual 76, 3), (27, .ireturn, 1), (28, .aload_n 0, 1), (29, .invokevirtual 455, 3), (32, .pop, 1), (33, .iconst 0, 1)]
theorem zddX12_work_0 : dqW lzddX12_work_0 (cX12_work.data.toList.drop 0) 0 = true := by decide +kernel
theorem dX12_work_0 : decode cX12_work 0 = .ok (.aload_n 0, 1) := dq_get (L := lzddX12_work_0) 0 rfl zddX12_work_0 rfl
theorem dX12_work_1 : decode cX12_work 1 = .ok (.iconst 0, 1) := dq_get (L := lzddX12_work_0) 1 rfl zddX12_work_0 rfl
theorem dX12_work_2 : decode cX12_work 2 = .ok (.putfield 70, 3) := dq_get (L := lzddX12_work_0) 2 rfl zddX12_work_0 rfl
theorem dX12_work_5 : decode cX12_work 5 = .ok (.aload_n 0, 1) := dq_get (L := lzddX12_work_0) 3 rfl zddX12_work_0 rfl
theorem dX12_work_6 : decode cX12_work 6 = .ok (.iload_n 1, 1) := dq_get (L := lzddX12_work_0) 4 rfl zddX12_work_0 rfl
theorem dX12_work_7 : decode cX12_work 7 = .ok (.invokevirtual 452, 3) := dq_get (L := lzddX12_work_0) 5 rfl zddX12_work_0 rfl
theorem dX12_work_10 : decode cX12_work 10 = .ok (.ifCond .eq 12, 3) := dq_get (L := lzddX12_work_0) 6 rfl zddX12_work_0 rfl
theorem dX12_work_13 : decode cX12_work 13 = .ok (.iload_n 2, 1) := dq_get (L := lzddX12_work_0) 7 rfl zddX12_work_0 rfl
theorem dX12_work_14 : decode cX12_work 14 = .ok (.iconst 0, 1) := dq_get (L := lzddX12_work_0) 8 rfl zddX12_work_0 rfl
theorem dX12_work_15 : decode cX12_work 15 = .ok (.iconst 3, 1) := dq_get (L := lzddX12_work_0) 9 rfl zddX12_work_0 rfl
theorem dX12_work_16 : decode cX12_work 16 = .ok (.invokestatic 149, 3) := dq_get (L := lzddX12_work_0) 10 rfl zddX12_work_0 rfl
theorem dX12_work_19 : decode cX12_work 19 = .ok (.ifCond .ne 9, 3) := dq_get (L := lzddX12_work_0) 11 rfl zddX12_work_0 rfl
theorem dX12_work_22 : decode cX12_work 22 = .ok (.aload_n 0, 1) := dq_get (L := lzddX12_work_0) 12 rfl zddX12_work_0 rfl
theorem dX12_work_23 : decode cX12_work 23 = .ok (.iconst 1, 1) := dq_get (L := lzddX12_work_0) 13 rfl zddX12_work_0 rfl
theorem dX12_work_24 : decode cX12_work 24 = .ok (.invokevirtual 76, 3) := dq_get (L := lzddX12_work_0) 14 rfl zddX12_work_0 rfl
theorem dX12_work_27 : decode cX12_work 27 = .ok (.ireturn, 1) := dq_get (L := lzddX12_work_0) 15 rfl zddX12_work_0 rfl
theorem dX12_work_28 : decode cX12_work 28 = .ok (.aload_n 0, 1) := dq_get (L := lzddX12_work_0) 16 rfl zddX12_work_0 rfl
theorem dX12_work_29 : decode cX12_work 29 = .ok (.invokevirtual 455, 3) := dq_get (L := lzddX12_work_0) 17 rfl zddX12_work_0 rfl
theorem dX12_work_32 : decode cX12_work 32 = .ok (.pop, 1) := dq_get (L := lzddX12_work_0) 18 rfl zddX12_work_0 rfl
theorem dX12_work_33 : decode cX12_work 33 = .ok (.iconst 0, 1) := dq_get (L := lzddX12_work_0) 19 rfl zddX12_work_0 rfl
def lzddX12_work_34 : List (Nat × Instr × Nat) := [(34, .istore_n 3, 1), (35, .iconst 0, 1), (36, .istore 4, 2), (38, .iload 4, 2), (40, .aload_n 0, 1), (41, .getfield 385, 3), (44, .getfield 192, 3), (47, .if_icmp .ge 150, 3), (50, .iconst 0, 1), (51, .istore 5, 2), (53, .iconst 0, 1), (54, .istore 6, 2), (56, .iconst 0, 1), (57, .istore 7, 2), (59, .iload 7, 2), (61, .aload_n 0, 1), (62, .getfield 385, 3), (65, .getfield 224, 3), (68, .if_icmp .ge 62, 3), (71, .aload_n 0, 1)]
theorem zddX12_work_34 : dqW lzddX12_work_34 (cX12_work.data.toList.drop 34) 34 = true := by decide +kernel
theorem dX12_work_34 : decode cX12_work 34 = .ok (.istore_n 3, 1) := dq_get (L := lzddX12_work_34) 0 rfl zddX12_work_34 rfl
theorem dX12_work_35 : decode cX12_work 35 = .ok (.iconst 0, 1) := dq_get (L := lzddX12_work_34) 1 rfl zddX12_work_34 rfl
theorem dX12_work_36 : decode cX12_work 36 = .ok (.istore 4, 2) := dq_get (L := lzddX12_work_34) 2 rfl zddX12_work_34 rfl
theorem dX12_work_38 : decode cX12_work 38 = .ok (.iload 4, 2) := dq_get (L := lzddX12_work_34) 3 rfl zddX12_work_34 rfl
theorem dX12_work_40 : decode cX12_work 40 = .ok (.aload_n 0, 1) := dq_get (L := lzddX12_work_34) 4 rfl zddX12_work_34 rfl
theorem dX12_work_41 : decode cX12_work 41 = .ok (.getfield 385, 3) := dq_get (L := lzddX12_work_34) 5 rfl zddX12_work_34 rfl
theorem dX12_work_44 : decode cX12_work 44 = .ok (.getfield 192, 3) := dq_get (L := lzddX12_work_34) 6 rfl zddX12_work_34 rfl
theorem dX12_work_47 : decode cX12_work 47 = .ok (.if_icmp .ge 150, 3) := dq_get (L := lzddX12_work_34) 7 rfl zddX12_work_34 rfl
theorem dX12_work_50 : decode cX12_work 50 = .ok (.iconst 0, 1) := dq_get (L := lzddX12_work_34) 8 rfl zddX12_work_34 rfl
theorem dX12_work_51 : decode cX12_work 51 = .ok (.istore 5, 2) := dq_get (L := lzddX12_work_34) 9 rfl zddX12_work_34 rfl
theorem dX12_work_53 : decode cX12_work 53 = .ok (.iconst 0, 1) := dq_get (L := lzddX12_work_34) 10 rfl zddX12_work_34 rfl
theorem dX12_work_54 : decode cX12_work 54 = .ok (.istore 6, 2) := dq_get (L := lzddX12_work_34) 11 rfl zddX12_work_34 rfl
theorem dX12_work_56 : decode cX12_work 56 = .ok (.iconst 0, 1) := dq_get (L := lzddX12_work_34) 12 rfl zddX12_work_34 rfl
theorem dX12_work_57 : decode cX12_work 57 = .ok (.istore 7, 2) := dq_get (L := lzddX12_work_34) 13 rfl zddX12_work_34 rfl
theorem dX12_work_59 : decode cX12_work 59 = .ok (.iload 7, 2) := dq_get (L := lzddX12_work_34) 14 rfl zddX12_work_34 rfl
theorem dX12_work_61 : decode cX12_work 61 = .ok (.aload_n 0, 1) := dq_get (L := lzddX12_work_34) 15 rfl zddX12_work_34 rfl
theorem dX12_work_62 : decode cX12_work 62 = .ok (.getfield 385, 3) := dq_get (L := lzddX12_work_34) 16 rfl zddX12_work_34 rfl
theorem dX12_work_65 : decode cX12_work 65 = .ok (.getfield 224, 3) := dq_get (L := lzddX12_work_34) 17 rfl zddX12_work_34 rfl
theorem dX12_work_68 : decode cX12_work 68 = .ok (.if_icmp .ge 62, 3) := dq_get (L := lzddX12_work_34) 18 rfl zddX12_work_34 rfl
theorem dX12_work_71 : decode cX12_work 71 = .ok (.aload_n 0, 1) := dq_get (L := lzddX12_work_34) 19 rfl zddX12_work_34 rfl
def lzddX12_work_72 : List (Nat × Instr × Nat) := [(72, .getfield 46, 3), (75, .sipush 240, 3), (78, .iload 7, 2), (80, .imul, 1), (81, .iload 4, 2), (83, .iadd, 1), (84, .iaload, 1), (85, .iload_n 1, 1), (86, .if_icmp .eq 6, 3), (89, .goto 35, 3), (92, .iinc 5 1, 3), (95, .iload 6, 2), (97, .aload_n 0, 1), (98, .aload_n 0, 1), (99, .getfield 385, 3), (102, .getfield 296, 3), (105, .iload 7, 2), (107, .iaload, 1), (108, .iload 4, 2), (110, .invokevirtual 413, 3)]
theorem zddX12_work_72 : dqW lzddX12_work_72 (cX12_work.data.toList.drop 72) 72 = true := by decide +kernel
theorem dX12_work_72 : decode cX12_work 72 = .ok (.getfield 46, 3) := dq_get (L := lzddX12_work_72) 0 rfl zddX12_work_72 rfl
theorem dX12_work_75 : decode cX12_work 75 = .ok (.sipush 240, 3) := dq_get (L := lzddX12_work_72) 1 rfl zddX12_work_72 rfl
theorem dX12_work_78 : decode cX12_work 78 = .ok (.iload 7, 2) := dq_get (L := lzddX12_work_72) 2 rfl zddX12_work_72 rfl
theorem dX12_work_80 : decode cX12_work 80 = .ok (.imul, 1) := dq_get (L := lzddX12_work_72) 3 rfl zddX12_work_72 rfl
theorem dX12_work_81 : decode cX12_work 81 = .ok (.iload 4, 2) := dq_get (L := lzddX12_work_72) 4 rfl zddX12_work_72 rfl
theorem dX12_work_83 : decode cX12_work 83 = .ok (.iadd, 1) := dq_get (L := lzddX12_work_72) 5 rfl zddX12_work_72 rfl
theorem dX12_work_84 : decode cX12_work 84 = .ok (.iaload, 1) := dq_get (L := lzddX12_work_72) 6 rfl zddX12_work_72 rfl
theorem dX12_work_85 : decode cX12_work 85 = .ok (.iload_n 1, 1) := dq_get (L := lzddX12_work_72) 7 rfl zddX12_work_72 rfl
theorem dX12_work_86 : decode cX12_work 86 = .ok (.if_icmp .eq 6, 3) := dq_get (L := lzddX12_work_72) 8 rfl zddX12_work_72 rfl
theorem dX12_work_89 : decode cX12_work 89 = .ok (.goto 35, 3) := dq_get (L := lzddX12_work_72) 9 rfl zddX12_work_72 rfl
theorem dX12_work_92 : decode cX12_work 92 = .ok (.iinc 5 1, 3) := dq_get (L := lzddX12_work_72) 10 rfl zddX12_work_72 rfl
theorem dX12_work_95 : decode cX12_work 95 = .ok (.iload 6, 2) := dq_get (L := lzddX12_work_72) 11 rfl zddX12_work_72 rfl
theorem dX12_work_97 : decode cX12_work 97 = .ok (.aload_n 0, 1) := dq_get (L := lzddX12_work_72) 12 rfl zddX12_work_72 rfl
theorem dX12_work_98 : decode cX12_work 98 = .ok (.aload_n 0, 1) := dq_get (L := lzddX12_work_72) 13 rfl zddX12_work_72 rfl
theorem dX12_work_99 : decode cX12_work 99 = .ok (.getfield 385, 3) := dq_get (L := lzddX12_work_72) 14 rfl zddX12_work_72 rfl
theorem dX12_work_102 : decode cX12_work 102 = .ok (.getfield 296, 3) := dq_get (L := lzddX12_work_72) 15 rfl zddX12_work_72 rfl
theorem dX12_work_105 : decode cX12_work 105 = .ok (.iload 7, 2) := dq_get (L := lzddX12_work_72) 16 rfl zddX12_work_72 rfl
theorem dX12_work_107 : decode cX12_work 107 = .ok (.iaload, 1) := dq_get (L := lzddX12_work_72) 17 rfl zddX12_work_72 rfl
theorem dX12_work_108 : decode cX12_work 108 = .ok (.iload 4, 2) := dq_get (L := lzddX12_work_72) 18 rfl zddX12_work_72 rfl
theorem dX12_work_110 : decode cX12_work 110 = .ok (.invokevirtual 413, 3) := dq_get (L := lzddX12_work_72) 19 rfl zddX12_work_72 rfl
def lzddX12_work_113 : List (Nat × Instr × Nat) := [(113, .ifCond .eq 7, 3), (116, .iconst 1, 1), (117, .goto 4, 3), (120, .iconst 0, 1), (121, .iadd, 1), (122, .istore 6, 2), (124, .iinc 7 1, 3), (127, .goto (-68), 3), (130, .iload_n 3, 1), (131, .iload_n 2, 1), (132, .ifCond .ne 8, 3), (135, .iload 5, 2), (137, .goto 52, 3), (140, .iload_n 2, 1), (141, .iconst 1, 1), (142, .if_icmp .ne 8, 3), (145, .iload 6, 2), (147, .goto 42, 3), (150, .iload_n 2, 1), (151, .iconst 2, 1)]
theorem zddX12_work_113 : dqW lzddX12_work_113 (cX12_work.data.toList.drop 113) 113 = true := by decide +kernel
theorem dX12_work_113 : decode cX12_work 113 = .ok (.ifCond .eq 7, 3) := dq_get (L := lzddX12_work_113) 0 rfl zddX12_work_113 rfl
theorem dX12_work_116 : decode cX12_work 116 = .ok (.iconst 1, 1) := dq_get (L := lzddX12_work_113) 1 rfl zddX12_work_113 rfl
theorem dX12_work_117 : decode cX12_work 117 = .ok (.goto 4, 3) := dq_get (L := lzddX12_work_113) 2 rfl zddX12_work_113 rfl
theorem dX12_work_120 : decode cX12_work 120 = .ok (.iconst 0, 1) := dq_get (L := lzddX12_work_113) 3 rfl zddX12_work_113 rfl
theorem dX12_work_121 : decode cX12_work 121 = .ok (.iadd, 1) := dq_get (L := lzddX12_work_113) 4 rfl zddX12_work_113 rfl
theorem dX12_work_122 : decode cX12_work 122 = .ok (.istore 6, 2) := dq_get (L := lzddX12_work_113) 5 rfl zddX12_work_113 rfl
theorem dX12_work_124 : decode cX12_work 124 = .ok (.iinc 7 1, 3) := dq_get (L := lzddX12_work_113) 6 rfl zddX12_work_113 rfl
theorem dX12_work_127 : decode cX12_work 127 = .ok (.goto (-68), 3) := dq_get (L := lzddX12_work_113) 7 rfl zddX12_work_113 rfl
theorem dX12_work_130 : decode cX12_work 130 = .ok (.iload_n 3, 1) := dq_get (L := lzddX12_work_113) 8 rfl zddX12_work_113 rfl
theorem dX12_work_131 : decode cX12_work 131 = .ok (.iload_n 2, 1) := dq_get (L := lzddX12_work_113) 9 rfl zddX12_work_113 rfl
theorem dX12_work_132 : decode cX12_work 132 = .ok (.ifCond .ne 8, 3) := dq_get (L := lzddX12_work_113) 10 rfl zddX12_work_113 rfl
theorem dX12_work_135 : decode cX12_work 135 = .ok (.iload 5, 2) := dq_get (L := lzddX12_work_113) 11 rfl zddX12_work_113 rfl
theorem dX12_work_137 : decode cX12_work 137 = .ok (.goto 52, 3) := dq_get (L := lzddX12_work_113) 12 rfl zddX12_work_113 rfl
theorem dX12_work_140 : decode cX12_work 140 = .ok (.iload_n 2, 1) := dq_get (L := lzddX12_work_113) 13 rfl zddX12_work_113 rfl
theorem dX12_work_141 : decode cX12_work 141 = .ok (.iconst 1, 1) := dq_get (L := lzddX12_work_113) 14 rfl zddX12_work_113 rfl
theorem dX12_work_142 : decode cX12_work 142 = .ok (.if_icmp .ne 8, 3) := dq_get (L := lzddX12_work_113) 15 rfl zddX12_work_113 rfl
theorem dX12_work_145 : decode cX12_work 145 = .ok (.iload 6, 2) := dq_get (L := lzddX12_work_113) 16 rfl zddX12_work_113 rfl
theorem dX12_work_147 : decode cX12_work 147 = .ok (.goto 42, 3) := dq_get (L := lzddX12_work_113) 17 rfl zddX12_work_113 rfl
theorem dX12_work_150 : decode cX12_work 150 = .ok (.iload_n 2, 1) := dq_get (L := lzddX12_work_113) 18 rfl zddX12_work_113 rfl
theorem dX12_work_151 : decode cX12_work 151 = .ok (.iconst 2, 1) := dq_get (L := lzddX12_work_113) 19 rfl zddX12_work_113 rfl
def lzddX12_work_152 : List (Nat × Instr × Nat) := [(152, .if_icmp .ne 16, 3), (155, .iload 5, 2), (157, .ifCond .le 7, 3), (160, .iconst 1, 1), (161, .goto 28, 3), (164, .iconst 0, 1), (165, .goto 24, 3), (168, .aload_n 0, 1), (169, .iload_n 1, 1), (170, .iload 4, 2), (172, .aload_n 0, 1), (173, .getfield 17, 3), (176, .iconst 0, 1), (177, .iaload, 1), (178, .invokevirtual 419, 3), (181, .ifCond .eq 7, 3), (184, .iconst 1, 1), (185, .goto 4, 3), (188, .iconst 0, 1), (189, .iadd, 1)]
theorem zddX12_work_152 : dqW lzddX12_work_152 (cX12_work.data.toList.drop 152) 152 = true := by decide +kernel
theorem dX12_work_152 : decode cX12_work 152 = .ok (.if_icmp .ne 16, 3) := dq_get (L := lzddX12_work_152) 0 rfl zddX12_work_152 rfl
theorem dX12_work_155 : decode cX12_work 155 = .ok (.iload 5, 2) := dq_get (L := lzddX12_work_152) 1 rfl zddX12_work_152 rfl
theorem dX12_work_157 : decode cX12_work 157 = .ok (.ifCond .le 7, 3) := dq_get (L := lzddX12_work_152) 2 rfl zddX12_work_152 rfl
theorem dX12_work_160 : decode cX12_work 160 = .ok (.iconst 1, 1) := dq_get (L := lzddX12_work_152) 3 rfl zddX12_work_152 rfl
theorem dX12_work_161 : decode cX12_work 161 = .ok (.goto 28, 3) := dq_get (L := lzddX12_work_152) 4 rfl zddX12_work_152 rfl
theorem dX12_work_164 : decode cX12_work 164 = .ok (.iconst 0, 1) := dq_get (L := lzddX12_work_152) 5 rfl zddX12_work_152 rfl
theorem dX12_work_165 : decode cX12_work 165 = .ok (.goto 24, 3) := dq_get (L := lzddX12_work_152) 6 rfl zddX12_work_152 rfl
theorem dX12_work_168 : decode cX12_work 168 = .ok (.aload_n 0, 1) := dq_get (L := lzddX12_work_152) 7 rfl zddX12_work_152 rfl
theorem dX12_work_169 : decode cX12_work 169 = .ok (.iload_n 1, 1) := dq_get (L := lzddX12_work_152) 8 rfl zddX12_work_152 rfl
theorem dX12_work_170 : decode cX12_work 170 = .ok (.iload 4, 2) := dq_get (L := lzddX12_work_152) 9 rfl zddX12_work_152 rfl
theorem dX12_work_172 : decode cX12_work 172 = .ok (.aload_n 0, 1) := dq_get (L := lzddX12_work_152) 10 rfl zddX12_work_152 rfl
theorem dX12_work_173 : decode cX12_work 173 = .ok (.getfield 17, 3) := dq_get (L := lzddX12_work_152) 11 rfl zddX12_work_152 rfl
theorem dX12_work_176 : decode cX12_work 176 = .ok (.iconst 0, 1) := dq_get (L := lzddX12_work_152) 12 rfl zddX12_work_152 rfl
theorem dX12_work_177 : decode cX12_work 177 = .ok (.iaload, 1) := dq_get (L := lzddX12_work_152) 13 rfl zddX12_work_152 rfl
theorem dX12_work_178 : decode cX12_work 178 = .ok (.invokevirtual 419, 3) := dq_get (L := lzddX12_work_152) 14 rfl zddX12_work_152 rfl
theorem dX12_work_181 : decode cX12_work 181 = .ok (.ifCond .eq 7, 3) := dq_get (L := lzddX12_work_152) 15 rfl zddX12_work_152 rfl
theorem dX12_work_184 : decode cX12_work 184 = .ok (.iconst 1, 1) := dq_get (L := lzddX12_work_152) 16 rfl zddX12_work_152 rfl
theorem dX12_work_185 : decode cX12_work 185 = .ok (.goto 4, 3) := dq_get (L := lzddX12_work_152) 17 rfl zddX12_work_152 rfl
theorem dX12_work_188 : decode cX12_work 188 = .ok (.iconst 0, 1) := dq_get (L := lzddX12_work_152) 18 rfl zddX12_work_152 rfl
theorem dX12_work_189 : decode cX12_work 189 = .ok (.iadd, 1) := dq_get (L := lzddX12_work_152) 19 rfl zddX12_work_152 rfl
def lzddX12_work_190 : List (Nat × Instr × Nat) := [(190, .istore_n 3, 1), (191, .iinc 4 1, 3), (194, .goto (-156), 3), (197, .aload_n 0, 1), (198, .iload_n 3, 1), (199, .invokevirtual 81, 3), (202, .ireturn, 1)]
theorem zddX12_work_190 : dqW lzddX12_work_190 (cX12_work.data.toList.drop 190) 190 = true := by decide +kernel
theorem dX12_work_190 : decode cX12_work 190 = .ok (.istore_n 3, 1) := dq_get (L := lzddX12_work_190) 0 rfl zddX12_work_190 rfl
theorem dX12_work_191 : decode cX12_work 191 = .ok (.iinc 4 1, 3) := dq_get (L := lzddX12_work_190) 1 rfl zddX12_work_190 rfl
theorem dX12_work_194 : decode cX12_work 194 = .ok (.goto (-156), 3) := dq_get (L := lzddX12_work_190) 2 rfl zddX12_work_190 rfl
theorem dX12_work_197 : decode cX12_work 197 = .ok (.aload_n 0, 1) := dq_get (L := lzddX12_work_190) 3 rfl zddX12_work_190 rfl
theorem dX12_work_198 : decode cX12_work 198 = .ok (.iload_n 3, 1) := dq_get (L := lzddX12_work_190) 4 rfl zddX12_work_190 rfl
theorem dX12_work_199 : decode cX12_work 199 = .ok (.invokevirtual 81, 3) := dq_get (L := lzddX12_work_190) 5 rfl zddX12_work_190 rfl
theorem dX12_work_202 : decode cX12_work 202 = .ok (.ireturn, 1) := dq_get (L := lzddX12_work_190) 6 rfl zddX12_work_190 rfl
def lzddX12_worth_0 : List (Nat × Instr × Nat) := [(0, .aload_n 0, 1), (1, .iconst 0, 1), (2, .putfield 70, 3), (5, .aload_n 0, 1), (6, .iload_n 1, 1), (7, .invokevirtual 452, 3), (10, .ifCond .ne 9, 3), (13, .aload_n 0, 1), (14, .iconst 1, 1), (15, .invokevirtual 458, 3), (18, .ireturn, 1), (19, .aload_n 0, 1), (20, .invokevirtual 455, 3), (23, .istore_n 2, 1), (24, .aload_n 0, 1), (25, .iload_n 2, 1), (26, .aload_n 0, 1), (27, .aload_n 0, 1), (28, .invokevirtual 437, 3), (31, .iconst 1, 1)]
theorem zddX12_worth_0 : dqW lzddX12_worth_0 (cX12_worth.data.toList.drop 0) 0 = true := by decide +kernel
theorem dX12_worth_0 : decode cX12_worth 0 = .ok (.aload_n 0, 1) := dq_get (L := lzddX12_worth_0) 0 rfl zddX12_worth_0 rfl
theorem dX12_worth_1 : decode cX12_worth 1 = .ok (.iconst 0, 1) := dq_get (L := lzddX12_worth_0) 1 rfl zddX12_worth_0 rfl
theorem dX12_worth_2 : decode cX12_worth 2 = .ok (.putfield 70, 3) := dq_get (L := lzddX12_worth_0) 2 rfl zddX12_worth_0 rfl
theorem dX12_worth_5 : decode cX12_worth 5 = .ok (.aload_n 0, 1) := dq_get (L := lzddX12_worth_0) 3 rfl zddX12_worth_0 rfl
theorem dX12_worth_6 : decode cX12_worth 6 = .ok (.iload_n 1, 1) := dq_get (L := lzddX12_worth_0) 4 rfl zddX12_worth_0 rfl
theorem dX12_worth_7 : decode cX12_worth 7 = .ok (.invokevirtual 452, 3) := dq_get (L := lzddX12_worth_0) 5 rfl zddX12_worth_0 rfl
theorem dX12_worth_10 : decode cX12_worth 10 = .ok (.ifCond .ne 9, 3) := dq_get (L := lzddX12_worth_0) 6 rfl zddX12_worth_0 rfl
theorem dX12_worth_13 : decode cX12_worth 13 = .ok (.aload_n 0, 1) := dq_get (L := lzddX12_worth_0) 7 rfl zddX12_worth_0 rfl
theorem dX12_worth_14 : decode cX12_worth 14 = .ok (.iconst 1, 1) := dq_get (L := lzddX12_worth_0) 8 rfl zddX12_worth_0 rfl
theorem dX12_worth_15 : decode cX12_worth 15 = .ok (.invokevirtual 458, 3) := dq_get (L := lzddX12_worth_0) 9 rfl zddX12_worth_0 rfl
theorem dX12_worth_18 : decode cX12_worth 18 = .ok (.ireturn, 1) := dq_get (L := lzddX12_worth_0) 10 rfl zddX12_worth_0 rfl
theorem dX12_worth_19 : decode cX12_worth 19 = .ok (.aload_n 0, 1) := dq_get (L := lzddX12_worth_0) 11 rfl zddX12_worth_0 rfl
theorem dX12_worth_20 : decode cX12_worth 20 = .ok (.invokevirtual 455, 3) := dq_get (L := lzddX12_worth_0) 12 rfl zddX12_worth_0 rfl
theorem dX12_worth_23 : decode cX12_worth 23 = .ok (.istore_n 2, 1) := dq_get (L := lzddX12_worth_0) 13 rfl zddX12_worth_0 rfl
theorem dX12_worth_24 : decode cX12_worth 24 = .ok (.aload_n 0, 1) := dq_get (L := lzddX12_worth_0) 14 rfl zddX12_worth_0 rfl
theorem dX12_worth_25 : decode cX12_worth 25 = .ok (.iload_n 2, 1) := dq_get (L := lzddX12_worth_0) 15 rfl zddX12_worth_0 rfl
theorem dX12_worth_26 : decode cX12_worth 26 = .ok (.aload_n 0, 1) := dq_get (L := lzddX12_worth_0) 16 rfl zddX12_worth_0 rfl
theorem dX12_worth_27 : decode cX12_worth 27 = .ok (.aload_n 0, 1) := dq_get (L := lzddX12_worth_0) 17 rfl zddX12_worth_0 rfl
theorem dX12_worth_28 : decode cX12_worth 28 = .ok (.invokevirtual 437, 3) := dq_get (L := lzddX12_worth_0) 18 rfl zddX12_worth_0 rfl
theorem dX12_worth_31 : decode cX12_worth 31 = .ok (.iconst 1, 1) := dq_get (L := lzddX12_worth_0) 19 rfl zddX12_worth_0 rfl
def lzddX12_worth_32 : List (Nat × Instr × Nat) := [(32, .iload_n 1, 1), (33, .ishl, 1), (34, .iconst (-1), 1), (35, .ixor, 1), (36, .iand, 1), (37, .aload_n 0, 1), (38, .getfield 17, 3), (41, .iconst 0, 1), (42, .iaload, 1), (43, .invokevirtual 440, 3), (46, .isub, 1), (47, .invokevirtual 81, 3), (50, .ireturn, 1)]
theorem zddX12_worth_32 : dqW lzddX12_worth_32 (cX12_worth.data.toList.drop 32) 32 = true := by decide +kernel
theorem dX12_worth_32 : decode cX12_worth 32 = .ok (.iload_n 1, 1) := dq_get (L := lzddX12_worth_32) 0 rfl zddX12_worth_32 rfl
theorem dX12_worth_33 : decode cX12_worth 33 = .ok (.ishl, 1) := dq_get (L := lzddX12_worth_32) 1 rfl zddX12_worth_32 rfl
theorem dX12_worth_34 : decode cX12_worth 34 = .ok (.iconst (-1), 1) := dq_get (L := lzddX12_worth_32) 2 rfl zddX12_worth_32 rfl
theorem dX12_worth_35 : decode cX12_worth 35 = .ok (.ixor, 1) := dq_get (L := lzddX12_worth_32) 3 rfl zddX12_worth_32 rfl
theorem dX12_worth_36 : decode cX12_worth 36 = .ok (.iand, 1) := dq_get (L := lzddX12_worth_32) 4 rfl zddX12_worth_32 rfl
theorem dX12_worth_37 : decode cX12_worth 37 = .ok (.aload_n 0, 1) := dq_get (L := lzddX12_worth_32) 5 rfl zddX12_worth_32 rfl
theorem dX12_worth_38 : decode cX12_worth 38 = .ok (.getfield 17, 3) := dq_get (L := lzddX12_worth_32) 6 rfl zddX12_worth_32 rfl
theorem dX12_worth_41 : decode cX12_worth 41 = .ok (.iconst 0, 1) := dq_get (L := lzddX12_worth_32) 7 rfl zddX12_worth_32 rfl
theorem dX12_worth_42 : decode cX12_worth 42 = .ok (.iaload, 1) := dq_get (L := lzddX12_worth_32) 8 rfl zddX12_worth_32 rfl
theorem dX12_worth_43 : decode cX12_worth 43 = .ok (.invokevirtual 440, 3) := dq_get (L := lzddX12_worth_32) 9 rfl zddX12_worth_32 rfl
theorem dX12_worth_46 : decode cX12_worth 46 = .ok (.isub, 1) := dq_get (L := lzddX12_worth_32) 10 rfl zddX12_worth_32 rfl
theorem dX12_worth_47 : decode cX12_worth 47 = .ok (.invokevirtual 81, 3) := dq_get (L := lzddX12_worth_32) 11 rfl zddX12_worth_32 rfl
theorem dX12_worth_50 : decode cX12_worth 50 = .ok (.ireturn, 1) := dq_get (L := lzddX12_worth_32) 12 rfl zddX12_worth_32 rfl
