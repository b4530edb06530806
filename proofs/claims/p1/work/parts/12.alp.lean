theorem dX0_clear_0 : decode cX0_clear 0 = .ok (.aload_n 0, 1) := by decide +kernel
theorem dX0_clear_1 : decode cX0_clear 1 = .ok (.iconst 0, 1) := by decide +kernel
theorem dX0_clear_2 : decode cX0_clear 2 = .ok (.putfield 50, 3) := by decide +kernel
theorem dX0_clear_5 : decode cX0_clear 5 = .ok (.aload_n 0, 1) := by decide +kernel
theorem dX0_clear_6 : decode cX0_clear 6 = .ok (.iconst 0, 1) := by decide +kernel
theorem dX0_clear_7 : decode cX0_clear 7 = .ok (.putfield 54, 3) := by decide +kernel
theorem dX0_clear_10 : decode cX0_clear 10 = .ok (.aload_n 0, 1) := by decide +kernel
theorem dX0_clear_11 : decode cX0_clear 11 = .ok (.iconst 0, 1) := by decide +kernel
theorem dX0_clear_12 : decode cX0_clear 12 = .ok (.putfield 57, 3) := by decide +kernel
theorem dX0_clear_15 : decode cX0_clear 15 = .ok (.aload_n 0, 1) := by decide +kernel
theorem dX0_clear_16 : decode cX0_clear 16 = .ok (.iconst 0, 1) := by decide +kernel
theorem dX0_clear_17 : decode cX0_clear 17 = .ok (.putfield 60, 3) := by decide +kernel
theorem dX0_clear_20 : decode cX0_clear 20 = .ok (.aload_n 0, 1) := by decide +kernel
theorem dX0_clear_21 : decode cX0_clear 21 = .ok (.iconst 0, 1) := by decide +kernel
theorem dX0_clear_22 : decode cX0_clear 22 = .ok (.putfield 63, 3) := by decide +kernel
theorem dX0_clear_25 : decode cX0_clear 25 = .ok (.aload_n 0, 1) := by decide +kernel
theorem dX0_clear_26 : decode cX0_clear 26 = .ok (.getfield 27, 3) := by decide +kernel
theorem dX0_clear_29 : decode cX0_clear 29 = .ok (.iconst 0, 1) := by decide +kernel
theorem dX0_clear_30 : decode cX0_clear 30 = .ok (.putfield 66, 3) := by decide +kernel
theorem dX0_clear_33 : decode cX0_clear 33 = .ok (.aload_n 0, 1) := by decide +kernel
theorem dX0_clear_34 : decode cX0_clear 34 = .ok (.iconst 0, 1) := by decide +kernel
theorem dX0_clear_35 : decode cX0_clear 35 = .ok (.putfield 69, 3) := by decide +kernel
theorem dX0_clear_38 : decode cX0_clear 38 = .ok (.aload_n 0, 1) := by decide +kernel
theorem dX0_clear_39 : decode cX0_clear 39 = .ok (.iconst 0, 1) := by decide +kernel
theorem dX0_clear_40 : decode cX0_clear 40 = .ok (.putfield 72, 3) := by decide +kernel
theorem dX0_clear_43 : decode cX0_clear 43 = .ok (.aload_n 0, 1) := by decide +kernel
theorem dX0_clear_44 : decode cX0_clear 44 = .ok (.iconst 0, 1) := by decide +kernel
theorem dX0_clear_45 : decode cX0_clear 45 = .ok (.putfield 75, 3) := by decide +kernel
theorem dX0_clear_48 : decode cX0_clear 48 = .ok (.return_, 1) := by decide +kernel
theorem dX10_alp_0 : decode cX10_alp 0 = .ok (.iload_n 1, 1) := by decide +kernel
theorem dX10_alp_1 : decode cX10_alp 1 = .ok (.ifCond .lt 11, 3) := by decide +kernel
theorem dX10_alp_4 : decode cX10_alp 4 = .ok (.iload_n 1, 1) := by decide +kernel
theorem dX10_alp_5 : decode cX10_alp 5 = .ok (.aload_n 0, 1) := by decide +kernel
theorem dX10_alp_6 : decode cX10_alp 6 = .ok (.getfield 71, 3) := by decide +kernel
theorem dX10_alp_9 : decode cX10_alp 9 = .ok (.if_icmp .le 9, 3) := by decide +kernel
theorem dX10_alp_12 : decode cX10_alp 12 = .ok (.aload_n 0, 1) := by decide +kernel
theorem dX10_alp_13 : decode cX10_alp 13 = .ok (.iconst 2, 1) := by decide +kernel
theorem dX10_alp_14 : decode cX10_alp 14 = .ok (.invokevirtual 79, 3) := by decide +kernel
theorem dX10_alp_17 : decode cX10_alp 17 = .ok (.ireturn, 1) := by decide +kernel
theorem dX10_alp_18 : decode cX10_alp 18 = .ok (.aload_n 0, 1) := by decide +kernel
theorem dX10_alp_19 : decode cX10_alp 19 = .ok (.getfield 28, 3) := by decide +kernel
theorem dX10_alp_22 : decode cX10_alp 22 = .ok (.aload_n 0, 1) := by decide +kernel
theorem dX10_alp_23 : decode cX10_alp 23 = .ok (.getfield 20, 3) := by decide +kernel
theorem dX10_alp_26 : decode cX10_alp 26 = .ok (.iload_n 1, 1) := by decide +kernel
theorem dX10_alp_27 : decode cX10_alp 27 = .ok (.invokevirtual 83, 3) := by decide +kernel
theorem dX10_alp_30 : decode cX10_alp 30 = .ok (.istore_n 2, 1) := by decide +kernel
theorem dX10_alp_31 : decode cX10_alp 31 = .ok (.aload_n 0, 1) := by decide +kernel
theorem dX10_alp_32 : decode cX10_alp 32 = .ok (.iconst 0, 1) := by decide +kernel
theorem dX10_alp_33 : decode cX10_alp 33 = .ok (.putfield 71, 3) := by decide +kernel
theorem dX10_alp_36 : decode cX10_alp 36 = .ok (.aload_n 0, 1) := by decide +kernel
theorem dX10_alp_37 : decode cX10_alp 37 = .ok (.aload_n 0, 1) := by decide +kernel
theorem dX10_alp_38 : decode cX10_alp 38 = .ok (.getfield 28, 3) := by decide +kernel
theorem dX10_alp_41 : decode cX10_alp 41 = .ok (.getfield 87, 3) := by decide +kernel
theorem dX10_alp_44 : decode cX10_alp 44 = .ok (.putfield 90, 3) := by decide +kernel
theorem dX10_alp_47 : decode cX10_alp 47 = .ok (.aload_n 0, 1) := by decide +kernel
theorem dX10_alp_48 : decode cX10_alp 48 = .ok (.aload_n 0, 1) := by decide +kernel
theorem dX10_alp_49 : decode cX10_alp 49 = .ok (.getfield 28, 3) := by decide +kernel
theorem dX10_alp_52 : decode cX10_alp 52 = .ok (.getfield 91, 3) := by decide +kernel
theorem dX10_alp_55 : decode cX10_alp 55 = .ok (.putfield 94, 3) := by decide +kernel
theorem dX10_alp_58 : decode cX10_alp 58 = .ok (.iload_n 2, 1) := by decide +kernel
theorem dX10_alp_59 : decode cX10_alp 59 = .ok (.ifCond .ne 9, 3) := by decide +kernel
theorem dX10_alp_62 : decode cX10_alp 62 = .ok (.aload_n 0, 1) := by decide +kernel
theorem dX10_alp_63 : decode cX10_alp 63 = .ok (.iconst 4, 1) := by decide +kernel
theorem dX10_alp_64 : decode cX10_alp 64 = .ok (.invokevirtual 79, 3) := by decide +kernel
theorem dX10_alp_67 : decode cX10_alp 67 = .ok (.ireturn, 1) := by decide +kernel
theorem dX11_init_0 : decode cX11_init 0 = .ok (.aload_n 0, 1) := by decide +kernel
theorem dX11_init_1 : decode cX11_init 1 = .ok (.invokespecial 3, 3) := by decide +kernel
theorem dX11_init_4 : decode cX11_init 4 = .ok (.aload_n 0, 1) := by decide +kernel
theorem dX11_init_5 : decode cX11_init 5 = .ok (.iconst 5, 1) := by decide +kernel
theorem dX11_init_6 : decode cX11_init 6 = .ok (.newarray .int, 2) := by decide +kernel
theorem dX11_init_8 : decode cX11_init 8 = .ok (.putfield 9, 3) := by decide +kernel
theorem dX11_init_11 : decode cX11_init 11 = .ok (.aload_n 0, 1) := by decide +kernel
theorem dX11_init_12 : decode cX11_init 12 = .ok (.bipush 14, 2) := by decide +kernel
theorem dX11_init_14 : decode cX11_init 14 = .ok (.newarray .int, 2) := by decide +kernel
theorem dX11_init_16 : decode cX11_init 16 = .ok (.putfield 15, 3) := by decide +kernel
theorem dX11_init_19 : decode cX11_init 19 = .ok (.aload_n 0, 1) := by decide +kernel
theorem dX11_init_20 : decode cX11_init 20 = .ok (.bipush 14, 2) := by decide +kernel
theorem dX11_init_22 : decode cX11_init 22 = .ok (.newarray .int, 2) := by decide +kernel
theorem dX11_init_24 : decode cX11_init 24 = .ok (.putfield 18, 3) := by decide +kernel
theorem dX11_init_27 : decode cX11_init 27 = .ok (.aload_n 0, 1) := by decide +kernel
theorem dX11_init_28 : decode cX11_init 28 = .ok (.bipush 14, 2) := by decide +kernel
theorem dX11_init_30 : decode cX11_init 30 = .ok (.newarray .int, 2) := by decide +kernel
theorem dX11_init_32 : decode cX11_init 32 = .ok (.putfield 21, 3) := by decide +kernel
theorem dX11_init_35 : decode cX11_init 35 = .ok (.aload_n 0, 1) := by decide +kernel
theorem dX11_init_36 : decode cX11_init 36 = .ok (.bipush 14, 2) := by decide +kernel
theorem dX11_init_38 : decode cX11_init 38 = .ok (.newarray .int, 2) := by decide +kernel
theorem dX11_init_40 : decode cX11_init 40 = .ok (.putfield 24, 3) := by decide +kernel
theorem dX11_init_43 : decode cX11_init 43 = .ok (.aload_n 0, 1) := by decide +kernel
theorem dX11_init_44 : decode cX11_init 44 = .ok (.bipush 8, 2) := by decide +kernel
theorem dX11_init_46 : decode cX11_init 46 = .ok (.newarray .int, 2) := by decide +kernel
theorem dX11_init_48 : decode cX11_init 48 = .ok (.putfield 27, 3) := by decide +kernel
theorem dX11_init_51 : decode cX11_init 51 = .ok (.aload_n 0, 1) := by decide +kernel
theorem dX11_init_52 : decode cX11_init 52 = .ok (.bipush 8, 2) := by decide +kernel
theorem dX11_init_54 : decode cX11_init 54 = .ok (.newarray .int, 2) := by decide +kernel
theorem dX11_init_56 : decode cX11_init 56 = .ok (.putfield 30, 3) := by decide +kernel
theorem dX11_init_59 : decode cX11_init 59 = .ok (.aload_n 0, 1) := by decide +kernel
theorem dX11_init_60 : decode cX11_init 60 = .ok (.iconst 4, 1) := by decide +kernel
theorem dX11_init_61 : decode cX11_init 61 = .ok (.newarray .int, 2) := by decide +kernel
theorem dX11_init_63 : decode cX11_init 63 = .ok (.putfield 33, 3) := by decide +kernel
theorem dX11_init_66 : decode cX11_init 66 = .ok (.aload_n 0, 1) := by decide +kernel
theorem dX11_init_67 : decode cX11_init 67 = .ok (.bipush 32, 2) := by decide +kernel
theorem dX11_init_69 : decode cX11_init 69 = .ok (.newarray .int, 2) := by decide +kernel
theorem dX11_init_71 : decode cX11_init 71 = .ok (.putfield 36, 3) := by decide +kernel
theorem dX11_init_74 : decode cX11_init 74 = .ok (.aload_n 0, 1) := by decide +kernel
theorem dX11_init_75 : decode cX11_init 75 = .ok (.bipush 8, 2) := by decide +kernel
theorem dX11_init_77 : decode cX11_init 77 = .ok (.newarray .boolean, 2) := by decide +kernel
theorem dX11_init_79 : decode cX11_init 79 = .ok (.putfield 39, 3) := by decide +kernel
theorem dX11_init_82 : decode cX11_init 82 = .ok (.aload_n 0, 1) := by decide +kernel
theorem dX11_init_83 : decode cX11_init 83 = .ok (.iconst 5, 1) := by decide +kernel
theorem dX11_init_84 : decode cX11_init 84 = .ok (.newarray .int, 2) := by decide +kernel
theorem dX11_init_86 : decode cX11_init 86 = .ok (.putfield 43, 3) := by decide +kernel
theorem dX11_init_89 : decode cX11_init 89 = .ok (.aload_n 0, 1) := by decide +kernel
theorem dX11_init_90 : decode cX11_init 90 = .ok (.iconst 5, 1) := by decide +kernel
theorem dX11_init_91 : decode cX11_init 91 = .ok (.newarray .int, 2) := by decide +kernel
theorem dX11_init_93 : decode cX11_init 93 = .ok (.putfield 46, 3) := by decide +kernel
theorem dX11_init_96 : decode cX11_init 96 = .ok (.aload_n 0, 1) := by decide +kernel
theorem dX11_init_97 : decode cX11_init 97 = .ok (.iconst 5, 1) := by decide +kernel
theorem dX11_init_98 : decode cX11_init 98 = .ok (.newarray .int, 2) := by decide +kernel
theorem dX11_init_100 : decode cX11_init 100 = .ok (.putfield 49, 3) := by decide +kernel
theorem dX11_init_103 : decode cX11_init 103 = .ok (.aload_n 0, 1) := by decide +kernel
theorem dX11_init_104 : decode cX11_init 104 = .ok (.iconst 5, 1) := by decide +kernel
theorem dX11_init_105 : decode cX11_init 105 = .ok (.newarray .int, 2) := by decide +kernel
theorem dX11_init_107 : decode cX11_init 107 = .ok (.putfield 52, 3) := by decide +kernel
theorem dX11_init_110 : decode cX11_init 110 = .ok (.aload_n 0, 1) := by decide +kernel
theorem dX11_init_111 : decode cX11_init 111 = .ok (.iconst 5, 1) := by decide +kernel
theorem dX11_init_112 : decode cX11_init 112 = .ok (.newarray .int, 2) := by decide +kernel
theorem dX11_init_114 : decode cX11_init 114 = .ok (.putfield 55, 3) := by decide +kernel
theorem dX11_init_117 : decode cX11_init 117 = .ok (.aload_n 0, 1) := by decide +kernel
theorem dX11_init_118 : decode cX11_init 118 = .ok (.iconst 5, 1) := by decide +kernel
theorem dX11_init_119 : decode cX11_init 119 = .ok (.newarray .int, 2) := by decide +kernel
theorem dX11_init_121 : decode cX11_init 121 = .ok (.putfield 58, 3) := by decide +kernel
theorem dX11_init_124 : decode cX11_init 124 = .ok (.aload_n 0, 1) := by decide +kernel
theorem dX11_init_125 : decode cX11_init 125 = .ok (.bipush 6, 2) := by decide +kernel
theorem dX11_init_127 : decode cX11_init 127 = .ok (.newarray .int, 2) := by decide +kernel
theorem dX11_init_129 : decode cX11_init 129 = .ok (.putfield 61, 3) := by decide +kernel
theorem dX11_init_132 : decode cX11_init 132 = .ok (.aload_n 0, 1) := by decide +kernel
theorem dX11_init_133 : decode cX11_init 133 = .ok (.bipush 6, 2) := by decide +kernel
theorem dX11_init_135 : decode cX11_init 135 = .ok (.newarray .int, 2) := by decide +kernel
theorem dX11_init_137 : decode cX11_init 137 = .ok (.putfield 64, 3) := by decide +kernel
theorem dX11_init_140 : decode cX11_init 140 = .ok (.aload_n 0, 1) := by decide +kernel
theorem dX11_init_141 : decode cX11_init 141 = .ok (.bipush 6, 2) := by decide +kernel
theorem dX11_init_143 : decode cX11_init 143 = .ok (.newarray .int, 2) := by decide +kernel
theorem dX11_init_145 : decode cX11_init 145 = .ok (.putfield 67, 3) := by decide +kernel
theorem dX11_init_148 : decode cX11_init 148 = .ok (.aload_n 0, 1) := by decide +kernel
theorem dX11_init_149 : decode cX11_init 149 = .ok (.bipush 6, 2) := by decide +kernel
theorem dX11_init_151 : decode cX11_init 151 = .ok (.newarray .int, 2) := by decide +kernel
theorem dX11_init_153 : decode cX11_init 153 = .ok (.putfield 70, 3) := by decide +kernel
theorem dX11_init_156 : decode cX11_init 156 = .ok (.aload_n 0, 1) := by decide +kernel
theorem dX11_init_157 : decode cX11_init 157 = .ok (.bipush 13, 2) := by decide +kernel
theorem dX11_init_159 : decode cX11_init 159 = .ok (.newarray .long, 2) := by decide +kernel
theorem dX11_init_161 : decode cX11_init 161 = .ok (.putfield 73, 3) := by decide +kernel
theorem dX11_init_164 : decode cX11_init 164 = .ok (.aload_n 0, 1) := by decide +kernel
theorem dX11_init_165 : decode cX11_init 165 = .ok (.bipush 13, 2) := by decide +kernel
theorem dX11_init_167 : decode cX11_init 167 = .ok (.newarray .int, 2) := by decide +kernel
theorem dX11_init_169 : decode cX11_init 169 = .ok (.putfield 77, 3) := by decide +kernel
theorem dX11_init_172 : decode cX11_init 172 = .ok (.aload_n 0, 1) := by decide +kernel
theorem dX11_init_173 : decode cX11_init 173 = .ok (.bipush 13, 2) := by decide +kernel
theorem dX11_init_175 : decode cX11_init 175 = .ok (.newarray .int, 2) := by decide +kernel
theorem dX11_init_177 : decode cX11_init 177 = .ok (.putfield 80, 3) := by decide +kernel
theorem dX11_init_180 : decode cX11_init 180 = .ok (.return_, 1) := by decide +kernel
theorem dX12_alp_0 : decode cX12_alp 0 = .ok (.aload_n 0, 1) := by decide +kernel
theorem dX12_alp_1 : decode cX12_alp 1 = .ok (.iconst 0, 1) := by decide +kernel
theorem dX12_alp_2 : decode cX12_alp 2 = .ok (.putfield 70, 3) := by decide +kernel
theorem dX12_alp_5 : decode cX12_alp 5 = .ok (.iload_n 1, 1) := by decide +kernel
theorem dX12_alp_6 : decode cX12_alp 6 = .ok (.ifCond .lt 11, 3) := by decide +kernel
theorem dX12_alp_9 : decode cX12_alp 9 = .ok (.iload_n 1, 1) := by decide +kernel
theorem dX12_alp_10 : decode cX12_alp 10 = .ok (.aload_n 0, 1) := by decide +kernel
theorem dX12_alp_11 : decode cX12_alp 11 = .ok (.getfield 378, 3) := by decide +kernel
theorem dX12_alp_14 : decode cX12_alp 14 = .ok (.if_icmp .le 9, 3) := by decide +kernel
theorem dX12_alp_17 : decode cX12_alp 17 = .ok (.aload_n 0, 1) := by decide +kernel
theorem dX12_alp_18 : decode cX12_alp 18 = .ok (.iconst 2, 1) := by decide +kernel
theorem dX12_alp_19 : decode cX12_alp 19 = .ok (.invokevirtual 76, 3) := by decide +kernel
theorem dX12_alp_22 : decode cX12_alp 22 = .ok (.ireturn, 1) := by decide +kernel
theorem dX12_alp_23 : decode cX12_alp 23 = .ok (.aload_n 0, 1) := by decide +kernel
theorem dX12_alp_24 : decode cX12_alp 24 = .ok (.iload_n 1, 1) := by decide +kernel
theorem dX12_alp_25 : decode cX12_alp 25 = .ok (.putfield 84, 3) := by decide +kernel
theorem dX12_alp_28 : decode cX12_alp 28 = .ok (.aload_n 0, 1) := by decide +kernel
theorem dX12_alp_29 : decode cX12_alp 29 = .ok (.iconst 0, 1) := by decide +kernel
theorem dX12_alp_30 : decode cX12_alp 30 = .ok (.putfield 378, 3) := by decide +kernel
theorem dX12_alp_33 : decode cX12_alp 33 = .ok (.aload_n 0, 1) := by decide +kernel
theorem dX12_alp_34 : decode cX12_alp 34 = .ok (.iconst 0, 1) := by decide +kernel
theorem dX12_alp_35 : decode cX12_alp 35 = .ok (.putfield 102, 3) := by decide +kernel
theorem dX12_alp_38 : decode cX12_alp 38 = .ok (.aload_n 0, 1) := by decide +kernel
theorem dX12_alp_39 : decode cX12_alp 39 = .ok (.iconst 0, 1) := by decide +kernel
theorem dX12_alp_40 : decode cX12_alp 40 = .ok (.putfield 128, 3) := by decide +kernel
theorem dX12_alp_43 : decode cX12_alp 43 = .ok (.aload_n 0, 1) := by decide +kernel
theorem dX12_alp_44 : decode cX12_alp 44 = .ok (.new 193, 3) := by decide +kernel
theorem dX12_alp_47 : decode cX12_alp 47 = .ok (.dup, 1) := by decide +kernel
theorem dX12_alp_48 : decode cX12_alp 48 = .ok (.invokespecial 381, 3) := by decide +kernel
theorem dX12_alp_51 : decode cX12_alp 51 = .ok (.putfield 188, 3) := by decide +kernel
theorem dX12_alp_54 : decode cX12_alp 54 = .ok (.aload_n 0, 1) := by decide +kernel
theorem dX12_alp_55 : decode cX12_alp 55 = .ok (.iconst 0, 1) := by decide +kernel
theorem dX12_alp_56 : decode cX12_alp 56 = .ok (.putfield 99, 3) := by decide +kernel
theorem dX12_alp_59 : decode cX12_alp 59 = .ok (.aload_n 0, 1) := by decide +kernel
theorem dX12_alp_60 : decode cX12_alp 60 = .ok (.invokevirtual 142, 3) := by decide +kernel
theorem dX12_alp_63 : decode cX12_alp 63 = .ok (.aload_n 0, 1) := by decide +kernel
theorem dX12_alp_64 : decode cX12_alp 64 = .ok (.invokevirtual 382, 3) := by decide +kernel
theorem dX12_alp_67 : decode cX12_alp 67 = .ok (.aload_n 0, 1) := by decide +kernel
theorem dX12_alp_68 : decode cX12_alp 68 = .ok (.getfield 128, 3) := by decide +kernel
theorem dX12_alp_71 : decode cX12_alp 71 = .ok (.ifCond .le 18, 3) := by decide +kernel
theorem dX12_alp_74 : decode cX12_alp 74 = .ok (.aload_n 0, 1) := by decide +kernel
theorem dX12_alp_75 : decode cX12_alp 75 = .ok (.iconst 4, 1) := by decide +kernel
theorem dX12_alp_76 : decode cX12_alp 76 = .ok (.putfield 73, 3) := by decide +kernel
theorem dX12_alp_79 : decode cX12_alp 79 = .ok (.aload_n 0, 1) := by decide +kernel
theorem dX12_alp_80 : decode cX12_alp 80 = .ok (.aload_n 0, 1) := by decide +kernel
theorem dX12_alp_81 : decode cX12_alp 81 = .ok (.getfield 131, 3) := by decide +kernel
theorem dX12_alp_84 : decode cX12_alp 84 = .ok (.putfield 9, 3) := by decide +kernel
theorem dX12_alp_87 : decode cX12_alp 87 = .ok (.iconst (-1), 1) := by decide +kernel
theorem dX12_alp_88 : decode cX12_alp 88 = .ok (.ireturn, 1) := by decide +kernel
theorem dX12_byteAt_0 : decode cX12_byteAt 0 = .ok (.iload_n 1, 1) := by decide +kernel
theorem dX12_byteAt_1 : decode cX12_byteAt 1 = .ok (.aload_n 0, 1) := by decide +kernel
theorem dX12_byteAt_2 : decode cX12_byteAt 2 = .ok (.getfield 84, 3) := by decide +kernel
theorem dX12_byteAt_5 : decode cX12_byteAt 5 = .ok (.if_icmp .ge 16, 3) := by decide +kernel
theorem dX12_byteAt_21 : decode cX12_byteAt 21 = .ok (.iconst (-1), 1) := by decide +kernel
theorem dX12_byteAt_22 : decode cX12_byteAt 22 = .ok (.ireturn, 1) := by decide +kernel
theorem dX12_eatsSign_0 : decode cX12_eatsSign 0 = .ok (.aload_n 0, 1) := by decide +kernel
theorem dX12_eatsSign_1 : decode cX12_eatsSign 1 = .ok (.getfield 99, 3) := by decide +kernel
theorem dX12_eatsSign_4 : decode cX12_eatsSign 4 = .ok (.iconst 4, 1) := by decide +kernel
theorem dX12_eatsSign_5 : decode cX12_eatsSign 5 = .ok (.if_icmp .ne 15, 3) := by decide +kernel
theorem dX12_eatsSign_20 : decode cX12_eatsSign 20 = .ok (.iconst 0, 1) := by decide +kernel
theorem dX12_eatsSign_21 : decode cX12_eatsSign 21 = .ok (.istore_n 2, 1) := by decide +kernel
theorem dX12_eatsSign_22 : decode cX12_eatsSign 22 = .ok (.iload_n 2, 1) := by decide +kernel
theorem dX12_eatsSign_23 : decode cX12_eatsSign 23 = .ok (.ifCond .eq 7, 3) := by decide +kernel
theorem dX12_eatsSign_30 : decode cX12_eatsSign 30 = .ok (.iload_n 2, 1) := by decide +kernel
theorem dX12_eatsSign_31 : decode cX12_eatsSign 31 = .ok (.ireturn, 1) := by decide +kernel
theorem dX12_flaw_0 : decode cX12_flaw 0 = .ok (.aload_n 0, 1) := by decide +kernel
theorem dX12_flaw_1 : decode cX12_flaw 1 = .ok (.getfield 99, 3) := by decide +kernel
theorem dX12_flaw_4 : decode cX12_flaw 4 = .ok (.iconst 5, 1) := by decide +kernel
theorem dX12_flaw_5 : decode cX12_flaw 5 = .ok (.if_icmp .ne 4, 3) := by decide +kernel
theorem dX12_flaw_8 : decode cX12_flaw 8 = .ok (.return_, 1) := by decide +kernel
theorem dX12_flaw_9 : decode cX12_flaw 9 = .ok (.aload_n 0, 1) := by decide +kernel
theorem dX12_flaw_10 : decode cX12_flaw 10 = .ok (.iload_n 1, 1) := by decide +kernel
theorem dX12_flaw_11 : decode cX12_flaw 11 = .ok (.putfield 128, 3) := by decide +kernel
theorem dX12_flaw_14 : decode cX12_flaw 14 = .ok (.aload_n 0, 1) := by decide +kernel
theorem dX12_flaw_15 : decode cX12_flaw 15 = .ok (.aload_n 0, 1) := by decide +kernel
theorem dX12_flaw_16 : decode cX12_flaw 16 = .ok (.getfield 108, 3) := by decide +kernel
theorem dX12_flaw_19 : decode cX12_flaw 19 = .ok (.putfield 131, 3) := by decide +kernel
theorem dX12_flaw_22 : decode cX12_flaw 22 = .ok (.aload_n 0, 1) := by decide +kernel
theorem dX12_flaw_23 : decode cX12_flaw 23 = .ok (.iconst 5, 1) := by decide +kernel
theorem dX12_flaw_24 : decode cX12_flaw 24 = .ok (.putfield 99, 3) := by decide +kernel
theorem dX12_flaw_27 : decode cX12_flaw 27 = .ok (.return_, 1) := by decide +kernel
theorem dX12_goesOn_0 : decode cX12_goesOn 0 = .ok (.aload_n 0, 1) := by decide +kernel
theorem dX12_goesOn_1 : decode cX12_goesOn 1 = .ok (.getfield 99, 3) := by decide +kernel
theorem dX12_goesOn_4 : decode cX12_goesOn 4 = .ok (.iconst 5, 1) := by decide +kernel
theorem dX12_goesOn_5 : decode cX12_goesOn 5 = .ok (.if_icmp .ne 4, 3) := by decide +kernel
theorem dX12_goesOn_9 : decode cX12_goesOn 9 = .ok (.aload_n 0, 1) := by decide +kernel
theorem dX12_goesOn_10 : decode cX12_goesOn 10 = .ok (.aload_n 0, 1) := by decide +kernel
theorem dX12_goesOn_11 : decode cX12_goesOn 11 = .ok (.getfield 102, 3) := by decide +kernel
theorem dX12_goesOn_14 : decode cX12_goesOn 14 = .ok (.invokevirtual 105, 3) := by decide +kernel
theorem dX12_goesOn_17 : decode cX12_goesOn 17 = .ok (.bipush 32, 2) := by decide +kernel
theorem dX12_goesOn_19 : decode cX12_goesOn 19 = .ok (.if_icmp .ne 16, 3) := by decide +kernel
theorem dX12_goesOn_35 : decode cX12_goesOn 35 = .ok (.aload_n 0, 1) := by decide +kernel
theorem dX12_goesOn_36 : decode cX12_goesOn 36 = .ok (.aload_n 0, 1) := by decide +kernel
theorem dX12_goesOn_37 : decode cX12_goesOn 37 = .ok (.getfield 102, 3) := by decide +kernel
theorem dX12_goesOn_40 : decode cX12_goesOn 40 = .ok (.putfield 108, 3) := by decide +kernel
theorem dX12_goesOn_43 : decode cX12_goesOn 43 = .ok (.aload_n 0, 1) := by decide +kernel
theorem dX12_goesOn_44 : decode cX12_goesOn 44 = .ok (.iconst 0, 1) := by decide +kernel
theorem dX12_goesOn_45 : decode cX12_goesOn 45 = .ok (.putfield 99, 3) := by decide +kernel
theorem dX12_goesOn_48 : decode cX12_goesOn 48 = .ok (.aload_n 0, 1) := by decide +kernel
theorem dX12_goesOn_49 : decode cX12_goesOn 49 = .ok (.iconst 0, 1) := by decide +kernel
theorem dX12_goesOn_50 : decode cX12_goesOn 50 = .ok (.putfield 111, 3) := by decide +kernel
theorem dX12_goesOn_53 : decode cX12_goesOn 53 = .ok (.aload_n 0, 1) := by decide +kernel
theorem dX12_goesOn_54 : decode cX12_goesOn 54 = .ok (.aload_n 0, 1) := by decide +kernel
theorem dX12_goesOn_55 : decode cX12_goesOn 55 = .ok (.getfield 102, 3) := by decide +kernel
theorem dX12_goesOn_58 : decode cX12_goesOn 58 = .ok (.invokevirtual 105, 3) := by decide +kernel
theorem dX12_goesOn_61 : decode cX12_goesOn 61 = .ok (.istore_n 1, 1) := by decide +kernel
theorem dX12_goesOn_62 : decode cX12_goesOn 62 = .ok (.iconst 0, 1) := by decide +kernel
theorem dX12_goesOn_63 : decode cX12_goesOn 63 = .ok (.istore_n 2, 1) := by decide +kernel
theorem dX12_goesOn_64 : decode cX12_goesOn 64 = .ok (.iload_n 1, 1) := by decide +kernel
theorem dX12_goesOn_65 : decode cX12_goesOn 65 = .ok (.iconst (-1), 1) := by decide +kernel
theorem dX12_goesOn_66 : decode cX12_goesOn 66 = .ok (.if_icmp .ne 11, 3) := by decide +kernel
theorem dX12_goesOn_69 : decode cX12_goesOn 69 = .ok (.aload_n 0, 1) := by decide +kernel
theorem dX12_goesOn_70 : decode cX12_goesOn 70 = .ok (.iconst 1, 1) := by decide +kernel
theorem dX12_goesOn_71 : decode cX12_goesOn 71 = .ok (.putfield 99, 3) := by decide +kernel
theorem dX12_goesOn_74 : decode cX12_goesOn 74 = .ok (.goto 207, 3) := by decide +kernel
theorem dX12_goesOn_281 : decode cX12_goesOn 281 = .ok (.return_, 1) := by decide +kernel
theorem dX12_isWord_0 : decode cX12_isWord 0 = .ok (.aload_n 0, 1) := by decide +kernel
theorem dX12_isWord_1 : decode cX12_isWord 1 = .ok (.getfield 99, 3) := by decide +kernel
theorem dX12_isWord_4 : decode cX12_isWord 4 = .ok (.iconst 2, 1) := by decide +kernel
theorem dX12_isWord_5 : decode cX12_isWord 5 = .ok (.if_icmp .ne 19, 3) := by decide +kernel
theorem dX12_isWord_24 : decode cX12_isWord 24 = .ok (.iconst 0, 1) := by decide +kernel
theorem dX12_isWord_25 : decode cX12_isWord 25 = .ok (.ireturn, 1) := by decide +kernel
theorem dX12_readAll_0 : decode cX12_readAll 0 = .ok (.iconst 1, 1) := by decide +kernel
theorem dX12_readAll_1 : decode cX12_readAll 1 = .ok (.istore_n 1, 1) := by decide +kernel
theorem dX12_readAll_2 : decode cX12_readAll 2 = .ok (.iload_n 1, 1) := by decide +kernel
theorem dX12_readAll_3 : decode cX12_readAll 3 = .ok (.ifCond .eq 17, 3) := by decide +kernel
theorem dX12_readAll_6 : decode cX12_readAll 6 = .ok (.aload_n 0, 1) := by decide +kernel
theorem dX12_readAll_7 : decode cX12_readAll 7 = .ok (.invokevirtual 218, 3) := by decide +kernel
theorem dX12_readAll_10 : decode cX12_readAll 10 = .ok (.aload_n 0, 1) := by decide +kernel
theorem dX12_readAll_11 : decode cX12_readAll 11 = .ok (.bipush 59, 2) := by decide +kernel
theorem dX12_readAll_13 : decode cX12_readAll 13 = .ok (.invokevirtual 221, 3) := by decide +kernel
theorem dX12_readAll_16 : decode cX12_readAll 16 = .ok (.istore_n 1, 1) := by decide +kernel
theorem dX12_readAll_17 : decode cX12_readAll 17 = .ok (.goto (-15), 3) := by decide +kernel
theorem dX12_readAll_20 : decode cX12_readAll 20 = .ok (.aload_n 0, 1) := by decide +kernel
theorem dX12_readAll_21 : decode cX12_readAll 21 = .ok (.getfield 99, 3) := by decide +kernel
theorem dX12_readAll_24 : decode cX12_readAll 24 = .ok (.iconst 1, 1) := by decide +kernel
theorem dX12_readAll_25 : decode cX12_readAll 25 = .ok (.if_icmp .eq 8, 3) := by decide +kernel
theorem dX12_readAll_28 : decode cX12_readAll 28 = .ok (.aload_n 0, 1) := by decide +kernel
theorem dX12_readAll_29 : decode cX12_readAll 29 = .ok (.iconst 1, 1) := by decide +kernel
theorem dX12_readAll_30 : decode cX12_readAll 30 = .ok (.invokevirtual 145, 3) := by decide +kernel
theorem dX12_readAll_33 : decode cX12_readAll 33 = .ok (.aload_n 0, 1) := by decide +kernel
theorem dX12_readAll_34 : decode cX12_readAll 34 = .ok (.getfield 188, 3) := by decide +kernel
theorem dX12_readAll_37 : decode cX12_readAll 37 = .ok (.getfield 192, 3) := by decide +kernel
theorem dX12_readAll_40 : decode cX12_readAll 40 = .ok (.ifCond .eq 13, 3) := by decide +kernel
theorem dX12_readAll_53 : decode cX12_readAll 53 = .ok (.aload_n 0, 1) := by decide +kernel
theorem dX12_readAll_54 : decode cX12_readAll 54 = .ok (.bipush 6, 2) := by decide +kernel
theorem dX12_readAll_56 : decode cX12_readAll 56 = .ok (.invokevirtual 145, 3) := by decide +kernel
theorem dX12_readAll_59 : decode cX12_readAll 59 = .ok (.return_, 1) := by decide +kernel
theorem dX12_readLine_0 : decode cX12_readLine 0 = .ok (.aload_n 0, 1) := by decide +kernel
theorem dX12_readLine_1 : decode cX12_readLine 1 = .ok (.ldc 164, 2) := by decide +kernel
theorem dX12_readLine_3 : decode cX12_readLine 3 = .ok (.invokevirtual 138, 3) := by decide +kernel
theorem dX12_readLine_6 : decode cX12_readLine 6 = .ok (.ifCond .eq 10, 3) := by decide +kernel
theorem dX12_readLine_16 : decode cX12_readLine 16 = .ok (.aload_n 0, 1) := by decide +kernel
theorem dX12_readLine_17 : decode cX12_readLine 17 = .ok (.ldc 166, 2) := by decide +kernel
theorem dX12_readLine_19 : decode cX12_readLine 19 = .ok (.invokevirtual 138, 3) := by decide +kernel
theorem dX12_readLine_22 : decode cX12_readLine 22 = .ok (.ifCond .eq 11, 3) := by decide +kernel
theorem dX12_readLine_33 : decode cX12_readLine 33 = .ok (.aload_n 0, 1) := by decide +kernel
theorem dX12_readLine_34 : decode cX12_readLine 34 = .ok (.ldc 168, 2) := by decide +kernel
theorem dX12_readLine_36 : decode cX12_readLine 36 = .ok (.invokevirtual 138, 3) := by decide +kernel
theorem dX12_readLine_39 : decode cX12_readLine 39 = .ok (.ifCond .eq 11, 3) := by decide +kernel
theorem dX12_readLine_50 : decode cX12_readLine 50 = .ok (.aload_n 0, 1) := by decide +kernel
theorem dX12_readLine_51 : decode cX12_readLine 51 = .ok (.ldc 170, 2) := by decide +kernel
theorem dX12_readLine_53 : decode cX12_readLine 53 = .ok (.invokevirtual 138, 3) := by decide +kernel
theorem dX12_readLine_56 : decode cX12_readLine 56 = .ok (.ifCond .eq 11, 3) := by decide +kernel
theorem dX12_readLine_67 : decode cX12_readLine 67 = .ok (.aload_n 0, 1) := by decide +kernel
theorem dX12_readLine_68 : decode cX12_readLine 68 = .ok (.ldc 172, 2) := by decide +kernel
theorem dX12_readLine_70 : decode cX12_readLine 70 = .ok (.invokevirtual 138, 3) := by decide +kernel
theorem dX12_readLine_73 : decode cX12_readLine 73 = .ok (.ifCond .eq 11, 3) := by decide +kernel
theorem dX12_readLine_84 : decode cX12_readLine 84 = .ok (.aload_n 0, 1) := by decide +kernel
theorem dX12_readLine_85 : decode cX12_readLine 85 = .ok (.ldc 174, 2) := by decide +kernel
theorem dX12_readLine_87 : decode cX12_readLine 87 = .ok (.invokevirtual 138, 3) := by decide +kernel
theorem dX12_readLine_90 : decode cX12_readLine 90 = .ok (.ifCond .eq 11, 3) := by decide +kernel
theorem dX12_readLine_101 : decode cX12_readLine 101 = .ok (.aload_n 0, 1) := by decide +kernel
theorem dX12_readLine_102 : decode cX12_readLine 102 = .ok (.ldc 176, 2) := by decide +kernel
theorem dX12_readLine_104 : decode cX12_readLine 104 = .ok (.invokevirtual 138, 3) := by decide +kernel
theorem dX12_readLine_107 : decode cX12_readLine 107 = .ok (.ifCond .eq 10, 3) := by decide +kernel
theorem dX12_readLine_117 : decode cX12_readLine 117 = .ok (.aload_n 0, 1) := by decide +kernel
theorem dX12_readLine_118 : decode cX12_readLine 118 = .ok (.ldc 178, 2) := by decide +kernel
theorem dX12_readLine_120 : decode cX12_readLine 120 = .ok (.invokevirtual 138, 3) := by decide +kernel
theorem dX12_readLine_123 : decode cX12_readLine 123 = .ok (.ifCond .eq 10, 3) := by decide +kernel
theorem dX12_readLine_133 : decode cX12_readLine 133 = .ok (.aload_n 0, 1) := by decide +kernel
theorem dX12_readLine_134 : decode cX12_readLine 134 = .ok (.ldc 180, 2) := by decide +kernel
theorem dX12_readLine_136 : decode cX12_readLine 136 = .ok (.invokevirtual 138, 3) := by decide +kernel
theorem dX12_readLine_139 : decode cX12_readLine 139 = .ok (.ifCond .eq 10, 3) := by decide +kernel
theorem dX12_readLine_149 : decode cX12_readLine 149 = .ok (.aload_n 0, 1) := by decide +kernel
theorem dX12_readLine_150 : decode cX12_readLine 150 = .ok (.ldc 182, 2) := by decide +kernel
theorem dX12_readLine_152 : decode cX12_readLine 152 = .ok (.invokevirtual 138, 3) := by decide +kernel
theorem dX12_readLine_155 : decode cX12_readLine 155 = .ok (.ifCond .eq 10, 3) := by decide +kernel
theorem dX12_readLine_165 : decode cX12_readLine 165 = .ok (.aload_n 0, 1) := by decide +kernel
theorem dX12_readLine_166 : decode cX12_readLine 166 = .ok (.ldc 184, 2) := by decide +kernel
theorem dX12_readLine_168 : decode cX12_readLine 168 = .ok (.invokevirtual 138, 3) := by decide +kernel
theorem dX12_readLine_171 : decode cX12_readLine 171 = .ok (.ifCond .eq 10, 3) := by decide +kernel
theorem dX12_readLine_181 : decode cX12_readLine 181 = .ok (.aload_n 0, 1) := by decide +kernel
theorem dX12_readLine_182 : decode cX12_readLine 182 = .ok (.iconst 1, 1) := by decide +kernel
theorem dX12_readLine_183 : decode cX12_readLine 183 = .ok (.invokevirtual 145, 3) := by decide +kernel
theorem dX12_readLine_186 : decode cX12_readLine 186 = .ok (.return_, 1) := by decide +kernel
theorem dX7_fail_0 : decode cX7_fail 0 = .ok (.aload_n 0, 1) := by decide +kernel
theorem dX7_fail_1 : decode cX7_fail 1 = .ok (.iload_n 1, 1) := by decide +kernel
theorem dX7_fail_2 : decode cX7_fail 2 = .ok (.putfield 38, 3) := by decide +kernel
theorem dX7_fail_5 : decode cX7_fail 5 = .ok (.aload_n 0, 1) := by decide +kernel
theorem dX7_fail_6 : decode cX7_fail 6 = .ok (.aload_n 0, 1) := by decide +kernel
theorem dX7_fail_7 : decode cX7_fail 7 = .ok (.getfield 68, 3) := by decide +kernel
theorem dX7_fail_10 : decode cX7_fail 10 = .ok (.putfield 42, 3) := by decide +kernel
theorem dX7_fail_13 : decode cX7_fail 13 = .ok (.iconst 0, 1) := by decide +kernel
theorem dX7_fail_14 : decode cX7_fail 14 = .ok (.ireturn, 1) := by decide +kernel
theorem dX7_readAll_0 : decode cX7_readAll 0 = .ok (.aload_n 0, 1) := by decide +kernel
theorem dX7_readAll_1 : decode cX7_readAll 1 = .ok (.aload_n 1, 1) := by decide +kernel
theorem dX7_readAll_2 : decode cX7_readAll 2 = .ok (.putfield 22, 3) := by decide +kernel
theorem dX7_readAll_5 : decode cX7_readAll 5 = .ok (.aload_n 0, 1) := by decide +kernel
theorem dX7_readAll_6 : decode cX7_readAll 6 = .ok (.getfield 22, 3) := by decide +kernel
theorem dX7_readAll_9 : decode cX7_readAll 9 = .ok (.invokevirtual 26, 3) := by decide +kernel
theorem dX7_readAll_12 : decode cX7_readAll 12 = .ok (.aload_n 0, 1) := by decide +kernel
theorem dX7_readAll_13 : decode cX7_readAll 13 = .ok (.iconst 0, 1) := by decide +kernel
theorem dX7_readAll_14 : decode cX7_readAll 14 = .ok (.putfield 31, 3) := by decide +kernel
theorem dX7_readAll_17 : decode cX7_readAll 17 = .ok (.aload_n 0, 1) := by decide +kernel
theorem dX7_readAll_18 : decode cX7_readAll 18 = .ok (.iconst 0, 1) := by decide +kernel
theorem dX7_readAll_19 : decode cX7_readAll 19 = .ok (.putfield 35, 3) := by decide +kernel
theorem dX7_readAll_22 : decode cX7_readAll 22 = .ok (.aload_n 0, 1) := by decide +kernel
theorem dX7_readAll_23 : decode cX7_readAll 23 = .ok (.iconst 0, 1) := by decide +kernel
theorem dX7_readAll_24 : decode cX7_readAll 24 = .ok (.putfield 38, 3) := by decide +kernel
theorem dX7_readAll_27 : decode cX7_readAll 27 = .ok (.aload_n 0, 1) := by decide +kernel
theorem dX7_readAll_28 : decode cX7_readAll 28 = .ok (.iconst (-1), 1) := by decide +kernel
theorem dX7_readAll_29 : decode cX7_readAll 29 = .ok (.putfield 42, 3) := by decide +kernel
theorem dX7_readAll_32 : decode cX7_readAll 32 = .ok (.aload_n 0, 1) := by decide +kernel
theorem dX7_readAll_33 : decode cX7_readAll 33 = .ok (.iload_n 2, 1) := by decide +kernel
theorem dX7_readAll_34 : decode cX7_readAll 34 = .ok (.putfield 45, 3) := by decide +kernel
theorem dX7_readAll_37 : decode cX7_readAll 37 = .ok (.aload_n 0, 1) := by decide +kernel
theorem dX7_readAll_38 : decode cX7_readAll 38 = .ok (.iconst 0, 1) := by decide +kernel
theorem dX7_readAll_39 : decode cX7_readAll 39 = .ok (.putfield 48, 3) := by decide +kernel
theorem dX7_readAll_42 : decode cX7_readAll 42 = .ok (.aload_n 0, 1) := by decide +kernel
theorem dX7_readAll_43 : decode cX7_readAll 43 = .ok (.invokevirtual 51, 3) := by decide +kernel
theorem dX7_readAll_46 : decode cX7_readAll 46 = .ok (.iconst 0, 1) := by decide +kernel
theorem dX7_readAll_47 : decode cX7_readAll 47 = .ok (.istore_n 3, 1) := by decide +kernel
theorem dX7_readAll_48 : decode cX7_readAll 48 = .ok (.iload_n 3, 1) := by decide +kernel
theorem dX7_readAll_49 : decode cX7_readAll 49 = .ok (.sipush 900, 3) := by decide +kernel
theorem dX7_readAll_52 : decode cX7_readAll 52 = .ok (.if_icmp .gt 68, 3) := by decide +kernel
theorem dX7_readAll_55 : decode cX7_readAll 55 = .ok (.aload_n 0, 1) := by decide +kernel
theorem dX7_readAll_56 : decode cX7_readAll 56 = .ok (.invokevirtual 54, 3) := by decide +kernel
theorem dX7_readAll_59 : decode cX7_readAll 59 = .ok (.ifCond .ne 5, 3) := by decide +kernel
theorem dX7_readAll_62 : decode cX7_readAll 62 = .ok (.iconst 0, 1) := by decide +kernel
theorem dX7_readAll_63 : decode cX7_readAll 63 = .ok (.ireturn, 1) := by decide +kernel
theorem dX7_readLine_0 : decode cX7_readLine 0 = .ok (.aload_n 0, 1) := by decide +kernel
theorem dX7_readLine_1 : decode cX7_readLine 1 = .ok (.invokevirtual 168, 3) := by decide +kernel
theorem dX7_readLine_4 : decode cX7_readLine 4 = .ok (.istore_n 1, 1) := by decide +kernel
theorem dX7_readLine_5 : decode cX7_readLine 5 = .ok (.iload_n 1, 1) := by decide +kernel
theorem dX7_readLine_6 : decode cX7_readLine 6 = .ok (.iconst (-1), 1) := by decide +kernel
theorem dX7_readLine_7 : decode cX7_readLine 7 = .ok (.if_icmp .ne 9, 3) := by decide +kernel
theorem dX7_readLine_10 : decode cX7_readLine 10 = .ok (.aload_n 0, 1) := by decide +kernel
theorem dX7_readLine_11 : decode cX7_readLine 11 = .ok (.iconst 1, 1) := by decide +kernel
theorem dX7_readLine_12 : decode cX7_readLine 12 = .ok (.invokevirtual 64, 3) := by decide +kernel
theorem dX7_readLine_15 : decode cX7_readLine 15 = .ok (.ireturn, 1) := by decide +kernel
theorem dX7_sortOfWord_0 : decode cX7_sortOfWord 0 = .ok (.iconst 0, 1) := by decide +kernel
theorem dX7_sortOfWord_1 : decode cX7_sortOfWord 1 = .ok (.istore_n 1, 1) := by decide +kernel
theorem dX7_sortOfWord_2 : decode cX7_sortOfWord 2 = .ok (.iload_n 1, 1) := by decide +kernel
theorem dX7_sortOfWord_3 : decode cX7_sortOfWord 3 = .ok (.bipush 10, 2) := by decide +kernel
theorem dX7_sortOfWord_5 : decode cX7_sortOfWord 5 = .ok (.if_icmp .gt 34, 3) := by decide +kernel
theorem dX7_sortOfWord_8 : decode cX7_sortOfWord 8 = .ok (.aload_n 0, 1) := by decide +kernel
theorem dX7_sortOfWord_9 : decode cX7_sortOfWord 9 = .ok (.getfield 58, 3) := by decide +kernel
theorem dX7_sortOfWord_12 : decode cX7_sortOfWord 12 = .ok (.iconst 1, 1) := by decide +kernel
theorem dX7_sortOfWord_13 : decode cX7_sortOfWord 13 = .ok (.if_icmp .ne 20, 3) := by decide +kernel
theorem dX7_sortOfWord_33 : decode cX7_sortOfWord 33 = .ok (.iinc 1 1, 3) := by decide +kernel
theorem dX7_sortOfWord_36 : decode cX7_sortOfWord 36 = .ok (.goto (-34), 3) := by decide +kernel
theorem dX7_sortOfWord_39 : decode cX7_sortOfWord 39 = .ok (.iconst (-1), 1) := by decide +kernel
theorem dX7_sortOfWord_40 : decode cX7_sortOfWord 40 = .ok (.ireturn, 1) := by decide +kernel
theorem dX7_step_0 : decode cX7_step 0 = .ok (.aload_n 0, 1) := by decide +kernel
theorem dX7_step_1 : decode cX7_step 1 = .ok (.getfield 48, 3) := by decide +kernel
theorem dX7_step_4 : decode cX7_step 4 = .ok (.aload_n 0, 1) := by decide +kernel
theorem dX7_step_5 : decode cX7_step 5 = .ok (.getfield 45, 3) := by decide +kernel
theorem dX7_step_8 : decode cX7_step 8 = .ok (.if_icmp .ge 30, 3) := by decide +kernel
theorem dX7_step_38 : decode cX7_step 38 = .ok (.aload_n 0, 1) := by decide +kernel
theorem dX7_step_39 : decode cX7_step 39 = .ok (.aload_n 0, 1) := by decide +kernel
theorem dX7_step_40 : decode cX7_step 40 = .ok (.getfield 48, 3) := by decide +kernel
theorem dX7_step_43 : decode cX7_step 43 = .ok (.putfield 68, 3) := by decide +kernel
theorem dX7_step_46 : decode cX7_step 46 = .ok (.aload_n 0, 1) := by decide +kernel
theorem dX7_step_47 : decode cX7_step 47 = .ok (.getfield 48, 3) := by decide +kernel
theorem dX7_step_50 : decode cX7_step 50 = .ok (.aload_n 0, 1) := by decide +kernel
theorem dX7_step_51 : decode cX7_step 51 = .ok (.getfield 45, 3) := by decide +kernel
theorem dX7_step_54 : decode cX7_step 54 = .ok (.if_icmp .lt 9, 3) := by decide +kernel
theorem dX7_step_57 : decode cX7_step 57 = .ok (.aload_n 0, 1) := by decide +kernel
theorem dX7_step_58 : decode cX7_step 58 = .ok (.iconst 0, 1) := by decide +kernel
theorem dX7_step_59 : decode cX7_step 59 = .ok (.putfield 58, 3) := by decide +kernel
theorem dX7_step_62 : decode cX7_step 62 = .ok (.return_, 1) := by decide +kernel
set_option maxHeartbeats 4000000 in
set_option maxRecDepth 100000 in
theorem fX10_alp (a : Int32) {l : Launch} {K N : Nat → Nat} {I : cz_I} {R : cz_R} {L : cz_L} (hf : cz_f1 K N I R) : Con l mX10_alp [.ref 0, .int a] 203 K N I R L (fun r cn' K' N' I' R' _ => r = some (.int ((-1))) ∧ cn' = 203 ∧ K' = K ∧ N' = N ∧ ∀ k : Nat, 183 ≤ k → I' k = I k ∧ R' k = R k) := by
  obtain ⟨hK, hN, hR, hI⟩ := hf
  refine Con.of (by decide +kernel) rfl (Nat.le_of_ble_eq_true rfl) rfl (fun X1 hX1 zX1 => ?_)
  refine tr_iload_n dX10_alp_0 rfl ?_
  refine tr_if_lt 12 dX10_alp_1 (by decide) (fun q2 => ?_) (fun q2 => ?_)
  · skip
    refine tr_aload_n dX10_alp_12 rfl ?_
    refine tr_iconst (v := 2) dX10_alp_13 (by decide +kernel) ?_
    refine tr_inVi (M' := mX10_refused) (as := [_]) dX10_alp_14 lk10_79 inX10_refused seX10_refused myX10_refused (by decide) ⟨by decide, by decide⟩ rfl (hK 0 10 (by decide) kd_0) (Nat.le_of_ble_eq_true rfl) (by decide) (by decide) (Con.of (by decide +kernel) rfl (Nat.le_of_ble_eq_true rfl) rfl (fun X3 hX3 zX3 => ?_))
    refine tr_aload_n dX10_refused_0 rfl ?_
    refine tr_iload_n dX10_refused_1 rfl ?_
    refine tr_putI dX10_refused_2 fl10_112 (hK 0 10 (by decide) kd_0) (Or.inl rfl) ?_
    refine tr_iconst (v := (-1)) dX10_refused_5 (by decide +kernel) ?_
    refine tr_iret zX3 dX10_refused_6 rfl (by decide) (by decide) ⟨_, rfl, ?_⟩
    exact tr_iret zX1 dX10_alp_17 rfl (by decide) (by decide) ⟨rfl, rfl, rfl, rfl, fun k hk => ⟨by first | rfl | (repeat rw [cz_uIn (by omega)]), by first | rfl | (repeat rw [cz_uRn (by omega)])⟩⟩
  · skip
    refine tr_iload_n dX10_alp_4 rfl ?_
    refine tr_aload_n dX10_alp_5 rfl ?_
    refine tr_getI dX10_alp_6 fl10_71 (hK 0 10 (by decide) kd_0) ?_
    refine tr_topi 0 (hI 0 1 (by decide +kernel)) ?_
    refine tr_icmp_le 18 dX10_alp_9 (by decide) (fun q4 => ?_) (fun q4 => ?_)
    · skip
      obtain rfl : a = 0 := by
        have e0 : ((0 : Int32)).toInt = 0 := by decide +kernel
        rw [← Int32.toInt_inj]
        simp only [Int32.lt_iff_toInt_lt, Int32.le_iff_toInt_le, ← Int32.toInt_inj] at q2
        simp only [Int32.lt_iff_toInt_lt, Int32.le_iff_toInt_le, ← Int32.toInt_inj] at q4
        omega
      refine tr_aload_n dX10_alp_18 rfl ?_
      refine tr_getR (x := 86) dX10_alp_19 fl10_28 (hK 0 10 (by decide) kd_0) (hR 0 4 (some 86) (by decide +kernel) rf_0_4) ?_
      refine tr_aload_n dX10_alp_22 rfl ?_
      refine tr_getR (x := 44) dX10_alp_23 fl10_20 (hK 0 10 (by decide) kd_0) (hR 0 3 (some 44) (by decide +kernel) rf_0_3) ?_
      refine tr_iload_n dX10_alp_26 rfl ?_
      refine tr_inVi (M' := mX7_readAll) (as := [_, _]) dX10_alp_27 lk10_83 inX7_readAll seX7_readAll myX7_readAll (by decide) ⟨by decide, by decide⟩ rfl (hK 86 7 (by decide) kd_86) (Nat.le_of_ble_eq_true rfl) (by decide) (by decide) (Con.of (by decide +kernel) rfl (Nat.le_of_ble_eq_true rfl) rfl (fun X5 hX5 zX5 => ?_))
      refine tr_aload_n dX7_readAll_0 rfl ?_
      refine tr_aload_n dX7_readAll_1 rfl ?_
      refine tr_putR dX7_readAll_2 fl7_22 (hK 86 7 (by decide) kd_86) (Or.inl rfl) ?_
      refine tr_aload_n dX7_readAll_5 rfl ?_
      refine tr_getR (x := 44) dX7_readAll_6 fl7_22 (hK 86 7 (by decide) kd_86) rfl ?_
      refine tr_inVv (M' := mX0_clear) (as := []) dX7_readAll_9 lk7_26 inX0_clear seX0_clear myX0_clear (by decide) ⟨by decide, by decide⟩ rfl (hK 44 0 (by decide) kd_44) (Nat.le_of_ble_eq_true rfl) (by decide) (by decide) (Con.of (by decide +kernel) rfl (Nat.le_of_ble_eq_true rfl) rfl (fun X6 hX6 zX6 => ?_))
      refine tr_aload_n dX0_clear_0 rfl ?_
      refine tr_iconst (v := 0) dX0_clear_1 (by decide +kernel) ?_
      refine tr_putI dX0_clear_2 fl0_50 (hK 44 0 (by decide) kd_44) (Or.inl rfl) ?_
      refine tr_aload_n dX0_clear_5 rfl ?_
      refine tr_iconst (v := 0) dX0_clear_6 (by decide +kernel) ?_
      refine tr_putI dX0_clear_7 fl0_54 (hK 44 0 (by decide) kd_44) (Or.inl rfl) ?_
      refine tr_aload_n dX0_clear_10 rfl ?_
      refine tr_iconst (v := 0) dX0_clear_11 (by decide +kernel) ?_
      refine tr_putI dX0_clear_12 fl0_57 (hK 44 0 (by decide) kd_44) (Or.inl rfl) ?_
      refine tr_aload_n dX0_clear_15 rfl ?_
      refine tr_iconst (v := 0) dX0_clear_16 (by decide +kernel) ?_
      refine tr_putI dX0_clear_17 fl0_60 (hK 44 0 (by decide) kd_44) (Or.inl rfl) ?_
      refine tr_aload_n dX0_clear_20 rfl ?_
      refine tr_iconst (v := 0) dX0_clear_21 (by decide +kernel) ?_
      refine tr_putI dX0_clear_22 fl0_63 (hK 44 0 (by decide) kd_44) (Or.inl rfl) ?_
      refine tr_aload_n dX0_clear_25 rfl ?_
      refine tr_getR (x := 48) dX0_clear_26 fl0_27 (hK 44 0 (by decide) kd_44) (hR 44 8 (some 48) (by decide +kernel) rf_44_8) ?_
      refine tr_iconst (v := 0) dX0_clear_29 (by decide +kernel) ?_
      refine tr_putI dX0_clear_30 fl0_66 (hK 48 4 (by decide) kd_48) (Or.inl rfl) ?_
      refine tr_aload_n dX0_clear_33 rfl ?_
      refine tr_iconst (v := 0) dX0_clear_34 (by decide +kernel) ?_
      refine tr_putI dX0_clear_35 fl0_69 (hK 44 0 (by decide) kd_44) (Or.inl rfl) ?_
      refine tr_aload_n dX0_clear_38 rfl ?_
      refine tr_iconst (v := 0) dX0_clear_39 (by decide +kernel) ?_
      refine tr_putI dX0_clear_40 fl0_72 (hK 44 0 (by decide) kd_44) (Or.inl rfl) ?_
      refine tr_aload_n dX0_clear_43 rfl ?_
      refine tr_iconst (v := 0) dX0_clear_44 (by decide +kernel) ?_
      refine tr_putI dX0_clear_45 fl0_75 (hK 44 0 (by decide) kd_44) (Or.inl rfl) ?_
      refine tr_vret zX6 dX0_clear_48 rfl (by decide) (by decide) ⟨rfl, ?_⟩
      refine tr_aload_n dX7_readAll_12 rfl ?_
      refine tr_iconst (v := 0) dX7_readAll_13 (by decide +kernel) ?_
      refine tr_putZ dX7_readAll_14 fl7_31 (hK 86 7 (by decide) kd_86) (Or.inl rfl) (Or.inl rfl) ?_
      refine tr_aload_n dX7_readAll_17 rfl ?_
      refine tr_iconst (v := 0) dX7_readAll_18 (by decide +kernel) ?_
      refine tr_putZ dX7_readAll_19 fl7_35 (hK 86 7 (by decide) kd_86) (Or.inl rfl) (Or.inl rfl) ?_
      refine tr_aload_n dX7_readAll_22 rfl ?_
      refine tr_iconst (v := 0) dX7_readAll_23 (by decide +kernel) ?_
      refine tr_putI dX7_readAll_24 fl7_38 (hK 86 7 (by decide) kd_86) (Or.inl rfl) ?_
      refine tr_aload_n dX7_readAll_27 rfl ?_
      refine tr_iconst (v := (-1)) dX7_readAll_28 (by decide +kernel) ?_
      refine tr_putI dX7_readAll_29 fl7_42 (hK 86 7 (by decide) kd_86) (Or.inl rfl) ?_
      refine tr_aload_n dX7_readAll_32 rfl ?_
      refine tr_iload_n dX7_readAll_33 rfl ?_
      refine tr_putI dX7_readAll_34 fl7_45 (hK 86 7 (by decide) kd_86) (Or.inl rfl) ?_
      refine tr_aload_n dX7_readAll_37 rfl ?_
      refine tr_iconst (v := 0) dX7_readAll_38 (by decide +kernel) ?_
      refine tr_putI dX7_readAll_39 fl7_48 (hK 86 7 (by decide) kd_86) (Or.inl rfl) ?_
      refine tr_aload_n dX7_readAll_42 rfl ?_
      refine tr_inVv (M' := mX7_step) (as := []) dX7_readAll_43 lk7_51 inX7_step seX7_step myX7_step (by decide) ⟨by decide, by decide⟩ rfl (hK 86 7 (by decide) kd_86) (Nat.le_of_ble_eq_true rfl) (by decide) (by decide) (Con.of (by decide +kernel) rfl (Nat.le_of_ble_eq_true rfl) rfl (fun X7 hX7 zX7 => ?_))
      refine tr_aload_n dX7_step_0 rfl ?_
      refine tr_getI dX7_step_1 fl7_48 (hK 86 7 (by decide) kd_86) ?_
      refine tr_topi 0 rfl ?_
      refine tr_aload_n dX7_step_4 rfl ?_
      refine tr_getI dX7_step_5 fl7_45 (hK 86 7 (by decide) kd_86) ?_
      refine tr_topi 0 rfl ?_
      refine tr_icmp_ge 38 dX7_step_8 (by decide) (fun _ => ?_) (fun h => absurd (by decide +kernel) h)
      refine tr_aload_n dX7_step_38 rfl ?_
      refine tr_aload_n dX7_step_39 rfl ?_
      refine tr_getI dX7_step_40 fl7_48 (hK 86 7 (by decide) kd_86) ?_
      refine tr_topi 0 rfl ?_
      refine tr_putI dX7_step_43 fl7_68 (hK 86 7 (by decide) kd_86) (Or.inl rfl) ?_
      refine tr_aload_n dX7_step_46 rfl ?_
      refine tr_getI dX7_step_47 fl7_48 (hK 86 7 (by decide) kd_86) ?_
      refine tr_topi 0 rfl ?_
      refine tr_aload_n dX7_step_50 rfl ?_
      refine tr_getI dX7_step_51 fl7_45 (hK 86 7 (by decide) kd_86) ?_
      refine tr_topi 0 rfl ?_
      refine tr_icmp_lt 63 dX7_step_54 (by decide) (fun h => absurd h (by decide +kernel)) (fun _ => ?_)
      refine tr_aload_n dX7_step_57 rfl ?_
      refine tr_iconst (v := 0) dX7_step_58 (by decide +kernel) ?_
      refine tr_putI dX7_step_59 fl7_58 (hK 86 7 (by decide) kd_86) (Or.inl rfl) ?_
      refine tr_vret zX7 dX7_step_62 rfl (by decide) (by decide) ⟨rfl, ?_⟩
      refine tr_iconst (v := 0) dX7_readAll_46 (by decide +kernel) ?_
      refine tr_istore_n dX7_readAll_47 (by decide) (by decide) ?_
      refine tr_iload_n dX7_readAll_48 rfl ?_
      refine tr_sipush (v := 900) dX7_readAll_49 (by decide +kernel) ?_
      refine tr_icmp_gt 120 dX7_readAll_52 (by decide) (fun h => absurd h (by decide +kernel)) (fun _ => ?_)
      refine tr_aload_n dX7_readAll_55 rfl ?_
      refine tr_inVi (M' := mX7_readLine) (as := []) dX7_readAll_56 lk7_54 inX7_readLine seX7_readLine myX7_readLine (by decide) ⟨by decide, by decide⟩ rfl (hK 86 7 (by decide) kd_86) (Nat.le_of_ble_eq_true rfl) (by decide) (by decide) (Con.of (by decide +kernel) rfl (Nat.le_of_ble_eq_true rfl) rfl (fun X8 hX8 zX8 => ?_))
      refine tr_aload_n dX7_readLine_0 rfl ?_
      refine tr_inVi (M' := mX7_sortOfWord) (as := []) dX7_readLine_1 lk7_168 inX7_sortOfWord seX7_sortOfWord myX7_sortOfWord (by decide) ⟨by decide, by decide⟩ rfl (hK 86 7 (by decide) kd_86) (Nat.le_of_ble_eq_true rfl) (by decide) (by decide) (Con.of (by decide +kernel) rfl (Nat.le_of_ble_eq_true rfl) rfl (fun X9 hX9 zX9 => ?_))
      refine tr_iconst (v := 0) dX7_sortOfWord_0 (by decide +kernel) ?_
      refine tr_istore_n dX7_sortOfWord_1 (by decide) (by decide) ?_
      refine tr_iload_n dX7_sortOfWord_2 rfl ?_
      refine tr_bipush (v := 10) dX7_sortOfWord_3 (by decide +kernel) ?_
      refine tr_icmp_gt 39 dX7_sortOfWord_5 (by decide) (fun h => absurd h (by decide +kernel)) (fun _ => ?_)
      refine tr_aload_n dX7_sortOfWord_8 rfl ?_
      refine tr_getI dX7_sortOfWord_9 fl7_58 (hK 86 7 (by decide) kd_86) ?_
      refine tr_topi 0 rfl ?_
      refine tr_iconst (v := 1) dX7_sortOfWord_12 (by decide +kernel) ?_
      refine tr_icmp_ne 33 dX7_sortOfWord_13 (by decide) (fun _ => ?_) (fun h => absurd h (by decide +kernel))
      refine tr_iinc dX7_sortOfWord_33 rfl (by decide) ?_
      refine tr_goto 2 dX7_sortOfWord_36 (by decide) ?_
      refine tr_iload_n dX7_sortOfWord_2 rfl ?_
      refine tr_bipush (v := 10) dX7_sortOfWord_3 (by decide +kernel) ?_
      refine tr_icmp_gt 39 dX7_sortOfWord_5 (by decide) (fun h => absurd h (by decide +kernel)) (fun _ => ?_)
      refine tr_aload_n dX7_sortOfWord_8 rfl ?_
      refine tr_getI dX7_sortOfWord_9 fl7_58 (hK 86 7 (by decide) kd_86) ?_
      refine tr_topi 0 rfl ?_
      refine tr_iconst (v := 1) dX7_sortOfWord_12 (by decide +kernel) ?_
      refine tr_icmp_ne 33 dX7_sortOfWord_13 (by decide) (fun _ => ?_) (fun h => absurd h (by decide +kernel))
      refine tr_iinc dX7_sortOfWord_33 rfl (by decide) ?_
      refine tr_goto 2 dX7_sortOfWord_36 (by decide) ?_
      refine tr_iload_n dX7_sortOfWord_2 rfl ?_
      refine tr_bipush (v := 10) dX7_sortOfWord_3 (by decide +kernel) ?_
      refine tr_icmp_gt 39 dX7_sortOfWord_5 (by decide) (fun h => absurd h (by decide +kernel)) (fun _ => ?_)
      refine tr_aload_n dX7_sortOfWord_8 rfl ?_
      refine tr_getI dX7_sortOfWord_9 fl7_58 (hK 86 7 (by decide) kd_86) ?_
      refine tr_topi 0 rfl ?_
      refine tr_iconst (v := 1) dX7_sortOfWord_12 (by decide +kernel) ?_
      refine tr_icmp_ne 33 dX7_sortOfWord_13 (by decide) (fun _ => ?_) (fun h => absurd h (by decide +kernel))
      refine tr_iinc dX7_sortOfWord_33 rfl (by decide) ?_
      refine tr_goto 2 dX7_sortOfWord_36 (by decide) ?_
      refine tr_iload_n dX7_sortOfWord_2 rfl ?_
      refine tr_bipush (v := 10) dX7_sortOfWord_3 (by decide +kernel) ?_
      refine tr_icmp_gt 39 dX7_sortOfWord_5 (by decide) (fun h => absurd h (by decide +kernel)) (fun _ => ?_)
      refine tr_aload_n dX7_sortOfWord_8 rfl ?_
      refine tr_getI dX7_sortOfWord_9 fl7_58 (hK 86 7 (by decide) kd_86) ?_
      refine tr_topi 0 rfl ?_
      refine tr_iconst (v := 1) dX7_sortOfWord_12 (by decide +kernel) ?_
      refine tr_icmp_ne 33 dX7_sortOfWord_13 (by decide) (fun _ => ?_) (fun h => absurd h (by decide +kernel))
      refine tr_iinc dX7_sortOfWord_33 rfl (by decide) ?_
      refine tr_goto 2 dX7_sortOfWord_36 (by decide) ?_
      refine tr_iload_n dX7_sortOfWord_2 rfl ?_
      refine tr_bipush (v := 10) dX7_sortOfWord_3 (by decide +kernel) ?_
      refine tr_icmp_gt 39 dX7_sortOfWord_5 (by decide) (fun h => absurd h (by decide +kernel)) (fun _ => ?_)
      refine tr_aload_n dX7_sortOfWord_8 rfl ?_
      refine tr_getI dX7_sortOfWord_9 fl7_58 (hK 86 7 (by decide) kd_86) ?_
      refine tr_topi 0 rfl ?_
      refine tr_iconst (v := 1) dX7_sortOfWord_12 (by decide +kernel) ?_
      refine tr_icmp_ne 33 dX7_sortOfWord_13 (by decide) (fun _ => ?_) (fun h => absurd h (by decide +kernel))
      refine tr_iinc dX7_sortOfWord_33 rfl (by decide) ?_
      refine tr_goto 2 dX7_sortOfWord_36 (by decide) ?_
      refine tr_iload_n dX7_sortOfWord_2 rfl ?_
      refine tr_bipush (v := 10) dX7_sortOfWord_3 (by decide +kernel) ?_
      refine tr_icmp_gt 39 dX7_sortOfWord_5 (by decide) (fun h => absurd h (by decide +kernel)) (fun _ => ?_)
      refine tr_aload_n dX7_sortOfWord_8 rfl ?_
      refine tr_getI dX7_sortOfWord_9 fl7_58 (hK 86 7 (by decide) kd_86) ?_
      refine tr_topi 0 rfl ?_
      refine tr_iconst (v := 1) dX7_sortOfWord_12 (by decide +kernel) ?_
      refine tr_icmp_ne 33 dX7_sortOfWord_13 (by decide) (fun _ => ?_) (fun h => absurd h (by decide +kernel))
      refine tr_iinc dX7_sortOfWord_33 rfl (by decide) ?_
      refine tr_goto 2 dX7_sortOfWord_36 (by decide) ?_
      refine tr_iload_n dX7_sortOfWord_2 rfl ?_
      refine tr_bipush (v := 10) dX7_sortOfWord_3 (by decide +kernel) ?_
      refine tr_icmp_gt 39 dX7_sortOfWord_5 (by decide) (fun h => absurd h (by decide +kernel)) (fun _ => ?_)
      refine tr_aload_n dX7_sortOfWord_8 rfl ?_
      refine tr_getI dX7_sortOfWord_9 fl7_58 (hK 86 7 (by decide) kd_86) ?_
      refine tr_topi 0 rfl ?_
      refine tr_iconst (v := 1) dX7_sortOfWord_12 (by decide +kernel) ?_
      refine tr_icmp_ne 33 dX7_sortOfWord_13 (by decide) (fun _ => ?_) (fun h => absurd h (by decide +kernel))
      refine tr_iinc dX7_sortOfWord_33 rfl (by decide) ?_
      refine tr_goto 2 dX7_sortOfWord_36 (by decide) ?_
      refine tr_iload_n dX7_sortOfWord_2 rfl ?_
      refine tr_bipush (v := 10) dX7_sortOfWord_3 (by decide +kernel) ?_
      refine tr_icmp_gt 39 dX7_sortOfWord_5 (by decide) (fun h => absurd h (by decide +kernel)) (fun _ => ?_)
      refine tr_aload_n dX7_sortOfWord_8 rfl ?_
      refine tr_getI dX7_sortOfWord_9 fl7_58 (hK 86 7 (by decide) kd_86) ?_
      refine tr_topi 0 rfl ?_
      refine tr_iconst (v := 1) dX7_sortOfWord_12 (by decide +kernel) ?_
      refine tr_icmp_ne 33 dX7_sortOfWord_13 (by decide) (fun _ => ?_) (fun h => absurd h (by decide +kernel))
      refine tr_iinc dX7_sortOfWord_33 rfl (by decide) ?_
      refine tr_goto 2 dX7_sortOfWord_36 (by decide) ?_
      refine tr_iload_n dX7_sortOfWord_2 rfl ?_
      refine tr_bipush (v := 10) dX7_sortOfWord_3 (by decide +kernel) ?_
      refine tr_icmp_gt 39 dX7_sortOfWord_5 (by decide) (fun h => absurd h (by decide +kernel)) (fun _ => ?_)
      refine tr_aload_n dX7_sortOfWord_8 rfl ?_
      refine tr_getI dX7_sortOfWord_9 fl7_58 (hK 86 7 (by decide) kd_86) ?_
      refine tr_topi 0 rfl ?_
      refine tr_iconst (v := 1) dX7_sortOfWord_12 (by decide +kernel) ?_
      refine tr_icmp_ne 33 dX7_sortOfWord_13 (by decide) (fun _ => ?_) (fun h => absurd h (by decide +kernel))
      refine tr_iinc dX7_sortOfWord_33 rfl (by decide) ?_
      refine tr_goto 2 dX7_sortOfWord_36 (by decide) ?_
      refine tr_iload_n dX7_sortOfWord_2 rfl ?_
      refine tr_bipush (v := 10) dX7_sortOfWord_3 (by decide +kernel) ?_
      refine tr_icmp_gt 39 dX7_sortOfWord_5 (by decide) (fun h => absurd h (by decide +kernel)) (fun _ => ?_)
      refine tr_aload_n dX7_sortOfWord_8 rfl ?_
      refine tr_getI dX7_sortOfWord_9 fl7_58 (hK 86 7 (by decide) kd_86) ?_
      refine tr_topi 0 rfl ?_
      refine tr_iconst (v := 1) dX7_sortOfWord_12 (by decide +kernel) ?_
      refine tr_icmp_ne 33 dX7_sortOfWord_13 (by decide) (fun _ => ?_) (fun h => absurd h (by decide +kernel))
      refine tr_iinc dX7_sortOfWord_33 rfl (by decide) ?_
      refine tr_goto 2 dX7_sortOfWord_36 (by decide) ?_
      refine tr_iload_n dX7_sortOfWord_2 rfl ?_
      refine tr_bipush (v := 10) dX7_sortOfWord_3 (by decide +kernel) ?_
      refine tr_icmp_gt 39 dX7_sortOfWord_5 (by decide) (fun h => absurd h (by decide +kernel)) (fun _ => ?_)
      refine tr_aload_n dX7_sortOfWord_8 rfl ?_
      refine tr_getI dX7_sortOfWord_9 fl7_58 (hK 86 7 (by decide) kd_86) ?_
      refine tr_topi 0 rfl ?_
      refine tr_iconst (v := 1) dX7_sortOfWord_12 (by decide +kernel) ?_
      refine tr_icmp_ne 33 dX7_sortOfWord_13 (by decide) (fun _ => ?_) (fun h => absurd h (by decide +kernel))
      refine tr_iinc dX7_sortOfWord_33 rfl (by decide) ?_
      refine tr_goto 2 dX7_sortOfWord_36 (by decide) ?_
      refine tr_iload_n dX7_sortOfWord_2 rfl ?_
      refine tr_bipush (v := 10) dX7_sortOfWord_3 (by decide +kernel) ?_
      refine tr_icmp_gt 39 dX7_sortOfWord_5 (by decide) (fun _ => ?_) (fun h => absurd (by decide +kernel) h)
      refine tr_iconst (v := (-1)) dX7_sortOfWord_39 (by decide +kernel) ?_
      refine tr_iret zX9 dX7_sortOfWord_40 rfl (by decide) (by decide) ⟨_, rfl, ?_⟩
      refine tr_istore_n dX7_readLine_4 (by decide) (by decide) ?_
      refine tr_iload_n dX7_readLine_5 rfl ?_
      refine tr_iconst (v := (-1)) dX7_readLine_6 (by decide +kernel) ?_
      refine tr_icmp_ne 16 dX7_readLine_7 (by decide) (fun h => absurd (by decide +kernel) h) (fun _ => ?_)
      refine tr_aload_n dX7_readLine_10 rfl ?_
      refine tr_iconst (v := 1) dX7_readLine_11 (by decide +kernel) ?_
      refine tr_inVi (M' := mX7_fail) (as := [_]) dX7_readLine_12 lk7_64 inX7_fail seX7_fail myX7_fail (by decide) ⟨by decide, by decide⟩ rfl (hK 86 7 (by decide) kd_86) (Nat.le_of_ble_eq_true rfl) (by decide) (by decide) (Con.of (by decide +kernel) rfl (Nat.le_of_ble_eq_true rfl) rfl (fun X10 hX10 zX10 => ?_))
      refine tr_aload_n dX7_fail_0 rfl ?_
      refine tr_iload_n dX7_fail_1 rfl ?_
      refine tr_putI dX7_fail_2 fl7_38 (hK 86 7 (by decide) kd_86) (Or.inl rfl) ?_
      refine tr_aload_n dX7_fail_5 rfl ?_
      refine tr_aload_n dX7_fail_6 rfl ?_
      refine tr_getI dX7_fail_7 fl7_68 (hK 86 7 (by decide) kd_86) ?_
      refine tr_topi 0 rfl ?_
      refine tr_putI dX7_fail_10 fl7_42 (hK 86 7 (by decide) kd_86) (Or.inl rfl) ?_
      refine tr_iconst (v := 0) dX7_fail_13 (by decide +kernel) ?_
      refine tr_zret zX10 dX7_fail_14 rfl (Or.inl rfl) (by decide) (by decide) ⟨_, rfl, ?_⟩
      refine tr_zret zX8 dX7_readLine_15 rfl (Or.inl rfl) (by decide) (by decide) ⟨_, rfl, ?_⟩
      refine tr_if_ne 64 dX7_readAll_59 (by decide) (fun h => absurd (by decide +kernel) h) (fun _ => ?_)
      refine tr_iconst (v := 0) dX7_readAll_62 (by decide +kernel) ?_
      refine tr_zret zX5 dX7_readAll_63 rfl (Or.inl rfl) (by decide) (by decide) ⟨_, rfl, ?_⟩
      refine tr_istore_n dX10_alp_30 (by decide) (by decide) ?_
      refine tr_aload_n dX10_alp_31 rfl ?_
      refine tr_iconst (v := 0) dX10_alp_32 (by decide +kernel) ?_
      refine tr_putI dX10_alp_33 fl10_71 (hK 0 10 (by decide) kd_0) (Or.inl rfl) ?_
      refine tr_aload_n dX10_alp_36 rfl ?_
      refine tr_aload_n dX10_alp_37 rfl ?_
      refine tr_getR (x := 86) dX10_alp_38 fl10_28 (hK 0 10 (by decide) kd_0) (hR 0 4 (some 86) (by decide +kernel) rf_0_4) ?_
      refine tr_getI dX10_alp_41 fl10_87 (hK 86 7 (by decide) kd_86) ?_
      refine tr_topi 1 rfl ?_
      refine tr_putI dX10_alp_44 fl10_90 (hK 0 10 (by decide) kd_0) (Or.inl rfl) ?_
      refine tr_aload_n dX10_alp_47 rfl ?_
      refine tr_aload_n dX10_alp_48 rfl ?_
      refine tr_getR (x := 86) dX10_alp_49 fl10_28 (hK 0 10 (by decide) kd_0) (hR 0 4 (some 86) (by decide +kernel) rf_0_4) ?_
      refine tr_getI dX10_alp_52 fl10_91 (hK 86 7 (by decide) kd_86) ?_
      refine tr_topi 0 rfl ?_
      refine tr_putI dX10_alp_55 fl10_94 (hK 0 10 (by decide) kd_0) (Or.inl rfl) ?_
      refine tr_iload_n dX10_alp_58 rfl ?_
      refine tr_if_ne 68 dX10_alp_59 (by decide) (fun h => absurd (by decide +kernel) h) (fun _ => ?_)
      refine tr_aload_n dX10_alp_62 rfl ?_
      refine tr_iconst (v := 4) dX10_alp_63 (by decide +kernel) ?_
      refine tr_inVi (M' := mX10_refused) (as := [_]) dX10_alp_64 lk10_79 inX10_refused seX10_refused myX10_refused (by decide) ⟨by decide, by decide⟩ rfl (hK 0 10 (by decide) kd_0) (Nat.le_of_ble_eq_true rfl) (by decide) (by decide) (Con.of (by decide +kernel) rfl (Nat.le_of_ble_eq_true rfl) rfl (fun X11 hX11 zX11 => ?_))
      refine tr_aload_n dX10_refused_0 rfl ?_
      refine tr_iload_n dX10_refused_1 rfl ?_
      refine tr_putI dX10_refused_2 fl10_112 (hK 0 10 (by decide) kd_0) (Or.inl rfl) ?_
      refine tr_iconst (v := (-1)) dX10_refused_5 (by decide +kernel) ?_
      refine tr_iret zX11 dX10_refused_6 rfl (by decide) (by decide) ⟨_, rfl, ?_⟩
      exact tr_iret zX1 dX10_alp_67 rfl (by decide) (by decide) ⟨rfl, rfl, rfl, rfl, fun k hk => ⟨by first | rfl | (repeat rw [cz_uIn (by omega)]), by first | rfl | (repeat rw [cz_uRn (by omega)])⟩⟩
    · skip
      refine tr_aload_n dX10_alp_12 rfl ?_
      refine tr_iconst (v := 2) dX10_alp_13 (by decide +kernel) ?_
      refine tr_inVi (M' := mX10_refused) (as := [_]) dX10_alp_14 lk10_79 inX10_refused seX10_refused myX10_refused (by decide) ⟨by decide, by decide⟩ rfl (hK 0 10 (by decide) kd_0) (Nat.le_of_ble_eq_true rfl) (by decide) (by decide) (Con.of (by decide +kernel) rfl (Nat.le_of_ble_eq_true rfl) rfl (fun X12 hX12 zX12 => ?_))
      refine tr_aload_n dX10_refused_0 rfl ?_
      refine tr_iload_n dX10_refused_1 rfl ?_
      refine tr_putI dX10_refused_2 fl10_112 (hK 0 10 (by decide) kd_0) (Or.inl rfl) ?_
      refine tr_iconst (v := (-1)) dX10_refused_5 (by decide +kernel) ?_
      refine tr_iret zX12 dX10_refused_6 rfl (by decide) (by decide) ⟨_, rfl, ?_⟩
      exact tr_iret zX1 dX10_alp_17 rfl (by decide) (by decide) ⟨rfl, rfl, rfl, rfl, fun k hk => ⟨by first | rfl | (repeat rw [cz_uIn (by omega)]), by first | rfl | (repeat rw [cz_uRn (by omega)])⟩⟩
set_option maxHeartbeats 4000000 in
set_option maxRecDepth 100000 in
theorem fX12_alp (a : Int32) {l : Launch} {K N : Nat → Nat} {I : cz_I} {R : cz_R} {L : cz_L} (hf : cz_f2 K N I R) : Con l mX12_alp [.ref 183, .int a] 203 K N I R L (fun r _ _ _ _ _ _ => r = some (.int ((-1)))) := by
  obtain ⟨hK, hN, hR, hI, hI2⟩ := hf
  refine Con.of (by decide +kernel) rfl (Nat.le_of_ble_eq_true rfl) rfl (fun X13 hX13 zX13 => ?_)
  refine tr_aload_n dX12_alp_0 rfl ?_
  refine tr_iconst (v := 0) dX12_alp_1 (by decide +kernel) ?_
  refine tr_putI dX12_alp_2 fl12_70 (hK 183 12 (by decide) kd_183) (Or.inl rfl) ?_
  refine tr_iload_n dX12_alp_5 rfl ?_
  refine tr_if_lt 17 dX12_alp_6 (by decide) (fun q14 => ?_) (fun q14 => ?_)
  · skip
    refine tr_aload_n dX12_alp_17 rfl ?_
    refine tr_iconst (v := 2) dX12_alp_18 (by decide +kernel) ?_
    refine tr_inVi (M' := mX12_refused) (as := [_]) dX12_alp_19 lk12_76 inX12_refused seX12_refused myX12_refused (by decide) ⟨by decide, by decide⟩ rfl (hK 183 12 (by decide) kd_183) (Nat.le_of_ble_eq_true rfl) (by decide) (by decide) (Con.of (by decide +kernel) rfl (Nat.le_of_ble_eq_true rfl) rfl (fun X15 hX15 zX15 => ?_))
    refine tr_aload_n dX12_refused_0 rfl ?_
    refine tr_iload_n dX12_refused_1 rfl ?_
    refine tr_putI dX12_refused_2 fl12_73 (hK 183 12 (by decide) kd_183) (Or.inl rfl) ?_
    refine tr_aload_n dX12_refused_5 rfl ?_
    refine tr_iconst (v := (-1)) dX12_refused_6 (by decide +kernel) ?_
    refine tr_putI dX12_refused_7 fl12_9 (hK 183 12 (by decide) kd_183) (Or.inl rfl) ?_
    refine tr_iconst (v := (-1)) dX12_refused_10 (by decide +kernel) ?_
    refine tr_iret zX15 dX12_refused_11 rfl (by decide) (by decide) ⟨_, rfl, ?_⟩
    exact tr_iret zX13 dX12_alp_22 rfl (by decide) (by decide) rfl
  · skip
    refine tr_iload_n dX12_alp_9 rfl ?_
    refine tr_aload_n dX12_alp_10 rfl ?_
    refine tr_getI dX12_alp_11 fl12_378 (hK 183 12 (by decide) kd_183) ?_
    refine tr_topi 0 (hI 183 6 (by decide +kernel)) ?_
    refine tr_icmp_le 23 dX12_alp_14 (by decide) (fun q16 => ?_) (fun q16 => ?_)
    · skip
      obtain rfl : a = 0 := by
        have e0 : ((0 : Int32)).toInt = 0 := by decide +kernel
        rw [← Int32.toInt_inj]
        simp only [Int32.lt_iff_toInt_lt, Int32.le_iff_toInt_le, ← Int32.toInt_inj] at q14
        simp only [Int32.lt_iff_toInt_lt, Int32.le_iff_toInt_le, ← Int32.toInt_inj] at q16
        omega
      refine tr_aload_n dX12_alp_23 rfl ?_
      refine tr_iload_n dX12_alp_24 rfl ?_
      refine tr_putI dX12_alp_25 fl12_84 (hK 183 12 (by decide) kd_183) (Or.inl rfl) ?_
      refine tr_aload_n dX12_alp_28 rfl ?_
      refine tr_iconst (v := 0) dX12_alp_29 (by decide +kernel) ?_
      refine tr_putI dX12_alp_30 fl12_378 (hK 183 12 (by decide) kd_183) (Or.inl rfl) ?_
      refine tr_aload_n dX12_alp_33 rfl ?_
      refine tr_iconst (v := 0) dX12_alp_34 (by decide +kernel) ?_
      refine tr_putI dX12_alp_35 fl12_102 (hK 183 12 (by decide) kd_183) (Or.inl rfl) ?_
      refine tr_aload_n dX12_alp_38 rfl ?_
      refine tr_iconst (v := 0) dX12_alp_39 (by decide +kernel) ?_
      refine tr_putI dX12_alp_40 fl12_128 (hK 183 12 (by decide) kd_183) (Or.inl rfl) ?_
      refine tr_aload_n dX12_alp_43 rfl ?_
      refine tr_new dX12_alp_44 (by decide) lc12_193 ins11 ini11 (by decide) (by decide) ?_
      refine tr_dup dX12_alp_47 rfl ?_
      refine tr_inINv (M' := mX11_init) (as := []) dX12_alp_48 lk12_381 inX11_init rfl rfl myX11_init ⟨by decide, by decide⟩ rfl (Nat.le_of_ble_eq_true rfl) (by decide) (by decide) (Con.of (by decide +kernel) rfl (Nat.le_of_ble_eq_true rfl) rfl (fun X17 hX17 zX17 => ?_))
      refine tr_aload_n dX11_init_0 rfl ?_
      refine tr_obj dX11_init_1 lk11_3 cz_oi cz_oc (by decide) (Nat.le_of_ble_eq_true rfl) ?_
      refine tr_aload_n dX11_init_4 rfl ?_
      refine tr_iconst (v := 5) dX11_init_5 (by decide +kernel) ?_
      refine tr_newa (len := 5) dX11_init_6 (by decide) arc_int (by decide +kernel) (by decide +kernel) (by decide) (by decide) (by decide) ?_
      refine tr_putR dX11_init_8 fl11_9 rfl (Or.inr ⟨rfl, rfl, rfl⟩) ?_
      refine tr_aload_n dX11_init_11 rfl ?_
      refine tr_bipush (v := 14) dX11_init_12 (by decide +kernel) ?_
      refine tr_newa (len := 14) dX11_init_14 (by decide) arc_int (by decide +kernel) (by decide +kernel) (by decide) (by decide) (by decide) ?_
      refine tr_putR dX11_init_16 fl11_15 rfl (Or.inr ⟨rfl, rfl, rfl⟩) ?_
      refine tr_aload_n dX11_init_19 rfl ?_
      refine tr_bipush (v := 14) dX11_init_20 (by decide +kernel) ?_
      refine tr_newa (len := 14) dX11_init_22 (by decide) arc_int (by decide +kernel) (by decide +kernel) (by decide) (by decide) (by decide) ?_
      refine tr_putR dX11_init_24 fl11_18 rfl (Or.inr ⟨rfl, rfl, rfl⟩) ?_
      refine tr_aload_n dX11_init_27 rfl ?_
      refine tr_bipush (v := 14) dX11_init_28 (by decide +kernel) ?_
      refine tr_newa (len := 14) dX11_init_30 (by decide) arc_int (by decide +kernel) (by decide +kernel) (by decide) (by decide) (by decide) ?_
      refine tr_putR dX11_init_32 fl11_21 rfl (Or.inr ⟨rfl, rfl, rfl⟩) ?_
      refine tr_aload_n dX11_init_35 rfl ?_
      refine tr_bipush (v := 14) dX11_init_36 (by decide +kernel) ?_
      refine tr_newa (len := 14) dX11_init_38 (by decide) arc_int (by decide +kernel) (by decide +kernel) (by decide) (by decide) (by decide) ?_
      refine tr_putR dX11_init_40 fl11_24 rfl (Or.inr ⟨rfl, rfl, rfl⟩) ?_
      refine tr_aload_n dX11_init_43 rfl ?_
      refine tr_bipush (v := 8) dX11_init_44 (by decide +kernel) ?_
      refine tr_newa (len := 8) dX11_init_46 (by decide) arc_int (by decide +kernel) (by decide +kernel) (by decide) (by decide) (by decide) ?_
      refine tr_putR dX11_init_48 fl11_27 rfl (Or.inr ⟨rfl, rfl, rfl⟩) ?_
      refine tr_aload_n dX11_init_51 rfl ?_
      refine tr_bipush (v := 8) dX11_init_52 (by decide +kernel) ?_
      refine tr_newa (len := 8) dX11_init_54 (by decide) arc_int (by decide +kernel) (by decide +kernel) (by decide) (by decide) (by decide) ?_
      refine tr_putR dX11_init_56 fl11_30 rfl (Or.inr ⟨rfl, rfl, rfl⟩) ?_
      refine tr_aload_n dX11_init_59 rfl ?_
      refine tr_iconst (v := 4) dX11_init_60 (by decide +kernel) ?_
      refine tr_newa (len := 4) dX11_init_61 (by decide) arc_int (by decide +kernel) (by decide +kernel) (by decide) (by decide) (by decide) ?_
      refine tr_putR dX11_init_63 fl11_33 rfl (Or.inr ⟨rfl, rfl, rfl⟩) ?_
      refine tr_aload_n dX11_init_66 rfl ?_
      refine tr_bipush (v := 32) dX11_init_67 (by decide +kernel) ?_
      refine tr_newa (len := 32) dX11_init_69 (by decide) arc_int (by decide +kernel) (by decide +kernel) (by decide) (by decide) (by decide) ?_
      refine tr_putR dX11_init_71 fl11_36 rfl (Or.inr ⟨rfl, rfl, rfl⟩) ?_
      refine tr_aload_n dX11_init_74 rfl ?_
      refine tr_bipush (v := 8) dX11_init_75 (by decide +kernel) ?_
      refine tr_newa (len := 8) dX11_init_77 (by decide) arc_boolean (by decide +kernel) (by decide +kernel) (by decide) (by decide) (by decide) ?_
      refine tr_putR dX11_init_79 fl11_39 rfl (Or.inr ⟨rfl, rfl, rfl⟩) ?_
      refine tr_aload_n dX11_init_82 rfl ?_
      refine tr_iconst (v := 5) dX11_init_83 (by decide +kernel) ?_
      refine tr_newa (len := 5) dX11_init_84 (by decide) arc_int (by decide +kernel) (by decide +kernel) (by decide) (by decide) (by decide) ?_
      refine tr_putR dX11_init_86 fl11_43 rfl (Or.inr ⟨rfl, rfl, rfl⟩) ?_
      refine tr_aload_n dX11_init_89 rfl ?_
      refine tr_iconst (v := 5) dX11_init_90 (by decide +kernel) ?_
      refine tr_newa (len := 5) dX11_init_91 (by decide) arc_int (by decide +kernel) (by decide +kernel) (by decide) (by decide) (by decide) ?_
      refine tr_putR dX11_init_93 fl11_46 rfl (Or.inr ⟨rfl, rfl, rfl⟩) ?_
      refine tr_aload_n dX11_init_96 rfl ?_
      refine tr_iconst (v := 5) dX11_init_97 (by decide +kernel) ?_
      refine tr_newa (len := 5) dX11_init_98 (by decide) arc_int (by decide +kernel) (by decide +kernel) (by decide) (by decide) (by decide) ?_
      refine tr_putR dX11_init_100 fl11_49 rfl (Or.inr ⟨rfl, rfl, rfl⟩) ?_
      refine tr_aload_n dX11_init_103 rfl ?_
      refine tr_iconst (v := 5) dX11_init_104 (by decide +kernel) ?_
      refine tr_newa (len := 5) dX11_init_105 (by decide) arc_int (by decide +kernel) (by decide +kernel) (by decide) (by decide) (by decide) ?_
      refine tr_putR dX11_init_107 fl11_52 rfl (Or.inr ⟨rfl, rfl, rfl⟩) ?_
      refine tr_aload_n dX11_init_110 rfl ?_
      refine tr_iconst (v := 5) dX11_init_111 (by decide +kernel) ?_
      refine tr_newa (len := 5) dX11_init_112 (by decide) arc_int (by decide +kernel) (by decide +kernel) (by decide) (by decide) (by decide) ?_
      refine tr_putR dX11_init_114 fl11_55 rfl (Or.inr ⟨rfl, rfl, rfl⟩) ?_
      refine tr_aload_n dX11_init_117 rfl ?_
      refine tr_iconst (v := 5) dX11_init_118 (by decide +kernel) ?_
      refine tr_newa (len := 5) dX11_init_119 (by decide) arc_int (by decide +kernel) (by decide +kernel) (by decide) (by decide) (by decide) ?_
      refine tr_putR dX11_init_121 fl11_58 rfl (Or.inr ⟨rfl, rfl, rfl⟩) ?_
      refine tr_aload_n dX11_init_124 rfl ?_
      refine tr_bipush (v := 6) dX11_init_125 (by decide +kernel) ?_
      refine tr_newa (len := 6) dX11_init_127 (by decide) arc_int (by decide +kernel) (by decide +kernel) (by decide) (by decide) (by decide) ?_
      refine tr_putR dX11_init_129 fl11_61 rfl (Or.inr ⟨rfl, rfl, rfl⟩) ?_
      refine tr_aload_n dX11_init_132 rfl ?_
      refine tr_bipush (v := 6) dX11_init_133 (by decide +kernel) ?_
      refine tr_newa (len := 6) dX11_init_135 (by decide) arc_int (by decide +kernel) (by decide +kernel) (by decide) (by decide) (by decide) ?_
      refine tr_putR dX11_init_137 fl11_64 rfl (Or.inr ⟨rfl, rfl, rfl⟩) ?_
      refine tr_aload_n dX11_init_140 rfl ?_
      refine tr_bipush (v := 6) dX11_init_141 (by decide +kernel) ?_
      refine tr_newa (len := 6) dX11_init_143 (by decide) arc_int (by decide +kernel) (by decide +kernel) (by decide) (by decide) (by decide) ?_
      refine tr_putR dX11_init_145 fl11_67 rfl (Or.inr ⟨rfl, rfl, rfl⟩) ?_
      refine tr_aload_n dX11_init_148 rfl ?_
      refine tr_bipush (v := 6) dX11_init_149 (by decide +kernel) ?_
      refine tr_newa (len := 6) dX11_init_151 (by decide) arc_int (by decide +kernel) (by decide +kernel) (by decide) (by decide) (by decide) ?_
      refine tr_putR dX11_init_153 fl11_70 rfl (Or.inr ⟨rfl, rfl, rfl⟩) ?_
      refine tr_aload_n dX11_init_156 rfl ?_
      refine tr_bipush (v := 13) dX11_init_157 (by decide +kernel) ?_
      refine tr_newa (len := 13) dX11_init_159 (by decide) arc_long (by decide +kernel) (by decide +kernel) (by decide) (by decide) (by decide) ?_
      refine tr_putR dX11_init_161 fl11_73 rfl (Or.inr ⟨rfl, rfl, rfl⟩) ?_
      refine tr_aload_n dX11_init_164 rfl ?_
      refine tr_bipush (v := 13) dX11_init_165 (by decide +kernel) ?_
      refine tr_newa (len := 13) dX11_init_167 (by decide) arc_int (by decide +kernel) (by decide +kernel) (by decide) (by decide) (by decide) ?_
      refine tr_putR dX11_init_169 fl11_77 rfl (Or.inr ⟨rfl, rfl, rfl⟩) ?_
      refine tr_aload_n dX11_init_172 rfl ?_
      refine tr_bipush (v := 13) dX11_init_173 (by decide +kernel) ?_
      refine tr_newa (len := 13) dX11_init_175 (by decide) arc_int (by decide +kernel) (by decide +kernel) (by decide) (by decide) (by decide) ?_
      refine tr_putR dX11_init_177 fl11_80 rfl (Or.inr ⟨rfl, rfl, rfl⟩) ?_
      refine tr_vret zX17 dX11_init_180 rfl (by decide) (by decide) ⟨rfl, ?_⟩
      refine tr_putR dX12_alp_51 fl12_188 (hK 183 12 (by decide) kd_183) (Or.inl rfl) ?_
      refine tr_aload_n dX12_alp_54 rfl ?_
      refine tr_iconst (v := 0) dX12_alp_55 (by decide +kernel) ?_
      refine tr_putI dX12_alp_56 fl12_99 (hK 183 12 (by decide) kd_183) (Or.inl rfl) ?_
      refine tr_aload_n dX12_alp_59 rfl ?_
      refine tr_inVv (M' := mX12_goesOn) (as := []) dX12_alp_60 lk12_142 inX12_goesOn seX12_goesOn myX12_goesOn (by decide) ⟨by decide, by decide⟩ rfl (hK 183 12 (by decide) kd_183) (Nat.le_of_ble_eq_true rfl) (by decide) (by decide) (Con.of (by decide +kernel) rfl (Nat.le_of_ble_eq_true rfl) rfl (fun X18 hX18 zX18 => ?_))
      refine tr_aload_n dX12_goesOn_0 rfl ?_
      refine tr_getI dX12_goesOn_1 fl12_99 (hK 183 12 (by decide) kd_183) ?_
      refine tr_topi 0 rfl ?_
      refine tr_iconst (v := 5) dX12_goesOn_4 (by decide +kernel) ?_
      refine tr_icmp_ne 9 dX12_goesOn_5 (by decide) (fun _ => ?_) (fun h => absurd h (by decide +kernel))
      refine tr_aload_n dX12_goesOn_9 rfl ?_
      refine tr_aload_n dX12_goesOn_10 rfl ?_
      refine tr_getI dX12_goesOn_11 fl12_102 (hK 183 12 (by decide) kd_183) ?_
      refine tr_topi 0 rfl ?_
      refine tr_inVi (M' := mX12_byteAt) (as := [_]) dX12_goesOn_14 lk12_105 inX12_byteAt seX12_byteAt myX12_byteAt (by decide) ⟨by decide, by decide⟩ rfl (hK 183 12 (by decide) kd_183) (Nat.le_of_ble_eq_true rfl) (by decide) (by decide) (Con.of (by decide +kernel) rfl (Nat.le_of_ble_eq_true rfl) rfl (fun X19 hX19 zX19 => ?_))
      refine tr_iload_n dX12_byteAt_0 rfl ?_
      refine tr_aload_n dX12_byteAt_1 rfl ?_
      refine tr_getI dX12_byteAt_2 fl12_84 (hK 183 12 (by decide) kd_183) ?_
      refine tr_topi 0 rfl ?_
      refine tr_icmp_ge 21 dX12_byteAt_5 (by decide) (fun _ => ?_) (fun h => absurd (by decide +kernel) h)
      refine tr_iconst (v := (-1)) dX12_byteAt_21 (by decide +kernel) ?_
      refine tr_iret zX19 dX12_byteAt_22 rfl (by decide) (by decide) ⟨_, rfl, ?_⟩
      refine tr_bipush (v := 32) dX12_goesOn_17 (by decide +kernel) ?_
      refine tr_icmp_ne 35 dX12_goesOn_19 (by decide) (fun _ => ?_) (fun h => absurd h (by decide +kernel))
      refine tr_aload_n dX12_goesOn_35 rfl ?_
      refine tr_aload_n dX12_goesOn_36 rfl ?_
      refine tr_getI dX12_goesOn_37 fl12_102 (hK 183 12 (by decide) kd_183) ?_
      refine tr_topi 0 rfl ?_
      refine tr_putI dX12_goesOn_40 fl12_108 (hK 183 12 (by decide) kd_183) (Or.inl rfl) ?_
      refine tr_aload_n dX12_goesOn_43 rfl ?_
      refine tr_iconst (v := 0) dX12_goesOn_44 (by decide +kernel) ?_
      refine tr_putI dX12_goesOn_45 fl12_99 (hK 183 12 (by decide) kd_183) (Or.inl rfl) ?_
      refine tr_aload_n dX12_goesOn_48 rfl ?_
      refine tr_iconst (v := 0) dX12_goesOn_49 (by decide +kernel) ?_
      refine tr_putI dX12_goesOn_50 fl12_111 (hK 183 12 (by decide) kd_183) (Or.inl rfl) ?_
      refine tr_aload_n dX12_goesOn_53 rfl ?_
      refine tr_aload_n dX12_goesOn_54 rfl ?_
      refine tr_getI dX12_goesOn_55 fl12_102 (hK 183 12 (by decide) kd_183) ?_
      refine tr_topi 0 rfl ?_
      refine tr_inVi (M' := mX12_byteAt) (as := [_]) dX12_goesOn_58 lk12_105 inX12_byteAt seX12_byteAt myX12_byteAt (by decide) ⟨by decide, by decide⟩ rfl (hK 183 12 (by decide) kd_183) (Nat.le_of_ble_eq_true rfl) (by decide) (by decide) (Con.of (by decide +kernel) rfl (Nat.le_of_ble_eq_true rfl) rfl (fun X20 hX20 zX20 => ?_))
      refine tr_iload_n dX12_byteAt_0 rfl ?_
      refine tr_aload_n dX12_byteAt_1 rfl ?_
      refine tr_getI dX12_byteAt_2 fl12_84 (hK 183 12 (by decide) kd_183) ?_
      refine tr_topi 0 rfl ?_
      refine tr_icmp_ge 21 dX12_byteAt_5 (by decide) (fun _ => ?_) (fun h => absurd (by decide +kernel) h)
      refine tr_iconst (v := (-1)) dX12_byteAt_21 (by decide +kernel) ?_
      refine tr_iret zX20 dX12_byteAt_22 rfl (by decide) (by decide) ⟨_, rfl, ?_⟩
      refine tr_istore_n dX12_goesOn_61 (by decide) (by decide) ?_
      refine tr_iconst (v := 0) dX12_goesOn_62 (by decide +kernel) ?_
      refine tr_istore_n dX12_goesOn_63 (by decide) (by decide) ?_
      refine tr_iload_n dX12_goesOn_64 rfl ?_
      refine tr_iconst (v := (-1)) dX12_goesOn_65 (by decide +kernel) ?_
      refine tr_icmp_ne 77 dX12_goesOn_66 (by decide) (fun h => absurd (by decide +kernel) h) (fun _ => ?_)
      refine tr_aload_n dX12_goesOn_69 rfl ?_
      refine tr_iconst (v := 1) dX12_goesOn_70 (by decide +kernel) ?_
      refine tr_putI dX12_goesOn_71 fl12_99 (hK 183 12 (by decide) kd_183) (Or.inl rfl) ?_
      refine tr_goto 281 dX12_goesOn_74 (by decide) ?_
      refine tr_vret zX18 dX12_goesOn_281 rfl (by decide) (by decide) ⟨rfl, ?_⟩
      refine tr_aload_n dX12_alp_63 rfl ?_
      refine tr_inVv (M' := mX12_readAll) (as := []) dX12_alp_64 lk12_382 inX12_readAll seX12_readAll myX12_readAll (by decide) ⟨by decide, by decide⟩ rfl (hK 183 12 (by decide) kd_183) (Nat.le_of_ble_eq_true rfl) (by decide) (by decide) (Con.of (by decide +kernel) rfl (Nat.le_of_ble_eq_true rfl) rfl (fun X21 hX21 zX21 => ?_))
      refine tr_iconst (v := 1) dX12_readAll_0 (by decide +kernel) ?_
      refine tr_istore_n dX12_readAll_1 (by decide) (by decide) ?_
      refine tr_iload_n dX12_readAll_2 rfl ?_
      refine tr_if_eq 20 dX12_readAll_3 (by decide) (fun h => absurd h (by decide +kernel)) (fun _ => ?_)
      refine tr_aload_n dX12_readAll_6 rfl ?_
      refine tr_inVv (M' := mX12_readLine) (as := []) dX12_readAll_7 lk12_218 inX12_readLine seX12_readLine myX12_readLine (by decide) ⟨by decide, by decide⟩ rfl (hK 183 12 (by decide) kd_183) (Nat.le_of_ble_eq_true rfl) (by decide) (by decide) (Con.of (by decide +kernel) rfl (Nat.le_of_ble_eq_true rfl) rfl (fun X22 hX22 zX22 => ?_))
      refine tr_aload_n dX12_readLine_0 rfl ?_
      refine tr_ldcS dX12_readLine_1 ld12_164 ?_
      refine tr_inVi (M' := mX12_isWord) (as := [_]) dX12_readLine_3 lk12_138 inX12_isWord seX12_isWord myX12_isWord (by decide) ⟨by decide, by decide⟩ rfl (hK 183 12 (by decide) kd_183) (Nat.le_of_ble_eq_true rfl) (by decide) (by decide) (Con.of (by decide +kernel) rfl (Nat.le_of_ble_eq_true rfl) rfl (fun X23 hX23 zX23 => ?_))
      refine tr_aload_n dX12_isWord_0 rfl ?_
      refine tr_getI dX12_isWord_1 fl12_99 (hK 183 12 (by decide) kd_183) ?_
      refine tr_topi 1 rfl ?_
      refine tr_iconst (v := 2) dX12_isWord_4 (by decide +kernel) ?_
      refine tr_icmp_ne 24 dX12_isWord_5 (by decide) (fun _ => ?_) (fun h => absurd h (by decide +kernel))
      refine tr_iconst (v := 0) dX12_isWord_24 (by decide +kernel) ?_
      refine tr_zret zX23 dX12_isWord_25 rfl (Or.inl rfl) (by decide) (by decide) ⟨_, rfl, ?_⟩
      refine tr_if_eq 16 dX12_readLine_6 (by decide) (fun _ => ?_) (fun h => absurd (by decide +kernel) h)
      refine tr_aload_n dX12_readLine_16 rfl ?_
      refine tr_ldcS dX12_readLine_17 ld12_166 ?_
      refine tr_inVi (M' := mX12_isWord) (as := [_]) dX12_readLine_19 lk12_138 inX12_isWord seX12_isWord myX12_isWord (by decide) ⟨by decide, by decide⟩ rfl (hK 183 12 (by decide) kd_183) (Nat.le_of_ble_eq_true rfl) (by decide) (by decide) (Con.of (by decide +kernel) rfl (Nat.le_of_ble_eq_true rfl) rfl (fun X24 hX24 zX24 => ?_))
      refine tr_aload_n dX12_isWord_0 rfl ?_
      refine tr_getI dX12_isWord_1 fl12_99 (hK 183 12 (by decide) kd_183) ?_
      refine tr_topi 1 rfl ?_
      refine tr_iconst (v := 2) dX12_isWord_4 (by decide +kernel) ?_
      refine tr_icmp_ne 24 dX12_isWord_5 (by decide) (fun _ => ?_) (fun h => absurd h (by decide +kernel))
      refine tr_iconst (v := 0) dX12_isWord_24 (by decide +kernel) ?_
      refine tr_zret zX24 dX12_isWord_25 rfl (Or.inl rfl) (by decide) (by decide) ⟨_, rfl, ?_⟩
      refine tr_if_eq 33 dX12_readLine_22 (by decide) (fun _ => ?_) (fun h => absurd (by decide +kernel) h)
      refine tr_aload_n dX12_readLine_33 rfl ?_
      refine tr_ldcS dX12_readLine_34 ld12_168 ?_
      refine tr_inVi (M' := mX12_isWord) (as := [_]) dX12_readLine_36 lk12_138 inX12_isWord seX12_isWord myX12_isWord (by decide) ⟨by decide, by decide⟩ rfl (hK 183 12 (by decide) kd_183) (Nat.le_of_ble_eq_true rfl) (by decide) (by decide) (Con.of (by decide +kernel) rfl (Nat.le_of_ble_eq_true rfl) rfl (fun X25 hX25 zX25 => ?_))
      refine tr_aload_n dX12_isWord_0 rfl ?_
      refine tr_getI dX12_isWord_1 fl12_99 (hK 183 12 (by decide) kd_183) ?_
      refine tr_topi 1 rfl ?_
      refine tr_iconst (v := 2) dX12_isWord_4 (by decide +kernel) ?_
      refine tr_icmp_ne 24 dX12_isWord_5 (by decide) (fun _ => ?_) (fun h => absurd h (by decide +kernel))
      refine tr_iconst (v := 0) dX12_isWord_24 (by decide +kernel) ?_
      refine tr_zret zX25 dX12_isWord_25 rfl (Or.inl rfl) (by decide) (by decide) ⟨_, rfl, ?_⟩
      refine tr_if_eq 50 dX12_readLine_39 (by decide) (fun _ => ?_) (fun h => absurd (by decide +kernel) h)
      refine tr_aload_n dX12_readLine_50 rfl ?_
      refine tr_ldcS dX12_readLine_51 ld12_170 ?_
      refine tr_inVi (M' := mX12_isWord) (as := [_]) dX12_readLine_53 lk12_138 inX12_isWord seX12_isWord myX12_isWord (by decide) ⟨by decide, by decide⟩ rfl (hK 183 12 (by decide) kd_183) (Nat.le_of_ble_eq_true rfl) (by decide) (by decide) (Con.of (by decide +kernel) rfl (Nat.le_of_ble_eq_true rfl) rfl (fun X26 hX26 zX26 => ?_))
      refine tr_aload_n dX12_isWord_0 rfl ?_
      refine tr_getI dX12_isWord_1 fl12_99 (hK 183 12 (by decide) kd_183) ?_
      refine tr_topi 1 rfl ?_
      refine tr_iconst (v := 2) dX12_isWord_4 (by decide +kernel) ?_
      refine tr_icmp_ne 24 dX12_isWord_5 (by decide) (fun _ => ?_) (fun h => absurd h (by decide +kernel))
      refine tr_iconst (v := 0) dX12_isWord_24 (by decide +kernel) ?_
      refine tr_zret zX26 dX12_isWord_25 rfl (Or.inl rfl) (by decide) (by decide) ⟨_, rfl, ?_⟩
      refine tr_if_eq 67 dX12_readLine_56 (by decide) (fun _ => ?_) (fun h => absurd (by decide +kernel) h)
      refine tr_aload_n dX12_readLine_67 rfl ?_
      refine tr_ldcS dX12_readLine_68 ld12_172 ?_
      refine tr_inVi (M' := mX12_isWord) (as := [_]) dX12_readLine_70 lk12_138 inX12_isWord seX12_isWord myX12_isWord (by decide) ⟨by decide, by decide⟩ rfl (hK 183 12 (by decide) kd_183) (Nat.le_of_ble_eq_true rfl) (by decide) (by decide) (Con.of (by decide +kernel) rfl (Nat.le_of_ble_eq_true rfl) rfl (fun X27 hX27 zX27 => ?_))
      refine tr_aload_n dX12_isWord_0 rfl ?_
      refine tr_getI dX12_isWord_1 fl12_99 (hK 183 12 (by decide) kd_183) ?_
      refine tr_topi 1 rfl ?_
      refine tr_iconst (v := 2) dX12_isWord_4 (by decide +kernel) ?_
      refine tr_icmp_ne 24 dX12_isWord_5 (by decide) (fun _ => ?_) (fun h => absurd h (by decide +kernel))
      refine tr_iconst (v := 0) dX12_isWord_24 (by decide +kernel) ?_
      refine tr_zret zX27 dX12_isWord_25 rfl (Or.inl rfl) (by decide) (by decide) ⟨_, rfl, ?_⟩
      refine tr_if_eq 84 dX12_readLine_73 (by decide) (fun _ => ?_) (fun h => absurd (by decide +kernel) h)
      refine tr_aload_n dX12_readLine_84 rfl ?_
      refine tr_ldcS dX12_readLine_85 ld12_174 ?_
      refine tr_inVi (M' := mX12_isWord) (as := [_]) dX12_readLine_87 lk12_138 inX12_isWord seX12_isWord myX12_isWord (by decide) ⟨by decide, by decide⟩ rfl (hK 183 12 (by decide) kd_183) (Nat.le_of_ble_eq_true rfl) (by decide) (by decide) (Con.of (by decide +kernel) rfl (Nat.le_of_ble_eq_true rfl) rfl (fun X28 hX28 zX28 => ?_))
      refine tr_aload_n dX12_isWord_0 rfl ?_
      refine tr_getI dX12_isWord_1 fl12_99 (hK 183 12 (by decide) kd_183) ?_
      refine tr_topi 1 rfl ?_
      refine tr_iconst (v := 2) dX12_isWord_4 (by decide +kernel) ?_
      refine tr_icmp_ne 24 dX12_isWord_5 (by decide) (fun _ => ?_) (fun h => absurd h (by decide +kernel))
      refine tr_iconst (v := 0) dX12_isWord_24 (by decide +kernel) ?_
      refine tr_zret zX28 dX12_isWord_25 rfl (Or.inl rfl) (by decide) (by decide) ⟨_, rfl, ?_⟩
      refine tr_if_eq 101 dX12_readLine_90 (by decide) (fun _ => ?_) (fun h => absurd (by decide +kernel) h)
      refine tr_aload_n dX12_readLine_101 rfl ?_
      refine tr_ldcS dX12_readLine_102 ld12_176 ?_
      refine tr_inVi (M' := mX12_isWord) (as := [_]) dX12_readLine_104 lk12_138 inX12_isWord seX12_isWord myX12_isWord (by decide) ⟨by decide, by decide⟩ rfl (hK 183 12 (by decide) kd_183) (Nat.le_of_ble_eq_true rfl) (by decide) (by decide) (Con.of (by decide +kernel) rfl (Nat.le_of_ble_eq_true rfl) rfl (fun X29 hX29 zX29 => ?_))
      refine tr_aload_n dX12_isWord_0 rfl ?_
      refine tr_getI dX12_isWord_1 fl12_99 (hK 183 12 (by decide) kd_183) ?_
      refine tr_topi 1 rfl ?_
      refine tr_iconst (v := 2) dX12_isWord_4 (by decide +kernel) ?_
      refine tr_icmp_ne 24 dX12_isWord_5 (by decide) (fun _ => ?_) (fun h => absurd h (by decide +kernel))
      refine tr_iconst (v := 0) dX12_isWord_24 (by decide +kernel) ?_
      refine tr_zret zX29 dX12_isWord_25 rfl (Or.inl rfl) (by decide) (by decide) ⟨_, rfl, ?_⟩
      refine tr_if_eq 117 dX12_readLine_107 (by decide) (fun _ => ?_) (fun h => absurd (by decide +kernel) h)
      refine tr_aload_n dX12_readLine_117 rfl ?_
      refine tr_ldcS dX12_readLine_118 ld12_178 ?_
      refine tr_inVi (M' := mX12_isWord) (as := [_]) dX12_readLine_120 lk12_138 inX12_isWord seX12_isWord myX12_isWord (by decide) ⟨by decide, by decide⟩ rfl (hK 183 12 (by decide) kd_183) (Nat.le_of_ble_eq_true rfl) (by decide) (by decide) (Con.of (by decide +kernel) rfl (Nat.le_of_ble_eq_true rfl) rfl (fun X30 hX30 zX30 => ?_))
      refine tr_aload_n dX12_isWord_0 rfl ?_
      refine tr_getI dX12_isWord_1 fl12_99 (hK 183 12 (by decide) kd_183) ?_
      refine tr_topi 1 rfl ?_
      refine tr_iconst (v := 2) dX12_isWord_4 (by decide +kernel) ?_
      refine tr_icmp_ne 24 dX12_isWord_5 (by decide) (fun _ => ?_) (fun h => absurd h (by decide +kernel))
      refine tr_iconst (v := 0) dX12_isWord_24 (by decide +kernel) ?_
      refine tr_zret zX30 dX12_isWord_25 rfl (Or.inl rfl) (by decide) (by decide) ⟨_, rfl, ?_⟩
      refine tr_if_eq 133 dX12_readLine_123 (by decide) (fun _ => ?_) (fun h => absurd (by decide +kernel) h)
      refine tr_aload_n dX12_readLine_133 rfl ?_
      refine tr_ldcS dX12_readLine_134 ld12_180 ?_
      refine tr_inVi (M' := mX12_isWord) (as := [_]) dX12_readLine_136 lk12_138 inX12_isWord seX12_isWord myX12_isWord (by decide) ⟨by decide, by decide⟩ rfl (hK 183 12 (by decide) kd_183) (Nat.le_of_ble_eq_true rfl) (by decide) (by decide) (Con.of (by decide +kernel) rfl (Nat.le_of_ble_eq_true rfl) rfl (fun X31 hX31 zX31 => ?_))
      refine tr_aload_n dX12_isWord_0 rfl ?_
      refine tr_getI dX12_isWord_1 fl12_99 (hK 183 12 (by decide) kd_183) ?_
      refine tr_topi 1 rfl ?_
      refine tr_iconst (v := 2) dX12_isWord_4 (by decide +kernel) ?_
      refine tr_icmp_ne 24 dX12_isWord_5 (by decide) (fun _ => ?_) (fun h => absurd h (by decide +kernel))
      refine tr_iconst (v := 0) dX12_isWord_24 (by decide +kernel) ?_
      refine tr_zret zX31 dX12_isWord_25 rfl (Or.inl rfl) (by decide) (by decide) ⟨_, rfl, ?_⟩
      refine tr_if_eq 149 dX12_readLine_139 (by decide) (fun _ => ?_) (fun h => absurd (by decide +kernel) h)
      refine tr_aload_n dX12_readLine_149 rfl ?_
      refine tr_ldcS dX12_readLine_150 ld12_182 ?_
      refine tr_inVi (M' := mX12_isWord) (as := [_]) dX12_readLine_152 lk12_138 inX12_isWord seX12_isWord myX12_isWord (by decide) ⟨by decide, by decide⟩ rfl (hK 183 12 (by decide) kd_183) (Nat.le_of_ble_eq_true rfl) (by decide) (by decide) (Con.of (by decide +kernel) rfl (Nat.le_of_ble_eq_true rfl) rfl (fun X32 hX32 zX32 => ?_))
      refine tr_aload_n dX12_isWord_0 rfl ?_
      refine tr_getI dX12_isWord_1 fl12_99 (hK 183 12 (by decide) kd_183) ?_
      refine tr_topi 1 rfl ?_
      refine tr_iconst (v := 2) dX12_isWord_4 (by decide +kernel) ?_
      refine tr_icmp_ne 24 dX12_isWord_5 (by decide) (fun _ => ?_) (fun h => absurd h (by decide +kernel))
      refine tr_iconst (v := 0) dX12_isWord_24 (by decide +kernel) ?_
      refine tr_zret zX32 dX12_isWord_25 rfl (Or.inl rfl) (by decide) (by decide) ⟨_, rfl, ?_⟩
      refine tr_if_eq 165 dX12_readLine_155 (by decide) (fun _ => ?_) (fun h => absurd (by decide +kernel) h)
      refine tr_aload_n dX12_readLine_165 rfl ?_
      refine tr_ldcS dX12_readLine_166 ld12_184 ?_
      refine tr_inVi (M' := mX12_isWord) (as := [_]) dX12_readLine_168 lk12_138 inX12_isWord seX12_isWord myX12_isWord (by decide) ⟨by decide, by decide⟩ rfl (hK 183 12 (by decide) kd_183) (Nat.le_of_ble_eq_true rfl) (by decide) (by decide) (Con.of (by decide +kernel) rfl (Nat.le_of_ble_eq_true rfl) rfl (fun X33 hX33 zX33 => ?_))
      refine tr_aload_n dX12_isWord_0 rfl ?_
      refine tr_getI dX12_isWord_1 fl12_99 (hK 183 12 (by decide) kd_183) ?_
      refine tr_topi 1 rfl ?_
      refine tr_iconst (v := 2) dX12_isWord_4 (by decide +kernel) ?_
      refine tr_icmp_ne 24 dX12_isWord_5 (by decide) (fun _ => ?_) (fun h => absurd h (by decide +kernel))
      refine tr_iconst (v := 0) dX12_isWord_24 (by decide +kernel) ?_
      refine tr_zret zX33 dX12_isWord_25 rfl (Or.inl rfl) (by decide) (by decide) ⟨_, rfl, ?_⟩
      refine tr_if_eq 181 dX12_readLine_171 (by decide) (fun _ => ?_) (fun h => absurd (by decide +kernel) h)
      refine tr_aload_n dX12_readLine_181 rfl ?_
      refine tr_iconst (v := 1) dX12_readLine_182 (by decide +kernel) ?_
      refine tr_inVv (M' := mX12_flaw) (as := [_]) dX12_readLine_183 lk12_145 inX12_flaw seX12_flaw myX12_flaw (by decide) ⟨by decide, by decide⟩ rfl (hK 183 12 (by decide) kd_183) (Nat.le_of_ble_eq_true rfl) (by decide) (by decide) (Con.of (by decide +kernel) rfl (Nat.le_of_ble_eq_true rfl) rfl (fun X34 hX34 zX34 => ?_))
      refine tr_aload_n dX12_flaw_0 rfl ?_
      refine tr_getI dX12_flaw_1 fl12_99 (hK 183 12 (by decide) kd_183) ?_
      refine tr_topi 1 rfl ?_
      refine tr_iconst (v := 5) dX12_flaw_4 (by decide +kernel) ?_
      refine tr_icmp_ne 9 dX12_flaw_5 (by decide) (fun _ => ?_) (fun h => absurd h (by decide +kernel))
      refine tr_aload_n dX12_flaw_9 rfl ?_
      refine tr_iload_n dX12_flaw_10 rfl ?_
      refine tr_putI dX12_flaw_11 fl12_128 (hK 183 12 (by decide) kd_183) (Or.inl rfl) ?_
      refine tr_aload_n dX12_flaw_14 rfl ?_
      refine tr_aload_n dX12_flaw_15 rfl ?_
      refine tr_getI dX12_flaw_16 fl12_108 (hK 183 12 (by decide) kd_183) ?_
      refine tr_topi 0 rfl ?_
      refine tr_putI dX12_flaw_19 fl12_131 (hK 183 12 (by decide) kd_183) (Or.inl rfl) ?_
      refine tr_aload_n dX12_flaw_22 rfl ?_
      refine tr_iconst (v := 5) dX12_flaw_23 (by decide +kernel) ?_
      refine tr_putI dX12_flaw_24 fl12_99 (hK 183 12 (by decide) kd_183) (Or.inl rfl) ?_
      refine tr_vret zX34 dX12_flaw_27 rfl (by decide) (by decide) ⟨rfl, ?_⟩
      refine tr_vret zX22 dX12_readLine_186 rfl (by decide) (by decide) ⟨rfl, ?_⟩
      refine tr_aload_n dX12_readAll_10 rfl ?_
      refine tr_bipush (v := 59) dX12_readAll_11 (by decide +kernel) ?_
      refine tr_inVi (M' := mX12_eatsSign) (as := [_]) dX12_readAll_13 lk12_221 inX12_eatsSign seX12_eatsSign myX12_eatsSign (by decide) ⟨by decide, by decide⟩ rfl (hK 183 12 (by decide) kd_183) (Nat.le_of_ble_eq_true rfl) (by decide) (by decide) (Con.of (by decide +kernel) rfl (Nat.le_of_ble_eq_true rfl) rfl (fun X35 hX35 zX35 => ?_))
      refine tr_aload_n dX12_eatsSign_0 rfl ?_
      refine tr_getI dX12_eatsSign_1 fl12_99 (hK 183 12 (by decide) kd_183) ?_
      refine tr_topi 5 rfl ?_
      refine tr_iconst (v := 4) dX12_eatsSign_4 (by decide +kernel) ?_
      refine tr_icmp_ne 20 dX12_eatsSign_5 (by decide) (fun _ => ?_) (fun h => absurd h (by decide +kernel))
      refine tr_iconst (v := 0) dX12_eatsSign_20 (by decide +kernel) ?_
      refine tr_istore_n dX12_eatsSign_21 (by decide) (by decide) ?_
      refine tr_iload_n dX12_eatsSign_22 rfl ?_
      refine tr_if_eq 30 dX12_eatsSign_23 (by decide) (fun _ => ?_) (fun h => absurd (by decide +kernel) h)
      refine tr_iload_n dX12_eatsSign_30 rfl ?_
      refine tr_zret zX35 dX12_eatsSign_31 rfl (Or.inl rfl) (by decide) (by decide) ⟨_, rfl, ?_⟩
      refine tr_istore_n dX12_readAll_16 (by decide) (by decide) ?_
      refine tr_goto 2 dX12_readAll_17 (by decide) ?_
      refine tr_iload_n dX12_readAll_2 rfl ?_
      refine tr_if_eq 20 dX12_readAll_3 (by decide) (fun _ => ?_) (fun h => absurd (by decide +kernel) h)
      refine tr_aload_n dX12_readAll_20 rfl ?_
      refine tr_getI dX12_readAll_21 fl12_99 (hK 183 12 (by decide) kd_183) ?_
      refine tr_topi 5 rfl ?_
      refine tr_iconst (v := 1) dX12_readAll_24 (by decide +kernel) ?_
      refine tr_icmp_eq 33 dX12_readAll_25 (by decide) (fun h => absurd h (by decide +kernel)) (fun _ => ?_)
      refine tr_aload_n dX12_readAll_28 rfl ?_
      refine tr_iconst (v := 1) dX12_readAll_29 (by decide +kernel) ?_
      refine tr_inVv (M' := mX12_flaw) (as := [_]) dX12_readAll_30 lk12_145 inX12_flaw seX12_flaw myX12_flaw (by decide) ⟨by decide, by decide⟩ rfl (hK 183 12 (by decide) kd_183) (Nat.le_of_ble_eq_true rfl) (by decide) (by decide) (Con.of (by decide +kernel) rfl (Nat.le_of_ble_eq_true rfl) rfl (fun X36 hX36 zX36 => ?_))
      refine tr_aload_n dX12_flaw_0 rfl ?_
      refine tr_getI dX12_flaw_1 fl12_99 (hK 183 12 (by decide) kd_183) ?_
      refine tr_topi 5 rfl ?_
      refine tr_iconst (v := 5) dX12_flaw_4 (by decide +kernel) ?_
      refine tr_icmp_ne 9 dX12_flaw_5 (by decide) (fun h => absurd (by decide +kernel) h) (fun _ => ?_)
      refine tr_vret zX36 dX12_flaw_8 rfl (by decide) (by decide) ⟨rfl, ?_⟩
      refine tr_aload_n dX12_readAll_33 rfl ?_
      refine tr_getR (x := 203) dX12_readAll_34 fl12_188 (hK 183 12 (by decide) kd_183) rfl ?_
      refine tr_getI dX12_readAll_37 fl12_192 rfl ?_
      refine tr_topi 0 rfl ?_
      refine tr_if_eq 53 dX12_readAll_40 (by decide) (fun _ => ?_) (fun h => absurd (by decide +kernel) h)
      refine tr_aload_n dX12_readAll_53 rfl ?_
      refine tr_bipush (v := 6) dX12_readAll_54 (by decide +kernel) ?_
      refine tr_inVv (M' := mX12_flaw) (as := [_]) dX12_readAll_56 lk12_145 inX12_flaw seX12_flaw myX12_flaw (by decide) ⟨by decide, by decide⟩ rfl (hK 183 12 (by decide) kd_183) (Nat.le_of_ble_eq_true rfl) (by decide) (by decide) (Con.of (by decide +kernel) rfl (Nat.le_of_ble_eq_true rfl) rfl (fun X37 hX37 zX37 => ?_))
      refine tr_aload_n dX12_flaw_0 rfl ?_
      refine tr_getI dX12_flaw_1 fl12_99 (hK 183 12 (by decide) kd_183) ?_
      refine tr_topi 5 rfl ?_
      refine tr_iconst (v := 5) dX12_flaw_4 (by decide +kernel) ?_
      refine tr_icmp_ne 9 dX12_flaw_5 (by decide) (fun h => absurd (by decide +kernel) h) (fun _ => ?_)
      refine tr_vret zX37 dX12_flaw_8 rfl (by decide) (by decide) ⟨rfl, ?_⟩
      refine tr_vret zX21 dX12_readAll_59 rfl (by decide) (by decide) ⟨rfl, ?_⟩
      refine tr_aload_n dX12_alp_67 rfl ?_
      refine tr_getI dX12_alp_68 fl12_128 (hK 183 12 (by decide) kd_183) ?_
      refine tr_topi 1 rfl ?_
      refine tr_if_le 89 dX12_alp_71 (by decide) (fun h => absurd h (by decide +kernel)) (fun _ => ?_)
      refine tr_aload_n dX12_alp_74 rfl ?_
      refine tr_iconst (v := 4) dX12_alp_75 (by decide +kernel) ?_
      refine tr_putI dX12_alp_76 fl12_73 (hK 183 12 (by decide) kd_183) (Or.inl rfl) ?_
      refine tr_aload_n dX12_alp_79 rfl ?_
      refine tr_aload_n dX12_alp_80 rfl ?_
      refine tr_getI dX12_alp_81 fl12_131 (hK 183 12 (by decide) kd_183) ?_
      refine tr_topi 0 rfl ?_
      refine tr_putI dX12_alp_84 fl12_9 (hK 183 12 (by decide) kd_183) (Or.inl rfl) ?_
      refine tr_iconst (v := (-1)) dX12_alp_87 (by decide +kernel) ?_
      exact tr_iret zX13 dX12_alp_88 rfl (by decide) (by decide) rfl
    · skip
      refine tr_aload_n dX12_alp_17 rfl ?_
      refine tr_iconst (v := 2) dX12_alp_18 (by decide +kernel) ?_
      refine tr_inVi (M' := mX12_refused) (as := [_]) dX12_alp_19 lk12_76 inX12_refused seX12_refused myX12_refused (by decide) ⟨by decide, by decide⟩ rfl (hK 183 12 (by decide) kd_183) (Nat.le_of_ble_eq_true rfl) (by decide) (by decide) (Con.of (by decide +kernel) rfl (Nat.le_of_ble_eq_true rfl) rfl (fun X38 hX38 zX38 => ?_))
      refine tr_aload_n dX12_refused_0 rfl ?_
      refine tr_iload_n dX12_refused_1 rfl ?_
      refine tr_putI dX12_refused_2 fl12_73 (hK 183 12 (by decide) kd_183) (Or.inl rfl) ?_
      refine tr_aload_n dX12_refused_5 rfl ?_
      refine tr_iconst (v := (-1)) dX12_refused_6 (by decide +kernel) ?_
      refine tr_putI dX12_refused_7 fl12_9 (hK 183 12 (by decide) kd_183) (Or.inl rfl) ?_
      refine tr_iconst (v := (-1)) dX12_refused_10 (by decide +kernel) ?_
      refine tr_iret zX38 dX12_refused_11 rfl (by decide) (by decide) ⟨_, rfl, ?_⟩
      exact tr_iret zX13 dX12_alp_22 rfl (by decide) (by decide) rfl
