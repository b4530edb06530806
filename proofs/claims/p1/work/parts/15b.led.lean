theorem dJ7_fill_53178_0 : decode cJ7_fill_53178 0 = .ok (.iconst 0, 1) := by decide +kernel
theorem dJ7_fill_53178_1 : decode cJ7_fill_53178 1 = .ok (.istore_n 2, 1) := by decide +kernel
theorem dJ7_fill_53178_2 : decode cJ7_fill_53178 2 = .ok (.aload_n 0, 1) := by decide +kernel
theorem dJ7_fill_53178_3 : decode cJ7_fill_53178 3 = .ok (.arraylength, 1) := by decide +kernel
theorem dJ7_fill_53178_4 : decode cJ7_fill_53178 4 = .ok (.istore_n 3, 1) := by decide +kernel
theorem dJ7_fill_53178_5 : decode cJ7_fill_53178 5 = .ok (.iload_n 2, 1) := by decide +kernel
theorem dJ7_fill_53178_6 : decode cJ7_fill_53178 6 = .ok (.iload_n 3, 1) := by decide +kernel
theorem dJ7_fill_53178_7 : decode cJ7_fill_53178 7 = .ok (.if_icmp .ge 13, 3) := by decide +kernel
theorem dJ7_fill_53178_10 : decode cJ7_fill_53178 10 = .ok (.aload_n 0, 1) := by decide +kernel
theorem dJ7_fill_53178_11 : decode cJ7_fill_53178 11 = .ok (.iload_n 2, 1) := by decide +kernel
theorem dJ7_fill_53178_12 : decode cJ7_fill_53178 12 = .ok (.iload_n 1, 1) := by decide +kernel
theorem dJ7_fill_53178_13 : decode cJ7_fill_53178 13 = .ok (.iastore, 1) := by decide +kernel
theorem dJ7_fill_53178_14 : decode cJ7_fill_53178 14 = .ok (.iinc 2 1, 3) := by decide +kernel
theorem dJ7_fill_53178_17 : decode cJ7_fill_53178 17 = .ok (.goto (-12), 3) := by decide +kernel
theorem dJ7_fill_53178_20 : decode cJ7_fill_53178 20 = .ok (.return_, 1) := by decide +kernel
theorem dX10_allTurners_0 : decode cX10_allTurners 0 = .ok (.iconst 1, 1) := by decide +kernel
theorem dX10_allTurners_1 : decode cX10_allTurners 1 = .ok (.aload_n 0, 1) := by decide +kernel
theorem dX10_allTurners_2 : decode cX10_allTurners 2 = .ok (.getfield 16, 3) := by decide +kernel
theorem dX10_allTurners_5 : decode cX10_allTurners 5 = .ok (.getfield 335, 3) := by decide +kernel
theorem dX10_allTurners_8 : decode cX10_allTurners 8 = .ok (.ishl, 1) := by decide +kernel
theorem dX10_allTurners_9 : decode cX10_allTurners 9 = .ok (.iconst 1, 1) := by decide +kernel
theorem dX10_allTurners_10 : decode cX10_allTurners 10 = .ok (.isub, 1) := by decide +kernel
theorem dX10_allTurners_11 : decode cX10_allTurners 11 = .ok (.ireturn, 1) := by decide +kernel
theorem dX10_led_0 : decode cX10_led 0 = .ok (.aload_n 0, 1) := by decide +kernel
theorem dX10_led_1 : decode cX10_led 1 = .ok (.invokevirtual 155, 3) := by decide +kernel
theorem dX10_led_4 : decode cX10_led 4 = .ok (.astore_n 2, 1) := by decide +kernel
theorem dX10_led_5 : decode cX10_led 5 = .ok (.iconst 0, 1) := by decide +kernel
theorem dX10_led_6 : decode cX10_led 6 = .ok (.istore_n 3, 1) := by decide +kernel
theorem dX10_led_7 : decode cX10_led 7 = .ok (.iconst 0, 1) := by decide +kernel
theorem dX10_led_8 : decode cX10_led 8 = .ok (.istore 4, 2) := by decide +kernel
theorem dX10_led_10 : decode cX10_led 10 = .ok (.iload 4, 2) := by decide +kernel
theorem dX10_led_12 : decode cX10_led 12 = .ok (.aload_n 0, 1) := by decide +kernel
theorem dX10_led_13 : decode cX10_led 13 = .ok (.getfield 16, 3) := by decide +kernel
theorem dX10_led_16 : decode cX10_led 16 = .ok (.getfield 106, 3) := by decide +kernel
theorem dX10_led_19 : decode cX10_led 19 = .ok (.if_icmp .ge 30, 3) := by decide +kernel
theorem dX10_led_49 : decode cX10_led 49 = .ok (.new 325, 3) := by decide +kernel
theorem dX10_led_52 : decode cX10_led 52 = .ok (.dup, 1) := by decide +kernel
theorem dX10_led_53 : decode cX10_led 53 = .ok (.ldc_w 327, 3) := by decide +kernel
theorem dX10_led_56 : decode cX10_led 56 = .ok (.invokespecial 329, 3) := by decide +kernel
theorem dX10_led_59 : decode cX10_led 59 = .ok (.athrow, 1) := by decide +kernel
theorem dX10_presentNight_0 : decode cX10_presentNight 0 = .ok (.aload_n 0, 1) := by decide +kernel
theorem dX10_presentNight_1 : decode cX10_presentNight 1 = .ok (.getfield 288, 3) := by decide +kernel
theorem dX10_presentNight_4 : decode cX10_presentNight 4 = .ok (.ifCond .ne 34, 3) := by decide +kernel
theorem dX10_presentNight_7 : decode cX10_presentNight 7 = .ok (.aload_n 0, 1) := by decide +kernel
theorem dX10_presentNight_8 : decode cX10_presentNight 8 = .ok (.getfield 58, 3) := by decide +kernel
theorem dX10_presentNight_11 : decode cX10_presentNight 11 = .ok (.aload_n 0, 1) := by decide +kernel
theorem dX10_presentNight_12 : decode cX10_presentNight 12 = .ok (.getfield 16, 3) := by decide +kernel
theorem dX10_presentNight_15 : decode cX10_presentNight 15 = .ok (.aload_n 0, 1) := by decide +kernel
theorem dX10_presentNight_16 : decode cX10_presentNight 16 = .ok (.invokevirtual 119, 3) := by decide +kernel
theorem dX10_presentNight_19 : decode cX10_presentNight 19 = .ok (.aload_n 0, 1) := by decide +kernel
theorem dX10_presentNight_20 : decode cX10_presentNight 20 = .ok (.getfield 35, 3) := by decide +kernel
theorem dX10_presentNight_23 : decode cX10_presentNight 23 = .ok (.getfield 181, 3) := by decide +kernel
theorem dX10_presentNight_26 : decode cX10_presentNight 26 = .ok (.aload_n 0, 1) := by decide +kernel
theorem dX10_presentNight_27 : decode cX10_presentNight 27 = .ok (.invokevirtual 184, 3) := by decide +kernel
theorem dX10_presentNight_30 : decode cX10_presentNight 30 = .ok (.invokevirtual 188, 3) := by decide +kernel
theorem dX10_presentNight_33 : decode cX10_presentNight 33 = .ok (.aload_n 0, 1) := by decide +kernel
theorem dX10_presentNight_34 : decode cX10_presentNight 34 = .ok (.iconst 1, 1) := by decide +kernel
theorem dX10_presentNight_35 : decode cX10_presentNight 35 = .ok (.putfield 288, 3) := by decide +kernel
theorem dX10_presentNight_38 : decode cX10_presentNight 38 = .ok (.aload_n 0, 1) := by decide +kernel
theorem dX10_presentNight_39 : decode cX10_presentNight 39 = .ok (.getfield 58, 3) := by decide +kernel
theorem dX10_presentNight_42 : decode cX10_presentNight 42 = .ok (.areturn, 1) := by decide +kernel
theorem dX10_presentSky_0 : decode cX10_presentSky 0 = .ok (.aload_n 0, 1) := by decide +kernel
theorem dX10_presentSky_1 : decode cX10_presentSky 1 = .ok (.getfield 358, 3) := by decide +kernel
theorem dX10_presentSky_4 : decode cX10_presentSky 4 = .ok (.ifCond .ne 24, 3) := by decide +kernel
theorem dX10_presentSky_7 : decode cX10_presentSky 7 = .ok (.aload_n 0, 1) := by decide +kernel
theorem dX10_presentSky_8 : decode cX10_presentSky 8 = .ok (.getfield 49, 3) := by decide +kernel
theorem dX10_presentSky_11 : decode cX10_presentSky 11 = .ok (.aload_n 0, 1) := by decide +kernel
theorem dX10_presentSky_12 : decode cX10_presentSky 12 = .ok (.getfield 16, 3) := by decide +kernel
theorem dX10_presentSky_15 : decode cX10_presentSky 15 = .ok (.aload_n 0, 1) := by decide +kernel
theorem dX10_presentSky_16 : decode cX10_presentSky 16 = .ok (.getfield 35, 3) := by decide +kernel
theorem dX10_presentSky_19 : decode cX10_presentSky 19 = .ok (.iconst (-1), 1) := by decide +kernel
theorem dX10_presentSky_20 : decode cX10_presentSky 20 = .ok (.invokevirtual 237, 3) := by decide +kernel
theorem dX10_presentSky_23 : decode cX10_presentSky 23 = .ok (.aload_n 0, 1) := by decide +kernel
theorem dX10_presentSky_24 : decode cX10_presentSky 24 = .ok (.iconst 1, 1) := by decide +kernel
theorem dX10_presentSky_25 : decode cX10_presentSky 25 = .ok (.putfield 358, 3) := by decide +kernel
theorem dX10_presentSky_28 : decode cX10_presentSky 28 = .ok (.aload_n 0, 1) := by decide +kernel
theorem dX10_presentSky_29 : decode cX10_presentSky 29 = .ok (.getfield 49, 3) := by decide +kernel
theorem dX10_presentSky_32 : decode cX10_presentSky 32 = .ok (.areturn, 1) := by decide +kernel
theorem dX12_led_0 : decode cX12_led 0 = .ok (.aload_n 0, 1) := by decide +kernel
theorem dX12_led_1 : decode cX12_led 1 = .ok (.iconst 0, 1) := by decide +kernel
theorem dX12_led_2 : decode cX12_led 2 = .ok (.putfield 70, 3) := by decide +kernel
theorem dX12_led_5 : decode cX12_led 5 = .ok (.iconst 0, 1) := by decide +kernel
theorem dX12_led_6 : decode cX12_led 6 = .ok (.istore_n 2, 1) := by decide +kernel
theorem dX12_led_7 : decode cX12_led 7 = .ok (.aload_n 0, 1) := by decide +kernel
theorem dX12_led_8 : decode cX12_led 8 = .ok (.getfield 385, 3) := by decide +kernel
theorem dX12_led_11 : decode cX12_led 11 = .ok (.ifnull 8, 3) := by decide +kernel
theorem dX12_led_19 : decode cX12_led 19 = .ok (.iconst 0, 1) := by decide +kernel
theorem dX12_led_20 : decode cX12_led 20 = .ok (.istore_n 3, 1) := by decide +kernel
theorem dX12_led_21 : decode cX12_led 21 = .ok (.aload_n 0, 1) := by decide +kernel
theorem dX12_led_22 : decode cX12_led 22 = .ok (.getfield 385, 3) := by decide +kernel
theorem dX12_led_25 : decode cX12_led 25 = .ok (.ifnull 42, 3) := by decide +kernel
theorem dX12_led_67 : decode cX12_led 67 = .ok (.aload_n 0, 1) := by decide +kernel
theorem dX12_led_68 : decode cX12_led 68 = .ok (.iconst 1, 1) := by decide +kernel
theorem dX12_led_69 : decode cX12_led 69 = .ok (.putfield 70, 3) := by decide +kernel
theorem dX12_led_72 : decode cX12_led 72 = .ok (.iconst 0, 1) := by decide +kernel
theorem dX12_led_73 : decode cX12_led 73 = .ok (.ireturn, 1) := by decide +kernel
theorem dX12_thrown_0 : decode cX12_thrown 0 = .ok (.aload_n 0, 1) := by decide +kernel
theorem dX12_thrown_1 : decode cX12_thrown 1 = .ok (.getfield 70, 3) := by decide +kernel
theorem dX12_thrown_4 : decode cX12_thrown 4 = .ok (.ireturn, 1) := by decide +kernel
theorem dX5_forget_0 : decode cX5_forget 0 = .ok (.aload_n 0, 1) := by decide +kernel
theorem dX5_forget_1 : decode cX5_forget 1 = .ok (.getfield 9, 3) := by decide +kernel
theorem dX5_forget_4 : decode cX5_forget 4 = .ok (.iconst 0, 1) := by decide +kernel
theorem dX5_forget_5 : decode cX5_forget 5 = .ok (.invokestatic 75, 3) := by decide +kernel
theorem dX5_forget_8 : decode cX5_forget 8 = .ok (.aload_n 0, 1) := by decide +kernel
theorem dX5_forget_9 : decode cX5_forget 9 = .ok (.getfield 15, 3) := by decide +kernel
theorem dX5_forget_12 : decode cX5_forget 12 = .ok (.iconst 0, 1) := by decide +kernel
theorem dX5_forget_13 : decode cX5_forget 13 = .ok (.invokestatic 75, 3) := by decide +kernel
theorem dX5_forget_16 : decode cX5_forget 16 = .ok (.aload_n 0, 1) := by decide +kernel
theorem dX5_forget_17 : decode cX5_forget 17 = .ok (.getfield 18, 3) := by decide +kernel
theorem dX5_forget_20 : decode cX5_forget 20 = .ok (.iconst 0, 1) := by decide +kernel
theorem dX5_forget_21 : decode cX5_forget 21 = .ok (.invokestatic 75, 3) := by decide +kernel
theorem dX5_forget_24 : decode cX5_forget 24 = .ok (.aload_n 0, 1) := by decide +kernel
theorem dX5_forget_25 : decode cX5_forget 25 = .ok (.getfield 21, 3) := by decide +kernel
theorem dX5_forget_28 : decode cX5_forget 28 = .ok (.iconst 0, 1) := by decide +kernel
theorem dX5_forget_29 : decode cX5_forget 29 = .ok (.invokestatic 75, 3) := by decide +kernel
theorem dX5_forget_32 : decode cX5_forget 32 = .ok (.aload_n 0, 1) := by decide +kernel
theorem dX5_forget_33 : decode cX5_forget 33 = .ok (.getfield 24, 3) := by decide +kernel
theorem dX5_forget_36 : decode cX5_forget 36 = .ok (.iconst 0, 1) := by decide +kernel
theorem dX5_forget_37 : decode cX5_forget 37 = .ok (.invokestatic 75, 3) := by decide +kernel
theorem dX5_forget_40 : decode cX5_forget 40 = .ok (.aload_n 0, 1) := by decide +kernel
theorem dX5_forget_41 : decode cX5_forget 41 = .ok (.getfield 27, 3) := by decide +kernel
theorem dX5_forget_44 : decode cX5_forget 44 = .ok (.iconst 0, 1) := by decide +kernel
theorem dX5_forget_45 : decode cX5_forget 45 = .ok (.invokestatic 75, 3) := by decide +kernel
theorem dX5_forget_48 : decode cX5_forget 48 = .ok (.aload_n 0, 1) := by decide +kernel
theorem dX5_forget_49 : decode cX5_forget 49 = .ok (.getfield 30, 3) := by decide +kernel
theorem dX5_forget_52 : decode cX5_forget 52 = .ok (.iconst 0, 1) := by decide +kernel
theorem dX5_forget_53 : decode cX5_forget 53 = .ok (.invokestatic 75, 3) := by decide +kernel
theorem dX5_forget_56 : decode cX5_forget 56 = .ok (.aload_n 0, 1) := by decide +kernel
theorem dX5_forget_57 : decode cX5_forget 57 = .ok (.getfield 33, 3) := by decide +kernel
theorem dX5_forget_60 : decode cX5_forget 60 = .ok (.iconst 0, 1) := by decide +kernel
theorem dX5_forget_61 : decode cX5_forget 61 = .ok (.invokestatic 75, 3) := by decide +kernel
theorem dX5_forget_64 : decode cX5_forget 64 = .ok (.aload_n 0, 1) := by decide +kernel
theorem dX5_forget_65 : decode cX5_forget 65 = .ok (.getfield 36, 3) := by decide +kernel
theorem dX5_forget_68 : decode cX5_forget 68 = .ok (.iconst 0, 1) := by decide +kernel
theorem dX5_forget_69 : decode cX5_forget 69 = .ok (.invokestatic 75, 3) := by decide +kernel
theorem dX5_forget_72 : decode cX5_forget 72 = .ok (.return_, 1) := by decide +kernel
theorem dX5_play_0 : decode cX5_play 0 = .ok (.aload_n 0, 1) := by decide +kernel
theorem dX5_play_1 : decode cX5_play 1 = .ok (.aload_n 1, 1) := by decide +kernel
theorem dX5_play_2 : decode cX5_play 2 = .ok (.putfield 39, 3) := by decide +kernel
theorem dX5_play_5 : decode cX5_play 5 = .ok (.aload_n 0, 1) := by decide +kernel
theorem dX5_play_6 : decode cX5_play 6 = .ok (.aload_n 2, 1) := by decide +kernel
theorem dX5_play_7 : decode cX5_play 7 = .ok (.putfield 43, 3) := by decide +kernel
theorem dX5_play_10 : decode cX5_play 10 = .ok (.aload_n 0, 1) := by decide +kernel
theorem dX5_play_11 : decode cX5_play 11 = .ok (.iload_n 3, 1) := by decide +kernel
theorem dX5_play_12 : decode cX5_play 12 = .ok (.putfield 47, 3) := by decide +kernel
theorem dX5_play_15 : decode cX5_play 15 = .ok (.aload_n 0, 1) := by decide +kernel
theorem dX5_play_16 : decode cX5_play 16 = .ok (.invokevirtual 51, 3) := by decide +kernel
theorem dX5_play_19 : decode cX5_play 19 = .ok (.aload_n 0, 1) := by decide +kernel
theorem dX5_play_20 : decode cX5_play 20 = .ok (.getfield 39, 3) := by decide +kernel
theorem dX5_play_23 : decode cX5_play 23 = .ok (.getfield 54, 3) := by decide +kernel
theorem dX5_play_26 : decode cX5_play 26 = .ok (.istore 5, 2) := by decide +kernel
theorem dX5_play_28 : decode cX5_play 28 = .ok (.iconst 0, 1) := by decide +kernel
theorem dX5_play_29 : decode cX5_play 29 = .ok (.istore 6, 2) := by decide +kernel
theorem dX5_play_31 : decode cX5_play 31 = .ok (.iload 6, 2) := by decide +kernel
theorem dX5_play_33 : decode cX5_play 33 = .ok (.aload_n 0, 1) := by decide +kernel
theorem dX5_play_34 : decode cX5_play 34 = .ok (.getfield 43, 3) := by decide +kernel
theorem dX5_play_37 : decode cX5_play 37 = .ok (.getfield 59, 3) := by decide +kernel
theorem dX5_play_40 : decode cX5_play 40 = .ok (.if_icmp .ge 57, 3) := by decide +kernel
theorem dX5_play_97 : decode cX5_play 97 = .ok (.return_, 1) := by decide +kernel
theorem dX8_build_0 : decode cX8_build 0 = .ok (.aload_n 0, 1) := by decide +kernel
theorem dX8_build_1 : decode cX8_build 1 = .ok (.aload_n 1, 1) := by decide +kernel
theorem dX8_build_2 : decode cX8_build 2 = .ok (.getfield 40, 3) := by decide +kernel
theorem dX8_build_5 : decode cX8_build 5 = .ok (.putfield 46, 3) := by decide +kernel
theorem dX8_build_8 : decode cX8_build 8 = .ok (.aload_n 0, 1) := by decide +kernel
theorem dX8_build_9 : decode cX8_build 9 = .ok (.iconst 1, 1) := by decide +kernel
theorem dX8_build_10 : decode cX8_build 10 = .ok (.aload_n 1, 1) := by decide +kernel
theorem dX8_build_11 : decode cX8_build 11 = .ok (.getfield 47, 3) := by decide +kernel
theorem dX8_build_14 : decode cX8_build 14 = .ok (.ishl, 1) := by decide +kernel
theorem dX8_build_15 : decode cX8_build 15 = .ok (.iconst 1, 1) := by decide +kernel
theorem dX8_build_16 : decode cX8_build 16 = .ok (.isub, 1) := by decide +kernel
theorem dX8_build_17 : decode cX8_build 17 = .ok (.putfield 50, 3) := by decide +kernel
theorem dX8_build_20 : decode cX8_build 20 = .ok (.aload_n 0, 1) := by decide +kernel
theorem dX8_build_21 : decode cX8_build 21 = .ok (.invokevirtual 53, 3) := by decide +kernel
theorem dX8_build_24 : decode cX8_build 24 = .ok (.iconst 0, 1) := by decide +kernel
theorem dX8_build_25 : decode cX8_build 25 = .ok (.istore 4, 2) := by decide +kernel
theorem dX8_build_27 : decode cX8_build 27 = .ok (.iload 4, 2) := by decide +kernel
theorem dX8_build_29 : decode cX8_build 29 = .ok (.aload_n 1, 1) := by decide +kernel
theorem dX8_build_30 : decode cX8_build 30 = .ok (.getfield 56, 3) := by decide +kernel
theorem dX8_build_33 : decode cX8_build 33 = .ok (.if_icmp .ge 26, 3) := by decide +kernel
theorem dX8_build_59 : decode cX8_build 59 = .ok (.iconst 0, 1) := by decide +kernel
theorem dX8_build_60 : decode cX8_build 60 = .ok (.istore 4, 2) := by decide +kernel
theorem dX8_build_62 : decode cX8_build 62 = .ok (.iload 4, 2) := by decide +kernel
theorem dX8_build_64 : decode cX8_build 64 = .ok (.aload_n 2, 1) := by decide +kernel
theorem dX8_build_65 : decode cX8_build 65 = .ok (.getfield 67, 3) := by decide +kernel
theorem dX8_build_68 : decode cX8_build 68 = .ok (.if_icmp .ge 38, 3) := by decide +kernel
theorem dX8_build_106 : decode cX8_build 106 = .ok (.aload_n 0, 1) := by decide +kernel
theorem dX8_build_107 : decode cX8_build 107 = .ok (.invokevirtual 82, 3) := by decide +kernel
theorem dX8_build_110 : decode cX8_build 110 = .ok (.aload_n 0, 1) := by decide +kernel
theorem dX8_build_111 : decode cX8_build 111 = .ok (.aload_n 1, 1) := by decide +kernel
theorem dX8_build_112 : decode cX8_build 112 = .ok (.getfield 85, 3) := by decide +kernel
theorem dX8_build_115 : decode cX8_build 115 = .ok (.invokevirtual 89, 3) := by decide +kernel
theorem dX8_build_118 : decode cX8_build 118 = .ok (.return_, 1) := by decide +kernel
theorem dX8_findLight_0 : decode cX8_findLight 0 = .ok (.iconst 0, 1) := by decide +kernel
theorem dX8_findLight_1 : decode cX8_findLight 1 = .ok (.istore_n 1, 1) := by decide +kernel
theorem dX8_findLight_2 : decode cX8_findLight 2 = .ok (.iload_n 1, 1) := by decide +kernel
theorem dX8_findLight_3 : decode cX8_findLight 3 = .ok (.aload_n 0, 1) := by decide +kernel
theorem dX8_findLight_4 : decode cX8_findLight 4 = .ok (.getfield 46, 3) := by decide +kernel
theorem dX8_findLight_7 : decode cX8_findLight 7 = .ok (.if_icmp .ge 113, 3) := by decide +kernel
theorem dX8_findLight_120 : decode cX8_findLight 120 = .ok (.return_, 1) := by decide +kernel
theorem dX8_findStirs_0 : decode cX8_findStirs 0 = .ok (.aload_n 0, 1) := by decide +kernel
theorem dX8_findStirs_1 : decode cX8_findStirs 1 = .ok (.iconst 0, 1) := by decide +kernel
theorem dX8_findStirs_2 : decode cX8_findStirs 2 = .ok (.putfield 109, 3) := by decide +kernel
theorem dX8_findStirs_5 : decode cX8_findStirs 5 = .ok (.iconst 0, 1) := by decide +kernel
theorem dX8_findStirs_6 : decode cX8_findStirs 6 = .ok (.istore_n 2, 1) := by decide +kernel
theorem dX8_findStirs_7 : decode cX8_findStirs 7 = .ok (.iload_n 2, 1) := by decide +kernel
theorem dX8_findStirs_8 : decode cX8_findStirs 8 = .ok (.aload_n 0, 1) := by decide +kernel
theorem dX8_findStirs_9 : decode cX8_findStirs 9 = .ok (.getfield 46, 3) := by decide +kernel
theorem dX8_findStirs_12 : decode cX8_findStirs 12 = .ok (.if_icmp .ge 64, 3) := by decide +kernel
theorem dX8_findStirs_76 : decode cX8_findStirs 76 = .ok (.return_, 1) := by decide +kernel
theorem dX8_wipe_0 : decode cX8_wipe 0 = .ok (.iconst 0, 1) := by decide +kernel
theorem dX8_wipe_1 : decode cX8_wipe 1 = .ok (.istore_n 1, 1) := by decide +kernel
theorem dX8_wipe_2 : decode cX8_wipe 2 = .ok (.iload_n 1, 1) := by decide +kernel
theorem dX8_wipe_3 : decode cX8_wipe 3 = .ok (.aload_n 0, 1) := by decide +kernel
theorem dX8_wipe_4 : decode cX8_wipe 4 = .ok (.getfield 46, 3) := by decide +kernel
theorem dX8_wipe_7 : decode cX8_wipe 7 = .ok (.if_icmp .ge 44, 3) := by decide +kernel
theorem dX8_wipe_51 : decode cX8_wipe 51 = .ok (.return_, 1) := by decide +kernel
/-! ===== Arrays.fill ===== -/
theorem c_fill {l : Launch} {k : Nat} {v : Int32} {cn : Nat} {K N : Nat → Nat} {I : cz_I} {R : cz_R} {L : cz_L} (hk : K k = 14) (hN : N k < 2 ^ 31) : Con l mJ7_fill_53178 [.ref k, .int v] cn K N I R L (fun r cn' K' N' I' R' L' => r = none ∧ cn' = cn ∧ K' = K ∧ N' = N ∧ (∀ a : Nat, a ≠ k → I' a = I a) ∧ (∀ j : Nat, j < N k → I' k j = v) ∧ (∀ j : Nat, N k ≤ j → I' k j = I k j) ∧ R' = R ∧ L' = L) := by
  refine Con.of (by decide +kernel) rfl (Nat.le_of_ble_eq_true rfl) rfl (fun X _ hZ => ?_)
  have loop : ∀ (m i : Nat) (J : cz_I), i + m = N k → (∀ a : Nat, a ≠ k → J a = I a) → (∀ j : Nat, j < i → J k j = v) → (∀ j : Nat, i ≤ j → J k j = I k j) → ∀ ls : Nat → Option Value, ls 0 = some (.ref k) → ls 1 = some (.int v) → ls 2 = some (.int (nI i)) → ls 3 = some (.int (Int32.ofNat (N k))) → Tr X mJ7_fill_53178 5 ls [] cn K N J R L 0 0 := by
    intro m
    induction m with
    | zero =>
      intro i J hi h1 h2 h3 ls l0 l1 l2 l3
      refine tr_iload_n dJ7_fill_53178_5 l2 ?_
      refine tr_iload_n dJ7_fill_53178_6 l3 ?_
      refine tr_icmp_ge 20 dJ7_fill_53178_7 (by decide) (fun _ => ?_) (fun h => absurd (nI_le (by omega) (by omega)) h)
      exact tr_vret hZ dJ7_fill_53178_20 rfl (by decide) (by decide) ⟨rfl, rfl, rfl, rfl, h1, fun j hj => h2 j (by omega), fun j hj => h3 j (by omega), rfl, rfl⟩
    | succ m ih =>
      intro i J hi h1 h2 h3 ls l0 l1 l2 l3
      refine tr_iload_n dJ7_fill_53178_5 l2 ?_
      refine tr_iload_n dJ7_fill_53178_6 l3 ?_
      refine tr_icmp_ge 20 dJ7_fill_53178_7 (by decide) (fun h => absurd h (nI_ge (by omega) (by omega))) (fun _ => ?_)
      refine tr_aload_n dJ7_fill_53178_10 l0 ?_
      refine tr_iload_n dJ7_fill_53178_11 l2 ?_
      refine tr_iload_n dJ7_fill_53178_12 l1 ?_
      refine tr_iast dJ7_fill_53178_13 hk (vp_in_nI (by omega) hN) ?_
      refine tr_iinc dJ7_fill_53178_14 l2 (by decide) ?_
      refine tr_goto 5 dJ7_fill_53178_17 (by decide) ?_
      have hc : (nI i).toNatClampNeg = i := nI_clamp (by omega)
      rw [hc]
      refine ih (i + 1) _ (by omega) (fun a ha => (cz_uIn ha).trans (h1 a ha)) (fun j hj => ?_) (fun j hj => ?_) _ l0 l1 ?_ l3
      · rw [cz_uIs, upd]
        by_cases hq : j = i
        · rw [if_pos hq]
        · rw [if_neg hq]; exact h2 j (by omega)
      · rw [cz_uIs, upd, if_neg (by omega)]; exact h3 j (by omega)
      · show some (Value.int (nI i + Int32.ofInt 1)) = _
        rw [show Int32.ofInt 1 = 1 by decide +kernel, nI_1]
  refine tr_iconst (v := 0) dJ7_fill_53178_0 (by decide +kernel) ?_
  refine tr_istore_n dJ7_fill_53178_1 (by decide) (by decide) ?_
  refine tr_aload_n dJ7_fill_53178_2 rfl ?_
  refine tr_alen dJ7_fill_53178_3 hk (by decide) (by decide) ?_
  refine tr_istore_n dJ7_fill_53178_4 (by decide) (by decide) ?_
  exact loop (N k) 0 I (by omega) (fun _ _ => rfl) (fun j hj => absurd hj (Nat.not_lt_zero j)) (fun _ _ => rfl) _ rfl rfl rfl rfl
set_option maxRecDepth 100000 in
theorem c_forget {l : Launch} {K N : Nat → Nat} {I : cz_I} {R : cz_R} {L : cz_L} (hf : cz_f1 K N (fun _ _ => 0) R) : Con l mX5_forget [.ref 150] 203 K N I R L (fun r cn' K' N' I' R' L' => r = none ∧ cn' = 203 ∧ K' = K ∧ N' = N ∧ (∀ a : Nat, (a < 151 ∨ 159 < a) → I' a = I a) ∧ R' = R ∧ L' = L) := by
  obtain ⟨hK, hN, hR, -⟩ := hf
  refine Con.of (by decide +kernel) rfl (Nat.le_of_ble_eq_true rfl) rfl (fun X30000 _ zX30000 => ?_)
  refine tr_aload_n dX5_forget_0 rfl ?_
  refine tr_getR (x := 151) dX5_forget_1 fl5_9 (hK 150 5 (by decide) kd_150) (hR 150 3 (some 151) (by decide +kernel) rf_150_3) ?_
  refine tr_iconst (v := 0) dX5_forget_4 (by decide +kernel) ?_
  refine tr_callS (M' := mJ7_fill_53178) (as := [_, _]) dX5_forget_5 lk5_75 inJ7_fill_53178 myJ7_fill_53178 ⟨by decide, by decide⟩ rfl (Nat.le_of_ble_eq_true rfl) (by decide) (by decide) (c_fill (hK 151 14 (by decide) kd_151) (by rw [(hN 151 240 (by decide) ln_151)]; decide)) ?_
  rintro _ _ _ _ I0 _ _ ⟨rfl, rfl, rfl, rfl, g0, -, -, rfl, rfl⟩
  show Tr _ _ _ _ [] _ _ _ _ _ _ _ _
  refine tr_aload_n dX5_forget_8 rfl ?_
  refine tr_getR (x := 152) dX5_forget_9 fl5_15 (hK 150 5 (by decide) kd_150) (hR 150 4 (some 152) (by decide +kernel) rf_150_4) ?_
  refine tr_iconst (v := 0) dX5_forget_12 (by decide +kernel) ?_
  refine tr_callS (M' := mJ7_fill_53178) (as := [_, _]) dX5_forget_13 lk5_75 inJ7_fill_53178 myJ7_fill_53178 ⟨by decide, by decide⟩ rfl (Nat.le_of_ble_eq_true rfl) (by decide) (by decide) (c_fill (hK 152 14 (by decide) kd_152) (by rw [(hN 152 8 (by decide) ln_152)]; decide)) ?_
  rintro _ _ _ _ I1 _ _ ⟨rfl, rfl, rfl, rfl, g1, -, -, rfl, rfl⟩
  show Tr _ _ _ _ [] _ _ _ _ _ _ _ _
  refine tr_aload_n dX5_forget_16 rfl ?_
  refine tr_getR (x := 153) dX5_forget_17 fl5_18 (hK 150 5 (by decide) kd_150) (hR 150 5 (some 153) (by decide +kernel) rf_150_5) ?_
  refine tr_iconst (v := 0) dX5_forget_20 (by decide +kernel) ?_
  refine tr_callS (M' := mJ7_fill_53178) (as := [_, _]) dX5_forget_21 lk5_75 inJ7_fill_53178 myJ7_fill_53178 ⟨by decide, by decide⟩ rfl (Nat.le_of_ble_eq_true rfl) (by decide) (by decide) (c_fill (hK 153 14 (by decide) kd_153) (by rw [(hN 153 8 (by decide) ln_153)]; decide)) ?_
  rintro _ _ _ _ I2 _ _ ⟨rfl, rfl, rfl, rfl, g2, -, -, rfl, rfl⟩
  show Tr _ _ _ _ [] _ _ _ _ _ _ _ _
  refine tr_aload_n dX5_forget_24 rfl ?_
  refine tr_getR (x := 154) dX5_forget_25 fl5_21 (hK 150 5 (by decide) kd_150) (hR 150 6 (some 154) (by decide +kernel) rf_150_6) ?_
  refine tr_iconst (v := 0) dX5_forget_28 (by decide +kernel) ?_
  refine tr_callS (M' := mJ7_fill_53178) (as := [_, _]) dX5_forget_29 lk5_75 inJ7_fill_53178 myJ7_fill_53178 ⟨by decide, by decide⟩ rfl (Nat.le_of_ble_eq_true rfl) (by decide) (by decide) (c_fill (hK 154 14 (by decide) kd_154) (by rw [(hN 154 8 (by decide) ln_154)]; decide)) ?_
  rintro _ _ _ _ I3 _ _ ⟨rfl, rfl, rfl, rfl, g3, -, -, rfl, rfl⟩
  show Tr _ _ _ _ [] _ _ _ _ _ _ _ _
  refine tr_aload_n dX5_forget_32 rfl ?_
  refine tr_getR (x := 155) dX5_forget_33 fl5_24 (hK 150 5 (by decide) kd_150) (hR 150 7 (some 155) (by decide +kernel) rf_150_7) ?_
  refine tr_iconst (v := 0) dX5_forget_36 (by decide +kernel) ?_
  refine tr_callS (M' := mJ7_fill_53178) (as := [_, _]) dX5_forget_37 lk5_75 inJ7_fill_53178 myJ7_fill_53178 ⟨by decide, by decide⟩ rfl (Nat.le_of_ble_eq_true rfl) (by decide) (by decide) (c_fill (hK 155 14 (by decide) kd_155) (by rw [(hN 155 8 (by decide) ln_155)]; decide)) ?_
  rintro _ _ _ _ I4 _ _ ⟨rfl, rfl, rfl, rfl, g4, -, -, rfl, rfl⟩
  show Tr _ _ _ _ [] _ _ _ _ _ _ _ _
  refine tr_aload_n dX5_forget_40 rfl ?_
  refine tr_getR (x := 156) dX5_forget_41 fl5_27 (hK 150 5 (by decide) kd_150) (hR 150 8 (some 156) (by decide +kernel) rf_150_8) ?_
  refine tr_iconst (v := 0) dX5_forget_44 (by decide +kernel) ?_
  refine tr_callS (M' := mJ7_fill_53178) (as := [_, _]) dX5_forget_45 lk5_75 inJ7_fill_53178 myJ7_fill_53178 ⟨by decide, by decide⟩ rfl (Nat.le_of_ble_eq_true rfl) (by decide) (by decide) (c_fill (hK 156 14 (by decide) kd_156) (by rw [(hN 156 5 (by decide) ln_156)]; decide)) ?_
  rintro _ _ _ _ I5 _ _ ⟨rfl, rfl, rfl, rfl, g5, -, -, rfl, rfl⟩
  show Tr _ _ _ _ [] _ _ _ _ _ _ _ _
  refine tr_aload_n dX5_forget_48 rfl ?_
  refine tr_getR (x := 157) dX5_forget_49 fl5_30 (hK 150 5 (by decide) kd_150) (hR 150 9 (some 157) (by decide +kernel) rf_150_9) ?_
  refine tr_iconst (v := 0) dX5_forget_52 (by decide +kernel) ?_
  refine tr_callS (M' := mJ7_fill_53178) (as := [_, _]) dX5_forget_53 lk5_75 inJ7_fill_53178 myJ7_fill_53178 ⟨by decide, by decide⟩ rfl (Nat.le_of_ble_eq_true rfl) (by decide) (by decide) (c_fill (hK 157 14 (by decide) kd_157) (by rw [(hN 157 5 (by decide) ln_157)]; decide)) ?_
  rintro _ _ _ _ I6 _ _ ⟨rfl, rfl, rfl, rfl, g6, -, -, rfl, rfl⟩
  show Tr _ _ _ _ [] _ _ _ _ _ _ _ _
  refine tr_aload_n dX5_forget_56 rfl ?_
  refine tr_getR (x := 158) dX5_forget_57 fl5_33 (hK 150 5 (by decide) kd_150) (hR 150 10 (some 158) (by decide +kernel) rf_150_10) ?_
  refine tr_iconst (v := 0) dX5_forget_60 (by decide +kernel) ?_
  refine tr_callS (M' := mJ7_fill_53178) (as := [_, _]) dX5_forget_61 lk5_75 inJ7_fill_53178 myJ7_fill_53178 ⟨by decide, by decide⟩ rfl (Nat.le_of_ble_eq_true rfl) (by decide) (by decide) (c_fill (hK 158 14 (by decide) kd_158) (by rw [(hN 158 5 (by decide) ln_158)]; decide)) ?_
  rintro _ _ _ _ I7 _ _ ⟨rfl, rfl, rfl, rfl, g7, -, -, rfl, rfl⟩
  show Tr _ _ _ _ [] _ _ _ _ _ _ _ _
  refine tr_aload_n dX5_forget_64 rfl ?_
  refine tr_getR (x := 159) dX5_forget_65 fl5_36 (hK 150 5 (by decide) kd_150) (hR 150 11 (some 159) (by decide +kernel) rf_150_11) ?_
  refine tr_iconst (v := 0) dX5_forget_68 (by decide +kernel) ?_
  refine tr_callS (M' := mJ7_fill_53178) (as := [_, _]) dX5_forget_69 lk5_75 inJ7_fill_53178 myJ7_fill_53178 ⟨by decide, by decide⟩ rfl (Nat.le_of_ble_eq_true rfl) (by decide) (by decide) (c_fill (hK 159 14 (by decide) kd_159) (by rw [(hN 159 5 (by decide) ln_159)]; decide)) ?_
  rintro _ _ _ _ I8 _ _ ⟨rfl, rfl, rfl, rfl, g8, -, -, rfl, rfl⟩
  show Tr _ _ _ _ [] _ _ _ _ _ _ _ _
  exact tr_vret zX30000 dX5_forget_72 rfl (by decide) (by decide) ⟨rfl, rfl, rfl, rfl, fun a ha => by rw [g8 a (by omega), g7 a (by omega), g6 a (by omega), g5 a (by omega), g4 a (by omega), g3 a (by omega), g2 a (by omega), g1 a (by omega), g0 a (by omega)], rfl, rfl⟩
/-! ===== what led throws ===== -/
def cz_XC (g : cz_G) (A : Nat → Prop) (PX : cz_I → cz_R → Prop) (cn : Nat) (K N : Nat → Nat) (L : cz_L) : String → State → State → Prop := fun E st t =>
  E = cz_NSE ∧ (∃ (I : cz_I) (R : cz_R), PX I R ∧ va_P g.1 vwCl (cz_ws g cn K N I R L) t.heap ∧ va_D A (cz_ws g cn K N I R L)) ∧ va_F A st t
def cz_ZX : cz_X → cz_M → (cz_I → cz_R → Prop) → Nat → (Nat → Nat) → (Nat → Nat) → cz_L → Prop
  | (_, _, _, s, _, args, below, _, c, A, Z, g), M, PX, cn, K, N, L => Z = vx_MQ below (fun _ _ _ _ => False) (cz_XC g A PX cn K N L) args s (cz_rm M).cells (cz_rm M).slots A ∧ ∀ x ∈ c.exceptionTable.toList, False
/-- what the throw in led rests on -/
def cz_LX : cz_X → Prop
  | (_, l, _, s, _, _, _, _, _, A, _, _) => l.stackTraces = false ∧ vx_Zq Bundle.tN "UNASSIGNED_STACK" Bundle.steD A s s.heap ∧ vx_Zq Bundle.tN "SUPPRESSED_SENTINEL" Bundle.listD A s s.heap
theorem cz_decl {args args' : Array Value} {s : State} {y : MethodName} {bb : ByteArray} {nn : Nat} {rr : Option FieldType} (hi : (Cond.instanceMethod y).before args s = true) (hc : (Cond.code y bb nn rr).before args s = true) : (Cond.declares y).before args' s = true := by
  obtain ⟨m1, meth1, g1, g2, g3, -⟩ := Cond.instanceMethod_spec hi
  obtain ⟨meth2, c2, g4, -, -, -, -, -, -, g5⟩ := Cond.code_spec g1 hc
  cases Option.some.inj (g2.symm.trans g4)
  simp [Cond.before, Cond.holds, Cond.value, g1, g2, g3, g5]
theorem cz_dc0 {args args' : Array Value} {s : State} (hts : ∀ w ∈ cz_T, w.before args s = true) : (Cond.declares ⟨"java/lang/RuntimeException", "<init>", "(Ljava/lang/String;)V"⟩).before args' s = true := cz_decl (bb := prog_21_method_2_code) (nn := 2) (rr := none) (hts _ (cz_in (i := 1331) (by decide +kernel) rfl)) (hts _ (cz_in (i := 1332) (by decide +kernel) rfl))
theorem cz_dc1 {args args' : Array Value} {s : State} (hts : ∀ w ∈ cz_T, w.before args s = true) : (Cond.declares ⟨"java/lang/Exception", "<init>", "(Ljava/lang/String;)V"⟩).before args' s = true := cz_decl (bb := prog_18_method_2_code) (nn := 2) (rr := none) (hts _ (cz_in (i := 1334) (by decide +kernel) rfl)) (hts _ (cz_in (i := 1335) (by decide +kernel) rfl))
theorem cz_dc2 {args args' : Array Value} {s : State} (hts : ∀ w ∈ cz_T, w.before args s = true) : (Cond.declares ⟨"java/lang/Throwable", "<init>", "(Ljava/lang/String;)V"⟩).before args' s = true := cz_decl (bb := prog_25_method_2_code) (nn := 2) (rr := none) (hts _ (cz_in (i := 1337) (by decide +kernel) rfl)) (hts _ (cz_in (i := 1338) (by decide +kernel) rfl))
theorem cz_nse1 : Cond.classLink RX10 325 cz_NSE ∈ cz_T := cz_in (i := 1287) (by decide +kernel) rfl
theorem cz_nse2 : Cond.initialized cz_NSE ∈ cz_T := cz_in (i := 153) (by decide +kernel) rfl
theorem tr_throw {X : cz_X} {PX : cz_I → cz_R → Prop} {ls : Nat → Option Value} {cn : Nat} {K N : Nat → Nat} {I : cz_I} {R : cz_R} {L : cz_L} (hZ : cz_ZX X mX10_led PX cn K N L) (hx : cz_LX X) (hP : PX I R) : Tr X mX10_led 49 ls [] cn K N I R L 0 0 := by
  obtain ⟨p, l, e, s, m, args, below, meth, c, A, Z, g⟩ := X
  intro hC H locs arr hR hS hl
  obtain ⟨rfl, hout⟩ := hZ
  have hts := hC.2.2.2.2.1
  have hKK : cz_K g s := hC.2.2.2.2.2.2.2.2.1
  have hstr : vk_R RX10 327 "no such cheese missed anything" (cz_sa g 19) s := hKK.2.2.2.2 (RX10, 327, "no such cheese missed anything", 19) (List.mem_of_getElem? (i := 26) (by decide +kernel))
  refine cz_thrown hC.1 hC.2.1 hx.1 hC.2.2.2.1 (hts _ cz_nse1) (hts _ cz_nse2) hstr (fun w hw => by
      rcases cz_atS w hw with (q | q | q | q) | q
      · rw [q]; exact cz_cast (hts _ cz_nse3)
      · rw [q]; exact cz_dc0 hts
      · rw [q]; exact cz_dc1 hts
      · rw [q]; exact cz_dc2 hts
      · exact hts w (List.mem_filter.mpr q)) cz_goodS hx.2.1 hx.2.2 hS (by rw [hC.2.2.1]; exact hl.1)
    dX10_led_49 dX10_led_52 dX10_led_53 dX10_led_56 dX10_led_59 (fun x h => (hout x h).elim) (by decide) (Nat.le_of_ble_eq_true rfl) (by decide) (by decide) hC.2.2.2.2.2.2.1 (fun t hvm hz hq => ⟨rfl, ⟨I, R, hP, hR.1.kept (fun k x hx => hq x.1 ((hR.1 k x hx).lt)), hR.2.1⟩, Nat.le_trans hS.1 hz, fun q h1 h2 => (hq q (Nat.lt_of_lt_of_le h1 hS.1)).trans (hS.2.1 q h1 h2)⟩) hS.2.2 (by decide) (by decide)
theorem cz_uRw {R : cz_R} {cn k j x : Nat} (h : ∀ a b y : Nat, R a b = some y → y < cn) (hx : x < cn) : ∀ a b y : Nat, cz_uR R k j (some x) a b = some y → y < cn := by
  intro a b y hy
  by_cases ha : a = k
  · subst ha
    rw [cz_uRs, va_up] at hy
    by_cases hb : b = j
    · rw [if_pos hb] at hy; cases hy; exact hx
    · rw [if_neg hb] at hy; exact h _ _ _ hy
  · rw [cz_uRn ha] at hy; exact h _ _ _ hy
set_option maxHeartbeats 4000000 in
set_option maxRecDepth 100000 in
theorem led_tr {X : cz_X} {a : Int32} {K N : Nat → Nat} {I : cz_I} {R : cz_R} {L : cz_L} (hZ : cz_ZX X mX10_led (fun I' R' => (∀ k : Nat, 183 ≤ k → I' k = I k ∧ R' k = R k) ∧ ∀ k j x : Nat, R' k j = some x → x < 203) 203 K N L) (hx : cz_LX X) (hf : cz_f1 K N I R) (hw : ∀ k j x : Nat, R k j = some x → x < 203) : Tr X mX10_led 0 (cz_en [.ref 0, .int a]) [] 203 K N I R L 0 0 := by
  obtain ⟨hK, hN, hR, hI⟩ := hf
  have hR2 : ∀ (k j : Nat) (x : Option Nat), (k < 183 ∧ j < (rfL.getD k []).length) → rf0 k j = x → cz_uR (cz_uR R 150 0 (some 2)) 150 1 (some 140) k j = x := by
    intro k j x hk hx
    by_cases h1 : k = 150
    · subst h1
      by_cases h2 : j = 1
      · subst h2; rw [← hx, rf_150_1, cz_uRs]; rfl
      · by_cases h3 : j = 0
        · subst h3; rw [← hx, rf_150_0, cz_uRs, va_up, if_neg (by decide), cz_uRs]; rfl
        · rw [cz_uRs, va_up, if_neg h2, cz_uRs, va_up, if_neg h3]; exact hR _ _ _ hk hx
    · rw [cz_uRn h1, cz_uRn h1]; exact hR _ _ _ hk hx
  refine tr_aload_n dX10_led_0 rfl ?_
  refine tr_inVr (M' := mX10_presentNight) (as := []) dX10_led_1 lk10_155 inX10_presentNight seX10_presentNight myX10_presentNight (by decide) ⟨by decide, by decide⟩ rfl (hK 0 10 (by decide) kd_0) (Nat.le_of_ble_eq_true rfl) (by decide) (by decide) (Con.of (by decide +kernel) rfl (Nat.le_of_ble_eq_true rfl) rfl (fun X40001 hX40001 zX40001 => ?_))
  refine tr_aload_n dX10_presentNight_0 rfl ?_
  refine tr_getZ dX10_presentNight_1 fl10_288 (hK 0 10 (by decide) kd_0) ?_
  refine tr_topi 0 (hI 0 11 (by decide +kernel)) ?_
  refine tr_if_ne 38 dX10_presentNight_4 (by decide) (fun h => absurd (by decide +kernel) h) (fun _ => ?_)
  refine tr_aload_n dX10_presentNight_7 rfl ?_
  refine tr_getR (x := 150) dX10_presentNight_8 fl10_58 (hK 0 10 (by decide) kd_0) (hR 0 10 (some 150) (by decide +kernel) rf_0_10) ?_
  refine tr_aload_n dX10_presentNight_11 rfl ?_
  refine tr_getR (x := 2) dX10_presentNight_12 fl10_16 (hK 0 10 (by decide) kd_0) (hR 0 2 (some 2) (by decide +kernel) rf_0_2) ?_
  refine tr_aload_n dX10_presentNight_15 rfl ?_
  refine tr_inVr (M' := mX10_presentSky) (as := []) dX10_presentNight_16 lk10_119 inX10_presentSky seX10_presentSky myX10_presentSky (by decide) ⟨by decide, by decide⟩ rfl (hK 0 10 (by decide) kd_0) (Nat.le_of_ble_eq_true rfl) (by decide) (by decide) (Con.of (by decide +kernel) rfl (Nat.le_of_ble_eq_true rfl) rfl (fun X40002 hX40002 zX40002 => ?_))
  refine tr_aload_n dX10_presentSky_0 rfl ?_
  refine tr_getZ dX10_presentSky_1 fl10_358 (hK 0 10 (by decide) kd_0) ?_
  refine tr_topi 0 (hI 0 9 (by decide +kernel)) ?_
  refine tr_if_ne 28 dX10_presentSky_4 (by decide) (fun h => absurd (by decide +kernel) h) (fun _ => ?_)
  refine tr_aload_n dX10_presentSky_7 rfl ?_
  refine tr_getR (x := 140) dX10_presentSky_8 fl10_49 (hK 0 10 (by decide) kd_0) (hR 0 8 (some 140) (by decide +kernel) rf_0_8) ?_
  refine tr_aload_n dX10_presentSky_11 rfl ?_
  refine tr_getR (x := 2) dX10_presentSky_12 fl10_16 (hK 0 10 (by decide) kd_0) (hR 0 2 (some 2) (by decide +kernel) rf_0_2) ?_
  refine tr_aload_n dX10_presentSky_15 rfl ?_
  refine tr_getR (x := 89) dX10_presentSky_16 fl10_35 (hK 0 10 (by decide) kd_0) (hR 0 6 (some 89) (by decide +kernel) rf_0_6) ?_
  refine tr_iconst (v := (-1)) dX10_presentSky_19 (by decide +kernel) ?_
  refine tr_inVv (M' := mX8_build) (as := [_, _, _]) dX10_presentSky_20 lk10_237 inX8_build seX8_build myX8_build (by decide) ⟨by decide, by decide⟩ rfl (hK 140 8 (by decide) kd_140) (Nat.le_of_ble_eq_true rfl) (by decide) (by decide) (Con.of (by decide +kernel) rfl (Nat.le_of_ble_eq_true rfl) rfl (fun X40003 hX40003 zX40003 => ?_))
  refine tr_aload_n dX8_build_0 rfl ?_
  refine tr_aload_n dX8_build_1 rfl ?_
  refine tr_getI dX8_build_2 fl8_40 (hK 2 0 (by decide) kd_2) ?_
  refine tr_topi 0 (hI 2 0 (by decide +kernel)) ?_
  refine tr_putI dX8_build_5 fl8_46 (hK 140 8 (by decide) kd_140) (Or.inl rfl) ?_
  refine tr_aload_n dX8_build_8 rfl ?_
  refine tr_iconst (v := 1) dX8_build_9 (by decide +kernel) ?_
  refine tr_aload_n dX8_build_10 rfl ?_
  refine tr_getI dX8_build_11 fl8_47 (hK 2 0 (by decide) kd_2) ?_
  refine tr_topi 0 (hI 2 1 (by decide +kernel)) ?_
  refine tr_ishl dX8_build_14 ?_
  refine tr_topi 1 (by decide +kernel) ?_
  refine tr_iconst (v := 1) dX8_build_15 (by decide +kernel) ?_
  refine tr_isub dX8_build_16 ?_
  refine tr_topi 0 (by decide +kernel) ?_
  refine tr_putI dX8_build_17 fl8_50 (hK 140 8 (by decide) kd_140) (Or.inl rfl) ?_
  refine tr_aload_n dX8_build_20 rfl ?_
  refine tr_inVv (M' := mX8_wipe) (as := []) dX8_build_21 lk8_53 inX8_wipe seX8_wipe myX8_wipe (by decide) ⟨by decide, by decide⟩ rfl (hK 140 8 (by decide) kd_140) (Nat.le_of_ble_eq_true rfl) (by decide) (by decide) (Con.of (by decide +kernel) rfl (Nat.le_of_ble_eq_true rfl) rfl (fun X40004 hX40004 zX40004 => ?_))
  refine tr_iconst (v := 0) dX8_wipe_0 (by decide +kernel) ?_
  refine tr_istore_n dX8_wipe_1 (by decide) (by decide) ?_
  refine tr_iload_n dX8_wipe_2 rfl ?_
  refine tr_aload_n dX8_wipe_3 rfl ?_
  refine tr_getI dX8_wipe_4 fl8_46 (hK 140 8 (by decide) kd_140) ?_
  refine tr_topi 0 rfl ?_
  refine tr_icmp_ge 51 dX8_wipe_7 (by decide) (fun _ => ?_) (fun h => absurd (by decide +kernel) h)
  refine tr_vret zX40004 dX8_wipe_51 rfl (by decide) (by decide) ⟨rfl, ?_⟩
  refine tr_iconst (v := 0) dX8_build_24 (by decide +kernel) ?_
  refine tr_istore dX8_build_25 (by decide) (by decide) ?_
  refine tr_iload dX8_build_27 rfl ?_
  refine tr_aload_n dX8_build_29 rfl ?_
  refine tr_getI dX8_build_30 fl8_56 (hK 2 0 (by decide) kd_2) ?_
  refine tr_topi 0 (hI 2 3 (by decide +kernel)) ?_
  refine tr_icmp_ge 59 dX8_build_33 (by decide) (fun _ => ?_) (fun h => absurd (by decide +kernel) h)
  refine tr_iconst (v := 0) dX8_build_59 (by decide +kernel) ?_
  refine tr_istore dX8_build_60 (by decide) (by decide) ?_
  refine tr_iload dX8_build_62 rfl ?_
  refine tr_aload_n dX8_build_64 rfl ?_
  refine tr_getI dX8_build_65 fl8_67 (hK 89 3 (by decide) kd_89) ?_
  refine tr_topi 0 (hI 89 2 (by decide +kernel)) ?_
  refine tr_icmp_ge 106 dX8_build_68 (by decide) (fun _ => ?_) (fun h => absurd (by decide +kernel) h)
  refine tr_aload_n dX8_build_106 rfl ?_
  refine tr_inVv (M' := mX8_findLight) (as := []) dX8_build_107 lk8_82 inX8_findLight seX8_findLight myX8_findLight (by decide) ⟨by decide, by decide⟩ rfl (hK 140 8 (by decide) kd_140) (Nat.le_of_ble_eq_true rfl) (by decide) (by decide) (Con.of (by decide +kernel) rfl (Nat.le_of_ble_eq_true rfl) rfl (fun X40005 hX40005 zX40005 => ?_))
  refine tr_iconst (v := 0) dX8_findLight_0 (by decide +kernel) ?_
  refine tr_istore_n dX8_findLight_1 (by decide) (by decide) ?_
  refine tr_iload_n dX8_findLight_2 rfl ?_
  refine tr_aload_n dX8_findLight_3 rfl ?_
  refine tr_getI dX8_findLight_4 fl8_46 (hK 140 8 (by decide) kd_140) ?_
  refine tr_topi 0 rfl ?_
  refine tr_icmp_ge 120 dX8_findLight_7 (by decide) (fun _ => ?_) (fun h => absurd (by decide +kernel) h)
  refine tr_vret zX40005 dX8_findLight_120 rfl (by decide) (by decide) ⟨rfl, ?_⟩
  refine tr_aload_n dX8_build_110 rfl ?_
  refine tr_aload_n dX8_build_111 rfl ?_
  refine tr_getR (x := 6) dX8_build_112 fl8_85 (hK 2 0 (by decide) kd_2) (hR 2 8 (some 6) (by decide +kernel) rf_2_8) ?_
  refine tr_inVv (M' := mX8_findStirs) (as := [_]) dX8_build_115 lk8_89 inX8_findStirs seX8_findStirs myX8_findStirs (by decide) ⟨by decide, by decide⟩ rfl (hK 140 8 (by decide) kd_140) (Nat.le_of_ble_eq_true rfl) (by decide) (by decide) (Con.of (by decide +kernel) rfl (Nat.le_of_ble_eq_true rfl) rfl (fun X40006 hX40006 zX40006 => ?_))
  refine tr_aload_n dX8_findStirs_0 rfl ?_
  refine tr_iconst (v := 0) dX8_findStirs_1 (by decide +kernel) ?_
  refine tr_putI dX8_findStirs_2 fl8_109 (hK 140 8 (by decide) kd_140) (Or.inl rfl) ?_
  refine tr_iconst (v := 0) dX8_findStirs_5 (by decide +kernel) ?_
  refine tr_istore_n dX8_findStirs_6 (by decide) (by decide) ?_
  refine tr_iload_n dX8_findStirs_7 rfl ?_
  refine tr_aload_n dX8_findStirs_8 rfl ?_
  refine tr_getI dX8_findStirs_9 fl8_46 (hK 140 8 (by decide) kd_140) ?_
  refine tr_topi 0 rfl ?_
  refine tr_icmp_ge 76 dX8_findStirs_12 (by decide) (fun _ => ?_) (fun h => absurd (by decide +kernel) h)
  refine tr_vret zX40006 dX8_findStirs_76 rfl (by decide) (by decide) ⟨rfl, ?_⟩
  refine tr_vret zX40003 dX8_build_118 rfl (by decide) (by decide) ⟨rfl, ?_⟩
  refine tr_aload_n dX10_presentSky_23 rfl ?_
  refine tr_iconst (v := 1) dX10_presentSky_24 (by decide +kernel) ?_
  refine tr_putZ dX10_presentSky_25 fl10_358 (hK 0 10 (by decide) kd_0) (Or.inl rfl) (Or.inr rfl) ?_
  refine tr_aload_n dX10_presentSky_28 rfl ?_
  refine tr_getR (x := 140) dX10_presentSky_29 fl10_49 (hK 0 10 (by decide) kd_0) (hR 0 8 (some 140) (by decide +kernel) rf_0_8) ?_
  refine tr_aret zX40002 dX10_presentSky_32 rfl (by decide) (by decide) ⟨_, rfl, ?_⟩
  refine tr_aload_n dX10_presentNight_19 rfl ?_
  refine tr_getR (x := 89) dX10_presentNight_20 fl10_35 (hK 0 10 (by decide) kd_0) (hR 0 6 (some 89) (by decide +kernel) rf_0_6) ?_
  refine tr_getI dX10_presentNight_23 fl10_181 (hK 89 3 (by decide) kd_89) ?_
  refine tr_topi 0 (hI 89 0 (by decide +kernel)) ?_
  refine tr_aload_n dX10_presentNight_26 rfl ?_
  refine tr_inVi (M' := mX10_allTurners) (as := []) dX10_presentNight_27 lk10_184 inX10_allTurners seX10_allTurners myX10_allTurners (by decide) ⟨by decide, by decide⟩ rfl (hK 0 10 (by decide) kd_0) (Nat.le_of_ble_eq_true rfl) (by decide) (by decide) (Con.of (by decide +kernel) rfl (Nat.le_of_ble_eq_true rfl) rfl (fun X40007 hX40007 zX40007 => ?_))
  refine tr_iconst (v := 1) dX10_allTurners_0 (by decide +kernel) ?_
  refine tr_aload_n dX10_allTurners_1 rfl ?_
  refine tr_getR (x := 2) dX10_allTurners_2 fl10_16 (hK 0 10 (by decide) kd_0) (hR 0 2 (some 2) (by decide +kernel) rf_0_2) ?_
  refine tr_getI dX10_allTurners_5 fl10_335 (hK 2 0 (by decide) kd_2) ?_
  refine tr_topi 0 (hI 2 9 (by decide +kernel)) ?_
  refine tr_ishl dX10_allTurners_8 ?_
  refine tr_topi 1 (by decide +kernel) ?_
  refine tr_iconst (v := 1) dX10_allTurners_9 (by decide +kernel) ?_
  refine tr_isub dX10_allTurners_10 ?_
  refine tr_topi 0 (by decide +kernel) ?_
  refine tr_iret zX40007 dX10_allTurners_11 rfl (by decide) (by decide) ⟨_, rfl, ?_⟩
  refine tr_inVv (M' := mX5_play) (as := [_, _, _, _]) dX10_presentNight_30 lk10_188 inX5_play seX5_play myX5_play (by decide) ⟨by decide, by decide⟩ rfl (hK 150 5 (by decide) kd_150) (Nat.le_of_ble_eq_true rfl) (by decide) (by decide) (Con.of (by decide +kernel) rfl (Nat.le_of_ble_eq_true rfl) rfl (fun X40008 hX40008 zX40008 => ?_))
  refine tr_aload_n dX5_play_0 rfl ?_
  refine tr_aload_n dX5_play_1 rfl ?_
  refine tr_putR dX5_play_2 fl5_39 (hK 150 5 (by decide) kd_150) (Or.inl rfl) ?_
  refine tr_aload_n dX5_play_5 rfl ?_
  refine tr_aload_n dX5_play_6 rfl ?_
  refine tr_putR dX5_play_7 fl5_43 (hK 150 5 (by decide) kd_150) (Or.inl rfl) ?_
  refine tr_aload_n dX5_play_10 rfl ?_
  refine tr_iload_n dX5_play_11 rfl ?_
  refine tr_putI dX5_play_12 fl5_47 (hK 150 5 (by decide) kd_150) (Or.inl rfl) ?_
  refine tr_aload_n dX5_play_15 rfl ?_
  refine tr_callV (M' := mX5_forget) (as := []) dX5_play_16 lk5_51 inX5_forget seX5_forget myX5_forget (by decide) ⟨by decide, by decide⟩ rfl (hK 150 5 (by decide) kd_150) (Nat.le_of_ble_eq_true rfl) (by decide) (by decide) (c_forget ⟨hK, hN, hR2, fun _ _ _ => rfl⟩) ?_
  rintro _ _ _ _ I9 _ _ ⟨rfl, rfl, rfl, rfl, g9, rfl, rfl⟩
  show Tr _ _ _ _ [] _ _ _ _ _ _ _ _
  refine tr_aload_n dX5_play_19 rfl ?_
  refine tr_getR (x := 2) dX5_play_20 fl5_39 (hK 150 5 (by decide) kd_150) rfl ?_
  refine tr_getI dX5_play_23 fl5_54 (hK 2 0 (by decide) kd_2) ?_
  refine tr_topi 0 ((congrFun (g9 2 (by decide)) 7).trans (hI 2 7 (by decide +kernel))) ?_
  refine tr_istore dX5_play_26 (by decide) (by decide) ?_
  refine tr_iconst (v := 0) dX5_play_28 (by decide +kernel) ?_
  refine tr_istore dX5_play_29 (by decide) (by decide) ?_
  refine tr_iload dX5_play_31 rfl ?_
  refine tr_aload_n dX5_play_33 rfl ?_
  refine tr_getR (x := 140) dX5_play_34 fl5_43 (hK 150 5 (by decide) kd_150) rfl ?_
  refine tr_getI dX5_play_37 fl5_59 (hK 140 8 (by decide) kd_140) ?_
  refine tr_topi 0 ((congrFun (g9 140 (by decide)) 10).trans rfl) ?_
  refine tr_icmp_ge 97 dX5_play_40 (by decide) (fun _ => ?_) (fun h => absurd (by decide +kernel) h)
  refine tr_vret zX40008 dX5_play_97 rfl (by decide) (by decide) ⟨rfl, ?_⟩
  refine tr_aload_n dX10_presentNight_33 rfl ?_
  refine tr_iconst (v := 1) dX10_presentNight_34 (by decide +kernel) ?_
  refine tr_putZ dX10_presentNight_35 fl10_288 (hK 0 10 (by decide) kd_0) (Or.inl rfl) (Or.inr rfl) ?_
  refine tr_aload_n dX10_presentNight_38 rfl ?_
  refine tr_getR (x := 150) dX10_presentNight_39 fl10_58 (hK 0 10 (by decide) kd_0) (hR 0 10 (some 150) (by decide +kernel) rf_0_10) ?_
  refine tr_aret zX40001 dX10_presentNight_42 rfl (by decide) (by decide) ⟨_, rfl, ?_⟩
  refine tr_astore_n dX10_led_4 (by decide) (by decide) ?_
  refine tr_iconst (v := 0) dX10_led_5 (by decide +kernel) ?_
  refine tr_istore_n dX10_led_6 (by decide) (by decide) ?_
  refine tr_iconst (v := 0) dX10_led_7 (by decide +kernel) ?_
  refine tr_istore dX10_led_8 (by decide) (by decide) ?_
  refine tr_iload dX10_led_10 rfl ?_
  refine tr_aload_n dX10_led_12 rfl ?_
  refine tr_getR (x := 2) dX10_led_13 fl10_16 (hK 0 10 (by decide) kd_0) (hR 0 2 (some 2) (by decide +kernel) rf_0_2) ?_
  refine tr_getI dX10_led_16 fl10_106 (hK 2 0 (by decide) kd_2) ?_
  refine tr_topi 0 ((congrFun (g9 2 (by decide)) 5).trans (hI 2 5 (by decide +kernel))) ?_
  refine tr_icmp_ge 49 dX10_led_19 (by decide) (fun _ => ?_) (fun h => absurd (by decide +kernel) h)
  refine tr_throw hZ hx ⟨fun k hk => ⟨?_, ?_⟩, ?_⟩
  · repeat rw [cz_uIn (by omega)]
    rw [g9 k (Or.inr (by omega))]
    repeat rw [cz_uIn (by omega)]
  · repeat rw [cz_uRn (by omega)]
  · exact cz_uRw (cz_uRw hw (by decide)) (by decide)
set_option maxRecDepth 100000 in
theorem fX12_led (a : Int32) {l : Launch} {K N : Nat → Nat} {I : cz_I} {R : cz_R} {L : cz_L} (hf : cz_f2 K N I R) : Con l mX12_led [.ref 183, .int a] 203 K N I R L (fun r cn' K' _ I' _ _ => r = some (.int 0) ∧ cn' = 203 ∧ K' 183 = 12 ∧ I' 183 0 = 1) := by
  obtain ⟨hK, hN, hR, hI, hI2⟩ := hf
  refine Con.of (by decide +kernel) rfl (Nat.le_of_ble_eq_true rfl) rfl (fun X hX zX => ?_)
  refine tr_aload_n dX12_led_0 rfl ?_
  refine tr_iconst (v := 0) dX12_led_1 (by decide +kernel) ?_
  refine tr_putI dX12_led_2 fl12_70 (hK 183 12 (by decide) kd_183) (Or.inl rfl) ?_
  refine tr_iconst (v := 0) dX12_led_5 (by decide +kernel) ?_
  refine tr_istore_n dX12_led_6 (by decide) (by decide) ?_
  refine tr_aload_n dX12_led_7 rfl ?_
  refine tr_getN dX12_led_8 fl12_385 (hK 183 12 (by decide) kd_183) (hR 183 3 none (by decide +kernel) (by decide +kernel)) ?_
  refine tr_ifnullN 19 dX12_led_11 (by decide) ?_
  refine tr_iconst (v := 0) dX12_led_19 (by decide +kernel) ?_
  refine tr_istore_n dX12_led_20 (by decide) (by decide) ?_
  refine tr_aload_n dX12_led_21 rfl ?_
  refine tr_getN dX12_led_22 fl12_385 (hK 183 12 (by decide) kd_183) (hR 183 3 none (by decide +kernel) (by decide +kernel)) ?_
  refine tr_ifnullN 67 dX12_led_25 (by decide) ?_
  refine tr_aload_n dX12_led_67 rfl ?_
  refine tr_iconst (v := 1) dX12_led_68 (by decide +kernel) ?_
  refine tr_putI dX12_led_69 fl12_70 (hK 183 12 (by decide) kd_183) (Or.inl rfl) ?_
  refine tr_iconst (v := 0) dX12_led_72 (by decide +kernel) ?_
  exact tr_iret zX dX12_led_73 rfl (by decide) (by decide) ⟨rfl, rfl, hK 183 12 (by decide) kd_183, rfl⟩
theorem fX12_thrown {l : Launch} {cn : Nat} {K N : Nat → Nat} {I : cz_I} {R : cz_R} {L : cz_L} (hk : K 183 = 12) (hi : I 183 0 = 1) : Con l mX12_thrown [.ref 183] cn K N I R L (fun r _ _ _ _ _ _ => r = some (.int 1)) := by
  refine Con.of (by decide +kernel) rfl (Nat.le_of_ble_eq_true rfl) rfl (fun X hX zX => ?_)
  refine tr_aload_n dX12_thrown_0 rfl ?_
  refine tr_getI dX12_thrown_1 fl12_70 hk ?_
  refine tr_topi 1 hi ?_
  exact tr_iret zX dX12_thrown_4 rfl (by decide) (by decide) rfl
