theorem dX8_init_0 : decode cX8_init 0 = .ok (.aload_n 0, 1) := by decide +kernel
theorem dX8_init_1 : decode cX8_init 1 = .ok (.invokespecial 1, 3) := by decide +kernel
theorem dX8_init_4 : decode cX8_init 4 = .ok (.aload_n 0, 1) := by decide +kernel
theorem dX8_init_5 : decode cX8_init 5 = .ok (.bipush 53, 2) := by decide +kernel
theorem dX8_init_7 : decode cX8_init 7 = .ok (.newarray .int, 2) := by decide +kernel
theorem dX8_init_9 : decode cX8_init 9 = .ok (.putfield 7, 3) := by decide +kernel
theorem dX8_init_12 : decode cX8_init 12 = .ok (.aload_n 0, 1) := by decide +kernel
theorem dX8_init_13 : decode cX8_init 13 = .ok (.sipush 159, 3) := by decide +kernel
theorem dX8_init_16 : decode cX8_init 16 = .ok (.newarray .int, 2) := by decide +kernel
theorem dX8_init_18 : decode cX8_init 18 = .ok (.putfield 13, 3) := by decide +kernel
theorem dX8_init_21 : decode cX8_init 21 = .ok (.aload_n 0, 1) := by decide +kernel
theorem dX8_init_22 : decode cX8_init 22 = .ok (.iconst 3, 1) := by decide +kernel
theorem dX8_init_23 : decode cX8_init 23 = .ok (.newarray .boolean, 2) := by decide +kernel
theorem dX8_init_25 : decode cX8_init 25 = .ok (.putfield 16, 3) := by decide +kernel
theorem dX8_init_28 : decode cX8_init 28 = .ok (.aload_n 0, 1) := by decide +kernel
theorem dX8_init_29 : decode cX8_init 29 = .ok (.sipush 512, 3) := by decide +kernel
theorem dX8_init_32 : decode cX8_init 32 = .ok (.newarray .int, 2) := by decide +kernel
theorem dX8_init_34 : decode cX8_init 34 = .ok (.putfield 20, 3) := by decide +kernel
theorem dX8_init_37 : decode cX8_init 37 = .ok (.aload_n 0, 1) := by decide +kernel
theorem dX8_init_38 : decode cX8_init 38 = .ok (.sipush 24000, 3) := by decide +kernel
theorem dX8_init_41 : decode cX8_init 41 = .ok (.newarray .int, 2) := by decide +kernel
theorem dX8_init_43 : decode cX8_init 43 = .ok (.putfield 23, 3) := by decide +kernel
theorem dX8_init_46 : decode cX8_init 46 = .ok (.aload_n 0, 1) := by decide +kernel
theorem dX8_init_47 : decode cX8_init 47 = .ok (.sipush 160, 3) := by decide +kernel
theorem dX8_init_50 : decode cX8_init 50 = .ok (.newarray .int, 2) := by decide +kernel
theorem dX8_init_52 : decode cX8_init 52 = .ok (.putfield 26, 3) := by decide +kernel
theorem dX8_init_55 : decode cX8_init 55 = .ok (.aload_n 0, 1) := by decide +kernel
theorem dX8_init_56 : decode cX8_init 56 = .ok (.bipush 112, 2) := by decide +kernel
theorem dX8_init_58 : decode cX8_init 58 = .ok (.newarray .int, 2) := by decide +kernel
theorem dX8_init_60 : decode cX8_init 60 = .ok (.putfield 29, 3) := by decide +kernel
theorem dX8_init_63 : decode cX8_init 63 = .ok (.aload_n 0, 1) := by decide +kernel
theorem dX8_init_64 : decode cX8_init 64 = .ok (.sipush 4096, 3) := by decide +kernel
theorem dX8_init_67 : decode cX8_init 67 = .ok (.newarray .byte, 2) := by decide +kernel
theorem dX8_init_69 : decode cX8_init 69 = .ok (.putfield 32, 3) := by decide +kernel
theorem dX8_init_72 : decode cX8_init 72 = .ok (.iconst 0, 1) := by decide +kernel
theorem dX8_init_73 : decode cX8_init 73 = .ok (.istore_n 1, 1) := by decide +kernel
theorem dX8_init_74 : decode cX8_init 74 = .ok (.iload_n 1, 1) := by decide +kernel
theorem dX8_init_75 : decode cX8_init 75 = .ok (.sipush 512, 3) := by decide +kernel
theorem dX8_init_78 : decode cX8_init 78 = .ok (.if_icmp .ge 16, 3) := by decide +kernel
theorem dX8_init_81 : decode cX8_init 81 = .ok (.aload_n 0, 1) := by decide +kernel
theorem dX8_init_82 : decode cX8_init 82 = .ok (.getfield 20, 3) := by decide +kernel
theorem dX8_init_85 : decode cX8_init 85 = .ok (.iload_n 1, 1) := by decide +kernel
theorem dX8_init_86 : decode cX8_init 86 = .ok (.iconst (-1), 1) := by decide +kernel
theorem dX8_init_87 : decode cX8_init 87 = .ok (.iastore, 1) := by decide +kernel
theorem dX8_init_88 : decode cX8_init 88 = .ok (.iinc 1 1, 3) := by decide +kernel
theorem dX8_init_91 : decode cX8_init 91 = .ok (.goto (-17), 3) := by decide +kernel
theorem dX8_init_94 : decode cX8_init 94 = .ok (.aload_n 0, 1) := by decide +kernel
theorem dX8_init_95 : decode cX8_init 95 = .ok (.invokevirtual 36, 3) := by decide +kernel
theorem dX8_init_98 : decode cX8_init 98 = .ok (.return_, 1) := by decide +kernel
theorem dX8_thrown_0 : decode cX8_thrown 0 = .ok (.aload_n 0, 1) := by decide +kernel
theorem dX8_thrown_1 : decode cX8_thrown 1 = .ok (.getfield 39, 3) := by decide +kernel
theorem dX8_thrown_4 : decode cX8_thrown 4 = .ok (.ireturn, 1) := by decide +kernel
theorem dX8_across_0 : decode cX8_across 0 = .ok (.iload_n 0, 1) := by decide +kernel
theorem dX8_across_1 : decode cX8_across 1 = .ok (.iconst 1, 1) := by decide +kernel
theorem dX8_across_2 : decode cX8_across 2 = .ok (.if_icmp .ne 8, 3) := by decide +kernel
theorem dX8_across_5 : decode cX8_across 5 = .ok (.ldc 43, 2) := by decide +kernel
theorem dX8_across_7 : decode cX8_across 7 = .ok (.goto 41, 3) := by decide +kernel
theorem dX8_across_10 : decode cX8_across 10 = .ok (.iload_n 0, 1) := by decide +kernel
theorem dX8_across_11 : decode cX8_across 11 = .ok (.iconst 2, 1) := by decide +kernel
theorem dX8_across_12 : decode cX8_across 12 = .ok (.if_icmp .eq 8, 3) := by decide +kernel
theorem dX8_across_15 : decode cX8_across 15 = .ok (.iload_n 0, 1) := by decide +kernel
theorem dX8_across_16 : decode cX8_across 16 = .ok (.iconst 3, 1) := by decide +kernel
theorem dX8_across_17 : decode cX8_across 17 = .ok (.if_icmp .ne 8, 3) := by decide +kernel
theorem dX8_across_20 : decode cX8_across 20 = .ok (.ldc 44, 2) := by decide +kernel
theorem dX8_across_22 : decode cX8_across 22 = .ok (.goto 26, 3) := by decide +kernel
theorem dX8_across_25 : decode cX8_across 25 = .ok (.iload_n 0, 1) := by decide +kernel
theorem dX8_across_26 : decode cX8_across 26 = .ok (.bipush 6, 2) := by decide +kernel
theorem dX8_across_28 : decode cX8_across 28 = .ok (.if_icmp .ne 8, 3) := by decide +kernel
theorem dX8_across_31 : decode cX8_across 31 = .ok (.ldc 45, 2) := by decide +kernel
theorem dX8_across_33 : decode cX8_across 33 = .ok (.goto 15, 3) := by decide +kernel
theorem dX8_across_36 : decode cX8_across 36 = .ok (.iload_n 0, 1) := by decide +kernel
theorem dX8_across_37 : decode cX8_across 37 = .ok (.bipush 26, 2) := by decide +kernel
theorem dX8_across_39 : decode cX8_across 39 = .ok (.if_icmp .ne 8, 3) := by decide +kernel
theorem dX8_across_42 : decode cX8_across 42 = .ok (.ldc 46, 2) := by decide +kernel
theorem dX8_across_44 : decode cX8_across 44 = .ok (.goto 4, 3) := by decide +kernel
theorem dX8_across_47 : decode cX8_across 47 = .ok (.iconst 0, 1) := by decide +kernel
theorem dX8_across_48 : decode cX8_across 48 = .ok (.ireturn, 1) := by decide +kernel
theorem dX8_down_0 : decode cX8_down 0 = .ok (.iload_n 0, 1) := by decide +kernel
theorem dX8_down_1 : decode cX8_down 1 = .ok (.iconst 1, 1) := by decide +kernel
theorem dX8_down_2 : decode cX8_down 2 = .ok (.if_icmp .ne 8, 3) := by decide +kernel
theorem dX8_down_5 : decode cX8_down 5 = .ok (.ldc 47, 2) := by decide +kernel
theorem dX8_down_7 : decode cX8_down 7 = .ok (.goto 36, 3) := by decide +kernel
theorem dX8_down_10 : decode cX8_down 10 = .ok (.iload_n 0, 1) := by decide +kernel
theorem dX8_down_11 : decode cX8_down 11 = .ok (.iconst 2, 1) := by decide +kernel
theorem dX8_down_12 : decode cX8_down 12 = .ok (.if_icmp .ne 8, 3) := by decide +kernel
theorem dX8_down_15 : decode cX8_down 15 = .ok (.ldc 45, 2) := by decide +kernel
theorem dX8_down_17 : decode cX8_down 17 = .ok (.goto 26, 3) := by decide +kernel
theorem dX8_down_20 : decode cX8_down 20 = .ok (.iload_n 0, 1) := by decide +kernel
theorem dX8_down_21 : decode cX8_down 21 = .ok (.iconst 3, 1) := by decide +kernel
theorem dX8_down_22 : decode cX8_down 22 = .ok (.if_icmp .ne 8, 3) := by decide +kernel
theorem dX8_down_25 : decode cX8_down 25 = .ok (.ldc 48, 2) := by decide +kernel
theorem dX8_down_27 : decode cX8_down 27 = .ok (.goto 16, 3) := by decide +kernel
theorem dX8_down_30 : decode cX8_down 30 = .ok (.iload_n 0, 1) := by decide +kernel
theorem dX8_down_31 : decode cX8_down 31 = .ok (.bipush 6, 2) := by decide +kernel
theorem dX8_down_33 : decode cX8_down 33 = .ok (.if_icmp .ne 8, 3) := by decide +kernel
theorem dX8_down_36 : decode cX8_down 36 = .ok (.ldc 49, 2) := by decide +kernel
theorem dX8_down_38 : decode cX8_down 38 = .ok (.goto 5, 3) := by decide +kernel
theorem dX8_down_41 : decode cX8_down 41 = .ok (.ldc 50, 2) := by decide +kernel
theorem dX8_down_43 : decode cX8_down 43 = .ok (.ireturn, 1) := by decide +kernel
theorem dX8_measure_0 : decode cX8_measure 0 = .ok (.aload_n 0, 1) := by decide +kernel
theorem dX8_measure_1 : decode cX8_measure 1 = .ok (.getfield 51, 3) := by decide +kernel
theorem dX8_measure_4 : decode cX8_measure 4 = .ok (.iconst 2, 1) := by decide +kernel
theorem dX8_measure_5 : decode cX8_measure 5 = .ok (.irem, 1) := by decide +kernel
theorem dX8_measure_6 : decode cX8_measure 6 = .ok (.iconst 1, 1) := by decide +kernel
theorem dX8_measure_7 : decode cX8_measure 7 = .ok (.if_icmp .ne 7, 3) := by decide +kernel
theorem dX8_measure_10 : decode cX8_measure 10 = .ok (.iconst 1, 1) := by decide +kernel
theorem dX8_measure_11 : decode cX8_measure 11 = .ok (.goto 4, 3) := by decide +kernel
theorem dX8_measure_14 : decode cX8_measure 14 = .ok (.iconst 0, 1) := by decide +kernel
theorem dX8_measure_15 : decode cX8_measure 15 = .ok (.istore_n 1, 1) := by decide +kernel
theorem dX8_measure_16 : decode cX8_measure 16 = .ok (.aload_n 0, 1) := by decide +kernel
theorem dX8_measure_17 : decode cX8_measure 17 = .ok (.iload_n 1, 1) := by decide +kernel
theorem dX8_measure_18 : decode cX8_measure 18 = .ok (.ifCond .eq 17, 3) := by decide +kernel
theorem dX8_measure_21 : decode cX8_measure 21 = .ok (.aload_n 0, 1) := by decide +kernel
theorem dX8_measure_22 : decode cX8_measure 22 = .ok (.getfield 54, 3) := by decide +kernel
theorem dX8_measure_25 : decode cX8_measure 25 = .ok (.invokestatic 57, 3) := by decide +kernel
theorem dX8_measure_28 : decode cX8_measure 28 = .ok (.sipush 2880, 3) := by decide +kernel
theorem dX8_measure_31 : decode cX8_measure 31 = .ok (.isub, 1) := by decide +kernel
theorem dX8_measure_32 : decode cX8_measure 32 = .ok (.goto 14, 3) := by decide +kernel
theorem dX8_measure_35 : decode cX8_measure 35 = .ok (.aload_n 0, 1) := by decide +kernel
theorem dX8_measure_36 : decode cX8_measure 36 = .ok (.getfield 54, 3) := by decide +kernel
theorem dX8_measure_39 : decode cX8_measure 39 = .ok (.invokestatic 61, 3) := by decide +kernel
theorem dX8_measure_42 : decode cX8_measure 42 = .ok (.sipush 3600, 3) := by decide +kernel
theorem dX8_measure_45 : decode cX8_measure 45 = .ok (.isub, 1) := by decide +kernel
theorem dX8_measure_46 : decode cX8_measure 46 = .ok (.putfield 64, 3) := by decide +kernel
theorem dX8_measure_49 : decode cX8_measure 49 = .ok (.aload_n 0, 1) := by decide +kernel
theorem dX8_measure_50 : decode cX8_measure 50 = .ok (.iload_n 1, 1) := by decide +kernel
theorem dX8_measure_51 : decode cX8_measure 51 = .ok (.ifCond .eq 13, 3) := by decide +kernel
theorem dX8_measure_54 : decode cX8_measure 54 = .ok (.aload_n 0, 1) := by decide +kernel
theorem dX8_measure_55 : decode cX8_measure 55 = .ok (.getfield 54, 3) := by decide +kernel
theorem dX8_measure_58 : decode cX8_measure 58 = .ok (.invokestatic 61, 3) := by decide +kernel
theorem dX8_measure_61 : decode cX8_measure 61 = .ok (.goto 10, 3) := by decide +kernel
theorem dX8_measure_64 : decode cX8_measure 64 = .ok (.aload_n 0, 1) := by decide +kernel
theorem dX8_measure_65 : decode cX8_measure 65 = .ok (.getfield 54, 3) := by decide +kernel
theorem dX8_measure_68 : decode cX8_measure 68 = .ok (.invokestatic 57, 3) := by decide +kernel
theorem dX8_measure_71 : decode cX8_measure 71 = .ok (.putfield 67, 3) := by decide +kernel
theorem dX8_measure_74 : decode cX8_measure 74 = .ok (.return_, 1) := by decide +kernel
theorem dX8_within_0 : decode cX8_within 0 = .ok (.lload_n 0, 1) := by decide +kernel
theorem dX8_within_1 : decode cX8_within 1 = .ok (.lconst 0, 1) := by decide +kernel
theorem dX8_within_2 : decode cX8_within 2 = .ok (.lcmp, 1) := by decide +kernel
theorem dX8_within_3 : decode cX8_within 3 = .ok (.ifCond .ge 7, 3) := by decide +kernel
theorem dX8_within_6 : decode cX8_within 6 = .ok (.iconst 0, 1) := by decide +kernel
theorem dX8_within_7 : decode cX8_within 7 = .ok (.goto 16, 3) := by decide +kernel
theorem dX8_within_10 : decode cX8_within 10 = .ok (.lload_n 0, 1) := by decide +kernel
theorem dX8_within_11 : decode cX8_within 11 = .ok (.iload_n 2, 1) := by decide +kernel
theorem dX8_within_12 : decode cX8_within 12 = .ok (.i2l, 1) := by decide +kernel
theorem dX8_within_13 : decode cX8_within 13 = .ok (.lcmp, 1) := by decide +kernel
theorem dX8_within_14 : decode cX8_within 14 = .ok (.ifCond .le 7, 3) := by decide +kernel
theorem dX8_within_17 : decode cX8_within 17 = .ok (.iload_n 2, 1) := by decide +kernel
theorem dX8_within_18 : decode cX8_within 18 = .ok (.goto 5, 3) := by decide +kernel
theorem dX8_within_21 : decode cX8_within 21 = .ok (.lload_n 0, 1) := by decide +kernel
theorem dX8_within_22 : decode cX8_within 22 = .ok (.l2i, 1) := by decide +kernel
theorem dX8_within_23 : decode cX8_within 23 = .ok (.ireturn, 1) := by decide +kernel
theorem dX8_setX_0 : decode cX8_setX 0 = .ok (.aload_n 0, 1) := by decide +kernel
theorem dX8_setX_1 : decode cX8_setX 1 = .ok (.getfield 7, 3) := by decide +kernel
theorem dX8_setX_4 : decode cX8_setX 4 = .ok (.iconst 0, 1) := by decide +kernel
theorem dX8_setX_5 : decode cX8_setX 5 = .ok (.lload_n 1, 1) := by decide +kernel
theorem dX8_setX_6 : decode cX8_setX 6 = .ok (.aload_n 0, 1) := by decide +kernel
theorem dX8_setX_7 : decode cX8_setX 7 = .ok (.getfield 64, 3) := by decide +kernel
theorem dX8_setX_10 : decode cX8_setX 10 = .ok (.invokestatic 70, 3) := by decide +kernel
theorem dX8_setX_13 : decode cX8_setX 13 = .ok (.iastore, 1) := by decide +kernel
theorem dX8_setX_14 : decode cX8_setX 14 = .ok (.return_, 1) := by decide +kernel
theorem dX8_setY_0 : decode cX8_setY 0 = .ok (.aload_n 0, 1) := by decide +kernel
theorem dX8_setY_1 : decode cX8_setY 1 = .ok (.getfield 7, 3) := by decide +kernel
theorem dX8_setY_4 : decode cX8_setY 4 = .ok (.iconst 1, 1) := by decide +kernel
theorem dX8_setY_5 : decode cX8_setY 5 = .ok (.lload_n 1, 1) := by decide +kernel
theorem dX8_setY_6 : decode cX8_setY 6 = .ok (.aload_n 0, 1) := by decide +kernel
theorem dX8_setY_7 : decode cX8_setY 7 = .ok (.getfield 67, 3) := by decide +kernel
theorem dX8_setY_10 : decode cX8_setY 10 = .ok (.invokestatic 70, 3) := by decide +kernel
theorem dX8_setY_13 : decode cX8_setY 13 = .ok (.iastore, 1) := by decide +kernel
theorem dX8_setY_14 : decode cX8_setY 14 = .ok (.return_, 1) := by decide +kernel
theorem dX8_home_0 : decode cX8_home 0 = .ok (.aload_n 0, 1) := by decide +kernel
theorem dX8_home_1 : decode cX8_home 1 = .ok (.getfield 7, 3) := by decide +kernel
theorem dX8_home_4 : decode cX8_home 4 = .ok (.iconst 4, 1) := by decide +kernel
theorem dX8_home_5 : decode cX8_home 5 = .ok (.iaload, 1) := by decide +kernel
theorem dX8_home_6 : decode cX8_home 6 = .ok (.aload_n 0, 1) := by decide +kernel
theorem dX8_home_7 : decode cX8_home 7 = .ok (.getfield 7, 3) := by decide +kernel
theorem dX8_home_10 : decode cX8_home 10 = .ok (.bipush 7, 2) := by decide +kernel
theorem dX8_home_12 : decode cX8_home 12 = .ok (.iaload, 1) := by decide +kernel
theorem dX8_home_13 : decode cX8_home 13 = .ok (.iconst 3, 1) := by decide +kernel
theorem dX8_home_14 : decode cX8_home 14 = .ok (.imul, 1) := by decide +kernel
theorem dX8_home_15 : decode cX8_home 15 = .ok (.iconst 4, 1) := by decide +kernel
theorem dX8_home_16 : decode cX8_home 16 = .ok (.idiv, 1) := by decide +kernel
theorem dX8_home_17 : decode cX8_home 17 = .ok (.iadd, 1) := by decide +kernel
theorem dX8_home_18 : decode cX8_home 18 = .ok (.ireturn, 1) := by decide +kernel
theorem dX8_defaults_0 : decode cX8_defaults 0 = .ok (.aload_n 0, 1) := by decide +kernel
theorem dX8_defaults_1 : decode cX8_defaults 1 = .ok (.invokevirtual 74, 3) := by decide +kernel
theorem dX8_defaults_4 : decode cX8_defaults 4 = .ok (.aload_n 0, 1) := by decide +kernel
theorem dX8_defaults_5 : decode cX8_defaults 5 = .ok (.getfield 7, 3) := by decide +kernel
theorem dX8_defaults_8 : decode cX8_defaults 8 = .ok (.iconst 4, 1) := by decide +kernel
theorem dX8_defaults_9 : decode cX8_defaults 9 = .ok (.sipush 3600, 3) := by decide +kernel
theorem dX8_defaults_12 : decode cX8_defaults 12 = .ok (.iastore, 1) := by decide +kernel
theorem dX8_defaults_13 : decode cX8_defaults 13 = .ok (.aload_n 0, 1) := by decide +kernel
theorem dX8_defaults_14 : decode cX8_defaults 14 = .ok (.getfield 7, 3) := by decide +kernel
theorem dX8_defaults_17 : decode cX8_defaults 17 = .ok (.iconst 5, 1) := by decide +kernel
theorem dX8_defaults_18 : decode cX8_defaults 18 = .ok (.aload_n 0, 1) := by decide +kernel
theorem dX8_defaults_19 : decode cX8_defaults 19 = .ok (.getfield 67, 3) := by decide +kernel
theorem dX8_defaults_22 : decode cX8_defaults 22 = .ok (.sipush 7200, 3) := by decide +kernel
theorem dX8_defaults_25 : decode cX8_defaults 25 = .ok (.isub, 1) := by decide +kernel
theorem dX8_defaults_26 : decode cX8_defaults 26 = .ok (.iastore, 1) := by decide +kernel
theorem dX8_defaults_27 : decode cX8_defaults 27 = .ok (.aload_n 0, 1) := by decide +kernel
theorem dX8_defaults_28 : decode cX8_defaults 28 = .ok (.getfield 7, 3) := by decide +kernel
theorem dX8_defaults_31 : decode cX8_defaults 31 = .ok (.iconst 2, 1) := by decide +kernel
theorem dX8_defaults_32 : decode cX8_defaults 32 = .ok (.iconst 0, 1) := by decide +kernel
theorem dX8_defaults_33 : decode cX8_defaults 33 = .ok (.iastore, 1) := by decide +kernel
theorem dX8_defaults_34 : decode cX8_defaults 34 = .ok (.aload_n 0, 1) := by decide +kernel
theorem dX8_defaults_35 : decode cX8_defaults 35 = .ok (.getfield 7, 3) := by decide +kernel
theorem dX8_defaults_38 : decode cX8_defaults 38 = .ok (.iconst 3, 1) := by decide +kernel
theorem dX8_defaults_39 : decode cX8_defaults 39 = .ok (.aload_n 0, 1) := by decide +kernel
theorem dX8_defaults_40 : decode cX8_defaults 40 = .ok (.getfield 64, 3) := by decide +kernel
theorem dX8_defaults_43 : decode cX8_defaults 43 = .ok (.iastore, 1) := by decide +kernel
theorem dX8_defaults_44 : decode cX8_defaults 44 = .ok (.aload_n 0, 1) := by decide +kernel
theorem dX8_defaults_45 : decode cX8_defaults 45 = .ok (.lconst 0, 1) := by decide +kernel
theorem dX8_defaults_46 : decode cX8_defaults 46 = .ok (.invokevirtual 77, 3) := by decide +kernel
theorem dX8_defaults_49 : decode cX8_defaults 49 = .ok (.aload_n 0, 1) := by decide +kernel
theorem dX8_defaults_50 : decode cX8_defaults 50 = .ok (.aload_n 0, 1) := by decide +kernel
theorem dX8_defaults_51 : decode cX8_defaults 51 = .ok (.invokevirtual 81, 3) := by decide +kernel
theorem dX8_defaults_54 : decode cX8_defaults 54 = .ok (.i2l, 1) := by decide +kernel
theorem dX8_defaults_55 : decode cX8_defaults 55 = .ok (.invokevirtual 85, 3) := by decide +kernel
theorem dX8_defaults_58 : decode cX8_defaults 58 = .ok (.return_, 1) := by decide +kernel
theorem dX8_reset_0 : decode cX8_reset 0 = .ok (.iconst 0, 1) := by decide +kernel
theorem dX8_reset_1 : decode cX8_reset 1 = .ok (.istore_n 1, 1) := by decide +kernel
theorem dX8_reset_2 : decode cX8_reset 2 = .ok (.iload_n 1, 1) := by decide +kernel
theorem dX8_reset_3 : decode cX8_reset 3 = .ok (.bipush 53, 2) := by decide +kernel
theorem dX8_reset_5 : decode cX8_reset 5 = .ok (.if_icmp .ge 16, 3) := by decide +kernel
theorem dX8_reset_8 : decode cX8_reset 8 = .ok (.aload_n 0, 1) := by decide +kernel
theorem dX8_reset_9 : decode cX8_reset 9 = .ok (.getfield 7, 3) := by decide +kernel
theorem dX8_reset_12 : decode cX8_reset 12 = .ok (.iload_n 1, 1) := by decide +kernel
theorem dX8_reset_13 : decode cX8_reset 13 = .ok (.iconst 0, 1) := by decide +kernel
theorem dX8_reset_14 : decode cX8_reset 14 = .ok (.iastore, 1) := by decide +kernel
theorem dX8_reset_15 : decode cX8_reset 15 = .ok (.iinc 1 1, 3) := by decide +kernel
theorem dX8_reset_18 : decode cX8_reset 18 = .ok (.goto (-16), 3) := by decide +kernel
theorem dX8_reset_21 : decode cX8_reset 21 = .ok (.aload_n 0, 1) := by decide +kernel
theorem dX8_reset_22 : decode cX8_reset 22 = .ok (.iconst 2, 1) := by decide +kernel
theorem dX8_reset_23 : decode cX8_reset 23 = .ok (.putfield 54, 3) := by decide +kernel
theorem dX8_reset_26 : decode cX8_reset 26 = .ok (.aload_n 0, 1) := by decide +kernel
theorem dX8_reset_27 : decode cX8_reset 27 = .ok (.iconst 0, 1) := by decide +kernel
theorem dX8_reset_28 : decode cX8_reset 28 = .ok (.putfield 51, 3) := by decide +kernel
theorem dX8_reset_31 : decode cX8_reset 31 = .ok (.aload_n 0, 1) := by decide +kernel
theorem dX8_reset_32 : decode cX8_reset 32 = .ok (.iconst 1, 1) := by decide +kernel
theorem dX8_reset_33 : decode cX8_reset 33 = .ok (.putfield 88, 3) := by decide +kernel
theorem dX8_reset_36 : decode cX8_reset 36 = .ok (.aload_n 0, 1) := by decide +kernel
theorem dX8_reset_37 : decode cX8_reset 37 = .ok (.getfield 7, 3) := by decide +kernel
theorem dX8_reset_40 : decode cX8_reset 40 = .ok (.bipush 6, 2) := by decide +kernel
theorem dX8_reset_42 : decode cX8_reset 42 = .ok (.sipush 720, 3) := by decide +kernel
theorem dX8_reset_45 : decode cX8_reset 45 = .ok (.iastore, 1) := by decide +kernel
theorem dX8_reset_46 : decode cX8_reset 46 = .ok (.aload_n 0, 1) := by decide +kernel
theorem dX8_reset_47 : decode cX8_reset 47 = .ok (.getfield 7, 3) := by decide +kernel
theorem dX8_reset_50 : decode cX8_reset 50 = .ok (.bipush 7, 2) := by decide +kernel
theorem dX8_reset_52 : decode cX8_reset 52 = .ok (.sipush 1200, 3) := by decide +kernel
theorem dX8_reset_55 : decode cX8_reset 55 = .ok (.iastore, 1) := by decide +kernel
theorem dX8_reset_56 : decode cX8_reset 56 = .ok (.aload_n 0, 1) := by decide +kernel
theorem dX8_reset_57 : decode cX8_reset 57 = .ok (.invokevirtual 91, 3) := by decide +kernel
theorem dX8_reset_60 : decode cX8_reset 60 = .ok (.return_, 1) := by decide +kernel
theorem dX8_eject_0 : decode cX8_eject 0 = .ok (.iconst 4, 1) := by decide +kernel
theorem dX8_eject_1 : decode cX8_eject 1 = .ok (.aload_n 0, 1) := by decide +kernel
theorem dX8_eject_2 : decode cX8_eject 2 = .ok (.getfield 94, 3) := by decide +kernel
theorem dX8_eject_5 : decode cX8_eject 5 = .ok (.bipush 40, 2) := by decide +kernel
theorem dX8_eject_7 : decode cX8_eject 7 = .ok (.irem, 1) := by decide +kernel
theorem dX8_eject_8 : decode cX8_eject 8 = .ok (.imul, 1) := by decide +kernel
theorem dX8_eject_9 : decode cX8_eject 9 = .ok (.istore_n 1, 1) := by decide +kernel
theorem dX8_eject_10 : decode cX8_eject 10 = .ok (.aload_n 0, 1) := by decide +kernel
theorem dX8_eject_11 : decode cX8_eject 11 = .ok (.getfield 26, 3) := by decide +kernel
theorem dX8_eject_14 : decode cX8_eject 14 = .ok (.iload_n 1, 1) := by decide +kernel
theorem dX8_eject_15 : decode cX8_eject 15 = .ok (.aload_n 0, 1) := by decide +kernel
theorem dX8_eject_16 : decode cX8_eject 16 = .ok (.getfield 97, 3) := by decide +kernel
theorem dX8_eject_19 : decode cX8_eject 19 = .ok (.iastore, 1) := by decide +kernel
theorem dX8_eject_20 : decode cX8_eject 20 = .ok (.aload_n 0, 1) := by decide +kernel
theorem dX8_eject_21 : decode cX8_eject 21 = .ok (.getfield 26, 3) := by decide +kernel
theorem dX8_eject_24 : decode cX8_eject 24 = .ok (.iload_n 1, 1) := by decide +kernel
theorem dX8_eject_25 : decode cX8_eject 25 = .ok (.iconst 1, 1) := by decide +kernel
theorem dX8_eject_26 : decode cX8_eject 26 = .ok (.iadd, 1) := by decide +kernel
theorem dX8_eject_27 : decode cX8_eject 27 = .ok (.aload_n 0, 1) := by decide +kernel
theorem dX8_eject_28 : decode cX8_eject 28 = .ok (.getfield 54, 3) := by decide +kernel
theorem dX8_eject_31 : decode cX8_eject 31 = .ok (.iastore, 1) := by decide +kernel
theorem dX8_eject_32 : decode cX8_eject 32 = .ok (.aload_n 0, 1) := by decide +kernel
theorem dX8_eject_33 : decode cX8_eject 33 = .ok (.getfield 26, 3) := by decide +kernel
theorem dX8_eject_36 : decode cX8_eject 36 = .ok (.iload_n 1, 1) := by decide +kernel
theorem dX8_eject_37 : decode cX8_eject 37 = .ok (.iconst 2, 1) := by decide +kernel
theorem dX8_eject_38 : decode cX8_eject 38 = .ok (.iadd, 1) := by decide +kernel
theorem dX8_eject_39 : decode cX8_eject 39 = .ok (.aload_n 0, 1) := by decide +kernel
theorem dX8_eject_40 : decode cX8_eject 40 = .ok (.getfield 51, 3) := by decide +kernel
theorem dX8_eject_43 : decode cX8_eject 43 = .ok (.iastore, 1) := by decide +kernel
theorem dX8_eject_44 : decode cX8_eject 44 = .ok (.aload_n 0, 1) := by decide +kernel
theorem dX8_eject_45 : decode cX8_eject 45 = .ok (.getfield 26, 3) := by decide +kernel
theorem dX8_eject_48 : decode cX8_eject 48 = .ok (.iload_n 1, 1) := by decide +kernel
theorem dX8_eject_49 : decode cX8_eject 49 = .ok (.iconst 3, 1) := by decide +kernel
theorem dX8_eject_50 : decode cX8_eject 50 = .ok (.iadd, 1) := by decide +kernel
theorem dX8_eject_51 : decode cX8_eject 51 = .ok (.aload_n 0, 1) := by decide +kernel
theorem dX8_eject_52 : decode cX8_eject 52 = .ok (.getfield 88, 3) := by decide +kernel
theorem dX8_eject_55 : decode cX8_eject 55 = .ok (.iastore, 1) := by decide +kernel
theorem dX8_eject_56 : decode cX8_eject 56 = .ok (.aload_n 0, 1) := by decide +kernel
theorem dX8_eject_57 : decode cX8_eject 57 = .ok (.dup, 1) := by decide +kernel
theorem dX8_eject_58 : decode cX8_eject 58 = .ok (.getfield 94, 3) := by decide +kernel
theorem dX8_eject_61 : decode cX8_eject 61 = .ok (.iconst 1, 1) := by decide +kernel
theorem dX8_eject_62 : decode cX8_eject 62 = .ok (.iadd, 1) := by decide +kernel
theorem dX8_eject_63 : decode cX8_eject 63 = .ok (.putfield 94, 3) := by decide +kernel
theorem dX8_eject_66 : decode cX8_eject 66 = .ok (.aload_n 0, 1) := by decide +kernel
theorem dX8_eject_67 : decode cX8_eject 67 = .ok (.iconst 0, 1) := by decide +kernel
theorem dX8_eject_68 : decode cX8_eject 68 = .ok (.putfield 100, 3) := by decide +kernel
theorem dX8_eject_71 : decode cX8_eject 71 = .ok (.aload_n 0, 1) := by decide +kernel
theorem dX8_eject_72 : decode cX8_eject 72 = .ok (.iconst 0, 1) := by decide +kernel
theorem dX8_eject_73 : decode cX8_eject 73 = .ok (.putfield 97, 3) := by decide +kernel
theorem dX8_eject_76 : decode cX8_eject 76 = .ok (.aload_n 0, 1) := by decide +kernel
theorem dX8_eject_77 : decode cX8_eject 77 = .ok (.iconst 0, 1) := by decide +kernel
theorem dX8_eject_78 : decode cX8_eject 78 = .ok (.putfield 103, 3) := by decide +kernel
theorem dX8_eject_81 : decode cX8_eject 81 = .ok (.aload_n 0, 1) := by decide +kernel
theorem dX8_eject_82 : decode cX8_eject 82 = .ok (.aload_n 0, 1) := by decide +kernel
theorem dX8_eject_83 : decode cX8_eject 83 = .ok (.invokevirtual 81, 3) := by decide +kernel
theorem dX8_eject_86 : decode cX8_eject 86 = .ok (.i2l, 1) := by decide +kernel
theorem dX8_eject_87 : decode cX8_eject 87 = .ok (.invokevirtual 85, 3) := by decide +kernel
theorem dX8_eject_90 : decode cX8_eject 90 = .ok (.return_, 1) := by decide +kernel
theorem dX8_ejectIfDue_0 : decode cX8_ejectIfDue 0 = .ok (.aload_n 0, 1) := by decide +kernel
theorem dX8_ejectIfDue_1 : decode cX8_ejectIfDue 1 = .ok (.getfield 97, 3) := by decide +kernel
theorem dX8_ejectIfDue_4 : decode cX8_ejectIfDue 4 = .ok (.ifCond .gt 10, 3) := by decide +kernel
theorem dX8_ejectIfDue_7 : decode cX8_ejectIfDue 7 = .ok (.aload_n 0, 1) := by decide +kernel
theorem dX8_ejectIfDue_8 : decode cX8_ejectIfDue 8 = .ok (.getfield 103, 3) := by decide +kernel
theorem dX8_ejectIfDue_11 : decode cX8_ejectIfDue 11 = .ok (.ifCond .eq 7, 3) := by decide +kernel
theorem dX8_ejectIfDue_14 : decode cX8_ejectIfDue 14 = .ok (.aload_n 0, 1) := by decide +kernel
theorem dX8_ejectIfDue_15 : decode cX8_ejectIfDue 15 = .ok (.invokevirtual 107, 3) := by decide +kernel
theorem dX8_ejectIfDue_18 : decode cX8_ejectIfDue 18 = .ok (.return_, 1) := by decide +kernel
theorem dX8_lineFeed_0 : decode cX8_lineFeed 0 = .ok (.aload_n 0, 1) := by decide +kernel
theorem dX8_lineFeed_1 : decode cX8_lineFeed 1 = .ok (.getfield 7, 3) := by decide +kernel
theorem dX8_lineFeed_4 : decode cX8_lineFeed 4 = .ok (.iconst 1, 1) := by decide +kernel
theorem dX8_lineFeed_5 : decode cX8_lineFeed 5 = .ok (.iaload, 1) := by decide +kernel
theorem dX8_lineFeed_6 : decode cX8_lineFeed 6 = .ok (.i2l, 1) := by decide +kernel
theorem dX8_lineFeed_7 : decode cX8_lineFeed 7 = .ok (.iload_n 1, 1) := by decide +kernel
theorem dX8_lineFeed_8 : decode cX8_lineFeed 8 = .ok (.i2l, 1) := by decide +kernel
theorem dX8_lineFeed_9 : decode cX8_lineFeed 9 = .ok (.ladd, 1) := by decide +kernel
theorem dX8_lineFeed_10 : decode cX8_lineFeed 10 = .ok (.lstore_n 2, 1) := by decide +kernel
theorem dX8_lineFeed_11 : decode cX8_lineFeed 11 = .ok (.lload_n 2, 1) := by decide +kernel
theorem dX8_lineFeed_12 : decode cX8_lineFeed 12 = .ok (.aload_n 0, 1) := by decide +kernel
theorem dX8_lineFeed_13 : decode cX8_lineFeed 13 = .ok (.getfield 67, 3) := by decide +kernel
theorem dX8_lineFeed_16 : decode cX8_lineFeed 16 = .ok (.i2l, 1) := by decide +kernel
theorem dX8_lineFeed_17 : decode cX8_lineFeed 17 = .ok (.lcmp, 1) := by decide +kernel
theorem dX8_lineFeed_18 : decode cX8_lineFeed 18 = .ok (.ifCond .gt 34, 3) := by decide +kernel
theorem dX8_lineFeed_21 : decode cX8_lineFeed 21 = .ok (.aload_n 0, 1) := by decide +kernel
theorem dX8_lineFeed_22 : decode cX8_lineFeed 22 = .ok (.getfield 7, 3) := by decide +kernel
theorem dX8_lineFeed_25 : decode cX8_lineFeed 25 = .ok (.bipush 9, 2) := by decide +kernel
theorem dX8_lineFeed_27 : decode cX8_lineFeed 27 = .ok (.iaload, 1) := by decide +kernel
theorem dX8_lineFeed_28 : decode cX8_lineFeed 28 = .ok (.iconst 1, 1) := by decide +kernel
theorem dX8_lineFeed_29 : decode cX8_lineFeed 29 = .ok (.if_icmp .ne 30, 3) := by decide +kernel
theorem dX8_lineFeed_32 : decode cX8_lineFeed 32 = .ok (.lload_n 2, 1) := by decide +kernel
theorem dX8_lineFeed_33 : decode cX8_lineFeed 33 = .ok (.aload_n 0, 1) := by decide +kernel
theorem dX8_lineFeed_34 : decode cX8_lineFeed 34 = .ok (.getfield 7, 3) := by decide +kernel
theorem dX8_lineFeed_37 : decode cX8_lineFeed 37 = .ok (.iconst 4, 1) := by decide +kernel
theorem dX8_lineFeed_38 : decode cX8_lineFeed 38 = .ok (.iaload, 1) := by decide +kernel
theorem dX8_lineFeed_39 : decode cX8_lineFeed 39 = .ok (.i2l, 1) := by decide +kernel
theorem dX8_lineFeed_40 : decode cX8_lineFeed 40 = .ok (.aload_n 0, 1) := by decide +kernel
theorem dX8_lineFeed_41 : decode cX8_lineFeed 41 = .ok (.getfield 7, 3) := by decide +kernel
theorem dX8_lineFeed_44 : decode cX8_lineFeed 44 = .ok (.iconst 5, 1) := by decide +kernel
theorem dX8_lineFeed_45 : decode cX8_lineFeed 45 = .ok (.iaload, 1) := by decide +kernel
theorem dX8_lineFeed_46 : decode cX8_lineFeed 46 = .ok (.i2l, 1) := by decide +kernel
theorem dX8_lineFeed_47 : decode cX8_lineFeed 47 = .ok (.ladd, 1) := by decide +kernel
theorem dX8_lineFeed_48 : decode cX8_lineFeed 48 = .ok (.lcmp, 1) := by decide +kernel
theorem dX8_lineFeed_49 : decode cX8_lineFeed 49 = .ok (.ifCond .le 10, 3) := by decide +kernel
theorem dX8_lineFeed_52 : decode cX8_lineFeed 52 = .ok (.aload_n 0, 1) := by decide +kernel
theorem dX8_lineFeed_53 : decode cX8_lineFeed 53 = .ok (.invokevirtual 107, 3) := by decide +kernel
theorem dX8_lineFeed_56 : decode cX8_lineFeed 56 = .ok (.goto 8, 3) := by decide +kernel
theorem dX8_lineFeed_59 : decode cX8_lineFeed 59 = .ok (.aload_n 0, 1) := by decide +kernel
theorem dX8_lineFeed_60 : decode cX8_lineFeed 60 = .ok (.lload_n 2, 1) := by decide +kernel
theorem dX8_lineFeed_61 : decode cX8_lineFeed 61 = .ok (.invokevirtual 85, 3) := by decide +kernel
theorem dX8_lineFeed_64 : decode cX8_lineFeed 64 = .ok (.return_, 1) := by decide +kernel
theorem dX8_carriageReturn_0 : decode cX8_carriageReturn 0 = .ok (.aload_n 0, 1) := by decide +kernel
theorem dX8_carriageReturn_1 : decode cX8_carriageReturn 1 = .ok (.aload_n 0, 1) := by decide +kernel
theorem dX8_carriageReturn_2 : decode cX8_carriageReturn 2 = .ok (.getfield 7, 3) := by decide +kernel
theorem dX8_carriageReturn_5 : decode cX8_carriageReturn 5 = .ok (.iconst 2, 1) := by decide +kernel
theorem dX8_carriageReturn_6 : decode cX8_carriageReturn 6 = .ok (.iaload, 1) := by decide +kernel
theorem dX8_carriageReturn_7 : decode cX8_carriageReturn 7 = .ok (.i2l, 1) := by decide +kernel
theorem dX8_carriageReturn_8 : decode cX8_carriageReturn 8 = .ok (.invokevirtual 77, 3) := by decide +kernel
theorem dX8_carriageReturn_11 : decode cX8_carriageReturn 11 = .ok (.return_, 1) := by decide +kernel
theorem dX8_character_0 : decode cX8_character 0 = .ok (.aload_n 0, 1) := by decide +kernel
theorem dX8_character_1 : decode cX8_character 1 = .ok (.getfield 20, 3) := by decide +kernel
theorem dX8_character_4 : decode cX8_character 4 = .ok (.sipush 256, 3) := by decide +kernel
theorem dX8_character_7 : decode cX8_character 7 = .ok (.aload_n 0, 1) := by decide +kernel
theorem dX8_character_8 : decode cX8_character 8 = .ok (.getfield 7, 3) := by decide +kernel
theorem dX8_character_11 : decode cX8_character 11 = .ok (.bipush 11, 2) := by decide +kernel
theorem dX8_character_13 : decode cX8_character 13 = .ok (.iaload, 1) := by decide +kernel
theorem dX8_character_14 : decode cX8_character 14 = .ok (.imul, 1) := by decide +kernel
theorem dX8_character_15 : decode cX8_character 15 = .ok (.iload_n 1, 1) := by decide +kernel
theorem dX8_character_16 : decode cX8_character 16 = .ok (.iadd, 1) := by decide +kernel
theorem dX8_character_17 : decode cX8_character 17 = .ok (.iaload, 1) := by decide +kernel
theorem dX8_character_18 : decode cX8_character 18 = .ok (.istore_n 2, 1) := by decide +kernel
theorem dX8_character_19 : decode cX8_character 19 = .ok (.iload_n 2, 1) := by decide +kernel
theorem dX8_character_20 : decode cX8_character 20 = .ok (.ifCond .ge 13, 3) := by decide +kernel
theorem dX8_character_23 : decode cX8_character 23 = .ok (.aload_n 0, 1) := by decide +kernel
theorem dX8_character_24 : decode cX8_character 24 = .ok (.getfield 7, 3) := by decide +kernel
theorem dX8_character_27 : decode cX8_character 27 = .ok (.bipush 6, 2) := by decide +kernel
theorem dX8_character_29 : decode cX8_character 29 = .ok (.iaload, 1) := by decide +kernel
theorem dX8_character_30 : decode cX8_character 30 = .ok (.goto 4, 3) := by decide +kernel
theorem dX8_character_33 : decode cX8_character 33 = .ok (.iload_n 2, 1) := by decide +kernel
theorem dX8_character_34 : decode cX8_character 34 = .ok (.istore_n 3, 1) := by decide +kernel
theorem dX8_character_35 : decode cX8_character 35 = .ok (.aload_n 0, 1) := by decide +kernel
theorem dX8_character_36 : decode cX8_character 36 = .ok (.getfield 7, 3) := by decide +kernel
theorem dX8_character_39 : decode cX8_character 39 = .ok (.iconst 0, 1) := by decide +kernel
theorem dX8_character_40 : decode cX8_character 40 = .ok (.iaload, 1) := by decide +kernel
theorem dX8_character_41 : decode cX8_character 41 = .ok (.aload_n 0, 1) := by decide +kernel
theorem dX8_character_42 : decode cX8_character 42 = .ok (.getfield 7, 3) := by decide +kernel
theorem dX8_character_45 : decode cX8_character 45 = .ok (.iconst 3, 1) := by decide +kernel
theorem dX8_character_46 : decode cX8_character 46 = .ok (.iaload, 1) := by decide +kernel
theorem dX8_character_47 : decode cX8_character 47 = .ok (.if_icmp .ge 24, 3) := by decide +kernel
theorem dX8_character_50 : decode cX8_character 50 = .ok (.aload_n 0, 1) := by decide +kernel
theorem dX8_character_51 : decode cX8_character 51 = .ok (.getfield 7, 3) := by decide +kernel
theorem dX8_character_54 : decode cX8_character 54 = .ok (.iconst 0, 1) := by decide +kernel
theorem dX8_character_55 : decode cX8_character 55 = .ok (.iaload, 1) := by decide +kernel
theorem dX8_character_56 : decode cX8_character 56 = .ok (.i2l, 1) := by decide +kernel
theorem dX8_character_57 : decode cX8_character 57 = .ok (.iload_n 3, 1) := by decide +kernel
theorem dX8_character_58 : decode cX8_character 58 = .ok (.i2l, 1) := by decide +kernel
theorem dX8_character_59 : decode cX8_character 59 = .ok (.ladd, 1) := by decide +kernel
theorem dX8_character_60 : decode cX8_character 60 = .ok (.aload_n 0, 1) := by decide +kernel
theorem dX8_character_61 : decode cX8_character 61 = .ok (.getfield 7, 3) := by decide +kernel
theorem dX8_character_64 : decode cX8_character 64 = .ok (.iconst 3, 1) := by decide +kernel
theorem dX8_character_65 : decode cX8_character 65 = .ok (.iaload, 1) := by decide +kernel
theorem dX8_character_66 : decode cX8_character 66 = .ok (.i2l, 1) := by decide +kernel
theorem dX8_character_67 : decode cX8_character 67 = .ok (.lcmp, 1) := by decide +kernel
theorem dX8_character_68 : decode cX8_character 68 = .ok (.ifCond .le 29, 3) := by decide +kernel
theorem dX8_character_71 : decode cX8_character 71 = .ok (.aload_n 0, 1) := by decide +kernel
theorem dX8_character_72 : decode cX8_character 72 = .ok (.getfield 7, 3) := by decide +kernel
theorem dX8_character_75 : decode cX8_character 75 = .ok (.bipush 8, 2) := by decide +kernel
theorem dX8_character_77 : decode cX8_character 77 = .ok (.iaload, 1) := by decide +kernel
theorem dX8_character_78 : decode cX8_character 78 = .ok (.ifCond .ne 4, 3) := by decide +kernel
theorem dX8_character_81 : decode cX8_character 81 = .ok (.return_, 1) := by decide +kernel
theorem dX8_character_82 : decode cX8_character 82 = .ok (.aload_n 0, 1) := by decide +kernel
theorem dX8_character_83 : decode cX8_character 83 = .ok (.invokevirtual 110, 3) := by decide +kernel
theorem dX8_character_86 : decode cX8_character 86 = .ok (.aload_n 0, 1) := by decide +kernel
theorem dX8_character_87 : decode cX8_character 87 = .ok (.aload_n 0, 1) := by decide +kernel
theorem dX8_character_88 : decode cX8_character 88 = .ok (.getfield 7, 3) := by decide +kernel
theorem dX8_character_91 : decode cX8_character 91 = .ok (.bipush 7, 2) := by decide +kernel
theorem dX8_character_93 : decode cX8_character 93 = .ok (.iaload, 1) := by decide +kernel
theorem dX8_character_94 : decode cX8_character 94 = .ok (.invokevirtual 113, 3) := by decide +kernel
theorem dX8_character_97 : decode cX8_character 97 = .ok (.iload_n 1, 1) := by decide +kernel
theorem dX8_character_98 : decode cX8_character 98 = .ok (.bipush 32, 2) := by decide +kernel
theorem dX8_character_100 : decode cX8_character 100 = .ok (.if_icmp .eq 103, 3) := by decide +kernel
theorem dX8_character_103 : decode cX8_character 103 = .ok (.aload_n 0, 1) := by decide +kernel
theorem dX8_character_104 : decode cX8_character 104 = .ok (.getfield 100, 3) := by decide +kernel
theorem dX8_character_107 : decode cX8_character 107 = .ok (.sipush 6000, 3) := by decide +kernel
theorem dX8_character_110 : decode cX8_character 110 = .ok (.if_icmp .ge 83, 3) := by decide +kernel
theorem dX8_character_113 : decode cX8_character 113 = .ok (.aload_n 0, 1) := by decide +kernel
theorem dX8_character_114 : decode cX8_character 114 = .ok (.getfield 23, 3) := by decide +kernel
theorem dX8_character_117 : decode cX8_character 117 = .ok (.iconst 4, 1) := by decide +kernel
theorem dX8_character_118 : decode cX8_character 118 = .ok (.aload_n 0, 1) := by decide +kernel
theorem dX8_character_119 : decode cX8_character 119 = .ok (.getfield 100, 3) := by decide +kernel
theorem dX8_character_122 : decode cX8_character 122 = .ok (.imul, 1) := by decide +kernel
theorem dX8_character_123 : decode cX8_character 123 = .ok (.aload_n 0, 1) := by decide +kernel
theorem dX8_character_124 : decode cX8_character 124 = .ok (.getfield 7, 3) := by decide +kernel
theorem dX8_character_127 : decode cX8_character 127 = .ok (.iconst 0, 1) := by decide +kernel
theorem dX8_character_128 : decode cX8_character 128 = .ok (.iaload, 1) := by decide +kernel
theorem dX8_character_129 : decode cX8_character 129 = .ok (.iastore, 1) := by decide +kernel
theorem dX8_character_130 : decode cX8_character 130 = .ok (.aload_n 0, 1) := by decide +kernel
theorem dX8_character_131 : decode cX8_character 131 = .ok (.getfield 23, 3) := by decide +kernel
theorem dX8_character_134 : decode cX8_character 134 = .ok (.iconst 4, 1) := by decide +kernel
theorem dX8_character_135 : decode cX8_character 135 = .ok (.aload_n 0, 1) := by decide +kernel
theorem dX8_character_136 : decode cX8_character 136 = .ok (.getfield 100, 3) := by decide +kernel
theorem dX8_character_139 : decode cX8_character 139 = .ok (.imul, 1) := by decide +kernel
theorem dX8_character_140 : decode cX8_character 140 = .ok (.iconst 1, 1) := by decide +kernel
theorem dX8_character_141 : decode cX8_character 141 = .ok (.iadd, 1) := by decide +kernel
theorem dX8_character_142 : decode cX8_character 142 = .ok (.aload_n 0, 1) := by decide +kernel
theorem dX8_character_143 : decode cX8_character 143 = .ok (.getfield 7, 3) := by decide +kernel
theorem dX8_character_146 : decode cX8_character 146 = .ok (.iconst 1, 1) := by decide +kernel
theorem dX8_character_147 : decode cX8_character 147 = .ok (.iaload, 1) := by decide +kernel
theorem dX8_character_148 : decode cX8_character 148 = .ok (.iastore, 1) := by decide +kernel
theorem dX8_character_149 : decode cX8_character 149 = .ok (.aload_n 0, 1) := by decide +kernel
theorem dX8_character_150 : decode cX8_character 150 = .ok (.getfield 23, 3) := by decide +kernel
theorem dX8_character_153 : decode cX8_character 153 = .ok (.iconst 4, 1) := by decide +kernel
theorem dX8_character_154 : decode cX8_character 154 = .ok (.aload_n 0, 1) := by decide +kernel
theorem dX8_character_155 : decode cX8_character 155 = .ok (.getfield 100, 3) := by decide +kernel
theorem dX8_character_158 : decode cX8_character 158 = .ok (.imul, 1) := by decide +kernel
theorem dX8_character_159 : decode cX8_character 159 = .ok (.iconst 2, 1) := by decide +kernel
theorem dX8_character_160 : decode cX8_character 160 = .ok (.iadd, 1) := by decide +kernel
theorem dX8_character_161 : decode cX8_character 161 = .ok (.iload_n 1, 1) := by decide +kernel
theorem dX8_character_162 : decode cX8_character 162 = .ok (.iastore, 1) := by decide +kernel
theorem dX8_character_163 : decode cX8_character 163 = .ok (.aload_n 0, 1) := by decide +kernel
theorem dX8_character_164 : decode cX8_character 164 = .ok (.getfield 23, 3) := by decide +kernel
theorem dX8_character_167 : decode cX8_character 167 = .ok (.iconst 4, 1) := by decide +kernel
theorem dX8_character_168 : decode cX8_character 168 = .ok (.aload_n 0, 1) := by decide +kernel
theorem dX8_character_169 : decode cX8_character 169 = .ok (.getfield 100, 3) := by decide +kernel
theorem dX8_character_172 : decode cX8_character 172 = .ok (.imul, 1) := by decide +kernel
theorem dX8_character_173 : decode cX8_character 173 = .ok (.iconst 3, 1) := by decide +kernel
theorem dX8_character_174 : decode cX8_character 174 = .ok (.iadd, 1) := by decide +kernel
theorem dX8_character_175 : decode cX8_character 175 = .ok (.aload_n 0, 1) := by decide +kernel
theorem dX8_character_176 : decode cX8_character 176 = .ok (.getfield 7, 3) := by decide +kernel
theorem dX8_character_179 : decode cX8_character 179 = .ok (.bipush 11, 2) := by decide +kernel
theorem dX8_character_181 : decode cX8_character 181 = .ok (.iaload, 1) := by decide +kernel
theorem dX8_character_182 : decode cX8_character 182 = .ok (.iastore, 1) := by decide +kernel
theorem dX8_character_183 : decode cX8_character 183 = .ok (.aload_n 0, 1) := by decide +kernel
theorem dX8_character_184 : decode cX8_character 184 = .ok (.dup, 1) := by decide +kernel
theorem dX8_character_185 : decode cX8_character 185 = .ok (.getfield 100, 3) := by decide +kernel
theorem dX8_character_188 : decode cX8_character 188 = .ok (.iconst 1, 1) := by decide +kernel
theorem dX8_character_189 : decode cX8_character 189 = .ok (.iadd, 1) := by decide +kernel
theorem dX8_character_190 : decode cX8_character 190 = .ok (.putfield 100, 3) := by decide +kernel
theorem dX8_character_193 : decode cX8_character 193 = .ok (.aload_n 0, 1) := by decide +kernel
theorem dX8_character_194 : decode cX8_character 194 = .ok (.dup, 1) := by decide +kernel
theorem dX8_character_195 : decode cX8_character 195 = .ok (.getfield 97, 3) := by decide +kernel
theorem dX8_character_198 : decode cX8_character 198 = .ok (.iconst 1, 1) := by decide +kernel
theorem dX8_character_199 : decode cX8_character 199 = .ok (.iadd, 1) := by decide +kernel
theorem dX8_character_200 : decode cX8_character 200 = .ok (.putfield 97, 3) := by decide +kernel
theorem dX8_character_203 : decode cX8_character 203 = .ok (.aload_n 0, 1) := by decide +kernel
theorem dX8_character_204 : decode cX8_character 204 = .ok (.aload_n 0, 1) := by decide +kernel
theorem dX8_character_205 : decode cX8_character 205 = .ok (.getfield 7, 3) := by decide +kernel
theorem dX8_character_208 : decode cX8_character 208 = .ok (.iconst 0, 1) := by decide +kernel
theorem dX8_character_209 : decode cX8_character 209 = .ok (.iaload, 1) := by decide +kernel
theorem dX8_character_210 : decode cX8_character 210 = .ok (.i2l, 1) := by decide +kernel
theorem dX8_character_211 : decode cX8_character 211 = .ok (.iload_n 3, 1) := by decide +kernel
theorem dX8_character_212 : decode cX8_character 212 = .ok (.i2l, 1) := by decide +kernel
theorem dX8_character_213 : decode cX8_character 213 = .ok (.ladd, 1) := by decide +kernel
theorem dX8_character_214 : decode cX8_character 214 = .ok (.invokevirtual 77, 3) := by decide +kernel
theorem dX8_character_217 : decode cX8_character 217 = .ok (.return_, 1) := by decide +kernel
theorem dX8_tab_0 : decode cX8_tab 0 = .ok (.aload_n 0, 1) := by decide +kernel
theorem dX8_tab_1 : decode cX8_tab 1 = .ok (.getfield 7, 3) := by decide +kernel
theorem dX8_tab_4 : decode cX8_tab 4 = .ok (.iconst 0, 1) := by decide +kernel
theorem dX8_tab_5 : decode cX8_tab 5 = .ok (.iaload, 1) := by decide +kernel
theorem dX8_tab_6 : decode cX8_tab 6 = .ok (.aload_n 0, 1) := by decide +kernel
theorem dX8_tab_7 : decode cX8_tab 7 = .ok (.getfield 7, 3) := by decide +kernel
theorem dX8_tab_10 : decode cX8_tab 10 = .ok (.iconst 2, 1) := by decide +kernel
theorem dX8_tab_11 : decode cX8_tab 11 = .ok (.iaload, 1) := by decide +kernel
theorem dX8_tab_12 : decode cX8_tab 12 = .ok (.if_icmp .ge 17, 3) := by decide +kernel
theorem dX8_tab_15 : decode cX8_tab 15 = .ok (.aload_n 0, 1) := by decide +kernel
theorem dX8_tab_16 : decode cX8_tab 16 = .ok (.aload_n 0, 1) := by decide +kernel
theorem dX8_tab_17 : decode cX8_tab 17 = .ok (.getfield 7, 3) := by decide +kernel
theorem dX8_tab_20 : decode cX8_tab 20 = .ok (.iconst 2, 1) := by decide +kernel
theorem dX8_tab_21 : decode cX8_tab 21 = .ok (.iaload, 1) := by decide +kernel
theorem dX8_tab_22 : decode cX8_tab 22 = .ok (.i2l, 1) := by decide +kernel
theorem dX8_tab_23 : decode cX8_tab 23 = .ok (.invokevirtual 77, 3) := by decide +kernel
theorem dX8_tab_26 : decode cX8_tab 26 = .ok (.goto 82, 3) := by decide +kernel
theorem dX8_tab_29 : decode cX8_tab 29 = .ok (.aload_n 0, 1) := by decide +kernel
theorem dX8_tab_30 : decode cX8_tab 30 = .ok (.getfield 7, 3) := by decide +kernel
theorem dX8_tab_33 : decode cX8_tab 33 = .ok (.bipush 6, 2) := by decide +kernel
theorem dX8_tab_35 : decode cX8_tab 35 = .ok (.iaload, 1) := by decide +kernel
theorem dX8_tab_36 : decode cX8_tab 36 = .ok (.ifCond .le 72, 3) := by decide +kernel
theorem dX8_tab_39 : decode cX8_tab 39 = .ok (.ldc2_w 117, 3) := by decide +kernel
theorem dX8_tab_42 : decode cX8_tab 42 = .ok (.aload_n 0, 1) := by decide +kernel
theorem dX8_tab_43 : decode cX8_tab 43 = .ok (.getfield 7, 3) := by decide +kernel
theorem dX8_tab_46 : decode cX8_tab 46 = .ok (.bipush 6, 2) := by decide +kernel
theorem dX8_tab_48 : decode cX8_tab 48 = .ok (.iaload, 1) := by decide +kernel
theorem dX8_tab_49 : decode cX8_tab 49 = .ok (.i2l, 1) := by decide +kernel
theorem dX8_tab_50 : decode cX8_tab 50 = .ok (.lmul, 1) := by decide +kernel
theorem dX8_tab_51 : decode cX8_tab 51 = .ok (.lstore_n 1, 1) := by decide +kernel
theorem dX8_tab_52 : decode cX8_tab 52 = .ok (.aload_n 0, 1) := by decide +kernel
theorem dX8_tab_53 : decode cX8_tab 53 = .ok (.getfield 7, 3) := by decide +kernel
theorem dX8_tab_56 : decode cX8_tab 56 = .ok (.iconst 2, 1) := by decide +kernel
theorem dX8_tab_57 : decode cX8_tab 57 = .ok (.iaload, 1) := by decide +kernel
theorem dX8_tab_58 : decode cX8_tab 58 = .ok (.i2l, 1) := by decide +kernel
theorem dX8_tab_59 : decode cX8_tab 59 = .ok (.aload_n 0, 1) := by decide +kernel
theorem dX8_tab_60 : decode cX8_tab 60 = .ok (.getfield 7, 3) := by decide +kernel
theorem dX8_tab_63 : decode cX8_tab 63 = .ok (.iconst 0, 1) := by decide +kernel
theorem dX8_tab_64 : decode cX8_tab 64 = .ok (.iaload, 1) := by decide +kernel
theorem dX8_tab_65 : decode cX8_tab 65 = .ok (.aload_n 0, 1) := by decide +kernel
theorem dX8_tab_66 : decode cX8_tab 66 = .ok (.getfield 7, 3) := by decide +kernel
theorem dX8_tab_69 : decode cX8_tab 69 = .ok (.iconst 2, 1) := by decide +kernel
theorem dX8_tab_70 : decode cX8_tab 70 = .ok (.iaload, 1) := by decide +kernel
theorem dX8_tab_71 : decode cX8_tab 71 = .ok (.isub, 1) := by decide +kernel
theorem dX8_tab_72 : decode cX8_tab 72 = .ok (.i2l, 1) := by decide +kernel
theorem dX8_tab_73 : decode cX8_tab 73 = .ok (.lload_n 1, 1) := by decide +kernel
theorem dX8_tab_74 : decode cX8_tab 74 = .ok (.ldiv, 1) := by decide +kernel
theorem dX8_tab_75 : decode cX8_tab 75 = .ok (.lconst 1, 1) := by decide +kernel
theorem dX8_tab_76 : decode cX8_tab 76 = .ok (.ladd, 1) := by decide +kernel
theorem dX8_tab_77 : decode cX8_tab 77 = .ok (.lload_n 1, 1) := by decide +kernel
theorem dX8_tab_78 : decode cX8_tab 78 = .ok (.lmul, 1) := by decide +kernel
theorem dX8_tab_79 : decode cX8_tab 79 = .ok (.ladd, 1) := by decide +kernel
theorem dX8_tab_80 : decode cX8_tab 80 = .ok (.lstore_n 3, 1) := by decide +kernel
theorem dX8_tab_81 : decode cX8_tab 81 = .ok (.aload_n 0, 1) := by decide +kernel
theorem dX8_tab_82 : decode cX8_tab 82 = .ok (.lload_n 3, 1) := by decide +kernel
theorem dX8_tab_83 : decode cX8_tab 83 = .ok (.aload_n 0, 1) := by decide +kernel
theorem dX8_tab_84 : decode cX8_tab 84 = .ok (.getfield 7, 3) := by decide +kernel
theorem dX8_tab_87 : decode cX8_tab 87 = .ok (.iconst 3, 1) := by decide +kernel
theorem dX8_tab_88 : decode cX8_tab 88 = .ok (.iaload, 1) := by decide +kernel
theorem dX8_tab_89 : decode cX8_tab 89 = .ok (.i2l, 1) := by decide +kernel
theorem dX8_tab_90 : decode cX8_tab 90 = .ok (.lcmp, 1) := by decide +kernel
theorem dX8_tab_91 : decode cX8_tab 91 = .ok (.ifCond .ge 7, 3) := by decide +kernel
theorem dX8_tab_94 : decode cX8_tab 94 = .ok (.lload_n 3, 1) := by decide +kernel
theorem dX8_tab_95 : decode cX8_tab 95 = .ok (.goto 10, 3) := by decide +kernel
theorem dX8_tab_98 : decode cX8_tab 98 = .ok (.aload_n 0, 1) := by decide +kernel
theorem dX8_tab_99 : decode cX8_tab 99 = .ok (.getfield 7, 3) := by decide +kernel
theorem dX8_tab_102 : decode cX8_tab 102 = .ok (.iconst 3, 1) := by decide +kernel
theorem dX8_tab_103 : decode cX8_tab 103 = .ok (.iaload, 1) := by decide +kernel
theorem dX8_tab_104 : decode cX8_tab 104 = .ok (.i2l, 1) := by decide +kernel
theorem dX8_tab_105 : decode cX8_tab 105 = .ok (.invokevirtual 77, 3) := by decide +kernel
theorem dX8_tab_108 : decode cX8_tab 108 = .ok (.return_, 1) := by decide +kernel
theorem dX8_control_0 : decode cX8_control 0 = .ok (.aload_n 0, 1) := by decide +kernel
theorem dX8_control_1 : decode cX8_control 1 = .ok (.getfield 7, 3) := by decide +kernel
theorem dX8_control_4 : decode cX8_control 4 = .ok (.bipush 10, 2) := by decide +kernel
theorem dX8_control_6 : decode cX8_control 6 = .ok (.iaload, 1) := by decide +kernel
theorem dX8_control_7 : decode cX8_control 7 = .ok (.iconst 1, 1) := by decide +kernel
theorem dX8_control_8 : decode cX8_control 8 = .ok (.if_icmp .le 7, 3) := by decide +kernel
theorem dX8_control_11 : decode cX8_control 11 = .ok (.iconst 1, 1) := by decide +kernel
theorem dX8_control_12 : decode cX8_control 12 = .ok (.goto 4, 3) := by decide +kernel
theorem dX8_control_15 : decode cX8_control 15 = .ok (.iconst 0, 1) := by decide +kernel
theorem dX8_control_16 : decode cX8_control 16 = .ok (.istore_n 2, 1) := by decide +kernel
theorem dX8_control_17 : decode cX8_control 17 = .ok (.iload_n 1, 1) := by decide +kernel
theorem dX8_control_18 : decode cX8_control 18 = .ok (.bipush 8, 2) := by decide +kernel
theorem dX8_control_20 : decode cX8_control 20 = .ok (.if_icmp .ne 69, 3) := by decide +kernel
theorem dX8_control_23 : decode cX8_control 23 = .ok (.aload_n 0, 1) := by decide +kernel
theorem dX8_control_24 : decode cX8_control 24 = .ok (.getfield 7, 3) := by decide +kernel
theorem dX8_control_27 : decode cX8_control 27 = .ok (.iconst 0, 1) := by decide +kernel
theorem dX8_control_28 : decode cX8_control 28 = .ok (.iaload, 1) := by decide +kernel
theorem dX8_control_29 : decode cX8_control 29 = .ok (.aload_n 0, 1) := by decide +kernel
theorem dX8_control_30 : decode cX8_control 30 = .ok (.getfield 7, 3) := by decide +kernel
theorem dX8_control_33 : decode cX8_control 33 = .ok (.iconst 2, 1) := by decide +kernel
theorem dX8_control_34 : decode cX8_control 34 = .ok (.iaload, 1) := by decide +kernel
theorem dX8_control_35 : decode cX8_control 35 = .ok (.if_icmp .lt 12, 3) := by decide +kernel
theorem dX8_control_38 : decode cX8_control 38 = .ok (.aload_n 0, 1) := by decide +kernel
theorem dX8_control_39 : decode cX8_control 39 = .ok (.getfield 7, 3) := by decide +kernel
theorem dX8_control_42 : decode cX8_control 42 = .ok (.iconst 2, 1) := by decide +kernel
theorem dX8_control_43 : decode cX8_control 43 = .ok (.iaload, 1) := by decide +kernel
theorem dX8_control_44 : decode cX8_control 44 = .ok (.goto 4, 3) := by decide +kernel
theorem dX8_control_47 : decode cX8_control 47 = .ok (.iconst 0, 1) := by decide +kernel
theorem dX8_control_48 : decode cX8_control 48 = .ok (.istore_n 3, 1) := by decide +kernel
theorem dX8_control_49 : decode cX8_control 49 = .ok (.aload_n 0, 1) := by decide +kernel
theorem dX8_control_50 : decode cX8_control 50 = .ok (.getfield 7, 3) := by decide +kernel
theorem dX8_control_53 : decode cX8_control 53 = .ok (.iconst 0, 1) := by decide +kernel
theorem dX8_control_54 : decode cX8_control 54 = .ok (.iaload, 1) := by decide +kernel
theorem dX8_control_55 : decode cX8_control 55 = .ok (.i2l, 1) := by decide +kernel
theorem dX8_control_56 : decode cX8_control 56 = .ok (.aload_n 0, 1) := by decide +kernel
theorem dX8_control_57 : decode cX8_control 57 = .ok (.getfield 7, 3) := by decide +kernel
theorem dX8_control_60 : decode cX8_control 60 = .ok (.bipush 6, 2) := by decide +kernel
theorem dX8_control_62 : decode cX8_control 62 = .ok (.iaload, 1) := by decide +kernel
theorem dX8_control_63 : decode cX8_control 63 = .ok (.i2l, 1) := by decide +kernel
theorem dX8_control_64 : decode cX8_control 64 = .ok (.lsub, 1) := by decide +kernel
theorem dX8_control_65 : decode cX8_control 65 = .ok (.lstore 4, 2) := by decide +kernel
theorem dX8_control_67 : decode cX8_control 67 = .ok (.aload_n 0, 1) := by decide +kernel
theorem dX8_control_68 : decode cX8_control 68 = .ok (.lload 4, 2) := by decide +kernel
theorem dX8_control_70 : decode cX8_control 70 = .ok (.iload_n 3, 1) := by decide +kernel
theorem dX8_control_71 : decode cX8_control 71 = .ok (.i2l, 1) := by decide +kernel
theorem dX8_control_72 : decode cX8_control 72 = .ok (.lcmp, 1) := by decide +kernel
theorem dX8_control_73 : decode cX8_control 73 = .ok (.ifCond .ge 8, 3) := by decide +kernel
theorem dX8_control_76 : decode cX8_control 76 = .ok (.iload_n 3, 1) := by decide +kernel
theorem dX8_control_77 : decode cX8_control 77 = .ok (.i2l, 1) := by decide +kernel
theorem dX8_control_78 : decode cX8_control 78 = .ok (.goto 5, 3) := by decide +kernel
theorem dX8_control_81 : decode cX8_control 81 = .ok (.lload 4, 2) := by decide +kernel
theorem dX8_control_83 : decode cX8_control 83 = .ok (.invokevirtual 77, 3) := by decide +kernel
theorem dX8_control_86 : decode cX8_control 86 = .ok (.goto 123, 3) := by decide +kernel
theorem dX8_control_89 : decode cX8_control 89 = .ok (.iload_n 1, 1) := by decide +kernel
theorem dX8_control_90 : decode cX8_control 90 = .ok (.bipush 9, 2) := by decide +kernel
theorem dX8_control_92 : decode cX8_control 92 = .ok (.if_icmp .ne 10, 3) := by decide +kernel
theorem dX8_control_95 : decode cX8_control 95 = .ok (.aload_n 0, 1) := by decide +kernel
theorem dX8_control_96 : decode cX8_control 96 = .ok (.invokevirtual 119, 3) := by decide +kernel
theorem dX8_control_99 : decode cX8_control 99 = .ok (.goto 110, 3) := by decide +kernel
theorem dX8_control_102 : decode cX8_control 102 = .ok (.iload_n 1, 1) := by decide +kernel
theorem dX8_control_103 : decode cX8_control 103 = .ok (.bipush 10, 2) := by decide +kernel
theorem dX8_control_105 : decode cX8_control 105 = .ok (.if_icmp .eq 9, 3) := by decide +kernel
theorem dX8_control_108 : decode cX8_control 108 = .ok (.iload_n 1, 1) := by decide +kernel
theorem dX8_control_109 : decode cX8_control 109 = .ok (.bipush 12, 2) := by decide +kernel
theorem dX8_control_111 : decode cX8_control 111 = .ok (.if_icmp .ne 38, 3) := by decide +kernel
theorem dX8_control_114 : decode cX8_control 114 = .ok (.iload_n 2, 1) := by decide +kernel
theorem dX8_control_115 : decode cX8_control 115 = .ok (.ifCond .eq 7, 3) := by decide +kernel
theorem dX8_control_118 : decode cX8_control 118 = .ok (.aload_n 0, 1) := by decide +kernel
theorem dX8_control_119 : decode cX8_control 119 = .ok (.invokevirtual 110, 3) := by decide +kernel
theorem dX8_control_122 : decode cX8_control 122 = .ok (.iload_n 1, 1) := by decide +kernel
theorem dX8_control_123 : decode cX8_control 123 = .ok (.bipush 10, 2) := by decide +kernel
theorem dX8_control_125 : decode cX8_control 125 = .ok (.if_icmp .ne 17, 3) := by decide +kernel
theorem dX8_control_128 : decode cX8_control 128 = .ok (.aload_n 0, 1) := by decide +kernel
theorem dX8_control_129 : decode cX8_control 129 = .ok (.aload_n 0, 1) := by decide +kernel
theorem dX8_control_130 : decode cX8_control 130 = .ok (.getfield 7, 3) := by decide +kernel
theorem dX8_control_133 : decode cX8_control 133 = .ok (.bipush 7, 2) := by decide +kernel
theorem dX8_control_135 : decode cX8_control 135 = .ok (.iaload, 1) := by decide +kernel
theorem dX8_control_136 : decode cX8_control 136 = .ok (.invokevirtual 113, 3) := by decide +kernel
theorem dX8_control_139 : decode cX8_control 139 = .ok (.goto 70, 3) := by decide +kernel
theorem dX8_control_142 : decode cX8_control 142 = .ok (.aload_n 0, 1) := by decide +kernel
theorem dX8_control_143 : decode cX8_control 143 = .ok (.invokevirtual 107, 3) := by decide +kernel
theorem dX8_control_146 : decode cX8_control 146 = .ok (.goto 63, 3) := by decide +kernel
theorem dX8_control_149 : decode cX8_control 149 = .ok (.iload_n 1, 1) := by decide +kernel
theorem dX8_control_150 : decode cX8_control 150 = .ok (.bipush 13, 2) := by decide +kernel
theorem dX8_control_152 : decode cX8_control 152 = .ok (.if_icmp .ne 34, 3) := by decide +kernel
theorem dX8_control_155 : decode cX8_control 155 = .ok (.aload_n 0, 1) := by decide +kernel
theorem dX8_control_156 : decode cX8_control 156 = .ok (.invokevirtual 110, 3) := by decide +kernel
theorem dX8_control_159 : decode cX8_control 159 = .ok (.aload_n 0, 1) := by decide +kernel
theorem dX8_control_160 : decode cX8_control 160 = .ok (.getfield 7, 3) := by decide +kernel
theorem dX8_control_163 : decode cX8_control 163 = .ok (.bipush 10, 2) := by decide +kernel
theorem dX8_control_165 : decode cX8_control 165 = .ok (.iaload, 1) := by decide +kernel
theorem dX8_control_166 : decode cX8_control 166 = .ok (.iconst 2, 1) := by decide +kernel
theorem dX8_control_167 : decode cX8_control 167 = .ok (.irem, 1) := by decide +kernel
theorem dX8_control_168 : decode cX8_control 168 = .ok (.iconst 1, 1) := by decide +kernel
theorem dX8_control_169 : decode cX8_control 169 = .ok (.if_icmp .ne 40, 3) := by decide +kernel
theorem dX8_control_172 : decode cX8_control 172 = .ok (.aload_n 0, 1) := by decide +kernel
theorem dX8_control_173 : decode cX8_control 173 = .ok (.aload_n 0, 1) := by decide +kernel
theorem dX8_control_174 : decode cX8_control 174 = .ok (.getfield 7, 3) := by decide +kernel
theorem dX8_control_177 : decode cX8_control 177 = .ok (.bipush 7, 2) := by decide +kernel
theorem dX8_control_179 : decode cX8_control 179 = .ok (.iaload, 1) := by decide +kernel
theorem dX8_control_180 : decode cX8_control 180 = .ok (.invokevirtual 113, 3) := by decide +kernel
theorem dX8_control_183 : decode cX8_control 183 = .ok (.goto 26, 3) := by decide +kernel
theorem dX8_control_186 : decode cX8_control 186 = .ok (.iload_n 1, 1) := by decide +kernel
theorem dX8_control_187 : decode cX8_control 187 = .ok (.bipush 14, 2) := by decide +kernel
theorem dX8_control_189 : decode cX8_control 189 = .ok (.if_icmp .eq 9, 3) := by decide +kernel
theorem dX8_control_192 : decode cX8_control 192 = .ok (.iload_n 1, 1) := by decide +kernel
theorem dX8_control_193 : decode cX8_control 193 = .ok (.bipush 15, 2) := by decide +kernel
theorem dX8_control_195 : decode cX8_control 195 = .ok (.if_icmp .ne 14, 3) := by decide +kernel
theorem dX8_control_198 : decode cX8_control 198 = .ok (.aload_n 0, 1) := by decide +kernel
theorem dX8_control_199 : decode cX8_control 199 = .ok (.getfield 7, 3) := by decide +kernel
theorem dX8_control_202 : decode cX8_control 202 = .ok (.bipush 11, 2) := by decide +kernel
theorem dX8_control_204 : decode cX8_control 204 = .ok (.bipush 15, 2) := by decide +kernel
theorem dX8_control_206 : decode cX8_control 206 = .ok (.iload_n 1, 1) := by decide +kernel
theorem dX8_control_207 : decode cX8_control 207 = .ok (.isub, 1) := by decide +kernel
theorem dX8_control_208 : decode cX8_control 208 = .ok (.iastore, 1) := by decide +kernel
theorem dX8_control_209 : decode cX8_control 209 = .ok (.return_, 1) := by decide +kernel
theorem dX8_shortSequence_0 : decode cX8_shortSequence 0 = .ok (.iload_n 1, 1) := by decide +kernel
theorem dX8_shortSequence_1 : decode cX8_shortSequence 1 = .ok (.bipush 69, 2) := by decide +kernel
theorem dX8_shortSequence_3 : decode cX8_shortSequence 3 = .ok (.if_icmp .ne 14, 3) := by decide +kernel
theorem dX8_shortSequence_6 : decode cX8_shortSequence 6 = .ok (.aload_n 0, 1) := by decide +kernel
theorem dX8_shortSequence_7 : decode cX8_shortSequence 7 = .ok (.invokevirtual 122, 3) := by decide +kernel
theorem dX8_shortSequence_10 : decode cX8_shortSequence 10 = .ok (.aload_n 0, 1) := by decide +kernel
theorem dX8_shortSequence_11 : decode cX8_shortSequence 11 = .ok (.invokevirtual 36, 3) := by decide +kernel
theorem dX8_shortSequence_14 : decode cX8_shortSequence 14 = .ok (.goto 48, 3) := by decide +kernel
theorem dX8_shortSequence_17 : decode cX8_shortSequence 17 = .ok (.iload_n 1, 1) := by decide +kernel
theorem dX8_shortSequence_18 : decode cX8_shortSequence 18 = .ok (.bipush 57, 2) := by decide +kernel
theorem dX8_shortSequence_20 : decode cX8_shortSequence 20 = .ok (.if_icmp .ne 23, 3) := by decide +kernel
theorem dX8_shortSequence_23 : decode cX8_shortSequence 23 = .ok (.aload_n 0, 1) := by decide +kernel
theorem dX8_shortSequence_24 : decode cX8_shortSequence 24 = .ok (.getfield 7, 3) := by decide +kernel
theorem dX8_shortSequence_27 : decode cX8_shortSequence 27 = .ok (.iconst 2, 1) := by decide +kernel
theorem dX8_shortSequence_28 : decode cX8_shortSequence 28 = .ok (.iconst 0, 1) := by decide +kernel
theorem dX8_shortSequence_29 : decode cX8_shortSequence 29 = .ok (.iastore, 1) := by decide +kernel
theorem dX8_shortSequence_30 : decode cX8_shortSequence 30 = .ok (.aload_n 0, 1) := by decide +kernel
theorem dX8_shortSequence_31 : decode cX8_shortSequence 31 = .ok (.getfield 7, 3) := by decide +kernel
theorem dX8_shortSequence_34 : decode cX8_shortSequence 34 = .ok (.iconst 3, 1) := by decide +kernel
theorem dX8_shortSequence_35 : decode cX8_shortSequence 35 = .ok (.aload_n 0, 1) := by decide +kernel
theorem dX8_shortSequence_36 : decode cX8_shortSequence 36 = .ok (.getfield 64, 3) := by decide +kernel
theorem dX8_shortSequence_39 : decode cX8_shortSequence 39 = .ok (.iastore, 1) := by decide +kernel
theorem dX8_shortSequence_40 : decode cX8_shortSequence 40 = .ok (.goto 22, 3) := by decide +kernel
theorem dX8_shortSequence_43 : decode cX8_shortSequence 43 = .ok (.iload_n 1, 1) := by decide +kernel
theorem dX8_shortSequence_44 : decode cX8_shortSequence 44 = .ok (.bipush 61, 2) := by decide +kernel
theorem dX8_shortSequence_46 : decode cX8_shortSequence 46 = .ok (.if_icmp .ne 16, 3) := by decide +kernel
theorem dX8_shortSequence_49 : decode cX8_shortSequence 49 = .ok (.aload_n 0, 1) := by decide +kernel
theorem dX8_shortSequence_50 : decode cX8_shortSequence 50 = .ok (.aload_n 0, 1) := by decide +kernel
theorem dX8_shortSequence_51 : decode cX8_shortSequence 51 = .ok (.getfield 7, 3) := by decide +kernel
theorem dX8_shortSequence_54 : decode cX8_shortSequence 54 = .ok (.bipush 7, 2) := by decide +kernel
theorem dX8_shortSequence_56 : decode cX8_shortSequence 56 = .ok (.iaload, 1) := by decide +kernel
theorem dX8_shortSequence_57 : decode cX8_shortSequence 57 = .ok (.iconst 2, 1) := by decide +kernel
theorem dX8_shortSequence_58 : decode cX8_shortSequence 58 = .ok (.idiv, 1) := by decide +kernel
theorem dX8_shortSequence_59 : decode cX8_shortSequence 59 = .ok (.invokevirtual 113, 3) := by decide +kernel
theorem dX8_shortSequence_62 : decode cX8_shortSequence 62 = .ok (.return_, 1) := by decide +kernel
theorem dX8_beginField_0 : decode cX8_beginField 0 = .ok (.aload_n 0, 1) := by decide +kernel
theorem dX8_beginField_1 : decode cX8_beginField 1 = .ok (.iconst 0, 1) := by decide +kernel
theorem dX8_beginField_2 : decode cX8_beginField 2 = .ok (.putfield 125, 3) := by decide +kernel
theorem dX8_beginField_5 : decode cX8_beginField 5 = .ok (.aload_n 0, 1) := by decide +kernel
theorem dX8_beginField_6 : decode cX8_beginField 6 = .ok (.iconst 0, 1) := by decide +kernel
theorem dX8_beginField_7 : decode cX8_beginField 7 = .ok (.putfield 128, 3) := by decide +kernel
theorem dX8_beginField_10 : decode cX8_beginField 10 = .ok (.aload_n 0, 1) := by decide +kernel
theorem dX8_beginField_11 : decode cX8_beginField 11 = .ok (.iconst 0, 1) := by decide +kernel
theorem dX8_beginField_12 : decode cX8_beginField 12 = .ok (.putfield 131, 3) := by decide +kernel
theorem dX8_beginField_15 : decode cX8_beginField 15 = .ok (.aload_n 0, 1) := by decide +kernel
theorem dX8_beginField_16 : decode cX8_beginField 16 = .ok (.iconst 0, 1) := by decide +kernel
theorem dX8_beginField_17 : decode cX8_beginField 17 = .ok (.putfield 134, 3) := by decide +kernel
theorem dX8_beginField_20 : decode cX8_beginField 20 = .ok (.aload_n 0, 1) := by decide +kernel
theorem dX8_beginField_21 : decode cX8_beginField 21 = .ok (.iconst 0, 1) := by decide +kernel
theorem dX8_beginField_22 : decode cX8_beginField 22 = .ok (.putfield 137, 3) := by decide +kernel
theorem dX8_beginField_25 : decode cX8_beginField 25 = .ok (.aload_n 0, 1) := by decide +kernel
theorem dX8_beginField_26 : decode cX8_beginField 26 = .ok (.iconst 0, 1) := by decide +kernel
theorem dX8_beginField_27 : decode cX8_beginField 27 = .ok (.putfield 140, 3) := by decide +kernel
theorem dX8_beginField_30 : decode cX8_beginField 30 = .ok (.return_, 1) := by decide +kernel
theorem dX8_behindEsc_0 : decode cX8_behindEsc 0 = .ok (.iload_n 1, 1) := by decide +kernel
theorem dX8_behindEsc_1 : decode cX8_behindEsc 1 = .ok (.bipush 48, 2) := by decide +kernel
theorem dX8_behindEsc_3 : decode cX8_behindEsc 3 = .ok (.if_icmp .lt 22, 3) := by decide +kernel
theorem dX8_behindEsc_6 : decode cX8_behindEsc 6 = .ok (.iload_n 1, 1) := by decide +kernel
theorem dX8_behindEsc_7 : decode cX8_behindEsc 7 = .ok (.bipush 126, 2) := by decide +kernel
theorem dX8_behindEsc_9 : decode cX8_behindEsc 9 = .ok (.if_icmp .gt 16, 3) := by decide +kernel
theorem dX8_behindEsc_12 : decode cX8_behindEsc 12 = .ok (.aload_n 0, 1) := by decide +kernel
theorem dX8_behindEsc_13 : decode cX8_behindEsc 13 = .ok (.iconst 0, 1) := by decide +kernel
theorem dX8_behindEsc_14 : decode cX8_behindEsc 14 = .ok (.putfield 143, 3) := by decide +kernel
theorem dX8_behindEsc_17 : decode cX8_behindEsc 17 = .ok (.aload_n 0, 1) := by decide +kernel
theorem dX8_behindEsc_18 : decode cX8_behindEsc 18 = .ok (.iload_n 1, 1) := by decide +kernel
theorem dX8_behindEsc_19 : decode cX8_behindEsc 19 = .ok (.invokevirtual 146, 3) := by decide +kernel
theorem dX8_behindEsc_22 : decode cX8_behindEsc 22 = .ok (.goto 48, 3) := by decide +kernel
theorem dX8_behindEsc_25 : decode cX8_behindEsc 25 = .ok (.iload_n 1, 1) := by decide +kernel
theorem dX8_behindEsc_26 : decode cX8_behindEsc 26 = .ok (.bipush 33, 2) := by decide +kernel
theorem dX8_behindEsc_28 : decode cX8_behindEsc 28 = .ok (.if_icmp .lt 27, 3) := by decide +kernel
theorem dX8_behindEsc_31 : decode cX8_behindEsc 31 = .ok (.iload_n 1, 1) := by decide +kernel
theorem dX8_behindEsc_32 : decode cX8_behindEsc 32 = .ok (.bipush 47, 2) := by decide +kernel
theorem dX8_behindEsc_34 : decode cX8_behindEsc 34 = .ok (.if_icmp .gt 21, 3) := by decide +kernel
theorem dX8_behindEsc_37 : decode cX8_behindEsc 37 = .ok (.aload_n 0, 1) := by decide +kernel
theorem dX8_behindEsc_38 : decode cX8_behindEsc 38 = .ok (.iconst 2, 1) := by decide +kernel
theorem dX8_behindEsc_39 : decode cX8_behindEsc 39 = .ok (.putfield 143, 3) := by decide +kernel
theorem dX8_behindEsc_42 : decode cX8_behindEsc 42 = .ok (.aload_n 0, 1) := by decide +kernel
theorem dX8_behindEsc_43 : decode cX8_behindEsc 43 = .ok (.iload_n 1, 1) := by decide +kernel
theorem dX8_behindEsc_44 : decode cX8_behindEsc 44 = .ok (.putfield 149, 3) := by decide +kernel
theorem dX8_behindEsc_47 : decode cX8_behindEsc 47 = .ok (.aload_n 0, 1) := by decide +kernel
theorem dX8_behindEsc_48 : decode cX8_behindEsc 48 = .ok (.iconst 0, 1) := by decide +kernel
theorem dX8_behindEsc_49 : decode cX8_behindEsc 49 = .ok (.putfield 152, 3) := by decide +kernel
theorem dX8_behindEsc_52 : decode cX8_behindEsc 52 = .ok (.goto 18, 3) := by decide +kernel
theorem dX8_behindEsc_55 : decode cX8_behindEsc 55 = .ok (.aload_n 0, 1) := by decide +kernel
theorem dX8_behindEsc_56 : decode cX8_behindEsc 56 = .ok (.iload_n 1, 1) := by decide +kernel
theorem dX8_behindEsc_57 : decode cX8_behindEsc 57 = .ok (.bipush 27, 2) := by decide +kernel
theorem dX8_behindEsc_59 : decode cX8_behindEsc 59 = .ok (.if_icmp .ne 7, 3) := by decide +kernel
theorem dX8_behindEsc_62 : decode cX8_behindEsc 62 = .ok (.iconst 1, 1) := by decide +kernel
theorem dX8_behindEsc_63 : decode cX8_behindEsc 63 = .ok (.goto 4, 3) := by decide +kernel
theorem dX8_behindEsc_66 : decode cX8_behindEsc 66 = .ok (.iconst 0, 1) := by decide +kernel
theorem dX8_behindEsc_67 : decode cX8_behindEsc 67 = .ok (.putfield 143, 3) := by decide +kernel
theorem dX8_behindEsc_70 : decode cX8_behindEsc 70 = .ok (.return_, 1) := by decide +kernel
theorem dX8_field_0 : decode cX8_field 0 = .ok (.iload_n 1, 1) := by decide +kernel
theorem dX8_field_1 : decode cX8_field 1 = .ok (.bipush 48, 2) := by decide +kernel
theorem dX8_field_3 : decode cX8_field 3 = .ok (.if_icmp .lt 13, 3) := by decide +kernel
theorem dX8_field_6 : decode cX8_field 6 = .ok (.iload_n 1, 1) := by decide +kernel
theorem dX8_field_7 : decode cX8_field 7 = .ok (.bipush 57, 2) := by decide +kernel
theorem dX8_field_9 : decode cX8_field 9 = .ok (.if_icmp .gt 7, 3) := by decide +kernel
theorem dX8_field_12 : decode cX8_field 12 = .ok (.iconst 1, 1) := by decide +kernel
theorem dX8_field_13 : decode cX8_field 13 = .ok (.goto 4, 3) := by decide +kernel
theorem dX8_field_16 : decode cX8_field 16 = .ok (.iconst 0, 1) := by decide +kernel
theorem dX8_field_17 : decode cX8_field 17 = .ok (.istore_n 2, 1) := by decide +kernel
theorem dX8_field_18 : decode cX8_field 18 = .ok (.aload_n 0, 1) := by decide +kernel
theorem dX8_field_19 : decode cX8_field 19 = .ok (.getfield 125, 3) := by decide +kernel
theorem dX8_field_22 : decode cX8_field 22 = .ok (.ifCond .ne 43, 3) := by decide +kernel
theorem dX8_field_25 : decode cX8_field 25 = .ok (.iload_n 1, 1) := by decide +kernel
theorem dX8_field_26 : decode cX8_field 26 = .ok (.bipush 43, 2) := by decide +kernel
theorem dX8_field_28 : decode cX8_field 28 = .ok (.if_icmp .eq 9, 3) := by decide +kernel
theorem dX8_field_31 : decode cX8_field 31 = .ok (.iload_n 1, 1) := by decide +kernel
theorem dX8_field_32 : decode cX8_field 32 = .ok (.bipush 45, 2) := by decide +kernel
theorem dX8_field_34 : decode cX8_field 34 = .ok (.if_icmp .ne 31, 3) := by decide +kernel
theorem dX8_field_37 : decode cX8_field 37 = .ok (.aload_n 0, 1) := by decide +kernel
theorem dX8_field_38 : decode cX8_field 38 = .ok (.iconst 1, 1) := by decide +kernel
theorem dX8_field_39 : decode cX8_field 39 = .ok (.putfield 128, 3) := by decide +kernel
theorem dX8_field_42 : decode cX8_field 42 = .ok (.aload_n 0, 1) := by decide +kernel
theorem dX8_field_43 : decode cX8_field 43 = .ok (.iload_n 1, 1) := by decide +kernel
theorem dX8_field_44 : decode cX8_field 44 = .ok (.bipush 45, 2) := by decide +kernel
theorem dX8_field_46 : decode cX8_field 46 = .ok (.if_icmp .ne 7, 3) := by decide +kernel
theorem dX8_field_49 : decode cX8_field 49 = .ok (.iconst 1, 1) := by decide +kernel
theorem dX8_field_50 : decode cX8_field 50 = .ok (.goto 4, 3) := by decide +kernel
theorem dX8_field_53 : decode cX8_field 53 = .ok (.iconst 0, 1) := by decide +kernel
theorem dX8_field_54 : decode cX8_field 54 = .ok (.putfield 131, 3) := by decide +kernel
theorem dX8_field_57 : decode cX8_field 57 = .ok (.aload_n 0, 1) := by decide +kernel
theorem dX8_field_58 : decode cX8_field 58 = .ok (.iconst 1, 1) := by decide +kernel
theorem dX8_field_59 : decode cX8_field 59 = .ok (.putfield 125, 3) := by decide +kernel
theorem dX8_field_62 : decode cX8_field 62 = .ok (.goto 219, 3) := by decide +kernel
theorem dX8_field_65 : decode cX8_field 65 = .ok (.aload_n 0, 1) := by decide +kernel
theorem dX8_field_66 : decode cX8_field 66 = .ok (.getfield 125, 3) := by decide +kernel
theorem dX8_field_69 : decode cX8_field 69 = .ok (.iconst 2, 1) := by decide +kernel
theorem dX8_field_70 : decode cX8_field 70 = .ok (.if_icmp .ge 55, 3) := by decide +kernel
theorem dX8_field_73 : decode cX8_field 73 = .ok (.iload_n 2, 1) := by decide +kernel
theorem dX8_field_74 : decode cX8_field 74 = .ok (.ifCond .eq 51, 3) := by decide +kernel
theorem dX8_field_77 : decode cX8_field 77 = .ok (.aload_n 0, 1) := by decide +kernel
theorem dX8_field_78 : decode cX8_field 78 = .ok (.aload_n 0, 1) := by decide +kernel
theorem dX8_field_79 : decode cX8_field 79 = .ok (.getfield 134, 3) := by decide +kernel
theorem dX8_field_82 : decode cX8_field 82 = .ok (.bipush 10, 2) := by decide +kernel
theorem dX8_field_84 : decode cX8_field 84 = .ok (.imul, 1) := by decide +kernel
theorem dX8_field_85 : decode cX8_field 85 = .ok (.iload_n 1, 1) := by decide +kernel
theorem dX8_field_86 : decode cX8_field 86 = .ok (.iadd, 1) := by decide +kernel
theorem dX8_field_87 : decode cX8_field 87 = .ok (.bipush 48, 2) := by decide +kernel
theorem dX8_field_89 : decode cX8_field 89 = .ok (.isub, 1) := by decide +kernel
theorem dX8_field_90 : decode cX8_field 90 = .ok (.sipush 32767, 3) := by decide +kernel
theorem dX8_field_93 : decode cX8_field 93 = .ok (.if_icmp .le 9, 3) := by decide +kernel
theorem dX8_field_96 : decode cX8_field 96 = .ok (.sipush 32767, 3) := by decide +kernel
theorem dX8_field_99 : decode cX8_field 99 = .ok (.goto 15, 3) := by decide +kernel
theorem dX8_field_102 : decode cX8_field 102 = .ok (.aload_n 0, 1) := by decide +kernel
theorem dX8_field_103 : decode cX8_field 103 = .ok (.getfield 134, 3) := by decide +kernel
theorem dX8_field_106 : decode cX8_field 106 = .ok (.bipush 10, 2) := by decide +kernel
theorem dX8_field_108 : decode cX8_field 108 = .ok (.imul, 1) := by decide +kernel
theorem dX8_field_109 : decode cX8_field 109 = .ok (.iload_n 1, 1) := by decide +kernel
theorem dX8_field_110 : decode cX8_field 110 = .ok (.iadd, 1) := by decide +kernel
theorem dX8_field_111 : decode cX8_field 111 = .ok (.bipush 48, 2) := by decide +kernel
theorem dX8_field_113 : decode cX8_field 113 = .ok (.isub, 1) := by decide +kernel
theorem dX8_field_114 : decode cX8_field 114 = .ok (.putfield 134, 3) := by decide +kernel
theorem dX8_field_117 : decode cX8_field 117 = .ok (.aload_n 0, 1) := by decide +kernel
theorem dX8_field_118 : decode cX8_field 118 = .ok (.iconst 1, 1) := by decide +kernel
theorem dX8_field_119 : decode cX8_field 119 = .ok (.putfield 125, 3) := by decide +kernel
theorem dX8_field_122 : decode cX8_field 122 = .ok (.goto 159, 3) := by decide +kernel
theorem dX8_field_125 : decode cX8_field 125 = .ok (.aload_n 0, 1) := by decide +kernel
theorem dX8_field_126 : decode cX8_field 126 = .ok (.getfield 125, 3) := by decide +kernel
theorem dX8_field_129 : decode cX8_field 129 = .ok (.iconst 2, 1) := by decide +kernel
theorem dX8_field_130 : decode cX8_field 130 = .ok (.if_icmp .ge 17, 3) := by decide +kernel
theorem dX8_field_133 : decode cX8_field 133 = .ok (.iload_n 1, 1) := by decide +kernel
theorem dX8_field_134 : decode cX8_field 134 = .ok (.bipush 46, 2) := by decide +kernel
theorem dX8_field_136 : decode cX8_field 136 = .ok (.if_icmp .ne 11, 3) := by decide +kernel
theorem dX8_field_139 : decode cX8_field 139 = .ok (.aload_n 0, 1) := by decide +kernel
theorem dX8_field_140 : decode cX8_field 140 = .ok (.iconst 2, 1) := by decide +kernel
theorem dX8_field_141 : decode cX8_field 141 = .ok (.putfield 125, 3) := by decide +kernel
theorem dX8_field_144 : decode cX8_field 144 = .ok (.goto 137, 3) := by decide +kernel
theorem dX8_field_147 : decode cX8_field 147 = .ok (.iload_n 2, 1) := by decide +kernel
theorem dX8_field_148 : decode cX8_field 148 = .ok (.ifCond .eq 62, 3) := by decide +kernel
theorem dX8_field_151 : decode cX8_field 151 = .ok (.aload_n 0, 1) := by decide +kernel
theorem dX8_field_152 : decode cX8_field 152 = .ok (.aload_n 0, 1) := by decide +kernel
theorem dX8_field_153 : decode cX8_field 153 = .ok (.getfield 140, 3) := by decide +kernel
theorem dX8_field_156 : decode cX8_field 156 = .ok (.iconst 4, 1) := by decide +kernel
theorem dX8_field_157 : decode cX8_field 157 = .ok (.if_icmp .ge 18, 3) := by decide +kernel
theorem dX8_field_160 : decode cX8_field 160 = .ok (.bipush 10, 2) := by decide +kernel
theorem dX8_field_162 : decode cX8_field 162 = .ok (.aload_n 0, 1) := by decide +kernel
theorem dX8_field_163 : decode cX8_field 163 = .ok (.getfield 137, 3) := by decide +kernel
theorem dX8_field_166 : decode cX8_field 166 = .ok (.imul, 1) := by decide +kernel
theorem dX8_field_167 : decode cX8_field 167 = .ok (.iload_n 1, 1) := by decide +kernel
theorem dX8_field_168 : decode cX8_field 168 = .ok (.iadd, 1) := by decide +kernel
theorem dX8_field_169 : decode cX8_field 169 = .ok (.bipush 48, 2) := by decide +kernel
theorem dX8_field_171 : decode cX8_field 171 = .ok (.isub, 1) := by decide +kernel
theorem dX8_field_172 : decode cX8_field 172 = .ok (.goto 7, 3) := by decide +kernel
theorem dX8_field_175 : decode cX8_field 175 = .ok (.aload_n 0, 1) := by decide +kernel
theorem dX8_field_176 : decode cX8_field 176 = .ok (.getfield 137, 3) := by decide +kernel
theorem dX8_field_179 : decode cX8_field 179 = .ok (.putfield 137, 3) := by decide +kernel
theorem dX8_field_182 : decode cX8_field 182 = .ok (.aload_n 0, 1) := by decide +kernel
theorem dX8_field_183 : decode cX8_field 183 = .ok (.aload_n 0, 1) := by decide +kernel
theorem dX8_field_184 : decode cX8_field 184 = .ok (.getfield 140, 3) := by decide +kernel
theorem dX8_field_187 : decode cX8_field 187 = .ok (.iconst 4, 1) := by decide +kernel
theorem dX8_field_188 : decode cX8_field 188 = .ok (.if_icmp .ge 12, 3) := by decide +kernel
theorem dX8_field_191 : decode cX8_field 191 = .ok (.aload_n 0, 1) := by decide +kernel
theorem dX8_field_192 : decode cX8_field 192 = .ok (.getfield 140, 3) := by decide +kernel
theorem dX8_field_195 : decode cX8_field 195 = .ok (.iconst 1, 1) := by decide +kernel
theorem dX8_field_196 : decode cX8_field 196 = .ok (.iadd, 1) := by decide +kernel
theorem dX8_field_197 : decode cX8_field 197 = .ok (.goto 7, 3) := by decide +kernel
theorem dX8_field_200 : decode cX8_field 200 = .ok (.aload_n 0, 1) := by decide +kernel
theorem dX8_field_201 : decode cX8_field 201 = .ok (.getfield 140, 3) := by decide +kernel
theorem dX8_field_204 : decode cX8_field 204 = .ok (.putfield 140, 3) := by decide +kernel
theorem dX8_field_207 : decode cX8_field 207 = .ok (.goto 74, 3) := by decide +kernel
theorem dX8_field_210 : decode cX8_field 210 = .ok (.iload_n 1, 1) := by decide +kernel
theorem dX8_field_211 : decode cX8_field 211 = .ok (.bipush 64, 2) := by decide +kernel
theorem dX8_field_213 : decode cX8_field 213 = .ok (.if_icmp .lt 9, 3) := by decide +kernel
theorem dX8_field_216 : decode cX8_field 216 = .ok (.iload_n 1, 1) := by decide +kernel
theorem dX8_field_217 : decode cX8_field 217 = .ok (.bipush 94, 2) := by decide +kernel
theorem dX8_field_219 : decode cX8_field 219 = .ok (.if_icmp .le 15, 3) := by decide +kernel
theorem dX8_field_222 : decode cX8_field 222 = .ok (.iload_n 1, 1) := by decide +kernel
theorem dX8_field_223 : decode cX8_field 223 = .ok (.bipush 96, 2) := by decide +kernel
theorem dX8_field_225 : decode cX8_field 225 = .ok (.if_icmp .lt 41, 3) := by decide +kernel
theorem dX8_field_228 : decode cX8_field 228 = .ok (.iload_n 1, 1) := by decide +kernel
theorem dX8_field_229 : decode cX8_field 229 = .ok (.bipush 126, 2) := by decide +kernel
theorem dX8_field_231 : decode cX8_field 231 = .ok (.if_icmp .gt 35, 3) := by decide +kernel
theorem dX8_field_234 : decode cX8_field 234 = .ok (.aload_n 0, 1) := by decide +kernel
theorem dX8_field_235 : decode cX8_field 235 = .ok (.iload_n 1, 1) := by decide +kernel
theorem dX8_field_236 : decode cX8_field 236 = .ok (.bipush 96, 2) := by decide +kernel
theorem dX8_field_238 : decode cX8_field 238 = .ok (.if_icmp .lt 10, 3) := by decide +kernel
theorem dX8_field_241 : decode cX8_field 241 = .ok (.iload_n 1, 1) := by decide +kernel
theorem dX8_field_242 : decode cX8_field 242 = .ok (.bipush 32, 2) := by decide +kernel
theorem dX8_field_244 : decode cX8_field 244 = .ok (.isub, 1) := by decide +kernel
theorem dX8_field_245 : decode cX8_field 245 = .ok (.goto 4, 3) := by decide +kernel
theorem dX8_field_248 : decode cX8_field 248 = .ok (.iload_n 1, 1) := by decide +kernel
theorem dX8_field_249 : decode cX8_field 249 = .ok (.iload_n 1, 1) := by decide +kernel
theorem dX8_field_250 : decode cX8_field 250 = .ok (.bipush 96, 2) := by decide +kernel
theorem dX8_field_252 : decode cX8_field 252 = .ok (.if_icmp .ge 7, 3) := by decide +kernel
theorem dX8_field_255 : decode cX8_field 255 = .ok (.iconst 1, 1) := by decide +kernel
theorem dX8_field_256 : decode cX8_field 256 = .ok (.goto 4, 3) := by decide +kernel
theorem dX8_field_259 : decode cX8_field 259 = .ok (.iconst 0, 1) := by decide +kernel
theorem dX8_field_260 : decode cX8_field 260 = .ok (.invokevirtual 155, 3) := by decide +kernel
theorem dX8_field_263 : decode cX8_field 263 = .ok (.goto 18, 3) := by decide +kernel
theorem dX8_field_266 : decode cX8_field 266 = .ok (.aload_n 0, 1) := by decide +kernel
theorem dX8_field_267 : decode cX8_field 267 = .ok (.iload_n 1, 1) := by decide +kernel
theorem dX8_field_268 : decode cX8_field 268 = .ok (.bipush 27, 2) := by decide +kernel
theorem dX8_field_270 : decode cX8_field 270 = .ok (.if_icmp .ne 7, 3) := by decide +kernel
theorem dX8_field_273 : decode cX8_field 273 = .ok (.iconst 1, 1) := by decide +kernel
theorem dX8_field_274 : decode cX8_field 274 = .ok (.goto 4, 3) := by decide +kernel
theorem dX8_field_277 : decode cX8_field 277 = .ok (.iconst 0, 1) := by decide +kernel
theorem dX8_field_278 : decode cX8_field 278 = .ok (.putfield 143, 3) := by decide +kernel
theorem dX8_field_281 : decode cX8_field 281 = .ok (.return_, 1) := by decide +kernel
theorem dX8_value_0 : decode cX8_value 0 = .ok (.aload_n 0, 1) := by decide +kernel
theorem dX8_value_1 : decode cX8_value 1 = .ok (.getfield 137, 3) := by decide +kernel
theorem dX8_value_4 : decode cX8_value 4 = .ok (.istore_n 1, 1) := by decide +kernel
theorem dX8_value_5 : decode cX8_value 5 = .ok (.aload_n 0, 1) := by decide +kernel
theorem dX8_value_6 : decode cX8_value 6 = .ok (.getfield 140, 3) := by decide +kernel
theorem dX8_value_9 : decode cX8_value 9 = .ok (.istore_n 2, 1) := by decide +kernel
theorem dX8_value_10 : decode cX8_value 10 = .ok (.iload_n 2, 1) := by decide +kernel
theorem dX8_value_11 : decode cX8_value 11 = .ok (.iconst 4, 1) := by decide +kernel
theorem dX8_value_12 : decode cX8_value 12 = .ok (.if_icmp .ge 14, 3) := by decide +kernel
theorem dX8_value_15 : decode cX8_value 15 = .ok (.iload_n 1, 1) := by decide +kernel
theorem dX8_value_16 : decode cX8_value 16 = .ok (.bipush 10, 2) := by decide +kernel
theorem dX8_value_18 : decode cX8_value 18 = .ok (.imul, 1) := by decide +kernel
theorem dX8_value_19 : decode cX8_value 19 = .ok (.istore_n 1, 1) := by decide +kernel
theorem dX8_value_20 : decode cX8_value 20 = .ok (.iinc 2 1, 3) := by decide +kernel
theorem dX8_value_23 : decode cX8_value 23 = .ok (.goto (-13), 3) := by decide +kernel
theorem dX8_value_26 : decode cX8_value 26 = .ok (.iload_n 1, 1) := by decide +kernel
theorem dX8_value_27 : decode cX8_value 27 = .ok (.sipush 10000, 3) := by decide +kernel
theorem dX8_value_30 : decode cX8_value 30 = .ok (.aload_n 0, 1) := by decide +kernel
theorem dX8_value_31 : decode cX8_value 31 = .ok (.getfield 134, 3) := by decide +kernel
theorem dX8_value_34 : decode cX8_value 34 = .ok (.imul, 1) := by decide +kernel
theorem dX8_value_35 : decode cX8_value 35 = .ok (.iadd, 1) := by decide +kernel
theorem dX8_value_36 : decode cX8_value 36 = .ok (.istore_n 1, 1) := by decide +kernel
theorem dX8_value_37 : decode cX8_value 37 = .ok (.aload_n 0, 1) := by decide +kernel
theorem dX8_value_38 : decode cX8_value 38 = .ok (.getfield 131, 3) := by decide +kernel
theorem dX8_value_41 : decode cX8_value 41 = .ok (.ifCond .eq 8, 3) := by decide +kernel
theorem dX8_value_44 : decode cX8_value 44 = .ok (.iload_n 1, 1) := by decide +kernel
theorem dX8_value_45 : decode cX8_value 45 = .ok (.ineg, 1) := by decide +kernel
theorem dX8_value_46 : decode cX8_value 46 = .ok (.goto 4, 3) := by decide +kernel
theorem dX8_value_49 : decode cX8_value 49 = .ok (.iload_n 1, 1) := by decide +kernel
theorem dX8_value_50 : decode cX8_value 50 = .ok (.ireturn, 1) := by decide +kernel
theorem dX8_command_0 : decode cX8_command 0 = .ok (.aload_n 0, 1) := by decide +kernel
theorem dX8_command_1 : decode cX8_command 1 = .ok (.invokevirtual 159, 3) := by decide +kernel
theorem dX8_command_4 : decode cX8_command 4 = .ok (.istore_n 3, 1) := by decide +kernel
theorem dX8_command_5 : decode cX8_command 5 = .ok (.aload_n 0, 1) := by decide +kernel
theorem dX8_command_6 : decode cX8_command 6 = .ok (.getfield 131, 3) := by decide +kernel
theorem dX8_command_9 : decode cX8_command 9 = .ok (.ifCond .eq 7, 3) := by decide +kernel
theorem dX8_command_12 : decode cX8_command 12 = .ok (.iconst 0, 1) := by decide +kernel
theorem dX8_command_13 : decode cX8_command 13 = .ok (.goto 7, 3) := by decide +kernel
theorem dX8_command_16 : decode cX8_command 16 = .ok (.aload_n 0, 1) := by decide +kernel
theorem dX8_command_17 : decode cX8_command 17 = .ok (.getfield 134, 3) := by decide +kernel
theorem dX8_command_20 : decode cX8_command 20 = .ok (.istore 4, 2) := by decide +kernel
theorem dX8_command_22 : decode cX8_command 22 = .ok (.aload_n 0, 1) := by decide +kernel
theorem dX8_command_23 : decode cX8_command 23 = .ok (.getfield 149, 3) := by decide +kernel
theorem dX8_command_26 : decode cX8_command 26 = .ok (.bipush 38, 2) := by decide +kernel
theorem dX8_command_28 : decode cX8_command 28 = .ok (.if_icmp .ne 22, 3) := by decide +kernel
theorem dX8_command_31 : decode cX8_command 31 = .ok (.aload_n 0, 1) := by decide +kernel
theorem dX8_command_32 : decode cX8_command 32 = .ok (.getfield 152, 3) := by decide +kernel
theorem dX8_command_35 : decode cX8_command 35 = .ok (.bipush 112, 2) := by decide +kernel
theorem dX8_command_37 : decode cX8_command 37 = .ok (.if_icmp .ne 13, 3) := by decide +kernel
theorem dX8_command_40 : decode cX8_command 40 = .ok (.iload_n 1, 1) := by decide +kernel
theorem dX8_command_41 : decode cX8_command 41 = .ok (.bipush 88, 2) := by decide +kernel
theorem dX8_command_43 : decode cX8_command 43 = .ok (.if_icmp .ne 7, 3) := by decide +kernel
theorem dX8_command_46 : decode cX8_command 46 = .ok (.iconst 1, 1) := by decide +kernel
theorem dX8_command_47 : decode cX8_command 47 = .ok (.goto 4, 3) := by decide +kernel
theorem dX8_command_50 : decode cX8_command 50 = .ok (.iconst 0, 1) := by decide +kernel
theorem dX8_command_51 : decode cX8_command 51 = .ok (.istore 5, 2) := by decide +kernel
theorem dX8_command_53 : decode cX8_command 53 = .ok (.aload_n 0, 1) := by decide +kernel
theorem dX8_command_54 : decode cX8_command 54 = .ok (.iload_n 2, 1) := by decide +kernel
theorem dX8_command_55 : decode cX8_command 55 = .ok (.putfield 162, 3) := by decide +kernel
theorem dX8_command_58 : decode cX8_command 58 = .ok (.aload_n 0, 1) := by decide +kernel
theorem dX8_command_59 : decode cX8_command 59 = .ok (.iload_n 1, 1) := by decide +kernel
theorem dX8_command_60 : decode cX8_command 60 = .ok (.bipush 87, 2) := by decide +kernel
theorem dX8_command_62 : decode cX8_command 62 = .ok (.if_icmp .eq 8, 3) := by decide +kernel
theorem dX8_command_65 : decode cX8_command 65 = .ok (.iload 5, 2) := by decide +kernel
theorem dX8_command_67 : decode cX8_command 67 = .ok (.ifCond .eq 8, 3) := by decide +kernel
theorem dX8_command_70 : decode cX8_command 70 = .ok (.iload 4, 2) := by decide +kernel
theorem dX8_command_72 : decode cX8_command 72 = .ok (.goto 4, 3) := by decide +kernel
theorem dX8_command_75 : decode cX8_command 75 = .ok (.iconst 0, 1) := by decide +kernel
theorem dX8_command_76 : decode cX8_command 76 = .ok (.putfield 165, 3) := by decide +kernel
theorem dX8_command_79 : decode cX8_command 79 = .ok (.aload_n 0, 1) := by decide +kernel
theorem dX8_command_80 : decode cX8_command 80 = .ok (.iload 5, 2) := by decide +kernel
theorem dX8_command_82 : decode cX8_command 82 = .ok (.ifCond .eq 7, 3) := by decide +kernel
theorem dX8_command_85 : decode cX8_command 85 = .ok (.iconst 1, 1) := by decide +kernel
theorem dX8_command_86 : decode cX8_command 86 = .ok (.goto 4, 3) := by decide +kernel
theorem dX8_command_89 : decode cX8_command 89 = .ok (.iconst 0, 1) := by decide +kernel
theorem dX8_command_90 : decode cX8_command 90 = .ok (.putfield 168, 3) := by decide +kernel
theorem dX8_command_93 : decode cX8_command 93 = .ok (.iload 5, 2) := by decide +kernel
theorem dX8_command_95 : decode cX8_command 95 = .ok (.ifCond .ne 20, 3) := by decide +kernel
theorem dX8_command_98 : decode cX8_command 98 = .ok (.aload_n 0, 1) := by decide +kernel
theorem dX8_command_99 : decode cX8_command 99 = .ok (.iload_n 1, 1) := by decide +kernel
theorem dX8_command_100 : decode cX8_command 100 = .ok (.iload_n 3, 1) := by decide +kernel
theorem dX8_command_101 : decode cX8_command 101 = .ok (.iload 4, 2) := by decide +kernel
theorem dX8_command_103 : decode cX8_command 103 = .ok (.invokevirtual 171, 3) := by decide +kernel
theorem dX8_command_106 : decode cX8_command 106 = .ok (.ifCond .ne 9, 3) := by decide +kernel
theorem dX8_command_109 : decode cX8_command 109 = .ok (.aload_n 0, 1) := by decide +kernel
theorem dX8_command_110 : decode cX8_command 110 = .ok (.iload_n 1, 1) := by decide +kernel
theorem dX8_command_111 : decode cX8_command 111 = .ok (.iload_n 3, 1) := by decide +kernel
theorem dX8_command_112 : decode cX8_command 112 = .ok (.invokevirtual 175, 3) := by decide +kernel
theorem dX8_command_115 : decode cX8_command 115 = .ok (.aload_n 0, 1) := by decide +kernel
theorem dX8_command_116 : decode cX8_command 116 = .ok (.invokevirtual 179, 3) := by decide +kernel
theorem dX8_command_119 : decode cX8_command 119 = .ok (.aload_n 0, 1) := by decide +kernel
theorem dX8_command_120 : decode cX8_command 120 = .ok (.aload_n 0, 1) := by decide +kernel
theorem dX8_command_121 : decode cX8_command 121 = .ok (.getfield 165, 3) := by decide +kernel
theorem dX8_command_124 : decode cX8_command 124 = .ok (.ifCond .le 7, 3) := by decide +kernel
theorem dX8_command_127 : decode cX8_command 127 = .ok (.iconst 4, 1) := by decide +kernel
theorem dX8_command_128 : decode cX8_command 128 = .ok (.goto 12, 3) := by decide +kernel
theorem dX8_command_131 : decode cX8_command 131 = .ok (.iload_n 2, 1) := by decide +kernel
theorem dX8_command_132 : decode cX8_command 132 = .ok (.ifCond .eq 7, 3) := by decide +kernel
theorem dX8_command_135 : decode cX8_command 135 = .ok (.iconst 0, 1) := by decide +kernel
theorem dX8_command_136 : decode cX8_command 136 = .ok (.goto 4, 3) := by decide +kernel
theorem dX8_command_139 : decode cX8_command 139 = .ok (.iconst 3, 1) := by decide +kernel
theorem dX8_command_140 : decode cX8_command 140 = .ok (.putfield 143, 3) := by decide +kernel
theorem dX8_command_143 : decode cX8_command 143 = .ok (.return_, 1) := by decide +kernel
theorem dX8_handOn_0 : decode cX8_handOn 0 = .ok (.aload_n 0, 1) := by decide +kernel
theorem dX8_handOn_1 : decode cX8_handOn 1 = .ok (.getfield 182, 3) := by decide +kernel
theorem dX8_handOn_4 : decode cX8_handOn 4 = .ok (.bipush 16, 2) := by decide +kernel
theorem dX8_handOn_6 : decode cX8_handOn 6 = .ok (.if_icmp .ne 4, 3) := by decide +kernel
theorem dX8_handOn_9 : decode cX8_handOn 9 = .ok (.return_, 1) := by decide +kernel
theorem dX8_handOn_10 : decode cX8_handOn 10 = .ok (.bipush 7, 2) := by decide +kernel
theorem dX8_handOn_12 : decode cX8_handOn 12 = .ok (.aload_n 0, 1) := by decide +kernel
theorem dX8_handOn_13 : decode cX8_handOn 13 = .ok (.getfield 182, 3) := by decide +kernel
theorem dX8_handOn_16 : decode cX8_handOn 16 = .ok (.imul, 1) := by decide +kernel
theorem dX8_handOn_17 : decode cX8_handOn 17 = .ok (.istore_n 3, 1) := by decide +kernel
theorem dX8_handOn_18 : decode cX8_handOn 18 = .ok (.aload_n 0, 1) := by decide +kernel
theorem dX8_handOn_19 : decode cX8_handOn 19 = .ok (.getfield 29, 3) := by decide +kernel
theorem dX8_handOn_22 : decode cX8_handOn 22 = .ok (.iload_n 3, 1) := by decide +kernel
theorem dX8_handOn_23 : decode cX8_handOn 23 = .ok (.aload_n 0, 1) := by decide +kernel
theorem dX8_handOn_24 : decode cX8_handOn 24 = .ok (.getfield 149, 3) := by decide +kernel
theorem dX8_handOn_27 : decode cX8_handOn 27 = .ok (.iastore, 1) := by decide +kernel
theorem dX8_handOn_28 : decode cX8_handOn 28 = .ok (.aload_n 0, 1) := by decide +kernel
theorem dX8_handOn_29 : decode cX8_handOn 29 = .ok (.getfield 29, 3) := by decide +kernel
theorem dX8_handOn_32 : decode cX8_handOn 32 = .ok (.iload_n 3, 1) := by decide +kernel
theorem dX8_handOn_33 : decode cX8_handOn 33 = .ok (.iconst 1, 1) := by decide +kernel
theorem dX8_handOn_34 : decode cX8_handOn 34 = .ok (.iadd, 1) := by decide +kernel
theorem dX8_handOn_35 : decode cX8_handOn 35 = .ok (.aload_n 0, 1) := by decide +kernel
theorem dX8_handOn_36 : decode cX8_handOn 36 = .ok (.getfield 152, 3) := by decide +kernel
theorem dX8_handOn_39 : decode cX8_handOn 39 = .ok (.iastore, 1) := by decide +kernel
theorem dX8_handOn_40 : decode cX8_handOn 40 = .ok (.aload_n 0, 1) := by decide +kernel
theorem dX8_handOn_41 : decode cX8_handOn 41 = .ok (.getfield 29, 3) := by decide +kernel
theorem dX8_handOn_44 : decode cX8_handOn 44 = .ok (.iload_n 3, 1) := by decide +kernel
theorem dX8_handOn_45 : decode cX8_handOn 45 = .ok (.iconst 2, 1) := by decide +kernel
theorem dX8_handOn_46 : decode cX8_handOn 46 = .ok (.iadd, 1) := by decide +kernel
theorem dX8_handOn_47 : decode cX8_handOn 47 = .ok (.iload_n 2, 1) := by decide +kernel
theorem dX8_handOn_48 : decode cX8_handOn 48 = .ok (.iastore, 1) := by decide +kernel
theorem dX8_handOn_49 : decode cX8_handOn 49 = .ok (.aload_n 0, 1) := by decide +kernel
theorem dX8_handOn_50 : decode cX8_handOn 50 = .ok (.getfield 29, 3) := by decide +kernel
theorem dX8_handOn_53 : decode cX8_handOn 53 = .ok (.iload_n 3, 1) := by decide +kernel
theorem dX8_handOn_54 : decode cX8_handOn 54 = .ok (.iconst 3, 1) := by decide +kernel
theorem dX8_handOn_55 : decode cX8_handOn 55 = .ok (.iadd, 1) := by decide +kernel
theorem dX8_handOn_56 : decode cX8_handOn 56 = .ok (.iload_n 1, 1) := by decide +kernel
theorem dX8_handOn_57 : decode cX8_handOn 57 = .ok (.iastore, 1) := by decide +kernel
theorem dX8_handOn_58 : decode cX8_handOn 58 = .ok (.aload_n 0, 1) := by decide +kernel
theorem dX8_handOn_59 : decode cX8_handOn 59 = .ok (.getfield 29, 3) := by decide +kernel
theorem dX8_handOn_62 : decode cX8_handOn 62 = .ok (.iload_n 3, 1) := by decide +kernel
theorem dX8_handOn_63 : decode cX8_handOn 63 = .ok (.iconst 4, 1) := by decide +kernel
theorem dX8_handOn_64 : decode cX8_handOn 64 = .ok (.iadd, 1) := by decide +kernel
theorem dX8_handOn_65 : decode cX8_handOn 65 = .ok (.aload_n 0, 1) := by decide +kernel
theorem dX8_handOn_66 : decode cX8_handOn 66 = .ok (.getfield 128, 3) := by decide +kernel
theorem dX8_handOn_69 : decode cX8_handOn 69 = .ok (.ifCond .eq 7, 3) := by decide +kernel
theorem dX8_handOn_72 : decode cX8_handOn 72 = .ok (.iconst 1, 1) := by decide +kernel
theorem dX8_handOn_73 : decode cX8_handOn 73 = .ok (.goto 4, 3) := by decide +kernel
theorem dX8_handOn_76 : decode cX8_handOn 76 = .ok (.iconst 0, 1) := by decide +kernel
theorem dX8_handOn_77 : decode cX8_handOn 77 = .ok (.iastore, 1) := by decide +kernel
theorem dX8_handOn_78 : decode cX8_handOn 78 = .ok (.aload_n 0, 1) := by decide +kernel
theorem dX8_handOn_79 : decode cX8_handOn 79 = .ok (.getfield 29, 3) := by decide +kernel
theorem dX8_handOn_82 : decode cX8_handOn 82 = .ok (.iload_n 3, 1) := by decide +kernel
theorem dX8_handOn_83 : decode cX8_handOn 83 = .ok (.iconst 5, 1) := by decide +kernel
theorem dX8_handOn_84 : decode cX8_handOn 84 = .ok (.iadd, 1) := by decide +kernel
theorem dX8_handOn_85 : decode cX8_handOn 85 = .ok (.iconst 0, 1) := by decide +kernel
theorem dX8_handOn_86 : decode cX8_handOn 86 = .ok (.iastore, 1) := by decide +kernel
theorem dX8_handOn_87 : decode cX8_handOn 87 = .ok (.aload_n 0, 1) := by decide +kernel
theorem dX8_handOn_88 : decode cX8_handOn 88 = .ok (.getfield 29, 3) := by decide +kernel
theorem dX8_handOn_91 : decode cX8_handOn 91 = .ok (.iload_n 3, 1) := by decide +kernel
theorem dX8_handOn_92 : decode cX8_handOn 92 = .ok (.bipush 6, 2) := by decide +kernel
theorem dX8_handOn_94 : decode cX8_handOn 94 = .ok (.iadd, 1) := by decide +kernel
theorem dX8_handOn_95 : decode cX8_handOn 95 = .ok (.aload_n 0, 1) := by decide +kernel
theorem dX8_handOn_96 : decode cX8_handOn 96 = .ok (.getfield 165, 3) := by decide +kernel
theorem dX8_handOn_99 : decode cX8_handOn 99 = .ok (.iastore, 1) := by decide +kernel
theorem dX8_handOn_100 : decode cX8_handOn 100 = .ok (.aload_n 0, 1) := by decide +kernel
theorem dX8_handOn_101 : decode cX8_handOn 101 = .ok (.dup, 1) := by decide +kernel
theorem dX8_handOn_102 : decode cX8_handOn 102 = .ok (.getfield 182, 3) := by decide +kernel
theorem dX8_handOn_105 : decode cX8_handOn 105 = .ok (.iconst 1, 1) := by decide +kernel
theorem dX8_handOn_106 : decode cX8_handOn 106 = .ok (.iadd, 1) := by decide +kernel
theorem dX8_handOn_107 : decode cX8_handOn 107 = .ok (.putfield 182, 3) := by decide +kernel
theorem dX8_handOn_110 : decode cX8_handOn 110 = .ok (.aload_n 0, 1) := by decide +kernel
theorem dX8_handOn_111 : decode cX8_handOn 111 = .ok (.iconst 2, 1) := by decide +kernel
theorem dX8_handOn_112 : decode cX8_handOn 112 = .ok (.putfield 168, 3) := by decide +kernel
theorem dX8_handOn_115 : decode cX8_handOn 115 = .ok (.return_, 1) := by decide +kernel
theorem dX8_datum_0 : decode cX8_datum 0 = .ok (.aload_n 0, 1) := by decide +kernel
theorem dX8_datum_1 : decode cX8_datum 1 = .ok (.dup, 1) := by decide +kernel
theorem dX8_datum_2 : decode cX8_datum 2 = .ok (.getfield 165, 3) := by decide +kernel
theorem dX8_datum_5 : decode cX8_datum 5 = .ok (.iconst 1, 1) := by decide +kernel
theorem dX8_datum_6 : decode cX8_datum 6 = .ok (.isub, 1) := by decide +kernel
theorem dX8_datum_7 : decode cX8_datum 7 = .ok (.putfield 165, 3) := by decide +kernel
theorem dX8_datum_10 : decode cX8_datum 10 = .ok (.aload_n 0, 1) := by decide +kernel
theorem dX8_datum_11 : decode cX8_datum 11 = .ok (.getfield 168, 3) := by decide +kernel
theorem dX8_datum_14 : decode cX8_datum 14 = .ok (.iconst 1, 1) := by decide +kernel
theorem dX8_datum_15 : decode cX8_datum 15 = .ok (.if_icmp .ne 11, 3) := by decide +kernel
theorem dX8_datum_18 : decode cX8_datum 18 = .ok (.aload_n 0, 1) := by decide +kernel
theorem dX8_datum_19 : decode cX8_datum 19 = .ok (.iload_n 1, 1) := by decide +kernel
theorem dX8_datum_20 : decode cX8_datum 20 = .ok (.invokevirtual 185, 3) := by decide +kernel
theorem dX8_datum_23 : decode cX8_datum 23 = .ok (.goto 78, 3) := by decide +kernel
theorem dX8_datum_26 : decode cX8_datum 26 = .ok (.aload_n 0, 1) := by decide +kernel
theorem dX8_datum_27 : decode cX8_datum 27 = .ok (.getfield 168, 3) := by decide +kernel
theorem dX8_datum_30 : decode cX8_datum 30 = .ok (.iconst 2, 1) := by decide +kernel
theorem dX8_datum_31 : decode cX8_datum 31 = .ok (.if_icmp .ne 70, 3) := by decide +kernel
theorem dX8_datum_34 : decode cX8_datum 34 = .ok (.bipush 7, 2) := by decide +kernel
theorem dX8_datum_36 : decode cX8_datum 36 = .ok (.aload_n 0, 1) := by decide +kernel
theorem dX8_datum_37 : decode cX8_datum 37 = .ok (.getfield 182, 3) := by decide +kernel
theorem dX8_datum_40 : decode cX8_datum 40 = .ok (.imul, 1) := by decide +kernel
theorem dX8_datum_41 : decode cX8_datum 41 = .ok (.bipush 7, 2) := by decide +kernel
theorem dX8_datum_43 : decode cX8_datum 43 = .ok (.isub, 1) := by decide +kernel
theorem dX8_datum_44 : decode cX8_datum 44 = .ok (.istore_n 2, 1) := by decide +kernel
theorem dX8_datum_45 : decode cX8_datum 45 = .ok (.aload_n 0, 1) := by decide +kernel
theorem dX8_datum_46 : decode cX8_datum 46 = .ok (.getfield 29, 3) := by decide +kernel
theorem dX8_datum_49 : decode cX8_datum 49 = .ok (.iload_n 2, 1) := by decide +kernel
theorem dX8_datum_50 : decode cX8_datum 50 = .ok (.bipush 6, 2) := by decide +kernel
theorem dX8_datum_52 : decode cX8_datum 52 = .ok (.iadd, 1) := by decide +kernel
theorem dX8_datum_53 : decode cX8_datum 53 = .ok (.dup2, 1) := by decide +kernel
theorem dX8_datum_54 : decode cX8_datum 54 = .ok (.iaload, 1) := by decide +kernel
theorem dX8_datum_55 : decode cX8_datum 55 = .ok (.iconst 1, 1) := by decide +kernel
theorem dX8_datum_56 : decode cX8_datum 56 = .ok (.isub, 1) := by decide +kernel
theorem dX8_datum_57 : decode cX8_datum 57 = .ok (.iastore, 1) := by decide +kernel
theorem dX8_datum_58 : decode cX8_datum 58 = .ok (.aload_n 0, 1) := by decide +kernel
theorem dX8_datum_59 : decode cX8_datum 59 = .ok (.getfield 188, 3) := by decide +kernel
theorem dX8_datum_62 : decode cX8_datum 62 = .ok (.sipush 4096, 3) := by decide +kernel
theorem dX8_datum_65 : decode cX8_datum 65 = .ok (.if_icmp .ge 36, 3) := by decide +kernel
theorem dX8_datum_68 : decode cX8_datum 68 = .ok (.aload_n 0, 1) := by decide +kernel
theorem dX8_datum_69 : decode cX8_datum 69 = .ok (.getfield 32, 3) := by decide +kernel
theorem dX8_datum_72 : decode cX8_datum 72 = .ok (.aload_n 0, 1) := by decide +kernel
theorem dX8_datum_73 : decode cX8_datum 73 = .ok (.getfield 188, 3) := by decide +kernel
theorem dX8_datum_76 : decode cX8_datum 76 = .ok (.iload_n 1, 1) := by decide +kernel
theorem dX8_datum_77 : decode cX8_datum 77 = .ok (.i2b, 1) := by decide +kernel
theorem dX8_datum_78 : decode cX8_datum 78 = .ok (.bastore, 1) := by decide +kernel
theorem dX8_datum_79 : decode cX8_datum 79 = .ok (.aload_n 0, 1) := by decide +kernel
theorem dX8_datum_80 : decode cX8_datum 80 = .ok (.dup, 1) := by decide +kernel
theorem dX8_datum_81 : decode cX8_datum 81 = .ok (.getfield 188, 3) := by decide +kernel
theorem dX8_datum_84 : decode cX8_datum 84 = .ok (.iconst 1, 1) := by decide +kernel
theorem dX8_datum_85 : decode cX8_datum 85 = .ok (.iadd, 1) := by decide +kernel
theorem dX8_datum_86 : decode cX8_datum 86 = .ok (.putfield 188, 3) := by decide +kernel
theorem dX8_datum_89 : decode cX8_datum 89 = .ok (.aload_n 0, 1) := by decide +kernel
theorem dX8_datum_90 : decode cX8_datum 90 = .ok (.getfield 29, 3) := by decide +kernel
theorem dX8_datum_93 : decode cX8_datum 93 = .ok (.iload_n 2, 1) := by decide +kernel
theorem dX8_datum_94 : decode cX8_datum 94 = .ok (.iconst 5, 1) := by decide +kernel
theorem dX8_datum_95 : decode cX8_datum 95 = .ok (.iadd, 1) := by decide +kernel
theorem dX8_datum_96 : decode cX8_datum 96 = .ok (.dup2, 1) := by decide +kernel
theorem dX8_datum_97 : decode cX8_datum 97 = .ok (.iaload, 1) := by decide +kernel
theorem dX8_datum_98 : decode cX8_datum 98 = .ok (.iconst 1, 1) := by decide +kernel
theorem dX8_datum_99 : decode cX8_datum 99 = .ok (.iadd, 1) := by decide +kernel
theorem dX8_datum_100 : decode cX8_datum 100 = .ok (.iastore, 1) := by decide +kernel
theorem dX8_datum_101 : decode cX8_datum 101 = .ok (.aload_n 0, 1) := by decide +kernel
theorem dX8_datum_102 : decode cX8_datum 102 = .ok (.aload_n 0, 1) := by decide +kernel
theorem dX8_datum_103 : decode cX8_datum 103 = .ok (.getfield 165, 3) := by decide +kernel
theorem dX8_datum_106 : decode cX8_datum 106 = .ok (.ifCond .le 7, 3) := by decide +kernel
theorem dX8_datum_109 : decode cX8_datum 109 = .ok (.iconst 4, 1) := by decide +kernel
theorem dX8_datum_110 : decode cX8_datum 110 = .ok (.goto 15, 3) := by decide +kernel
theorem dX8_datum_113 : decode cX8_datum 113 = .ok (.aload_n 0, 1) := by decide +kernel
theorem dX8_datum_114 : decode cX8_datum 114 = .ok (.getfield 162, 3) := by decide +kernel
theorem dX8_datum_117 : decode cX8_datum 117 = .ok (.ifCond .eq 7, 3) := by decide +kernel
theorem dX8_datum_120 : decode cX8_datum 120 = .ok (.iconst 0, 1) := by decide +kernel
theorem dX8_datum_121 : decode cX8_datum 121 = .ok (.goto 4, 3) := by decide +kernel
theorem dX8_datum_124 : decode cX8_datum 124 = .ok (.iconst 3, 1) := by decide +kernel
theorem dX8_datum_125 : decode cX8_datum 125 = .ok (.putfield 143, 3) := by decide +kernel
theorem dX8_datum_128 : decode cX8_datum 128 = .ok (.return_, 1) := by decide +kernel
theorem dX8_comes_0 : decode cX8_comes 0 = .ok (.aload_n 0, 1) := by decide +kernel
theorem dX8_comes_1 : decode cX8_comes 1 = .ok (.dup, 1) := by decide +kernel
theorem dX8_comes_2 : decode cX8_comes 2 = .ok (.getfield 191, 3) := by decide +kernel
theorem dX8_comes_5 : decode cX8_comes 5 = .ok (.iconst 1, 1) := by decide +kernel
theorem dX8_comes_6 : decode cX8_comes 6 = .ok (.iadd, 1) := by decide +kernel
theorem dX8_comes_7 : decode cX8_comes 7 = .ok (.putfield 191, 3) := by decide +kernel
theorem dX8_comes_10 : decode cX8_comes 10 = .ok (.aload_n 0, 1) := by decide +kernel
theorem dX8_comes_11 : decode cX8_comes 11 = .ok (.getfield 143, 3) := by decide +kernel
theorem dX8_comes_14 : decode cX8_comes 14 = .ok (.iconst 4, 1) := by decide +kernel
theorem dX8_comes_15 : decode cX8_comes 15 = .ok (.if_icmp .ne 11, 3) := by decide +kernel
theorem dX8_comes_18 : decode cX8_comes 18 = .ok (.aload_n 0, 1) := by decide +kernel
theorem dX8_comes_19 : decode cX8_comes 19 = .ok (.iload_n 1, 1) := by decide +kernel
theorem dX8_comes_20 : decode cX8_comes 20 = .ok (.invokevirtual 194, 3) := by decide +kernel
theorem dX8_comes_23 : decode cX8_comes 23 = .ok (.goto 122, 3) := by decide +kernel
theorem dX8_comes_26 : decode cX8_comes 26 = .ok (.aload_n 0, 1) := by decide +kernel
theorem dX8_comes_27 : decode cX8_comes 27 = .ok (.getfield 143, 3) := by decide +kernel
theorem dX8_comes_30 : decode cX8_comes 30 = .ok (.iconst 1, 1) := by decide +kernel
theorem dX8_comes_31 : decode cX8_comes 31 = .ok (.if_icmp .ne 11, 3) := by decide +kernel
theorem dX8_comes_34 : decode cX8_comes 34 = .ok (.aload_n 0, 1) := by decide +kernel
theorem dX8_comes_35 : decode cX8_comes 35 = .ok (.iload_n 1, 1) := by decide +kernel
theorem dX8_comes_36 : decode cX8_comes 36 = .ok (.invokevirtual 197, 3) := by decide +kernel
theorem dX8_comes_39 : decode cX8_comes 39 = .ok (.goto 106, 3) := by decide +kernel
theorem dX8_comes_42 : decode cX8_comes 42 = .ok (.aload_n 0, 1) := by decide +kernel
theorem dX8_comes_43 : decode cX8_comes 43 = .ok (.getfield 143, 3) := by decide +kernel
theorem dX8_comes_46 : decode cX8_comes 46 = .ok (.iconst 2, 1) := by decide +kernel
theorem dX8_comes_47 : decode cX8_comes 47 = .ok (.if_icmp .ne 32, 3) := by decide +kernel
theorem dX8_comes_50 : decode cX8_comes 50 = .ok (.iload_n 1, 1) := by decide +kernel
theorem dX8_comes_51 : decode cX8_comes 51 = .ok (.bipush 96, 2) := by decide +kernel
theorem dX8_comes_53 : decode cX8_comes 53 = .ok (.if_icmp .lt 26, 3) := by decide +kernel
theorem dX8_comes_56 : decode cX8_comes 56 = .ok (.iload_n 1, 1) := by decide +kernel
theorem dX8_comes_57 : decode cX8_comes 57 = .ok (.bipush 126, 2) := by decide +kernel
theorem dX8_comes_59 : decode cX8_comes 59 = .ok (.if_icmp .gt 20, 3) := by decide +kernel
theorem dX8_comes_62 : decode cX8_comes 62 = .ok (.aload_n 0, 1) := by decide +kernel
theorem dX8_comes_63 : decode cX8_comes 63 = .ok (.iload_n 1, 1) := by decide +kernel
theorem dX8_comes_64 : decode cX8_comes 64 = .ok (.putfield 152, 3) := by decide +kernel
theorem dX8_comes_67 : decode cX8_comes 67 = .ok (.aload_n 0, 1) := by decide +kernel
theorem dX8_comes_68 : decode cX8_comes 68 = .ok (.iconst 3, 1) := by decide +kernel
theorem dX8_comes_69 : decode cX8_comes 69 = .ok (.putfield 143, 3) := by decide +kernel
theorem dX8_comes_72 : decode cX8_comes 72 = .ok (.aload_n 0, 1) := by decide +kernel
theorem dX8_comes_73 : decode cX8_comes 73 = .ok (.invokevirtual 179, 3) := by decide +kernel
theorem dX8_comes_76 : decode cX8_comes 76 = .ok (.goto 69, 3) := by decide +kernel
theorem dX8_comes_79 : decode cX8_comes 79 = .ok (.aload_n 0, 1) := by decide +kernel
theorem dX8_comes_80 : decode cX8_comes 80 = .ok (.getfield 143, 3) := by decide +kernel
theorem dX8_comes_83 : decode cX8_comes 83 = .ok (.iconst 1, 1) := by decide +kernel
theorem dX8_comes_84 : decode cX8_comes 84 = .ok (.if_icmp .le 28, 3) := by decide +kernel
theorem dX8_comes_87 : decode cX8_comes 87 = .ok (.aload_n 0, 1) := by decide +kernel
theorem dX8_comes_88 : decode cX8_comes 88 = .ok (.getfield 143, 3) := by decide +kernel
theorem dX8_comes_91 : decode cX8_comes 91 = .ok (.iconst 2, 1) := by decide +kernel
theorem dX8_comes_92 : decode cX8_comes 92 = .ok (.if_icmp .ne 12, 3) := by decide +kernel
theorem dX8_comes_95 : decode cX8_comes 95 = .ok (.aload_n 0, 1) := by decide +kernel
theorem dX8_comes_96 : decode cX8_comes 96 = .ok (.iconst 3, 1) := by decide +kernel
theorem dX8_comes_97 : decode cX8_comes 97 = .ok (.putfield 143, 3) := by decide +kernel
theorem dX8_comes_100 : decode cX8_comes 100 = .ok (.aload_n 0, 1) := by decide +kernel
theorem dX8_comes_101 : decode cX8_comes 101 = .ok (.invokevirtual 179, 3) := by decide +kernel
theorem dX8_comes_104 : decode cX8_comes 104 = .ok (.aload_n 0, 1) := by decide +kernel
theorem dX8_comes_105 : decode cX8_comes 105 = .ok (.iload_n 1, 1) := by decide +kernel
theorem dX8_comes_106 : decode cX8_comes 106 = .ok (.invokevirtual 200, 3) := by decide +kernel
theorem dX8_comes_109 : decode cX8_comes 109 = .ok (.goto 36, 3) := by decide +kernel
theorem dX8_comes_112 : decode cX8_comes 112 = .ok (.iload_n 1, 1) := by decide +kernel
theorem dX8_comes_113 : decode cX8_comes 113 = .ok (.bipush 27, 2) := by decide +kernel
theorem dX8_comes_115 : decode cX8_comes 115 = .ok (.if_icmp .ne 11, 3) := by decide +kernel
theorem dX8_comes_118 : decode cX8_comes 118 = .ok (.aload_n 0, 1) := by decide +kernel
theorem dX8_comes_119 : decode cX8_comes 119 = .ok (.iconst 1, 1) := by decide +kernel
theorem dX8_comes_120 : decode cX8_comes 120 = .ok (.putfield 143, 3) := by decide +kernel
theorem dX8_comes_123 : decode cX8_comes 123 = .ok (.goto 22, 3) := by decide +kernel
theorem dX8_comes_126 : decode cX8_comes 126 = .ok (.iload_n 1, 1) := by decide +kernel
theorem dX8_comes_127 : decode cX8_comes 127 = .ok (.bipush 32, 2) := by decide +kernel
theorem dX8_comes_129 : decode cX8_comes 129 = .ok (.if_icmp .lt 11, 3) := by decide +kernel
theorem dX8_comes_132 : decode cX8_comes 132 = .ok (.aload_n 0, 1) := by decide +kernel
theorem dX8_comes_133 : decode cX8_comes 133 = .ok (.iload_n 1, 1) := by decide +kernel
theorem dX8_comes_134 : decode cX8_comes 134 = .ok (.invokevirtual 185, 3) := by decide +kernel
theorem dX8_comes_137 : decode cX8_comes 137 = .ok (.goto 8, 3) := by decide +kernel
theorem dX8_comes_140 : decode cX8_comes 140 = .ok (.aload_n 0, 1) := by decide +kernel
theorem dX8_comes_141 : decode cX8_comes 141 = .ok (.iload_n 1, 1) := by decide +kernel
theorem dX8_comes_142 : decode cX8_comes 142 = .ok (.invokevirtual 203, 3) := by decide +kernel
theorem dX8_comes_145 : decode cX8_comes 145 = .ok (.return_, 1) := by decide +kernel
theorem dX8_feed_0 : decode cX8_feed 0 = .ok (.aload_n 0, 1) := by decide +kernel
theorem dX8_feed_1 : decode cX8_feed 1 = .ok (.iconst 0, 1) := by decide +kernel
theorem dX8_feed_2 : decode cX8_feed 2 = .ok (.putfield 39, 3) := by decide +kernel
theorem dX8_feed_5 : decode cX8_feed 5 = .ok (.iload_n 3, 1) := by decide +kernel
theorem dX8_feed_6 : decode cX8_feed 6 = .ok (.iconst 1, 1) := by decide +kernel
theorem dX8_feed_7 : decode cX8_feed 7 = .ok (.if_icmp .lt 9, 3) := by decide +kernel
theorem dX8_feed_10 : decode cX8_feed 10 = .ok (.iload_n 3, 1) := by decide +kernel
theorem dX8_feed_11 : decode cX8_feed 11 = .ok (.bipush 8, 2) := by decide +kernel
theorem dX8_feed_13 : decode cX8_feed 13 = .ok (.if_icmp .le 5, 3) := by decide +kernel
theorem dX8_feed_16 : decode cX8_feed 16 = .ok (.iconst 0, 1) := by decide +kernel
theorem dX8_feed_17 : decode cX8_feed 17 = .ok (.ireturn, 1) := by decide +kernel
theorem dX8_feed_18 : decode cX8_feed 18 = .ok (.iload_n 3, 1) := by decide +kernel
theorem dX8_feed_19 : decode cX8_feed 19 = .ok (.iconst 1, 1) := by decide +kernel
theorem dX8_feed_20 : decode cX8_feed 20 = .ok (.isub, 1) := by decide +kernel
theorem dX8_feed_21 : decode cX8_feed 21 = .ok (.istore 4, 2) := by decide +kernel
theorem dX8_feed_23 : decode cX8_feed 23 = .ok (.iload 4, 2) := by decide +kernel
theorem dX8_feed_25 : decode cX8_feed 25 = .ok (.ifCond .lt 25, 3) := by decide +kernel
theorem dX8_feed_28 : decode cX8_feed 28 = .ok (.aload_n 0, 1) := by decide +kernel
theorem dX8_feed_29 : decode cX8_feed 29 = .ok (.lload_n 1, 1) := by decide +kernel
theorem dX8_feed_30 : decode cX8_feed 30 = .ok (.bipush 8, 2) := by decide +kernel
theorem dX8_feed_32 : decode cX8_feed 32 = .ok (.iload 4, 2) := by decide +kernel
theorem dX8_feed_34 : decode cX8_feed 34 = .ok (.imul, 1) := by decide +kernel
theorem dX8_feed_35 : decode cX8_feed 35 = .ok (.lshr, 1) := by decide +kernel
theorem dX8_feed_36 : decode cX8_feed 36 = .ok (.ldc2_w 206, 3) := by decide +kernel
theorem dX8_feed_39 : decode cX8_feed 39 = .ok (.land, 1) := by decide +kernel
theorem dX8_feed_40 : decode cX8_feed 40 = .ok (.l2i, 1) := by decide +kernel
theorem dX8_feed_41 : decode cX8_feed 41 = .ok (.invokevirtual 208, 3) := by decide +kernel
theorem dX8_feed_44 : decode cX8_feed 44 = .ok (.iinc 4 (-1), 3) := by decide +kernel
theorem dX8_feed_47 : decode cX8_feed 47 = .ok (.goto (-24), 3) := by decide +kernel
theorem dX8_feed_50 : decode cX8_feed 50 = .ok (.iconst 1, 1) := by decide +kernel
theorem dX8_feed_51 : decode cX8_feed 51 = .ok (.ireturn, 1) := by decide +kernel
theorem dX8_is_0 : decode cX8_is 0 = .ok (.aload_n 0, 1) := by decide +kernel
theorem dX8_is_1 : decode cX8_is 1 = .ok (.getfield 149, 3) := by decide +kernel
theorem dX8_is_4 : decode cX8_is 4 = .ok (.iload_n 1, 1) := by decide +kernel
theorem dX8_is_5 : decode cX8_is 5 = .ok (.if_icmp .ne 21, 3) := by decide +kernel
theorem dX8_is_8 : decode cX8_is 8 = .ok (.aload_n 0, 1) := by decide +kernel
theorem dX8_is_9 : decode cX8_is 9 = .ok (.getfield 152, 3) := by decide +kernel
theorem dX8_is_12 : decode cX8_is 12 = .ok (.iload_n 2, 1) := by decide +kernel
theorem dX8_is_13 : decode cX8_is 13 = .ok (.if_icmp .ne 13, 3) := by decide +kernel
theorem dX8_is_16 : decode cX8_is 16 = .ok (.iload_n 3, 1) := by decide +kernel
theorem dX8_is_17 : decode cX8_is 17 = .ok (.iload 4, 2) := by decide +kernel
theorem dX8_is_19 : decode cX8_is 19 = .ok (.if_icmp .ne 7, 3) := by decide +kernel
theorem dX8_is_22 : decode cX8_is 22 = .ok (.iconst 1, 1) := by decide +kernel
theorem dX8_is_23 : decode cX8_is 23 = .ok (.goto 4, 3) := by decide +kernel
theorem dX8_is_26 : decode cX8_is 26 = .ok (.iconst 0, 1) := by decide +kernel
theorem dX8_is_27 : decode cX8_is 27 = .ok (.ireturn, 1) := by decide +kernel
theorem dX8_known_0 : decode cX8_known 0 = .ok (.iload_n 2, 1) := by decide +kernel
theorem dX8_known_1 : decode cX8_known 1 = .ok (.ifCond .ge 7, 3) := by decide +kernel
theorem dX8_known_4 : decode cX8_known 4 = .ok (.lconst 0, 1) := by decide +kernel
theorem dX8_known_5 : decode cX8_known 5 = .ok (.goto 5, 3) := by decide +kernel
theorem dX8_known_8 : decode cX8_known 8 = .ok (.iload_n 2, 1) := by decide +kernel
theorem dX8_known_9 : decode cX8_known 9 = .ok (.i2l, 1) := by decide +kernel
theorem dX8_known_10 : decode cX8_known 10 = .ok (.lstore 4, 2) := by decide +kernel
theorem dX8_known_12 : decode cX8_known 12 = .ok (.aload_n 0, 1) := by decide +kernel
theorem dX8_known_13 : decode cX8_known 13 = .ok (.getfield 149, 3) := by decide +kernel
theorem dX8_known_16 : decode cX8_known 16 = .ok (.bipush 38, 2) := by decide +kernel
theorem dX8_known_18 : decode cX8_known 18 = .ok (.if_icmp .ne 21, 3) := by decide +kernel
theorem dX8_known_21 : decode cX8_known 21 = .ok (.aload_n 0, 1) := by decide +kernel
theorem dX8_known_22 : decode cX8_known 22 = .ok (.getfield 152, 3) := by decide +kernel
theorem dX8_known_25 : decode cX8_known 25 = .ok (.bipush 108, 2) := by decide +kernel
theorem dX8_known_27 : decode cX8_known 27 = .ok (.if_icmp .ne 12, 3) := by decide +kernel
theorem dX8_known_30 : decode cX8_known 30 = .ok (.aload_n 0, 1) := by decide +kernel
theorem dX8_known_31 : decode cX8_known 31 = .ok (.iload_n 1, 1) := by decide +kernel
theorem dX8_known_32 : decode cX8_known 32 = .ok (.lload 4, 2) := by decide +kernel
theorem dX8_known_34 : decode cX8_known 34 = .ok (.iload_n 3, 1) := by decide +kernel
theorem dX8_known_35 : decode cX8_known 35 = .ok (.invokevirtual 211, 3) := by decide +kernel
theorem dX8_known_38 : decode cX8_known 38 = .ok (.ireturn, 1) := by decide +kernel
theorem dX8_known_39 : decode cX8_known 39 = .ok (.aload_n 0, 1) := by decide +kernel
theorem dX8_known_40 : decode cX8_known 40 = .ok (.bipush 38, 2) := by decide +kernel
theorem dX8_known_42 : decode cX8_known 42 = .ok (.bipush 107, 2) := by decide +kernel
theorem dX8_known_44 : decode cX8_known 44 = .ok (.bipush 72, 2) := by decide +kernel
theorem dX8_known_46 : decode cX8_known 46 = .ok (.iload_n 1, 1) := by decide +kernel
theorem dX8_known_47 : decode cX8_known 47 = .ok (.invokevirtual 215, 3) := by decide +kernel
theorem dX8_known_50 : decode cX8_known 50 = .ok (.ifCond .eq 24, 3) := by decide +kernel
theorem dX8_known_53 : decode cX8_known 53 = .ok (.aload_n 0, 1) := by decide +kernel
theorem dX8_known_54 : decode cX8_known 54 = .ok (.getfield 7, 3) := by decide +kernel
theorem dX8_known_57 : decode cX8_known 57 = .ok (.bipush 6, 2) := by decide +kernel
theorem dX8_known_59 : decode cX8_known 59 = .ok (.ldc2_w 219, 3) := by decide +kernel
theorem dX8_known_62 : decode cX8_known 62 = .ok (.lload 4, 2) := by decide +kernel
theorem dX8_known_64 : decode cX8_known 64 = .ok (.lmul, 1) := by decide +kernel
theorem dX8_known_65 : decode cX8_known 65 = .ok (.ldc2_w 221, 3) := by decide +kernel
theorem dX8_known_68 : decode cX8_known 68 = .ok (.ldiv, 1) := by decide +kernel
theorem dX8_known_69 : decode cX8_known 69 = .ok (.l2i, 1) := by decide +kernel
theorem dX8_known_70 : decode cX8_known 70 = .ok (.iastore, 1) := by decide +kernel
theorem dX8_known_71 : decode cX8_known 71 = .ok (.goto 308, 3) := by decide +kernel
theorem dX8_known_74 : decode cX8_known 74 = .ok (.aload_n 0, 1) := by decide +kernel
theorem dX8_known_75 : decode cX8_known 75 = .ok (.bipush 38, 2) := by decide +kernel
theorem dX8_known_77 : decode cX8_known 77 = .ok (.bipush 107, 2) := by decide +kernel
theorem dX8_known_79 : decode cX8_known 79 = .ok (.bipush 71, 2) := by decide +kernel
theorem dX8_known_81 : decode cX8_known 81 = .ok (.iload_n 1, 1) := by decide +kernel
theorem dX8_known_82 : decode cX8_known 82 = .ok (.invokevirtual 215, 3) := by decide +kernel
theorem dX8_known_85 : decode cX8_known 85 = .ok (.ifCond .eq 29, 3) := by decide +kernel
theorem dX8_known_88 : decode cX8_known 88 = .ok (.aload_n 0, 1) := by decide +kernel
theorem dX8_known_89 : decode cX8_known 89 = .ok (.getfield 7, 3) := by decide +kernel
theorem dX8_known_92 : decode cX8_known 92 = .ok (.bipush 10, 2) := by decide +kernel
theorem dX8_known_94 : decode cX8_known 94 = .ok (.iload_n 3, 1) := by decide +kernel
theorem dX8_known_95 : decode cX8_known 95 = .ok (.iconst 4, 1) := by decide +kernel
theorem dX8_known_96 : decode cX8_known 96 = .ok (.if_icmp .ge 7, 3) := by decide +kernel
theorem dX8_known_99 : decode cX8_known 99 = .ok (.iload_n 3, 1) := by decide +kernel
theorem dX8_known_100 : decode cX8_known 100 = .ok (.goto 10, 3) := by decide +kernel
theorem dX8_known_103 : decode cX8_known 103 = .ok (.aload_n 0, 1) := by decide +kernel
theorem dX8_known_104 : decode cX8_known 104 = .ok (.getfield 7, 3) := by decide +kernel
theorem dX8_known_107 : decode cX8_known 107 = .ok (.bipush 10, 2) := by decide +kernel
theorem dX8_known_109 : decode cX8_known 109 = .ok (.iaload, 1) := by decide +kernel
theorem dX8_known_110 : decode cX8_known 110 = .ok (.iastore, 1) := by decide +kernel
theorem dX8_known_111 : decode cX8_known 111 = .ok (.goto 268, 3) := by decide +kernel
theorem dX8_known_114 : decode cX8_known 114 = .ok (.aload_n 0, 1) := by decide +kernel
theorem dX8_known_115 : decode cX8_known 115 = .ok (.bipush 38, 2) := by decide +kernel
theorem dX8_known_117 : decode cX8_known 117 = .ok (.bipush 97, 2) := by decide +kernel
theorem dX8_known_119 : decode cX8_known 119 = .ok (.bipush 76, 2) := by decide +kernel
theorem dX8_known_121 : decode cX8_known 121 = .ok (.iload_n 1, 1) := by decide +kernel
theorem dX8_known_122 : decode cX8_known 122 = .ok (.invokevirtual 215, 3) := by decide +kernel
theorem dX8_known_125 : decode cX8_known 125 = .ok (.ifCond .eq 79, 3) := by decide +kernel
theorem dX8_known_128 : decode cX8_known 128 = .ok (.iload_n 3, 1) := by decide +kernel
theorem dX8_known_129 : decode cX8_known 129 = .ok (.i2l, 1) := by decide +kernel
theorem dX8_known_130 : decode cX8_known 130 = .ok (.aload_n 0, 1) := by decide +kernel
theorem dX8_known_131 : decode cX8_known 131 = .ok (.getfield 7, 3) := by decide +kernel
theorem dX8_known_134 : decode cX8_known 134 = .ok (.bipush 6, 2) := by decide +kernel
theorem dX8_known_136 : decode cX8_known 136 = .ok (.iaload, 1) := by decide +kernel
theorem dX8_known_137 : decode cX8_known 137 = .ok (.i2l, 1) := by decide +kernel
theorem dX8_known_138 : decode cX8_known 138 = .ok (.lmul, 1) := by decide +kernel
theorem dX8_known_139 : decode cX8_known 139 = .ok (.aload_n 0, 1) := by decide +kernel
theorem dX8_known_140 : decode cX8_known 140 = .ok (.getfield 7, 3) := by decide +kernel
theorem dX8_known_143 : decode cX8_known 143 = .ok (.iconst 3, 1) := by decide +kernel
theorem dX8_known_144 : decode cX8_known 144 = .ok (.iaload, 1) := by decide +kernel
theorem dX8_known_145 : decode cX8_known 145 = .ok (.i2l, 1) := by decide +kernel
theorem dX8_known_146 : decode cX8_known 146 = .ok (.lcmp, 1) := by decide +kernel
theorem dX8_known_147 : decode cX8_known 147 = .ok (.ifCond .ge 232, 3) := by decide +kernel
theorem dX8_known_150 : decode cX8_known 150 = .ok (.aload_n 0, 1) := by decide +kernel
theorem dX8_known_151 : decode cX8_known 151 = .ok (.getfield 7, 3) := by decide +kernel
theorem dX8_known_154 : decode cX8_known 154 = .ok (.iconst 2, 1) := by decide +kernel
theorem dX8_known_155 : decode cX8_known 155 = .ok (.iload_n 3, 1) := by decide +kernel
theorem dX8_known_156 : decode cX8_known 156 = .ok (.aload_n 0, 1) := by decide +kernel
theorem dX8_known_157 : decode cX8_known 157 = .ok (.getfield 7, 3) := by decide +kernel
theorem dX8_known_160 : decode cX8_known 160 = .ok (.bipush 6, 2) := by decide +kernel
theorem dX8_known_162 : decode cX8_known 162 = .ok (.iaload, 1) := by decide +kernel
theorem dX8_known_163 : decode cX8_known 163 = .ok (.imul, 1) := by decide +kernel
theorem dX8_known_164 : decode cX8_known 164 = .ok (.iastore, 1) := by decide +kernel
theorem dX8_known_165 : decode cX8_known 165 = .ok (.aload_n 0, 1) := by decide +kernel
theorem dX8_known_166 : decode cX8_known 166 = .ok (.getfield 7, 3) := by decide +kernel
theorem dX8_known_169 : decode cX8_known 169 = .ok (.iconst 0, 1) := by decide +kernel
theorem dX8_known_170 : decode cX8_known 170 = .ok (.aload_n 0, 1) := by decide +kernel
theorem dX8_known_171 : decode cX8_known 171 = .ok (.getfield 7, 3) := by decide +kernel
theorem dX8_known_174 : decode cX8_known 174 = .ok (.iconst 0, 1) := by decide +kernel
theorem dX8_known_175 : decode cX8_known 175 = .ok (.iaload, 1) := by decide +kernel
theorem dX8_known_176 : decode cX8_known 176 = .ok (.aload_n 0, 1) := by decide +kernel
theorem dX8_known_177 : decode cX8_known 177 = .ok (.getfield 7, 3) := by decide +kernel
theorem dX8_known_180 : decode cX8_known 180 = .ok (.iconst 2, 1) := by decide +kernel
theorem dX8_known_181 : decode cX8_known 181 = .ok (.iaload, 1) := by decide +kernel
theorem dX8_known_182 : decode cX8_known 182 = .ok (.if_icmp .ge 12, 3) := by decide +kernel
theorem dX8_known_185 : decode cX8_known 185 = .ok (.aload_n 0, 1) := by decide +kernel
theorem dX8_known_186 : decode cX8_known 186 = .ok (.getfield 7, 3) := by decide +kernel
theorem dX8_known_189 : decode cX8_known 189 = .ok (.iconst 2, 1) := by decide +kernel
theorem dX8_known_190 : decode cX8_known 190 = .ok (.iaload, 1) := by decide +kernel
theorem dX8_known_191 : decode cX8_known 191 = .ok (.goto 9, 3) := by decide +kernel
theorem dX8_known_194 : decode cX8_known 194 = .ok (.aload_n 0, 1) := by decide +kernel
theorem dX8_known_195 : decode cX8_known 195 = .ok (.getfield 7, 3) := by decide +kernel
theorem dX8_known_198 : decode cX8_known 198 = .ok (.iconst 0, 1) := by decide +kernel
theorem dX8_known_199 : decode cX8_known 199 = .ok (.iaload, 1) := by decide +kernel
theorem dX8_known_200 : decode cX8_known 200 = .ok (.iastore, 1) := by decide +kernel
theorem dX8_known_201 : decode cX8_known 201 = .ok (.goto 178, 3) := by decide +kernel
theorem dX8_known_204 : decode cX8_known 204 = .ok (.aload_n 0, 1) := by decide +kernel
theorem dX8_known_205 : decode cX8_known 205 = .ok (.bipush 38, 2) := by decide +kernel
theorem dX8_known_207 : decode cX8_known 207 = .ok (.bipush 97, 2) := by decide +kernel
theorem dX8_known_209 : decode cX8_known 209 = .ok (.bipush 77, 2) := by decide +kernel
theorem dX8_known_211 : decode cX8_known 211 = .ok (.iload_n 1, 1) := by decide +kernel
theorem dX8_known_212 : decode cX8_known 212 = .ok (.invokevirtual 215, 3) := by decide +kernel
theorem dX8_known_215 : decode cX8_known 215 = .ok (.ifCond .eq 85, 3) := by decide +kernel
theorem dX8_known_218 : decode cX8_known 218 = .ok (.iload_n 3, 1) := by decide +kernel
theorem dX8_known_219 : decode cX8_known 219 = .ok (.i2l, 1) := by decide +kernel
theorem dX8_known_220 : decode cX8_known 220 = .ok (.lconst 1, 1) := by decide +kernel
theorem dX8_known_221 : decode cX8_known 221 = .ok (.ladd, 1) := by decide +kernel
theorem dX8_known_222 : decode cX8_known 222 = .ok (.aload_n 0, 1) := by decide +kernel
theorem dX8_known_223 : decode cX8_known 223 = .ok (.getfield 7, 3) := by decide +kernel
theorem dX8_known_226 : decode cX8_known 226 = .ok (.bipush 6, 2) := by decide +kernel
theorem dX8_known_228 : decode cX8_known 228 = .ok (.iaload, 1) := by decide +kernel
theorem dX8_known_229 : decode cX8_known 229 = .ok (.i2l, 1) := by decide +kernel
theorem dX8_known_230 : decode cX8_known 230 = .ok (.lmul, 1) := by decide +kernel
theorem dX8_known_231 : decode cX8_known 231 = .ok (.lstore 6, 2) := by decide +kernel
theorem dX8_known_233 : decode cX8_known 233 = .ok (.lload 6, 2) := by decide +kernel
theorem dX8_known_235 : decode cX8_known 235 = .ok (.aload_n 0, 1) := by decide +kernel
theorem dX8_known_236 : decode cX8_known 236 = .ok (.getfield 7, 3) := by decide +kernel
theorem dX8_known_239 : decode cX8_known 239 = .ok (.iconst 2, 1) := by decide +kernel
theorem dX8_known_240 : decode cX8_known 240 = .ok (.iaload, 1) := by decide +kernel
theorem dX8_known_241 : decode cX8_known 241 = .ok (.i2l, 1) := by decide +kernel
theorem dX8_known_242 : decode cX8_known 242 = .ok (.lcmp, 1) := by decide +kernel
theorem dX8_known_243 : decode cX8_known 243 = .ok (.ifCond .le 54, 3) := by decide +kernel
theorem dX8_known_246 : decode cX8_known 246 = .ok (.aload_n 0, 1) := by decide +kernel
theorem dX8_known_247 : decode cX8_known 247 = .ok (.getfield 7, 3) := by decide +kernel
theorem dX8_known_250 : decode cX8_known 250 = .ok (.iconst 3, 1) := by decide +kernel
theorem dX8_known_251 : decode cX8_known 251 = .ok (.lload 6, 2) := by decide +kernel
theorem dX8_known_253 : decode cX8_known 253 = .ok (.aload_n 0, 1) := by decide +kernel
theorem dX8_known_254 : decode cX8_known 254 = .ok (.getfield 64, 3) := by decide +kernel
theorem dX8_known_257 : decode cX8_known 257 = .ok (.invokestatic 70, 3) := by decide +kernel
theorem dX8_known_260 : decode cX8_known 260 = .ok (.iastore, 1) := by decide +kernel
theorem dX8_known_261 : decode cX8_known 261 = .ok (.aload_n 0, 1) := by decide +kernel
theorem dX8_known_262 : decode cX8_known 262 = .ok (.getfield 7, 3) := by decide +kernel
theorem dX8_known_265 : decode cX8_known 265 = .ok (.iconst 0, 1) := by decide +kernel
theorem dX8_known_266 : decode cX8_known 266 = .ok (.aload_n 0, 1) := by decide +kernel
theorem dX8_known_267 : decode cX8_known 267 = .ok (.getfield 7, 3) := by decide +kernel
theorem dX8_known_270 : decode cX8_known 270 = .ok (.iconst 0, 1) := by decide +kernel
theorem dX8_known_271 : decode cX8_known 271 = .ok (.iaload, 1) := by decide +kernel
theorem dX8_known_272 : decode cX8_known 272 = .ok (.aload_n 0, 1) := by decide +kernel
theorem dX8_known_273 : decode cX8_known 273 = .ok (.getfield 7, 3) := by decide +kernel
theorem dX8_known_276 : decode cX8_known 276 = .ok (.iconst 3, 1) := by decide +kernel
theorem dX8_known_277 : decode cX8_known 277 = .ok (.iaload, 1) := by decide +kernel
theorem dX8_known_278 : decode cX8_known 278 = .ok (.if_icmp .le 12, 3) := by decide +kernel
theorem dX8_known_281 : decode cX8_known 281 = .ok (.aload_n 0, 1) := by decide +kernel
theorem dX8_known_282 : decode cX8_known 282 = .ok (.getfield 7, 3) := by decide +kernel
theorem dX8_known_285 : decode cX8_known 285 = .ok (.iconst 3, 1) := by decide +kernel
theorem dX8_known_286 : decode cX8_known 286 = .ok (.iaload, 1) := by decide +kernel
theorem dX8_known_287 : decode cX8_known 287 = .ok (.goto 9, 3) := by decide +kernel
theorem dX8_known_290 : decode cX8_known 290 = .ok (.aload_n 0, 1) := by decide +kernel
theorem dX8_known_291 : decode cX8_known 291 = .ok (.getfield 7, 3) := by decide +kernel
theorem dX8_known_294 : decode cX8_known 294 = .ok (.iconst 0, 1) := by decide +kernel
theorem dX8_known_295 : decode cX8_known 295 = .ok (.iaload, 1) := by decide +kernel
theorem dX8_known_296 : decode cX8_known 296 = .ok (.iastore, 1) := by decide +kernel
theorem dX8_known_297 : decode cX8_known 297 = .ok (.goto 82, 3) := by decide +kernel
theorem dX8_known_300 : decode cX8_known 300 = .ok (.aload_n 0, 1) := by decide +kernel
theorem dX8_known_301 : decode cX8_known 301 = .ok (.bipush 38, 2) := by decide +kernel
theorem dX8_known_303 : decode cX8_known 303 = .ok (.bipush 115, 2) := by decide +kernel
theorem dX8_known_305 : decode cX8_known 305 = .ok (.bipush 67, 2) := by decide +kernel
theorem dX8_known_307 : decode cX8_known 307 = .ok (.iload_n 1, 1) := by decide +kernel
theorem dX8_known_308 : decode cX8_known 308 = .ok (.invokevirtual 215, 3) := by decide +kernel
theorem dX8_known_311 : decode cX8_known 311 = .ok (.ifCond .eq 37, 3) := by decide +kernel
theorem dX8_known_314 : decode cX8_known 314 = .ok (.aload_n 0, 1) := by decide +kernel
theorem dX8_known_315 : decode cX8_known 315 = .ok (.getfield 7, 3) := by decide +kernel
theorem dX8_known_318 : decode cX8_known 318 = .ok (.bipush 8, 2) := by decide +kernel
theorem dX8_known_320 : decode cX8_known 320 = .ok (.iload_n 3, 1) := by decide +kernel
theorem dX8_known_321 : decode cX8_known 321 = .ok (.ifCond .ne 7, 3) := by decide +kernel
theorem dX8_known_324 : decode cX8_known 324 = .ok (.iconst 1, 1) := by decide +kernel
theorem dX8_known_325 : decode cX8_known 325 = .ok (.goto 19, 3) := by decide +kernel
theorem dX8_known_328 : decode cX8_known 328 = .ok (.iload_n 3, 1) := by decide +kernel
theorem dX8_known_329 : decode cX8_known 329 = .ok (.iconst 1, 1) := by decide +kernel
theorem dX8_known_330 : decode cX8_known 330 = .ok (.if_icmp .ne 7, 3) := by decide +kernel
theorem dX8_known_333 : decode cX8_known 333 = .ok (.iconst 0, 1) := by decide +kernel
theorem dX8_known_334 : decode cX8_known 334 = .ok (.goto 10, 3) := by decide +kernel
theorem dX8_known_337 : decode cX8_known 337 = .ok (.aload_n 0, 1) := by decide +kernel
theorem dX8_known_338 : decode cX8_known 338 = .ok (.getfield 7, 3) := by decide +kernel
theorem dX8_known_341 : decode cX8_known 341 = .ok (.bipush 8, 2) := by decide +kernel
theorem dX8_known_343 : decode cX8_known 343 = .ok (.iaload, 1) := by decide +kernel
theorem dX8_known_344 : decode cX8_known 344 = .ok (.iastore, 1) := by decide +kernel
theorem dX8_known_345 : decode cX8_known 345 = .ok (.goto 34, 3) := by decide +kernel
theorem dX8_known_348 : decode cX8_known 348 = .ok (.aload_n 0, 1) := by decide +kernel
theorem dX8_known_349 : decode cX8_known 349 = .ok (.bipush 38, 2) := by decide +kernel
theorem dX8_known_351 : decode cX8_known 351 = .ok (.bipush 102, 2) := by decide +kernel
theorem dX8_known_353 : decode cX8_known 353 = .ok (.bipush 83, 2) := by decide +kernel
theorem dX8_known_355 : decode cX8_known 355 = .ok (.iload_n 1, 1) := by decide +kernel
theorem dX8_known_356 : decode cX8_known 356 = .ok (.invokevirtual 215, 3) := by decide +kernel
theorem dX8_known_359 : decode cX8_known 359 = .ok (.ifCond .eq 11, 3) := by decide +kernel
theorem dX8_known_362 : decode cX8_known 362 = .ok (.aload_n 0, 1) := by decide +kernel
theorem dX8_known_363 : decode cX8_known 363 = .ok (.iload_n 3, 1) := by decide +kernel
theorem dX8_known_364 : decode cX8_known 364 = .ok (.invokevirtual 223, 3) := by decide +kernel
theorem dX8_known_367 : decode cX8_known 367 = .ok (.goto 12, 3) := by decide +kernel
theorem dX8_known_370 : decode cX8_known 370 = .ok (.aload_n 0, 1) := by decide +kernel
theorem dX8_known_371 : decode cX8_known 371 = .ok (.iload_n 1, 1) := by decide +kernel
theorem dX8_known_372 : decode cX8_known 372 = .ok (.iload_n 2, 1) := by decide +kernel
theorem dX8_known_373 : decode cX8_known 373 = .ok (.lload 4, 2) := by decide +kernel
theorem dX8_known_375 : decode cX8_known 375 = .ok (.invokevirtual 226, 3) := by decide +kernel
theorem dX8_known_378 : decode cX8_known 378 = .ok (.ireturn, 1) := by decide +kernel
theorem dX8_known_379 : decode cX8_known 379 = .ok (.iconst 1, 1) := by decide +kernel
theorem dX8_known_380 : decode cX8_known 380 = .ok (.ireturn, 1) := by decide +kernel
theorem dX8_stack_0 : decode cX8_stack 0 = .ok (.aload_n 0, 1) := by decide +kernel
theorem dX8_stack_1 : decode cX8_stack 1 = .ok (.getfield 7, 3) := by decide +kernel
theorem dX8_stack_4 : decode cX8_stack 4 = .ok (.bipush 12, 2) := by decide +kernel
theorem dX8_stack_6 : decode cX8_stack 6 = .ok (.iaload, 1) := by decide +kernel
theorem dX8_stack_7 : decode cX8_stack 7 = .ok (.istore_n 2, 1) := by decide +kernel
theorem dX8_stack_8 : decode cX8_stack 8 = .ok (.iload_n 1, 1) := by decide +kernel
theorem dX8_stack_9 : decode cX8_stack 9 = .ok (.ifCond .ne 57, 3) := by decide +kernel
theorem dX8_stack_12 : decode cX8_stack 12 = .ok (.iload_n 2, 1) := by decide +kernel
theorem dX8_stack_13 : decode cX8_stack 13 = .ok (.bipush 20, 2) := by decide +kernel
theorem dX8_stack_15 : decode cX8_stack 15 = .ok (.if_icmp .ge 51, 3) := by decide +kernel
theorem dX8_stack_18 : decode cX8_stack 18 = .ok (.aload_n 0, 1) := by decide +kernel
theorem dX8_stack_19 : decode cX8_stack 19 = .ok (.getfield 7, 3) := by decide +kernel
theorem dX8_stack_22 : decode cX8_stack 22 = .ok (.bipush 13, 2) := by decide +kernel
theorem dX8_stack_24 : decode cX8_stack 24 = .ok (.iconst 2, 1) := by decide +kernel
theorem dX8_stack_25 : decode cX8_stack 25 = .ok (.iload_n 2, 1) := by decide +kernel
theorem dX8_stack_26 : decode cX8_stack 26 = .ok (.imul, 1) := by decide +kernel
theorem dX8_stack_27 : decode cX8_stack 27 = .ok (.iadd, 1) := by decide +kernel
theorem dX8_stack_28 : decode cX8_stack 28 = .ok (.aload_n 0, 1) := by decide +kernel
theorem dX8_stack_29 : decode cX8_stack 29 = .ok (.getfield 7, 3) := by decide +kernel
theorem dX8_stack_32 : decode cX8_stack 32 = .ok (.iconst 0, 1) := by decide +kernel
theorem dX8_stack_33 : decode cX8_stack 33 = .ok (.iaload, 1) := by decide +kernel
theorem dX8_stack_34 : decode cX8_stack 34 = .ok (.iastore, 1) := by decide +kernel
theorem dX8_stack_35 : decode cX8_stack 35 = .ok (.aload_n 0, 1) := by decide +kernel
theorem dX8_stack_36 : decode cX8_stack 36 = .ok (.getfield 7, 3) := by decide +kernel
theorem dX8_stack_39 : decode cX8_stack 39 = .ok (.bipush 14, 2) := by decide +kernel
theorem dX8_stack_41 : decode cX8_stack 41 = .ok (.iconst 2, 1) := by decide +kernel
theorem dX8_stack_42 : decode cX8_stack 42 = .ok (.iload_n 2, 1) := by decide +kernel
theorem dX8_stack_43 : decode cX8_stack 43 = .ok (.imul, 1) := by decide +kernel
theorem dX8_stack_44 : decode cX8_stack 44 = .ok (.iadd, 1) := by decide +kernel
theorem dX8_stack_45 : decode cX8_stack 45 = .ok (.aload_n 0, 1) := by decide +kernel
theorem dX8_stack_46 : decode cX8_stack 46 = .ok (.getfield 7, 3) := by decide +kernel
theorem dX8_stack_49 : decode cX8_stack 49 = .ok (.iconst 1, 1) := by decide +kernel
theorem dX8_stack_50 : decode cX8_stack 50 = .ok (.iaload, 1) := by decide +kernel
theorem dX8_stack_51 : decode cX8_stack 51 = .ok (.iastore, 1) := by decide +kernel
theorem dX8_stack_52 : decode cX8_stack 52 = .ok (.aload_n 0, 1) := by decide +kernel
theorem dX8_stack_53 : decode cX8_stack 53 = .ok (.getfield 7, 3) := by decide +kernel
theorem dX8_stack_56 : decode cX8_stack 56 = .ok (.bipush 12, 2) := by decide +kernel
theorem dX8_stack_58 : decode cX8_stack 58 = .ok (.dup2, 1) := by decide +kernel
theorem dX8_stack_59 : decode cX8_stack 59 = .ok (.iaload, 1) := by decide +kernel
theorem dX8_stack_60 : decode cX8_stack 60 = .ok (.iconst 1, 1) := by decide +kernel
theorem dX8_stack_61 : decode cX8_stack 61 = .ok (.iadd, 1) := by decide +kernel
theorem dX8_stack_62 : decode cX8_stack 62 = .ok (.iastore, 1) := by decide +kernel
theorem dX8_stack_63 : decode cX8_stack 63 = .ok (.goto 55, 3) := by decide +kernel
theorem dX8_stack_66 : decode cX8_stack 66 = .ok (.iload_n 1, 1) := by decide +kernel
theorem dX8_stack_67 : decode cX8_stack 67 = .ok (.iconst 1, 1) := by decide +kernel
theorem dX8_stack_68 : decode cX8_stack 68 = .ok (.if_icmp .ne 50, 3) := by decide +kernel
theorem dX8_stack_71 : decode cX8_stack 71 = .ok (.iload_n 2, 1) := by decide +kernel
theorem dX8_stack_72 : decode cX8_stack 72 = .ok (.ifCond .le 46, 3) := by decide +kernel
theorem dX8_stack_75 : decode cX8_stack 75 = .ok (.aload_n 0, 1) := by decide +kernel
theorem dX8_stack_76 : decode cX8_stack 76 = .ok (.getfield 7, 3) := by decide +kernel
theorem dX8_stack_79 : decode cX8_stack 79 = .ok (.bipush 12, 2) := by decide +kernel
theorem dX8_stack_81 : decode cX8_stack 81 = .ok (.dup2, 1) := by decide +kernel
theorem dX8_stack_82 : decode cX8_stack 82 = .ok (.iaload, 1) := by decide +kernel
theorem dX8_stack_83 : decode cX8_stack 83 = .ok (.iconst 1, 1) := by decide +kernel
theorem dX8_stack_84 : decode cX8_stack 84 = .ok (.isub, 1) := by decide +kernel
theorem dX8_stack_85 : decode cX8_stack 85 = .ok (.iastore, 1) := by decide +kernel
theorem dX8_stack_86 : decode cX8_stack 86 = .ok (.aload_n 0, 1) := by decide +kernel
theorem dX8_stack_87 : decode cX8_stack 87 = .ok (.aload_n 0, 1) := by decide +kernel
theorem dX8_stack_88 : decode cX8_stack 88 = .ok (.getfield 7, 3) := by decide +kernel
theorem dX8_stack_91 : decode cX8_stack 91 = .ok (.bipush 11, 2) := by decide +kernel
theorem dX8_stack_93 : decode cX8_stack 93 = .ok (.iconst 2, 1) := by decide +kernel
theorem dX8_stack_94 : decode cX8_stack 94 = .ok (.iload_n 2, 1) := by decide +kernel
theorem dX8_stack_95 : decode cX8_stack 95 = .ok (.imul, 1) := by decide +kernel
theorem dX8_stack_96 : decode cX8_stack 96 = .ok (.iadd, 1) := by decide +kernel
theorem dX8_stack_97 : decode cX8_stack 97 = .ok (.iaload, 1) := by decide +kernel
theorem dX8_stack_98 : decode cX8_stack 98 = .ok (.i2l, 1) := by decide +kernel
theorem dX8_stack_99 : decode cX8_stack 99 = .ok (.invokevirtual 77, 3) := by decide +kernel
theorem dX8_stack_102 : decode cX8_stack 102 = .ok (.aload_n 0, 1) := by decide +kernel
theorem dX8_stack_103 : decode cX8_stack 103 = .ok (.aload_n 0, 1) := by decide +kernel
theorem dX8_stack_104 : decode cX8_stack 104 = .ok (.getfield 7, 3) := by decide +kernel
theorem dX8_stack_107 : decode cX8_stack 107 = .ok (.bipush 12, 2) := by decide +kernel
theorem dX8_stack_109 : decode cX8_stack 109 = .ok (.iconst 2, 1) := by decide +kernel
theorem dX8_stack_110 : decode cX8_stack 110 = .ok (.iload_n 2, 1) := by decide +kernel
theorem dX8_stack_111 : decode cX8_stack 111 = .ok (.imul, 1) := by decide +kernel
theorem dX8_stack_112 : decode cX8_stack 112 = .ok (.iadd, 1) := by decide +kernel
theorem dX8_stack_113 : decode cX8_stack 113 = .ok (.iaload, 1) := by decide +kernel
theorem dX8_stack_114 : decode cX8_stack 114 = .ok (.i2l, 1) := by decide +kernel
theorem dX8_stack_115 : decode cX8_stack 115 = .ok (.invokevirtual 85, 3) := by decide +kernel
theorem dX8_stack_118 : decode cX8_stack 118 = .ok (.return_, 1) := by decide +kernel
theorem dX8_cursor_0 : decode cX8_cursor 0 = .ok (.aload_n 0, 1) := by decide +kernel
theorem dX8_cursor_1 : decode cX8_cursor 1 = .ok (.bipush 38, 2) := by decide +kernel
theorem dX8_cursor_3 : decode cX8_cursor 3 = .ok (.bipush 97, 2) := by decide +kernel
theorem dX8_cursor_5 : decode cX8_cursor 5 = .ok (.bipush 67, 2) := by decide +kernel
theorem dX8_cursor_7 : decode cX8_cursor 7 = .ok (.iload_n 1, 1) := by decide +kernel
theorem dX8_cursor_8 : decode cX8_cursor 8 = .ok (.invokevirtual 215, 3) := by decide +kernel
theorem dX8_cursor_11 : decode cX8_cursor 11 = .ok (.ifCond .ne 31, 3) := by decide +kernel
theorem dX8_cursor_14 : decode cX8_cursor 14 = .ok (.aload_n 0, 1) := by decide +kernel
theorem dX8_cursor_15 : decode cX8_cursor 15 = .ok (.bipush 38, 2) := by decide +kernel
theorem dX8_cursor_17 : decode cX8_cursor 17 = .ok (.bipush 97, 2) := by decide +kernel
theorem dX8_cursor_19 : decode cX8_cursor 19 = .ok (.bipush 72, 2) := by decide +kernel
theorem dX8_cursor_21 : decode cX8_cursor 21 = .ok (.iload_n 1, 1) := by decide +kernel
theorem dX8_cursor_22 : decode cX8_cursor 22 = .ok (.invokevirtual 215, 3) := by decide +kernel
theorem dX8_cursor_25 : decode cX8_cursor 25 = .ok (.ifCond .ne 17, 3) := by decide +kernel
theorem dX8_cursor_28 : decode cX8_cursor 28 = .ok (.aload_n 0, 1) := by decide +kernel
theorem dX8_cursor_29 : decode cX8_cursor 29 = .ok (.bipush 42, 2) := by decide +kernel
theorem dX8_cursor_31 : decode cX8_cursor 31 = .ok (.bipush 112, 2) := by decide +kernel
theorem dX8_cursor_33 : decode cX8_cursor 33 = .ok (.bipush 88, 2) := by decide +kernel
theorem dX8_cursor_35 : decode cX8_cursor 35 = .ok (.iload_n 1, 1) := by decide +kernel
theorem dX8_cursor_36 : decode cX8_cursor 36 = .ok (.invokevirtual 215, 3) := by decide +kernel
theorem dX8_cursor_39 : decode cX8_cursor 39 = .ok (.ifCond .eq 7, 3) := by decide +kernel
theorem dX8_cursor_42 : decode cX8_cursor 42 = .ok (.iconst 1, 1) := by decide +kernel
theorem dX8_cursor_43 : decode cX8_cursor 43 = .ok (.goto 4, 3) := by decide +kernel
theorem dX8_cursor_46 : decode cX8_cursor 46 = .ok (.iconst 0, 1) := by decide +kernel
theorem dX8_cursor_47 : decode cX8_cursor 47 = .ok (.istore 5, 2) := by decide +kernel
theorem dX8_cursor_49 : decode cX8_cursor 49 = .ok (.aload_n 0, 1) := by decide +kernel
theorem dX8_cursor_50 : decode cX8_cursor 50 = .ok (.bipush 38, 2) := by decide +kernel
theorem dX8_cursor_52 : decode cX8_cursor 52 = .ok (.bipush 97, 2) := by decide +kernel
theorem dX8_cursor_54 : decode cX8_cursor 54 = .ok (.bipush 82, 2) := by decide +kernel
theorem dX8_cursor_56 : decode cX8_cursor 56 = .ok (.iload_n 1, 1) := by decide +kernel
theorem dX8_cursor_57 : decode cX8_cursor 57 = .ok (.invokevirtual 215, 3) := by decide +kernel
theorem dX8_cursor_60 : decode cX8_cursor 60 = .ok (.ifCond .ne 31, 3) := by decide +kernel
theorem dX8_cursor_63 : decode cX8_cursor 63 = .ok (.aload_n 0, 1) := by decide +kernel
theorem dX8_cursor_64 : decode cX8_cursor 64 = .ok (.bipush 38, 2) := by decide +kernel
theorem dX8_cursor_66 : decode cX8_cursor 66 = .ok (.bipush 97, 2) := by decide +kernel
theorem dX8_cursor_68 : decode cX8_cursor 68 = .ok (.bipush 86, 2) := by decide +kernel
theorem dX8_cursor_70 : decode cX8_cursor 70 = .ok (.iload_n 1, 1) := by decide +kernel
theorem dX8_cursor_71 : decode cX8_cursor 71 = .ok (.invokevirtual 215, 3) := by decide +kernel
theorem dX8_cursor_74 : decode cX8_cursor 74 = .ok (.ifCond .ne 17, 3) := by decide +kernel
theorem dX8_cursor_77 : decode cX8_cursor 77 = .ok (.aload_n 0, 1) := by decide +kernel
theorem dX8_cursor_78 : decode cX8_cursor 78 = .ok (.bipush 42, 2) := by decide +kernel
theorem dX8_cursor_80 : decode cX8_cursor 80 = .ok (.bipush 112, 2) := by decide +kernel
theorem dX8_cursor_82 : decode cX8_cursor 82 = .ok (.bipush 89, 2) := by decide +kernel
theorem dX8_cursor_84 : decode cX8_cursor 84 = .ok (.iload_n 1, 1) := by decide +kernel
theorem dX8_cursor_85 : decode cX8_cursor 85 = .ok (.invokevirtual 215, 3) := by decide +kernel
theorem dX8_cursor_88 : decode cX8_cursor 88 = .ok (.ifCond .eq 7, 3) := by decide +kernel
theorem dX8_cursor_91 : decode cX8_cursor 91 = .ok (.iconst 1, 1) := by decide +kernel
theorem dX8_cursor_92 : decode cX8_cursor 92 = .ok (.goto 4, 3) := by decide +kernel
theorem dX8_cursor_95 : decode cX8_cursor 95 = .ok (.iconst 0, 1) := by decide +kernel
theorem dX8_cursor_96 : decode cX8_cursor 96 = .ok (.istore 6, 2) := by decide +kernel
theorem dX8_cursor_98 : decode cX8_cursor 98 = .ok (.iload 5, 2) := by decide +kernel
theorem dX8_cursor_100 : decode cX8_cursor 100 = .ok (.ifCond .ne 10, 3) := by decide +kernel
theorem dX8_cursor_103 : decode cX8_cursor 103 = .ok (.iload 6, 2) := by decide +kernel
theorem dX8_cursor_105 : decode cX8_cursor 105 = .ok (.ifCond .ne 5, 3) := by decide +kernel
theorem dX8_cursor_108 : decode cX8_cursor 108 = .ok (.iconst 0, 1) := by decide +kernel
theorem dX8_cursor_109 : decode cX8_cursor 109 = .ok (.ireturn, 1) := by decide +kernel
theorem dX8_cursor_110 : decode cX8_cursor 110 = .ok (.iload_n 1, 1) := by decide +kernel
theorem dX8_cursor_111 : decode cX8_cursor 111 = .ok (.bipush 67, 2) := by decide +kernel
theorem dX8_cursor_113 : decode cX8_cursor 113 = .ok (.if_icmp .ne 14, 3) := by decide +kernel
theorem dX8_cursor_116 : decode cX8_cursor 116 = .ok (.aload_n 0, 1) := by decide +kernel
theorem dX8_cursor_117 : decode cX8_cursor 117 = .ok (.getfield 7, 3) := by decide +kernel
theorem dX8_cursor_120 : decode cX8_cursor 120 = .ok (.bipush 6, 2) := by decide +kernel
theorem dX8_cursor_122 : decode cX8_cursor 122 = .ok (.iaload, 1) := by decide +kernel
theorem dX8_cursor_123 : decode cX8_cursor 123 = .ok (.i2l, 1) := by decide +kernel
theorem dX8_cursor_124 : decode cX8_cursor 124 = .ok (.goto 38, 3) := by decide +kernel
theorem dX8_cursor_127 : decode cX8_cursor 127 = .ok (.iload_n 1, 1) := by decide +kernel
theorem dX8_cursor_128 : decode cX8_cursor 128 = .ok (.bipush 82, 2) := by decide +kernel
theorem dX8_cursor_130 : decode cX8_cursor 130 = .ok (.if_icmp .ne 14, 3) := by decide +kernel
theorem dX8_cursor_133 : decode cX8_cursor 133 = .ok (.aload_n 0, 1) := by decide +kernel
theorem dX8_cursor_134 : decode cX8_cursor 134 = .ok (.getfield 7, 3) := by decide +kernel
theorem dX8_cursor_137 : decode cX8_cursor 137 = .ok (.bipush 7, 2) := by decide +kernel
theorem dX8_cursor_139 : decode cX8_cursor 139 = .ok (.iaload, 1) := by decide +kernel
theorem dX8_cursor_140 : decode cX8_cursor 140 = .ok (.i2l, 1) := by decide +kernel
theorem dX8_cursor_141 : decode cX8_cursor 141 = .ok (.goto 21, 3) := by decide +kernel
theorem dX8_cursor_144 : decode cX8_cursor 144 = .ok (.aload_n 0, 1) := by decide +kernel
theorem dX8_cursor_145 : decode cX8_cursor 145 = .ok (.getfield 149, 3) := by decide +kernel
theorem dX8_cursor_148 : decode cX8_cursor 148 = .ok (.bipush 42, 2) := by decide +kernel
theorem dX8_cursor_150 : decode cX8_cursor 150 = .ok (.if_icmp .ne 9, 3) := by decide +kernel
theorem dX8_cursor_153 : decode cX8_cursor 153 = .ok (.ldc2_w 230, 3) := by decide +kernel
theorem dX8_cursor_156 : decode cX8_cursor 156 = .ok (.goto 6, 3) := by decide +kernel
theorem dX8_cursor_159 : decode cX8_cursor 159 = .ok (.ldc2_w 232, 3) := by decide +kernel
theorem dX8_cursor_162 : decode cX8_cursor 162 = .ok (.lstore 7, 2) := by decide +kernel
theorem dX8_cursor_164 : decode cX8_cursor 164 = .ok (.aload_n 0, 1) := by decide +kernel
theorem dX8_cursor_165 : decode cX8_cursor 165 = .ok (.getfield 128, 3) := by decide +kernel
theorem dX8_cursor_168 : decode cX8_cursor 168 = .ok (.ifCond .eq 53, 3) := by decide +kernel
theorem dX8_cursor_171 : decode cX8_cursor 171 = .ok (.iload_n 2, 1) := by decide +kernel
theorem dX8_cursor_172 : decode cX8_cursor 172 = .ok (.i2l, 1) := by decide +kernel
theorem dX8_cursor_173 : decode cX8_cursor 173 = .ok (.lload 7, 2) := by decide +kernel
theorem dX8_cursor_175 : decode cX8_cursor 175 = .ok (.lmul, 1) := by decide +kernel
theorem dX8_cursor_176 : decode cX8_cursor 176 = .ok (.ldc2_w 221, 3) := by decide +kernel
theorem dX8_cursor_179 : decode cX8_cursor 179 = .ok (.ldiv, 1) := by decide +kernel
theorem dX8_cursor_180 : decode cX8_cursor 180 = .ok (.lstore 9, 2) := by decide +kernel
theorem dX8_cursor_182 : decode cX8_cursor 182 = .ok (.iload 5, 2) := by decide +kernel
theorem dX8_cursor_184 : decode cX8_cursor 184 = .ok (.ifCond .eq 20, 3) := by decide +kernel
theorem dX8_cursor_187 : decode cX8_cursor 187 = .ok (.aload_n 0, 1) := by decide +kernel
theorem dX8_cursor_188 : decode cX8_cursor 188 = .ok (.aload_n 0, 1) := by decide +kernel
theorem dX8_cursor_189 : decode cX8_cursor 189 = .ok (.getfield 7, 3) := by decide +kernel
theorem dX8_cursor_192 : decode cX8_cursor 192 = .ok (.iconst 0, 1) := by decide +kernel
theorem dX8_cursor_193 : decode cX8_cursor 193 = .ok (.iaload, 1) := by decide +kernel
theorem dX8_cursor_194 : decode cX8_cursor 194 = .ok (.i2l, 1) := by decide +kernel
theorem dX8_cursor_195 : decode cX8_cursor 195 = .ok (.lload 9, 2) := by decide +kernel
theorem dX8_cursor_197 : decode cX8_cursor 197 = .ok (.ladd, 1) := by decide +kernel
theorem dX8_cursor_198 : decode cX8_cursor 198 = .ok (.invokevirtual 77, 3) := by decide +kernel
theorem dX8_cursor_201 : decode cX8_cursor 201 = .ok (.goto 17, 3) := by decide +kernel
theorem dX8_cursor_204 : decode cX8_cursor 204 = .ok (.aload_n 0, 1) := by decide +kernel
theorem dX8_cursor_205 : decode cX8_cursor 205 = .ok (.aload_n 0, 1) := by decide +kernel
theorem dX8_cursor_206 : decode cX8_cursor 206 = .ok (.getfield 7, 3) := by decide +kernel
theorem dX8_cursor_209 : decode cX8_cursor 209 = .ok (.iconst 1, 1) := by decide +kernel
theorem dX8_cursor_210 : decode cX8_cursor 210 = .ok (.iaload, 1) := by decide +kernel
theorem dX8_cursor_211 : decode cX8_cursor 211 = .ok (.i2l, 1) := by decide +kernel
theorem dX8_cursor_212 : decode cX8_cursor 212 = .ok (.lload 9, 2) := by decide +kernel
theorem dX8_cursor_214 : decode cX8_cursor 214 = .ok (.ladd, 1) := by decide +kernel
theorem dX8_cursor_215 : decode cX8_cursor 215 = .ok (.invokevirtual 85, 3) := by decide +kernel
theorem dX8_cursor_218 : decode cX8_cursor 218 = .ok (.goto 56, 3) := by decide +kernel
theorem dX8_cursor_221 : decode cX8_cursor 221 = .ok (.iload 5, 2) := by decide +kernel
theorem dX8_cursor_223 : decode cX8_cursor 223 = .ok (.ifCond .eq 18, 3) := by decide +kernel
theorem dX8_cursor_226 : decode cX8_cursor 226 = .ok (.aload_n 0, 1) := by decide +kernel
theorem dX8_cursor_227 : decode cX8_cursor 227 = .ok (.lload_n 3, 1) := by decide +kernel
theorem dX8_cursor_228 : decode cX8_cursor 228 = .ok (.lload 7, 2) := by decide +kernel
theorem dX8_cursor_230 : decode cX8_cursor 230 = .ok (.lmul, 1) := by decide +kernel
theorem dX8_cursor_231 : decode cX8_cursor 231 = .ok (.ldc2_w 221, 3) := by decide +kernel
theorem dX8_cursor_234 : decode cX8_cursor 234 = .ok (.ldiv, 1) := by decide +kernel
theorem dX8_cursor_235 : decode cX8_cursor 235 = .ok (.invokevirtual 77, 3) := by decide +kernel
theorem dX8_cursor_238 : decode cX8_cursor 238 = .ok (.goto 36, 3) := by decide +kernel
theorem dX8_cursor_241 : decode cX8_cursor 241 = .ok (.aload_n 0, 1) := by decide +kernel
theorem dX8_cursor_242 : decode cX8_cursor 242 = .ok (.iload_n 1, 1) := by decide +kernel
theorem dX8_cursor_243 : decode cX8_cursor 243 = .ok (.bipush 82, 2) := by decide +kernel
theorem dX8_cursor_245 : decode cX8_cursor 245 = .ok (.if_icmp .ne 10, 3) := by decide +kernel
theorem dX8_cursor_248 : decode cX8_cursor 248 = .ok (.aload_n 0, 1) := by decide +kernel
theorem dX8_cursor_249 : decode cX8_cursor 249 = .ok (.invokevirtual 81, 3) := by decide +kernel
theorem dX8_cursor_252 : decode cX8_cursor 252 = .ok (.goto 9, 3) := by decide +kernel
theorem dX8_cursor_255 : decode cX8_cursor 255 = .ok (.aload_n 0, 1) := by decide +kernel
theorem dX8_cursor_256 : decode cX8_cursor 256 = .ok (.getfield 7, 3) := by decide +kernel
theorem dX8_cursor_259 : decode cX8_cursor 259 = .ok (.iconst 4, 1) := by decide +kernel
theorem dX8_cursor_260 : decode cX8_cursor 260 = .ok (.iaload, 1) := by decide +kernel
theorem dX8_cursor_261 : decode cX8_cursor 261 = .ok (.i2l, 1) := by decide +kernel
theorem dX8_cursor_262 : decode cX8_cursor 262 = .ok (.lload_n 3, 1) := by decide +kernel
theorem dX8_cursor_263 : decode cX8_cursor 263 = .ok (.lload 7, 2) := by decide +kernel
theorem dX8_cursor_265 : decode cX8_cursor 265 = .ok (.lmul, 1) := by decide +kernel
theorem dX8_cursor_266 : decode cX8_cursor 266 = .ok (.ldc2_w 221, 3) := by decide +kernel
theorem dX8_cursor_269 : decode cX8_cursor 269 = .ok (.ldiv, 1) := by decide +kernel
theorem dX8_cursor_270 : decode cX8_cursor 270 = .ok (.ladd, 1) := by decide +kernel
theorem dX8_cursor_271 : decode cX8_cursor 271 = .ok (.invokevirtual 85, 3) := by decide +kernel
theorem dX8_cursor_274 : decode cX8_cursor 274 = .ok (.iconst 1, 1) := by decide +kernel
theorem dX8_cursor_275 : decode cX8_cursor 275 = .ok (.ireturn, 1) := by decide +kernel
theorem dX8_divides_0 : decode cX8_divides 0 = .ok (.iload_n 0, 1) := by decide +kernel
theorem dX8_divides_1 : decode cX8_divides 1 = .ok (.iconst 1, 1) := by decide +kernel
theorem dX8_divides_2 : decode cX8_divides 2 = .ok (.if_icmp .eq 54, 3) := by decide +kernel
theorem dX8_divides_5 : decode cX8_divides 5 = .ok (.iload_n 0, 1) := by decide +kernel
theorem dX8_divides_6 : decode cX8_divides 6 = .ok (.iconst 2, 1) := by decide +kernel
theorem dX8_divides_7 : decode cX8_divides 7 = .ok (.if_icmp .eq 49, 3) := by decide +kernel
theorem dX8_divides_10 : decode cX8_divides 10 = .ok (.iload_n 0, 1) := by decide +kernel
theorem dX8_divides_11 : decode cX8_divides 11 = .ok (.iconst 3, 1) := by decide +kernel
theorem dX8_divides_12 : decode cX8_divides 12 = .ok (.if_icmp .eq 44, 3) := by decide +kernel
theorem dX8_divides_15 : decode cX8_divides 15 = .ok (.iload_n 0, 1) := by decide +kernel
theorem dX8_divides_16 : decode cX8_divides 16 = .ok (.iconst 4, 1) := by decide +kernel
theorem dX8_divides_17 : decode cX8_divides 17 = .ok (.if_icmp .eq 39, 3) := by decide +kernel
theorem dX8_divides_20 : decode cX8_divides 20 = .ok (.iload_n 0, 1) := by decide +kernel
theorem dX8_divides_21 : decode cX8_divides 21 = .ok (.bipush 6, 2) := by decide +kernel
theorem dX8_divides_23 : decode cX8_divides 23 = .ok (.if_icmp .eq 33, 3) := by decide +kernel
theorem dX8_divides_26 : decode cX8_divides 26 = .ok (.iload_n 0, 1) := by decide +kernel
theorem dX8_divides_27 : decode cX8_divides 27 = .ok (.bipush 8, 2) := by decide +kernel
theorem dX8_divides_29 : decode cX8_divides 29 = .ok (.if_icmp .eq 27, 3) := by decide +kernel
theorem dX8_divides_32 : decode cX8_divides 32 = .ok (.iload_n 0, 1) := by decide +kernel
theorem dX8_divides_33 : decode cX8_divides 33 = .ok (.bipush 12, 2) := by decide +kernel
theorem dX8_divides_35 : decode cX8_divides 35 = .ok (.if_icmp .eq 21, 3) := by decide +kernel
theorem dX8_divides_38 : decode cX8_divides 38 = .ok (.iload_n 0, 1) := by decide +kernel
theorem dX8_divides_39 : decode cX8_divides 39 = .ok (.bipush 16, 2) := by decide +kernel
theorem dX8_divides_41 : decode cX8_divides 41 = .ok (.if_icmp .eq 15, 3) := by decide +kernel
theorem dX8_divides_44 : decode cX8_divides 44 = .ok (.iload_n 0, 1) := by decide +kernel
theorem dX8_divides_45 : decode cX8_divides 45 = .ok (.bipush 24, 2) := by decide +kernel
theorem dX8_divides_47 : decode cX8_divides 47 = .ok (.if_icmp .eq 9, 3) := by decide +kernel
theorem dX8_divides_50 : decode cX8_divides 50 = .ok (.iload_n 0, 1) := by decide +kernel
theorem dX8_divides_51 : decode cX8_divides 51 = .ok (.bipush 48, 2) := by decide +kernel
theorem dX8_divides_53 : decode cX8_divides 53 = .ok (.if_icmp .ne 7, 3) := by decide +kernel
theorem dX8_divides_56 : decode cX8_divides 56 = .ok (.iconst 1, 1) := by decide +kernel
theorem dX8_divides_57 : decode cX8_divides 57 = .ok (.goto 4, 3) := by decide +kernel
theorem dX8_divides_60 : decode cX8_divides 60 = .ok (.iconst 0, 1) := by decide +kernel
theorem dX8_divides_61 : decode cX8_divides 61 = .ok (.ireturn, 1) := by decide +kernel
theorem dX8_paging_0 : decode cX8_paging 0 = .ok (.iload_n 1, 1) := by decide +kernel
theorem dX8_paging_1 : decode cX8_paging 1 = .ok (.tableswitch 432 65 88 #[111, 432, 187, 234, 276, 358, 432, 432, 432, 432, 432, 405, 432, 432, 135, 432, 432, 432, 432, 432, 432, 432, 432, 157], 111) := by decide +kernel
theorem dX8_paging_112 : decode cX8_paging 112 = .ok (.iload 4, 2) := by decide +kernel
theorem dX8_paging_114 : decode cX8_paging 114 = .ok (.invokestatic 61, 3) := by decide +kernel
theorem dX8_paging_117 : decode cX8_paging 117 = .ok (.ifCond .le 17, 3) := by decide +kernel
theorem dX8_paging_120 : decode cX8_paging 120 = .ok (.aload_n 0, 1) := by decide +kernel
theorem dX8_paging_121 : decode cX8_paging 121 = .ok (.invokevirtual 122, 3) := by decide +kernel
theorem dX8_paging_124 : decode cX8_paging 124 = .ok (.aload_n 0, 1) := by decide +kernel
theorem dX8_paging_125 : decode cX8_paging 125 = .ok (.iload 4, 2) := by decide +kernel
theorem dX8_paging_127 : decode cX8_paging 127 = .ok (.putfield 54, 3) := by decide +kernel
theorem dX8_paging_130 : decode cX8_paging 130 = .ok (.aload_n 0, 1) := by decide +kernel
theorem dX8_paging_131 : decode cX8_paging 131 = .ok (.invokevirtual 91, 3) := by decide +kernel
theorem dX8_paging_134 : decode cX8_paging 134 = .ok (.iconst 1, 1) := by decide +kernel
theorem dX8_paging_135 : decode cX8_paging 135 = .ok (.ireturn, 1) := by decide +kernel
theorem dX8_paging_136 : decode cX8_paging 136 = .ok (.iload 4, 2) := by decide +kernel
theorem dX8_paging_138 : decode cX8_paging 138 = .ok (.iconst 4, 1) := by decide +kernel
theorem dX8_paging_139 : decode cX8_paging 139 = .ok (.if_icmp .ge 17, 3) := by decide +kernel
theorem dX8_paging_142 : decode cX8_paging 142 = .ok (.aload_n 0, 1) := by decide +kernel
theorem dX8_paging_143 : decode cX8_paging 143 = .ok (.invokevirtual 122, 3) := by decide +kernel
theorem dX8_paging_146 : decode cX8_paging 146 = .ok (.aload_n 0, 1) := by decide +kernel
theorem dX8_paging_147 : decode cX8_paging 147 = .ok (.iload 4, 2) := by decide +kernel
theorem dX8_paging_149 : decode cX8_paging 149 = .ok (.putfield 51, 3) := by decide +kernel
theorem dX8_paging_152 : decode cX8_paging 152 = .ok (.aload_n 0, 1) := by decide +kernel
theorem dX8_paging_153 : decode cX8_paging 153 = .ok (.invokevirtual 91, 3) := by decide +kernel
theorem dX8_paging_156 : decode cX8_paging 156 = .ok (.iconst 1, 1) := by decide +kernel
theorem dX8_paging_157 : decode cX8_paging 157 = .ok (.ireturn, 1) := by decide +kernel
theorem dX8_paging_158 : decode cX8_paging 158 = .ok (.aload_n 0, 1) := by decide +kernel
theorem dX8_paging_159 : decode cX8_paging 159 = .ok (.iload 4, 2) := by decide +kernel
theorem dX8_paging_161 : decode cX8_paging 161 = .ok (.iconst 1, 1) := by decide +kernel
theorem dX8_paging_162 : decode cX8_paging 162 = .ok (.if_icmp .ge 7, 3) := by decide +kernel
theorem dX8_paging_165 : decode cX8_paging 165 = .ok (.iconst 1, 1) := by decide +kernel
theorem dX8_paging_166 : decode cX8_paging 166 = .ok (.goto 17, 3) := by decide +kernel
theorem dX8_paging_169 : decode cX8_paging 169 = .ok (.iload 4, 2) := by decide +kernel
theorem dX8_paging_171 : decode cX8_paging 171 = .ok (.bipush 99, 2) := by decide +kernel
theorem dX8_paging_173 : decode cX8_paging 173 = .ok (.if_icmp .le 8, 3) := by decide +kernel
theorem dX8_paging_176 : decode cX8_paging 176 = .ok (.bipush 99, 2) := by decide +kernel
theorem dX8_paging_178 : decode cX8_paging 178 = .ok (.goto 5, 3) := by decide +kernel
theorem dX8_paging_181 : decode cX8_paging 181 = .ok (.iload 4, 2) := by decide +kernel
theorem dX8_paging_183 : decode cX8_paging 183 = .ok (.putfield 88, 3) := by decide +kernel
theorem dX8_paging_186 : decode cX8_paging 186 = .ok (.iconst 1, 1) := by decide +kernel
theorem dX8_paging_187 : decode cX8_paging 187 = .ok (.ireturn, 1) := by decide +kernel
theorem dX8_paging_188 : decode cX8_paging 188 = .ok (.aload_n 0, 1) := by decide +kernel
theorem dX8_paging_189 : decode cX8_paging 189 = .ok (.getfield 7, 3) := by decide +kernel
theorem dX8_paging_192 : decode cX8_paging 192 = .ok (.bipush 7, 2) := by decide +kernel
theorem dX8_paging_194 : decode cX8_paging 194 = .ok (.ldc2_w 234, 3) := by decide +kernel
theorem dX8_paging_197 : decode cX8_paging 197 = .ok (.lload_n 2, 1) := by decide +kernel
theorem dX8_paging_198 : decode cX8_paging 198 = .ok (.lmul, 1) := by decide +kernel
theorem dX8_paging_199 : decode cX8_paging 199 = .ok (.ldc2_w 221, 3) := by decide +kernel
theorem dX8_paging_202 : decode cX8_paging 202 = .ok (.ldiv, 1) := by decide +kernel
theorem dX8_paging_203 : decode cX8_paging 203 = .ok (.aload_n 0, 1) := by decide +kernel
theorem dX8_paging_204 : decode cX8_paging 204 = .ok (.getfield 67, 3) := by decide +kernel
theorem dX8_paging_207 : decode cX8_paging 207 = .ok (.i2l, 1) := by decide +kernel
theorem dX8_paging_208 : decode cX8_paging 208 = .ok (.lcmp, 1) := by decide +kernel
theorem dX8_paging_209 : decode cX8_paging 209 = .ok (.ifCond .gt 16, 3) := by decide +kernel
theorem dX8_paging_212 : decode cX8_paging 212 = .ok (.ldc2_w 234, 3) := by decide +kernel
theorem dX8_paging_215 : decode cX8_paging 215 = .ok (.lload_n 2, 1) := by decide +kernel
theorem dX8_paging_216 : decode cX8_paging 216 = .ok (.lmul, 1) := by decide +kernel
theorem dX8_paging_217 : decode cX8_paging 217 = .ok (.ldc2_w 221, 3) := by decide +kernel
theorem dX8_paging_220 : decode cX8_paging 220 = .ok (.ldiv, 1) := by decide +kernel
theorem dX8_paging_221 : decode cX8_paging 221 = .ok (.l2i, 1) := by decide +kernel
theorem dX8_paging_222 : decode cX8_paging 222 = .ok (.goto 10, 3) := by decide +kernel
theorem dX8_paging_225 : decode cX8_paging 225 = .ok (.aload_n 0, 1) := by decide +kernel
theorem dX8_paging_226 : decode cX8_paging 226 = .ok (.getfield 7, 3) := by decide +kernel
theorem dX8_paging_229 : decode cX8_paging 229 = .ok (.bipush 7, 2) := by decide +kernel
theorem dX8_paging_231 : decode cX8_paging 231 = .ok (.iaload, 1) := by decide +kernel
theorem dX8_paging_232 : decode cX8_paging 232 = .ok (.iastore, 1) := by decide +kernel
theorem dX8_paging_233 : decode cX8_paging 233 = .ok (.iconst 1, 1) := by decide +kernel
theorem dX8_paging_234 : decode cX8_paging 234 = .ok (.ireturn, 1) := by decide +kernel
theorem dX8_paging_235 : decode cX8_paging 235 = .ok (.aload_n 0, 1) := by decide +kernel
theorem dX8_paging_236 : decode cX8_paging 236 = .ok (.getfield 7, 3) := by decide +kernel
theorem dX8_paging_239 : decode cX8_paging 239 = .ok (.bipush 7, 2) := by decide +kernel
theorem dX8_paging_241 : decode cX8_paging 241 = .ok (.iload 4, 2) := by decide +kernel
theorem dX8_paging_243 : decode cX8_paging 243 = .ok (.invokestatic 236, 3) := by decide +kernel
theorem dX8_paging_246 : decode cX8_paging 246 = .ok (.ifCond .eq 21, 3) := by decide +kernel
theorem dX8_paging_249 : decode cX8_paging 249 = .ok (.sipush 7200, 3) := by decide +kernel
theorem dX8_paging_252 : decode cX8_paging 252 = .ok (.iload 4, 2) := by decide +kernel
theorem dX8_paging_254 : decode cX8_paging 254 = .ok (.ifCond .ne 7, 3) := by decide +kernel
theorem dX8_paging_257 : decode cX8_paging 257 = .ok (.iconst 1, 1) := by decide +kernel
theorem dX8_paging_258 : decode cX8_paging 258 = .ok (.goto 5, 3) := by decide +kernel
theorem dX8_paging_261 : decode cX8_paging 261 = .ok (.iload 4, 2) := by decide +kernel
theorem dX8_paging_263 : decode cX8_paging 263 = .ok (.idiv, 1) := by decide +kernel
theorem dX8_paging_264 : decode cX8_paging 264 = .ok (.goto 10, 3) := by decide +kernel
theorem dX8_paging_267 : decode cX8_paging 267 = .ok (.aload_n 0, 1) := by decide +kernel
theorem dX8_paging_268 : decode cX8_paging 268 = .ok (.getfield 7, 3) := by decide +kernel
theorem dX8_paging_271 : decode cX8_paging 271 = .ok (.bipush 7, 2) := by decide +kernel
theorem dX8_paging_273 : decode cX8_paging 273 = .ok (.iaload, 1) := by decide +kernel
theorem dX8_paging_274 : decode cX8_paging 274 = .ok (.iastore, 1) := by decide +kernel
theorem dX8_paging_275 : decode cX8_paging 275 = .ok (.iconst 1, 1) := by decide +kernel
theorem dX8_paging_276 : decode cX8_paging 276 = .ok (.ireturn, 1) := by decide +kernel
theorem dX8_paging_277 : decode cX8_paging 277 = .ok (.iload 4, 2) := by decide +kernel
theorem dX8_paging_279 : decode cX8_paging 279 = .ok (.i2l, 1) := by decide +kernel
theorem dX8_paging_280 : decode cX8_paging 280 = .ok (.aload_n 0, 1) := by decide +kernel
theorem dX8_paging_281 : decode cX8_paging 281 = .ok (.getfield 7, 3) := by decide +kernel
theorem dX8_paging_284 : decode cX8_paging 284 = .ok (.bipush 7, 2) := by decide +kernel
theorem dX8_paging_286 : decode cX8_paging 286 = .ok (.iaload, 1) := by decide +kernel
theorem dX8_paging_287 : decode cX8_paging 287 = .ok (.i2l, 1) := by decide +kernel
theorem dX8_paging_288 : decode cX8_paging 288 = .ok (.lmul, 1) := by decide +kernel
theorem dX8_paging_289 : decode cX8_paging 289 = .ok (.aload_n 0, 1) := by decide +kernel
theorem dX8_paging_290 : decode cX8_paging 290 = .ok (.getfield 67, 3) := by decide +kernel
theorem dX8_paging_293 : decode cX8_paging 293 = .ok (.i2l, 1) := by decide +kernel
theorem dX8_paging_294 : decode cX8_paging 294 = .ok (.lcmp, 1) := by decide +kernel
theorem dX8_paging_295 : decode cX8_paging 295 = .ok (.ifCond .gt 62, 3) := by decide +kernel
theorem dX8_paging_298 : decode cX8_paging 298 = .ok (.aload_n 0, 1) := by decide +kernel
theorem dX8_paging_299 : decode cX8_paging 299 = .ok (.getfield 7, 3) := by decide +kernel
theorem dX8_paging_302 : decode cX8_paging 302 = .ok (.iconst 4, 1) := by decide +kernel
theorem dX8_paging_303 : decode cX8_paging 303 = .ok (.iload 4, 2) := by decide +kernel
theorem dX8_paging_305 : decode cX8_paging 305 = .ok (.aload_n 0, 1) := by decide +kernel
theorem dX8_paging_306 : decode cX8_paging 306 = .ok (.getfield 7, 3) := by decide +kernel
theorem dX8_paging_309 : decode cX8_paging 309 = .ok (.bipush 7, 2) := by decide +kernel
theorem dX8_paging_311 : decode cX8_paging 311 = .ok (.iaload, 1) := by decide +kernel
theorem dX8_paging_312 : decode cX8_paging 312 = .ok (.imul, 1) := by decide +kernel
theorem dX8_paging_313 : decode cX8_paging 313 = .ok (.iastore, 1) := by decide +kernel
theorem dX8_paging_314 : decode cX8_paging 314 = .ok (.aload_n 0, 1) := by decide +kernel
theorem dX8_paging_315 : decode cX8_paging 315 = .ok (.getfield 7, 3) := by decide +kernel
theorem dX8_paging_318 : decode cX8_paging 318 = .ok (.iconst 5, 1) := by decide +kernel
theorem dX8_paging_319 : decode cX8_paging 319 = .ok (.aload_n 0, 1) := by decide +kernel
theorem dX8_paging_320 : decode cX8_paging 320 = .ok (.getfield 67, 3) := by decide +kernel
theorem dX8_paging_323 : decode cX8_paging 323 = .ok (.aload_n 0, 1) := by decide +kernel
theorem dX8_paging_324 : decode cX8_paging 324 = .ok (.getfield 7, 3) := by decide +kernel
theorem dX8_paging_327 : decode cX8_paging 327 = .ok (.iconst 4, 1) := by decide +kernel
theorem dX8_paging_328 : decode cX8_paging 328 = .ok (.iaload, 1) := by decide +kernel
theorem dX8_paging_329 : decode cX8_paging 329 = .ok (.isub, 1) := by decide +kernel
theorem dX8_paging_330 : decode cX8_paging 330 = .ok (.sipush 3600, 3) := by decide +kernel
theorem dX8_paging_333 : decode cX8_paging 333 = .ok (.isub, 1) := by decide +kernel
theorem dX8_paging_334 : decode cX8_paging 334 = .ok (.ifCond .ge 7, 3) := by decide +kernel
theorem dX8_paging_337 : decode cX8_paging 337 = .ok (.iconst 0, 1) := by decide +kernel
theorem dX8_paging_338 : decode cX8_paging 338 = .ok (.goto 18, 3) := by decide +kernel
theorem dX8_paging_341 : decode cX8_paging 341 = .ok (.aload_n 0, 1) := by decide +kernel
theorem dX8_paging_342 : decode cX8_paging 342 = .ok (.getfield 67, 3) := by decide +kernel
theorem dX8_paging_345 : decode cX8_paging 345 = .ok (.aload_n 0, 1) := by decide +kernel
theorem dX8_paging_346 : decode cX8_paging 346 = .ok (.getfield 7, 3) := by decide +kernel
theorem dX8_paging_349 : decode cX8_paging 349 = .ok (.iconst 4, 1) := by decide +kernel
theorem dX8_paging_350 : decode cX8_paging 350 = .ok (.iaload, 1) := by decide +kernel
theorem dX8_paging_351 : decode cX8_paging 351 = .ok (.isub, 1) := by decide +kernel
theorem dX8_paging_352 : decode cX8_paging 352 = .ok (.sipush 3600, 3) := by decide +kernel
theorem dX8_paging_355 : decode cX8_paging 355 = .ok (.isub, 1) := by decide +kernel
theorem dX8_paging_356 : decode cX8_paging 356 = .ok (.iastore, 1) := by decide +kernel
theorem dX8_paging_357 : decode cX8_paging 357 = .ok (.iconst 1, 1) := by decide +kernel
theorem dX8_paging_358 : decode cX8_paging 358 = .ok (.ireturn, 1) := by decide +kernel
theorem dX8_paging_359 : decode cX8_paging 359 = .ok (.aload_n 0, 1) := by decide +kernel
theorem dX8_paging_360 : decode cX8_paging 360 = .ok (.getfield 7, 3) := by decide +kernel
theorem dX8_paging_363 : decode cX8_paging 363 = .ok (.iconst 4, 1) := by decide +kernel
theorem dX8_paging_364 : decode cX8_paging 364 = .ok (.iaload, 1) := by decide +kernel
theorem dX8_paging_365 : decode cX8_paging 365 = .ok (.i2l, 1) := by decide +kernel
theorem dX8_paging_366 : decode cX8_paging 366 = .ok (.iload 4, 2) := by decide +kernel
theorem dX8_paging_368 : decode cX8_paging 368 = .ok (.i2l, 1) := by decide +kernel
theorem dX8_paging_369 : decode cX8_paging 369 = .ok (.aload_n 0, 1) := by decide +kernel
theorem dX8_paging_370 : decode cX8_paging 370 = .ok (.getfield 7, 3) := by decide +kernel
theorem dX8_paging_373 : decode cX8_paging 373 = .ok (.bipush 7, 2) := by decide +kernel
theorem dX8_paging_375 : decode cX8_paging 375 = .ok (.iaload, 1) := by decide +kernel
theorem dX8_paging_376 : decode cX8_paging 376 = .ok (.i2l, 1) := by decide +kernel
theorem dX8_paging_377 : decode cX8_paging 377 = .ok (.lmul, 1) := by decide +kernel
theorem dX8_paging_378 : decode cX8_paging 378 = .ok (.ladd, 1) := by decide +kernel
theorem dX8_paging_379 : decode cX8_paging 379 = .ok (.aload_n 0, 1) := by decide +kernel
theorem dX8_paging_380 : decode cX8_paging 380 = .ok (.getfield 67, 3) := by decide +kernel
theorem dX8_paging_383 : decode cX8_paging 383 = .ok (.i2l, 1) := by decide +kernel
theorem dX8_paging_384 : decode cX8_paging 384 = .ok (.lcmp, 1) := by decide +kernel
theorem dX8_paging_385 : decode cX8_paging 385 = .ok (.ifCond .gt 19, 3) := by decide +kernel
theorem dX8_paging_388 : decode cX8_paging 388 = .ok (.aload_n 0, 1) := by decide +kernel
theorem dX8_paging_389 : decode cX8_paging 389 = .ok (.getfield 7, 3) := by decide +kernel
theorem dX8_paging_392 : decode cX8_paging 392 = .ok (.iconst 5, 1) := by decide +kernel
theorem dX8_paging_393 : decode cX8_paging 393 = .ok (.iload 4, 2) := by decide +kernel
theorem dX8_paging_395 : decode cX8_paging 395 = .ok (.aload_n 0, 1) := by decide +kernel
theorem dX8_paging_396 : decode cX8_paging 396 = .ok (.getfield 7, 3) := by decide +kernel
theorem dX8_paging_399 : decode cX8_paging 399 = .ok (.bipush 7, 2) := by decide +kernel
theorem dX8_paging_401 : decode cX8_paging 401 = .ok (.iaload, 1) := by decide +kernel
theorem dX8_paging_402 : decode cX8_paging 402 = .ok (.imul, 1) := by decide +kernel
theorem dX8_paging_403 : decode cX8_paging 403 = .ok (.iastore, 1) := by decide +kernel
theorem dX8_paging_404 : decode cX8_paging 404 = .ok (.iconst 1, 1) := by decide +kernel
theorem dX8_paging_405 : decode cX8_paging 405 = .ok (.ireturn, 1) := by decide +kernel
theorem dX8_paging_406 : decode cX8_paging 406 = .ok (.aload_n 0, 1) := by decide +kernel
theorem dX8_paging_407 : decode cX8_paging 407 = .ok (.getfield 7, 3) := by decide +kernel
theorem dX8_paging_410 : decode cX8_paging 410 = .ok (.bipush 9, 2) := by decide +kernel
theorem dX8_paging_412 : decode cX8_paging 412 = .ok (.iload 4, 2) := by decide +kernel
theorem dX8_paging_414 : decode cX8_paging 414 = .ok (.iconst 2, 1) := by decide +kernel
theorem dX8_paging_415 : decode cX8_paging 415 = .ok (.if_icmp .ge 8, 3) := by decide +kernel
theorem dX8_paging_418 : decode cX8_paging 418 = .ok (.iload 4, 2) := by decide +kernel
theorem dX8_paging_420 : decode cX8_paging 420 = .ok (.goto 10, 3) := by decide +kernel
theorem dX8_paging_423 : decode cX8_paging 423 = .ok (.aload_n 0, 1) := by decide +kernel
theorem dX8_paging_424 : decode cX8_paging 424 = .ok (.getfield 7, 3) := by decide +kernel
theorem dX8_paging_427 : decode cX8_paging 427 = .ok (.bipush 9, 2) := by decide +kernel
theorem dX8_paging_429 : decode cX8_paging 429 = .ok (.iaload, 1) := by decide +kernel
theorem dX8_paging_430 : decode cX8_paging 430 = .ok (.iastore, 1) := by decide +kernel
theorem dX8_paging_431 : decode cX8_paging 431 = .ok (.iconst 1, 1) := by decide +kernel
theorem dX8_paging_432 : decode cX8_paging 432 = .ok (.ireturn, 1) := by decide +kernel
theorem dX8_paging_433 : decode cX8_paging 433 = .ok (.iconst 0, 1) := by decide +kernel
theorem dX8_paging_434 : decode cX8_paging 434 = .ok (.ireturn, 1) := by decide +kernel
theorem dX8_advance_0 : decode cX8_advance 0 = .ok (.aload_n 0, 1) := by decide +kernel
theorem dX8_advance_1 : decode cX8_advance 1 = .ok (.iconst 0, 1) := by decide +kernel
theorem dX8_advance_2 : decode cX8_advance 2 = .ok (.putfield 39, 3) := by decide +kernel
theorem dX8_advance_5 : decode cX8_advance 5 = .ok (.iload_n 1, 1) := by decide +kernel
theorem dX8_advance_6 : decode cX8_advance 6 = .ok (.ifCond .lt 31, 3) := by decide +kernel
theorem dX8_advance_9 : decode cX8_advance 9 = .ok (.iload_n 1, 1) := by decide +kernel
theorem dX8_advance_10 : decode cX8_advance 10 = .ok (.iconst 1, 1) := by decide +kernel
theorem dX8_advance_11 : decode cX8_advance 11 = .ok (.if_icmp .gt 26, 3) := by decide +kernel
theorem dX8_advance_14 : decode cX8_advance 14 = .ok (.iload_n 2, 1) := by decide +kernel
theorem dX8_advance_15 : decode cX8_advance 15 = .ok (.ifCond .lt 22, 3) := by decide +kernel
theorem dX8_advance_18 : decode cX8_advance 18 = .ok (.iload_n 2, 1) := by decide +kernel
theorem dX8_advance_19 : decode cX8_advance 19 = .ok (.sipush 255, 3) := by decide +kernel
theorem dX8_advance_22 : decode cX8_advance 22 = .ok (.if_icmp .gt 15, 3) := by decide +kernel
theorem dX8_advance_25 : decode cX8_advance 25 = .ok (.iload_n 3, 1) := by decide +kernel
theorem dX8_advance_26 : decode cX8_advance 26 = .ok (.iconst (-1), 1) := by decide +kernel
theorem dX8_advance_27 : decode cX8_advance 27 = .ok (.if_icmp .lt 10, 3) := by decide +kernel
theorem dX8_advance_30 : decode cX8_advance 30 = .ok (.iload_n 3, 1) := by decide +kernel
theorem dX8_advance_31 : decode cX8_advance 31 = .ok (.sipush 20000, 3) := by decide +kernel
theorem dX8_advance_34 : decode cX8_advance 34 = .ok (.if_icmp .le 5, 3) := by decide +kernel
theorem dX8_advance_37 : decode cX8_advance 37 = .ok (.iconst 0, 1) := by decide +kernel
theorem dX8_advance_38 : decode cX8_advance 38 = .ok (.ireturn, 1) := by decide +kernel
theorem dX8_advance_39 : decode cX8_advance 39 = .ok (.aload_n 0, 1) := by decide +kernel
theorem dX8_advance_40 : decode cX8_advance 40 = .ok (.getfield 20, 3) := by decide +kernel
theorem dX8_advance_43 : decode cX8_advance 43 = .ok (.sipush 256, 3) := by decide +kernel
theorem dX8_advance_46 : decode cX8_advance 46 = .ok (.iload_n 1, 1) := by decide +kernel
theorem dX8_advance_47 : decode cX8_advance 47 = .ok (.imul, 1) := by decide +kernel
theorem dX8_advance_48 : decode cX8_advance 48 = .ok (.iload_n 2, 1) := by decide +kernel
theorem dX8_advance_49 : decode cX8_advance 49 = .ok (.iadd, 1) := by decide +kernel
theorem dX8_advance_50 : decode cX8_advance 50 = .ok (.iload_n 3, 1) := by decide +kernel
theorem dX8_advance_51 : decode cX8_advance 51 = .ok (.iastore, 1) := by decide +kernel
theorem dX8_advance_52 : decode cX8_advance 52 = .ok (.iconst 1, 1) := by decide +kernel
theorem dX8_advance_53 : decode cX8_advance 53 = .ok (.ireturn, 1) := by decide +kernel
theorem dX8_move_0 : decode cX8_move 0 = .ok (.aload_n 0, 1) := by decide +kernel
theorem dX8_move_1 : decode cX8_move 1 = .ok (.iconst 0, 1) := by decide +kernel
theorem dX8_move_2 : decode cX8_move 2 = .ok (.putfield 39, 3) := by decide +kernel
theorem dX8_move_5 : decode cX8_move 5 = .ok (.aload_n 0, 1) := by decide +kernel
theorem dX8_move_6 : decode cX8_move 6 = .ok (.iload_n 1, 1) := by decide +kernel
theorem dX8_move_7 : decode cX8_move 7 = .ok (.i2l, 1) := by decide +kernel
theorem dX8_move_8 : decode cX8_move 8 = .ok (.invokevirtual 77, 3) := by decide +kernel
theorem dX8_move_11 : decode cX8_move 11 = .ok (.aload_n 0, 1) := by decide +kernel
theorem dX8_move_12 : decode cX8_move 12 = .ok (.iload_n 2, 1) := by decide +kernel
theorem dX8_move_13 : decode cX8_move 13 = .ok (.i2l, 1) := by decide +kernel
theorem dX8_move_14 : decode cX8_move 14 = .ok (.invokevirtual 85, 3) := by decide +kernel
theorem dX8_move_17 : decode cX8_move 17 = .ok (.return_, 1) := by decide +kernel
theorem dX8_due_0 : decode cX8_due 0 = .ok (.aload_n 0, 1) := by decide +kernel
theorem dX8_due_1 : decode cX8_due 1 = .ok (.iconst 0, 1) := by decide +kernel
theorem dX8_due_2 : decode cX8_due 2 = .ok (.putfield 39, 3) := by decide +kernel
theorem dX8_due_5 : decode cX8_due 5 = .ok (.aload_n 0, 1) := by decide +kernel
theorem dX8_due_6 : decode cX8_due 6 = .ok (.iconst 1, 1) := by decide +kernel
theorem dX8_due_7 : decode cX8_due 7 = .ok (.putfield 103, 3) := by decide +kernel
theorem dX8_due_10 : decode cX8_due 10 = .ok (.return_, 1) := by decide +kernel
theorem dX8_keep_0 : decode cX8_keep 0 = .ok (.aload_n 0, 1) := by decide +kernel
theorem dX8_keep_1 : decode cX8_keep 1 = .ok (.iconst 0, 1) := by decide +kernel
theorem dX8_keep_2 : decode cX8_keep 2 = .ok (.putfield 39, 3) := by decide +kernel
theorem dX8_keep_5 : decode cX8_keep 5 = .ok (.iload_n 1, 1) := by decide +kernel
theorem dX8_keep_6 : decode cX8_keep 6 = .ok (.ifCond .lt 8, 3) := by decide +kernel
theorem dX8_keep_9 : decode cX8_keep 9 = .ok (.iload_n 1, 1) := by decide +kernel
theorem dX8_keep_10 : decode cX8_keep 10 = .ok (.iconst 2, 1) := by decide +kernel
theorem dX8_keep_11 : decode cX8_keep 11 = .ok (.if_icmp .le 5, 3) := by decide +kernel
theorem dX8_keep_14 : decode cX8_keep 14 = .ok (.iconst 0, 1) := by decide +kernel
theorem dX8_keep_15 : decode cX8_keep 15 = .ok (.ireturn, 1) := by decide +kernel
theorem dX8_keep_16 : decode cX8_keep 16 = .ok (.iconst 0, 1) := by decide +kernel
theorem dX8_keep_17 : decode cX8_keep 17 = .ok (.istore_n 2, 1) := by decide +kernel
theorem dX8_keep_18 : decode cX8_keep 18 = .ok (.iload_n 2, 1) := by decide +kernel
theorem dX8_keep_19 : decode cX8_keep 19 = .ok (.bipush 53, 2) := by decide +kernel
theorem dX8_keep_21 : decode cX8_keep 21 = .ok (.if_icmp .ge 26, 3) := by decide +kernel
theorem dX8_keep_24 : decode cX8_keep 24 = .ok (.aload_n 0, 1) := by decide +kernel
theorem dX8_keep_25 : decode cX8_keep 25 = .ok (.getfield 13, 3) := by decide +kernel
theorem dX8_keep_28 : decode cX8_keep 28 = .ok (.bipush 53, 2) := by decide +kernel
theorem dX8_keep_30 : decode cX8_keep 30 = .ok (.iload_n 1, 1) := by decide +kernel
theorem dX8_keep_31 : decode cX8_keep 31 = .ok (.imul, 1) := by decide +kernel
theorem dX8_keep_32 : decode cX8_keep 32 = .ok (.iload_n 2, 1) := by decide +kernel
theorem dX8_keep_33 : decode cX8_keep 33 = .ok (.iadd, 1) := by decide +kernel
theorem dX8_keep_34 : decode cX8_keep 34 = .ok (.aload_n 0, 1) := by decide +kernel
theorem dX8_keep_35 : decode cX8_keep 35 = .ok (.getfield 7, 3) := by decide +kernel
theorem dX8_keep_38 : decode cX8_keep 38 = .ok (.iload_n 2, 1) := by decide +kernel
theorem dX8_keep_39 : decode cX8_keep 39 = .ok (.iaload, 1) := by decide +kernel
theorem dX8_keep_40 : decode cX8_keep 40 = .ok (.iastore, 1) := by decide +kernel
theorem dX8_keep_41 : decode cX8_keep 41 = .ok (.iinc 2 1, 3) := by decide +kernel
theorem dX8_keep_44 : decode cX8_keep 44 = .ok (.goto (-26), 3) := by decide +kernel
theorem dX8_keep_47 : decode cX8_keep 47 = .ok (.aload_n 0, 1) := by decide +kernel
theorem dX8_keep_48 : decode cX8_keep 48 = .ok (.getfield 16, 3) := by decide +kernel
theorem dX8_keep_51 : decode cX8_keep 51 = .ok (.iload_n 1, 1) := by decide +kernel
theorem dX8_keep_52 : decode cX8_keep 52 = .ok (.iconst 1, 1) := by decide +kernel
theorem dX8_keep_53 : decode cX8_keep 53 = .ok (.bastore, 1) := by decide +kernel
theorem dX8_keep_54 : decode cX8_keep 54 = .ok (.iconst 1, 1) := by decide +kernel
theorem dX8_keep_55 : decode cX8_keep 55 = .ok (.ireturn, 1) := by decide +kernel
theorem dX8_bring_0 : decode cX8_bring 0 = .ok (.aload_n 0, 1) := by decide +kernel
theorem dX8_bring_1 : decode cX8_bring 1 = .ok (.iconst 0, 1) := by decide +kernel
theorem dX8_bring_2 : decode cX8_bring 2 = .ok (.putfield 39, 3) := by decide +kernel
theorem dX8_bring_5 : decode cX8_bring 5 = .ok (.iload_n 1, 1) := by decide +kernel
theorem dX8_bring_6 : decode cX8_bring 6 = .ok (.ifCond .lt 30, 3) := by decide +kernel
theorem dX8_bring_9 : decode cX8_bring 9 = .ok (.iload_n 1, 1) := by decide +kernel
theorem dX8_bring_10 : decode cX8_bring 10 = .ok (.iconst 2, 1) := by decide +kernel
theorem dX8_bring_11 : decode cX8_bring 11 = .ok (.if_icmp .gt 25, 3) := by decide +kernel
theorem dX8_bring_14 : decode cX8_bring 14 = .ok (.aload_n 0, 1) := by decide +kernel
theorem dX8_bring_15 : decode cX8_bring 15 = .ok (.getfield 16, 3) := by decide +kernel
theorem dX8_bring_18 : decode cX8_bring 18 = .ok (.iload_n 1, 1) := by decide +kernel
theorem dX8_bring_19 : decode cX8_bring 19 = .ok (.ifCond .lt 8, 3) := by decide +kernel
theorem dX8_bring_22 : decode cX8_bring 22 = .ok (.iload_n 1, 1) := by decide +kernel
theorem dX8_bring_23 : decode cX8_bring 23 = .ok (.iconst 2, 1) := by decide +kernel
theorem dX8_bring_24 : decode cX8_bring 24 = .ok (.if_icmp .le 7, 3) := by decide +kernel
theorem dX8_bring_27 : decode cX8_bring 27 = .ok (.iconst 0, 1) := by decide +kernel
theorem dX8_bring_28 : decode cX8_bring 28 = .ok (.goto 4, 3) := by decide +kernel
theorem dX8_bring_31 : decode cX8_bring 31 = .ok (.iload_n 1, 1) := by decide +kernel
theorem dX8_bring_32 : decode cX8_bring 32 = .ok (.baload, 1) := by decide +kernel
theorem dX8_bring_33 : decode cX8_bring 33 = .ok (.ifCond .ne 5, 3) := by decide +kernel
theorem dX8_bring_36 : decode cX8_bring 36 = .ok (.iconst 0, 1) := by decide +kernel
theorem dX8_bring_37 : decode cX8_bring 37 = .ok (.ireturn, 1) := by decide +kernel
theorem dX8_bring_38 : decode cX8_bring 38 = .ok (.iconst 0, 1) := by decide +kernel
theorem dX8_bring_39 : decode cX8_bring 39 = .ok (.istore_n 2, 1) := by decide +kernel
theorem dX8_bring_40 : decode cX8_bring 40 = .ok (.iload_n 2, 1) := by decide +kernel
theorem dX8_bring_41 : decode cX8_bring 41 = .ok (.bipush 53, 2) := by decide +kernel
theorem dX8_bring_43 : decode cX8_bring 43 = .ok (.if_icmp .ge 26, 3) := by decide +kernel
theorem dX8_bring_46 : decode cX8_bring 46 = .ok (.aload_n 0, 1) := by decide +kernel
theorem dX8_bring_47 : decode cX8_bring 47 = .ok (.getfield 7, 3) := by decide +kernel
theorem dX8_bring_50 : decode cX8_bring 50 = .ok (.iload_n 2, 1) := by decide +kernel
theorem dX8_bring_51 : decode cX8_bring 51 = .ok (.aload_n 0, 1) := by decide +kernel
theorem dX8_bring_52 : decode cX8_bring 52 = .ok (.getfield 13, 3) := by decide +kernel
theorem dX8_bring_55 : decode cX8_bring 55 = .ok (.bipush 53, 2) := by decide +kernel
theorem dX8_bring_57 : decode cX8_bring 57 = .ok (.iload_n 1, 1) := by decide +kernel
theorem dX8_bring_58 : decode cX8_bring 58 = .ok (.imul, 1) := by decide +kernel
theorem dX8_bring_59 : decode cX8_bring 59 = .ok (.iload_n 2, 1) := by decide +kernel
theorem dX8_bring_60 : decode cX8_bring 60 = .ok (.iadd, 1) := by decide +kernel
theorem dX8_bring_61 : decode cX8_bring 61 = .ok (.iaload, 1) := by decide +kernel
theorem dX8_bring_62 : decode cX8_bring 62 = .ok (.iastore, 1) := by decide +kernel
theorem dX8_bring_63 : decode cX8_bring 63 = .ok (.iinc 2 1, 3) := by decide +kernel
theorem dX8_bring_66 : decode cX8_bring 66 = .ok (.goto (-26), 3) := by decide +kernel
theorem dX8_bring_69 : decode cX8_bring 69 = .ok (.aload_n 0, 1) := by decide +kernel
theorem dX8_bring_70 : decode cX8_bring 70 = .ok (.getfield 7, 3) := by decide +kernel
theorem dX8_bring_73 : decode cX8_bring 73 = .ok (.iconst 2, 1) := by decide +kernel
theorem dX8_bring_74 : decode cX8_bring 74 = .ok (.aload_n 0, 1) := by decide +kernel
theorem dX8_bring_75 : decode cX8_bring 75 = .ok (.getfield 7, 3) := by decide +kernel
theorem dX8_bring_78 : decode cX8_bring 78 = .ok (.iconst 2, 1) := by decide +kernel
theorem dX8_bring_79 : decode cX8_bring 79 = .ok (.iaload, 1) := by decide +kernel
theorem dX8_bring_80 : decode cX8_bring 80 = .ok (.i2l, 1) := by decide +kernel
theorem dX8_bring_81 : decode cX8_bring 81 = .ok (.aload_n 0, 1) := by decide +kernel
theorem dX8_bring_82 : decode cX8_bring 82 = .ok (.getfield 64, 3) := by decide +kernel
theorem dX8_bring_85 : decode cX8_bring 85 = .ok (.invokestatic 70, 3) := by decide +kernel
theorem dX8_bring_88 : decode cX8_bring 88 = .ok (.iastore, 1) := by decide +kernel
theorem dX8_bring_89 : decode cX8_bring 89 = .ok (.aload_n 0, 1) := by decide +kernel
theorem dX8_bring_90 : decode cX8_bring 90 = .ok (.getfield 7, 3) := by decide +kernel
theorem dX8_bring_93 : decode cX8_bring 93 = .ok (.iconst 3, 1) := by decide +kernel
theorem dX8_bring_94 : decode cX8_bring 94 = .ok (.aload_n 0, 1) := by decide +kernel
theorem dX8_bring_95 : decode cX8_bring 95 = .ok (.getfield 7, 3) := by decide +kernel
theorem dX8_bring_98 : decode cX8_bring 98 = .ok (.iconst 3, 1) := by decide +kernel
theorem dX8_bring_99 : decode cX8_bring 99 = .ok (.iaload, 1) := by decide +kernel
theorem dX8_bring_100 : decode cX8_bring 100 = .ok (.i2l, 1) := by decide +kernel
theorem dX8_bring_101 : decode cX8_bring 101 = .ok (.aload_n 0, 1) := by decide +kernel
theorem dX8_bring_102 : decode cX8_bring 102 = .ok (.getfield 64, 3) := by decide +kernel
theorem dX8_bring_105 : decode cX8_bring 105 = .ok (.invokestatic 70, 3) := by decide +kernel
theorem dX8_bring_108 : decode cX8_bring 108 = .ok (.iastore, 1) := by decide +kernel
theorem dX8_bring_109 : decode cX8_bring 109 = .ok (.aload_n 0, 1) := by decide +kernel
theorem dX8_bring_110 : decode cX8_bring 110 = .ok (.aload_n 0, 1) := by decide +kernel
theorem dX8_bring_111 : decode cX8_bring 111 = .ok (.getfield 7, 3) := by decide +kernel
theorem dX8_bring_114 : decode cX8_bring 114 = .ok (.iconst 0, 1) := by decide +kernel
theorem dX8_bring_115 : decode cX8_bring 115 = .ok (.iaload, 1) := by decide +kernel
theorem dX8_bring_116 : decode cX8_bring 116 = .ok (.i2l, 1) := by decide +kernel
theorem dX8_bring_117 : decode cX8_bring 117 = .ok (.invokevirtual 77, 3) := by decide +kernel
theorem dX8_bring_120 : decode cX8_bring 120 = .ok (.aload_n 0, 1) := by decide +kernel
theorem dX8_bring_121 : decode cX8_bring 121 = .ok (.aload_n 0, 1) := by decide +kernel
theorem dX8_bring_122 : decode cX8_bring 122 = .ok (.getfield 7, 3) := by decide +kernel
theorem dX8_bring_125 : decode cX8_bring 125 = .ok (.iconst 1, 1) := by decide +kernel
theorem dX8_bring_126 : decode cX8_bring 126 = .ok (.iaload, 1) := by decide +kernel
theorem dX8_bring_127 : decode cX8_bring 127 = .ok (.i2l, 1) := by decide +kernel
theorem dX8_bring_128 : decode cX8_bring 128 = .ok (.invokevirtual 85, 3) := by decide +kernel
theorem dX8_bring_131 : decode cX8_bring 131 = .ok (.iconst 1, 1) := by decide +kernel
theorem dX8_bring_132 : decode cX8_bring 132 = .ok (.ireturn, 1) := by decide +kernel
theorem dX8_glyph_0 : decode cX8_glyph 0 = .ok (.aload_n 0, 1) := by decide +kernel
theorem dX8_glyph_1 : decode cX8_glyph 1 = .ok (.iload_n 1, 1) := by decide +kernel
theorem dX8_glyph_2 : decode cX8_glyph 2 = .ok (.ifCond .lt 20, 3) := by decide +kernel
theorem dX8_glyph_5 : decode cX8_glyph 5 = .ok (.iload_n 1, 1) := by decide +kernel
theorem dX8_glyph_6 : decode cX8_glyph 6 = .ok (.aload_n 0, 1) := by decide +kernel
theorem dX8_glyph_7 : decode cX8_glyph 7 = .ok (.getfield 100, 3) := by decide +kernel
theorem dX8_glyph_10 : decode cX8_glyph 10 = .ok (.if_icmp .ge 12, 3) := by decide +kernel
theorem dX8_glyph_13 : decode cX8_glyph 13 = .ok (.iload_n 2, 1) := by decide +kernel
theorem dX8_glyph_14 : decode cX8_glyph 14 = .ok (.ifCond .lt 8, 3) := by decide +kernel
theorem dX8_glyph_17 : decode cX8_glyph 17 = .ok (.iload_n 2, 1) := by decide +kernel
theorem dX8_glyph_18 : decode cX8_glyph 18 = .ok (.iconst 3, 1) := by decide +kernel
theorem dX8_glyph_19 : decode cX8_glyph 19 = .ok (.if_icmp .le 7, 3) := by decide +kernel
theorem dX8_glyph_22 : decode cX8_glyph 22 = .ok (.iconst 1, 1) := by decide +kernel
theorem dX8_glyph_23 : decode cX8_glyph 23 = .ok (.goto 4, 3) := by decide +kernel
theorem dX8_glyph_26 : decode cX8_glyph 26 = .ok (.iconst 0, 1) := by decide +kernel
theorem dX8_glyph_27 : decode cX8_glyph 27 = .ok (.putfield 39, 3) := by decide +kernel
theorem dX8_glyph_30 : decode cX8_glyph 30 = .ok (.aload_n 0, 1) := by decide +kernel
theorem dX8_glyph_31 : decode cX8_glyph 31 = .ok (.getfield 39, 3) := by decide +kernel
theorem dX8_glyph_34 : decode cX8_glyph 34 = .ok (.ifCond .le 7, 3) := by decide +kernel
theorem dX8_glyph_37 : decode cX8_glyph 37 = .ok (.iconst 0, 1) := by decide +kernel
theorem dX8_glyph_38 : decode cX8_glyph 38 = .ok (.goto 13, 3) := by decide +kernel
theorem dX8_glyph_41 : decode cX8_glyph 41 = .ok (.aload_n 0, 1) := by decide +kernel
theorem dX8_glyph_42 : decode cX8_glyph 42 = .ok (.getfield 23, 3) := by decide +kernel
theorem dX8_glyph_45 : decode cX8_glyph 45 = .ok (.iconst 4, 1) := by decide +kernel
theorem dX8_glyph_46 : decode cX8_glyph 46 = .ok (.iload_n 1, 1) := by decide +kernel
theorem dX8_glyph_47 : decode cX8_glyph 47 = .ok (.imul, 1) := by decide +kernel
theorem dX8_glyph_48 : decode cX8_glyph 48 = .ok (.iload_n 2, 1) := by decide +kernel
theorem dX8_glyph_49 : decode cX8_glyph 49 = .ok (.iadd, 1) := by decide +kernel
theorem dX8_glyph_50 : decode cX8_glyph 50 = .ok (.iaload, 1) := by decide +kernel
theorem dX8_glyph_51 : decode cX8_glyph 51 = .ok (.ireturn, 1) := by decide +kernel
theorem dX8_page_0 : decode cX8_page 0 = .ok (.aload_n 0, 1) := by decide +kernel
theorem dX8_page_1 : decode cX8_page 1 = .ok (.iload_n 1, 1) := by decide +kernel
theorem dX8_page_2 : decode cX8_page 2 = .ok (.ifCond .lt 31, 3) := by decide +kernel
theorem dX8_page_5 : decode cX8_page 5 = .ok (.iload_n 1, 1) := by decide +kernel
theorem dX8_page_6 : decode cX8_page 6 = .ok (.aload_n 0, 1) := by decide +kernel
theorem dX8_page_7 : decode cX8_page 7 = .ok (.getfield 94, 3) := by decide +kernel
theorem dX8_page_10 : decode cX8_page 10 = .ok (.if_icmp .ge 23, 3) := by decide +kernel
theorem dX8_page_13 : decode cX8_page 13 = .ok (.iload_n 1, 1) := by decide +kernel
theorem dX8_page_14 : decode cX8_page 14 = .ok (.aload_n 0, 1) := by decide +kernel
theorem dX8_page_15 : decode cX8_page 15 = .ok (.getfield 94, 3) := by decide +kernel
theorem dX8_page_18 : decode cX8_page 18 = .ok (.bipush 40, 2) := by decide +kernel
theorem dX8_page_20 : decode cX8_page 20 = .ok (.isub, 1) := by decide +kernel
theorem dX8_page_21 : decode cX8_page 21 = .ok (.if_icmp .lt 12, 3) := by decide +kernel
theorem dX8_page_24 : decode cX8_page 24 = .ok (.iload_n 2, 1) := by decide +kernel
theorem dX8_page_25 : decode cX8_page 25 = .ok (.ifCond .lt 8, 3) := by decide +kernel
theorem dX8_page_28 : decode cX8_page 28 = .ok (.iload_n 2, 1) := by decide +kernel
theorem dX8_page_29 : decode cX8_page 29 = .ok (.iconst 3, 1) := by decide +kernel
theorem dX8_page_30 : decode cX8_page 30 = .ok (.if_icmp .le 7, 3) := by decide +kernel
theorem dX8_page_33 : decode cX8_page 33 = .ok (.iconst 1, 1) := by decide +kernel
theorem dX8_page_34 : decode cX8_page 34 = .ok (.goto 4, 3) := by decide +kernel
theorem dX8_page_37 : decode cX8_page 37 = .ok (.iconst 0, 1) := by decide +kernel
theorem dX8_page_38 : decode cX8_page 38 = .ok (.putfield 39, 3) := by decide +kernel
theorem dX8_page_41 : decode cX8_page 41 = .ok (.aload_n 0, 1) := by decide +kernel
theorem dX8_page_42 : decode cX8_page 42 = .ok (.getfield 39, 3) := by decide +kernel
theorem dX8_page_45 : decode cX8_page 45 = .ok (.ifCond .le 7, 3) := by decide +kernel
theorem dX8_page_48 : decode cX8_page 48 = .ok (.iconst 0, 1) := by decide +kernel
theorem dX8_page_49 : decode cX8_page 49 = .ok (.goto 16, 3) := by decide +kernel
theorem dX8_page_52 : decode cX8_page 52 = .ok (.aload_n 0, 1) := by decide +kernel
theorem dX8_page_53 : decode cX8_page 53 = .ok (.getfield 26, 3) := by decide +kernel
theorem dX8_page_56 : decode cX8_page 56 = .ok (.iconst 4, 1) := by decide +kernel
theorem dX8_page_57 : decode cX8_page 57 = .ok (.iload_n 1, 1) := by decide +kernel
theorem dX8_page_58 : decode cX8_page 58 = .ok (.bipush 40, 2) := by decide +kernel
theorem dX8_page_60 : decode cX8_page 60 = .ok (.irem, 1) := by decide +kernel
theorem dX8_page_61 : decode cX8_page 61 = .ok (.imul, 1) := by decide +kernel
theorem dX8_page_62 : decode cX8_page 62 = .ok (.iload_n 2, 1) := by decide +kernel
theorem dX8_page_63 : decode cX8_page 63 = .ok (.iadd, 1) := by decide +kernel
theorem dX8_page_64 : decode cX8_page 64 = .ok (.iaload, 1) := by decide +kernel
theorem dX8_page_65 : decode cX8_page 65 = .ok (.ireturn, 1) := by decide +kernel
theorem dX8_other_0 : decode cX8_other 0 = .ok (.aload_n 0, 1) := by decide +kernel
theorem dX8_other_1 : decode cX8_other 1 = .ok (.aload_n 0, 1) := by decide +kernel
theorem dX8_other_2 : decode cX8_other 2 = .ok (.getfield 182, 3) := by decide +kernel
theorem dX8_other_5 : decode cX8_other 5 = .ok (.ifCond .ne 7, 3) := by decide +kernel
theorem dX8_other_8 : decode cX8_other 8 = .ok (.iconst 1, 1) := by decide +kernel
theorem dX8_other_9 : decode cX8_other 9 = .ok (.goto 18, 3) := by decide +kernel
theorem dX8_other_12 : decode cX8_other 12 = .ok (.iload_n 1, 1) := by decide +kernel
theorem dX8_other_13 : decode cX8_other 13 = .ok (.ifCond .lt 9, 3) := by decide +kernel
theorem dX8_other_16 : decode cX8_other 16 = .ok (.iload_n 1, 1) := by decide +kernel
theorem dX8_other_17 : decode cX8_other 17 = .ok (.bipush 6, 2) := by decide +kernel
theorem dX8_other_19 : decode cX8_other 19 = .ok (.if_icmp .le 7, 3) := by decide +kernel
theorem dX8_other_22 : decode cX8_other 22 = .ok (.iconst 2, 1) := by decide +kernel
theorem dX8_other_23 : decode cX8_other 23 = .ok (.goto 4, 3) := by decide +kernel
theorem dX8_other_26 : decode cX8_other 26 = .ok (.iconst 0, 1) := by decide +kernel
theorem dX8_other_27 : decode cX8_other 27 = .ok (.putfield 39, 3) := by decide +kernel
theorem dX8_other_30 : decode cX8_other 30 = .ok (.aload_n 0, 1) := by decide +kernel
theorem dX8_other_31 : decode cX8_other 31 = .ok (.getfield 39, 3) := by decide +kernel
theorem dX8_other_34 : decode cX8_other 34 = .ok (.ifCond .le 7, 3) := by decide +kernel
theorem dX8_other_37 : decode cX8_other 37 = .ok (.iconst 0, 1) := by decide +kernel
theorem dX8_other_38 : decode cX8_other 38 = .ok (.goto 9, 3) := by decide +kernel
theorem dX8_other_41 : decode cX8_other 41 = .ok (.aload_n 0, 1) := by decide +kernel
theorem dX8_other_42 : decode cX8_other 42 = .ok (.getfield 29, 3) := by decide +kernel
theorem dX8_other_45 : decode cX8_other 45 = .ok (.iload_n 1, 1) := by decide +kernel
theorem dX8_other_46 : decode cX8_other 46 = .ok (.iaload, 1) := by decide +kernel
theorem dX8_other_47 : decode cX8_other 47 = .ok (.ireturn, 1) := by decide +kernel
theorem dX8_data_0 : decode cX8_data 0 = .ok (.aload_n 0, 1) := by decide +kernel
theorem dX8_data_1 : decode cX8_data 1 = .ok (.aload_n 0, 1) := by decide +kernel
theorem dX8_data_2 : decode cX8_data 2 = .ok (.getfield 182, 3) := by decide +kernel
theorem dX8_data_5 : decode cX8_data 5 = .ok (.ifCond .ne 7, 3) := by decide +kernel
theorem dX8_data_8 : decode cX8_data 8 = .ok (.iconst 1, 1) := by decide +kernel
theorem dX8_data_9 : decode cX8_data 9 = .ok (.goto 4, 3) := by decide +kernel
theorem dX8_data_12 : decode cX8_data 12 = .ok (.iconst 0, 1) := by decide +kernel
theorem dX8_data_13 : decode cX8_data 13 = .ok (.putfield 39, 3) := by decide +kernel
theorem dX8_data_16 : decode cX8_data 16 = .ok (.lconst 0, 1) := by decide +kernel
theorem dX8_data_17 : decode cX8_data 17 = .ok (.lstore_n 2, 1) := by decide +kernel
theorem dX8_data_18 : decode cX8_data 18 = .ok (.iconst 0, 1) := by decide +kernel
theorem dX8_data_19 : decode cX8_data 19 = .ok (.istore 4, 2) := by decide +kernel
theorem dX8_data_21 : decode cX8_data 21 = .ok (.iload 4, 2) := by decide +kernel
theorem dX8_data_23 : decode cX8_data 23 = .ok (.bipush 8, 2) := by decide +kernel
theorem dX8_data_25 : decode cX8_data 25 = .ok (.if_icmp .ge 91, 3) := by decide +kernel
theorem dX8_data_28 : decode cX8_data 28 = .ok (.aload_n 0, 1) := by decide +kernel
theorem dX8_data_29 : decode cX8_data 29 = .ok (.getfield 39, 3) := by decide +kernel
theorem dX8_data_32 : decode cX8_data 32 = .ok (.ifCond .ne 84, 3) := by decide +kernel
theorem dX8_data_35 : decode cX8_data 35 = .ok (.iload_n 1, 1) := by decide +kernel
theorem dX8_data_36 : decode cX8_data 36 = .ok (.ifCond .lt 30, 3) := by decide +kernel
theorem dX8_data_39 : decode cX8_data 39 = .ok (.iload_n 1, 1) := by decide +kernel
theorem dX8_data_40 : decode cX8_data 40 = .ok (.sipush 512, 3) := by decide +kernel
theorem dX8_data_43 : decode cX8_data 43 = .ok (.if_icmp .ge 23, 3) := by decide +kernel
theorem dX8_data_46 : decode cX8_data 46 = .ok (.bipush 8, 2) := by decide +kernel
theorem dX8_data_48 : decode cX8_data 48 = .ok (.iload_n 1, 1) := by decide +kernel
theorem dX8_data_49 : decode cX8_data 49 = .ok (.imul, 1) := by decide +kernel
theorem dX8_data_50 : decode cX8_data 50 = .ok (.iload 4, 2) := by decide +kernel
theorem dX8_data_52 : decode cX8_data 52 = .ok (.iadd, 1) := by decide +kernel
theorem dX8_data_53 : decode cX8_data 53 = .ok (.aload_n 0, 1) := by decide +kernel
theorem dX8_data_54 : decode cX8_data 54 = .ok (.getfield 29, 3) := by decide +kernel
theorem dX8_data_57 : decode cX8_data 57 = .ok (.iconst 5, 1) := by decide +kernel
theorem dX8_data_58 : decode cX8_data 58 = .ok (.iaload, 1) := by decide +kernel
theorem dX8_data_59 : decode cX8_data 59 = .ok (.if_icmp .ge 7, 3) := by decide +kernel
theorem dX8_data_62 : decode cX8_data 62 = .ok (.iconst 1, 1) := by decide +kernel
theorem dX8_data_63 : decode cX8_data 63 = .ok (.goto 4, 3) := by decide +kernel
theorem dX8_data_66 : decode cX8_data 66 = .ok (.iconst 0, 1) := by decide +kernel
theorem dX8_data_67 : decode cX8_data 67 = .ok (.istore 5, 2) := by decide +kernel
theorem dX8_data_69 : decode cX8_data 69 = .ok (.lload_n 2, 1) := by decide +kernel
theorem dX8_data_70 : decode cX8_data 70 = .ok (.bipush 8, 2) := by decide +kernel
theorem dX8_data_72 : decode cX8_data 72 = .ok (.lshl, 1) := by decide +kernel
theorem dX8_data_73 : decode cX8_data 73 = .ok (.iload 5, 2) := by decide +kernel
theorem dX8_data_75 : decode cX8_data 75 = .ok (.ifCond .eq 31, 3) := by decide +kernel
theorem dX8_data_78 : decode cX8_data 78 = .ok (.aload_n 0, 1) := by decide +kernel
theorem dX8_data_79 : decode cX8_data 79 = .ok (.getfield 32, 3) := by decide +kernel
theorem dX8_data_82 : decode cX8_data 82 = .ok (.iload 5, 2) := by decide +kernel
theorem dX8_data_84 : decode cX8_data 84 = .ok (.ifCond .eq 13, 3) := by decide +kernel
theorem dX8_data_87 : decode cX8_data 87 = .ok (.bipush 8, 2) := by decide +kernel
theorem dX8_data_89 : decode cX8_data 89 = .ok (.iload_n 1, 1) := by decide +kernel
theorem dX8_data_90 : decode cX8_data 90 = .ok (.imul, 1) := by decide +kernel
theorem dX8_data_91 : decode cX8_data 91 = .ok (.iload 4, 2) := by decide +kernel
theorem dX8_data_93 : decode cX8_data 93 = .ok (.iadd, 1) := by decide +kernel
theorem dX8_data_94 : decode cX8_data 94 = .ok (.goto 4, 3) := by decide +kernel
theorem dX8_data_97 : decode cX8_data 97 = .ok (.iconst 0, 1) := by decide +kernel
theorem dX8_data_98 : decode cX8_data 98 = .ok (.baload, 1) := by decide +kernel
theorem dX8_data_99 : decode cX8_data 99 = .ok (.sipush 255, 3) := by decide +kernel
theorem dX8_data_102 : decode cX8_data 102 = .ok (.iand, 1) := by decide +kernel
theorem dX8_data_103 : decode cX8_data 103 = .ok (.goto 4, 3) := by decide +kernel
theorem dX8_data_106 : decode cX8_data 106 = .ok (.iconst 0, 1) := by decide +kernel
theorem dX8_data_107 : decode cX8_data 107 = .ok (.i2l, 1) := by decide +kernel
theorem dX8_data_108 : decode cX8_data 108 = .ok (.lor, 1) := by decide +kernel
theorem dX8_data_109 : decode cX8_data 109 = .ok (.lstore_n 2, 1) := by decide +kernel
theorem dX8_data_110 : decode cX8_data 110 = .ok (.iinc 4 1, 3) := by decide +kernel
theorem dX8_data_113 : decode cX8_data 113 = .ok (.goto (-92), 3) := by decide +kernel
theorem dX8_data_116 : decode cX8_data 116 = .ok (.lload_n 2, 1) := by decide +kernel
theorem dX8_data_117 : decode cX8_data 117 = .ok (.lreturn, 1) := by decide +kernel
theorem dX8_take_0 : decode cX8_take 0 = .ok (.aload_n 0, 1) := by decide +kernel
theorem dX8_take_1 : decode cX8_take 1 = .ok (.iconst 0, 1) := by decide +kernel
theorem dX8_take_2 : decode cX8_take 2 = .ok (.putfield 39, 3) := by decide +kernel
theorem dX8_take_5 : decode cX8_take 5 = .ok (.aload_n 0, 1) := by decide +kernel
theorem dX8_take_6 : decode cX8_take 6 = .ok (.getfield 182, 3) := by decide +kernel
theorem dX8_take_9 : decode cX8_take 9 = .ok (.ifCond .eq 13, 3) := by decide +kernel
theorem dX8_take_12 : decode cX8_take 12 = .ok (.aload_n 0, 1) := by decide +kernel
theorem dX8_take_13 : decode cX8_take 13 = .ok (.getfield 29, 3) := by decide +kernel
theorem dX8_take_16 : decode cX8_take 16 = .ok (.bipush 6, 2) := by decide +kernel
theorem dX8_take_18 : decode cX8_take 18 = .ok (.iaload, 1) := by decide +kernel
theorem dX8_take_19 : decode cX8_take 19 = .ok (.ifCond .le 5, 3) := by decide +kernel
theorem dX8_take_22 : decode cX8_take 22 = .ok (.iconst 0, 1) := by decide +kernel
theorem dX8_take_23 : decode cX8_take 23 = .ok (.ireturn, 1) := by decide +kernel
theorem dX8_take_24 : decode cX8_take 24 = .ok (.aload_n 0, 1) := by decide +kernel
theorem dX8_take_25 : decode cX8_take 25 = .ok (.getfield 29, 3) := by decide +kernel
theorem dX8_take_28 : decode cX8_take 28 = .ok (.iconst 5, 1) := by decide +kernel
theorem dX8_take_29 : decode cX8_take 29 = .ok (.iaload, 1) := by decide +kernel
theorem dX8_take_30 : decode cX8_take 30 = .ok (.istore_n 1, 1) := by decide +kernel
theorem dX8_take_31 : decode cX8_take 31 = .ok (.iload_n 1, 1) := by decide +kernel
theorem dX8_take_32 : decode cX8_take 32 = .ok (.istore_n 2, 1) := by decide +kernel
theorem dX8_take_33 : decode cX8_take 33 = .ok (.iload_n 2, 1) := by decide +kernel
theorem dX8_take_34 : decode cX8_take 34 = .ok (.aload_n 0, 1) := by decide +kernel
theorem dX8_take_35 : decode cX8_take 35 = .ok (.getfield 188, 3) := by decide +kernel
theorem dX8_take_38 : decode cX8_take 38 = .ok (.if_icmp .ge 23, 3) := by decide +kernel
theorem dX8_take_41 : decode cX8_take 41 = .ok (.aload_n 0, 1) := by decide +kernel
theorem dX8_take_42 : decode cX8_take 42 = .ok (.getfield 32, 3) := by decide +kernel
theorem dX8_take_45 : decode cX8_take 45 = .ok (.iload_n 2, 1) := by decide +kernel
theorem dX8_take_46 : decode cX8_take 46 = .ok (.iload_n 1, 1) := by decide +kernel
theorem dX8_take_47 : decode cX8_take 47 = .ok (.isub, 1) := by decide +kernel
theorem dX8_take_48 : decode cX8_take 48 = .ok (.aload_n 0, 1) := by decide +kernel
theorem dX8_take_49 : decode cX8_take 49 = .ok (.getfield 32, 3) := by decide +kernel
theorem dX8_take_52 : decode cX8_take 52 = .ok (.iload_n 2, 1) := by decide +kernel
theorem dX8_take_53 : decode cX8_take 53 = .ok (.baload, 1) := by decide +kernel
theorem dX8_take_54 : decode cX8_take 54 = .ok (.bastore, 1) := by decide +kernel
theorem dX8_take_55 : decode cX8_take 55 = .ok (.iinc 2 1, 3) := by decide +kernel
theorem dX8_take_58 : decode cX8_take 58 = .ok (.goto (-25), 3) := by decide +kernel
theorem dX8_take_61 : decode cX8_take 61 = .ok (.aload_n 0, 1) := by decide +kernel
theorem dX8_take_62 : decode cX8_take 62 = .ok (.dup, 1) := by decide +kernel
theorem dX8_take_63 : decode cX8_take 63 = .ok (.getfield 188, 3) := by decide +kernel
theorem dX8_take_66 : decode cX8_take 66 = .ok (.iload_n 1, 1) := by decide +kernel
theorem dX8_take_67 : decode cX8_take 67 = .ok (.isub, 1) := by decide +kernel
theorem dX8_take_68 : decode cX8_take 68 = .ok (.putfield 188, 3) := by decide +kernel
theorem dX8_take_71 : decode cX8_take 71 = .ok (.aload_n 0, 1) := by decide +kernel
theorem dX8_take_72 : decode cX8_take 72 = .ok (.dup, 1) := by decide +kernel
theorem dX8_take_73 : decode cX8_take 73 = .ok (.getfield 182, 3) := by decide +kernel
theorem dX8_take_76 : decode cX8_take 76 = .ok (.iconst 1, 1) := by decide +kernel
theorem dX8_take_77 : decode cX8_take 77 = .ok (.isub, 1) := by decide +kernel
theorem dX8_take_78 : decode cX8_take 78 = .ok (.putfield 182, 3) := by decide +kernel
theorem dX8_take_81 : decode cX8_take 81 = .ok (.iconst 0, 1) := by decide +kernel
theorem dX8_take_82 : decode cX8_take 82 = .ok (.istore_n 2, 1) := by decide +kernel
theorem dX8_take_83 : decode cX8_take 83 = .ok (.iload_n 2, 1) := by decide +kernel
theorem dX8_take_84 : decode cX8_take 84 = .ok (.bipush 7, 2) := by decide +kernel
theorem dX8_take_86 : decode cX8_take 86 = .ok (.aload_n 0, 1) := by decide +kernel
theorem dX8_take_87 : decode cX8_take 87 = .ok (.getfield 182, 3) := by decide +kernel
theorem dX8_take_90 : decode cX8_take 90 = .ok (.imul, 1) := by decide +kernel
theorem dX8_take_91 : decode cX8_take 91 = .ok (.if_icmp .ge 24, 3) := by decide +kernel
theorem dX8_take_94 : decode cX8_take 94 = .ok (.aload_n 0, 1) := by decide +kernel
theorem dX8_take_95 : decode cX8_take 95 = .ok (.getfield 29, 3) := by decide +kernel
theorem dX8_take_98 : decode cX8_take 98 = .ok (.iload_n 2, 1) := by decide +kernel
theorem dX8_take_99 : decode cX8_take 99 = .ok (.aload_n 0, 1) := by decide +kernel
theorem dX8_take_100 : decode cX8_take 100 = .ok (.getfield 29, 3) := by decide +kernel
theorem dX8_take_103 : decode cX8_take 103 = .ok (.iload_n 2, 1) := by decide +kernel
theorem dX8_take_104 : decode cX8_take 104 = .ok (.bipush 7, 2) := by decide +kernel
theorem dX8_take_106 : decode cX8_take 106 = .ok (.iadd, 1) := by decide +kernel
theorem dX8_take_107 : decode cX8_take 107 = .ok (.iaload, 1) := by decide +kernel
theorem dX8_take_108 : decode cX8_take 108 = .ok (.iastore, 1) := by decide +kernel
theorem dX8_take_109 : decode cX8_take 109 = .ok (.iinc 2 1, 3) := by decide +kernel
theorem dX8_take_112 : decode cX8_take 112 = .ok (.goto (-29), 3) := by decide +kernel
theorem dX8_take_115 : decode cX8_take 115 = .ok (.iconst 1, 1) := by decide +kernel
theorem dX8_take_116 : decode cX8_take 116 = .ok (.ireturn, 1) := by decide +kernel
theorem dX8_place_0 : decode cX8_place 0 = .ok (.aload_n 0, 1) := by decide +kernel
theorem dX8_place_1 : decode cX8_place 1 = .ok (.iload_n 1, 1) := by decide +kernel
theorem dX8_place_2 : decode cX8_place 2 = .ok (.ifCond .lt 14, 3) := by decide +kernel
theorem dX8_place_5 : decode cX8_place 5 = .ok (.iload_n 1, 1) := by decide +kernel
theorem dX8_place_6 : decode cX8_place 6 = .ok (.aload_n 0, 1) := by decide +kernel
theorem dX8_place_7 : decode cX8_place 7 = .ok (.getfield 7, 3) := by decide +kernel
theorem dX8_place_10 : decode cX8_place 10 = .ok (.bipush 12, 2) := by decide +kernel
theorem dX8_place_12 : decode cX8_place 12 = .ok (.iaload, 1) := by decide +kernel
theorem dX8_place_13 : decode cX8_place 13 = .ok (.if_icmp .lt 7, 3) := by decide +kernel
theorem dX8_place_16 : decode cX8_place 16 = .ok (.iconst 1, 1) := by decide +kernel
theorem dX8_place_17 : decode cX8_place 17 = .ok (.goto 4, 3) := by decide +kernel
theorem dX8_place_20 : decode cX8_place 20 = .ok (.iconst 0, 1) := by decide +kernel
theorem dX8_place_21 : decode cX8_place 21 = .ok (.putfield 39, 3) := by decide +kernel
theorem dX8_place_24 : decode cX8_place 24 = .ok (.aload_n 0, 1) := by decide +kernel
theorem dX8_place_25 : decode cX8_place 25 = .ok (.getfield 39, 3) := by decide +kernel
theorem dX8_place_28 : decode cX8_place 28 = .ok (.ifCond .le 7, 3) := by decide +kernel
theorem dX8_place_31 : decode cX8_place 31 = .ok (.iconst 0, 1) := by decide +kernel
theorem dX8_place_32 : decode cX8_place 32 = .ok (.goto 24, 3) := by decide +kernel
theorem dX8_place_35 : decode cX8_place 35 = .ok (.aload_n 0, 1) := by decide +kernel
theorem dX8_place_36 : decode cX8_place 36 = .ok (.getfield 7, 3) := by decide +kernel
theorem dX8_place_39 : decode cX8_place 39 = .ok (.bipush 13, 2) := by decide +kernel
theorem dX8_place_41 : decode cX8_place 41 = .ok (.iconst 2, 1) := by decide +kernel
theorem dX8_place_42 : decode cX8_place 42 = .ok (.iload_n 1, 1) := by decide +kernel
theorem dX8_place_43 : decode cX8_place 43 = .ok (.imul, 1) := by decide +kernel
theorem dX8_place_44 : decode cX8_place 44 = .ok (.iadd, 1) := by decide +kernel
theorem dX8_place_45 : decode cX8_place 45 = .ok (.iload_n 2, 1) := by decide +kernel
theorem dX8_place_46 : decode cX8_place 46 = .ok (.ifCond .eq 7, 3) := by decide +kernel
theorem dX8_place_49 : decode cX8_place 49 = .ok (.iconst 1, 1) := by decide +kernel
theorem dX8_place_50 : decode cX8_place 50 = .ok (.goto 4, 3) := by decide +kernel
theorem dX8_place_53 : decode cX8_place 53 = .ok (.iconst 0, 1) := by decide +kernel
theorem dX8_place_54 : decode cX8_place 54 = .ok (.iadd, 1) := by decide +kernel
theorem dX8_place_55 : decode cX8_place 55 = .ok (.iaload, 1) := by decide +kernel
theorem dX8_place_56 : decode cX8_place 56 = .ok (.ireturn, 1) := by decide +kernel
theorem dX8_look_0 : decode cX8_look 0 = .ok (.aload_n 0, 1) := by decide +kernel
theorem dX8_look_1 : decode cX8_look 1 = .ok (.iconst 0, 1) := by decide +kernel
theorem dX8_look_2 : decode cX8_look 2 = .ok (.putfield 39, 3) := by decide +kernel
theorem dX8_look_5 : decode cX8_look 5 = .ok (.iload_n 1, 1) := by decide +kernel
theorem dX8_look_6 : decode cX8_look 6 = .ok (.ifCond .lt 16, 3) := by decide +kernel
theorem dX8_look_9 : decode cX8_look 9 = .ok (.iload_n 1, 1) := by decide +kernel
theorem dX8_look_10 : decode cX8_look 10 = .ok (.bipush 8, 2) := by decide +kernel
theorem dX8_look_12 : decode cX8_look 12 = .ok (.if_icmp .ge 10, 3) := by decide +kernel
theorem dX8_look_15 : decode cX8_look 15 = .ok (.aload_n 0, 1) := by decide +kernel
theorem dX8_look_16 : decode cX8_look 16 = .ok (.getfield 7, 3) := by decide +kernel
theorem dX8_look_19 : decode cX8_look 19 = .ok (.iload_n 1, 1) := by decide +kernel
theorem dX8_look_20 : decode cX8_look 20 = .ok (.iaload, 1) := by decide +kernel
theorem dX8_look_21 : decode cX8_look 21 = .ok (.ireturn, 1) := by decide +kernel
theorem dX8_look_22 : decode cX8_look 22 = .ok (.iload_n 1, 1) := by decide +kernel
theorem dX8_look_23 : decode cX8_look 23 = .ok (.tableswitch 201 8 24 #[81, 86, 91, 96, 101, 101, 101, 110, 115, 123, 131, 136, 153, 158, 163, 168, 181], 81) := by decide +kernel
theorem dX8_look_104 : decode cX8_look 104 = .ok (.aload_n 0, 1) := by decide +kernel
theorem dX8_look_105 : decode cX8_look 105 = .ok (.getfield 64, 3) := by decide +kernel
theorem dX8_look_108 : decode cX8_look 108 = .ok (.ireturn, 1) := by decide +kernel
theorem dX8_look_109 : decode cX8_look 109 = .ok (.aload_n 0, 1) := by decide +kernel
theorem dX8_look_110 : decode cX8_look 110 = .ok (.getfield 67, 3) := by decide +kernel
theorem dX8_look_113 : decode cX8_look 113 = .ok (.ireturn, 1) := by decide +kernel
theorem dX8_look_114 : decode cX8_look 114 = .ok (.aload_n 0, 1) := by decide +kernel
theorem dX8_look_115 : decode cX8_look 115 = .ok (.getfield 54, 3) := by decide +kernel
theorem dX8_look_118 : decode cX8_look 118 = .ok (.ireturn, 1) := by decide +kernel
theorem dX8_look_119 : decode cX8_look 119 = .ok (.aload_n 0, 1) := by decide +kernel
theorem dX8_look_120 : decode cX8_look 120 = .ok (.getfield 51, 3) := by decide +kernel
theorem dX8_look_123 : decode cX8_look 123 = .ok (.ireturn, 1) := by decide +kernel
theorem dX8_look_124 : decode cX8_look 124 = .ok (.aload_n 0, 1) := by decide +kernel
theorem dX8_look_125 : decode cX8_look 125 = .ok (.getfield 7, 3) := by decide +kernel
theorem dX8_look_128 : decode cX8_look 128 = .ok (.iload_n 1, 1) := by decide +kernel
theorem dX8_look_129 : decode cX8_look 129 = .ok (.iconst 4, 1) := by decide +kernel
theorem dX8_look_130 : decode cX8_look 130 = .ok (.isub, 1) := by decide +kernel
theorem dX8_look_131 : decode cX8_look 131 = .ok (.iaload, 1) := by decide +kernel
theorem dX8_look_132 : decode cX8_look 132 = .ok (.ireturn, 1) := by decide +kernel
theorem dX8_look_133 : decode cX8_look 133 = .ok (.aload_n 0, 1) := by decide +kernel
theorem dX8_look_134 : decode cX8_look 134 = .ok (.getfield 88, 3) := by decide +kernel
theorem dX8_look_137 : decode cX8_look 137 = .ok (.ireturn, 1) := by decide +kernel
theorem dX8_look_138 : decode cX8_look 138 = .ok (.aload_n 0, 1) := by decide +kernel
theorem dX8_look_139 : decode cX8_look 139 = .ok (.getfield 7, 3) := by decide +kernel
theorem dX8_look_142 : decode cX8_look 142 = .ok (.bipush 11, 2) := by decide +kernel
theorem dX8_look_144 : decode cX8_look 144 = .ok (.iaload, 1) := by decide +kernel
theorem dX8_look_145 : decode cX8_look 145 = .ok (.ireturn, 1) := by decide +kernel
theorem dX8_look_146 : decode cX8_look 146 = .ok (.aload_n 0, 1) := by decide +kernel
theorem dX8_look_147 : decode cX8_look 147 = .ok (.getfield 7, 3) := by decide +kernel
theorem dX8_look_150 : decode cX8_look 150 = .ok (.bipush 12, 2) := by decide +kernel
theorem dX8_look_152 : decode cX8_look 152 = .ok (.iaload, 1) := by decide +kernel
theorem dX8_look_153 : decode cX8_look 153 = .ok (.ireturn, 1) := by decide +kernel
theorem dX8_look_154 : decode cX8_look 154 = .ok (.aload_n 0, 1) := by decide +kernel
theorem dX8_look_155 : decode cX8_look 155 = .ok (.getfield 100, 3) := by decide +kernel
theorem dX8_look_158 : decode cX8_look 158 = .ok (.ireturn, 1) := by decide +kernel
theorem dX8_look_159 : decode cX8_look 159 = .ok (.aload_n 0, 1) := by decide +kernel
theorem dX8_look_160 : decode cX8_look 160 = .ok (.getfield 97, 3) := by decide +kernel
theorem dX8_look_163 : decode cX8_look 163 = .ok (.aload_n 0, 1) := by decide +kernel
theorem dX8_look_164 : decode cX8_look 164 = .ok (.getfield 100, 3) := by decide +kernel
theorem dX8_look_167 : decode cX8_look 167 = .ok (.if_icmp .le 7, 3) := by decide +kernel
theorem dX8_look_170 : decode cX8_look 170 = .ok (.iconst 1, 1) := by decide +kernel
theorem dX8_look_171 : decode cX8_look 171 = .ok (.goto 4, 3) := by decide +kernel
theorem dX8_look_174 : decode cX8_look 174 = .ok (.iconst 0, 1) := by decide +kernel
theorem dX8_look_175 : decode cX8_look 175 = .ok (.ireturn, 1) := by decide +kernel
theorem dX8_look_176 : decode cX8_look 176 = .ok (.aload_n 0, 1) := by decide +kernel
theorem dX8_look_177 : decode cX8_look 177 = .ok (.getfield 94, 3) := by decide +kernel
theorem dX8_look_180 : decode cX8_look 180 = .ok (.ireturn, 1) := by decide +kernel
theorem dX8_look_181 : decode cX8_look 181 = .ok (.aload_n 0, 1) := by decide +kernel
theorem dX8_look_182 : decode cX8_look 182 = .ok (.getfield 182, 3) := by decide +kernel
theorem dX8_look_185 : decode cX8_look 185 = .ok (.ireturn, 1) := by decide +kernel
theorem dX8_look_186 : decode cX8_look 186 = .ok (.aload_n 0, 1) := by decide +kernel
theorem dX8_look_187 : decode cX8_look 187 = .ok (.getfield 191, 3) := by decide +kernel
theorem dX8_look_190 : decode cX8_look 190 = .ok (.ireturn, 1) := by decide +kernel
theorem dX8_look_191 : decode cX8_look 191 = .ok (.aload_n 0, 1) := by decide +kernel
theorem dX8_look_192 : decode cX8_look 192 = .ok (.getfield 143, 3) := by decide +kernel
theorem dX8_look_195 : decode cX8_look 195 = .ok (.ifCond .le 7, 3) := by decide +kernel
theorem dX8_look_198 : decode cX8_look 198 = .ok (.iconst 1, 1) := by decide +kernel
theorem dX8_look_199 : decode cX8_look 199 = .ok (.goto 4, 3) := by decide +kernel
theorem dX8_look_202 : decode cX8_look 202 = .ok (.iconst 0, 1) := by decide +kernel
theorem dX8_look_203 : decode cX8_look 203 = .ok (.ireturn, 1) := by decide +kernel
theorem dX8_look_204 : decode cX8_look 204 = .ok (.aload_n 0, 1) := by decide +kernel
theorem dX8_look_205 : decode cX8_look 205 = .ok (.getfield 97, 3) := by decide +kernel
theorem dX8_look_208 : decode cX8_look 208 = .ok (.ifCond .gt 10, 3) := by decide +kernel
theorem dX8_look_211 : decode cX8_look 211 = .ok (.aload_n 0, 1) := by decide +kernel
theorem dX8_look_212 : decode cX8_look 212 = .ok (.getfield 103, 3) := by decide +kernel
theorem dX8_look_215 : decode cX8_look 215 = .ok (.ifCond .eq 7, 3) := by decide +kernel
theorem dX8_look_218 : decode cX8_look 218 = .ok (.iconst 1, 1) := by decide +kernel
theorem dX8_look_219 : decode cX8_look 219 = .ok (.goto 4, 3) := by decide +kernel
theorem dX8_look_222 : decode cX8_look 222 = .ok (.iconst 0, 1) := by decide +kernel
theorem dX8_look_223 : decode cX8_look 223 = .ok (.ireturn, 1) := by decide +kernel
theorem dX8_look_224 : decode cX8_look 224 = .ok (.iconst (-1), 1) := by decide +kernel
theorem dX8_look_225 : decode cX8_look 225 = .ok (.ireturn, 1) := by decide +kernel
