theorem dX0_init_0 : decode cX0_init 0 = .ok (.aload_n 0, 1) := by decide +kernel
theorem dX0_init_1 : decode cX0_init 1 = .ok (.invokespecial 1, 3) := by decide +kernel
theorem dX0_init_4 : decode cX0_init 4 = .ok (.aload_n 0, 1) := by decide +kernel
theorem dX0_init_5 : decode cX0_init 5 = .ok (.sipush 160, 3) := by decide +kernel
theorem dX0_init_8 : decode cX0_init 8 = .ok (.newarray .int, 2) := by decide +kernel
theorem dX0_init_10 : decode cX0_init 10 = .ok (.putfield 9, 3) := by decide +kernel
theorem dX0_init_13 : decode cX0_init 13 = .ok (.return_, 1) := by decide +kernel
theorem dX0_add_0 : decode cX0_add 0 = .ok (.aload_n 0, 1) := by decide +kernel
theorem dX0_add_1 : decode cX0_add 1 = .ok (.getfield 13, 3) := by decide +kernel
theorem dX0_add_4 : decode cX0_add 4 = .ok (.bipush 40, 2) := by decide +kernel
theorem dX0_add_6 : decode cX0_add 6 = .ok (.invokestatic 17, 3) := by decide +kernel
theorem dX0_add_9 : decode cX0_add 9 = .ok (.iconst 4, 1) := by decide +kernel
theorem dX0_add_10 : decode cX0_add 10 = .ok (.imul, 1) := by decide +kernel
theorem dX0_add_11 : decode cX0_add 11 = .ok (.istore_n 3, 1) := by decide +kernel
theorem dX0_add_12 : decode cX0_add 12 = .ok (.aload_n 0, 1) := by decide +kernel
theorem dX0_add_13 : decode cX0_add 13 = .ok (.getfield 9, 3) := by decide +kernel
theorem dX0_add_16 : decode cX0_add 16 = .ok (.iload_n 3, 1) := by decide +kernel
theorem dX0_add_17 : decode cX0_add 17 = .ok (.iload_n 1, 1) := by decide +kernel
theorem dX0_add_18 : decode cX0_add 18 = .ok (.iastore, 1) := by decide +kernel
theorem dX0_add_19 : decode cX0_add 19 = .ok (.aload_n 0, 1) := by decide +kernel
theorem dX0_add_20 : decode cX0_add 20 = .ok (.getfield 9, 3) := by decide +kernel
theorem dX0_add_23 : decode cX0_add 23 = .ok (.iload_n 3, 1) := by decide +kernel
theorem dX0_add_24 : decode cX0_add 24 = .ok (.iconst 1, 1) := by decide +kernel
theorem dX0_add_25 : decode cX0_add 25 = .ok (.iadd, 1) := by decide +kernel
theorem dX0_add_26 : decode cX0_add 26 = .ok (.aload_n 2, 1) := by decide +kernel
theorem dX0_add_27 : decode cX0_add 27 = .ok (.getfield 23, 3) := by decide +kernel
theorem dX0_add_30 : decode cX0_add 30 = .ok (.iastore, 1) := by decide +kernel
theorem dX0_add_31 : decode cX0_add 31 = .ok (.aload_n 0, 1) := by decide +kernel
theorem dX0_add_32 : decode cX0_add 32 = .ok (.getfield 9, 3) := by decide +kernel
theorem dX0_add_35 : decode cX0_add 35 = .ok (.iload_n 3, 1) := by decide +kernel
theorem dX0_add_36 : decode cX0_add 36 = .ok (.iconst 2, 1) := by decide +kernel
theorem dX0_add_37 : decode cX0_add 37 = .ok (.iadd, 1) := by decide +kernel
theorem dX0_add_38 : decode cX0_add 38 = .ok (.aload_n 2, 1) := by decide +kernel
theorem dX0_add_39 : decode cX0_add 39 = .ok (.getfield 28, 3) := by decide +kernel
theorem dX0_add_42 : decode cX0_add 42 = .ok (.iastore, 1) := by decide +kernel
theorem dX0_add_43 : decode cX0_add 43 = .ok (.aload_n 0, 1) := by decide +kernel
theorem dX0_add_44 : decode cX0_add 44 = .ok (.getfield 9, 3) := by decide +kernel
theorem dX0_add_47 : decode cX0_add 47 = .ok (.iload_n 3, 1) := by decide +kernel
theorem dX0_add_48 : decode cX0_add 48 = .ok (.iconst 3, 1) := by decide +kernel
theorem dX0_add_49 : decode cX0_add 49 = .ok (.iadd, 1) := by decide +kernel
theorem dX0_add_50 : decode cX0_add 50 = .ok (.aload_n 2, 1) := by decide +kernel
theorem dX0_add_51 : decode cX0_add 51 = .ok (.getfield 31, 3) := by decide +kernel
theorem dX0_add_54 : decode cX0_add 54 = .ok (.iastore, 1) := by decide +kernel
theorem dX0_add_55 : decode cX0_add 55 = .ok (.aload_n 0, 1) := by decide +kernel
theorem dX0_add_56 : decode cX0_add 56 = .ok (.dup, 1) := by decide +kernel
theorem dX0_add_57 : decode cX0_add 57 = .ok (.getfield 13, 3) := by decide +kernel
theorem dX0_add_60 : decode cX0_add 60 = .ok (.iconst 1, 1) := by decide +kernel
theorem dX0_add_61 : decode cX0_add 61 = .ok (.iadd, 1) := by decide +kernel
theorem dX0_add_62 : decode cX0_add 62 = .ok (.putfield 13, 3) := by decide +kernel
theorem dX0_add_65 : decode cX0_add 65 = .ok (.return_, 1) := by decide +kernel
theorem dX0_has_0 : decode cX0_has 0 = .ok (.iload_n 1, 1) := by decide +kernel
theorem dX0_has_1 : decode cX0_has 1 = .ok (.ifCond .lt 26, 3) := by decide +kernel
theorem dX0_has_4 : decode cX0_has 4 = .ok (.iload_n 1, 1) := by decide +kernel
theorem dX0_has_5 : decode cX0_has 5 = .ok (.aload_n 0, 1) := by decide +kernel
theorem dX0_has_6 : decode cX0_has 6 = .ok (.getfield 13, 3) := by decide +kernel
theorem dX0_has_9 : decode cX0_has 9 = .ok (.if_icmp .ge 18, 3) := by decide +kernel
theorem dX0_has_12 : decode cX0_has 12 = .ok (.iload_n 1, 1) := by decide +kernel
theorem dX0_has_13 : decode cX0_has 13 = .ok (.aload_n 0, 1) := by decide +kernel
theorem dX0_has_14 : decode cX0_has 14 = .ok (.getfield 13, 3) := by decide +kernel
theorem dX0_has_17 : decode cX0_has 17 = .ok (.bipush 40, 2) := by decide +kernel
theorem dX0_has_19 : decode cX0_has 19 = .ok (.isub, 1) := by decide +kernel
theorem dX0_has_20 : decode cX0_has 20 = .ok (.if_icmp .lt 7, 3) := by decide +kernel
theorem dX0_has_23 : decode cX0_has 23 = .ok (.iconst 1, 1) := by decide +kernel
theorem dX0_has_24 : decode cX0_has 24 = .ok (.goto 4, 3) := by decide +kernel
theorem dX0_has_27 : decode cX0_has 27 = .ok (.iconst 0, 1) := by decide +kernel
theorem dX0_has_28 : decode cX0_has 28 = .ok (.ireturn, 1) := by decide +kernel
theorem dX0_partOf_0 : decode cX0_partOf 0 = .ok (.aload_n 0, 1) := by decide +kernel
theorem dX0_partOf_1 : decode cX0_partOf 1 = .ok (.getfield 9, 3) := by decide +kernel
theorem dX0_partOf_4 : decode cX0_partOf 4 = .ok (.iload_n 1, 1) := by decide +kernel
theorem dX0_partOf_5 : decode cX0_partOf 5 = .ok (.bipush 40, 2) := by decide +kernel
theorem dX0_partOf_7 : decode cX0_partOf 7 = .ok (.invokestatic 17, 3) := by decide +kernel
theorem dX0_partOf_10 : decode cX0_partOf 10 = .ok (.iconst 4, 1) := by decide +kernel
theorem dX0_partOf_11 : decode cX0_partOf 11 = .ok (.imul, 1) := by decide +kernel
theorem dX0_partOf_12 : decode cX0_partOf 12 = .ok (.iload_n 2, 1) := by decide +kernel
theorem dX0_partOf_13 : decode cX0_partOf 13 = .ok (.iadd, 1) := by decide +kernel
theorem dX0_partOf_14 : decode cX0_partOf 14 = .ok (.iaload, 1) := by decide +kernel
theorem dX0_partOf_15 : decode cX0_partOf 15 = .ok (.ireturn, 1) := by decide +kernel
theorem dX1_init_0 : decode cX1_init 0 = .ok (.aload_n 0, 1) := by decide +kernel
theorem dX1_init_1 : decode cX1_init 1 = .ok (.invokespecial 1, 3) := by decide +kernel
theorem dX1_init_4 : decode cX1_init 4 = .ok (.aload_n 0, 1) := by decide +kernel
theorem dX1_init_5 : decode cX1_init 5 = .ok (.bipush 20, 2) := by decide +kernel
theorem dX1_init_7 : decode cX1_init 7 = .ok (.newarray .int, 2) := by decide +kernel
theorem dX1_init_9 : decode cX1_init 9 = .ok (.putfield 9, 3) := by decide +kernel
theorem dX1_init_12 : decode cX1_init 12 = .ok (.aload_n 0, 1) := by decide +kernel
theorem dX1_init_13 : decode cX1_init 13 = .ok (.bipush 20, 2) := by decide +kernel
theorem dX1_init_15 : decode cX1_init 15 = .ok (.newarray .int, 2) := by decide +kernel
theorem dX1_init_17 : decode cX1_init 17 = .ok (.putfield 13, 3) := by decide +kernel
theorem dX1_init_20 : decode cX1_init 20 = .ok (.return_, 1) := by decide +kernel
theorem dX1_home_0 : decode cX1_home 0 = .ok (.aload_n 0, 1) := by decide +kernel
theorem dX1_home_1 : decode cX1_home 1 = .ok (.getfield 16, 3) := by decide +kernel
theorem dX1_home_4 : decode cX1_home 4 = .ok (.aload_n 0, 1) := by decide +kernel
theorem dX1_home_5 : decode cX1_home 5 = .ok (.getfield 20, 3) := by decide +kernel
theorem dX1_home_8 : decode cX1_home 8 = .ok (.iconst 3, 1) := by decide +kernel
theorem dX1_home_9 : decode cX1_home 9 = .ok (.imul, 1) := by decide +kernel
theorem dX1_home_10 : decode cX1_home 10 = .ok (.iconst 4, 1) := by decide +kernel
theorem dX1_home_11 : decode cX1_home 11 = .ok (.idiv, 1) := by decide +kernel
theorem dX1_home_12 : decode cX1_home 12 = .ok (.iadd, 1) := by decide +kernel
theorem dX1_home_13 : decode cX1_home 13 = .ok (.ireturn, 1) := by decide +kernel
theorem dX1_push_0 : decode cX1_push 0 = .ok (.aload_n 0, 1) := by decide +kernel
theorem dX1_push_1 : decode cX1_push 1 = .ok (.getfield 23, 3) := by decide +kernel
theorem dX1_push_4 : decode cX1_push 4 = .ok (.bipush 20, 2) := by decide +kernel
theorem dX1_push_6 : decode cX1_push 6 = .ok (.if_icmp .ge 39, 3) := by decide +kernel
theorem dX1_push_9 : decode cX1_push 9 = .ok (.aload_n 0, 1) := by decide +kernel
theorem dX1_push_10 : decode cX1_push 10 = .ok (.getfield 9, 3) := by decide +kernel
theorem dX1_push_13 : decode cX1_push 13 = .ok (.aload_n 0, 1) := by decide +kernel
theorem dX1_push_14 : decode cX1_push 14 = .ok (.getfield 23, 3) := by decide +kernel
theorem dX1_push_17 : decode cX1_push 17 = .ok (.aload_n 0, 1) := by decide +kernel
theorem dX1_push_18 : decode cX1_push 18 = .ok (.getfield 26, 3) := by decide +kernel
theorem dX1_push_21 : decode cX1_push 21 = .ok (.iastore, 1) := by decide +kernel
theorem dX1_push_22 : decode cX1_push 22 = .ok (.aload_n 0, 1) := by decide +kernel
theorem dX1_push_23 : decode cX1_push 23 = .ok (.getfield 13, 3) := by decide +kernel
theorem dX1_push_26 : decode cX1_push 26 = .ok (.aload_n 0, 1) := by decide +kernel
theorem dX1_push_27 : decode cX1_push 27 = .ok (.getfield 23, 3) := by decide +kernel
theorem dX1_push_30 : decode cX1_push 30 = .ok (.aload_n 0, 1) := by decide +kernel
theorem dX1_push_31 : decode cX1_push 31 = .ok (.getfield 29, 3) := by decide +kernel
theorem dX1_push_34 : decode cX1_push 34 = .ok (.iastore, 1) := by decide +kernel
theorem dX1_push_35 : decode cX1_push 35 = .ok (.aload_n 0, 1) := by decide +kernel
theorem dX1_push_36 : decode cX1_push 36 = .ok (.dup, 1) := by decide +kernel
theorem dX1_push_37 : decode cX1_push 37 = .ok (.getfield 23, 3) := by decide +kernel
theorem dX1_push_40 : decode cX1_push 40 = .ok (.iconst 1, 1) := by decide +kernel
theorem dX1_push_41 : decode cX1_push 41 = .ok (.iadd, 1) := by decide +kernel
theorem dX1_push_42 : decode cX1_push 42 = .ok (.putfield 23, 3) := by decide +kernel
theorem dX1_push_45 : decode cX1_push 45 = .ok (.return_, 1) := by decide +kernel
theorem dX1_copyFrom_0 : decode cX1_copyFrom 0 = .ok (.aload_n 0, 1) := by decide +kernel
theorem dX1_copyFrom_1 : decode cX1_copyFrom 1 = .ok (.aload_n 1, 1) := by decide +kernel
theorem dX1_copyFrom_2 : decode cX1_copyFrom 2 = .ok (.getfield 16, 3) := by decide +kernel
theorem dX1_copyFrom_5 : decode cX1_copyFrom 5 = .ok (.putfield 16, 3) := by decide +kernel
theorem dX1_copyFrom_8 : decode cX1_copyFrom 8 = .ok (.aload_n 0, 1) := by decide +kernel
theorem dX1_copyFrom_9 : decode cX1_copyFrom 9 = .ok (.aload_n 1, 1) := by decide +kernel
theorem dX1_copyFrom_10 : decode cX1_copyFrom 10 = .ok (.getfield 32, 3) := by decide +kernel
theorem dX1_copyFrom_13 : decode cX1_copyFrom 13 = .ok (.putfield 32, 3) := by decide +kernel
theorem dX1_copyFrom_16 : decode cX1_copyFrom 16 = .ok (.aload_n 0, 1) := by decide +kernel
theorem dX1_copyFrom_17 : decode cX1_copyFrom 17 = .ok (.aload_n 1, 1) := by decide +kernel
theorem dX1_copyFrom_18 : decode cX1_copyFrom 18 = .ok (.getfield 35, 3) := by decide +kernel
theorem dX1_copyFrom_21 : decode cX1_copyFrom 21 = .ok (.putfield 35, 3) := by decide +kernel
theorem dX1_copyFrom_24 : decode cX1_copyFrom 24 = .ok (.aload_n 0, 1) := by decide +kernel
theorem dX1_copyFrom_25 : decode cX1_copyFrom 25 = .ok (.aload_n 1, 1) := by decide +kernel
theorem dX1_copyFrom_26 : decode cX1_copyFrom 26 = .ok (.getfield 38, 3) := by decide +kernel
theorem dX1_copyFrom_29 : decode cX1_copyFrom 29 = .ok (.putfield 38, 3) := by decide +kernel
theorem dX1_copyFrom_32 : decode cX1_copyFrom 32 = .ok (.aload_n 0, 1) := by decide +kernel
theorem dX1_copyFrom_33 : decode cX1_copyFrom 33 = .ok (.aload_n 1, 1) := by decide +kernel
theorem dX1_copyFrom_34 : decode cX1_copyFrom 34 = .ok (.getfield 41, 3) := by decide +kernel
theorem dX1_copyFrom_37 : decode cX1_copyFrom 37 = .ok (.putfield 41, 3) := by decide +kernel
theorem dX1_copyFrom_40 : decode cX1_copyFrom 40 = .ok (.aload_n 0, 1) := by decide +kernel
theorem dX1_copyFrom_41 : decode cX1_copyFrom 41 = .ok (.aload_n 1, 1) := by decide +kernel
theorem dX1_copyFrom_42 : decode cX1_copyFrom 42 = .ok (.getfield 20, 3) := by decide +kernel
theorem dX1_copyFrom_45 : decode cX1_copyFrom 45 = .ok (.putfield 20, 3) := by decide +kernel
theorem dX1_copyFrom_48 : decode cX1_copyFrom 48 = .ok (.aload_n 0, 1) := by decide +kernel
theorem dX1_copyFrom_49 : decode cX1_copyFrom 49 = .ok (.aload_n 1, 1) := by decide +kernel
theorem dX1_copyFrom_50 : decode cX1_copyFrom 50 = .ok (.getfield 26, 3) := by decide +kernel
theorem dX1_copyFrom_53 : decode cX1_copyFrom 53 = .ok (.putfield 26, 3) := by decide +kernel
theorem dX1_copyFrom_56 : decode cX1_copyFrom 56 = .ok (.aload_n 0, 1) := by decide +kernel
theorem dX1_copyFrom_57 : decode cX1_copyFrom 57 = .ok (.aload_n 1, 1) := by decide +kernel
theorem dX1_copyFrom_58 : decode cX1_copyFrom 58 = .ok (.getfield 29, 3) := by decide +kernel
theorem dX1_copyFrom_61 : decode cX1_copyFrom 61 = .ok (.putfield 29, 3) := by decide +kernel
theorem dX1_copyFrom_64 : decode cX1_copyFrom 64 = .ok (.aload_n 0, 1) := by decide +kernel
theorem dX1_copyFrom_65 : decode cX1_copyFrom 65 = .ok (.aload_n 1, 1) := by decide +kernel
theorem dX1_copyFrom_66 : decode cX1_copyFrom 66 = .ok (.getfield 44, 3) := by decide +kernel
theorem dX1_copyFrom_69 : decode cX1_copyFrom 69 = .ok (.putfield 44, 3) := by decide +kernel
theorem dX1_copyFrom_72 : decode cX1_copyFrom 72 = .ok (.aload_n 0, 1) := by decide +kernel
theorem dX1_copyFrom_73 : decode cX1_copyFrom 73 = .ok (.aload_n 1, 1) := by decide +kernel
theorem dX1_copyFrom_74 : decode cX1_copyFrom 74 = .ok (.getfield 48, 3) := by decide +kernel
theorem dX1_copyFrom_77 : decode cX1_copyFrom 77 = .ok (.putfield 48, 3) := by decide +kernel
theorem dX1_copyFrom_80 : decode cX1_copyFrom 80 = .ok (.aload_n 0, 1) := by decide +kernel
theorem dX1_copyFrom_81 : decode cX1_copyFrom 81 = .ok (.aload_n 1, 1) := by decide +kernel
theorem dX1_copyFrom_82 : decode cX1_copyFrom 82 = .ok (.getfield 51, 3) := by decide +kernel
theorem dX1_copyFrom_85 : decode cX1_copyFrom 85 = .ok (.putfield 51, 3) := by decide +kernel
theorem dX1_copyFrom_88 : decode cX1_copyFrom 88 = .ok (.aload_n 0, 1) := by decide +kernel
theorem dX1_copyFrom_89 : decode cX1_copyFrom 89 = .ok (.aload_n 1, 1) := by decide +kernel
theorem dX1_copyFrom_90 : decode cX1_copyFrom 90 = .ok (.getfield 54, 3) := by decide +kernel
theorem dX1_copyFrom_93 : decode cX1_copyFrom 93 = .ok (.putfield 54, 3) := by decide +kernel
theorem dX1_copyFrom_96 : decode cX1_copyFrom 96 = .ok (.aload_n 0, 1) := by decide +kernel
theorem dX1_copyFrom_97 : decode cX1_copyFrom 97 = .ok (.aload_n 1, 1) := by decide +kernel
theorem dX1_copyFrom_98 : decode cX1_copyFrom 98 = .ok (.getfield 23, 3) := by decide +kernel
theorem dX1_copyFrom_101 : decode cX1_copyFrom 101 = .ok (.putfield 23, 3) := by decide +kernel
theorem dX1_copyFrom_104 : decode cX1_copyFrom 104 = .ok (.aload_n 1, 1) := by decide +kernel
theorem dX1_copyFrom_105 : decode cX1_copyFrom 105 = .ok (.getfield 9, 3) := by decide +kernel
theorem dX1_copyFrom_108 : decode cX1_copyFrom 108 = .ok (.iconst 0, 1) := by decide +kernel
theorem dX1_copyFrom_109 : decode cX1_copyFrom 109 = .ok (.aload_n 0, 1) := by decide +kernel
theorem dX1_copyFrom_110 : decode cX1_copyFrom 110 = .ok (.getfield 9, 3) := by decide +kernel
theorem dX1_copyFrom_113 : decode cX1_copyFrom 113 = .ok (.iconst 0, 1) := by decide +kernel
theorem dX1_copyFrom_114 : decode cX1_copyFrom 114 = .ok (.bipush 20, 2) := by decide +kernel
theorem dX1_copyFrom_116 : decode cX1_copyFrom 116 = .ok (.invokestatic 57, 3) := by decide +kernel
theorem dX1_copyFrom_119 : decode cX1_copyFrom 119 = .ok (.aload_n 1, 1) := by decide +kernel
theorem dX1_copyFrom_120 : decode cX1_copyFrom 120 = .ok (.getfield 13, 3) := by decide +kernel
theorem dX1_copyFrom_123 : decode cX1_copyFrom 123 = .ok (.iconst 0, 1) := by decide +kernel
theorem dX1_copyFrom_124 : decode cX1_copyFrom 124 = .ok (.aload_n 0, 1) := by decide +kernel
theorem dX1_copyFrom_125 : decode cX1_copyFrom 125 = .ok (.getfield 13, 3) := by decide +kernel
theorem dX1_copyFrom_128 : decode cX1_copyFrom 128 = .ok (.iconst 0, 1) := by decide +kernel
theorem dX1_copyFrom_129 : decode cX1_copyFrom 129 = .ok (.bipush 20, 2) := by decide +kernel
theorem dX1_copyFrom_131 : decode cX1_copyFrom 131 = .ok (.invokestatic 57, 3) := by decide +kernel
theorem dX1_copyFrom_134 : decode cX1_copyFrom 134 = .ok (.return_, 1) := by decide +kernel
theorem dX2_init_0 : decode cX2_init 0 = .ok (.aload_n 0, 1) := by decide +kernel
theorem dX2_init_1 : decode cX2_init 1 = .ok (.invokespecial 1, 3) := by decide +kernel
theorem dX2_init_4 : decode cX2_init 4 = .ok (.return_, 1) := by decide +kernel
theorem dX3_init_0 : decode cX3_init 0 = .ok (.aload_n 0, 1) := by decide +kernel
theorem dX3_init_1 : decode cX3_init 1 = .ok (.invokespecial 1, 3) := by decide +kernel
theorem dX3_init_4 : decode cX3_init 4 = .ok (.aload_n 0, 1) := by decide +kernel
theorem dX3_init_5 : decode cX3_init 5 = .ok (.bipush 16, 2) := by decide +kernel
theorem dX3_init_7 : decode cX3_init 7 = .ok (.anewarray 9, 3) := by decide +kernel
theorem dX3_init_10 : decode cX3_init 10 = .ok (.putfield 11, 3) := by decide +kernel
theorem dX3_init_13 : decode cX3_init 13 = .ok (.aload_n 0, 1) := by decide +kernel
theorem dX3_init_14 : decode cX3_init 14 = .ok (.sipush 4096, 3) := by decide +kernel
theorem dX3_init_17 : decode cX3_init 17 = .ok (.newarray .byte, 2) := by decide +kernel
theorem dX3_init_19 : decode cX3_init 19 = .ok (.putfield 15, 3) := by decide +kernel
theorem dX3_init_22 : decode cX3_init 22 = .ok (.iconst 0, 1) := by decide +kernel
theorem dX3_init_23 : decode cX3_init 23 = .ok (.istore_n 1, 1) := by decide +kernel
theorem dX3_init_24 : decode cX3_init 24 = .ok (.iload_n 1, 1) := by decide +kernel
theorem dX3_init_25 : decode cX3_init 25 = .ok (.bipush 16, 2) := by decide +kernel
theorem dX3_init_27 : decode cX3_init 27 = .ok (.if_icmp .ge 22, 3) := by decide +kernel
theorem dX3_init_30 : decode cX3_init 30 = .ok (.aload_n 0, 1) := by decide +kernel
theorem dX3_init_31 : decode cX3_init 31 = .ok (.getfield 11, 3) := by decide +kernel
theorem dX3_init_34 : decode cX3_init 34 = .ok (.iload_n 1, 1) := by decide +kernel
theorem dX3_init_35 : decode cX3_init 35 = .ok (.new 9, 3) := by decide +kernel
theorem dX3_init_38 : decode cX3_init 38 = .ok (.dup, 1) := by decide +kernel
theorem dX3_init_39 : decode cX3_init 39 = .ok (.invokespecial 19, 3) := by decide +kernel
theorem dX3_init_42 : decode cX3_init 42 = .ok (.aastore, 1) := by decide +kernel
theorem dX3_init_43 : decode cX3_init 43 = .ok (.iinc 1 1, 3) := by decide +kernel
theorem dX3_init_46 : decode cX3_init 46 = .ok (.goto (-22), 3) := by decide +kernel
theorem dX3_init_49 : decode cX3_init 49 = .ok (.return_, 1) := by decide +kernel
theorem dX3_add_0 : decode cX3_add 0 = .ok (.aload_n 0, 1) := by decide +kernel
theorem dX3_add_1 : decode cX3_add 1 = .ok (.aload_n 0, 1) := by decide +kernel
theorem dX3_add_2 : decode cX3_add 2 = .ok (.getfield 20, 3) := by decide +kernel
theorem dX3_add_5 : decode cX3_add 5 = .ok (.bipush 16, 2) := by decide +kernel
theorem dX3_add_7 : decode cX3_add 7 = .ok (.if_icmp .lt 7, 3) := by decide +kernel
theorem dX3_add_10 : decode cX3_add 10 = .ok (.iconst 1, 1) := by decide +kernel
theorem dX3_add_11 : decode cX3_add 11 = .ok (.goto 4, 3) := by decide +kernel
theorem dX3_add_14 : decode cX3_add 14 = .ok (.iconst 0, 1) := by decide +kernel
theorem dX3_add_15 : decode cX3_add 15 = .ok (.putfield 24, 3) := by decide +kernel
theorem dX3_add_18 : decode cX3_add 18 = .ok (.aload_n 0, 1) := by decide +kernel
theorem dX3_add_19 : decode cX3_add 19 = .ok (.getfield 24, 3) := by decide +kernel
theorem dX3_add_22 : decode cX3_add 22 = .ok (.ifCond .eq 4, 3) := by decide +kernel
theorem dX3_add_25 : decode cX3_add 25 = .ok (.return_, 1) := by decide +kernel
theorem dX3_add_26 : decode cX3_add 26 = .ok (.aload_n 0, 1) := by decide +kernel
theorem dX3_add_27 : decode cX3_add 27 = .ok (.getfield 11, 3) := by decide +kernel
theorem dX3_add_30 : decode cX3_add 30 = .ok (.aload_n 0, 1) := by decide +kernel
theorem dX3_add_31 : decode cX3_add 31 = .ok (.getfield 28, 3) := by decide +kernel
theorem dX3_add_34 : decode cX3_add 34 = .ok (.aload_n 0, 1) := by decide +kernel
theorem dX3_add_35 : decode cX3_add 35 = .ok (.getfield 20, 3) := by decide +kernel
theorem dX3_add_38 : decode cX3_add 38 = .ok (.iadd, 1) := by decide +kernel
theorem dX3_add_39 : decode cX3_add 39 = .ok (.bipush 16, 2) := by decide +kernel
theorem dX3_add_41 : decode cX3_add 41 = .ok (.irem, 1) := by decide +kernel
theorem dX3_add_42 : decode cX3_add 42 = .ok (.aaload, 1) := by decide +kernel
theorem dX3_add_43 : decode cX3_add 43 = .ok (.astore_n 2, 1) := by decide +kernel
theorem dX3_add_44 : decode cX3_add 44 = .ok (.aload_n 2, 1) := by decide +kernel
theorem dX3_add_45 : decode cX3_add 45 = .ok (.aload_n 1, 1) := by decide +kernel
theorem dX3_add_46 : decode cX3_add 46 = .ok (.getfield 31, 3) := by decide +kernel
theorem dX3_add_49 : decode cX3_add 49 = .ok (.putfield 36, 3) := by decide +kernel
theorem dX3_add_52 : decode cX3_add 52 = .ok (.aload_n 2, 1) := by decide +kernel
theorem dX3_add_53 : decode cX3_add 53 = .ok (.aload_n 1, 1) := by decide +kernel
theorem dX3_add_54 : decode cX3_add 54 = .ok (.getfield 37, 3) := by decide +kernel
theorem dX3_add_57 : decode cX3_add 57 = .ok (.putfield 40, 3) := by decide +kernel
theorem dX3_add_60 : decode cX3_add 60 = .ok (.aload_n 2, 1) := by decide +kernel
theorem dX3_add_61 : decode cX3_add 61 = .ok (.aload_n 1, 1) := by decide +kernel
theorem dX3_add_62 : decode cX3_add 62 = .ok (.getfield 41, 3) := by decide +kernel
theorem dX3_add_65 : decode cX3_add 65 = .ok (.putfield 44, 3) := by decide +kernel
theorem dX3_add_68 : decode cX3_add 68 = .ok (.aload_n 2, 1) := by decide +kernel
theorem dX3_add_69 : decode cX3_add 69 = .ok (.aload_n 1, 1) := by decide +kernel
theorem dX3_add_70 : decode cX3_add 70 = .ok (.getfield 45, 3) := by decide +kernel
theorem dX3_add_73 : decode cX3_add 73 = .ok (.putfield 48, 3) := by decide +kernel
theorem dX3_add_76 : decode cX3_add 76 = .ok (.aload_n 2, 1) := by decide +kernel
theorem dX3_add_77 : decode cX3_add 77 = .ok (.aload_n 1, 1) := by decide +kernel
theorem dX3_add_78 : decode cX3_add 78 = .ok (.getfield 49, 3) := by decide +kernel
theorem dX3_add_81 : decode cX3_add 81 = .ok (.putfield 52, 3) := by decide +kernel
theorem dX3_add_84 : decode cX3_add 84 = .ok (.aload_n 2, 1) := by decide +kernel
theorem dX3_add_85 : decode cX3_add 85 = .ok (.iconst 0, 1) := by decide +kernel
theorem dX3_add_86 : decode cX3_add 86 = .ok (.putfield 53, 3) := by decide +kernel
theorem dX3_add_89 : decode cX3_add 89 = .ok (.aload_n 2, 1) := by decide +kernel
theorem dX3_add_90 : decode cX3_add 90 = .ok (.aload_n 1, 1) := by decide +kernel
theorem dX3_add_91 : decode cX3_add 91 = .ok (.getfield 56, 3) := by decide +kernel
theorem dX3_add_94 : decode cX3_add 94 = .ok (.putfield 59, 3) := by decide +kernel
theorem dX3_add_97 : decode cX3_add 97 = .ok (.aload_n 0, 1) := by decide +kernel
theorem dX3_add_98 : decode cX3_add 98 = .ok (.dup, 1) := by decide +kernel
theorem dX3_add_99 : decode cX3_add 99 = .ok (.getfield 20, 3) := by decide +kernel
theorem dX3_add_102 : decode cX3_add 102 = .ok (.iconst 1, 1) := by decide +kernel
theorem dX3_add_103 : decode cX3_add 103 = .ok (.iadd, 1) := by decide +kernel
theorem dX3_add_104 : decode cX3_add 104 = .ok (.putfield 20, 3) := by decide +kernel
theorem dX3_add_107 : decode cX3_add 107 = .ok (.return_, 1) := by decide +kernel
theorem dX3_addByte_0 : decode cX3_addByte 0 = .ok (.aload_n 0, 1) := by decide +kernel
theorem dX3_addByte_1 : decode cX3_addByte 1 = .ok (.getfield 24, 3) := by decide +kernel
theorem dX3_addByte_4 : decode cX3_addByte 4 = .ok (.ifCond .ne 10, 3) := by decide +kernel
theorem dX3_addByte_7 : decode cX3_addByte 7 = .ok (.aload_n 0, 1) := by decide +kernel
theorem dX3_addByte_8 : decode cX3_addByte 8 = .ok (.getfield 20, 3) := by decide +kernel
theorem dX3_addByte_11 : decode cX3_addByte 11 = .ok (.ifCond .ne 4, 3) := by decide +kernel
theorem dX3_addByte_14 : decode cX3_addByte 14 = .ok (.return_, 1) := by decide +kernel
theorem dX3_addByte_15 : decode cX3_addByte 15 = .ok (.aload_n 0, 1) := by decide +kernel
theorem dX3_addByte_16 : decode cX3_addByte 16 = .ok (.getfield 11, 3) := by decide +kernel
theorem dX3_addByte_19 : decode cX3_addByte 19 = .ok (.aload_n 0, 1) := by decide +kernel
theorem dX3_addByte_20 : decode cX3_addByte 20 = .ok (.getfield 28, 3) := by decide +kernel
theorem dX3_addByte_23 : decode cX3_addByte 23 = .ok (.aload_n 0, 1) := by decide +kernel
theorem dX3_addByte_24 : decode cX3_addByte 24 = .ok (.getfield 20, 3) := by decide +kernel
theorem dX3_addByte_27 : decode cX3_addByte 27 = .ok (.iadd, 1) := by decide +kernel
theorem dX3_addByte_28 : decode cX3_addByte 28 = .ok (.iconst 1, 1) := by decide +kernel
theorem dX3_addByte_29 : decode cX3_addByte 29 = .ok (.isub, 1) := by decide +kernel
theorem dX3_addByte_30 : decode cX3_addByte 30 = .ok (.bipush 16, 2) := by decide +kernel
theorem dX3_addByte_32 : decode cX3_addByte 32 = .ok (.irem, 1) := by decide +kernel
theorem dX3_addByte_33 : decode cX3_addByte 33 = .ok (.aaload, 1) := by decide +kernel
theorem dX3_addByte_34 : decode cX3_addByte 34 = .ok (.astore_n 2, 1) := by decide +kernel
theorem dX3_addByte_35 : decode cX3_addByte 35 = .ok (.aload_n 2, 1) := by decide +kernel
theorem dX3_addByte_36 : decode cX3_addByte 36 = .ok (.dup, 1) := by decide +kernel
theorem dX3_addByte_37 : decode cX3_addByte 37 = .ok (.getfield 59, 3) := by decide +kernel
theorem dX3_addByte_40 : decode cX3_addByte 40 = .ok (.iconst 1, 1) := by decide +kernel
theorem dX3_addByte_41 : decode cX3_addByte 41 = .ok (.isub, 1) := by decide +kernel
theorem dX3_addByte_42 : decode cX3_addByte 42 = .ok (.putfield 59, 3) := by decide +kernel
theorem dX3_addByte_45 : decode cX3_addByte 45 = .ok (.aload_n 0, 1) := by decide +kernel
theorem dX3_addByte_46 : decode cX3_addByte 46 = .ok (.getfield 62, 3) := by decide +kernel
theorem dX3_addByte_49 : decode cX3_addByte 49 = .ok (.sipush 4096, 3) := by decide +kernel
theorem dX3_addByte_52 : decode cX3_addByte 52 = .ok (.if_icmp .ge 43, 3) := by decide +kernel
theorem dX3_addByte_55 : decode cX3_addByte 55 = .ok (.aload_n 0, 1) := by decide +kernel
theorem dX3_addByte_56 : decode cX3_addByte 56 = .ok (.getfield 15, 3) := by decide +kernel
theorem dX3_addByte_59 : decode cX3_addByte 59 = .ok (.aload_n 0, 1) := by decide +kernel
theorem dX3_addByte_60 : decode cX3_addByte 60 = .ok (.getfield 65, 3) := by decide +kernel
theorem dX3_addByte_63 : decode cX3_addByte 63 = .ok (.aload_n 0, 1) := by decide +kernel
theorem dX3_addByte_64 : decode cX3_addByte 64 = .ok (.getfield 62, 3) := by decide +kernel
theorem dX3_addByte_67 : decode cX3_addByte 67 = .ok (.iadd, 1) := by decide +kernel
theorem dX3_addByte_68 : decode cX3_addByte 68 = .ok (.sipush 4096, 3) := by decide +kernel
theorem dX3_addByte_71 : decode cX3_addByte 71 = .ok (.irem, 1) := by decide +kernel
theorem dX3_addByte_72 : decode cX3_addByte 72 = .ok (.iload_n 1, 1) := by decide +kernel
theorem dX3_addByte_73 : decode cX3_addByte 73 = .ok (.i2b, 1) := by decide +kernel
theorem dX3_addByte_74 : decode cX3_addByte 74 = .ok (.bastore, 1) := by decide +kernel
theorem dX3_addByte_75 : decode cX3_addByte 75 = .ok (.aload_n 0, 1) := by decide +kernel
theorem dX3_addByte_76 : decode cX3_addByte 76 = .ok (.dup, 1) := by decide +kernel
theorem dX3_addByte_77 : decode cX3_addByte 77 = .ok (.getfield 62, 3) := by decide +kernel
theorem dX3_addByte_80 : decode cX3_addByte 80 = .ok (.iconst 1, 1) := by decide +kernel
theorem dX3_addByte_81 : decode cX3_addByte 81 = .ok (.iadd, 1) := by decide +kernel
theorem dX3_addByte_82 : decode cX3_addByte 82 = .ok (.putfield 62, 3) := by decide +kernel
theorem dX3_addByte_85 : decode cX3_addByte 85 = .ok (.aload_n 2, 1) := by decide +kernel
theorem dX3_addByte_86 : decode cX3_addByte 86 = .ok (.dup, 1) := by decide +kernel
theorem dX3_addByte_87 : decode cX3_addByte 87 = .ok (.getfield 53, 3) := by decide +kernel
theorem dX3_addByte_90 : decode cX3_addByte 90 = .ok (.iconst 1, 1) := by decide +kernel
theorem dX3_addByte_91 : decode cX3_addByte 91 = .ok (.iadd, 1) := by decide +kernel
theorem dX3_addByte_92 : decode cX3_addByte 92 = .ok (.putfield 53, 3) := by decide +kernel
theorem dX3_addByte_95 : decode cX3_addByte 95 = .ok (.return_, 1) := by decide +kernel
theorem dX3_firstPart_0 : decode cX3_firstPart 0 = .ok (.aload_n 0, 1) := by decide +kernel
theorem dX3_firstPart_1 : decode cX3_firstPart 1 = .ok (.getfield 11, 3) := by decide +kernel
theorem dX3_firstPart_4 : decode cX3_firstPart 4 = .ok (.aload_n 0, 1) := by decide +kernel
theorem dX3_firstPart_5 : decode cX3_firstPart 5 = .ok (.getfield 28, 3) := by decide +kernel
theorem dX3_firstPart_8 : decode cX3_firstPart 8 = .ok (.aaload, 1) := by decide +kernel
theorem dX3_firstPart_9 : decode cX3_firstPart 9 = .ok (.astore_n 2, 1) := by decide +kernel
theorem dX3_firstPart_10 : decode cX3_firstPart 10 = .ok (.iload_n 1, 1) := by decide +kernel
theorem dX3_firstPart_11 : decode cX3_firstPart 11 = .ok (.tableswitch 75 0 5 #[37, 42, 47, 52, 57, 70], 37) := by decide +kernel
theorem dX3_firstPart_48 : decode cX3_firstPart 48 = .ok (.aload_n 2, 1) := by decide +kernel
theorem dX3_firstPart_49 : decode cX3_firstPart 49 = .ok (.getfield 36, 3) := by decide +kernel
theorem dX3_firstPart_52 : decode cX3_firstPart 52 = .ok (.ireturn, 1) := by decide +kernel
theorem dX3_firstPart_53 : decode cX3_firstPart 53 = .ok (.aload_n 2, 1) := by decide +kernel
theorem dX3_firstPart_54 : decode cX3_firstPart 54 = .ok (.getfield 40, 3) := by decide +kernel
theorem dX3_firstPart_57 : decode cX3_firstPart 57 = .ok (.ireturn, 1) := by decide +kernel
theorem dX3_firstPart_58 : decode cX3_firstPart 58 = .ok (.aload_n 2, 1) := by decide +kernel
theorem dX3_firstPart_59 : decode cX3_firstPart 59 = .ok (.getfield 44, 3) := by decide +kernel
theorem dX3_firstPart_62 : decode cX3_firstPart 62 = .ok (.ireturn, 1) := by decide +kernel
theorem dX3_firstPart_63 : decode cX3_firstPart 63 = .ok (.aload_n 2, 1) := by decide +kernel
theorem dX3_firstPart_64 : decode cX3_firstPart 64 = .ok (.getfield 48, 3) := by decide +kernel
theorem dX3_firstPart_67 : decode cX3_firstPart 67 = .ok (.ireturn, 1) := by decide +kernel
theorem dX3_firstPart_68 : decode cX3_firstPart 68 = .ok (.aload_n 2, 1) := by decide +kernel
theorem dX3_firstPart_69 : decode cX3_firstPart 69 = .ok (.getfield 52, 3) := by decide +kernel
theorem dX3_firstPart_72 : decode cX3_firstPart 72 = .ok (.ifCond .eq 7, 3) := by decide +kernel
theorem dX3_firstPart_75 : decode cX3_firstPart 75 = .ok (.iconst 1, 1) := by decide +kernel
theorem dX3_firstPart_76 : decode cX3_firstPart 76 = .ok (.goto 4, 3) := by decide +kernel
theorem dX3_firstPart_79 : decode cX3_firstPart 79 = .ok (.iconst 0, 1) := by decide +kernel
theorem dX3_firstPart_80 : decode cX3_firstPart 80 = .ok (.ireturn, 1) := by decide +kernel
theorem dX3_firstPart_81 : decode cX3_firstPart 81 = .ok (.aload_n 2, 1) := by decide +kernel
theorem dX3_firstPart_82 : decode cX3_firstPart 82 = .ok (.getfield 53, 3) := by decide +kernel
theorem dX3_firstPart_85 : decode cX3_firstPart 85 = .ok (.ireturn, 1) := by decide +kernel
theorem dX3_firstPart_86 : decode cX3_firstPart 86 = .ok (.aload_n 2, 1) := by decide +kernel
theorem dX3_firstPart_87 : decode cX3_firstPart 87 = .ok (.getfield 59, 3) := by decide +kernel
theorem dX3_firstPart_90 : decode cX3_firstPart 90 = .ok (.ireturn, 1) := by decide +kernel
theorem dX3_firstEightBytes_0 : decode cX3_firstEightBytes 0 = .ok (.iload_n 1, 1) := by decide +kernel
theorem dX3_firstEightBytes_1 : decode cX3_firstEightBytes 1 = .ok (.ifCond .lt 10, 3) := by decide +kernel
theorem dX3_firstEightBytes_4 : decode cX3_firstEightBytes 4 = .ok (.iload_n 1, 1) := by decide +kernel
theorem dX3_firstEightBytes_5 : decode cX3_firstEightBytes 5 = .ok (.sipush 512, 3) := by decide +kernel
theorem dX3_firstEightBytes_8 : decode cX3_firstEightBytes 8 = .ok (.if_icmp .lt 5, 3) := by decide +kernel
theorem dX3_firstEightBytes_11 : decode cX3_firstEightBytes 11 = .ok (.lconst 0, 1) := by decide +kernel
theorem dX3_firstEightBytes_12 : decode cX3_firstEightBytes 12 = .ok (.lreturn, 1) := by decide +kernel
theorem dX3_firstEightBytes_13 : decode cX3_firstEightBytes 13 = .ok (.lconst 0, 1) := by decide +kernel
theorem dX3_firstEightBytes_14 : decode cX3_firstEightBytes 14 = .ok (.lstore_n 2, 1) := by decide +kernel
theorem dX3_firstEightBytes_15 : decode cX3_firstEightBytes 15 = .ok (.bipush 8, 2) := by decide +kernel
theorem dX3_firstEightBytes_17 : decode cX3_firstEightBytes 17 = .ok (.iload_n 1, 1) := by decide +kernel
theorem dX3_firstEightBytes_18 : decode cX3_firstEightBytes 18 = .ok (.imul, 1) := by decide +kernel
theorem dX3_firstEightBytes_19 : decode cX3_firstEightBytes 19 = .ok (.istore 4, 2) := by decide +kernel
theorem dX3_firstEightBytes_21 : decode cX3_firstEightBytes 21 = .ok (.iload 4, 2) := by decide +kernel
theorem dX3_firstEightBytes_23 : decode cX3_firstEightBytes 23 = .ok (.bipush 8, 2) := by decide +kernel
theorem dX3_firstEightBytes_25 : decode cX3_firstEightBytes 25 = .ok (.iload_n 1, 1) := by decide +kernel
theorem dX3_firstEightBytes_26 : decode cX3_firstEightBytes 26 = .ok (.imul, 1) := by decide +kernel
theorem dX3_firstEightBytes_27 : decode cX3_firstEightBytes 27 = .ok (.bipush 8, 2) := by decide +kernel
theorem dX3_firstEightBytes_29 : decode cX3_firstEightBytes 29 = .ok (.iadd, 1) := by decide +kernel
theorem dX3_firstEightBytes_30 : decode cX3_firstEightBytes 30 = .ok (.if_icmp .ge 61, 3) := by decide +kernel
theorem dX3_firstEightBytes_33 : decode cX3_firstEightBytes 33 = .ok (.iload 4, 2) := by decide +kernel
theorem dX3_firstEightBytes_35 : decode cX3_firstEightBytes 35 = .ok (.aload_n 0, 1) := by decide +kernel
theorem dX3_firstEightBytes_36 : decode cX3_firstEightBytes 36 = .ok (.getfield 11, 3) := by decide +kernel
theorem dX3_firstEightBytes_39 : decode cX3_firstEightBytes 39 = .ok (.aload_n 0, 1) := by decide +kernel
theorem dX3_firstEightBytes_40 : decode cX3_firstEightBytes 40 = .ok (.getfield 28, 3) := by decide +kernel
theorem dX3_firstEightBytes_43 : decode cX3_firstEightBytes 43 = .ok (.aaload, 1) := by decide +kernel
theorem dX3_firstEightBytes_44 : decode cX3_firstEightBytes 44 = .ok (.getfield 53, 3) := by decide +kernel
theorem dX3_firstEightBytes_47 : decode cX3_firstEightBytes 47 = .ok (.if_icmp .ge 26, 3) := by decide +kernel
theorem dX3_firstEightBytes_50 : decode cX3_firstEightBytes 50 = .ok (.aload_n 0, 1) := by decide +kernel
theorem dX3_firstEightBytes_51 : decode cX3_firstEightBytes 51 = .ok (.getfield 15, 3) := by decide +kernel
theorem dX3_firstEightBytes_54 : decode cX3_firstEightBytes 54 = .ok (.aload_n 0, 1) := by decide +kernel
theorem dX3_firstEightBytes_55 : decode cX3_firstEightBytes 55 = .ok (.getfield 65, 3) := by decide +kernel
theorem dX3_firstEightBytes_58 : decode cX3_firstEightBytes 58 = .ok (.iload 4, 2) := by decide +kernel
theorem dX3_firstEightBytes_60 : decode cX3_firstEightBytes 60 = .ok (.iadd, 1) := by decide +kernel
theorem dX3_firstEightBytes_61 : decode cX3_firstEightBytes 61 = .ok (.sipush 4096, 3) := by decide +kernel
theorem dX3_firstEightBytes_64 : decode cX3_firstEightBytes 64 = .ok (.irem, 1) := by decide +kernel
theorem dX3_firstEightBytes_65 : decode cX3_firstEightBytes 65 = .ok (.baload, 1) := by decide +kernel
theorem dX3_firstEightBytes_66 : decode cX3_firstEightBytes 66 = .ok (.sipush 255, 3) := by decide +kernel
theorem dX3_firstEightBytes_69 : decode cX3_firstEightBytes 69 = .ok (.iand, 1) := by decide +kernel
theorem dX3_firstEightBytes_70 : decode cX3_firstEightBytes 70 = .ok (.goto 4, 3) := by decide +kernel
theorem dX3_firstEightBytes_73 : decode cX3_firstEightBytes 73 = .ok (.iconst 0, 1) := by decide +kernel
theorem dX3_firstEightBytes_74 : decode cX3_firstEightBytes 74 = .ok (.istore 5, 2) := by decide +kernel
theorem dX3_firstEightBytes_76 : decode cX3_firstEightBytes 76 = .ok (.lload_n 2, 1) := by decide +kernel
theorem dX3_firstEightBytes_77 : decode cX3_firstEightBytes 77 = .ok (.bipush 8, 2) := by decide +kernel
theorem dX3_firstEightBytes_79 : decode cX3_firstEightBytes 79 = .ok (.lshl, 1) := by decide +kernel
theorem dX3_firstEightBytes_80 : decode cX3_firstEightBytes 80 = .ok (.iload 5, 2) := by decide +kernel
theorem dX3_firstEightBytes_82 : decode cX3_firstEightBytes 82 = .ok (.i2l, 1) := by decide +kernel
theorem dX3_firstEightBytes_83 : decode cX3_firstEightBytes 83 = .ok (.lor, 1) := by decide +kernel
theorem dX3_firstEightBytes_84 : decode cX3_firstEightBytes 84 = .ok (.lstore_n 2, 1) := by decide +kernel
theorem dX3_firstEightBytes_85 : decode cX3_firstEightBytes 85 = .ok (.iinc 4 1, 3) := by decide +kernel
theorem dX3_firstEightBytes_88 : decode cX3_firstEightBytes 88 = .ok (.goto (-67), 3) := by decide +kernel
theorem dX3_firstEightBytes_91 : decode cX3_firstEightBytes 91 = .ok (.lload_n 2, 1) := by decide +kernel
theorem dX3_firstEightBytes_92 : decode cX3_firstEightBytes 92 = .ok (.lreturn, 1) := by decide +kernel
theorem dX3_removeFirst_0 : decode cX3_removeFirst 0 = .ok (.aload_n 0, 1) := by decide +kernel
theorem dX3_removeFirst_1 : decode cX3_removeFirst 1 = .ok (.getfield 20, 3) := by decide +kernel
theorem dX3_removeFirst_4 : decode cX3_removeFirst 4 = .ok (.ifCond .eq 18, 3) := by decide +kernel
theorem dX3_removeFirst_7 : decode cX3_removeFirst 7 = .ok (.aload_n 0, 1) := by decide +kernel
theorem dX3_removeFirst_8 : decode cX3_removeFirst 8 = .ok (.getfield 11, 3) := by decide +kernel
theorem dX3_removeFirst_11 : decode cX3_removeFirst 11 = .ok (.aload_n 0, 1) := by decide +kernel
theorem dX3_removeFirst_12 : decode cX3_removeFirst 12 = .ok (.getfield 28, 3) := by decide +kernel
theorem dX3_removeFirst_15 : decode cX3_removeFirst 15 = .ok (.aaload, 1) := by decide +kernel
theorem dX3_removeFirst_16 : decode cX3_removeFirst 16 = .ok (.getfield 59, 3) := by decide +kernel
theorem dX3_removeFirst_19 : decode cX3_removeFirst 19 = .ok (.ifCond .le 5, 3) := by decide +kernel
theorem dX3_removeFirst_22 : decode cX3_removeFirst 22 = .ok (.iconst 0, 1) := by decide +kernel
theorem dX3_removeFirst_23 : decode cX3_removeFirst 23 = .ok (.ireturn, 1) := by decide +kernel
theorem dX3_removeFirst_24 : decode cX3_removeFirst 24 = .ok (.aload_n 0, 1) := by decide +kernel
theorem dX3_removeFirst_25 : decode cX3_removeFirst 25 = .ok (.aload_n 0, 1) := by decide +kernel
theorem dX3_removeFirst_26 : decode cX3_removeFirst 26 = .ok (.getfield 65, 3) := by decide +kernel
theorem dX3_removeFirst_29 : decode cX3_removeFirst 29 = .ok (.aload_n 0, 1) := by decide +kernel
theorem dX3_removeFirst_30 : decode cX3_removeFirst 30 = .ok (.getfield 11, 3) := by decide +kernel
theorem dX3_removeFirst_33 : decode cX3_removeFirst 33 = .ok (.aload_n 0, 1) := by decide +kernel
theorem dX3_removeFirst_34 : decode cX3_removeFirst 34 = .ok (.getfield 28, 3) := by decide +kernel
theorem dX3_removeFirst_37 : decode cX3_removeFirst 37 = .ok (.aaload, 1) := by decide +kernel
theorem dX3_removeFirst_38 : decode cX3_removeFirst 38 = .ok (.getfield 53, 3) := by decide +kernel
theorem dX3_removeFirst_41 : decode cX3_removeFirst 41 = .ok (.iadd, 1) := by decide +kernel
theorem dX3_removeFirst_42 : decode cX3_removeFirst 42 = .ok (.sipush 4096, 3) := by decide +kernel
theorem dX3_removeFirst_45 : decode cX3_removeFirst 45 = .ok (.irem, 1) := by decide +kernel
theorem dX3_removeFirst_46 : decode cX3_removeFirst 46 = .ok (.putfield 65, 3) := by decide +kernel
theorem dX3_removeFirst_49 : decode cX3_removeFirst 49 = .ok (.aload_n 0, 1) := by decide +kernel
theorem dX3_removeFirst_50 : decode cX3_removeFirst 50 = .ok (.dup, 1) := by decide +kernel
theorem dX3_removeFirst_51 : decode cX3_removeFirst 51 = .ok (.getfield 62, 3) := by decide +kernel
theorem dX3_removeFirst_54 : decode cX3_removeFirst 54 = .ok (.aload_n 0, 1) := by decide +kernel
theorem dX3_removeFirst_55 : decode cX3_removeFirst 55 = .ok (.getfield 11, 3) := by decide +kernel
theorem dX3_removeFirst_58 : decode cX3_removeFirst 58 = .ok (.aload_n 0, 1) := by decide +kernel
theorem dX3_removeFirst_59 : decode cX3_removeFirst 59 = .ok (.getfield 28, 3) := by decide +kernel
theorem dX3_removeFirst_62 : decode cX3_removeFirst 62 = .ok (.aaload, 1) := by decide +kernel
theorem dX3_removeFirst_63 : decode cX3_removeFirst 63 = .ok (.getfield 53, 3) := by decide +kernel
theorem dX3_removeFirst_66 : decode cX3_removeFirst 66 = .ok (.isub, 1) := by decide +kernel
theorem dX3_removeFirst_67 : decode cX3_removeFirst 67 = .ok (.putfield 62, 3) := by decide +kernel
theorem dX3_removeFirst_70 : decode cX3_removeFirst 70 = .ok (.aload_n 0, 1) := by decide +kernel
theorem dX3_removeFirst_71 : decode cX3_removeFirst 71 = .ok (.aload_n 0, 1) := by decide +kernel
theorem dX3_removeFirst_72 : decode cX3_removeFirst 72 = .ok (.getfield 28, 3) := by decide +kernel
theorem dX3_removeFirst_75 : decode cX3_removeFirst 75 = .ok (.iconst 1, 1) := by decide +kernel
theorem dX3_removeFirst_76 : decode cX3_removeFirst 76 = .ok (.iadd, 1) := by decide +kernel
theorem dX3_removeFirst_77 : decode cX3_removeFirst 77 = .ok (.bipush 16, 2) := by decide +kernel
theorem dX3_removeFirst_79 : decode cX3_removeFirst 79 = .ok (.irem, 1) := by decide +kernel
theorem dX3_removeFirst_80 : decode cX3_removeFirst 80 = .ok (.putfield 28, 3) := by decide +kernel
theorem dX3_removeFirst_83 : decode cX3_removeFirst 83 = .ok (.aload_n 0, 1) := by decide +kernel
theorem dX3_removeFirst_84 : decode cX3_removeFirst 84 = .ok (.dup, 1) := by decide +kernel
theorem dX3_removeFirst_85 : decode cX3_removeFirst 85 = .ok (.getfield 20, 3) := by decide +kernel
theorem dX3_removeFirst_88 : decode cX3_removeFirst 88 = .ok (.iconst 1, 1) := by decide +kernel
theorem dX3_removeFirst_89 : decode cX3_removeFirst 89 = .ok (.isub, 1) := by decide +kernel
theorem dX3_removeFirst_90 : decode cX3_removeFirst 90 = .ok (.putfield 20, 3) := by decide +kernel
theorem dX3_removeFirst_93 : decode cX3_removeFirst 93 = .ok (.iconst 1, 1) := by decide +kernel
theorem dX3_removeFirst_94 : decode cX3_removeFirst 94 = .ok (.ireturn, 1) := by decide +kernel
theorem dX4_init_0 : decode cX4_init 0 = .ok (.aload_n 0, 1) := by decide +kernel
theorem dX4_init_1 : decode cX4_init 1 = .ok (.invokespecial 1, 3) := by decide +kernel
theorem dX4_init_4 : decode cX4_init 4 = .ok (.return_, 1) := by decide +kernel
theorem dX4_isSize_0 : decode cX4_isSize 0 = .ok (.lload_n 0, 1) := by decide +kernel
theorem dX4_isSize_1 : decode cX4_isSize 1 = .ok (.lconst 1, 1) := by decide +kernel
theorem dX4_isSize_2 : decode cX4_isSize 2 = .ok (.lcmp, 1) := by decide +kernel
theorem dX4_isSize_3 : decode cX4_isSize 3 = .ok (.ifCond .eq 35, 3) := by decide +kernel
theorem dX4_isSize_6 : decode cX4_isSize 6 = .ok (.lload_n 0, 1) := by decide +kernel
theorem dX4_isSize_7 : decode cX4_isSize 7 = .ok (.ldc2_w 7, 3) := by decide +kernel
theorem dX4_isSize_10 : decode cX4_isSize 10 = .ok (.lcmp, 1) := by decide +kernel
theorem dX4_isSize_11 : decode cX4_isSize 11 = .ok (.ifCond .eq 27, 3) := by decide +kernel
theorem dX4_isSize_14 : decode cX4_isSize 14 = .ok (.lload_n 0, 1) := by decide +kernel
theorem dX4_isSize_15 : decode cX4_isSize 15 = .ok (.ldc2_w 9, 3) := by decide +kernel
theorem dX4_isSize_18 : decode cX4_isSize 18 = .ok (.lcmp, 1) := by decide +kernel
theorem dX4_isSize_19 : decode cX4_isSize 19 = .ok (.ifCond .eq 19, 3) := by decide +kernel
theorem dX4_isSize_22 : decode cX4_isSize 22 = .ok (.lload_n 0, 1) := by decide +kernel
theorem dX4_isSize_23 : decode cX4_isSize 23 = .ok (.ldc2_w 11, 3) := by decide +kernel
theorem dX4_isSize_26 : decode cX4_isSize 26 = .ok (.lcmp, 1) := by decide +kernel
theorem dX4_isSize_27 : decode cX4_isSize 27 = .ok (.ifCond .eq 11, 3) := by decide +kernel
theorem dX4_isSize_30 : decode cX4_isSize 30 = .ok (.lload_n 0, 1) := by decide +kernel
theorem dX4_isSize_31 : decode cX4_isSize 31 = .ok (.ldc2_w 13, 3) := by decide +kernel
theorem dX4_isSize_34 : decode cX4_isSize 34 = .ok (.lcmp, 1) := by decide +kernel
theorem dX4_isSize_35 : decode cX4_isSize 35 = .ok (.ifCond .ne 7, 3) := by decide +kernel
theorem dX4_isSize_38 : decode cX4_isSize 38 = .ok (.iconst 1, 1) := by decide +kernel
theorem dX4_isSize_39 : decode cX4_isSize 39 = .ok (.goto 4, 3) := by decide +kernel
theorem dX4_isSize_42 : decode cX4_isSize 42 = .ok (.iconst 0, 1) := by decide +kernel
theorem dX4_isSize_43 : decode cX4_isSize 43 = .ok (.ireturn, 1) := by decide +kernel
theorem dX4_choose_0 : decode cX4_choose 0 = .ok (.aload_n 0, 1) := by decide +kernel
theorem dX4_choose_1 : decode cX4_choose 1 = .ok (.iload_n 1, 1) := by decide +kernel
theorem dX4_choose_2 : decode cX4_choose 2 = .ok (.putfield 15, 3) := by decide +kernel
theorem dX4_choose_5 : decode cX4_choose 5 = .ok (.aload_n 0, 1) := by decide +kernel
theorem dX4_choose_6 : decode cX4_choose 6 = .ok (.iload_n 2, 1) := by decide +kernel
theorem dX4_choose_7 : decode cX4_choose 7 = .ok (.putfield 21, 3) := by decide +kernel
theorem dX4_choose_10 : decode cX4_choose 10 = .ok (.aload_n 0, 1) := by decide +kernel
theorem dX4_choose_11 : decode cX4_choose 11 = .ok (.getfield 21, 3) := by decide +kernel
theorem dX4_choose_14 : decode cX4_choose 14 = .ok (.iconst 1, 1) := by decide +kernel
theorem dX4_choose_15 : decode cX4_choose 15 = .ok (.if_icmp .eq 11, 3) := by decide +kernel
theorem dX4_choose_18 : decode cX4_choose 18 = .ok (.aload_n 0, 1) := by decide +kernel
theorem dX4_choose_19 : decode cX4_choose 19 = .ok (.getfield 21, 3) := by decide +kernel
theorem dX4_choose_22 : decode cX4_choose 22 = .ok (.iconst 3, 1) := by decide +kernel
theorem dX4_choose_23 : decode cX4_choose 23 = .ok (.if_icmp .ne 7, 3) := by decide +kernel
theorem dX4_choose_26 : decode cX4_choose 26 = .ok (.iconst 1, 1) := by decide +kernel
theorem dX4_choose_27 : decode cX4_choose 27 = .ok (.goto 4, 3) := by decide +kernel
theorem dX4_choose_30 : decode cX4_choose 30 = .ok (.iconst 0, 1) := by decide +kernel
theorem dX4_choose_31 : decode cX4_choose 31 = .ok (.istore_n 3, 1) := by decide +kernel
theorem dX4_choose_32 : decode cX4_choose 32 = .ok (.aload_n 0, 1) := by decide +kernel
theorem dX4_choose_33 : decode cX4_choose 33 = .ok (.iload_n 3, 1) := by decide +kernel
theorem dX4_choose_34 : decode cX4_choose 34 = .ok (.ifCond .eq 14, 3) := by decide +kernel
theorem dX4_choose_37 : decode cX4_choose 37 = .ok (.aload_n 0, 1) := by decide +kernel
theorem dX4_choose_38 : decode cX4_choose 38 = .ok (.invokevirtual 24, 3) := by decide +kernel
theorem dX4_choose_41 : decode cX4_choose 41 = .ok (.sipush 2880, 3) := by decide +kernel
theorem dX4_choose_44 : decode cX4_choose 44 = .ok (.isub, 1) := by decide +kernel
theorem dX4_choose_45 : decode cX4_choose 45 = .ok (.goto 11, 3) := by decide +kernel
theorem dX4_choose_48 : decode cX4_choose 48 = .ok (.aload_n 0, 1) := by decide +kernel
theorem dX4_choose_49 : decode cX4_choose 49 = .ok (.invokevirtual 28, 3) := by decide +kernel
theorem dX4_choose_52 : decode cX4_choose 52 = .ok (.sipush 3600, 3) := by decide +kernel
theorem dX4_choose_55 : decode cX4_choose 55 = .ok (.isub, 1) := by decide +kernel
theorem dX4_choose_56 : decode cX4_choose 56 = .ok (.putfield 31, 3) := by decide +kernel
theorem dX4_choose_59 : decode cX4_choose 59 = .ok (.aload_n 0, 1) := by decide +kernel
theorem dX4_choose_60 : decode cX4_choose 60 = .ok (.iload_n 3, 1) := by decide +kernel
theorem dX4_choose_61 : decode cX4_choose 61 = .ok (.ifCond .eq 10, 3) := by decide +kernel
theorem dX4_choose_64 : decode cX4_choose 64 = .ok (.aload_n 0, 1) := by decide +kernel
theorem dX4_choose_65 : decode cX4_choose 65 = .ok (.invokevirtual 28, 3) := by decide +kernel
theorem dX4_choose_68 : decode cX4_choose 68 = .ok (.goto 7, 3) := by decide +kernel
theorem dX4_choose_71 : decode cX4_choose 71 = .ok (.aload_n 0, 1) := by decide +kernel
theorem dX4_choose_72 : decode cX4_choose 72 = .ok (.invokevirtual 24, 3) := by decide +kernel
theorem dX4_choose_75 : decode cX4_choose 75 = .ok (.putfield 34, 3) := by decide +kernel
theorem dX4_choose_78 : decode cX4_choose 78 = .ok (.return_, 1) := by decide +kernel
theorem dX4_shortSide_0 : decode cX4_shortSide 0 = .ok (.aload_n 0, 1) := by decide +kernel
theorem dX4_shortSide_1 : decode cX4_shortSide 1 = .ok (.getfield 15, 3) := by decide +kernel
theorem dX4_shortSide_4 : decode cX4_shortSide 4 = .ok (.lookupswitch 45 #[(1, 36), (6, 39), (26, 42)], 36) := by decide +kernel
theorem dX4_shortSide_40 : decode cX4_shortSide 40 = .ok (.ldc 37, 2) := by decide +kernel
theorem dX4_shortSide_42 : decode cX4_shortSide 42 = .ok (.ireturn, 1) := by decide +kernel
theorem dX4_shortSide_43 : decode cX4_shortSide 43 = .ok (.ldc 38, 2) := by decide +kernel
theorem dX4_shortSide_45 : decode cX4_shortSide 45 = .ok (.ireturn, 1) := by decide +kernel
theorem dX4_shortSide_46 : decode cX4_shortSide 46 = .ok (.ldc 39, 2) := by decide +kernel
theorem dX4_shortSide_48 : decode cX4_shortSide 48 = .ok (.ireturn, 1) := by decide +kernel
theorem dX4_shortSide_49 : decode cX4_shortSide 49 = .ok (.ldc 40, 2) := by decide +kernel
theorem dX4_shortSide_51 : decode cX4_shortSide 51 = .ok (.ireturn, 1) := by decide +kernel
theorem dX4_longSide_0 : decode cX4_longSide 0 = .ok (.aload_n 0, 1) := by decide +kernel
theorem dX4_longSide_1 : decode cX4_longSide 1 = .ok (.getfield 15, 3) := by decide +kernel
theorem dX4_longSide_4 : decode cX4_longSide 4 = .ok (.lookupswitch 56 #[(1, 44), (3, 47), (6, 50), (26, 53)], 44) := by decide +kernel
theorem dX4_longSide_48 : decode cX4_longSide 48 = .ok (.ldc 41, 2) := by decide +kernel
theorem dX4_longSide_50 : decode cX4_longSide 50 = .ok (.ireturn, 1) := by decide +kernel
theorem dX4_longSide_51 : decode cX4_longSide 51 = .ok (.ldc 42, 2) := by decide +kernel
theorem dX4_longSide_53 : decode cX4_longSide 53 = .ok (.ireturn, 1) := by decide +kernel
theorem dX4_longSide_54 : decode cX4_longSide 54 = .ok (.ldc 43, 2) := by decide +kernel
theorem dX4_longSide_56 : decode cX4_longSide 56 = .ok (.ireturn, 1) := by decide +kernel
theorem dX4_longSide_57 : decode cX4_longSide 57 = .ok (.ldc 44, 2) := by decide +kernel
theorem dX4_longSide_59 : decode cX4_longSide 59 = .ok (.ireturn, 1) := by decide +kernel
theorem dX4_longSide_60 : decode cX4_longSide 60 = .ok (.ldc 38, 2) := by decide +kernel
theorem dX4_longSide_62 : decode cX4_longSide 62 = .ok (.ireturn, 1) := by decide +kernel
theorem dX5_init_0 : decode cX5_init 0 = .ok (.aload_n 0, 1) := by decide +kernel
theorem dX5_init_1 : decode cX5_init 1 = .ok (.invokespecial 3, 3) := by decide +kernel
theorem dX5_init_4 : decode cX5_init 4 = .ok (.return_, 1) := by decide +kernel
theorem dX5_isUnderWay_0 : decode cX5_isUnderWay 0 = .ok (.aload_n 0, 1) := by decide +kernel
theorem dX5_isUnderWay_1 : decode cX5_isUnderWay 1 = .ok (.getfield 9, 3) := by decide +kernel
theorem dX5_isUnderWay_4 : decode cX5_isUnderWay 4 = .ok (.ifCond .ne 10, 3) := by decide +kernel
theorem dX5_isUnderWay_7 : decode cX5_isUnderWay 7 = .ok (.aload_n 0, 1) := by decide +kernel
theorem dX5_isUnderWay_8 : decode cX5_isUnderWay 8 = .ok (.getfield 15, 3) := by decide +kernel
theorem dX5_isUnderWay_11 : decode cX5_isUnderWay 11 = .ok (.ifCond .le 7, 3) := by decide +kernel
theorem dX5_isUnderWay_14 : decode cX5_isUnderWay 14 = .ok (.iconst 1, 1) := by decide +kernel
theorem dX5_isUnderWay_15 : decode cX5_isUnderWay 15 = .ok (.goto 4, 3) := by decide +kernel
theorem dX5_isUnderWay_18 : decode cX5_isUnderWay 18 = .ok (.iconst 0, 1) := by decide +kernel
theorem dX5_isUnderWay_19 : decode cX5_isUnderWay 19 = .ok (.ireturn, 1) := by decide +kernel
theorem dX5_hasText_0 : decode cX5_hasText 0 = .ok (.aload_n 0, 1) := by decide +kernel
theorem dX5_hasText_1 : decode cX5_hasText 1 = .ok (.getfield 18, 3) := by decide +kernel
theorem dX5_hasText_4 : decode cX5_hasText 4 = .ok (.bipush 38, 2) := by decide +kernel
theorem dX5_hasText_6 : decode cX5_hasText 6 = .ok (.if_icmp .ne 25, 3) := by decide +kernel
theorem dX5_hasText_9 : decode cX5_hasText 9 = .ok (.aload_n 0, 1) := by decide +kernel
theorem dX5_hasText_10 : decode cX5_hasText 10 = .ok (.getfield 21, 3) := by decide +kernel
theorem dX5_hasText_13 : decode cX5_hasText 13 = .ok (.bipush 112, 2) := by decide +kernel
theorem dX5_hasText_15 : decode cX5_hasText 15 = .ok (.if_icmp .ne 16, 3) := by decide +kernel
theorem dX5_hasText_18 : decode cX5_hasText 18 = .ok (.aload_n 0, 1) := by decide +kernel
theorem dX5_hasText_19 : decode cX5_hasText 19 = .ok (.getfield 24, 3) := by decide +kernel
theorem dX5_hasText_22 : decode cX5_hasText 22 = .ok (.bipush 88, 2) := by decide +kernel
theorem dX5_hasText_24 : decode cX5_hasText 24 = .ok (.if_icmp .ne 7, 3) := by decide +kernel
theorem dX5_hasText_27 : decode cX5_hasText 27 = .ok (.iconst 1, 1) := by decide +kernel
theorem dX5_hasText_28 : decode cX5_hasText 28 = .ok (.goto 4, 3) := by decide +kernel
theorem dX5_hasText_31 : decode cX5_hasText 31 = .ok (.iconst 0, 1) := by decide +kernel
theorem dX5_hasText_32 : decode cX5_hasText 32 = .ok (.ireturn, 1) := by decide +kernel
theorem dX5_accept_0 : decode cX5_accept 0 = .ok (.aload_n 0, 1) := by decide +kernel
theorem dX5_accept_1 : decode cX5_accept 1 = .ok (.getfield 15, 3) := by decide +kernel
theorem dX5_accept_4 : decode cX5_accept 4 = .ok (.ifCond .le 26, 3) := by decide +kernel
theorem dX5_accept_7 : decode cX5_accept 7 = .ok (.aload_n 0, 1) := by decide +kernel
theorem dX5_accept_8 : decode cX5_accept 8 = .ok (.dup, 1) := by decide +kernel
theorem dX5_accept_9 : decode cX5_accept 9 = .ok (.getfield 15, 3) := by decide +kernel
theorem dX5_accept_12 : decode cX5_accept 12 = .ok (.iconst 1, 1) := by decide +kernel
theorem dX5_accept_13 : decode cX5_accept 13 = .ok (.isub, 1) := by decide +kernel
theorem dX5_accept_14 : decode cX5_accept 14 = .ok (.putfield 15, 3) := by decide +kernel
theorem dX5_accept_17 : decode cX5_accept 17 = .ok (.aload_n 0, 1) := by decide +kernel
theorem dX5_accept_18 : decode cX5_accept 18 = .ok (.invokevirtual 27, 3) := by decide +kernel
theorem dX5_accept_21 : decode cX5_accept 21 = .ok (.ifCond .eq 7, 3) := by decide +kernel
theorem dX5_accept_24 : decode cX5_accept 24 = .ok (.iconst 1, 1) := by decide +kernel
theorem dX5_accept_25 : decode cX5_accept 25 = .ok (.goto 4, 3) := by decide +kernel
theorem dX5_accept_28 : decode cX5_accept 28 = .ok (.iconst 5, 1) := by decide +kernel
theorem dX5_accept_29 : decode cX5_accept 29 = .ok (.ireturn, 1) := by decide +kernel
theorem dX5_accept_30 : decode cX5_accept 30 = .ok (.iload_n 1, 1) := by decide +kernel
theorem dX5_accept_31 : decode cX5_accept 31 = .ok (.bipush 27, 2) := by decide +kernel
theorem dX5_accept_33 : decode cX5_accept 33 = .ok (.if_icmp .ne 10, 3) := by decide +kernel
theorem dX5_accept_36 : decode cX5_accept 36 = .ok (.aload_n 0, 1) := by decide +kernel
theorem dX5_accept_37 : decode cX5_accept 37 = .ok (.iconst 1, 1) := by decide +kernel
theorem dX5_accept_38 : decode cX5_accept 38 = .ok (.putfield 9, 3) := by decide +kernel
theorem dX5_accept_41 : decode cX5_accept 41 = .ok (.iconst 0, 1) := by decide +kernel
theorem dX5_accept_42 : decode cX5_accept 42 = .ok (.ireturn, 1) := by decide +kernel
theorem dX5_accept_43 : decode cX5_accept 43 = .ok (.aload_n 0, 1) := by decide +kernel
theorem dX5_accept_44 : decode cX5_accept 44 = .ok (.getfield 9, 3) := by decide +kernel
theorem dX5_accept_47 : decode cX5_accept 47 = .ok (.tableswitch 43 1 3 #[25, 31, 37], 25) := by decide +kernel
theorem dX5_accept_72 : decode cX5_accept 72 = .ok (.aload_n 0, 1) := by decide +kernel
theorem dX5_accept_73 : decode cX5_accept 73 = .ok (.iload_n 1, 1) := by decide +kernel
theorem dX5_accept_74 : decode cX5_accept 74 = .ok (.invokevirtual 31, 3) := by decide +kernel
theorem dX5_accept_77 : decode cX5_accept 77 = .ok (.ireturn, 1) := by decide +kernel
theorem dX5_accept_78 : decode cX5_accept 78 = .ok (.aload_n 0, 1) := by decide +kernel
theorem dX5_accept_79 : decode cX5_accept 79 = .ok (.iload_n 1, 1) := by decide +kernel
theorem dX5_accept_80 : decode cX5_accept 80 = .ok (.invokevirtual 35, 3) := by decide +kernel
theorem dX5_accept_83 : decode cX5_accept 83 = .ok (.ireturn, 1) := by decide +kernel
theorem dX5_accept_84 : decode cX5_accept 84 = .ok (.aload_n 0, 1) := by decide +kernel
theorem dX5_accept_85 : decode cX5_accept 85 = .ok (.iload_n 1, 1) := by decide +kernel
theorem dX5_accept_86 : decode cX5_accept 86 = .ok (.invokevirtual 38, 3) := by decide +kernel
theorem dX5_accept_89 : decode cX5_accept 89 = .ok (.ireturn, 1) := by decide +kernel
theorem dX5_accept_90 : decode cX5_accept 90 = .ok (.iload_n 1, 1) := by decide +kernel
theorem dX5_accept_91 : decode cX5_accept 91 = .ok (.bipush 32, 2) := by decide +kernel
theorem dX5_accept_93 : decode cX5_accept 93 = .ok (.if_icmp .lt 7, 3) := by decide +kernel
theorem dX5_accept_96 : decode cX5_accept 96 = .ok (.iconst 1, 1) := by decide +kernel
theorem dX5_accept_97 : decode cX5_accept 97 = .ok (.goto 4, 3) := by decide +kernel
theorem dX5_accept_100 : decode cX5_accept 100 = .ok (.iconst 2, 1) := by decide +kernel
theorem dX5_accept_101 : decode cX5_accept 101 = .ok (.ireturn, 1) := by decide +kernel
theorem dX5_behindEsc_0 : decode cX5_behindEsc 0 = .ok (.iload_n 1, 1) := by decide +kernel
theorem dX5_behindEsc_1 : decode cX5_behindEsc 1 = .ok (.bipush 48, 2) := by decide +kernel
theorem dX5_behindEsc_3 : decode cX5_behindEsc 3 = .ok (.if_icmp .lt 16, 3) := by decide +kernel
theorem dX5_behindEsc_6 : decode cX5_behindEsc 6 = .ok (.iload_n 1, 1) := by decide +kernel
theorem dX5_behindEsc_7 : decode cX5_behindEsc 7 = .ok (.bipush 126, 2) := by decide +kernel
theorem dX5_behindEsc_9 : decode cX5_behindEsc 9 = .ok (.if_icmp .gt 10, 3) := by decide +kernel
theorem dX5_behindEsc_12 : decode cX5_behindEsc 12 = .ok (.aload_n 0, 1) := by decide +kernel
theorem dX5_behindEsc_13 : decode cX5_behindEsc 13 = .ok (.iconst 0, 1) := by decide +kernel
theorem dX5_behindEsc_14 : decode cX5_behindEsc 14 = .ok (.putfield 9, 3) := by decide +kernel
theorem dX5_behindEsc_17 : decode cX5_behindEsc 17 = .ok (.iconst 3, 1) := by decide +kernel
theorem dX5_behindEsc_18 : decode cX5_behindEsc 18 = .ok (.ireturn, 1) := by decide +kernel
theorem dX5_behindEsc_19 : decode cX5_behindEsc 19 = .ok (.iload_n 1, 1) := by decide +kernel
theorem dX5_behindEsc_20 : decode cX5_behindEsc 20 = .ok (.bipush 33, 2) := by decide +kernel
theorem dX5_behindEsc_22 : decode cX5_behindEsc 22 = .ok (.if_icmp .lt 26, 3) := by decide +kernel
theorem dX5_behindEsc_25 : decode cX5_behindEsc 25 = .ok (.iload_n 1, 1) := by decide +kernel
theorem dX5_behindEsc_26 : decode cX5_behindEsc 26 = .ok (.bipush 47, 2) := by decide +kernel
theorem dX5_behindEsc_28 : decode cX5_behindEsc 28 = .ok (.if_icmp .gt 20, 3) := by decide +kernel
theorem dX5_behindEsc_31 : decode cX5_behindEsc 31 = .ok (.aload_n 0, 1) := by decide +kernel
theorem dX5_behindEsc_32 : decode cX5_behindEsc 32 = .ok (.iload_n 1, 1) := by decide +kernel
theorem dX5_behindEsc_33 : decode cX5_behindEsc 33 = .ok (.putfield 18, 3) := by decide +kernel
theorem dX5_behindEsc_36 : decode cX5_behindEsc 36 = .ok (.aload_n 0, 1) := by decide +kernel
theorem dX5_behindEsc_37 : decode cX5_behindEsc 37 = .ok (.iconst 0, 1) := by decide +kernel
theorem dX5_behindEsc_38 : decode cX5_behindEsc 38 = .ok (.putfield 21, 3) := by decide +kernel
theorem dX5_behindEsc_41 : decode cX5_behindEsc 41 = .ok (.aload_n 0, 1) := by decide +kernel
theorem dX5_behindEsc_42 : decode cX5_behindEsc 42 = .ok (.iconst 2, 1) := by decide +kernel
theorem dX5_behindEsc_43 : decode cX5_behindEsc 43 = .ok (.putfield 9, 3) := by decide +kernel
theorem dX5_behindEsc_46 : decode cX5_behindEsc 46 = .ok (.iconst 0, 1) := by decide +kernel
theorem dX5_behindEsc_47 : decode cX5_behindEsc 47 = .ok (.ireturn, 1) := by decide +kernel
theorem dX5_behindEsc_48 : decode cX5_behindEsc 48 = .ok (.aload_n 0, 1) := by decide +kernel
theorem dX5_behindEsc_49 : decode cX5_behindEsc 49 = .ok (.iconst 0, 1) := by decide +kernel
theorem dX5_behindEsc_50 : decode cX5_behindEsc 50 = .ok (.putfield 9, 3) := by decide +kernel
theorem dX5_behindEsc_53 : decode cX5_behindEsc 53 = .ok (.iconst 0, 1) := by decide +kernel
theorem dX5_behindEsc_54 : decode cX5_behindEsc 54 = .ok (.ireturn, 1) := by decide +kernel
theorem dX5_behindFamily_0 : decode cX5_behindFamily 0 = .ok (.aload_n 0, 1) := by decide +kernel
theorem dX5_behindFamily_1 : decode cX5_behindFamily 1 = .ok (.iconst 3, 1) := by decide +kernel
theorem dX5_behindFamily_2 : decode cX5_behindFamily 2 = .ok (.putfield 9, 3) := by decide +kernel
theorem dX5_behindFamily_5 : decode cX5_behindFamily 5 = .ok (.aload_n 0, 1) := by decide +kernel
theorem dX5_behindFamily_6 : decode cX5_behindFamily 6 = .ok (.invokevirtual 41, 3) := by decide +kernel
theorem dX5_behindFamily_9 : decode cX5_behindFamily 9 = .ok (.iload_n 1, 1) := by decide +kernel
theorem dX5_behindFamily_10 : decode cX5_behindFamily 10 = .ok (.bipush 96, 2) := by decide +kernel
theorem dX5_behindFamily_12 : decode cX5_behindFamily 12 = .ok (.if_icmp .lt 16, 3) := by decide +kernel
theorem dX5_behindFamily_15 : decode cX5_behindFamily 15 = .ok (.iload_n 1, 1) := by decide +kernel
theorem dX5_behindFamily_16 : decode cX5_behindFamily 16 = .ok (.bipush 126, 2) := by decide +kernel
theorem dX5_behindFamily_18 : decode cX5_behindFamily 18 = .ok (.if_icmp .gt 10, 3) := by decide +kernel
theorem dX5_behindFamily_21 : decode cX5_behindFamily 21 = .ok (.aload_n 0, 1) := by decide +kernel
theorem dX5_behindFamily_22 : decode cX5_behindFamily 22 = .ok (.iload_n 1, 1) := by decide +kernel
theorem dX5_behindFamily_23 : decode cX5_behindFamily 23 = .ok (.putfield 21, 3) := by decide +kernel
theorem dX5_behindFamily_26 : decode cX5_behindFamily 26 = .ok (.iconst 0, 1) := by decide +kernel
theorem dX5_behindFamily_27 : decode cX5_behindFamily 27 = .ok (.ireturn, 1) := by decide +kernel
theorem dX5_behindFamily_28 : decode cX5_behindFamily 28 = .ok (.aload_n 0, 1) := by decide +kernel
theorem dX5_behindFamily_29 : decode cX5_behindFamily 29 = .ok (.iload_n 1, 1) := by decide +kernel
theorem dX5_behindFamily_30 : decode cX5_behindFamily 30 = .ok (.invokevirtual 38, 3) := by decide +kernel
theorem dX5_behindFamily_33 : decode cX5_behindFamily 33 = .ok (.ireturn, 1) := by decide +kernel
theorem dX5_beginField_0 : decode cX5_beginField 0 = .ok (.aload_n 0, 1) := by decide +kernel
theorem dX5_beginField_1 : decode cX5_beginField 1 = .ok (.iconst 0, 1) := by decide +kernel
theorem dX5_beginField_2 : decode cX5_beginField 2 = .ok (.putfield 44, 3) := by decide +kernel
theorem dX5_beginField_5 : decode cX5_beginField 5 = .ok (.aload_n 0, 1) := by decide +kernel
theorem dX5_beginField_6 : decode cX5_beginField 6 = .ok (.iconst 0, 1) := by decide +kernel
theorem dX5_beginField_7 : decode cX5_beginField 7 = .ok (.putfield 47, 3) := by decide +kernel
theorem dX5_beginField_10 : decode cX5_beginField 10 = .ok (.aload_n 0, 1) := by decide +kernel
theorem dX5_beginField_11 : decode cX5_beginField 11 = .ok (.iconst 0, 1) := by decide +kernel
theorem dX5_beginField_12 : decode cX5_beginField 12 = .ok (.putfield 51, 3) := by decide +kernel
theorem dX5_beginField_15 : decode cX5_beginField 15 = .ok (.aload_n 0, 1) := by decide +kernel
theorem dX5_beginField_16 : decode cX5_beginField 16 = .ok (.iconst 0, 1) := by decide +kernel
theorem dX5_beginField_17 : decode cX5_beginField 17 = .ok (.putfield 54, 3) := by decide +kernel
theorem dX5_beginField_20 : decode cX5_beginField 20 = .ok (.aload_n 0, 1) := by decide +kernel
theorem dX5_beginField_21 : decode cX5_beginField 21 = .ok (.iconst 0, 1) := by decide +kernel
theorem dX5_beginField_22 : decode cX5_beginField 22 = .ok (.putfield 57, 3) := by decide +kernel
theorem dX5_beginField_25 : decode cX5_beginField 25 = .ok (.aload_n 0, 1) := by decide +kernel
theorem dX5_beginField_26 : decode cX5_beginField 26 = .ok (.sipush 1000, 3) := by decide +kernel
theorem dX5_beginField_29 : decode cX5_beginField 29 = .ok (.putfield 60, 3) := by decide +kernel
theorem dX5_beginField_32 : decode cX5_beginField 32 = .ok (.return_, 1) := by decide +kernel
theorem dX5_inField_0 : decode cX5_inField 0 = .ok (.iload_n 1, 1) := by decide +kernel
theorem dX5_inField_1 : decode cX5_inField 1 = .ok (.bipush 96, 2) := by decide +kernel
theorem dX5_inField_3 : decode cX5_inField 3 = .ok (.if_icmp .lt 19, 3) := by decide +kernel
theorem dX5_inField_6 : decode cX5_inField 6 = .ok (.iload_n 1, 1) := by decide +kernel
theorem dX5_inField_7 : decode cX5_inField 7 = .ok (.bipush 126, 2) := by decide +kernel
theorem dX5_inField_9 : decode cX5_inField 9 = .ok (.if_icmp .gt 13, 3) := by decide +kernel
theorem dX5_inField_12 : decode cX5_inField 12 = .ok (.aload_n 0, 1) := by decide +kernel
theorem dX5_inField_13 : decode cX5_inField 13 = .ok (.iload_n 1, 1) := by decide +kernel
theorem dX5_inField_14 : decode cX5_inField 14 = .ok (.bipush 32, 2) := by decide +kernel
theorem dX5_inField_16 : decode cX5_inField 16 = .ok (.isub, 1) := by decide +kernel
theorem dX5_inField_17 : decode cX5_inField 17 = .ok (.invokevirtual 63, 3) := by decide +kernel
theorem dX5_inField_20 : decode cX5_inField 20 = .ok (.iconst 4, 1) := by decide +kernel
theorem dX5_inField_21 : decode cX5_inField 21 = .ok (.ireturn, 1) := by decide +kernel
theorem dX5_inField_22 : decode cX5_inField 22 = .ok (.iload_n 1, 1) := by decide +kernel
theorem dX5_inField_23 : decode cX5_inField 23 = .ok (.bipush 64, 2) := by decide +kernel
theorem dX5_inField_25 : decode cX5_inField 25 = .ok (.if_icmp .lt 21, 3) := by decide +kernel
theorem dX5_inField_28 : decode cX5_inField 28 = .ok (.iload_n 1, 1) := by decide +kernel
theorem dX5_inField_29 : decode cX5_inField 29 = .ok (.bipush 94, 2) := by decide +kernel
theorem dX5_inField_31 : decode cX5_inField 31 = .ok (.if_icmp .gt 15, 3) := by decide +kernel
theorem dX5_inField_34 : decode cX5_inField 34 = .ok (.aload_n 0, 1) := by decide +kernel
theorem dX5_inField_35 : decode cX5_inField 35 = .ok (.iconst 0, 1) := by decide +kernel
theorem dX5_inField_36 : decode cX5_inField 36 = .ok (.putfield 9, 3) := by decide +kernel
theorem dX5_inField_39 : decode cX5_inField 39 = .ok (.aload_n 0, 1) := by decide +kernel
theorem dX5_inField_40 : decode cX5_inField 40 = .ok (.iload_n 1, 1) := by decide +kernel
theorem dX5_inField_41 : decode cX5_inField 41 = .ok (.invokevirtual 63, 3) := by decide +kernel
theorem dX5_inField_44 : decode cX5_inField 44 = .ok (.iconst 4, 1) := by decide +kernel
theorem dX5_inField_45 : decode cX5_inField 45 = .ok (.ireturn, 1) := by decide +kernel
theorem dX5_inField_46 : decode cX5_inField 46 = .ok (.aload_n 0, 1) := by decide +kernel
theorem dX5_inField_47 : decode cX5_inField 47 = .ok (.iload_n 1, 1) := by decide +kernel
theorem dX5_inField_48 : decode cX5_inField 48 = .ok (.invokevirtual 67, 3) := by decide +kernel
theorem dX5_inField_51 : decode cX5_inField 51 = .ok (.ifCond .ne 8, 3) := by decide +kernel
theorem dX5_inField_54 : decode cX5_inField 54 = .ok (.aload_n 0, 1) := by decide +kernel
theorem dX5_inField_55 : decode cX5_inField 55 = .ok (.iconst 0, 1) := by decide +kernel
theorem dX5_inField_56 : decode cX5_inField 56 = .ok (.putfield 9, 3) := by decide +kernel
theorem dX5_inField_59 : decode cX5_inField 59 = .ok (.iconst 0, 1) := by decide +kernel
theorem dX5_inField_60 : decode cX5_inField 60 = .ok (.ireturn, 1) := by decide +kernel
theorem dX5_belongsToValue_0 : decode cX5_belongsToValue 0 = .ok (.iload_n 1, 1) := by decide +kernel
theorem dX5_belongsToValue_1 : decode cX5_belongsToValue 1 = .ok (.bipush 48, 2) := by decide +kernel
theorem dX5_belongsToValue_3 : decode cX5_belongsToValue 3 = .ok (.if_icmp .lt 19, 3) := by decide +kernel
theorem dX5_belongsToValue_6 : decode cX5_belongsToValue 6 = .ok (.iload_n 1, 1) := by decide +kernel
theorem dX5_belongsToValue_7 : decode cX5_belongsToValue 7 = .ok (.bipush 57, 2) := by decide +kernel
theorem dX5_belongsToValue_9 : decode cX5_belongsToValue 9 = .ok (.if_icmp .gt 13, 3) := by decide +kernel
theorem dX5_belongsToValue_12 : decode cX5_belongsToValue 12 = .ok (.aload_n 0, 1) := by decide +kernel
theorem dX5_belongsToValue_13 : decode cX5_belongsToValue 13 = .ok (.iload_n 1, 1) := by decide +kernel
theorem dX5_belongsToValue_14 : decode cX5_belongsToValue 14 = .ok (.bipush 48, 2) := by decide +kernel
theorem dX5_belongsToValue_16 : decode cX5_belongsToValue 16 = .ok (.isub, 1) := by decide +kernel
theorem dX5_belongsToValue_17 : decode cX5_belongsToValue 17 = .ok (.invokevirtual 71, 3) := by decide +kernel
theorem dX5_belongsToValue_20 : decode cX5_belongsToValue 20 = .ok (.iconst 1, 1) := by decide +kernel
theorem dX5_belongsToValue_21 : decode cX5_belongsToValue 21 = .ok (.ireturn, 1) := by decide +kernel
theorem dX5_belongsToValue_22 : decode cX5_belongsToValue 22 = .ok (.iload_n 1, 1) := by decide +kernel
theorem dX5_belongsToValue_23 : decode cX5_belongsToValue 23 = .ok (.bipush 46, 2) := by decide +kernel
theorem dX5_belongsToValue_25 : decode cX5_belongsToValue 25 = .ok (.if_icmp .ne 18, 3) := by decide +kernel
theorem dX5_belongsToValue_28 : decode cX5_belongsToValue 28 = .ok (.aload_n 0, 1) := by decide +kernel
theorem dX5_belongsToValue_29 : decode cX5_belongsToValue 29 = .ok (.getfield 44, 3) := by decide +kernel
theorem dX5_belongsToValue_32 : decode cX5_belongsToValue 32 = .ok (.iconst 3, 1) := by decide +kernel
theorem dX5_belongsToValue_33 : decode cX5_belongsToValue 33 = .ok (.if_icmp .eq 10, 3) := by decide +kernel
theorem dX5_belongsToValue_36 : decode cX5_belongsToValue 36 = .ok (.aload_n 0, 1) := by decide +kernel
theorem dX5_belongsToValue_37 : decode cX5_belongsToValue 37 = .ok (.iconst 3, 1) := by decide +kernel
theorem dX5_belongsToValue_38 : decode cX5_belongsToValue 38 = .ok (.putfield 44, 3) := by decide +kernel
theorem dX5_belongsToValue_41 : decode cX5_belongsToValue 41 = .ok (.iconst 1, 1) := by decide +kernel
theorem dX5_belongsToValue_42 : decode cX5_belongsToValue 42 = .ok (.ireturn, 1) := by decide +kernel
theorem dX5_belongsToValue_43 : decode cX5_belongsToValue 43 = .ok (.iload_n 1, 1) := by decide +kernel
theorem dX5_belongsToValue_44 : decode cX5_belongsToValue 44 = .ok (.bipush 43, 2) := by decide +kernel
theorem dX5_belongsToValue_46 : decode cX5_belongsToValue 46 = .ok (.if_icmp .eq 9, 3) := by decide +kernel
theorem dX5_belongsToValue_49 : decode cX5_belongsToValue 49 = .ok (.iload_n 1, 1) := by decide +kernel
theorem dX5_belongsToValue_50 : decode cX5_belongsToValue 50 = .ok (.bipush 45, 2) := by decide +kernel
theorem dX5_belongsToValue_52 : decode cX5_belongsToValue 52 = .ok (.if_icmp .ne 47, 3) := by decide +kernel
theorem dX5_belongsToValue_55 : decode cX5_belongsToValue 55 = .ok (.aload_n 0, 1) := by decide +kernel
theorem dX5_belongsToValue_56 : decode cX5_belongsToValue 56 = .ok (.getfield 44, 3) := by decide +kernel
theorem dX5_belongsToValue_59 : decode cX5_belongsToValue 59 = .ok (.ifCond .ne 40, 3) := by decide +kernel
theorem dX5_belongsToValue_62 : decode cX5_belongsToValue 62 = .ok (.aload_n 0, 1) := by decide +kernel
theorem dX5_belongsToValue_63 : decode cX5_belongsToValue 63 = .ok (.iconst 1, 1) := by decide +kernel
theorem dX5_belongsToValue_64 : decode cX5_belongsToValue 64 = .ok (.putfield 44, 3) := by decide +kernel
theorem dX5_belongsToValue_67 : decode cX5_belongsToValue 67 = .ok (.aload_n 0, 1) := by decide +kernel
theorem dX5_belongsToValue_68 : decode cX5_belongsToValue 68 = .ok (.iload_n 1, 1) := by decide +kernel
theorem dX5_belongsToValue_69 : decode cX5_belongsToValue 69 = .ok (.bipush 43, 2) := by decide +kernel
theorem dX5_belongsToValue_71 : decode cX5_belongsToValue 71 = .ok (.if_icmp .ne 7, 3) := by decide +kernel
theorem dX5_belongsToValue_74 : decode cX5_belongsToValue 74 = .ok (.iconst 1, 1) := by decide +kernel
theorem dX5_belongsToValue_75 : decode cX5_belongsToValue 75 = .ok (.goto 4, 3) := by decide +kernel
theorem dX5_belongsToValue_78 : decode cX5_belongsToValue 78 = .ok (.iconst 0, 1) := by decide +kernel
theorem dX5_belongsToValue_79 : decode cX5_belongsToValue 79 = .ok (.putfield 47, 3) := by decide +kernel
theorem dX5_belongsToValue_82 : decode cX5_belongsToValue 82 = .ok (.aload_n 0, 1) := by decide +kernel
theorem dX5_belongsToValue_83 : decode cX5_belongsToValue 83 = .ok (.iload_n 1, 1) := by decide +kernel
theorem dX5_belongsToValue_84 : decode cX5_belongsToValue 84 = .ok (.bipush 45, 2) := by decide +kernel
theorem dX5_belongsToValue_86 : decode cX5_belongsToValue 86 = .ok (.if_icmp .ne 7, 3) := by decide +kernel
theorem dX5_belongsToValue_89 : decode cX5_belongsToValue 89 = .ok (.iconst 1, 1) := by decide +kernel
theorem dX5_belongsToValue_90 : decode cX5_belongsToValue 90 = .ok (.goto 4, 3) := by decide +kernel
theorem dX5_belongsToValue_93 : decode cX5_belongsToValue 93 = .ok (.iconst 0, 1) := by decide +kernel
theorem dX5_belongsToValue_94 : decode cX5_belongsToValue 94 = .ok (.putfield 51, 3) := by decide +kernel
theorem dX5_belongsToValue_97 : decode cX5_belongsToValue 97 = .ok (.iconst 1, 1) := by decide +kernel
theorem dX5_belongsToValue_98 : decode cX5_belongsToValue 98 = .ok (.ireturn, 1) := by decide +kernel
theorem dX5_belongsToValue_99 : decode cX5_belongsToValue 99 = .ok (.iconst 0, 1) := by decide +kernel
theorem dX5_belongsToValue_100 : decode cX5_belongsToValue 100 = .ok (.ireturn, 1) := by decide +kernel
theorem dX5_digit_0 : decode cX5_digit 0 = .ok (.aload_n 0, 1) := by decide +kernel
theorem dX5_digit_1 : decode cX5_digit 1 = .ok (.getfield 44, 3) := by decide +kernel
theorem dX5_digit_4 : decode cX5_digit 4 = .ok (.iconst 3, 1) := by decide +kernel
theorem dX5_digit_5 : decode cX5_digit 5 = .ok (.if_icmp .ne 32, 3) := by decide +kernel
theorem dX5_digit_8 : decode cX5_digit 8 = .ok (.aload_n 0, 1) := by decide +kernel
theorem dX5_digit_9 : decode cX5_digit 9 = .ok (.dup, 1) := by decide +kernel
theorem dX5_digit_10 : decode cX5_digit 10 = .ok (.getfield 57, 3) := by decide +kernel
theorem dX5_digit_13 : decode cX5_digit 13 = .ok (.iload_n 1, 1) := by decide +kernel
theorem dX5_digit_14 : decode cX5_digit 14 = .ok (.aload_n 0, 1) := by decide +kernel
theorem dX5_digit_15 : decode cX5_digit 15 = .ok (.getfield 60, 3) := by decide +kernel
theorem dX5_digit_18 : decode cX5_digit 18 = .ok (.imul, 1) := by decide +kernel
theorem dX5_digit_19 : decode cX5_digit 19 = .ok (.iadd, 1) := by decide +kernel
theorem dX5_digit_20 : decode cX5_digit 20 = .ok (.putfield 57, 3) := by decide +kernel
theorem dX5_digit_23 : decode cX5_digit 23 = .ok (.aload_n 0, 1) := by decide +kernel
theorem dX5_digit_24 : decode cX5_digit 24 = .ok (.dup, 1) := by decide +kernel
theorem dX5_digit_25 : decode cX5_digit 25 = .ok (.getfield 60, 3) := by decide +kernel
theorem dX5_digit_28 : decode cX5_digit 28 = .ok (.bipush 10, 2) := by decide +kernel
theorem dX5_digit_30 : decode cX5_digit 30 = .ok (.idiv, 1) := by decide +kernel
theorem dX5_digit_31 : decode cX5_digit 31 = .ok (.putfield 60, 3) := by decide +kernel
theorem dX5_digit_34 : decode cX5_digit 34 = .ok (.goto 27, 3) := by decide +kernel
theorem dX5_digit_37 : decode cX5_digit 37 = .ok (.aload_n 0, 1) := by decide +kernel
theorem dX5_digit_38 : decode cX5_digit 38 = .ok (.iconst 2, 1) := by decide +kernel
theorem dX5_digit_39 : decode cX5_digit 39 = .ok (.putfield 44, 3) := by decide +kernel
theorem dX5_digit_42 : decode cX5_digit 42 = .ok (.aload_n 0, 1) := by decide +kernel
theorem dX5_digit_43 : decode cX5_digit 43 = .ok (.sipush 32767, 3) := by decide +kernel
theorem dX5_digit_46 : decode cX5_digit 46 = .ok (.aload_n 0, 1) := by decide +kernel
theorem dX5_digit_47 : decode cX5_digit 47 = .ok (.getfield 54, 3) := by decide +kernel
theorem dX5_digit_50 : decode cX5_digit 50 = .ok (.bipush 10, 2) := by decide +kernel
theorem dX5_digit_52 : decode cX5_digit 52 = .ok (.imul, 1) := by decide +kernel
theorem dX5_digit_53 : decode cX5_digit 53 = .ok (.iload_n 1, 1) := by decide +kernel
theorem dX5_digit_54 : decode cX5_digit 54 = .ok (.iadd, 1) := by decide +kernel
theorem dX5_digit_55 : decode cX5_digit 55 = .ok (.invokestatic 74, 3) := by decide +kernel
theorem dX5_digit_58 : decode cX5_digit 58 = .ok (.putfield 54, 3) := by decide +kernel
theorem dX5_digit_61 : decode cX5_digit 61 = .ok (.return_, 1) := by decide +kernel
theorem dX5_endField_0 : decode cX5_endField 0 = .ok (.aload_n 0, 1) := by decide +kernel
theorem dX5_endField_1 : decode cX5_endField 1 = .ok (.getfield 54, 3) := by decide +kernel
theorem dX5_endField_4 : decode cX5_endField 4 = .ok (.sipush 10000, 3) := by decide +kernel
theorem dX5_endField_7 : decode cX5_endField 7 = .ok (.imul, 1) := by decide +kernel
theorem dX5_endField_8 : decode cX5_endField 8 = .ok (.aload_n 0, 1) := by decide +kernel
theorem dX5_endField_9 : decode cX5_endField 9 = .ok (.getfield 57, 3) := by decide +kernel
theorem dX5_endField_12 : decode cX5_endField 12 = .ok (.iadd, 1) := by decide +kernel
theorem dX5_endField_13 : decode cX5_endField 13 = .ok (.istore_n 2, 1) := by decide +kernel
theorem dX5_endField_14 : decode cX5_endField 14 = .ok (.aload_n 0, 1) := by decide +kernel
theorem dX5_endField_15 : decode cX5_endField 15 = .ok (.aload_n 0, 1) := by decide +kernel
theorem dX5_endField_16 : decode cX5_endField 16 = .ok (.getfield 51, 3) := by decide +kernel
theorem dX5_endField_19 : decode cX5_endField 19 = .ok (.ifCond .eq 8, 3) := by decide +kernel
theorem dX5_endField_22 : decode cX5_endField 22 = .ok (.iload_n 2, 1) := by decide +kernel
theorem dX5_endField_23 : decode cX5_endField 23 = .ok (.ineg, 1) := by decide +kernel
theorem dX5_endField_24 : decode cX5_endField 24 = .ok (.goto 4, 3) := by decide +kernel
theorem dX5_endField_27 : decode cX5_endField 27 = .ok (.iload_n 2, 1) := by decide +kernel
theorem dX5_endField_28 : decode cX5_endField 28 = .ok (.putfield 80, 3) := by decide +kernel
theorem dX5_endField_31 : decode cX5_endField 31 = .ok (.aload_n 0, 1) := by decide +kernel
theorem dX5_endField_32 : decode cX5_endField 32 = .ok (.aload_n 0, 1) := by decide +kernel
theorem dX5_endField_33 : decode cX5_endField 33 = .ok (.getfield 47, 3) := by decide +kernel
theorem dX5_endField_36 : decode cX5_endField 36 = .ok (.ifCond .ne 10, 3) := by decide +kernel
theorem dX5_endField_39 : decode cX5_endField 39 = .ok (.aload_n 0, 1) := by decide +kernel
theorem dX5_endField_40 : decode cX5_endField 40 = .ok (.getfield 51, 3) := by decide +kernel
theorem dX5_endField_43 : decode cX5_endField 43 = .ok (.ifCond .eq 7, 3) := by decide +kernel
theorem dX5_endField_46 : decode cX5_endField 46 = .ok (.iconst 1, 1) := by decide +kernel
theorem dX5_endField_47 : decode cX5_endField 47 = .ok (.goto 4, 3) := by decide +kernel
theorem dX5_endField_50 : decode cX5_endField 50 = .ok (.iconst 0, 1) := by decide +kernel
theorem dX5_endField_51 : decode cX5_endField 51 = .ok (.putfield 83, 3) := by decide +kernel
theorem dX5_endField_54 : decode cX5_endField 54 = .ok (.aload_n 0, 1) := by decide +kernel
theorem dX5_endField_55 : decode cX5_endField 55 = .ok (.iload_n 1, 1) := by decide +kernel
theorem dX5_endField_56 : decode cX5_endField 56 = .ok (.putfield 24, 3) := by decide +kernel
theorem dX5_endField_59 : decode cX5_endField 59 = .ok (.aload_n 0, 1) := by decide +kernel
theorem dX5_endField_60 : decode cX5_endField 60 = .ok (.aload_n 0, 1) := by decide +kernel
theorem dX5_endField_61 : decode cX5_endField 61 = .ok (.getfield 24, 3) := by decide +kernel
theorem dX5_endField_64 : decode cX5_endField 64 = .ok (.bipush 87, 2) := by decide +kernel
theorem dX5_endField_66 : decode cX5_endField 66 = .ok (.if_icmp .eq 10, 3) := by decide +kernel
theorem dX5_endField_69 : decode cX5_endField 69 = .ok (.aload_n 0, 1) := by decide +kernel
theorem dX5_endField_70 : decode cX5_endField 70 = .ok (.invokevirtual 27, 3) := by decide +kernel
theorem dX5_endField_73 : decode cX5_endField 73 = .ok (.ifCond .eq 17, 3) := by decide +kernel
theorem dX5_endField_76 : decode cX5_endField 76 = .ok (.aload_n 0, 1) := by decide +kernel
theorem dX5_endField_77 : decode cX5_endField 77 = .ok (.getfield 51, 3) := by decide +kernel
theorem dX5_endField_80 : decode cX5_endField 80 = .ok (.ifCond .ne 10, 3) := by decide +kernel
theorem dX5_endField_83 : decode cX5_endField 83 = .ok (.aload_n 0, 1) := by decide +kernel
theorem dX5_endField_84 : decode cX5_endField 84 = .ok (.getfield 54, 3) := by decide +kernel
theorem dX5_endField_87 : decode cX5_endField 87 = .ok (.goto 4, 3) := by decide +kernel
theorem dX5_endField_90 : decode cX5_endField 90 = .ok (.iconst 0, 1) := by decide +kernel
theorem dX5_endField_91 : decode cX5_endField 91 = .ok (.putfield 15, 3) := by decide +kernel
theorem dX5_endField_94 : decode cX5_endField 94 = .ok (.aload_n 0, 1) := by decide +kernel
theorem dX5_endField_95 : decode cX5_endField 95 = .ok (.invokevirtual 41, 3) := by decide +kernel
theorem dX5_endField_98 : decode cX5_endField 98 = .ok (.return_, 1) := by decide +kernel
theorem dX6_init_0 : decode cX6_init 0 = .ok (.aload_n 0, 1) := by decide +kernel
theorem dX6_init_1 : decode cX6_init 1 = .ok (.invokespecial 1, 3) := by decide +kernel
theorem dX6_init_4 : decode cX6_init 4 = .ok (.aload_n 0, 1) := by decide +kernel
theorem dX6_init_5 : decode cX6_init 5 = .ok (.sipush 6000, 3) := by decide +kernel
theorem dX6_init_8 : decode cX6_init 8 = .ok (.newarray .long, 2) := by decide +kernel
theorem dX6_init_10 : decode cX6_init 10 = .ok (.putfield 9, 3) := by decide +kernel
theorem dX6_init_13 : decode cX6_init 13 = .ok (.return_, 1) := by decide +kernel
theorem dX6_isOverrun_0 : decode cX6_isOverrun 0 = .ok (.aload_n 0, 1) := by decide +kernel
theorem dX6_isOverrun_1 : decode cX6_isOverrun 1 = .ok (.getfield 13, 3) := by decide +kernel
theorem dX6_isOverrun_4 : decode cX6_isOverrun 4 = .ok (.aload_n 0, 1) := by decide +kernel
theorem dX6_isOverrun_5 : decode cX6_isOverrun 5 = .ok (.getfield 17, 3) := by decide +kernel
theorem dX6_isOverrun_8 : decode cX6_isOverrun 8 = .ok (.if_icmp .le 7, 3) := by decide +kernel
theorem dX6_isOverrun_11 : decode cX6_isOverrun 11 = .ok (.iconst 1, 1) := by decide +kernel
theorem dX6_isOverrun_12 : decode cX6_isOverrun 12 = .ok (.goto 4, 3) := by decide +kernel
theorem dX6_isOverrun_15 : decode cX6_isOverrun 15 = .ok (.iconst 0, 1) := by decide +kernel
theorem dX6_isOverrun_16 : decode cX6_isOverrun 16 = .ok (.ireturn, 1) := by decide +kernel
theorem dX6_isDue_0 : decode cX6_isDue 0 = .ok (.aload_n 0, 1) := by decide +kernel
theorem dX6_isDue_1 : decode cX6_isDue 1 = .ok (.getfield 20, 3) := by decide +kernel
theorem dX6_isDue_4 : decode cX6_isDue 4 = .ok (.ifCond .ne 10, 3) := by decide +kernel
theorem dX6_isDue_7 : decode cX6_isDue 7 = .ok (.aload_n 0, 1) := by decide +kernel
theorem dX6_isDue_8 : decode cX6_isDue 8 = .ok (.getfield 17, 3) := by decide +kernel
theorem dX6_isDue_11 : decode cX6_isDue 11 = .ok (.ifCond .le 7, 3) := by decide +kernel
theorem dX6_isDue_14 : decode cX6_isDue 14 = .ok (.iconst 1, 1) := by decide +kernel
theorem dX6_isDue_15 : decode cX6_isDue 15 = .ok (.goto 4, 3) := by decide +kernel
theorem dX6_isDue_18 : decode cX6_isDue 18 = .ok (.iconst 0, 1) := by decide +kernel
theorem dX6_isDue_19 : decode cX6_isDue 19 = .ok (.ireturn, 1) := by decide +kernel
theorem dX6_clear_0 : decode cX6_clear 0 = .ok (.aload_n 0, 1) := by decide +kernel
theorem dX6_clear_1 : decode cX6_clear 1 = .ok (.iconst 0, 1) := by decide +kernel
theorem dX6_clear_2 : decode cX6_clear 2 = .ok (.putfield 17, 3) := by decide +kernel
theorem dX6_clear_5 : decode cX6_clear 5 = .ok (.aload_n 0, 1) := by decide +kernel
theorem dX6_clear_6 : decode cX6_clear 6 = .ok (.iconst 0, 1) := by decide +kernel
theorem dX6_clear_7 : decode cX6_clear 7 = .ok (.putfield 13, 3) := by decide +kernel
theorem dX6_clear_10 : decode cX6_clear 10 = .ok (.aload_n 0, 1) := by decide +kernel
theorem dX6_clear_11 : decode cX6_clear 11 = .ok (.iconst 0, 1) := by decide +kernel
theorem dX6_clear_12 : decode cX6_clear 12 = .ok (.putfield 20, 3) := by decide +kernel
theorem dX6_clear_15 : decode cX6_clear 15 = .ok (.return_, 1) := by decide +kernel
theorem dX6_put_0 : decode cX6_put 0 = .ok (.aload_n 0, 1) := by decide +kernel
theorem dX6_put_1 : decode cX6_put 1 = .ok (.dup, 1) := by decide +kernel
theorem dX6_put_2 : decode cX6_put 2 = .ok (.getfield 13, 3) := by decide +kernel
theorem dX6_put_5 : decode cX6_put 5 = .ok (.iconst 1, 1) := by decide +kernel
theorem dX6_put_6 : decode cX6_put 6 = .ok (.iadd, 1) := by decide +kernel
theorem dX6_put_7 : decode cX6_put 7 = .ok (.putfield 13, 3) := by decide +kernel
theorem dX6_put_10 : decode cX6_put 10 = .ok (.aload_n 0, 1) := by decide +kernel
theorem dX6_put_11 : decode cX6_put 11 = .ok (.getfield 17, 3) := by decide +kernel
theorem dX6_put_14 : decode cX6_put 14 = .ok (.sipush 6000, 3) := by decide +kernel
theorem dX6_put_17 : decode cX6_put 17 = .ok (.if_icmp .ge 42, 3) := by decide +kernel
theorem dX6_put_20 : decode cX6_put 20 = .ok (.aload_n 0, 1) := by decide +kernel
theorem dX6_put_21 : decode cX6_put 21 = .ok (.getfield 9, 3) := by decide +kernel
theorem dX6_put_24 : decode cX6_put 24 = .ok (.aload_n 0, 1) := by decide +kernel
theorem dX6_put_25 : decode cX6_put 25 = .ok (.getfield 17, 3) := by decide +kernel
theorem dX6_put_28 : decode cX6_put 28 = .ok (.iload_n 1, 1) := by decide +kernel
theorem dX6_put_29 : decode cX6_put 29 = .ok (.i2l, 1) := by decide +kernel
theorem dX6_put_30 : decode cX6_put 30 = .ok (.bipush 26, 2) := by decide +kernel
theorem dX6_put_32 : decode cX6_put 32 = .ok (.lshl, 1) := by decide +kernel
theorem dX6_put_33 : decode cX6_put 33 = .ok (.iload_n 2, 1) := by decide +kernel
theorem dX6_put_34 : decode cX6_put 34 = .ok (.i2l, 1) := by decide +kernel
theorem dX6_put_35 : decode cX6_put 35 = .ok (.bipush 9, 2) := by decide +kernel
theorem dX6_put_37 : decode cX6_put 37 = .ok (.lshl, 1) := by decide +kernel
theorem dX6_put_38 : decode cX6_put 38 = .ok (.lor, 1) := by decide +kernel
theorem dX6_put_39 : decode cX6_put 39 = .ok (.iload_n 3, 1) := by decide +kernel
theorem dX6_put_40 : decode cX6_put 40 = .ok (.i2l, 1) := by decide +kernel
theorem dX6_put_41 : decode cX6_put 41 = .ok (.iconst 1, 1) := by decide +kernel
theorem dX6_put_42 : decode cX6_put 42 = .ok (.lshl, 1) := by decide +kernel
theorem dX6_put_43 : decode cX6_put 43 = .ok (.lor, 1) := by decide +kernel
theorem dX6_put_44 : decode cX6_put 44 = .ok (.iload 4, 2) := by decide +kernel
theorem dX6_put_46 : decode cX6_put 46 = .ok (.i2l, 1) := by decide +kernel
theorem dX6_put_47 : decode cX6_put 47 = .ok (.lor, 1) := by decide +kernel
theorem dX6_put_48 : decode cX6_put 48 = .ok (.lastore, 1) := by decide +kernel
theorem dX6_put_49 : decode cX6_put 49 = .ok (.aload_n 0, 1) := by decide +kernel
theorem dX6_put_50 : decode cX6_put 50 = .ok (.dup, 1) := by decide +kernel
theorem dX6_put_51 : decode cX6_put 51 = .ok (.getfield 17, 3) := by decide +kernel
theorem dX6_put_54 : decode cX6_put 54 = .ok (.iconst 1, 1) := by decide +kernel
theorem dX6_put_55 : decode cX6_put 55 = .ok (.iadd, 1) := by decide +kernel
theorem dX6_put_56 : decode cX6_put 56 = .ok (.putfield 17, 3) := by decide +kernel
theorem dX6_put_59 : decode cX6_put 59 = .ok (.return_, 1) := by decide +kernel
theorem dX6_partOf_0 : decode cX6_partOf 0 = .ok (.aload_n 0, 1) := by decide +kernel
theorem dX6_partOf_1 : decode cX6_partOf 1 = .ok (.getfield 9, 3) := by decide +kernel
theorem dX6_partOf_4 : decode cX6_partOf 4 = .ok (.iload_n 1, 1) := by decide +kernel
theorem dX6_partOf_5 : decode cX6_partOf 5 = .ok (.laload, 1) := by decide +kernel
theorem dX6_partOf_6 : decode cX6_partOf 6 = .ok (.lstore_n 3, 1) := by decide +kernel
theorem dX6_partOf_7 : decode cX6_partOf 7 = .ok (.iload_n 2, 1) := by decide +kernel
theorem dX6_partOf_8 : decode cX6_partOf 8 = .ok (.tableswitch 52 0 2 #[28, 34, 43], 28) := by decide +kernel
theorem dX6_partOf_36 : decode cX6_partOf 36 = .ok (.lload_n 3, 1) := by decide +kernel
theorem dX6_partOf_37 : decode cX6_partOf 37 = .ok (.bipush 26, 2) := by decide +kernel
theorem dX6_partOf_39 : decode cX6_partOf 39 = .ok (.lushr, 1) := by decide +kernel
theorem dX6_partOf_40 : decode cX6_partOf 40 = .ok (.l2i, 1) := by decide +kernel
theorem dX6_partOf_41 : decode cX6_partOf 41 = .ok (.ireturn, 1) := by decide +kernel
theorem dX6_partOf_42 : decode cX6_partOf 42 = .ok (.lload_n 3, 1) := by decide +kernel
theorem dX6_partOf_43 : decode cX6_partOf 43 = .ok (.bipush 9, 2) := by decide +kernel
theorem dX6_partOf_45 : decode cX6_partOf 45 = .ok (.lushr, 1) := by decide +kernel
theorem dX6_partOf_46 : decode cX6_partOf 46 = .ok (.l2i, 1) := by decide +kernel
theorem dX6_partOf_47 : decode cX6_partOf 47 = .ok (.ldc 24, 2) := by decide +kernel
theorem dX6_partOf_49 : decode cX6_partOf 49 = .ok (.iand, 1) := by decide +kernel
theorem dX6_partOf_50 : decode cX6_partOf 50 = .ok (.ireturn, 1) := by decide +kernel
theorem dX6_partOf_51 : decode cX6_partOf 51 = .ok (.lload_n 3, 1) := by decide +kernel
theorem dX6_partOf_52 : decode cX6_partOf 52 = .ok (.iconst 1, 1) := by decide +kernel
theorem dX6_partOf_53 : decode cX6_partOf 53 = .ok (.lushr, 1) := by decide +kernel
theorem dX6_partOf_54 : decode cX6_partOf 54 = .ok (.l2i, 1) := by decide +kernel
theorem dX6_partOf_55 : decode cX6_partOf 55 = .ok (.sipush 255, 3) := by decide +kernel
theorem dX6_partOf_58 : decode cX6_partOf 58 = .ok (.iand, 1) := by decide +kernel
theorem dX6_partOf_59 : decode cX6_partOf 59 = .ok (.ireturn, 1) := by decide +kernel
theorem dX6_partOf_60 : decode cX6_partOf 60 = .ok (.lload_n 3, 1) := by decide +kernel
theorem dX6_partOf_61 : decode cX6_partOf 61 = .ok (.l2i, 1) := by decide +kernel
theorem dX6_partOf_62 : decode cX6_partOf 62 = .ok (.iconst 1, 1) := by decide +kernel
theorem dX6_partOf_63 : decode cX6_partOf 63 = .ok (.iand, 1) := by decide +kernel
theorem dX6_partOf_64 : decode cX6_partOf 64 = .ok (.ireturn, 1) := by decide +kernel
theorem dJ9_floorMod_7cf53_0 : decode cJ9_floorMod_7cf53 0 = .ok (.iload_n 0, 1) := by decide +kernel
theorem dJ9_floorMod_7cf53_1 : decode cJ9_floorMod_7cf53 1 = .ok (.iload_n 1, 1) := by decide +kernel
theorem dJ9_floorMod_7cf53_2 : decode cJ9_floorMod_7cf53 2 = .ok (.irem, 1) := by decide +kernel
theorem dJ9_floorMod_7cf53_3 : decode cJ9_floorMod_7cf53 3 = .ok (.istore_n 2, 1) := by decide +kernel
theorem dJ9_floorMod_7cf53_4 : decode cJ9_floorMod_7cf53 4 = .ok (.iload_n 0, 1) := by decide +kernel
theorem dJ9_floorMod_7cf53_5 : decode cJ9_floorMod_7cf53 5 = .ok (.iload_n 1, 1) := by decide +kernel
theorem dJ9_floorMod_7cf53_6 : decode cJ9_floorMod_7cf53 6 = .ok (.ixor, 1) := by decide +kernel
theorem dJ9_floorMod_7cf53_7 : decode cJ9_floorMod_7cf53 7 = .ok (.ifCond .ge 11, 3) := by decide +kernel
theorem dJ9_floorMod_7cf53_10 : decode cJ9_floorMod_7cf53 10 = .ok (.iload_n 2, 1) := by decide +kernel
theorem dJ9_floorMod_7cf53_11 : decode cJ9_floorMod_7cf53 11 = .ok (.ifCond .eq 7, 3) := by decide +kernel
theorem dJ9_floorMod_7cf53_14 : decode cJ9_floorMod_7cf53 14 = .ok (.iload_n 2, 1) := by decide +kernel
theorem dJ9_floorMod_7cf53_15 : decode cJ9_floorMod_7cf53 15 = .ok (.iload_n 1, 1) := by decide +kernel
theorem dJ9_floorMod_7cf53_16 : decode cJ9_floorMod_7cf53 16 = .ok (.iadd, 1) := by decide +kernel
theorem dJ9_floorMod_7cf53_17 : decode cJ9_floorMod_7cf53 17 = .ok (.ireturn, 1) := by decide +kernel
theorem dJ9_floorMod_7cf53_18 : decode cJ9_floorMod_7cf53 18 = .ok (.iload_n 2, 1) := by decide +kernel
theorem dJ9_floorMod_7cf53_19 : decode cJ9_floorMod_7cf53 19 = .ok (.ireturn, 1) := by decide +kernel
theorem dJ9_min_7cf53_0 : decode cJ9_min_7cf53 0 = .ok (.iload_n 0, 1) := by decide +kernel
theorem dJ9_min_7cf53_1 : decode cJ9_min_7cf53 1 = .ok (.iload_n 1, 1) := by decide +kernel
theorem dJ9_min_7cf53_2 : decode cJ9_min_7cf53 2 = .ok (.if_icmp .gt 7, 3) := by decide +kernel
theorem dJ9_min_7cf53_5 : decode cJ9_min_7cf53 5 = .ok (.iload_n 0, 1) := by decide +kernel
theorem dJ9_min_7cf53_6 : decode cJ9_min_7cf53 6 = .ok (.goto 4, 3) := by decide +kernel
theorem dJ9_min_7cf53_9 : decode cJ9_min_7cf53 9 = .ok (.iload_n 1, 1) := by decide +kernel
theorem dJ9_min_7cf53_10 : decode cJ9_min_7cf53 10 = .ok (.ireturn, 1) := by decide +kernel
theorem dJ7_fill_53178_0 : decode cJ7_fill_53178 0 = .ok (.iconst 0, 1) := by decide +kernel
theorem dJ7_fill_53178_1 : decode cJ7_fill_53178 1 = .ok (.istore_n 2, 1) := by decide +kernel
theorem dJ7_fill_53178_2 : decode cJ7_fill_53178 2 = .ok (.aload_n 0, 1) := by decide +kernel
theorem dJ7_fill_53178_3 : decode cJ7_fill_53178 3 = .ok (.arraylength, 1) := by decide +kernel
theorem dJ7_fill_53178_4 : decode cJ7_fill_53178 4 = .ok (.istore_n 3, 1) := by decide +kernel
theorem dJ7_fill_53178_5 : decode cJ7_fill_53178 5 = .ok (.iload_n 2, 1) := by decide +kernel
theorem dJ7_fill_53178_6 : decode cJ7_fill_53178 6 = .ok (.iload_n 3, 1) := by decide +kernel
theorem dJ7_fill_53178_7 : decode cJ7_fill_53178 7 = .ok (.if_icmp .ge 13, 3) := by decide +kernel
theorem dJ7_fill_53178_10 : decode cJ7_fill_53178 10 = .ok (.aload_n 0, 1) := by decide +kernel
theorem dJ7_fill_53178_11 : decode cJ7_fill_53178 11 = .ok (.iload_n 2, 1) := by decide +kernel
theorem dJ7_fill_53178_12 : decode cJ7_fill_53178 12 = .ok (.iload_n 1, 1) := by decide +kernel
theorem dJ7_fill_53178_13 : decode cJ7_fill_53178 13 = .ok (.iastore, 1) := by decide +kernel
theorem dJ7_fill_53178_14 : decode cJ7_fill_53178 14 = .ok (.iinc 2 1, 3) := by decide +kernel
theorem dJ7_fill_53178_17 : decode cJ7_fill_53178 17 = .ok (.goto (-12), 3) := by decide +kernel
theorem dJ7_fill_53178_20 : decode cJ7_fill_53178 20 = .ok (.return_, 1) := by decide +kernel
