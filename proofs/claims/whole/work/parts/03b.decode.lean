theorem dX7_init_0 : decode cX7_init 0 = .ok (.aload_n 0, 1) := by decide +kernel
theorem dX7_init_1 : decode cX7_init 1 = .ok (.invokespecial 1, 3) := by decide +kernel
theorem dX7_init_4 : decode cX7_init 4 = .ok (.aload_n 0, 1) := by decide +kernel
theorem dX7_init_5 : decode cX7_init 5 = .ok (.new 7, 3) := by decide +kernel
theorem dX7_init_8 : decode cX7_init 8 = .ok (.dup, 1) := by decide +kernel
theorem dX7_init_9 : decode cX7_init 9 = .ok (.invokespecial 9, 3) := by decide +kernel
theorem dX7_init_12 : decode cX7_init 12 = .ok (.putfield 10, 3) := by decide +kernel
theorem dX7_init_15 : decode cX7_init 15 = .ok (.aload_n 0, 1) := by decide +kernel
theorem dX7_init_16 : decode cX7_init 16 = .ok (.new 16, 3) := by decide +kernel
theorem dX7_init_19 : decode cX7_init 19 = .ok (.dup, 1) := by decide +kernel
theorem dX7_init_20 : decode cX7_init 20 = .ok (.invokespecial 18, 3) := by decide +kernel
theorem dX7_init_23 : decode cX7_init 23 = .ok (.putfield 19, 3) := by decide +kernel
theorem dX7_init_26 : decode cX7_init 26 = .ok (.aload_n 0, 1) := by decide +kernel
theorem dX7_init_27 : decode cX7_init 27 = .ok (.new 23, 3) := by decide +kernel
theorem dX7_init_30 : decode cX7_init 30 = .ok (.dup, 1) := by decide +kernel
theorem dX7_init_31 : decode cX7_init 31 = .ok (.invokespecial 25, 3) := by decide +kernel
theorem dX7_init_34 : decode cX7_init 34 = .ok (.putfield 26, 3) := by decide +kernel
theorem dX7_init_37 : decode cX7_init 37 = .ok (.aload_n 0, 1) := by decide +kernel
theorem dX7_init_38 : decode cX7_init 38 = .ok (.iconst 3, 1) := by decide +kernel
theorem dX7_init_39 : decode cX7_init 39 = .ok (.anewarray 23, 3) := by decide +kernel
theorem dX7_init_42 : decode cX7_init 42 = .ok (.putfield 30, 3) := by decide +kernel
theorem dX7_init_45 : decode cX7_init 45 = .ok (.iconst 0, 1) := by decide +kernel
theorem dX7_init_46 : decode cX7_init 46 = .ok (.istore_n 1, 1) := by decide +kernel
theorem dX7_init_47 : decode cX7_init 47 = .ok (.iload_n 1, 1) := by decide +kernel
theorem dX7_init_48 : decode cX7_init 48 = .ok (.iconst 3, 1) := by decide +kernel
theorem dX7_init_49 : decode cX7_init 49 = .ok (.if_icmp .ge 22, 3) := by decide +kernel
theorem dX7_init_52 : decode cX7_init 52 = .ok (.aload_n 0, 1) := by decide +kernel
theorem dX7_init_53 : decode cX7_init 53 = .ok (.getfield 30, 3) := by decide +kernel
theorem dX7_init_56 : decode cX7_init 56 = .ok (.iload_n 1, 1) := by decide +kernel
theorem dX7_init_57 : decode cX7_init 57 = .ok (.new 23, 3) := by decide +kernel
theorem dX7_init_60 : decode cX7_init 60 = .ok (.dup, 1) := by decide +kernel
theorem dX7_init_61 : decode cX7_init 61 = .ok (.invokespecial 25, 3) := by decide +kernel
theorem dX7_init_64 : decode cX7_init 64 = .ok (.aastore, 1) := by decide +kernel
theorem dX7_init_65 : decode cX7_init 65 = .ok (.iinc 1 1, 3) := by decide +kernel
theorem dX7_init_68 : decode cX7_init 68 = .ok (.goto (-21), 3) := by decide +kernel
theorem dX7_init_71 : decode cX7_init 71 = .ok (.aload_n 0, 1) := by decide +kernel
theorem dX7_init_72 : decode cX7_init 72 = .ok (.iconst 3, 1) := by decide +kernel
theorem dX7_init_73 : decode cX7_init 73 = .ok (.newarray .boolean, 2) := by decide +kernel
theorem dX7_init_75 : decode cX7_init 75 = .ok (.putfield 34, 3) := by decide +kernel
theorem dX7_init_78 : decode cX7_init 78 = .ok (.aload_n 0, 1) := by decide +kernel
theorem dX7_init_79 : decode cX7_init 79 = .ok (.new 38, 3) := by decide +kernel
theorem dX7_init_82 : decode cX7_init 82 = .ok (.dup, 1) := by decide +kernel
theorem dX7_init_83 : decode cX7_init 83 = .ok (.invokespecial 40, 3) := by decide +kernel
theorem dX7_init_86 : decode cX7_init 86 = .ok (.putfield 41, 3) := by decide +kernel
theorem dX7_init_89 : decode cX7_init 89 = .ok (.aload_n 0, 1) := by decide +kernel
theorem dX7_init_90 : decode cX7_init 90 = .ok (.new 45, 3) := by decide +kernel
theorem dX7_init_93 : decode cX7_init 93 = .ok (.dup, 1) := by decide +kernel
theorem dX7_init_94 : decode cX7_init 94 = .ok (.invokespecial 47, 3) := by decide +kernel
theorem dX7_init_97 : decode cX7_init 97 = .ok (.putfield 48, 3) := by decide +kernel
theorem dX7_init_100 : decode cX7_init 100 = .ok (.aload_n 0, 1) := by decide +kernel
theorem dX7_init_101 : decode cX7_init 101 = .ok (.new 52, 3) := by decide +kernel
theorem dX7_init_104 : decode cX7_init 104 = .ok (.dup, 1) := by decide +kernel
theorem dX7_init_105 : decode cX7_init 105 = .ok (.invokespecial 54, 3) := by decide +kernel
theorem dX7_init_108 : decode cX7_init 108 = .ok (.putfield 55, 3) := by decide +kernel
theorem dX7_init_111 : decode cX7_init 111 = .ok (.aload_n 0, 1) := by decide +kernel
theorem dX7_init_112 : decode cX7_init 112 = .ok (.sipush 512, 3) := by decide +kernel
theorem dX7_init_115 : decode cX7_init 115 = .ok (.newarray .int, 2) := by decide +kernel
theorem dX7_init_117 : decode cX7_init 117 = .ok (.putfield 59, 3) := by decide +kernel
theorem dX7_init_120 : decode cX7_init 120 = .ok (.aload_n 0, 1) := by decide +kernel
theorem dX7_init_121 : decode cX7_init 121 = .ok (.getfield 59, 3) := by decide +kernel
theorem dX7_init_124 : decode cX7_init 124 = .ok (.iconst (-1), 1) := by decide +kernel
theorem dX7_init_125 : decode cX7_init 125 = .ok (.invokestatic 63, 3) := by decide +kernel
theorem dX7_init_128 : decode cX7_init 128 = .ok (.aload_n 0, 1) := by decide +kernel
theorem dX7_init_129 : decode cX7_init 129 = .ok (.invokevirtual 69, 3) := by decide +kernel
theorem dX7_init_132 : decode cX7_init 132 = .ok (.return_, 1) := by decide +kernel
theorem dX7_feed_0 : decode cX7_feed 0 = .ok (.iload_n 3, 1) := by decide +kernel
theorem dX7_feed_1 : decode cX7_feed 1 = .ok (.iconst 1, 1) := by decide +kernel
theorem dX7_feed_2 : decode cX7_feed 2 = .ok (.if_icmp .lt 9, 3) := by decide +kernel
theorem dX7_feed_5 : decode cX7_feed 5 = .ok (.iload_n 3, 1) := by decide +kernel
theorem dX7_feed_6 : decode cX7_feed 6 = .ok (.bipush 8, 2) := by decide +kernel
theorem dX7_feed_8 : decode cX7_feed 8 = .ok (.if_icmp .le 5, 3) := by decide +kernel
theorem dX7_feed_11 : decode cX7_feed 11 = .ok (.iconst 0, 1) := by decide +kernel
theorem dX7_feed_12 : decode cX7_feed 12 = .ok (.ireturn, 1) := by decide +kernel
theorem dX7_feed_13 : decode cX7_feed 13 = .ok (.iload_n 3, 1) := by decide +kernel
theorem dX7_feed_14 : decode cX7_feed 14 = .ok (.iconst 1, 1) := by decide +kernel
theorem dX7_feed_15 : decode cX7_feed 15 = .ok (.isub, 1) := by decide +kernel
theorem dX7_feed_16 : decode cX7_feed 16 = .ok (.istore 4, 2) := by decide +kernel
theorem dX7_feed_18 : decode cX7_feed 18 = .ok (.iload 4, 2) := by decide +kernel
theorem dX7_feed_20 : decode cX7_feed 20 = .ok (.ifCond .lt 25, 3) := by decide +kernel
theorem dX7_feed_23 : decode cX7_feed 23 = .ok (.aload_n 0, 1) := by decide +kernel
theorem dX7_feed_24 : decode cX7_feed 24 = .ok (.lload_n 1, 1) := by decide +kernel
theorem dX7_feed_25 : decode cX7_feed 25 = .ok (.bipush 8, 2) := by decide +kernel
theorem dX7_feed_27 : decode cX7_feed 27 = .ok (.iload 4, 2) := by decide +kernel
theorem dX7_feed_29 : decode cX7_feed 29 = .ok (.imul, 1) := by decide +kernel
theorem dX7_feed_30 : decode cX7_feed 30 = .ok (.lushr, 1) := by decide +kernel
theorem dX7_feed_31 : decode cX7_feed 31 = .ok (.l2i, 1) := by decide +kernel
theorem dX7_feed_32 : decode cX7_feed 32 = .ok (.sipush 255, 3) := by decide +kernel
theorem dX7_feed_35 : decode cX7_feed 35 = .ok (.iand, 1) := by decide +kernel
theorem dX7_feed_36 : decode cX7_feed 36 = .ok (.invokevirtual 72, 3) := by decide +kernel
theorem dX7_feed_39 : decode cX7_feed 39 = .ok (.iinc 4 (-1), 3) := by decide +kernel
theorem dX7_feed_42 : decode cX7_feed 42 = .ok (.goto (-24), 3) := by decide +kernel
theorem dX7_feed_45 : decode cX7_feed 45 = .ok (.iconst 1, 1) := by decide +kernel
theorem dX7_feed_46 : decode cX7_feed 46 = .ok (.ireturn, 1) := by decide +kernel
theorem dX7_advance_0 : decode cX7_advance 0 = .ok (.iload_n 1, 1) := by decide +kernel
theorem dX7_advance_1 : decode cX7_advance 1 = .ok (.ifCond .lt 31, 3) := by decide +kernel
theorem dX7_advance_4 : decode cX7_advance 4 = .ok (.iload_n 1, 1) := by decide +kernel
theorem dX7_advance_5 : decode cX7_advance 5 = .ok (.iconst 1, 1) := by decide +kernel
theorem dX7_advance_6 : decode cX7_advance 6 = .ok (.if_icmp .gt 26, 3) := by decide +kernel
theorem dX7_advance_9 : decode cX7_advance 9 = .ok (.iload_n 2, 1) := by decide +kernel
theorem dX7_advance_10 : decode cX7_advance 10 = .ok (.ifCond .lt 22, 3) := by decide +kernel
theorem dX7_advance_13 : decode cX7_advance 13 = .ok (.iload_n 2, 1) := by decide +kernel
theorem dX7_advance_14 : decode cX7_advance 14 = .ok (.sipush 256, 3) := by decide +kernel
theorem dX7_advance_17 : decode cX7_advance 17 = .ok (.if_icmp .ge 15, 3) := by decide +kernel
theorem dX7_advance_20 : decode cX7_advance 20 = .ok (.iload_n 3, 1) := by decide +kernel
theorem dX7_advance_21 : decode cX7_advance 21 = .ok (.iconst (-1), 1) := by decide +kernel
theorem dX7_advance_22 : decode cX7_advance 22 = .ok (.if_icmp .lt 10, 3) := by decide +kernel
theorem dX7_advance_25 : decode cX7_advance 25 = .ok (.iload_n 3, 1) := by decide +kernel
theorem dX7_advance_26 : decode cX7_advance 26 = .ok (.sipush 20000, 3) := by decide +kernel
theorem dX7_advance_29 : decode cX7_advance 29 = .ok (.if_icmp .le 5, 3) := by decide +kernel
theorem dX7_advance_32 : decode cX7_advance 32 = .ok (.iconst 0, 1) := by decide +kernel
theorem dX7_advance_33 : decode cX7_advance 33 = .ok (.ireturn, 1) := by decide +kernel
theorem dX7_advance_34 : decode cX7_advance 34 = .ok (.aload_n 0, 1) := by decide +kernel
theorem dX7_advance_35 : decode cX7_advance 35 = .ok (.getfield 59, 3) := by decide +kernel
theorem dX7_advance_38 : decode cX7_advance 38 = .ok (.iload_n 1, 1) := by decide +kernel
theorem dX7_advance_39 : decode cX7_advance 39 = .ok (.sipush 256, 3) := by decide +kernel
theorem dX7_advance_42 : decode cX7_advance 42 = .ok (.imul, 1) := by decide +kernel
theorem dX7_advance_43 : decode cX7_advance 43 = .ok (.iload_n 2, 1) := by decide +kernel
theorem dX7_advance_44 : decode cX7_advance 44 = .ok (.iadd, 1) := by decide +kernel
theorem dX7_advance_45 : decode cX7_advance 45 = .ok (.iload_n 3, 1) := by decide +kernel
theorem dX7_advance_46 : decode cX7_advance 46 = .ok (.iastore, 1) := by decide +kernel
theorem dX7_advance_47 : decode cX7_advance 47 = .ok (.iconst 1, 1) := by decide +kernel
theorem dX7_advance_48 : decode cX7_advance 48 = .ok (.ireturn, 1) := by decide +kernel
theorem dX7_due_0 : decode cX7_due 0 = .ok (.aload_n 0, 1) := by decide +kernel
theorem dX7_due_1 : decode cX7_due 1 = .ok (.getfield 41, 3) := by decide +kernel
theorem dX7_due_4 : decode cX7_due 4 = .ok (.iconst 1, 1) := by decide +kernel
theorem dX7_due_5 : decode cX7_due 5 = .ok (.putfield 76, 3) := by decide +kernel
theorem dX7_due_8 : decode cX7_due 8 = .ok (.return_, 1) := by decide +kernel
theorem dX7_move_0 : decode cX7_move 0 = .ok (.aload_n 0, 1) := by decide +kernel
theorem dX7_move_1 : decode cX7_move 1 = .ok (.iload_n 1, 1) := by decide +kernel
theorem dX7_move_2 : decode cX7_move 2 = .ok (.i2l, 1) := by decide +kernel
theorem dX7_move_3 : decode cX7_move 3 = .ok (.invokevirtual 80, 3) := by decide +kernel
theorem dX7_move_6 : decode cX7_move 6 = .ok (.aload_n 0, 1) := by decide +kernel
theorem dX7_move_7 : decode cX7_move 7 = .ok (.iload_n 2, 1) := by decide +kernel
theorem dX7_move_8 : decode cX7_move 8 = .ok (.i2l, 1) := by decide +kernel
theorem dX7_move_9 : decode cX7_move 9 = .ok (.invokevirtual 84, 3) := by decide +kernel
theorem dX7_move_12 : decode cX7_move 12 = .ok (.return_, 1) := by decide +kernel
theorem dX7_keep_0 : decode cX7_keep 0 = .ok (.iload_n 1, 1) := by decide +kernel
theorem dX7_keep_1 : decode cX7_keep 1 = .ok (.ifCond .lt 8, 3) := by decide +kernel
theorem dX7_keep_4 : decode cX7_keep 4 = .ok (.iload_n 1, 1) := by decide +kernel
theorem dX7_keep_5 : decode cX7_keep 5 = .ok (.iconst 3, 1) := by decide +kernel
theorem dX7_keep_6 : decode cX7_keep 6 = .ok (.if_icmp .lt 5, 3) := by decide +kernel
theorem dX7_keep_9 : decode cX7_keep 9 = .ok (.iconst 0, 1) := by decide +kernel
theorem dX7_keep_10 : decode cX7_keep 10 = .ok (.ireturn, 1) := by decide +kernel
theorem dX7_keep_11 : decode cX7_keep 11 = .ok (.aload_n 0, 1) := by decide +kernel
theorem dX7_keep_12 : decode cX7_keep 12 = .ok (.getfield 30, 3) := by decide +kernel
theorem dX7_keep_15 : decode cX7_keep 15 = .ok (.iload_n 1, 1) := by decide +kernel
theorem dX7_keep_16 : decode cX7_keep 16 = .ok (.aaload, 1) := by decide +kernel
theorem dX7_keep_17 : decode cX7_keep 17 = .ok (.aload_n 0, 1) := by decide +kernel
theorem dX7_keep_18 : decode cX7_keep 18 = .ok (.getfield 26, 3) := by decide +kernel
theorem dX7_keep_21 : decode cX7_keep 21 = .ok (.invokevirtual 87, 3) := by decide +kernel
theorem dX7_keep_24 : decode cX7_keep 24 = .ok (.aload_n 0, 1) := by decide +kernel
theorem dX7_keep_25 : decode cX7_keep 25 = .ok (.getfield 34, 3) := by decide +kernel
theorem dX7_keep_28 : decode cX7_keep 28 = .ok (.iload_n 1, 1) := by decide +kernel
theorem dX7_keep_29 : decode cX7_keep 29 = .ok (.iconst 1, 1) := by decide +kernel
theorem dX7_keep_30 : decode cX7_keep 30 = .ok (.bastore, 1) := by decide +kernel
theorem dX7_keep_31 : decode cX7_keep 31 = .ok (.iconst 1, 1) := by decide +kernel
theorem dX7_keep_32 : decode cX7_keep 32 = .ok (.ireturn, 1) := by decide +kernel
theorem dX7_bring_0 : decode cX7_bring 0 = .ok (.iload_n 1, 1) := by decide +kernel
theorem dX7_bring_1 : decode cX7_bring 1 = .ok (.ifCond .lt 17, 3) := by decide +kernel
theorem dX7_bring_4 : decode cX7_bring 4 = .ok (.iload_n 1, 1) := by decide +kernel
theorem dX7_bring_5 : decode cX7_bring 5 = .ok (.iconst 3, 1) := by decide +kernel
theorem dX7_bring_6 : decode cX7_bring 6 = .ok (.if_icmp .ge 12, 3) := by decide +kernel
theorem dX7_bring_9 : decode cX7_bring 9 = .ok (.aload_n 0, 1) := by decide +kernel
theorem dX7_bring_10 : decode cX7_bring 10 = .ok (.getfield 34, 3) := by decide +kernel
theorem dX7_bring_13 : decode cX7_bring 13 = .ok (.iload_n 1, 1) := by decide +kernel
theorem dX7_bring_14 : decode cX7_bring 14 = .ok (.baload, 1) := by decide +kernel
theorem dX7_bring_15 : decode cX7_bring 15 = .ok (.ifCond .ne 5, 3) := by decide +kernel
theorem dX7_bring_18 : decode cX7_bring 18 = .ok (.iconst 0, 1) := by decide +kernel
theorem dX7_bring_19 : decode cX7_bring 19 = .ok (.ireturn, 1) := by decide +kernel
theorem dX7_bring_20 : decode cX7_bring 20 = .ok (.aload_n 0, 1) := by decide +kernel
theorem dX7_bring_21 : decode cX7_bring 21 = .ok (.getfield 26, 3) := by decide +kernel
theorem dX7_bring_24 : decode cX7_bring 24 = .ok (.aload_n 0, 1) := by decide +kernel
theorem dX7_bring_25 : decode cX7_bring 25 = .ok (.getfield 30, 3) := by decide +kernel
theorem dX7_bring_28 : decode cX7_bring 28 = .ok (.iload_n 1, 1) := by decide +kernel
theorem dX7_bring_29 : decode cX7_bring 29 = .ok (.aaload, 1) := by decide +kernel
theorem dX7_bring_30 : decode cX7_bring 30 = .ok (.invokevirtual 87, 3) := by decide +kernel
theorem dX7_bring_33 : decode cX7_bring 33 = .ok (.aload_n 0, 1) := by decide +kernel
theorem dX7_bring_34 : decode cX7_bring 34 = .ok (.getfield 26, 3) := by decide +kernel
theorem dX7_bring_37 : decode cX7_bring 37 = .ok (.aload_n 0, 1) := by decide +kernel
theorem dX7_bring_38 : decode cX7_bring 38 = .ok (.getfield 26, 3) := by decide +kernel
theorem dX7_bring_41 : decode cX7_bring 41 = .ok (.getfield 91, 3) := by decide +kernel
theorem dX7_bring_44 : decode cX7_bring 44 = .ok (.i2l, 1) := by decide +kernel
theorem dX7_bring_45 : decode cX7_bring 45 = .ok (.iconst 0, 1) := by decide +kernel
theorem dX7_bring_46 : decode cX7_bring 46 = .ok (.aload_n 0, 1) := by decide +kernel
theorem dX7_bring_47 : decode cX7_bring 47 = .ok (.getfield 19, 3) := by decide +kernel
theorem dX7_bring_50 : decode cX7_bring 50 = .ok (.getfield 95, 3) := by decide +kernel
theorem dX7_bring_53 : decode cX7_bring 53 = .ok (.invokestatic 98, 3) := by decide +kernel
theorem dX7_bring_56 : decode cX7_bring 56 = .ok (.putfield 91, 3) := by decide +kernel
theorem dX7_bring_59 : decode cX7_bring 59 = .ok (.aload_n 0, 1) := by decide +kernel
theorem dX7_bring_60 : decode cX7_bring 60 = .ok (.getfield 26, 3) := by decide +kernel
theorem dX7_bring_63 : decode cX7_bring 63 = .ok (.aload_n 0, 1) := by decide +kernel
theorem dX7_bring_64 : decode cX7_bring 64 = .ok (.getfield 26, 3) := by decide +kernel
theorem dX7_bring_67 : decode cX7_bring 67 = .ok (.getfield 102, 3) := by decide +kernel
theorem dX7_bring_70 : decode cX7_bring 70 = .ok (.i2l, 1) := by decide +kernel
theorem dX7_bring_71 : decode cX7_bring 71 = .ok (.iconst 0, 1) := by decide +kernel
theorem dX7_bring_72 : decode cX7_bring 72 = .ok (.aload_n 0, 1) := by decide +kernel
theorem dX7_bring_73 : decode cX7_bring 73 = .ok (.getfield 19, 3) := by decide +kernel
theorem dX7_bring_76 : decode cX7_bring 76 = .ok (.getfield 95, 3) := by decide +kernel
theorem dX7_bring_79 : decode cX7_bring 79 = .ok (.invokestatic 98, 3) := by decide +kernel
theorem dX7_bring_82 : decode cX7_bring 82 = .ok (.putfield 102, 3) := by decide +kernel
theorem dX7_bring_85 : decode cX7_bring 85 = .ok (.aload_n 0, 1) := by decide +kernel
theorem dX7_bring_86 : decode cX7_bring 86 = .ok (.aload_n 0, 1) := by decide +kernel
theorem dX7_bring_87 : decode cX7_bring 87 = .ok (.getfield 26, 3) := by decide +kernel
theorem dX7_bring_90 : decode cX7_bring 90 = .ok (.getfield 105, 3) := by decide +kernel
theorem dX7_bring_93 : decode cX7_bring 93 = .ok (.i2l, 1) := by decide +kernel
theorem dX7_bring_94 : decode cX7_bring 94 = .ok (.invokevirtual 80, 3) := by decide +kernel
theorem dX7_bring_97 : decode cX7_bring 97 = .ok (.aload_n 0, 1) := by decide +kernel
theorem dX7_bring_98 : decode cX7_bring 98 = .ok (.aload_n 0, 1) := by decide +kernel
theorem dX7_bring_99 : decode cX7_bring 99 = .ok (.getfield 26, 3) := by decide +kernel
theorem dX7_bring_102 : decode cX7_bring 102 = .ok (.getfield 108, 3) := by decide +kernel
theorem dX7_bring_105 : decode cX7_bring 105 = .ok (.i2l, 1) := by decide +kernel
theorem dX7_bring_106 : decode cX7_bring 106 = .ok (.invokevirtual 84, 3) := by decide +kernel
theorem dX7_bring_109 : decode cX7_bring 109 = .ok (.iconst 1, 1) := by decide +kernel
theorem dX7_bring_110 : decode cX7_bring 110 = .ok (.ireturn, 1) := by decide +kernel
theorem dX7_glyph_0 : decode cX7_glyph 0 = .ok (.iload_n 1, 1) := by decide +kernel
theorem dX7_glyph_1 : decode cX7_glyph 1 = .ok (.ifCond .lt 23, 3) := by decide +kernel
theorem dX7_glyph_4 : decode cX7_glyph 4 = .ok (.iload_n 1, 1) := by decide +kernel
theorem dX7_glyph_5 : decode cX7_glyph 5 = .ok (.aload_n 0, 1) := by decide +kernel
theorem dX7_glyph_6 : decode cX7_glyph 6 = .ok (.getfield 41, 3) := by decide +kernel
theorem dX7_glyph_9 : decode cX7_glyph 9 = .ok (.getfield 111, 3) := by decide +kernel
theorem dX7_glyph_12 : decode cX7_glyph 12 = .ok (.if_icmp .ge 12, 3) := by decide +kernel
theorem dX7_glyph_15 : decode cX7_glyph 15 = .ok (.iload_n 2, 1) := by decide +kernel
theorem dX7_glyph_16 : decode cX7_glyph 16 = .ok (.ifCond .lt 8, 3) := by decide +kernel
theorem dX7_glyph_19 : decode cX7_glyph 19 = .ok (.iload_n 2, 1) := by decide +kernel
theorem dX7_glyph_20 : decode cX7_glyph 20 = .ok (.iconst 3, 1) := by decide +kernel
theorem dX7_glyph_21 : decode cX7_glyph 21 = .ok (.if_icmp .le 11, 3) := by decide +kernel
theorem dX7_glyph_24 : decode cX7_glyph 24 = .ok (.new 114, 3) := by decide +kernel
theorem dX7_glyph_27 : decode cX7_glyph 27 = .ok (.dup, 1) := by decide +kernel
theorem dX7_glyph_28 : decode cX7_glyph 28 = .ok (.invokespecial 116, 3) := by decide +kernel
theorem dX7_glyph_31 : decode cX7_glyph 31 = .ok (.athrow, 1) := by decide +kernel
theorem dX7_glyph_32 : decode cX7_glyph 32 = .ok (.aload_n 0, 1) := by decide +kernel
theorem dX7_glyph_33 : decode cX7_glyph 33 = .ok (.getfield 41, 3) := by decide +kernel
theorem dX7_glyph_36 : decode cX7_glyph 36 = .ok (.iload_n 1, 1) := by decide +kernel
theorem dX7_glyph_37 : decode cX7_glyph 37 = .ok (.iload_n 2, 1) := by decide +kernel
theorem dX7_glyph_38 : decode cX7_glyph 38 = .ok (.invokevirtual 117, 3) := by decide +kernel
theorem dX7_glyph_41 : decode cX7_glyph 41 = .ok (.ireturn, 1) := by decide +kernel
theorem dX7_page_0 : decode cX7_page 0 = .ok (.aload_n 0, 1) := by decide +kernel
theorem dX7_page_1 : decode cX7_page 1 = .ok (.getfield 48, 3) := by decide +kernel
theorem dX7_page_4 : decode cX7_page 4 = .ok (.iload_n 1, 1) := by decide +kernel
theorem dX7_page_5 : decode cX7_page 5 = .ok (.invokevirtual 121, 3) := by decide +kernel
theorem dX7_page_8 : decode cX7_page 8 = .ok (.ifCond .eq 12, 3) := by decide +kernel
theorem dX7_page_11 : decode cX7_page 11 = .ok (.iload_n 2, 1) := by decide +kernel
theorem dX7_page_12 : decode cX7_page 12 = .ok (.ifCond .lt 8, 3) := by decide +kernel
theorem dX7_page_15 : decode cX7_page 15 = .ok (.iload_n 2, 1) := by decide +kernel
theorem dX7_page_16 : decode cX7_page 16 = .ok (.iconst 3, 1) := by decide +kernel
theorem dX7_page_17 : decode cX7_page 17 = .ok (.if_icmp .le 11, 3) := by decide +kernel
theorem dX7_page_20 : decode cX7_page 20 = .ok (.new 114, 3) := by decide +kernel
theorem dX7_page_23 : decode cX7_page 23 = .ok (.dup, 1) := by decide +kernel
theorem dX7_page_24 : decode cX7_page 24 = .ok (.invokespecial 116, 3) := by decide +kernel
theorem dX7_page_27 : decode cX7_page 27 = .ok (.athrow, 1) := by decide +kernel
theorem dX7_page_28 : decode cX7_page 28 = .ok (.aload_n 0, 1) := by decide +kernel
theorem dX7_page_29 : decode cX7_page 29 = .ok (.getfield 48, 3) := by decide +kernel
theorem dX7_page_32 : decode cX7_page 32 = .ok (.iload_n 1, 1) := by decide +kernel
theorem dX7_page_33 : decode cX7_page 33 = .ok (.iload_n 2, 1) := by decide +kernel
theorem dX7_page_34 : decode cX7_page 34 = .ok (.invokevirtual 125, 3) := by decide +kernel
theorem dX7_page_37 : decode cX7_page 37 = .ok (.ireturn, 1) := by decide +kernel
theorem dX7_other_0 : decode cX7_other 0 = .ok (.aload_n 0, 1) := by decide +kernel
theorem dX7_other_1 : decode cX7_other 1 = .ok (.getfield 55, 3) := by decide +kernel
theorem dX7_other_4 : decode cX7_other 4 = .ok (.getfield 126, 3) := by decide +kernel
theorem dX7_other_7 : decode cX7_other 7 = .ok (.ifCond .ne 11, 3) := by decide +kernel
theorem dX7_other_10 : decode cX7_other 10 = .ok (.new 127, 3) := by decide +kernel
theorem dX7_other_13 : decode cX7_other 13 = .ok (.dup, 1) := by decide +kernel
theorem dX7_other_14 : decode cX7_other 14 = .ok (.invokespecial 129, 3) := by decide +kernel
theorem dX7_other_17 : decode cX7_other 17 = .ok (.athrow, 1) := by decide +kernel
theorem dX7_other_18 : decode cX7_other 18 = .ok (.iload_n 1, 1) := by decide +kernel
theorem dX7_other_19 : decode cX7_other 19 = .ok (.ifCond .lt 9, 3) := by decide +kernel
theorem dX7_other_22 : decode cX7_other 22 = .ok (.iload_n 1, 1) := by decide +kernel
theorem dX7_other_23 : decode cX7_other 23 = .ok (.bipush 6, 2) := by decide +kernel
theorem dX7_other_25 : decode cX7_other 25 = .ok (.if_icmp .le 11, 3) := by decide +kernel
theorem dX7_other_28 : decode cX7_other 28 = .ok (.new 114, 3) := by decide +kernel
theorem dX7_other_31 : decode cX7_other 31 = .ok (.dup, 1) := by decide +kernel
theorem dX7_other_32 : decode cX7_other 32 = .ok (.invokespecial 116, 3) := by decide +kernel
theorem dX7_other_35 : decode cX7_other 35 = .ok (.athrow, 1) := by decide +kernel
theorem dX7_other_36 : decode cX7_other 36 = .ok (.aload_n 0, 1) := by decide +kernel
theorem dX7_other_37 : decode cX7_other 37 = .ok (.getfield 55, 3) := by decide +kernel
theorem dX7_other_40 : decode cX7_other 40 = .ok (.iload_n 1, 1) := by decide +kernel
theorem dX7_other_41 : decode cX7_other 41 = .ok (.invokevirtual 130, 3) := by decide +kernel
theorem dX7_other_44 : decode cX7_other 44 = .ok (.ireturn, 1) := by decide +kernel
theorem dX7_data_0 : decode cX7_data 0 = .ok (.aload_n 0, 1) := by decide +kernel
theorem dX7_data_1 : decode cX7_data 1 = .ok (.getfield 55, 3) := by decide +kernel
theorem dX7_data_4 : decode cX7_data 4 = .ok (.getfield 126, 3) := by decide +kernel
theorem dX7_data_7 : decode cX7_data 7 = .ok (.ifCond .ne 11, 3) := by decide +kernel
theorem dX7_data_10 : decode cX7_data 10 = .ok (.new 127, 3) := by decide +kernel
theorem dX7_data_13 : decode cX7_data 13 = .ok (.dup, 1) := by decide +kernel
theorem dX7_data_14 : decode cX7_data 14 = .ok (.invokespecial 129, 3) := by decide +kernel
theorem dX7_data_17 : decode cX7_data 17 = .ok (.athrow, 1) := by decide +kernel
theorem dX7_data_18 : decode cX7_data 18 = .ok (.aload_n 0, 1) := by decide +kernel
theorem dX7_data_19 : decode cX7_data 19 = .ok (.getfield 55, 3) := by decide +kernel
theorem dX7_data_22 : decode cX7_data 22 = .ok (.iload_n 1, 1) := by decide +kernel
theorem dX7_data_23 : decode cX7_data 23 = .ok (.invokevirtual 134, 3) := by decide +kernel
theorem dX7_data_26 : decode cX7_data 26 = .ok (.lreturn, 1) := by decide +kernel
theorem dX7_take_0 : decode cX7_take 0 = .ok (.aload_n 0, 1) := by decide +kernel
theorem dX7_take_1 : decode cX7_take 1 = .ok (.getfield 55, 3) := by decide +kernel
theorem dX7_take_4 : decode cX7_take 4 = .ok (.invokevirtual 138, 3) := by decide +kernel
theorem dX7_take_7 : decode cX7_take 7 = .ok (.ireturn, 1) := by decide +kernel
theorem dX7_place_0 : decode cX7_place 0 = .ok (.iload_n 1, 1) := by decide +kernel
theorem dX7_place_1 : decode cX7_place 1 = .ok (.ifCond .lt 14, 3) := by decide +kernel
theorem dX7_place_4 : decode cX7_place 4 = .ok (.iload_n 1, 1) := by decide +kernel
theorem dX7_place_5 : decode cX7_place 5 = .ok (.aload_n 0, 1) := by decide +kernel
theorem dX7_place_6 : decode cX7_place 6 = .ok (.getfield 26, 3) := by decide +kernel
theorem dX7_place_9 : decode cX7_place 9 = .ok (.getfield 142, 3) := by decide +kernel
theorem dX7_place_12 : decode cX7_place 12 = .ok (.if_icmp .lt 11, 3) := by decide +kernel
theorem dX7_place_15 : decode cX7_place 15 = .ok (.new 114, 3) := by decide +kernel
theorem dX7_place_18 : decode cX7_place 18 = .ok (.dup, 1) := by decide +kernel
theorem dX7_place_19 : decode cX7_place 19 = .ok (.invokespecial 116, 3) := by decide +kernel
theorem dX7_place_22 : decode cX7_place 22 = .ok (.athrow, 1) := by decide +kernel
theorem dX7_place_23 : decode cX7_place 23 = .ok (.iload_n 2, 1) := by decide +kernel
theorem dX7_place_24 : decode cX7_place 24 = .ok (.ifCond .eq 15, 3) := by decide +kernel
theorem dX7_place_27 : decode cX7_place 27 = .ok (.aload_n 0, 1) := by decide +kernel
theorem dX7_place_28 : decode cX7_place 28 = .ok (.getfield 26, 3) := by decide +kernel
theorem dX7_place_31 : decode cX7_place 31 = .ok (.getfield 145, 3) := by decide +kernel
theorem dX7_place_34 : decode cX7_place 34 = .ok (.iload_n 1, 1) := by decide +kernel
theorem dX7_place_35 : decode cX7_place 35 = .ok (.iaload, 1) := by decide +kernel
theorem dX7_place_36 : decode cX7_place 36 = .ok (.goto 12, 3) := by decide +kernel
theorem dX7_place_39 : decode cX7_place 39 = .ok (.aload_n 0, 1) := by decide +kernel
theorem dX7_place_40 : decode cX7_place 40 = .ok (.getfield 26, 3) := by decide +kernel
theorem dX7_place_43 : decode cX7_place 43 = .ok (.getfield 148, 3) := by decide +kernel
theorem dX7_place_46 : decode cX7_place 46 = .ok (.iload_n 1, 1) := by decide +kernel
theorem dX7_place_47 : decode cX7_place 47 = .ok (.iaload, 1) := by decide +kernel
theorem dX7_place_48 : decode cX7_place 48 = .ok (.ireturn, 1) := by decide +kernel
theorem dX7_look_0 : decode cX7_look 0 = .ok (.iload_n 1, 1) := by decide +kernel
theorem dX7_look_1 : decode cX7_look 1 = .ok (.tableswitch 352 0 24 #[115, 123, 131, 139, 147, 155, 163, 171, 179, 187, 195, 203, 211, 227, 243, 251, 259, 267, 275, 283, 299, 307, 315, 320, 336], 115) := by decide +kernel
theorem dX7_look_116 : decode cX7_look 116 = .ok (.aload_n 0, 1) := by decide +kernel
theorem dX7_look_117 : decode cX7_look 117 = .ok (.getfield 26, 3) := by decide +kernel
theorem dX7_look_120 : decode cX7_look 120 = .ok (.getfield 105, 3) := by decide +kernel
theorem dX7_look_123 : decode cX7_look 123 = .ok (.ireturn, 1) := by decide +kernel
theorem dX7_look_124 : decode cX7_look 124 = .ok (.aload_n 0, 1) := by decide +kernel
theorem dX7_look_125 : decode cX7_look 125 = .ok (.getfield 26, 3) := by decide +kernel
theorem dX7_look_128 : decode cX7_look 128 = .ok (.getfield 108, 3) := by decide +kernel
theorem dX7_look_131 : decode cX7_look 131 = .ok (.ireturn, 1) := by decide +kernel
theorem dX7_look_132 : decode cX7_look 132 = .ok (.aload_n 0, 1) := by decide +kernel
theorem dX7_look_133 : decode cX7_look 133 = .ok (.getfield 26, 3) := by decide +kernel
theorem dX7_look_136 : decode cX7_look 136 = .ok (.getfield 91, 3) := by decide +kernel
theorem dX7_look_139 : decode cX7_look 139 = .ok (.ireturn, 1) := by decide +kernel
theorem dX7_look_140 : decode cX7_look 140 = .ok (.aload_n 0, 1) := by decide +kernel
theorem dX7_look_141 : decode cX7_look 141 = .ok (.getfield 26, 3) := by decide +kernel
theorem dX7_look_144 : decode cX7_look 144 = .ok (.getfield 102, 3) := by decide +kernel
theorem dX7_look_147 : decode cX7_look 147 = .ok (.ireturn, 1) := by decide +kernel
theorem dX7_look_148 : decode cX7_look 148 = .ok (.aload_n 0, 1) := by decide +kernel
theorem dX7_look_149 : decode cX7_look 149 = .ok (.getfield 26, 3) := by decide +kernel
theorem dX7_look_152 : decode cX7_look 152 = .ok (.getfield 151, 3) := by decide +kernel
theorem dX7_look_155 : decode cX7_look 155 = .ok (.ireturn, 1) := by decide +kernel
theorem dX7_look_156 : decode cX7_look 156 = .ok (.aload_n 0, 1) := by decide +kernel
theorem dX7_look_157 : decode cX7_look 157 = .ok (.getfield 26, 3) := by decide +kernel
theorem dX7_look_160 : decode cX7_look 160 = .ok (.getfield 154, 3) := by decide +kernel
theorem dX7_look_163 : decode cX7_look 163 = .ok (.ireturn, 1) := by decide +kernel
theorem dX7_look_164 : decode cX7_look 164 = .ok (.aload_n 0, 1) := by decide +kernel
theorem dX7_look_165 : decode cX7_look 165 = .ok (.getfield 26, 3) := by decide +kernel
theorem dX7_look_168 : decode cX7_look 168 = .ok (.getfield 157, 3) := by decide +kernel
theorem dX7_look_171 : decode cX7_look 171 = .ok (.ireturn, 1) := by decide +kernel
theorem dX7_look_172 : decode cX7_look 172 = .ok (.aload_n 0, 1) := by decide +kernel
theorem dX7_look_173 : decode cX7_look 173 = .ok (.getfield 26, 3) := by decide +kernel
theorem dX7_look_176 : decode cX7_look 176 = .ok (.getfield 160, 3) := by decide +kernel
theorem dX7_look_179 : decode cX7_look 179 = .ok (.ireturn, 1) := by decide +kernel
theorem dX7_look_180 : decode cX7_look 180 = .ok (.aload_n 0, 1) := by decide +kernel
theorem dX7_look_181 : decode cX7_look 181 = .ok (.getfield 19, 3) := by decide +kernel
theorem dX7_look_184 : decode cX7_look 184 = .ok (.getfield 95, 3) := by decide +kernel
theorem dX7_look_187 : decode cX7_look 187 = .ok (.ireturn, 1) := by decide +kernel
theorem dX7_look_188 : decode cX7_look 188 = .ok (.aload_n 0, 1) := by decide +kernel
theorem dX7_look_189 : decode cX7_look 189 = .ok (.getfield 19, 3) := by decide +kernel
theorem dX7_look_192 : decode cX7_look 192 = .ok (.getfield 163, 3) := by decide +kernel
theorem dX7_look_195 : decode cX7_look 195 = .ok (.ireturn, 1) := by decide +kernel
theorem dX7_look_196 : decode cX7_look 196 = .ok (.aload_n 0, 1) := by decide +kernel
theorem dX7_look_197 : decode cX7_look 197 = .ok (.getfield 19, 3) := by decide +kernel
theorem dX7_look_200 : decode cX7_look 200 = .ok (.getfield 166, 3) := by decide +kernel
theorem dX7_look_203 : decode cX7_look 203 = .ok (.ireturn, 1) := by decide +kernel
theorem dX7_look_204 : decode cX7_look 204 = .ok (.aload_n 0, 1) := by decide +kernel
theorem dX7_look_205 : decode cX7_look 205 = .ok (.getfield 19, 3) := by decide +kernel
theorem dX7_look_208 : decode cX7_look 208 = .ok (.getfield 169, 3) := by decide +kernel
theorem dX7_look_211 : decode cX7_look 211 = .ok (.ireturn, 1) := by decide +kernel
theorem dX7_look_212 : decode cX7_look 212 = .ok (.aload_n 0, 1) := by decide +kernel
theorem dX7_look_213 : decode cX7_look 213 = .ok (.getfield 26, 3) := by decide +kernel
theorem dX7_look_216 : decode cX7_look 216 = .ok (.getfield 172, 3) := by decide +kernel
theorem dX7_look_219 : decode cX7_look 219 = .ok (.ifCond .eq 7, 3) := by decide +kernel
theorem dX7_look_222 : decode cX7_look 222 = .ok (.iconst 1, 1) := by decide +kernel
theorem dX7_look_223 : decode cX7_look 223 = .ok (.goto 4, 3) := by decide +kernel
theorem dX7_look_226 : decode cX7_look 226 = .ok (.iconst 0, 1) := by decide +kernel
theorem dX7_look_227 : decode cX7_look 227 = .ok (.ireturn, 1) := by decide +kernel
theorem dX7_look_228 : decode cX7_look 228 = .ok (.aload_n 0, 1) := by decide +kernel
theorem dX7_look_229 : decode cX7_look 229 = .ok (.getfield 26, 3) := by decide +kernel
theorem dX7_look_232 : decode cX7_look 232 = .ok (.getfield 175, 3) := by decide +kernel
theorem dX7_look_235 : decode cX7_look 235 = .ok (.ifCond .eq 7, 3) := by decide +kernel
theorem dX7_look_238 : decode cX7_look 238 = .ok (.iconst 1, 1) := by decide +kernel
theorem dX7_look_239 : decode cX7_look 239 = .ok (.goto 4, 3) := by decide +kernel
theorem dX7_look_242 : decode cX7_look 242 = .ok (.iconst 0, 1) := by decide +kernel
theorem dX7_look_243 : decode cX7_look 243 = .ok (.ireturn, 1) := by decide +kernel
theorem dX7_look_244 : decode cX7_look 244 = .ok (.aload_n 0, 1) := by decide +kernel
theorem dX7_look_245 : decode cX7_look 245 = .ok (.getfield 26, 3) := by decide +kernel
theorem dX7_look_248 : decode cX7_look 248 = .ok (.getfield 178, 3) := by decide +kernel
theorem dX7_look_251 : decode cX7_look 251 = .ok (.ireturn, 1) := by decide +kernel
theorem dX7_look_252 : decode cX7_look 252 = .ok (.aload_n 0, 1) := by decide +kernel
theorem dX7_look_253 : decode cX7_look 253 = .ok (.getfield 19, 3) := by decide +kernel
theorem dX7_look_256 : decode cX7_look 256 = .ok (.getfield 181, 3) := by decide +kernel
theorem dX7_look_259 : decode cX7_look 259 = .ok (.ireturn, 1) := by decide +kernel
theorem dX7_look_260 : decode cX7_look 260 = .ok (.aload_n 0, 1) := by decide +kernel
theorem dX7_look_261 : decode cX7_look 261 = .ok (.getfield 26, 3) := by decide +kernel
theorem dX7_look_264 : decode cX7_look 264 = .ok (.getfield 184, 3) := by decide +kernel
theorem dX7_look_267 : decode cX7_look 267 = .ok (.ireturn, 1) := by decide +kernel
theorem dX7_look_268 : decode cX7_look 268 = .ok (.aload_n 0, 1) := by decide +kernel
theorem dX7_look_269 : decode cX7_look 269 = .ok (.getfield 26, 3) := by decide +kernel
theorem dX7_look_272 : decode cX7_look 272 = .ok (.getfield 142, 3) := by decide +kernel
theorem dX7_look_275 : decode cX7_look 275 = .ok (.ireturn, 1) := by decide +kernel
theorem dX7_look_276 : decode cX7_look 276 = .ok (.aload_n 0, 1) := by decide +kernel
theorem dX7_look_277 : decode cX7_look 277 = .ok (.getfield 41, 3) := by decide +kernel
theorem dX7_look_280 : decode cX7_look 280 = .ok (.getfield 111, 3) := by decide +kernel
theorem dX7_look_283 : decode cX7_look 283 = .ok (.ireturn, 1) := by decide +kernel
theorem dX7_look_284 : decode cX7_look 284 = .ok (.aload_n 0, 1) := by decide +kernel
theorem dX7_look_285 : decode cX7_look 285 = .ok (.getfield 41, 3) := by decide +kernel
theorem dX7_look_288 : decode cX7_look 288 = .ok (.invokevirtual 187, 3) := by decide +kernel
theorem dX7_look_291 : decode cX7_look 291 = .ok (.ifCond .eq 7, 3) := by decide +kernel
theorem dX7_look_294 : decode cX7_look 294 = .ok (.iconst 1, 1) := by decide +kernel
theorem dX7_look_295 : decode cX7_look 295 = .ok (.goto 4, 3) := by decide +kernel
theorem dX7_look_298 : decode cX7_look 298 = .ok (.iconst 0, 1) := by decide +kernel
theorem dX7_look_299 : decode cX7_look 299 = .ok (.ireturn, 1) := by decide +kernel
theorem dX7_look_300 : decode cX7_look 300 = .ok (.aload_n 0, 1) := by decide +kernel
theorem dX7_look_301 : decode cX7_look 301 = .ok (.getfield 48, 3) := by decide +kernel
theorem dX7_look_304 : decode cX7_look 304 = .ok (.getfield 190, 3) := by decide +kernel
theorem dX7_look_307 : decode cX7_look 307 = .ok (.ireturn, 1) := by decide +kernel
theorem dX7_look_308 : decode cX7_look 308 = .ok (.aload_n 0, 1) := by decide +kernel
theorem dX7_look_309 : decode cX7_look 309 = .ok (.getfield 55, 3) := by decide +kernel
theorem dX7_look_312 : decode cX7_look 312 = .ok (.getfield 126, 3) := by decide +kernel
theorem dX7_look_315 : decode cX7_look 315 = .ok (.ireturn, 1) := by decide +kernel
theorem dX7_look_316 : decode cX7_look 316 = .ok (.aload_n 0, 1) := by decide +kernel
theorem dX7_look_317 : decode cX7_look 317 = .ok (.getfield 191, 3) := by decide +kernel
theorem dX7_look_320 : decode cX7_look 320 = .ok (.ireturn, 1) := by decide +kernel
theorem dX7_look_321 : decode cX7_look 321 = .ok (.aload_n 0, 1) := by decide +kernel
theorem dX7_look_322 : decode cX7_look 322 = .ok (.getfield 10, 3) := by decide +kernel
theorem dX7_look_325 : decode cX7_look 325 = .ok (.invokevirtual 194, 3) := by decide +kernel
theorem dX7_look_328 : decode cX7_look 328 = .ok (.ifCond .eq 7, 3) := by decide +kernel
theorem dX7_look_331 : decode cX7_look 331 = .ok (.iconst 1, 1) := by decide +kernel
theorem dX7_look_332 : decode cX7_look 332 = .ok (.goto 4, 3) := by decide +kernel
theorem dX7_look_335 : decode cX7_look 335 = .ok (.iconst 0, 1) := by decide +kernel
theorem dX7_look_336 : decode cX7_look 336 = .ok (.ireturn, 1) := by decide +kernel
theorem dX7_look_337 : decode cX7_look 337 = .ok (.aload_n 0, 1) := by decide +kernel
theorem dX7_look_338 : decode cX7_look 338 = .ok (.getfield 41, 3) := by decide +kernel
theorem dX7_look_341 : decode cX7_look 341 = .ok (.invokevirtual 197, 3) := by decide +kernel
theorem dX7_look_344 : decode cX7_look 344 = .ok (.ifCond .eq 7, 3) := by decide +kernel
theorem dX7_look_347 : decode cX7_look 347 = .ok (.iconst 1, 1) := by decide +kernel
theorem dX7_look_348 : decode cX7_look 348 = .ok (.goto 4, 3) := by decide +kernel
theorem dX7_look_351 : decode cX7_look 351 = .ok (.iconst 0, 1) := by decide +kernel
theorem dX7_look_352 : decode cX7_look 352 = .ok (.ireturn, 1) := by decide +kernel
theorem dX7_look_353 : decode cX7_look 353 = .ok (.iconst (-1), 1) := by decide +kernel
theorem dX7_look_354 : decode cX7_look 354 = .ok (.ireturn, 1) := by decide +kernel
theorem dX7_byteComes_0 : decode cX7_byteComes 0 = .ok (.aload_n 0, 1) := by decide +kernel
theorem dX7_byteComes_1 : decode cX7_byteComes 1 = .ok (.dup, 1) := by decide +kernel
theorem dX7_byteComes_2 : decode cX7_byteComes 2 = .ok (.getfield 191, 3) := by decide +kernel
theorem dX7_byteComes_5 : decode cX7_byteComes 5 = .ok (.iconst 1, 1) := by decide +kernel
theorem dX7_byteComes_6 : decode cX7_byteComes 6 = .ok (.iadd, 1) := by decide +kernel
theorem dX7_byteComes_7 : decode cX7_byteComes 7 = .ok (.putfield 191, 3) := by decide +kernel
theorem dX7_byteComes_10 : decode cX7_byteComes 10 = .ok (.aload_n 0, 1) := by decide +kernel
theorem dX7_byteComes_11 : decode cX7_byteComes 11 = .ok (.getfield 10, 3) := by decide +kernel
theorem dX7_byteComes_14 : decode cX7_byteComes 14 = .ok (.iload_n 1, 1) := by decide +kernel
theorem dX7_byteComes_15 : decode cX7_byteComes 15 = .ok (.invokevirtual 200, 3) := by decide +kernel
theorem dX7_byteComes_18 : decode cX7_byteComes 18 = .ok (.tableswitch 76 1 5 #[34, 42, 50, 58, 65], 34) := by decide +kernel
theorem dX7_byteComes_52 : decode cX7_byteComes 52 = .ok (.aload_n 0, 1) := by decide +kernel
theorem dX7_byteComes_53 : decode cX7_byteComes 53 = .ok (.iload_n 1, 1) := by decide +kernel
theorem dX7_byteComes_54 : decode cX7_byteComes 54 = .ok (.invokevirtual 203, 3) := by decide +kernel
theorem dX7_byteComes_57 : decode cX7_byteComes 57 = .ok (.goto 37, 3) := by decide +kernel
theorem dX7_byteComes_60 : decode cX7_byteComes 60 = .ok (.aload_n 0, 1) := by decide +kernel
theorem dX7_byteComes_61 : decode cX7_byteComes 61 = .ok (.iload_n 1, 1) := by decide +kernel
theorem dX7_byteComes_62 : decode cX7_byteComes 62 = .ok (.invokevirtual 206, 3) := by decide +kernel
theorem dX7_byteComes_65 : decode cX7_byteComes 65 = .ok (.goto 29, 3) := by decide +kernel
theorem dX7_byteComes_68 : decode cX7_byteComes 68 = .ok (.aload_n 0, 1) := by decide +kernel
theorem dX7_byteComes_69 : decode cX7_byteComes 69 = .ok (.iload_n 1, 1) := by decide +kernel
theorem dX7_byteComes_70 : decode cX7_byteComes 70 = .ok (.invokevirtual 209, 3) := by decide +kernel
theorem dX7_byteComes_73 : decode cX7_byteComes 73 = .ok (.goto 21, 3) := by decide +kernel
theorem dX7_byteComes_76 : decode cX7_byteComes 76 = .ok (.aload_n 0, 1) := by decide +kernel
theorem dX7_byteComes_77 : decode cX7_byteComes 77 = .ok (.invokevirtual 212, 3) := by decide +kernel
theorem dX7_byteComes_80 : decode cX7_byteComes 80 = .ok (.goto 14, 3) := by decide +kernel
theorem dX7_byteComes_83 : decode cX7_byteComes 83 = .ok (.aload_n 0, 1) := by decide +kernel
theorem dX7_byteComes_84 : decode cX7_byteComes 84 = .ok (.getfield 55, 3) := by decide +kernel
theorem dX7_byteComes_87 : decode cX7_byteComes 87 = .ok (.iload_n 1, 1) := by decide +kernel
theorem dX7_byteComes_88 : decode cX7_byteComes 88 = .ok (.invokevirtual 215, 3) := by decide +kernel
theorem dX7_byteComes_91 : decode cX7_byteComes 91 = .ok (.goto 3, 3) := by decide +kernel
theorem dX7_byteComes_94 : decode cX7_byteComes 94 = .ok (.return_, 1) := by decide +kernel
theorem dX7_reset_0 : decode cX7_reset 0 = .ok (.aload_n 0, 1) := by decide +kernel
theorem dX7_reset_1 : decode cX7_reset 1 = .ok (.getfield 19, 3) := by decide +kernel
theorem dX7_reset_4 : decode cX7_reset 4 = .ok (.iconst 2, 1) := by decide +kernel
theorem dX7_reset_5 : decode cX7_reset 5 = .ok (.iconst 0, 1) := by decide +kernel
theorem dX7_reset_6 : decode cX7_reset 6 = .ok (.invokevirtual 218, 3) := by decide +kernel
theorem dX7_reset_9 : decode cX7_reset 9 = .ok (.aload_n 0, 1) := by decide +kernel
theorem dX7_reset_10 : decode cX7_reset 10 = .ok (.getfield 19, 3) := by decide +kernel
theorem dX7_reset_13 : decode cX7_reset 13 = .ok (.iconst 1, 1) := by decide +kernel
theorem dX7_reset_14 : decode cX7_reset 14 = .ok (.putfield 181, 3) := by decide +kernel
theorem dX7_reset_17 : decode cX7_reset 17 = .ok (.aload_n 0, 1) := by decide +kernel
theorem dX7_reset_18 : decode cX7_reset 18 = .ok (.getfield 26, 3) := by decide +kernel
theorem dX7_reset_21 : decode cX7_reset 21 = .ok (.sipush 720, 3) := by decide +kernel
theorem dX7_reset_24 : decode cX7_reset 24 = .ok (.putfield 157, 3) := by decide +kernel
theorem dX7_reset_27 : decode cX7_reset 27 = .ok (.aload_n 0, 1) := by decide +kernel
theorem dX7_reset_28 : decode cX7_reset 28 = .ok (.getfield 26, 3) := by decide +kernel
theorem dX7_reset_31 : decode cX7_reset 31 = .ok (.sipush 1200, 3) := by decide +kernel
theorem dX7_reset_34 : decode cX7_reset 34 = .ok (.putfield 160, 3) := by decide +kernel
theorem dX7_reset_37 : decode cX7_reset 37 = .ok (.aload_n 0, 1) := by decide +kernel
theorem dX7_reset_38 : decode cX7_reset 38 = .ok (.getfield 26, 3) := by decide +kernel
theorem dX7_reset_41 : decode cX7_reset 41 = .ok (.iconst 0, 1) := by decide +kernel
theorem dX7_reset_42 : decode cX7_reset 42 = .ok (.putfield 172, 3) := by decide +kernel
theorem dX7_reset_45 : decode cX7_reset 45 = .ok (.aload_n 0, 1) := by decide +kernel
theorem dX7_reset_46 : decode cX7_reset 46 = .ok (.getfield 26, 3) := by decide +kernel
theorem dX7_reset_49 : decode cX7_reset 49 = .ok (.iconst 0, 1) := by decide +kernel
theorem dX7_reset_50 : decode cX7_reset 50 = .ok (.putfield 175, 3) := by decide +kernel
theorem dX7_reset_53 : decode cX7_reset 53 = .ok (.aload_n 0, 1) := by decide +kernel
theorem dX7_reset_54 : decode cX7_reset 54 = .ok (.getfield 26, 3) := by decide +kernel
theorem dX7_reset_57 : decode cX7_reset 57 = .ok (.iconst 0, 1) := by decide +kernel
theorem dX7_reset_58 : decode cX7_reset 58 = .ok (.putfield 178, 3) := by decide +kernel
theorem dX7_reset_61 : decode cX7_reset 61 = .ok (.aload_n 0, 1) := by decide +kernel
theorem dX7_reset_62 : decode cX7_reset 62 = .ok (.getfield 26, 3) := by decide +kernel
theorem dX7_reset_65 : decode cX7_reset 65 = .ok (.iconst 0, 1) := by decide +kernel
theorem dX7_reset_66 : decode cX7_reset 66 = .ok (.putfield 184, 3) := by decide +kernel
theorem dX7_reset_69 : decode cX7_reset 69 = .ok (.aload_n 0, 1) := by decide +kernel
theorem dX7_reset_70 : decode cX7_reset 70 = .ok (.getfield 26, 3) := by decide +kernel
theorem dX7_reset_73 : decode cX7_reset 73 = .ok (.iconst 0, 1) := by decide +kernel
theorem dX7_reset_74 : decode cX7_reset 74 = .ok (.putfield 142, 3) := by decide +kernel
theorem dX7_reset_77 : decode cX7_reset 77 = .ok (.aload_n 0, 1) := by decide +kernel
theorem dX7_reset_78 : decode cX7_reset 78 = .ok (.invokevirtual 222, 3) := by decide +kernel
theorem dX7_reset_81 : decode cX7_reset 81 = .ok (.return_, 1) := by decide +kernel
theorem dX7_setDefaults_0 : decode cX7_setDefaults 0 = .ok (.aload_n 0, 1) := by decide +kernel
theorem dX7_setDefaults_1 : decode cX7_setDefaults 1 = .ok (.getfield 26, 3) := by decide +kernel
theorem dX7_setDefaults_4 : decode cX7_setDefaults 4 = .ok (.sipush 3600, 3) := by decide +kernel
theorem dX7_setDefaults_7 : decode cX7_setDefaults 7 = .ok (.putfield 151, 3) := by decide +kernel
theorem dX7_setDefaults_10 : decode cX7_setDefaults 10 = .ok (.aload_n 0, 1) := by decide +kernel
theorem dX7_setDefaults_11 : decode cX7_setDefaults 11 = .ok (.getfield 26, 3) := by decide +kernel
theorem dX7_setDefaults_14 : decode cX7_setDefaults 14 = .ok (.aload_n 0, 1) := by decide +kernel
theorem dX7_setDefaults_15 : decode cX7_setDefaults 15 = .ok (.getfield 19, 3) := by decide +kernel
theorem dX7_setDefaults_18 : decode cX7_setDefaults 18 = .ok (.getfield 163, 3) := by decide +kernel
theorem dX7_setDefaults_21 : decode cX7_setDefaults 21 = .ok (.sipush 7200, 3) := by decide +kernel
theorem dX7_setDefaults_24 : decode cX7_setDefaults 24 = .ok (.isub, 1) := by decide +kernel
theorem dX7_setDefaults_25 : decode cX7_setDefaults 25 = .ok (.putfield 154, 3) := by decide +kernel
theorem dX7_setDefaults_28 : decode cX7_setDefaults 28 = .ok (.aload_n 0, 1) := by decide +kernel
theorem dX7_setDefaults_29 : decode cX7_setDefaults 29 = .ok (.getfield 26, 3) := by decide +kernel
theorem dX7_setDefaults_32 : decode cX7_setDefaults 32 = .ok (.iconst 0, 1) := by decide +kernel
theorem dX7_setDefaults_33 : decode cX7_setDefaults 33 = .ok (.putfield 91, 3) := by decide +kernel
theorem dX7_setDefaults_36 : decode cX7_setDefaults 36 = .ok (.aload_n 0, 1) := by decide +kernel
theorem dX7_setDefaults_37 : decode cX7_setDefaults 37 = .ok (.getfield 26, 3) := by decide +kernel
theorem dX7_setDefaults_40 : decode cX7_setDefaults 40 = .ok (.aload_n 0, 1) := by decide +kernel
theorem dX7_setDefaults_41 : decode cX7_setDefaults 41 = .ok (.getfield 19, 3) := by decide +kernel
theorem dX7_setDefaults_44 : decode cX7_setDefaults 44 = .ok (.getfield 95, 3) := by decide +kernel
theorem dX7_setDefaults_47 : decode cX7_setDefaults 47 = .ok (.putfield 102, 3) := by decide +kernel
theorem dX7_setDefaults_50 : decode cX7_setDefaults 50 = .ok (.aload_n 0, 1) := by decide +kernel
theorem dX7_setDefaults_51 : decode cX7_setDefaults 51 = .ok (.getfield 26, 3) := by decide +kernel
theorem dX7_setDefaults_54 : decode cX7_setDefaults 54 = .ok (.iconst 0, 1) := by decide +kernel
theorem dX7_setDefaults_55 : decode cX7_setDefaults 55 = .ok (.putfield 105, 3) := by decide +kernel
theorem dX7_setDefaults_58 : decode cX7_setDefaults 58 = .ok (.aload_n 0, 1) := by decide +kernel
theorem dX7_setDefaults_59 : decode cX7_setDefaults 59 = .ok (.aload_n 0, 1) := by decide +kernel
theorem dX7_setDefaults_60 : decode cX7_setDefaults 60 = .ok (.getfield 26, 3) := by decide +kernel
theorem dX7_setDefaults_63 : decode cX7_setDefaults 63 = .ok (.invokevirtual 225, 3) := by decide +kernel
theorem dX7_setDefaults_66 : decode cX7_setDefaults 66 = .ok (.i2l, 1) := by decide +kernel
theorem dX7_setDefaults_67 : decode cX7_setDefaults 67 = .ok (.invokevirtual 84, 3) := by decide +kernel
theorem dX7_setDefaults_70 : decode cX7_setDefaults 70 = .ok (.return_, 1) := by decide +kernel
theorem dX7_changePaper_0 : decode cX7_changePaper 0 = .ok (.aload_n 0, 1) := by decide +kernel
theorem dX7_changePaper_1 : decode cX7_changePaper 1 = .ok (.getfield 41, 3) := by decide +kernel
theorem dX7_changePaper_4 : decode cX7_changePaper 4 = .ok (.invokevirtual 197, 3) := by decide +kernel
theorem dX7_changePaper_7 : decode cX7_changePaper 7 = .ok (.ifCond .eq 7, 3) := by decide +kernel
theorem dX7_changePaper_10 : decode cX7_changePaper 10 = .ok (.aload_n 0, 1) := by decide +kernel
theorem dX7_changePaper_11 : decode cX7_changePaper 11 = .ok (.invokevirtual 229, 3) := by decide +kernel
theorem dX7_changePaper_14 : decode cX7_changePaper 14 = .ok (.aload_n 0, 1) := by decide +kernel
theorem dX7_changePaper_15 : decode cX7_changePaper 15 = .ok (.getfield 19, 3) := by decide +kernel
theorem dX7_changePaper_18 : decode cX7_changePaper 18 = .ok (.iload_n 1, 1) := by decide +kernel
theorem dX7_changePaper_19 : decode cX7_changePaper 19 = .ok (.iload_n 2, 1) := by decide +kernel
theorem dX7_changePaper_20 : decode cX7_changePaper 20 = .ok (.invokevirtual 218, 3) := by decide +kernel
theorem dX7_changePaper_23 : decode cX7_changePaper 23 = .ok (.aload_n 0, 1) := by decide +kernel
theorem dX7_changePaper_24 : decode cX7_changePaper 24 = .ok (.invokevirtual 222, 3) := by decide +kernel
theorem dX7_changePaper_27 : decode cX7_changePaper 27 = .ok (.return_, 1) := by decide +kernel
theorem dX7_eject_0 : decode cX7_eject 0 = .ok (.aload_n 0, 1) := by decide +kernel
theorem dX7_eject_1 : decode cX7_eject 1 = .ok (.getfield 48, 3) := by decide +kernel
theorem dX7_eject_4 : decode cX7_eject 4 = .ok (.aload_n 0, 1) := by decide +kernel
theorem dX7_eject_5 : decode cX7_eject 5 = .ok (.getfield 41, 3) := by decide +kernel
theorem dX7_eject_8 : decode cX7_eject 8 = .ok (.getfield 232, 3) := by decide +kernel
theorem dX7_eject_11 : decode cX7_eject 11 = .ok (.aload_n 0, 1) := by decide +kernel
theorem dX7_eject_12 : decode cX7_eject 12 = .ok (.getfield 19, 3) := by decide +kernel
theorem dX7_eject_15 : decode cX7_eject 15 = .ok (.invokevirtual 235, 3) := by decide +kernel
theorem dX7_eject_18 : decode cX7_eject 18 = .ok (.aload_n 0, 1) := by decide +kernel
theorem dX7_eject_19 : decode cX7_eject 19 = .ok (.getfield 41, 3) := by decide +kernel
theorem dX7_eject_22 : decode cX7_eject 22 = .ok (.invokevirtual 239, 3) := by decide +kernel
theorem dX7_eject_25 : decode cX7_eject 25 = .ok (.aload_n 0, 1) := by decide +kernel
theorem dX7_eject_26 : decode cX7_eject 26 = .ok (.aload_n 0, 1) := by decide +kernel
theorem dX7_eject_27 : decode cX7_eject 27 = .ok (.getfield 26, 3) := by decide +kernel
theorem dX7_eject_30 : decode cX7_eject 30 = .ok (.invokevirtual 225, 3) := by decide +kernel
theorem dX7_eject_33 : decode cX7_eject 33 = .ok (.i2l, 1) := by decide +kernel
theorem dX7_eject_34 : decode cX7_eject 34 = .ok (.invokevirtual 84, 3) := by decide +kernel
theorem dX7_eject_37 : decode cX7_eject 37 = .ok (.return_, 1) := by decide +kernel
theorem dX7_setX_0 : decode cX7_setX 0 = .ok (.aload_n 0, 1) := by decide +kernel
theorem dX7_setX_1 : decode cX7_setX 1 = .ok (.getfield 26, 3) := by decide +kernel
theorem dX7_setX_4 : decode cX7_setX 4 = .ok (.lload_n 1, 1) := by decide +kernel
theorem dX7_setX_5 : decode cX7_setX 5 = .ok (.iconst 0, 1) := by decide +kernel
theorem dX7_setX_6 : decode cX7_setX 6 = .ok (.aload_n 0, 1) := by decide +kernel
theorem dX7_setX_7 : decode cX7_setX 7 = .ok (.getfield 19, 3) := by decide +kernel
theorem dX7_setX_10 : decode cX7_setX 10 = .ok (.getfield 95, 3) := by decide +kernel
theorem dX7_setX_13 : decode cX7_setX 13 = .ok (.invokestatic 98, 3) := by decide +kernel
theorem dX7_setX_16 : decode cX7_setX 16 = .ok (.putfield 105, 3) := by decide +kernel
theorem dX7_setX_19 : decode cX7_setX 19 = .ok (.return_, 1) := by decide +kernel
theorem dX7_setY_0 : decode cX7_setY 0 = .ok (.aload_n 0, 1) := by decide +kernel
theorem dX7_setY_1 : decode cX7_setY 1 = .ok (.getfield 26, 3) := by decide +kernel
theorem dX7_setY_4 : decode cX7_setY 4 = .ok (.lload_n 1, 1) := by decide +kernel
theorem dX7_setY_5 : decode cX7_setY 5 = .ok (.iconst 0, 1) := by decide +kernel
theorem dX7_setY_6 : decode cX7_setY 6 = .ok (.aload_n 0, 1) := by decide +kernel
theorem dX7_setY_7 : decode cX7_setY 7 = .ok (.getfield 19, 3) := by decide +kernel
theorem dX7_setY_10 : decode cX7_setY 10 = .ok (.getfield 163, 3) := by decide +kernel
theorem dX7_setY_13 : decode cX7_setY 13 = .ok (.invokestatic 98, 3) := by decide +kernel
theorem dX7_setY_16 : decode cX7_setY 16 = .ok (.putfield 108, 3) := by decide +kernel
theorem dX7_setY_19 : decode cX7_setY 19 = .ok (.return_, 1) := by decide +kernel
theorem dX7_within_0 : decode cX7_within 0 = .ok (.lload_n 0, 1) := by decide +kernel
theorem dX7_within_1 : decode cX7_within 1 = .ok (.iload_n 2, 1) := by decide +kernel
theorem dX7_within_2 : decode cX7_within 2 = .ok (.i2l, 1) := by decide +kernel
theorem dX7_within_3 : decode cX7_within 3 = .ok (.lcmp, 1) := by decide +kernel
theorem dX7_within_4 : decode cX7_within 4 = .ok (.ifCond .ge 5, 3) := by decide +kernel
theorem dX7_within_7 : decode cX7_within 7 = .ok (.iload_n 2, 1) := by decide +kernel
theorem dX7_within_8 : decode cX7_within 8 = .ok (.ireturn, 1) := by decide +kernel
theorem dX7_within_9 : decode cX7_within 9 = .ok (.lload_n 0, 1) := by decide +kernel
theorem dX7_within_10 : decode cX7_within 10 = .ok (.iload_n 3, 1) := by decide +kernel
theorem dX7_within_11 : decode cX7_within 11 = .ok (.i2l, 1) := by decide +kernel
theorem dX7_within_12 : decode cX7_within 12 = .ok (.lcmp, 1) := by decide +kernel
theorem dX7_within_13 : decode cX7_within 13 = .ok (.ifCond .le 7, 3) := by decide +kernel
theorem dX7_within_16 : decode cX7_within 16 = .ok (.iload_n 3, 1) := by decide +kernel
theorem dX7_within_17 : decode cX7_within 17 = .ok (.goto 5, 3) := by decide +kernel
theorem dX7_within_20 : decode cX7_within 20 = .ok (.lload_n 0, 1) := by decide +kernel
theorem dX7_within_21 : decode cX7_within 21 = .ok (.l2i, 1) := by decide +kernel
theorem dX7_within_22 : decode cX7_within 22 = .ok (.ireturn, 1) := by decide +kernel
theorem dX7_character_0 : decode cX7_character 0 = .ok (.aload_n 0, 1) := by decide +kernel
theorem dX7_character_1 : decode cX7_character 1 = .ok (.getfield 59, 3) := by decide +kernel
theorem dX7_character_4 : decode cX7_character 4 = .ok (.aload_n 0, 1) := by decide +kernel
theorem dX7_character_5 : decode cX7_character 5 = .ok (.getfield 26, 3) := by decide +kernel
theorem dX7_character_8 : decode cX7_character 8 = .ok (.getfield 184, 3) := by decide +kernel
theorem dX7_character_11 : decode cX7_character 11 = .ok (.sipush 256, 3) := by decide +kernel
theorem dX7_character_14 : decode cX7_character 14 = .ok (.imul, 1) := by decide +kernel
theorem dX7_character_15 : decode cX7_character 15 = .ok (.iload_n 1, 1) := by decide +kernel
theorem dX7_character_16 : decode cX7_character 16 = .ok (.iadd, 1) := by decide +kernel
theorem dX7_character_17 : decode cX7_character 17 = .ok (.iaload, 1) := by decide +kernel
theorem dX7_character_18 : decode cX7_character 18 = .ok (.istore_n 2, 1) := by decide +kernel
theorem dX7_character_19 : decode cX7_character 19 = .ok (.iload_n 2, 1) := by decide +kernel
theorem dX7_character_20 : decode cX7_character 20 = .ok (.iconst (-1), 1) := by decide +kernel
theorem dX7_character_21 : decode cX7_character 21 = .ok (.if_icmp .ne 13, 3) := by decide +kernel
theorem dX7_character_24 : decode cX7_character 24 = .ok (.aload_n 0, 1) := by decide +kernel
theorem dX7_character_25 : decode cX7_character 25 = .ok (.getfield 26, 3) := by decide +kernel
theorem dX7_character_28 : decode cX7_character 28 = .ok (.getfield 157, 3) := by decide +kernel
theorem dX7_character_31 : decode cX7_character 31 = .ok (.goto 4, 3) := by decide +kernel
theorem dX7_character_34 : decode cX7_character 34 = .ok (.iload_n 2, 1) := by decide +kernel
theorem dX7_character_35 : decode cX7_character 35 = .ok (.istore_n 3, 1) := by decide +kernel
theorem dX7_character_36 : decode cX7_character 36 = .ok (.aload_n 0, 1) := by decide +kernel
theorem dX7_character_37 : decode cX7_character 37 = .ok (.getfield 26, 3) := by decide +kernel
theorem dX7_character_40 : decode cX7_character 40 = .ok (.getfield 105, 3) := by decide +kernel
theorem dX7_character_43 : decode cX7_character 43 = .ok (.aload_n 0, 1) := by decide +kernel
theorem dX7_character_44 : decode cX7_character 44 = .ok (.getfield 26, 3) := by decide +kernel
theorem dX7_character_47 : decode cX7_character 47 = .ok (.getfield 102, 3) := by decide +kernel
theorem dX7_character_50 : decode cX7_character 50 = .ok (.if_icmp .ge 22, 3) := by decide +kernel
theorem dX7_character_53 : decode cX7_character 53 = .ok (.aload_n 0, 1) := by decide +kernel
theorem dX7_character_54 : decode cX7_character 54 = .ok (.getfield 26, 3) := by decide +kernel
theorem dX7_character_57 : decode cX7_character 57 = .ok (.getfield 105, 3) := by decide +kernel
theorem dX7_character_60 : decode cX7_character 60 = .ok (.iload_n 3, 1) := by decide +kernel
theorem dX7_character_61 : decode cX7_character 61 = .ok (.iadd, 1) := by decide +kernel
theorem dX7_character_62 : decode cX7_character 62 = .ok (.aload_n 0, 1) := by decide +kernel
theorem dX7_character_63 : decode cX7_character 63 = .ok (.getfield 26, 3) := by decide +kernel
theorem dX7_character_66 : decode cX7_character 66 = .ok (.getfield 102, 3) := by decide +kernel
theorem dX7_character_69 : decode cX7_character 69 = .ok (.if_icmp .le 29, 3) := by decide +kernel
theorem dX7_character_72 : decode cX7_character 72 = .ok (.aload_n 0, 1) := by decide +kernel
theorem dX7_character_73 : decode cX7_character 73 = .ok (.getfield 26, 3) := by decide +kernel
theorem dX7_character_76 : decode cX7_character 76 = .ok (.getfield 172, 3) := by decide +kernel
theorem dX7_character_79 : decode cX7_character 79 = .ok (.ifCond .ne 4, 3) := by decide +kernel
theorem dX7_character_82 : decode cX7_character 82 = .ok (.return_, 1) := by decide +kernel
theorem dX7_character_83 : decode cX7_character 83 = .ok (.aload_n 0, 1) := by decide +kernel
theorem dX7_character_84 : decode cX7_character 84 = .ok (.invokevirtual 242, 3) := by decide +kernel
theorem dX7_character_87 : decode cX7_character 87 = .ok (.aload_n 0, 1) := by decide +kernel
theorem dX7_character_88 : decode cX7_character 88 = .ok (.aload_n 0, 1) := by decide +kernel
theorem dX7_character_89 : decode cX7_character 89 = .ok (.getfield 26, 3) := by decide +kernel
theorem dX7_character_92 : decode cX7_character 92 = .ok (.getfield 160, 3) := by decide +kernel
theorem dX7_character_95 : decode cX7_character 95 = .ok (.invokevirtual 245, 3) := by decide +kernel
theorem dX7_character_98 : decode cX7_character 98 = .ok (.iload_n 1, 1) := by decide +kernel
theorem dX7_character_99 : decode cX7_character 99 = .ok (.bipush 32, 2) := by decide +kernel
theorem dX7_character_101 : decode cX7_character 101 = .ok (.if_icmp .eq 32, 3) := by decide +kernel
theorem dX7_character_104 : decode cX7_character 104 = .ok (.aload_n 0, 1) := by decide +kernel
theorem dX7_character_105 : decode cX7_character 105 = .ok (.getfield 41, 3) := by decide +kernel
theorem dX7_character_108 : decode cX7_character 108 = .ok (.aload_n 0, 1) := by decide +kernel
theorem dX7_character_109 : decode cX7_character 109 = .ok (.getfield 26, 3) := by decide +kernel
theorem dX7_character_112 : decode cX7_character 112 = .ok (.getfield 105, 3) := by decide +kernel
theorem dX7_character_115 : decode cX7_character 115 = .ok (.aload_n 0, 1) := by decide +kernel
theorem dX7_character_116 : decode cX7_character 116 = .ok (.getfield 26, 3) := by decide +kernel
theorem dX7_character_119 : decode cX7_character 119 = .ok (.getfield 108, 3) := by decide +kernel
theorem dX7_character_122 : decode cX7_character 122 = .ok (.iload_n 1, 1) := by decide +kernel
theorem dX7_character_123 : decode cX7_character 123 = .ok (.aload_n 0, 1) := by decide +kernel
theorem dX7_character_124 : decode cX7_character 124 = .ok (.getfield 26, 3) := by decide +kernel
theorem dX7_character_127 : decode cX7_character 127 = .ok (.getfield 184, 3) := by decide +kernel
theorem dX7_character_130 : decode cX7_character 130 = .ok (.invokevirtual 248, 3) := by decide +kernel
theorem dX7_character_133 : decode cX7_character 133 = .ok (.aload_n 0, 1) := by decide +kernel
theorem dX7_character_134 : decode cX7_character 134 = .ok (.aload_n 0, 1) := by decide +kernel
theorem dX7_character_135 : decode cX7_character 135 = .ok (.getfield 26, 3) := by decide +kernel
theorem dX7_character_138 : decode cX7_character 138 = .ok (.getfield 105, 3) := by decide +kernel
theorem dX7_character_141 : decode cX7_character 141 = .ok (.iload_n 3, 1) := by decide +kernel
theorem dX7_character_142 : decode cX7_character 142 = .ok (.iadd, 1) := by decide +kernel
theorem dX7_character_143 : decode cX7_character 143 = .ok (.i2l, 1) := by decide +kernel
theorem dX7_character_144 : decode cX7_character 144 = .ok (.invokevirtual 80, 3) := by decide +kernel
theorem dX7_character_147 : decode cX7_character 147 = .ok (.return_, 1) := by decide +kernel
theorem dX7_controlCode_0 : decode cX7_controlCode 0 = .ok (.iload_n 1, 1) := by decide +kernel
theorem dX7_controlCode_1 : decode cX7_controlCode 1 = .ok (.tableswitch 119 8 15 #[47, 54, 61, 119, 79, 90, 97, 108], 47) := by decide +kernel
theorem dX7_controlCode_48 : decode cX7_controlCode 48 = .ok (.aload_n 0, 1) := by decide +kernel
theorem dX7_controlCode_49 : decode cX7_controlCode 49 = .ok (.invokevirtual 252, 3) := by decide +kernel
theorem dX7_controlCode_52 : decode cX7_controlCode 52 = .ok (.goto 68, 3) := by decide +kernel
theorem dX7_controlCode_55 : decode cX7_controlCode 55 = .ok (.aload_n 0, 1) := by decide +kernel
theorem dX7_controlCode_56 : decode cX7_controlCode 56 = .ok (.invokevirtual 255, 3) := by decide +kernel
theorem dX7_controlCode_59 : decode cX7_controlCode 59 = .ok (.goto 61, 3) := by decide +kernel
theorem dX7_controlCode_62 : decode cX7_controlCode 62 = .ok (.aload_n 0, 1) := by decide +kernel
theorem dX7_controlCode_63 : decode cX7_controlCode 63 = .ok (.invokevirtual 258, 3) := by decide +kernel
theorem dX7_controlCode_66 : decode cX7_controlCode 66 = .ok (.aload_n 0, 1) := by decide +kernel
theorem dX7_controlCode_67 : decode cX7_controlCode 67 = .ok (.aload_n 0, 1) := by decide +kernel
theorem dX7_controlCode_68 : decode cX7_controlCode 68 = .ok (.getfield 26, 3) := by decide +kernel
theorem dX7_controlCode_71 : decode cX7_controlCode 71 = .ok (.getfield 160, 3) := by decide +kernel
theorem dX7_controlCode_74 : decode cX7_controlCode 74 = .ok (.invokevirtual 245, 3) := by decide +kernel
theorem dX7_controlCode_77 : decode cX7_controlCode 77 = .ok (.goto 43, 3) := by decide +kernel
theorem dX7_controlCode_80 : decode cX7_controlCode 80 = .ok (.aload_n 0, 1) := by decide +kernel
theorem dX7_controlCode_81 : decode cX7_controlCode 81 = .ok (.invokevirtual 258, 3) := by decide +kernel
theorem dX7_controlCode_84 : decode cX7_controlCode 84 = .ok (.aload_n 0, 1) := by decide +kernel
theorem dX7_controlCode_85 : decode cX7_controlCode 85 = .ok (.invokevirtual 229, 3) := by decide +kernel
theorem dX7_controlCode_88 : decode cX7_controlCode 88 = .ok (.goto 32, 3) := by decide +kernel
theorem dX7_controlCode_91 : decode cX7_controlCode 91 = .ok (.aload_n 0, 1) := by decide +kernel
theorem dX7_controlCode_92 : decode cX7_controlCode 92 = .ok (.invokevirtual 261, 3) := by decide +kernel
theorem dX7_controlCode_95 : decode cX7_controlCode 95 = .ok (.goto 25, 3) := by decide +kernel
theorem dX7_controlCode_98 : decode cX7_controlCode 98 = .ok (.aload_n 0, 1) := by decide +kernel
theorem dX7_controlCode_99 : decode cX7_controlCode 99 = .ok (.getfield 26, 3) := by decide +kernel
theorem dX7_controlCode_102 : decode cX7_controlCode 102 = .ok (.iconst 1, 1) := by decide +kernel
theorem dX7_controlCode_103 : decode cX7_controlCode 103 = .ok (.putfield 184, 3) := by decide +kernel
theorem dX7_controlCode_106 : decode cX7_controlCode 106 = .ok (.goto 14, 3) := by decide +kernel
theorem dX7_controlCode_109 : decode cX7_controlCode 109 = .ok (.aload_n 0, 1) := by decide +kernel
theorem dX7_controlCode_110 : decode cX7_controlCode 110 = .ok (.getfield 26, 3) := by decide +kernel
theorem dX7_controlCode_113 : decode cX7_controlCode 113 = .ok (.iconst 0, 1) := by decide +kernel
theorem dX7_controlCode_114 : decode cX7_controlCode 114 = .ok (.putfield 184, 3) := by decide +kernel
theorem dX7_controlCode_117 : decode cX7_controlCode 117 = .ok (.goto 3, 3) := by decide +kernel
theorem dX7_controlCode_120 : decode cX7_controlCode 120 = .ok (.return_, 1) := by decide +kernel
theorem dX7_backspace_0 : decode cX7_backspace 0 = .ok (.aload_n 0, 1) := by decide +kernel
theorem dX7_backspace_1 : decode cX7_backspace 1 = .ok (.getfield 26, 3) := by decide +kernel
theorem dX7_backspace_4 : decode cX7_backspace 4 = .ok (.getfield 105, 3) := by decide +kernel
theorem dX7_backspace_7 : decode cX7_backspace 7 = .ok (.aload_n 0, 1) := by decide +kernel
theorem dX7_backspace_8 : decode cX7_backspace 8 = .ok (.getfield 26, 3) := by decide +kernel
theorem dX7_backspace_11 : decode cX7_backspace 11 = .ok (.getfield 91, 3) := by decide +kernel
theorem dX7_backspace_14 : decode cX7_backspace 14 = .ok (.if_icmp .ge 7, 3) := by decide +kernel
theorem dX7_backspace_17 : decode cX7_backspace 17 = .ok (.iconst 0, 1) := by decide +kernel
theorem dX7_backspace_18 : decode cX7_backspace 18 = .ok (.goto 10, 3) := by decide +kernel
theorem dX7_backspace_21 : decode cX7_backspace 21 = .ok (.aload_n 0, 1) := by decide +kernel
theorem dX7_backspace_22 : decode cX7_backspace 22 = .ok (.getfield 26, 3) := by decide +kernel
theorem dX7_backspace_25 : decode cX7_backspace 25 = .ok (.getfield 91, 3) := by decide +kernel
theorem dX7_backspace_28 : decode cX7_backspace 28 = .ok (.istore_n 1, 1) := by decide +kernel
theorem dX7_backspace_29 : decode cX7_backspace 29 = .ok (.aload_n 0, 1) := by decide +kernel
theorem dX7_backspace_30 : decode cX7_backspace 30 = .ok (.aload_n 0, 1) := by decide +kernel
theorem dX7_backspace_31 : decode cX7_backspace 31 = .ok (.getfield 26, 3) := by decide +kernel
theorem dX7_backspace_34 : decode cX7_backspace 34 = .ok (.getfield 105, 3) := by decide +kernel
theorem dX7_backspace_37 : decode cX7_backspace 37 = .ok (.i2l, 1) := by decide +kernel
theorem dX7_backspace_38 : decode cX7_backspace 38 = .ok (.aload_n 0, 1) := by decide +kernel
theorem dX7_backspace_39 : decode cX7_backspace 39 = .ok (.getfield 26, 3) := by decide +kernel
theorem dX7_backspace_42 : decode cX7_backspace 42 = .ok (.getfield 157, 3) := by decide +kernel
theorem dX7_backspace_45 : decode cX7_backspace 45 = .ok (.i2l, 1) := by decide +kernel
theorem dX7_backspace_46 : decode cX7_backspace 46 = .ok (.lsub, 1) := by decide +kernel
theorem dX7_backspace_47 : decode cX7_backspace 47 = .ok (.iload_n 1, 1) := by decide +kernel
theorem dX7_backspace_48 : decode cX7_backspace 48 = .ok (.aload_n 0, 1) := by decide +kernel
theorem dX7_backspace_49 : decode cX7_backspace 49 = .ok (.getfield 19, 3) := by decide +kernel
theorem dX7_backspace_52 : decode cX7_backspace 52 = .ok (.getfield 95, 3) := by decide +kernel
theorem dX7_backspace_55 : decode cX7_backspace 55 = .ok (.invokestatic 98, 3) := by decide +kernel
theorem dX7_backspace_58 : decode cX7_backspace 58 = .ok (.i2l, 1) := by decide +kernel
theorem dX7_backspace_59 : decode cX7_backspace 59 = .ok (.invokevirtual 80, 3) := by decide +kernel
theorem dX7_backspace_62 : decode cX7_backspace 62 = .ok (.return_, 1) := by decide +kernel
theorem dX7_tab_0 : decode cX7_tab 0 = .ok (.aload_n 0, 1) := by decide +kernel
theorem dX7_tab_1 : decode cX7_tab 1 = .ok (.getfield 26, 3) := by decide +kernel
theorem dX7_tab_4 : decode cX7_tab 4 = .ok (.getfield 105, 3) := by decide +kernel
theorem dX7_tab_7 : decode cX7_tab 7 = .ok (.aload_n 0, 1) := by decide +kernel
theorem dX7_tab_8 : decode cX7_tab 8 = .ok (.getfield 26, 3) := by decide +kernel
theorem dX7_tab_11 : decode cX7_tab 11 = .ok (.getfield 91, 3) := by decide +kernel
theorem dX7_tab_14 : decode cX7_tab 14 = .ok (.if_icmp .ge 18, 3) := by decide +kernel
theorem dX7_tab_17 : decode cX7_tab 17 = .ok (.aload_n 0, 1) := by decide +kernel
theorem dX7_tab_18 : decode cX7_tab 18 = .ok (.getfield 26, 3) := by decide +kernel
theorem dX7_tab_21 : decode cX7_tab 21 = .ok (.aload_n 0, 1) := by decide +kernel
theorem dX7_tab_22 : decode cX7_tab 22 = .ok (.getfield 26, 3) := by decide +kernel
theorem dX7_tab_25 : decode cX7_tab 25 = .ok (.getfield 91, 3) := by decide +kernel
theorem dX7_tab_28 : decode cX7_tab 28 = .ok (.putfield 105, 3) := by decide +kernel
theorem dX7_tab_31 : decode cX7_tab 31 = .ok (.return_, 1) := by decide +kernel
theorem dX7_tab_32 : decode cX7_tab 32 = .ok (.ldc2_w 264, 3) := by decide +kernel
theorem dX7_tab_35 : decode cX7_tab 35 = .ok (.aload_n 0, 1) := by decide +kernel
theorem dX7_tab_36 : decode cX7_tab 36 = .ok (.getfield 26, 3) := by decide +kernel
theorem dX7_tab_39 : decode cX7_tab 39 = .ok (.getfield 157, 3) := by decide +kernel
theorem dX7_tab_42 : decode cX7_tab 42 = .ok (.i2l, 1) := by decide +kernel
theorem dX7_tab_43 : decode cX7_tab 43 = .ok (.lmul, 1) := by decide +kernel
theorem dX7_tab_44 : decode cX7_tab 44 = .ok (.lstore_n 1, 1) := by decide +kernel
theorem dX7_tab_45 : decode cX7_tab 45 = .ok (.lload_n 1, 1) := by decide +kernel
theorem dX7_tab_46 : decode cX7_tab 46 = .ok (.lconst 0, 1) := by decide +kernel
theorem dX7_tab_47 : decode cX7_tab 47 = .ok (.lcmp, 1) := by decide +kernel
theorem dX7_tab_48 : decode cX7_tab 48 = .ok (.ifCond .le 52, 3) := by decide +kernel
theorem dX7_tab_51 : decode cX7_tab 51 = .ok (.aload_n 0, 1) := by decide +kernel
theorem dX7_tab_52 : decode cX7_tab 52 = .ok (.getfield 26, 3) := by decide +kernel
theorem dX7_tab_55 : decode cX7_tab 55 = .ok (.getfield 105, 3) := by decide +kernel
theorem dX7_tab_58 : decode cX7_tab 58 = .ok (.aload_n 0, 1) := by decide +kernel
theorem dX7_tab_59 : decode cX7_tab 59 = .ok (.getfield 26, 3) := by decide +kernel
theorem dX7_tab_62 : decode cX7_tab 62 = .ok (.getfield 91, 3) := by decide +kernel
theorem dX7_tab_65 : decode cX7_tab 65 = .ok (.isub, 1) := by decide +kernel
theorem dX7_tab_66 : decode cX7_tab 66 = .ok (.i2l, 1) := by decide +kernel
theorem dX7_tab_67 : decode cX7_tab 67 = .ok (.lload_n 1, 1) := by decide +kernel
theorem dX7_tab_68 : decode cX7_tab 68 = .ok (.ldiv, 1) := by decide +kernel
theorem dX7_tab_69 : decode cX7_tab 69 = .ok (.lconst 1, 1) := by decide +kernel
theorem dX7_tab_70 : decode cX7_tab 70 = .ok (.ladd, 1) := by decide +kernel
theorem dX7_tab_71 : decode cX7_tab 71 = .ok (.lstore_n 3, 1) := by decide +kernel
theorem dX7_tab_72 : decode cX7_tab 72 = .ok (.aload_n 0, 1) := by decide +kernel
theorem dX7_tab_73 : decode cX7_tab 73 = .ok (.aload_n 0, 1) := by decide +kernel
theorem dX7_tab_74 : decode cX7_tab 74 = .ok (.getfield 26, 3) := by decide +kernel
theorem dX7_tab_77 : decode cX7_tab 77 = .ok (.getfield 91, 3) := by decide +kernel
theorem dX7_tab_80 : decode cX7_tab 80 = .ok (.i2l, 1) := by decide +kernel
theorem dX7_tab_81 : decode cX7_tab 81 = .ok (.lload_n 1, 1) := by decide +kernel
theorem dX7_tab_82 : decode cX7_tab 82 = .ok (.lload_n 3, 1) := by decide +kernel
theorem dX7_tab_83 : decode cX7_tab 83 = .ok (.lmul, 1) := by decide +kernel
theorem dX7_tab_84 : decode cX7_tab 84 = .ok (.ladd, 1) := by decide +kernel
theorem dX7_tab_85 : decode cX7_tab 85 = .ok (.iconst 0, 1) := by decide +kernel
theorem dX7_tab_86 : decode cX7_tab 86 = .ok (.aload_n 0, 1) := by decide +kernel
theorem dX7_tab_87 : decode cX7_tab 87 = .ok (.getfield 26, 3) := by decide +kernel
theorem dX7_tab_90 : decode cX7_tab 90 = .ok (.getfield 102, 3) := by decide +kernel
theorem dX7_tab_93 : decode cX7_tab 93 = .ok (.invokestatic 98, 3) := by decide +kernel
theorem dX7_tab_96 : decode cX7_tab 96 = .ok (.i2l, 1) := by decide +kernel
theorem dX7_tab_97 : decode cX7_tab 97 = .ok (.invokevirtual 80, 3) := by decide +kernel
theorem dX7_tab_100 : decode cX7_tab 100 = .ok (.return_, 1) := by decide +kernel
theorem dX7_returnIfLineEndsSo_0 : decode cX7_returnIfLineEndsSo 0 = .ok (.aload_n 0, 1) := by decide +kernel
theorem dX7_returnIfLineEndsSo_1 : decode cX7_returnIfLineEndsSo 1 = .ok (.getfield 26, 3) := by decide +kernel
theorem dX7_returnIfLineEndsSo_4 : decode cX7_returnIfLineEndsSo 4 = .ok (.getfield 178, 3) := by decide +kernel
theorem dX7_returnIfLineEndsSo_7 : decode cX7_returnIfLineEndsSo 7 = .ok (.iconst 2, 1) := by decide +kernel
theorem dX7_returnIfLineEndsSo_8 : decode cX7_returnIfLineEndsSo 8 = .ok (.if_icmp .lt 7, 3) := by decide +kernel
theorem dX7_returnIfLineEndsSo_11 : decode cX7_returnIfLineEndsSo 11 = .ok (.aload_n 0, 1) := by decide +kernel
theorem dX7_returnIfLineEndsSo_12 : decode cX7_returnIfLineEndsSo 12 = .ok (.invokevirtual 242, 3) := by decide +kernel
theorem dX7_returnIfLineEndsSo_15 : decode cX7_returnIfLineEndsSo 15 = .ok (.return_, 1) := by decide +kernel
theorem dX7_returnWithLineEnd_0 : decode cX7_returnWithLineEnd 0 = .ok (.aload_n 0, 1) := by decide +kernel
theorem dX7_returnWithLineEnd_1 : decode cX7_returnWithLineEnd 1 = .ok (.invokevirtual 242, 3) := by decide +kernel
theorem dX7_returnWithLineEnd_4 : decode cX7_returnWithLineEnd 4 = .ok (.aload_n 0, 1) := by decide +kernel
theorem dX7_returnWithLineEnd_5 : decode cX7_returnWithLineEnd 5 = .ok (.getfield 26, 3) := by decide +kernel
theorem dX7_returnWithLineEnd_8 : decode cX7_returnWithLineEnd 8 = .ok (.getfield 178, 3) := by decide +kernel
theorem dX7_returnWithLineEnd_11 : decode cX7_returnWithLineEnd 11 = .ok (.iconst 1, 1) := by decide +kernel
theorem dX7_returnWithLineEnd_12 : decode cX7_returnWithLineEnd 12 = .ok (.if_icmp .eq 14, 3) := by decide +kernel
theorem dX7_returnWithLineEnd_15 : decode cX7_returnWithLineEnd 15 = .ok (.aload_n 0, 1) := by decide +kernel
theorem dX7_returnWithLineEnd_16 : decode cX7_returnWithLineEnd 16 = .ok (.getfield 26, 3) := by decide +kernel
theorem dX7_returnWithLineEnd_19 : decode cX7_returnWithLineEnd 19 = .ok (.getfield 178, 3) := by decide +kernel
theorem dX7_returnWithLineEnd_22 : decode cX7_returnWithLineEnd 22 = .ok (.iconst 3, 1) := by decide +kernel
theorem dX7_returnWithLineEnd_23 : decode cX7_returnWithLineEnd 23 = .ok (.if_icmp .ne 14, 3) := by decide +kernel
theorem dX7_returnWithLineEnd_26 : decode cX7_returnWithLineEnd 26 = .ok (.aload_n 0, 1) := by decide +kernel
theorem dX7_returnWithLineEnd_27 : decode cX7_returnWithLineEnd 27 = .ok (.aload_n 0, 1) := by decide +kernel
theorem dX7_returnWithLineEnd_28 : decode cX7_returnWithLineEnd 28 = .ok (.getfield 26, 3) := by decide +kernel
theorem dX7_returnWithLineEnd_31 : decode cX7_returnWithLineEnd 31 = .ok (.getfield 160, 3) := by decide +kernel
theorem dX7_returnWithLineEnd_34 : decode cX7_returnWithLineEnd 34 = .ok (.invokevirtual 245, 3) := by decide +kernel
theorem dX7_returnWithLineEnd_37 : decode cX7_returnWithLineEnd 37 = .ok (.return_, 1) := by decide +kernel
theorem dX7_carriageReturn_0 : decode cX7_carriageReturn 0 = .ok (.aload_n 0, 1) := by decide +kernel
theorem dX7_carriageReturn_1 : decode cX7_carriageReturn 1 = .ok (.getfield 26, 3) := by decide +kernel
theorem dX7_carriageReturn_4 : decode cX7_carriageReturn 4 = .ok (.aload_n 0, 1) := by decide +kernel
theorem dX7_carriageReturn_5 : decode cX7_carriageReturn 5 = .ok (.getfield 26, 3) := by decide +kernel
theorem dX7_carriageReturn_8 : decode cX7_carriageReturn 8 = .ok (.getfield 91, 3) := by decide +kernel
theorem dX7_carriageReturn_11 : decode cX7_carriageReturn 11 = .ok (.putfield 105, 3) := by decide +kernel
theorem dX7_carriageReturn_14 : decode cX7_carriageReturn 14 = .ok (.return_, 1) := by decide +kernel
theorem dX7_lineFeed_0 : decode cX7_lineFeed 0 = .ok (.aload_n 0, 1) := by decide +kernel
theorem dX7_lineFeed_1 : decode cX7_lineFeed 1 = .ok (.getfield 26, 3) := by decide +kernel
theorem dX7_lineFeed_4 : decode cX7_lineFeed 4 = .ok (.getfield 108, 3) := by decide +kernel
theorem dX7_lineFeed_7 : decode cX7_lineFeed 7 = .ok (.iload_n 1, 1) := by decide +kernel
theorem dX7_lineFeed_8 : decode cX7_lineFeed 8 = .ok (.iadd, 1) := by decide +kernel
theorem dX7_lineFeed_9 : decode cX7_lineFeed 9 = .ok (.istore_n 2, 1) := by decide +kernel
theorem dX7_lineFeed_10 : decode cX7_lineFeed 10 = .ok (.iload_n 2, 1) := by decide +kernel
theorem dX7_lineFeed_11 : decode cX7_lineFeed 11 = .ok (.aload_n 0, 1) := by decide +kernel
theorem dX7_lineFeed_12 : decode cX7_lineFeed 12 = .ok (.getfield 19, 3) := by decide +kernel
theorem dX7_lineFeed_15 : decode cX7_lineFeed 15 = .ok (.getfield 163, 3) := by decide +kernel
theorem dX7_lineFeed_18 : decode cX7_lineFeed 18 = .ok (.if_icmp .gt 32, 3) := by decide +kernel
theorem dX7_lineFeed_21 : decode cX7_lineFeed 21 = .ok (.aload_n 0, 1) := by decide +kernel
theorem dX7_lineFeed_22 : decode cX7_lineFeed 22 = .ok (.getfield 26, 3) := by decide +kernel
theorem dX7_lineFeed_25 : decode cX7_lineFeed 25 = .ok (.getfield 175, 3) := by decide +kernel
theorem dX7_lineFeed_28 : decode cX7_lineFeed 28 = .ok (.ifCond .eq 29, 3) := by decide +kernel
theorem dX7_lineFeed_31 : decode cX7_lineFeed 31 = .ok (.iload_n 2, 1) := by decide +kernel
theorem dX7_lineFeed_32 : decode cX7_lineFeed 32 = .ok (.aload_n 0, 1) := by decide +kernel
theorem dX7_lineFeed_33 : decode cX7_lineFeed 33 = .ok (.getfield 26, 3) := by decide +kernel
theorem dX7_lineFeed_36 : decode cX7_lineFeed 36 = .ok (.getfield 151, 3) := by decide +kernel
theorem dX7_lineFeed_39 : decode cX7_lineFeed 39 = .ok (.aload_n 0, 1) := by decide +kernel
theorem dX7_lineFeed_40 : decode cX7_lineFeed 40 = .ok (.getfield 26, 3) := by decide +kernel
theorem dX7_lineFeed_43 : decode cX7_lineFeed 43 = .ok (.getfield 154, 3) := by decide +kernel
theorem dX7_lineFeed_46 : decode cX7_lineFeed 46 = .ok (.iadd, 1) := by decide +kernel
theorem dX7_lineFeed_47 : decode cX7_lineFeed 47 = .ok (.if_icmp .le 10, 3) := by decide +kernel
theorem dX7_lineFeed_50 : decode cX7_lineFeed 50 = .ok (.aload_n 0, 1) := by decide +kernel
theorem dX7_lineFeed_51 : decode cX7_lineFeed 51 = .ok (.invokevirtual 229, 3) := by decide +kernel
theorem dX7_lineFeed_54 : decode cX7_lineFeed 54 = .ok (.goto 11, 3) := by decide +kernel
theorem dX7_lineFeed_57 : decode cX7_lineFeed 57 = .ok (.aload_n 0, 1) := by decide +kernel
theorem dX7_lineFeed_58 : decode cX7_lineFeed 58 = .ok (.getfield 26, 3) := by decide +kernel
theorem dX7_lineFeed_61 : decode cX7_lineFeed 61 = .ok (.iload_n 2, 1) := by decide +kernel
theorem dX7_lineFeed_62 : decode cX7_lineFeed 62 = .ok (.putfield 108, 3) := by decide +kernel
theorem dX7_lineFeed_65 : decode cX7_lineFeed 65 = .ok (.return_, 1) := by decide +kernel
theorem dX7_shortSequence_0 : decode cX7_shortSequence 0 = .ok (.iload_n 1, 1) := by decide +kernel
theorem dX7_shortSequence_1 : decode cX7_shortSequence 1 = .ok (.lookupswitch 97 #[(57, 56), (61, 81), (69, 35)], 35) := by decide +kernel
theorem dX7_shortSequence_36 : decode cX7_shortSequence 36 = .ok (.aload_n 0, 1) := by decide +kernel
theorem dX7_shortSequence_37 : decode cX7_shortSequence 37 = .ok (.getfield 41, 3) := by decide +kernel
theorem dX7_shortSequence_40 : decode cX7_shortSequence 40 = .ok (.invokevirtual 197, 3) := by decide +kernel
theorem dX7_shortSequence_43 : decode cX7_shortSequence 43 = .ok (.ifCond .eq 7, 3) := by decide +kernel
theorem dX7_shortSequence_46 : decode cX7_shortSequence 46 = .ok (.aload_n 0, 1) := by decide +kernel
theorem dX7_shortSequence_47 : decode cX7_shortSequence 47 = .ok (.invokevirtual 229, 3) := by decide +kernel
theorem dX7_shortSequence_50 : decode cX7_shortSequence 50 = .ok (.aload_n 0, 1) := by decide +kernel
theorem dX7_shortSequence_51 : decode cX7_shortSequence 51 = .ok (.invokevirtual 69, 3) := by decide +kernel
theorem dX7_shortSequence_54 : decode cX7_shortSequence 54 = .ok (.goto 44, 3) := by decide +kernel
theorem dX7_shortSequence_57 : decode cX7_shortSequence 57 = .ok (.aload_n 0, 1) := by decide +kernel
theorem dX7_shortSequence_58 : decode cX7_shortSequence 58 = .ok (.getfield 26, 3) := by decide +kernel
theorem dX7_shortSequence_61 : decode cX7_shortSequence 61 = .ok (.iconst 0, 1) := by decide +kernel
theorem dX7_shortSequence_62 : decode cX7_shortSequence 62 = .ok (.putfield 91, 3) := by decide +kernel
theorem dX7_shortSequence_65 : decode cX7_shortSequence 65 = .ok (.aload_n 0, 1) := by decide +kernel
theorem dX7_shortSequence_66 : decode cX7_shortSequence 66 = .ok (.getfield 26, 3) := by decide +kernel
theorem dX7_shortSequence_69 : decode cX7_shortSequence 69 = .ok (.aload_n 0, 1) := by decide +kernel
theorem dX7_shortSequence_70 : decode cX7_shortSequence 70 = .ok (.getfield 19, 3) := by decide +kernel
theorem dX7_shortSequence_73 : decode cX7_shortSequence 73 = .ok (.getfield 95, 3) := by decide +kernel
theorem dX7_shortSequence_76 : decode cX7_shortSequence 76 = .ok (.putfield 102, 3) := by decide +kernel
theorem dX7_shortSequence_79 : decode cX7_shortSequence 79 = .ok (.goto 19, 3) := by decide +kernel
theorem dX7_shortSequence_82 : decode cX7_shortSequence 82 = .ok (.aload_n 0, 1) := by decide +kernel
theorem dX7_shortSequence_83 : decode cX7_shortSequence 83 = .ok (.aload_n 0, 1) := by decide +kernel
theorem dX7_shortSequence_84 : decode cX7_shortSequence 84 = .ok (.getfield 26, 3) := by decide +kernel
theorem dX7_shortSequence_87 : decode cX7_shortSequence 87 = .ok (.getfield 160, 3) := by decide +kernel
theorem dX7_shortSequence_90 : decode cX7_shortSequence 90 = .ok (.iconst 2, 1) := by decide +kernel
theorem dX7_shortSequence_91 : decode cX7_shortSequence 91 = .ok (.idiv, 1) := by decide +kernel
theorem dX7_shortSequence_92 : decode cX7_shortSequence 92 = .ok (.invokevirtual 245, 3) := by decide +kernel
theorem dX7_shortSequence_95 : decode cX7_shortSequence 95 = .ok (.goto 3, 3) := by decide +kernel
theorem dX7_shortSequence_98 : decode cX7_shortSequence 98 = .ok (.return_, 1) := by decide +kernel
theorem dX7_command_0 : decode cX7_command 0 = .ok (.aload_n 0, 1) := by decide +kernel
theorem dX7_command_1 : decode cX7_command 1 = .ok (.getfield 10, 3) := by decide +kernel
theorem dX7_command_4 : decode cX7_command 4 = .ok (.getfield 266, 3) := by decide +kernel
theorem dX7_command_7 : decode cX7_command 7 = .ok (.ifCond .ge 7, 3) := by decide +kernel
theorem dX7_command_10 : decode cX7_command 10 = .ok (.lconst 0, 1) := by decide +kernel
theorem dX7_command_11 : decode cX7_command 11 = .ok (.goto 11, 3) := by decide +kernel
theorem dX7_command_14 : decode cX7_command 14 = .ok (.aload_n 0, 1) := by decide +kernel
theorem dX7_command_15 : decode cX7_command 15 = .ok (.getfield 10, 3) := by decide +kernel
theorem dX7_command_18 : decode cX7_command 18 = .ok (.getfield 266, 3) := by decide +kernel
theorem dX7_command_21 : decode cX7_command 21 = .ok (.i2l, 1) := by decide +kernel
theorem dX7_command_22 : decode cX7_command 22 = .ok (.lstore_n 1, 1) := by decide +kernel
theorem dX7_command_23 : decode cX7_command 23 = .ok (.lload_n 1, 1) := by decide +kernel
theorem dX7_command_24 : decode cX7_command 24 = .ok (.ldc2_w 269, 3) := by decide +kernel
theorem dX7_command_27 : decode cX7_command 27 = .ok (.ldiv, 1) := by decide +kernel
theorem dX7_command_28 : decode cX7_command 28 = .ok (.lstore_n 3, 1) := by decide +kernel
theorem dX7_command_29 : decode cX7_command 29 = .ok (.aload_n 0, 1) := by decide +kernel
theorem dX7_command_30 : decode cX7_command 30 = .ok (.getfield 10, 3) := by decide +kernel
theorem dX7_command_33 : decode cX7_command 33 = .ok (.getfield 271, 3) := by decide +kernel
theorem dX7_command_36 : decode cX7_command 36 = .ok (.bipush 8, 2) := by decide +kernel
theorem dX7_command_38 : decode cX7_command 38 = .ok (.ishl, 1) := by decide +kernel
theorem dX7_command_39 : decode cX7_command 39 = .ok (.aload_n 0, 1) := by decide +kernel
theorem dX7_command_40 : decode cX7_command 40 = .ok (.getfield 10, 3) := by decide +kernel
theorem dX7_command_43 : decode cX7_command 43 = .ok (.getfield 274, 3) := by decide +kernel
theorem dX7_command_46 : decode cX7_command 46 = .ok (.ior, 1) := by decide +kernel
theorem dX7_command_47 : decode cX7_command 47 = .ok (.lookupswitch 153 #[(9825, 87), (9830, 122), (9835, 76), (9836, 65), (9840, 132), (9843, 112), (10864, 144)], 65) := by decide +kernel
theorem dX7_command_112 : decode cX7_command 112 = .ok (.aload_n 0, 1) := by decide +kernel
theorem dX7_command_113 : decode cX7_command 113 = .ok (.lload_n 1, 1) := by decide +kernel
theorem dX7_command_114 : decode cX7_command 114 = .ok (.lload_n 3, 1) := by decide +kernel
theorem dX7_command_115 : decode cX7_command 115 = .ok (.invokevirtual 277, 3) := by decide +kernel
theorem dX7_command_118 : decode cX7_command 118 = .ok (.istore 5, 2) := by decide +kernel
theorem dX7_command_120 : decode cX7_command 120 = .ok (.goto 83, 3) := by decide +kernel
theorem dX7_command_123 : decode cX7_command 123 = .ok (.aload_n 0, 1) := by decide +kernel
theorem dX7_command_124 : decode cX7_command 124 = .ok (.lload_n 1, 1) := by decide +kernel
theorem dX7_command_125 : decode cX7_command 125 = .ok (.lload_n 3, 1) := by decide +kernel
theorem dX7_command_126 : decode cX7_command 126 = .ok (.invokevirtual 281, 3) := by decide +kernel
theorem dX7_command_129 : decode cX7_command 129 = .ok (.istore 5, 2) := by decide +kernel
theorem dX7_command_131 : decode cX7_command 131 = .ok (.goto 72, 3) := by decide +kernel
theorem dX7_command_134 : decode cX7_command 134 = .ok (.aload_n 0, 1) := by decide +kernel
theorem dX7_command_135 : decode cX7_command 135 = .ok (.lload_n 3, 1) := by decide +kernel
theorem dX7_command_136 : decode cX7_command 136 = .ok (.invokevirtual 284, 3) := by decide +kernel
theorem dX7_command_139 : decode cX7_command 139 = .ok (.ifCond .ne 10, 3) := by decide +kernel
theorem dX7_command_142 : decode cX7_command 142 = .ok (.aload_n 0, 1) := by decide +kernel
theorem dX7_command_143 : decode cX7_command 143 = .ok (.invokevirtual 288, 3) := by decide +kernel
theorem dX7_command_146 : decode cX7_command 146 = .ok (.ifCond .eq 7, 3) := by decide +kernel
theorem dX7_command_149 : decode cX7_command 149 = .ok (.iconst 1, 1) := by decide +kernel
theorem dX7_command_150 : decode cX7_command 150 = .ok (.goto 4, 3) := by decide +kernel
theorem dX7_command_153 : decode cX7_command 153 = .ok (.iconst 0, 1) := by decide +kernel
theorem dX7_command_154 : decode cX7_command 154 = .ok (.istore 5, 2) := by decide +kernel
theorem dX7_command_156 : decode cX7_command 156 = .ok (.goto 47, 3) := by decide +kernel
theorem dX7_command_159 : decode cX7_command 159 = .ok (.aload_n 0, 1) := by decide +kernel
theorem dX7_command_160 : decode cX7_command 160 = .ok (.lload_n 3, 1) := by decide +kernel
theorem dX7_command_161 : decode cX7_command 161 = .ok (.invokevirtual 291, 3) := by decide +kernel
theorem dX7_command_164 : decode cX7_command 164 = .ok (.istore 5, 2) := by decide +kernel
theorem dX7_command_166 : decode cX7_command 166 = .ok (.goto 37, 3) := by decide +kernel
theorem dX7_command_169 : decode cX7_command 169 = .ok (.aload_n 0, 1) := by decide +kernel
theorem dX7_command_170 : decode cX7_command 170 = .ok (.lload_n 3, 1) := by decide +kernel
theorem dX7_command_171 : decode cX7_command 171 = .ok (.invokevirtual 294, 3) := by decide +kernel
theorem dX7_command_174 : decode cX7_command 174 = .ok (.istore 5, 2) := by decide +kernel
theorem dX7_command_176 : decode cX7_command 176 = .ok (.goto 27, 3) := by decide +kernel
theorem dX7_command_179 : decode cX7_command 179 = .ok (.aload_n 0, 1) := by decide +kernel
theorem dX7_command_180 : decode cX7_command 180 = .ok (.getfield 10, 3) := by decide +kernel
theorem dX7_command_183 : decode cX7_command 183 = .ok (.invokevirtual 297, 3) := by decide +kernel
theorem dX7_command_186 : decode cX7_command 186 = .ok (.istore 5, 2) := by decide +kernel
theorem dX7_command_188 : decode cX7_command 188 = .ok (.goto 15, 3) := by decide +kernel
theorem dX7_command_191 : decode cX7_command 191 = .ok (.aload_n 0, 1) := by decide +kernel
theorem dX7_command_192 : decode cX7_command 192 = .ok (.invokevirtual 300, 3) := by decide +kernel
theorem dX7_command_195 : decode cX7_command 195 = .ok (.istore 5, 2) := by decide +kernel
theorem dX7_command_197 : decode cX7_command 197 = .ok (.goto 6, 3) := by decide +kernel
theorem dX7_command_200 : decode cX7_command 200 = .ok (.iconst 0, 1) := by decide +kernel
theorem dX7_command_201 : decode cX7_command 201 = .ok (.istore 5, 2) := by decide +kernel
theorem dX7_command_203 : decode cX7_command 203 = .ok (.iload 5, 2) := by decide +kernel
theorem dX7_command_205 : decode cX7_command 205 = .ok (.ifCond .ne 14, 3) := by decide +kernel
theorem dX7_command_208 : decode cX7_command 208 = .ok (.aload_n 0, 1) := by decide +kernel
theorem dX7_command_209 : decode cX7_command 209 = .ok (.getfield 55, 3) := by decide +kernel
theorem dX7_command_212 : decode cX7_command 212 = .ok (.aload_n 0, 1) := by decide +kernel
theorem dX7_command_213 : decode cX7_command 213 = .ok (.getfield 10, 3) := by decide +kernel
theorem dX7_command_216 : decode cX7_command 216 = .ok (.invokevirtual 303, 3) := by decide +kernel
theorem dX7_command_219 : decode cX7_command 219 = .ok (.return_, 1) := by decide +kernel
theorem dX7_pageCommand_0 : decode cX7_pageCommand 0 = .ok (.aload_n 0, 1) := by decide +kernel
theorem dX7_pageCommand_1 : decode cX7_pageCommand 1 = .ok (.getfield 10, 3) := by decide +kernel
theorem dX7_pageCommand_4 : decode cX7_pageCommand 4 = .ok (.getfield 306, 3) := by decide +kernel
theorem dX7_pageCommand_7 : decode cX7_pageCommand 7 = .ok (.tableswitch 251 65 88 #[109, 251, 170, 185, 193, 209, 251, 251, 251, 251, 251, 225, 251, 251, 131, 251, 251, 251, 251, 251, 251, 251, 251, 154], 109) := by decide +kernel
theorem dX7_pageCommand_116 : decode cX7_pageCommand 116 = .ok (.lload_n 3, 1) := by decide +kernel
theorem dX7_pageCommand_117 : decode cX7_pageCommand 117 = .ok (.invokestatic 309, 3) := by decide +kernel
theorem dX7_pageCommand_120 : decode cX7_pageCommand 120 = .ok (.ifCond .eq 16, 3) := by decide +kernel
theorem dX7_pageCommand_123 : decode cX7_pageCommand 123 = .ok (.aload_n 0, 1) := by decide +kernel
theorem dX7_pageCommand_124 : decode cX7_pageCommand 124 = .ok (.lload_n 3, 1) := by decide +kernel
theorem dX7_pageCommand_125 : decode cX7_pageCommand 125 = .ok (.l2i, 1) := by decide +kernel
theorem dX7_pageCommand_126 : decode cX7_pageCommand 126 = .ok (.aload_n 0, 1) := by decide +kernel
theorem dX7_pageCommand_127 : decode cX7_pageCommand 127 = .ok (.getfield 19, 3) := by decide +kernel
theorem dX7_pageCommand_130 : decode cX7_pageCommand 130 = .ok (.getfield 169, 3) := by decide +kernel
theorem dX7_pageCommand_133 : decode cX7_pageCommand 133 = .ok (.invokevirtual 312, 3) := by decide +kernel
theorem dX7_pageCommand_136 : decode cX7_pageCommand 136 = .ok (.iconst 1, 1) := by decide +kernel
theorem dX7_pageCommand_137 : decode cX7_pageCommand 137 = .ok (.ireturn, 1) := by decide +kernel
theorem dX7_pageCommand_138 : decode cX7_pageCommand 138 = .ok (.lload_n 3, 1) := by decide +kernel
theorem dX7_pageCommand_139 : decode cX7_pageCommand 139 = .ok (.ldc2_w 315, 3) := by decide +kernel
theorem dX7_pageCommand_142 : decode cX7_pageCommand 142 = .ok (.lcmp, 1) := by decide +kernel
theorem dX7_pageCommand_143 : decode cX7_pageCommand 143 = .ok (.ifCond .gt 16, 3) := by decide +kernel
theorem dX7_pageCommand_146 : decode cX7_pageCommand 146 = .ok (.aload_n 0, 1) := by decide +kernel
theorem dX7_pageCommand_147 : decode cX7_pageCommand 147 = .ok (.aload_n 0, 1) := by decide +kernel
theorem dX7_pageCommand_148 : decode cX7_pageCommand 148 = .ok (.getfield 19, 3) := by decide +kernel
theorem dX7_pageCommand_151 : decode cX7_pageCommand 151 = .ok (.getfield 166, 3) := by decide +kernel
theorem dX7_pageCommand_154 : decode cX7_pageCommand 154 = .ok (.lload_n 3, 1) := by decide +kernel
theorem dX7_pageCommand_155 : decode cX7_pageCommand 155 = .ok (.l2i, 1) := by decide +kernel
theorem dX7_pageCommand_156 : decode cX7_pageCommand 156 = .ok (.invokevirtual 312, 3) := by decide +kernel
theorem dX7_pageCommand_159 : decode cX7_pageCommand 159 = .ok (.iconst 1, 1) := by decide +kernel
theorem dX7_pageCommand_160 : decode cX7_pageCommand 160 = .ok (.ireturn, 1) := by decide +kernel
theorem dX7_pageCommand_161 : decode cX7_pageCommand 161 = .ok (.aload_n 0, 1) := by decide +kernel
theorem dX7_pageCommand_162 : decode cX7_pageCommand 162 = .ok (.getfield 19, 3) := by decide +kernel
theorem dX7_pageCommand_165 : decode cX7_pageCommand 165 = .ok (.lload_n 3, 1) := by decide +kernel
theorem dX7_pageCommand_166 : decode cX7_pageCommand 166 = .ok (.iconst 1, 1) := by decide +kernel
theorem dX7_pageCommand_167 : decode cX7_pageCommand 167 = .ok (.bipush 99, 2) := by decide +kernel
theorem dX7_pageCommand_169 : decode cX7_pageCommand 169 = .ok (.invokestatic 98, 3) := by decide +kernel
theorem dX7_pageCommand_172 : decode cX7_pageCommand 172 = .ok (.putfield 181, 3) := by decide +kernel
theorem dX7_pageCommand_175 : decode cX7_pageCommand 175 = .ok (.iconst 1, 1) := by decide +kernel
theorem dX7_pageCommand_176 : decode cX7_pageCommand 176 = .ok (.ireturn, 1) := by decide +kernel
theorem dX7_pageCommand_177 : decode cX7_pageCommand 177 = .ok (.aload_n 0, 1) := by decide +kernel
theorem dX7_pageCommand_178 : decode cX7_pageCommand 178 = .ok (.ldc2_w 317, 3) := by decide +kernel
theorem dX7_pageCommand_181 : decode cX7_pageCommand 181 = .ok (.lload_n 1, 1) := by decide +kernel
theorem dX7_pageCommand_182 : decode cX7_pageCommand 182 = .ok (.lmul, 1) := by decide +kernel
theorem dX7_pageCommand_183 : decode cX7_pageCommand 183 = .ok (.ldc2_w 269, 3) := by decide +kernel
theorem dX7_pageCommand_186 : decode cX7_pageCommand 186 = .ok (.ldiv, 1) := by decide +kernel
theorem dX7_pageCommand_187 : decode cX7_pageCommand 187 = .ok (.invokevirtual 319, 3) := by decide +kernel
theorem dX7_pageCommand_190 : decode cX7_pageCommand 190 = .ok (.iconst 1, 1) := by decide +kernel
theorem dX7_pageCommand_191 : decode cX7_pageCommand 191 = .ok (.ireturn, 1) := by decide +kernel
theorem dX7_pageCommand_192 : decode cX7_pageCommand 192 = .ok (.aload_n 0, 1) := by decide +kernel
theorem dX7_pageCommand_193 : decode cX7_pageCommand 193 = .ok (.lload_n 3, 1) := by decide +kernel
theorem dX7_pageCommand_194 : decode cX7_pageCommand 194 = .ok (.l2i, 1) := by decide +kernel
theorem dX7_pageCommand_195 : decode cX7_pageCommand 195 = .ok (.invokevirtual 322, 3) := by decide +kernel
theorem dX7_pageCommand_198 : decode cX7_pageCommand 198 = .ok (.iconst 1, 1) := by decide +kernel
theorem dX7_pageCommand_199 : decode cX7_pageCommand 199 = .ok (.ireturn, 1) := by decide +kernel
theorem dX7_pageCommand_200 : decode cX7_pageCommand 200 = .ok (.aload_n 0, 1) := by decide +kernel
theorem dX7_pageCommand_201 : decode cX7_pageCommand 201 = .ok (.lload_n 3, 1) := by decide +kernel
theorem dX7_pageCommand_202 : decode cX7_pageCommand 202 = .ok (.aload_n 0, 1) := by decide +kernel
theorem dX7_pageCommand_203 : decode cX7_pageCommand 203 = .ok (.getfield 26, 3) := by decide +kernel
theorem dX7_pageCommand_206 : decode cX7_pageCommand 206 = .ok (.getfield 160, 3) := by decide +kernel
theorem dX7_pageCommand_209 : decode cX7_pageCommand 209 = .ok (.i2l, 1) := by decide +kernel
theorem dX7_pageCommand_210 : decode cX7_pageCommand 210 = .ok (.lmul, 1) := by decide +kernel
theorem dX7_pageCommand_211 : decode cX7_pageCommand 211 = .ok (.invokevirtual 325, 3) := by decide +kernel
theorem dX7_pageCommand_214 : decode cX7_pageCommand 214 = .ok (.iconst 1, 1) := by decide +kernel
theorem dX7_pageCommand_215 : decode cX7_pageCommand 215 = .ok (.ireturn, 1) := by decide +kernel
theorem dX7_pageCommand_216 : decode cX7_pageCommand 216 = .ok (.aload_n 0, 1) := by decide +kernel
theorem dX7_pageCommand_217 : decode cX7_pageCommand 217 = .ok (.lload_n 3, 1) := by decide +kernel
theorem dX7_pageCommand_218 : decode cX7_pageCommand 218 = .ok (.aload_n 0, 1) := by decide +kernel
theorem dX7_pageCommand_219 : decode cX7_pageCommand 219 = .ok (.getfield 26, 3) := by decide +kernel
theorem dX7_pageCommand_222 : decode cX7_pageCommand 222 = .ok (.getfield 160, 3) := by decide +kernel
theorem dX7_pageCommand_225 : decode cX7_pageCommand 225 = .ok (.i2l, 1) := by decide +kernel
theorem dX7_pageCommand_226 : decode cX7_pageCommand 226 = .ok (.lmul, 1) := by decide +kernel
theorem dX7_pageCommand_227 : decode cX7_pageCommand 227 = .ok (.invokevirtual 328, 3) := by decide +kernel
theorem dX7_pageCommand_230 : decode cX7_pageCommand 230 = .ok (.iconst 1, 1) := by decide +kernel
theorem dX7_pageCommand_231 : decode cX7_pageCommand 231 = .ok (.ireturn, 1) := by decide +kernel
theorem dX7_pageCommand_232 : decode cX7_pageCommand 232 = .ok (.lload_n 3, 1) := by decide +kernel
theorem dX7_pageCommand_233 : decode cX7_pageCommand 233 = .ok (.lconst 1, 1) := by decide +kernel
theorem dX7_pageCommand_234 : decode cX7_pageCommand 234 = .ok (.lcmp, 1) := by decide +kernel
theorem dX7_pageCommand_235 : decode cX7_pageCommand 235 = .ok (.ifCond .gt 21, 3) := by decide +kernel
theorem dX7_pageCommand_238 : decode cX7_pageCommand 238 = .ok (.aload_n 0, 1) := by decide +kernel
theorem dX7_pageCommand_239 : decode cX7_pageCommand 239 = .ok (.getfield 26, 3) := by decide +kernel
theorem dX7_pageCommand_242 : decode cX7_pageCommand 242 = .ok (.lload_n 3, 1) := by decide +kernel
theorem dX7_pageCommand_243 : decode cX7_pageCommand 243 = .ok (.lconst 1, 1) := by decide +kernel
theorem dX7_pageCommand_244 : decode cX7_pageCommand 244 = .ok (.lcmp, 1) := by decide +kernel
theorem dX7_pageCommand_245 : decode cX7_pageCommand 245 = .ok (.ifCond .ne 7, 3) := by decide +kernel
theorem dX7_pageCommand_248 : decode cX7_pageCommand 248 = .ok (.iconst 1, 1) := by decide +kernel
theorem dX7_pageCommand_249 : decode cX7_pageCommand 249 = .ok (.goto 4, 3) := by decide +kernel
theorem dX7_pageCommand_252 : decode cX7_pageCommand 252 = .ok (.iconst 0, 1) := by decide +kernel
theorem dX7_pageCommand_253 : decode cX7_pageCommand 253 = .ok (.putfield 175, 3) := by decide +kernel
theorem dX7_pageCommand_256 : decode cX7_pageCommand 256 = .ok (.iconst 1, 1) := by decide +kernel
theorem dX7_pageCommand_257 : decode cX7_pageCommand 257 = .ok (.ireturn, 1) := by decide +kernel
theorem dX7_pageCommand_258 : decode cX7_pageCommand 258 = .ok (.iconst 0, 1) := by decide +kernel
theorem dX7_pageCommand_259 : decode cX7_pageCommand 259 = .ok (.ireturn, 1) := by decide +kernel
theorem dX7_setStepDown_0 : decode cX7_setStepDown 0 = .ok (.lload_n 1, 1) := by decide +kernel
theorem dX7_setStepDown_1 : decode cX7_setStepDown 1 = .ok (.aload_n 0, 1) := by decide +kernel
theorem dX7_setStepDown_2 : decode cX7_setStepDown 2 = .ok (.getfield 19, 3) := by decide +kernel
theorem dX7_setStepDown_5 : decode cX7_setStepDown 5 = .ok (.getfield 163, 3) := by decide +kernel
theorem dX7_setStepDown_8 : decode cX7_setStepDown 8 = .ok (.i2l, 1) := by decide +kernel
theorem dX7_setStepDown_9 : decode cX7_setStepDown 9 = .ok (.lcmp, 1) := by decide +kernel
theorem dX7_setStepDown_10 : decode cX7_setStepDown 10 = .ok (.ifCond .gt 12, 3) := by decide +kernel
theorem dX7_setStepDown_13 : decode cX7_setStepDown 13 = .ok (.aload_n 0, 1) := by decide +kernel
theorem dX7_setStepDown_14 : decode cX7_setStepDown 14 = .ok (.getfield 26, 3) := by decide +kernel
theorem dX7_setStepDown_17 : decode cX7_setStepDown 17 = .ok (.lload_n 1, 1) := by decide +kernel
theorem dX7_setStepDown_18 : decode cX7_setStepDown 18 = .ok (.l2i, 1) := by decide +kernel
theorem dX7_setStepDown_19 : decode cX7_setStepDown 19 = .ok (.putfield 160, 3) := by decide +kernel
theorem dX7_setStepDown_22 : decode cX7_setStepDown 22 = .ok (.return_, 1) := by decide +kernel
theorem dX7_setLinesPerInch_0 : decode cX7_setLinesPerInch 0 = .ok (.iload_n 1, 1) := by decide +kernel
theorem dX7_setLinesPerInch_1 : decode cX7_setLinesPerInch 1 = .ok (.lookupswitch 106 #[(1, 91), (2, 91), (3, 91), (4, 91), (6, 91), (8, 91), (12, 91), (16, 91), (24, 91), (48, 91)], 91) := by decide +kernel
theorem dX7_setLinesPerInch_92 : decode cX7_setLinesPerInch 92 = .ok (.aload_n 0, 1) := by decide +kernel
theorem dX7_setLinesPerInch_93 : decode cX7_setLinesPerInch 93 = .ok (.getfield 26, 3) := by decide +kernel
theorem dX7_setLinesPerInch_96 : decode cX7_setLinesPerInch 96 = .ok (.sipush 7200, 3) := by decide +kernel
theorem dX7_setLinesPerInch_99 : decode cX7_setLinesPerInch 99 = .ok (.iload_n 1, 1) := by decide +kernel
theorem dX7_setLinesPerInch_100 : decode cX7_setLinesPerInch 100 = .ok (.idiv, 1) := by decide +kernel
theorem dX7_setLinesPerInch_101 : decode cX7_setLinesPerInch 101 = .ok (.putfield 160, 3) := by decide +kernel
theorem dX7_setLinesPerInch_104 : decode cX7_setLinesPerInch 104 = .ok (.goto 3, 3) := by decide +kernel
theorem dX7_setLinesPerInch_107 : decode cX7_setLinesPerInch 107 = .ok (.return_, 1) := by decide +kernel
theorem dX7_setTop_0 : decode cX7_setTop 0 = .ok (.lload_n 1, 1) := by decide +kernel
theorem dX7_setTop_1 : decode cX7_setTop 1 = .ok (.aload_n 0, 1) := by decide +kernel
theorem dX7_setTop_2 : decode cX7_setTop 2 = .ok (.getfield 19, 3) := by decide +kernel
theorem dX7_setTop_5 : decode cX7_setTop 5 = .ok (.getfield 163, 3) := by decide +kernel
theorem dX7_setTop_8 : decode cX7_setTop 8 = .ok (.i2l, 1) := by decide +kernel
theorem dX7_setTop_9 : decode cX7_setTop 9 = .ok (.lcmp, 1) := by decide +kernel
theorem dX7_setTop_10 : decode cX7_setTop 10 = .ok (.ifCond .gt 44, 3) := by decide +kernel
theorem dX7_setTop_13 : decode cX7_setTop 13 = .ok (.aload_n 0, 1) := by decide +kernel
theorem dX7_setTop_14 : decode cX7_setTop 14 = .ok (.getfield 26, 3) := by decide +kernel
theorem dX7_setTop_17 : decode cX7_setTop 17 = .ok (.lload_n 1, 1) := by decide +kernel
theorem dX7_setTop_18 : decode cX7_setTop 18 = .ok (.l2i, 1) := by decide +kernel
theorem dX7_setTop_19 : decode cX7_setTop 19 = .ok (.putfield 151, 3) := by decide +kernel
theorem dX7_setTop_22 : decode cX7_setTop 22 = .ok (.aload_n 0, 1) := by decide +kernel
theorem dX7_setTop_23 : decode cX7_setTop 23 = .ok (.getfield 26, 3) := by decide +kernel
theorem dX7_setTop_26 : decode cX7_setTop 26 = .ok (.aload_n 0, 1) := by decide +kernel
theorem dX7_setTop_27 : decode cX7_setTop 27 = .ok (.getfield 19, 3) := by decide +kernel
theorem dX7_setTop_30 : decode cX7_setTop 30 = .ok (.getfield 163, 3) := by decide +kernel
theorem dX7_setTop_33 : decode cX7_setTop 33 = .ok (.i2l, 1) := by decide +kernel
theorem dX7_setTop_34 : decode cX7_setTop 34 = .ok (.lload_n 1, 1) := by decide +kernel
theorem dX7_setTop_35 : decode cX7_setTop 35 = .ok (.lsub, 1) := by decide +kernel
theorem dX7_setTop_36 : decode cX7_setTop 36 = .ok (.ldc2_w 331, 3) := by decide +kernel
theorem dX7_setTop_39 : decode cX7_setTop 39 = .ok (.lsub, 1) := by decide +kernel
theorem dX7_setTop_40 : decode cX7_setTop 40 = .ok (.iconst 0, 1) := by decide +kernel
theorem dX7_setTop_41 : decode cX7_setTop 41 = .ok (.aload_n 0, 1) := by decide +kernel
theorem dX7_setTop_42 : decode cX7_setTop 42 = .ok (.getfield 19, 3) := by decide +kernel
theorem dX7_setTop_45 : decode cX7_setTop 45 = .ok (.getfield 163, 3) := by decide +kernel
theorem dX7_setTop_48 : decode cX7_setTop 48 = .ok (.invokestatic 98, 3) := by decide +kernel
theorem dX7_setTop_51 : decode cX7_setTop 51 = .ok (.putfield 154, 3) := by decide +kernel
theorem dX7_setTop_54 : decode cX7_setTop 54 = .ok (.return_, 1) := by decide +kernel
theorem dX7_setLength_0 : decode cX7_setLength 0 = .ok (.aload_n 0, 1) := by decide +kernel
theorem dX7_setLength_1 : decode cX7_setLength 1 = .ok (.getfield 26, 3) := by decide +kernel
theorem dX7_setLength_4 : decode cX7_setLength 4 = .ok (.getfield 151, 3) := by decide +kernel
theorem dX7_setLength_7 : decode cX7_setLength 7 = .ok (.i2l, 1) := by decide +kernel
theorem dX7_setLength_8 : decode cX7_setLength 8 = .ok (.lload_n 1, 1) := by decide +kernel
theorem dX7_setLength_9 : decode cX7_setLength 9 = .ok (.ladd, 1) := by decide +kernel
theorem dX7_setLength_10 : decode cX7_setLength 10 = .ok (.aload_n 0, 1) := by decide +kernel
theorem dX7_setLength_11 : decode cX7_setLength 11 = .ok (.getfield 19, 3) := by decide +kernel
theorem dX7_setLength_14 : decode cX7_setLength 14 = .ok (.getfield 163, 3) := by decide +kernel
theorem dX7_setLength_17 : decode cX7_setLength 17 = .ok (.i2l, 1) := by decide +kernel
theorem dX7_setLength_18 : decode cX7_setLength 18 = .ok (.lcmp, 1) := by decide +kernel
theorem dX7_setLength_19 : decode cX7_setLength 19 = .ok (.ifCond .gt 12, 3) := by decide +kernel
theorem dX7_setLength_22 : decode cX7_setLength 22 = .ok (.aload_n 0, 1) := by decide +kernel
theorem dX7_setLength_23 : decode cX7_setLength 23 = .ok (.getfield 26, 3) := by decide +kernel
theorem dX7_setLength_26 : decode cX7_setLength 26 = .ok (.lload_n 1, 1) := by decide +kernel
theorem dX7_setLength_27 : decode cX7_setLength 27 = .ok (.l2i, 1) := by decide +kernel
theorem dX7_setLength_28 : decode cX7_setLength 28 = .ok (.putfield 154, 3) := by decide +kernel
theorem dX7_setLength_31 : decode cX7_setLength 31 = .ok (.return_, 1) := by decide +kernel
theorem dX7_spacingCommand_0 : decode cX7_spacingCommand 0 = .ok (.aload_n 0, 1) := by decide +kernel
theorem dX7_spacingCommand_1 : decode cX7_spacingCommand 1 = .ok (.getfield 10, 3) := by decide +kernel
theorem dX7_spacingCommand_4 : decode cX7_spacingCommand 4 = .ok (.getfield 306, 3) := by decide +kernel
theorem dX7_spacingCommand_7 : decode cX7_spacingCommand 7 = .ok (.lookupswitch 63 #[(71, 44), (72, 25)], 25) := by decide +kernel
theorem dX7_spacingCommand_32 : decode cX7_spacingCommand 32 = .ok (.aload_n 0, 1) := by decide +kernel
theorem dX7_spacingCommand_33 : decode cX7_spacingCommand 33 = .ok (.getfield 26, 3) := by decide +kernel
theorem dX7_spacingCommand_36 : decode cX7_spacingCommand 36 = .ok (.ldc2_w 333, 3) := by decide +kernel
theorem dX7_spacingCommand_39 : decode cX7_spacingCommand 39 = .ok (.lload_n 1, 1) := by decide +kernel
theorem dX7_spacingCommand_40 : decode cX7_spacingCommand 40 = .ok (.lmul, 1) := by decide +kernel
theorem dX7_spacingCommand_41 : decode cX7_spacingCommand 41 = .ok (.ldc2_w 269, 3) := by decide +kernel
theorem dX7_spacingCommand_44 : decode cX7_spacingCommand 44 = .ok (.ldiv, 1) := by decide +kernel
theorem dX7_spacingCommand_45 : decode cX7_spacingCommand 45 = .ok (.l2i, 1) := by decide +kernel
theorem dX7_spacingCommand_46 : decode cX7_spacingCommand 46 = .ok (.putfield 157, 3) := by decide +kernel
theorem dX7_spacingCommand_49 : decode cX7_spacingCommand 49 = .ok (.iconst 1, 1) := by decide +kernel
theorem dX7_spacingCommand_50 : decode cX7_spacingCommand 50 = .ok (.ireturn, 1) := by decide +kernel
theorem dX7_spacingCommand_51 : decode cX7_spacingCommand 51 = .ok (.lload_n 3, 1) := by decide +kernel
theorem dX7_spacingCommand_52 : decode cX7_spacingCommand 52 = .ok (.ldc2_w 315, 3) := by decide +kernel
theorem dX7_spacingCommand_55 : decode cX7_spacingCommand 55 = .ok (.lcmp, 1) := by decide +kernel
theorem dX7_spacingCommand_56 : decode cX7_spacingCommand 56 = .ok (.ifCond .gt 12, 3) := by decide +kernel
theorem dX7_spacingCommand_59 : decode cX7_spacingCommand 59 = .ok (.aload_n 0, 1) := by decide +kernel
theorem dX7_spacingCommand_60 : decode cX7_spacingCommand 60 = .ok (.getfield 26, 3) := by decide +kernel
theorem dX7_spacingCommand_63 : decode cX7_spacingCommand 63 = .ok (.lload_n 3, 1) := by decide +kernel
theorem dX7_spacingCommand_64 : decode cX7_spacingCommand 64 = .ok (.l2i, 1) := by decide +kernel
theorem dX7_spacingCommand_65 : decode cX7_spacingCommand 65 = .ok (.putfield 178, 3) := by decide +kernel
theorem dX7_spacingCommand_68 : decode cX7_spacingCommand 68 = .ok (.iconst 1, 1) := by decide +kernel
theorem dX7_spacingCommand_69 : decode cX7_spacingCommand 69 = .ok (.ireturn, 1) := by decide +kernel
theorem dX7_spacingCommand_70 : decode cX7_spacingCommand 70 = .ok (.iconst 0, 1) := by decide +kernel
theorem dX7_spacingCommand_71 : decode cX7_spacingCommand 71 = .ok (.ireturn, 1) := by decide +kernel
theorem dX7_marginCommand_0 : decode cX7_marginCommand 0 = .ok (.aload_n 0, 1) := by decide +kernel
theorem dX7_marginCommand_1 : decode cX7_marginCommand 1 = .ok (.getfield 10, 3) := by decide +kernel
theorem dX7_marginCommand_4 : decode cX7_marginCommand 4 = .ok (.getfield 306, 3) := by decide +kernel
theorem dX7_marginCommand_7 : decode cX7_marginCommand 7 = .ok (.lookupswitch 59 #[(76, 25), (77, 41)], 25) := by decide +kernel
theorem dX7_marginCommand_32 : decode cX7_marginCommand 32 = .ok (.aload_n 0, 1) := by decide +kernel
theorem dX7_marginCommand_33 : decode cX7_marginCommand 33 = .ok (.lload_n 1, 1) := by decide +kernel
theorem dX7_marginCommand_34 : decode cX7_marginCommand 34 = .ok (.aload_n 0, 1) := by decide +kernel
theorem dX7_marginCommand_35 : decode cX7_marginCommand 35 = .ok (.getfield 26, 3) := by decide +kernel
theorem dX7_marginCommand_38 : decode cX7_marginCommand 38 = .ok (.getfield 157, 3) := by decide +kernel
theorem dX7_marginCommand_41 : decode cX7_marginCommand 41 = .ok (.i2l, 1) := by decide +kernel
theorem dX7_marginCommand_42 : decode cX7_marginCommand 42 = .ok (.lmul, 1) := by decide +kernel
theorem dX7_marginCommand_43 : decode cX7_marginCommand 43 = .ok (.invokevirtual 335, 3) := by decide +kernel
theorem dX7_marginCommand_46 : decode cX7_marginCommand 46 = .ok (.iconst 1, 1) := by decide +kernel
theorem dX7_marginCommand_47 : decode cX7_marginCommand 47 = .ok (.ireturn, 1) := by decide +kernel
theorem dX7_marginCommand_48 : decode cX7_marginCommand 48 = .ok (.aload_n 0, 1) := by decide +kernel
theorem dX7_marginCommand_49 : decode cX7_marginCommand 49 = .ok (.lload_n 1, 1) := by decide +kernel
theorem dX7_marginCommand_50 : decode cX7_marginCommand 50 = .ok (.lconst 1, 1) := by decide +kernel
theorem dX7_marginCommand_51 : decode cX7_marginCommand 51 = .ok (.ladd, 1) := by decide +kernel
theorem dX7_marginCommand_52 : decode cX7_marginCommand 52 = .ok (.aload_n 0, 1) := by decide +kernel
theorem dX7_marginCommand_53 : decode cX7_marginCommand 53 = .ok (.getfield 26, 3) := by decide +kernel
theorem dX7_marginCommand_56 : decode cX7_marginCommand 56 = .ok (.getfield 157, 3) := by decide +kernel
theorem dX7_marginCommand_59 : decode cX7_marginCommand 59 = .ok (.i2l, 1) := by decide +kernel
theorem dX7_marginCommand_60 : decode cX7_marginCommand 60 = .ok (.lmul, 1) := by decide +kernel
theorem dX7_marginCommand_61 : decode cX7_marginCommand 61 = .ok (.invokevirtual 338, 3) := by decide +kernel
theorem dX7_marginCommand_64 : decode cX7_marginCommand 64 = .ok (.iconst 1, 1) := by decide +kernel
theorem dX7_marginCommand_65 : decode cX7_marginCommand 65 = .ok (.ireturn, 1) := by decide +kernel
theorem dX7_marginCommand_66 : decode cX7_marginCommand 66 = .ok (.iconst 0, 1) := by decide +kernel
theorem dX7_marginCommand_67 : decode cX7_marginCommand 67 = .ok (.ireturn, 1) := by decide +kernel
theorem dX7_setLeft_0 : decode cX7_setLeft 0 = .ok (.lload_n 1, 1) := by decide +kernel
theorem dX7_setLeft_1 : decode cX7_setLeft 1 = .ok (.aload_n 0, 1) := by decide +kernel
theorem dX7_setLeft_2 : decode cX7_setLeft 2 = .ok (.getfield 26, 3) := by decide +kernel
theorem dX7_setLeft_5 : decode cX7_setLeft 5 = .ok (.getfield 102, 3) := by decide +kernel
theorem dX7_setLeft_8 : decode cX7_setLeft 8 = .ok (.i2l, 1) := by decide +kernel
theorem dX7_setLeft_9 : decode cX7_setLeft 9 = .ok (.lcmp, 1) := by decide +kernel
theorem dX7_setLeft_10 : decode cX7_setLeft 10 = .ok (.ifCond .ge 43, 3) := by decide +kernel
theorem dX7_setLeft_13 : decode cX7_setLeft 13 = .ok (.aload_n 0, 1) := by decide +kernel
theorem dX7_setLeft_14 : decode cX7_setLeft 14 = .ok (.getfield 26, 3) := by decide +kernel
theorem dX7_setLeft_17 : decode cX7_setLeft 17 = .ok (.lload_n 1, 1) := by decide +kernel
theorem dX7_setLeft_18 : decode cX7_setLeft 18 = .ok (.l2i, 1) := by decide +kernel
theorem dX7_setLeft_19 : decode cX7_setLeft 19 = .ok (.putfield 91, 3) := by decide +kernel
theorem dX7_setLeft_22 : decode cX7_setLeft 22 = .ok (.aload_n 0, 1) := by decide +kernel
theorem dX7_setLeft_23 : decode cX7_setLeft 23 = .ok (.getfield 26, 3) := by decide +kernel
theorem dX7_setLeft_26 : decode cX7_setLeft 26 = .ok (.getfield 105, 3) := by decide +kernel
theorem dX7_setLeft_29 : decode cX7_setLeft 29 = .ok (.aload_n 0, 1) := by decide +kernel
theorem dX7_setLeft_30 : decode cX7_setLeft 30 = .ok (.getfield 26, 3) := by decide +kernel
theorem dX7_setLeft_33 : decode cX7_setLeft 33 = .ok (.getfield 91, 3) := by decide +kernel
theorem dX7_setLeft_36 : decode cX7_setLeft 36 = .ok (.if_icmp .ge 17, 3) := by decide +kernel
theorem dX7_setLeft_39 : decode cX7_setLeft 39 = .ok (.aload_n 0, 1) := by decide +kernel
theorem dX7_setLeft_40 : decode cX7_setLeft 40 = .ok (.getfield 26, 3) := by decide +kernel
theorem dX7_setLeft_43 : decode cX7_setLeft 43 = .ok (.aload_n 0, 1) := by decide +kernel
theorem dX7_setLeft_44 : decode cX7_setLeft 44 = .ok (.getfield 26, 3) := by decide +kernel
theorem dX7_setLeft_47 : decode cX7_setLeft 47 = .ok (.getfield 91, 3) := by decide +kernel
theorem dX7_setLeft_50 : decode cX7_setLeft 50 = .ok (.putfield 105, 3) := by decide +kernel
theorem dX7_setLeft_53 : decode cX7_setLeft 53 = .ok (.return_, 1) := by decide +kernel
theorem dX7_setRight_0 : decode cX7_setRight 0 = .ok (.lload_n 1, 1) := by decide +kernel
theorem dX7_setRight_1 : decode cX7_setRight 1 = .ok (.aload_n 0, 1) := by decide +kernel
theorem dX7_setRight_2 : decode cX7_setRight 2 = .ok (.getfield 26, 3) := by decide +kernel
theorem dX7_setRight_5 : decode cX7_setRight 5 = .ok (.getfield 91, 3) := by decide +kernel
theorem dX7_setRight_8 : decode cX7_setRight 8 = .ok (.i2l, 1) := by decide +kernel
theorem dX7_setRight_9 : decode cX7_setRight 9 = .ok (.lcmp, 1) := by decide +kernel
theorem dX7_setRight_10 : decode cX7_setRight 10 = .ok (.ifCond .le 53, 3) := by decide +kernel
theorem dX7_setRight_13 : decode cX7_setRight 13 = .ok (.aload_n 0, 1) := by decide +kernel
theorem dX7_setRight_14 : decode cX7_setRight 14 = .ok (.getfield 26, 3) := by decide +kernel
theorem dX7_setRight_17 : decode cX7_setRight 17 = .ok (.lload_n 1, 1) := by decide +kernel
theorem dX7_setRight_18 : decode cX7_setRight 18 = .ok (.iconst 0, 1) := by decide +kernel
theorem dX7_setRight_19 : decode cX7_setRight 19 = .ok (.aload_n 0, 1) := by decide +kernel
theorem dX7_setRight_20 : decode cX7_setRight 20 = .ok (.getfield 19, 3) := by decide +kernel
theorem dX7_setRight_23 : decode cX7_setRight 23 = .ok (.getfield 95, 3) := by decide +kernel
theorem dX7_setRight_26 : decode cX7_setRight 26 = .ok (.invokestatic 98, 3) := by decide +kernel
theorem dX7_setRight_29 : decode cX7_setRight 29 = .ok (.putfield 102, 3) := by decide +kernel
theorem dX7_setRight_32 : decode cX7_setRight 32 = .ok (.aload_n 0, 1) := by decide +kernel
theorem dX7_setRight_33 : decode cX7_setRight 33 = .ok (.getfield 26, 3) := by decide +kernel
theorem dX7_setRight_36 : decode cX7_setRight 36 = .ok (.getfield 105, 3) := by decide +kernel
theorem dX7_setRight_39 : decode cX7_setRight 39 = .ok (.aload_n 0, 1) := by decide +kernel
theorem dX7_setRight_40 : decode cX7_setRight 40 = .ok (.getfield 26, 3) := by decide +kernel
theorem dX7_setRight_43 : decode cX7_setRight 43 = .ok (.getfield 102, 3) := by decide +kernel
theorem dX7_setRight_46 : decode cX7_setRight 46 = .ok (.if_icmp .le 17, 3) := by decide +kernel
theorem dX7_setRight_49 : decode cX7_setRight 49 = .ok (.aload_n 0, 1) := by decide +kernel
theorem dX7_setRight_50 : decode cX7_setRight 50 = .ok (.getfield 26, 3) := by decide +kernel
theorem dX7_setRight_53 : decode cX7_setRight 53 = .ok (.aload_n 0, 1) := by decide +kernel
theorem dX7_setRight_54 : decode cX7_setRight 54 = .ok (.getfield 26, 3) := by decide +kernel
theorem dX7_setRight_57 : decode cX7_setRight 57 = .ok (.getfield 102, 3) := by decide +kernel
theorem dX7_setRight_60 : decode cX7_setRight 60 = .ok (.putfield 105, 3) := by decide +kernel
theorem dX7_setRight_63 : decode cX7_setRight 63 = .ok (.return_, 1) := by decide +kernel
theorem dX7_wrapCommand_0 : decode cX7_wrapCommand 0 = .ok (.aload_n 0, 1) := by decide +kernel
theorem dX7_wrapCommand_1 : decode cX7_wrapCommand 1 = .ok (.getfield 10, 3) := by decide +kernel
theorem dX7_wrapCommand_4 : decode cX7_wrapCommand 4 = .ok (.getfield 306, 3) := by decide +kernel
theorem dX7_wrapCommand_7 : decode cX7_wrapCommand 7 = .ok (.bipush 67, 2) := by decide +kernel
theorem dX7_wrapCommand_9 : decode cX7_wrapCommand 9 = .ok (.if_icmp .eq 5, 3) := by decide +kernel
theorem dX7_wrapCommand_12 : decode cX7_wrapCommand 12 = .ok (.iconst 0, 1) := by decide +kernel
theorem dX7_wrapCommand_13 : decode cX7_wrapCommand 13 = .ok (.ireturn, 1) := by decide +kernel
theorem dX7_wrapCommand_14 : decode cX7_wrapCommand 14 = .ok (.lload_n 1, 1) := by decide +kernel
theorem dX7_wrapCommand_15 : decode cX7_wrapCommand 15 = .ok (.lconst 1, 1) := by decide +kernel
theorem dX7_wrapCommand_16 : decode cX7_wrapCommand 16 = .ok (.lcmp, 1) := by decide +kernel
theorem dX7_wrapCommand_17 : decode cX7_wrapCommand 17 = .ok (.ifCond .gt 21, 3) := by decide +kernel
theorem dX7_wrapCommand_20 : decode cX7_wrapCommand 20 = .ok (.aload_n 0, 1) := by decide +kernel
theorem dX7_wrapCommand_21 : decode cX7_wrapCommand 21 = .ok (.getfield 26, 3) := by decide +kernel
theorem dX7_wrapCommand_24 : decode cX7_wrapCommand 24 = .ok (.lload_n 1, 1) := by decide +kernel
theorem dX7_wrapCommand_25 : decode cX7_wrapCommand 25 = .ok (.lconst 0, 1) := by decide +kernel
theorem dX7_wrapCommand_26 : decode cX7_wrapCommand 26 = .ok (.lcmp, 1) := by decide +kernel
theorem dX7_wrapCommand_27 : decode cX7_wrapCommand 27 = .ok (.ifCond .ne 7, 3) := by decide +kernel
theorem dX7_wrapCommand_30 : decode cX7_wrapCommand 30 = .ok (.iconst 1, 1) := by decide +kernel
theorem dX7_wrapCommand_31 : decode cX7_wrapCommand 31 = .ok (.goto 4, 3) := by decide +kernel
theorem dX7_wrapCommand_34 : decode cX7_wrapCommand 34 = .ok (.iconst 0, 1) := by decide +kernel
theorem dX7_wrapCommand_35 : decode cX7_wrapCommand 35 = .ok (.putfield 172, 3) := by decide +kernel
theorem dX7_wrapCommand_38 : decode cX7_wrapCommand 38 = .ok (.iconst 1, 1) := by decide +kernel
theorem dX7_wrapCommand_39 : decode cX7_wrapCommand 39 = .ok (.ireturn, 1) := by decide +kernel
theorem dX7_stackCommand_0 : decode cX7_stackCommand 0 = .ok (.aload_n 0, 1) := by decide +kernel
theorem dX7_stackCommand_1 : decode cX7_stackCommand 1 = .ok (.getfield 10, 3) := by decide +kernel
theorem dX7_stackCommand_4 : decode cX7_stackCommand 4 = .ok (.getfield 306, 3) := by decide +kernel
theorem dX7_stackCommand_7 : decode cX7_stackCommand 7 = .ok (.bipush 83, 2) := by decide +kernel
theorem dX7_stackCommand_9 : decode cX7_stackCommand 9 = .ok (.if_icmp .eq 5, 3) := by decide +kernel
theorem dX7_stackCommand_12 : decode cX7_stackCommand 12 = .ok (.iconst 0, 1) := by decide +kernel
theorem dX7_stackCommand_13 : decode cX7_stackCommand 13 = .ok (.ireturn, 1) := by decide +kernel
theorem dX7_stackCommand_14 : decode cX7_stackCommand 14 = .ok (.lload_n 1, 1) := by decide +kernel
theorem dX7_stackCommand_15 : decode cX7_stackCommand 15 = .ok (.lconst 0, 1) := by decide +kernel
theorem dX7_stackCommand_16 : decode cX7_stackCommand 16 = .ok (.lcmp, 1) := by decide +kernel
theorem dX7_stackCommand_17 : decode cX7_stackCommand 17 = .ok (.ifCond .ne 13, 3) := by decide +kernel
theorem dX7_stackCommand_20 : decode cX7_stackCommand 20 = .ok (.aload_n 0, 1) := by decide +kernel
theorem dX7_stackCommand_21 : decode cX7_stackCommand 21 = .ok (.getfield 26, 3) := by decide +kernel
theorem dX7_stackCommand_24 : decode cX7_stackCommand 24 = .ok (.invokevirtual 341, 3) := by decide +kernel
theorem dX7_stackCommand_27 : decode cX7_stackCommand 27 = .ok (.goto 72, 3) := by decide +kernel
theorem dX7_stackCommand_30 : decode cX7_stackCommand 30 = .ok (.lload_n 1, 1) := by decide +kernel
theorem dX7_stackCommand_31 : decode cX7_stackCommand 31 = .ok (.lconst 1, 1) := by decide +kernel
theorem dX7_stackCommand_32 : decode cX7_stackCommand 32 = .ok (.lcmp, 1) := by decide +kernel
theorem dX7_stackCommand_33 : decode cX7_stackCommand 33 = .ok (.ifCond .ne 66, 3) := by decide +kernel
theorem dX7_stackCommand_36 : decode cX7_stackCommand 36 = .ok (.aload_n 0, 1) := by decide +kernel
theorem dX7_stackCommand_37 : decode cX7_stackCommand 37 = .ok (.getfield 26, 3) := by decide +kernel
theorem dX7_stackCommand_40 : decode cX7_stackCommand 40 = .ok (.getfield 142, 3) := by decide +kernel
theorem dX7_stackCommand_43 : decode cX7_stackCommand 43 = .ok (.ifCond .le 56, 3) := by decide +kernel
theorem dX7_stackCommand_46 : decode cX7_stackCommand 46 = .ok (.aload_n 0, 1) := by decide +kernel
theorem dX7_stackCommand_47 : decode cX7_stackCommand 47 = .ok (.getfield 26, 3) := by decide +kernel
theorem dX7_stackCommand_50 : decode cX7_stackCommand 50 = .ok (.dup, 1) := by decide +kernel
theorem dX7_stackCommand_51 : decode cX7_stackCommand 51 = .ok (.getfield 142, 3) := by decide +kernel
theorem dX7_stackCommand_54 : decode cX7_stackCommand 54 = .ok (.iconst 1, 1) := by decide +kernel
theorem dX7_stackCommand_55 : decode cX7_stackCommand 55 = .ok (.isub, 1) := by decide +kernel
theorem dX7_stackCommand_56 : decode cX7_stackCommand 56 = .ok (.putfield 142, 3) := by decide +kernel
theorem dX7_stackCommand_59 : decode cX7_stackCommand 59 = .ok (.aload_n 0, 1) := by decide +kernel
theorem dX7_stackCommand_60 : decode cX7_stackCommand 60 = .ok (.aload_n 0, 1) := by decide +kernel
theorem dX7_stackCommand_61 : decode cX7_stackCommand 61 = .ok (.getfield 26, 3) := by decide +kernel
theorem dX7_stackCommand_64 : decode cX7_stackCommand 64 = .ok (.getfield 148, 3) := by decide +kernel
theorem dX7_stackCommand_67 : decode cX7_stackCommand 67 = .ok (.aload_n 0, 1) := by decide +kernel
theorem dX7_stackCommand_68 : decode cX7_stackCommand 68 = .ok (.getfield 26, 3) := by decide +kernel
theorem dX7_stackCommand_71 : decode cX7_stackCommand 71 = .ok (.getfield 142, 3) := by decide +kernel
theorem dX7_stackCommand_74 : decode cX7_stackCommand 74 = .ok (.iaload, 1) := by decide +kernel
theorem dX7_stackCommand_75 : decode cX7_stackCommand 75 = .ok (.i2l, 1) := by decide +kernel
theorem dX7_stackCommand_76 : decode cX7_stackCommand 76 = .ok (.invokevirtual 80, 3) := by decide +kernel
theorem dX7_stackCommand_79 : decode cX7_stackCommand 79 = .ok (.aload_n 0, 1) := by decide +kernel
theorem dX7_stackCommand_80 : decode cX7_stackCommand 80 = .ok (.aload_n 0, 1) := by decide +kernel
theorem dX7_stackCommand_81 : decode cX7_stackCommand 81 = .ok (.getfield 26, 3) := by decide +kernel
theorem dX7_stackCommand_84 : decode cX7_stackCommand 84 = .ok (.getfield 145, 3) := by decide +kernel
theorem dX7_stackCommand_87 : decode cX7_stackCommand 87 = .ok (.aload_n 0, 1) := by decide +kernel
theorem dX7_stackCommand_88 : decode cX7_stackCommand 88 = .ok (.getfield 26, 3) := by decide +kernel
theorem dX7_stackCommand_91 : decode cX7_stackCommand 91 = .ok (.getfield 142, 3) := by decide +kernel
theorem dX7_stackCommand_94 : decode cX7_stackCommand 94 = .ok (.iaload, 1) := by decide +kernel
theorem dX7_stackCommand_95 : decode cX7_stackCommand 95 = .ok (.i2l, 1) := by decide +kernel
theorem dX7_stackCommand_96 : decode cX7_stackCommand 96 = .ok (.invokevirtual 84, 3) := by decide +kernel
theorem dX7_stackCommand_99 : decode cX7_stackCommand 99 = .ok (.iconst 1, 1) := by decide +kernel
theorem dX7_stackCommand_100 : decode cX7_stackCommand 100 = .ok (.ireturn, 1) := by decide +kernel
theorem dX7_cursorCommand_0 : decode cX7_cursorCommand 0 = .ok (.aload_n 0, 1) := by decide +kernel
theorem dX7_cursorCommand_1 : decode cX7_cursorCommand 1 = .ok (.getfield 10, 3) := by decide +kernel
theorem dX7_cursorCommand_4 : decode cX7_cursorCommand 4 = .ok (.getfield 306, 3) := by decide +kernel
theorem dX7_cursorCommand_7 : decode cX7_cursorCommand 7 = .ok (.lookupswitch 101 #[(67, 41), (72, 55), (82, 64), (86, 85)], 41) := by decide +kernel
theorem dX7_cursorCommand_48 : decode cX7_cursorCommand 48 = .ok (.aload_n 0, 1) := by decide +kernel
theorem dX7_cursorCommand_49 : decode cX7_cursorCommand 49 = .ok (.aload_n 0, 1) := by decide +kernel
theorem dX7_cursorCommand_50 : decode cX7_cursorCommand 50 = .ok (.getfield 26, 3) := by decide +kernel
theorem dX7_cursorCommand_53 : decode cX7_cursorCommand 53 = .ok (.getfield 157, 3) := by decide +kernel
theorem dX7_cursorCommand_56 : decode cX7_cursorCommand 56 = .ok (.i2l, 1) := by decide +kernel
theorem dX7_cursorCommand_57 : decode cX7_cursorCommand 57 = .ok (.invokevirtual 344, 3) := by decide +kernel
theorem dX7_cursorCommand_60 : decode cX7_cursorCommand 60 = .ok (.iconst 1, 1) := by decide +kernel
theorem dX7_cursorCommand_61 : decode cX7_cursorCommand 61 = .ok (.ireturn, 1) := by decide +kernel
theorem dX7_cursorCommand_62 : decode cX7_cursorCommand 62 = .ok (.aload_n 0, 1) := by decide +kernel
theorem dX7_cursorCommand_63 : decode cX7_cursorCommand 63 = .ok (.ldc2_w 347, 3) := by decide +kernel
theorem dX7_cursorCommand_66 : decode cX7_cursorCommand 66 = .ok (.invokevirtual 344, 3) := by decide +kernel
theorem dX7_cursorCommand_69 : decode cX7_cursorCommand 69 = .ok (.iconst 1, 1) := by decide +kernel
theorem dX7_cursorCommand_70 : decode cX7_cursorCommand 70 = .ok (.ireturn, 1) := by decide +kernel
theorem dX7_cursorCommand_71 : decode cX7_cursorCommand 71 = .ok (.aload_n 0, 1) := by decide +kernel
theorem dX7_cursorCommand_72 : decode cX7_cursorCommand 72 = .ok (.aload_n 0, 1) := by decide +kernel
theorem dX7_cursorCommand_73 : decode cX7_cursorCommand 73 = .ok (.getfield 26, 3) := by decide +kernel
theorem dX7_cursorCommand_76 : decode cX7_cursorCommand 76 = .ok (.invokevirtual 225, 3) := by decide +kernel
theorem dX7_cursorCommand_79 : decode cX7_cursorCommand 79 = .ok (.aload_n 0, 1) := by decide +kernel
theorem dX7_cursorCommand_80 : decode cX7_cursorCommand 80 = .ok (.getfield 26, 3) := by decide +kernel
theorem dX7_cursorCommand_83 : decode cX7_cursorCommand 83 = .ok (.getfield 160, 3) := by decide +kernel
theorem dX7_cursorCommand_86 : decode cX7_cursorCommand 86 = .ok (.i2l, 1) := by decide +kernel
theorem dX7_cursorCommand_87 : decode cX7_cursorCommand 87 = .ok (.invokevirtual 349, 3) := by decide +kernel
theorem dX7_cursorCommand_90 : decode cX7_cursorCommand 90 = .ok (.iconst 1, 1) := by decide +kernel
theorem dX7_cursorCommand_91 : decode cX7_cursorCommand 91 = .ok (.ireturn, 1) := by decide +kernel
theorem dX7_cursorCommand_92 : decode cX7_cursorCommand 92 = .ok (.aload_n 0, 1) := by decide +kernel
theorem dX7_cursorCommand_93 : decode cX7_cursorCommand 93 = .ok (.aload_n 0, 1) := by decide +kernel
theorem dX7_cursorCommand_94 : decode cX7_cursorCommand 94 = .ok (.getfield 26, 3) := by decide +kernel
theorem dX7_cursorCommand_97 : decode cX7_cursorCommand 97 = .ok (.getfield 151, 3) := by decide +kernel
theorem dX7_cursorCommand_100 : decode cX7_cursorCommand 100 = .ok (.ldc2_w 347, 3) := by decide +kernel
theorem dX7_cursorCommand_103 : decode cX7_cursorCommand 103 = .ok (.invokevirtual 349, 3) := by decide +kernel
theorem dX7_cursorCommand_106 : decode cX7_cursorCommand 106 = .ok (.iconst 1, 1) := by decide +kernel
theorem dX7_cursorCommand_107 : decode cX7_cursorCommand 107 = .ok (.ireturn, 1) := by decide +kernel
theorem dX7_cursorCommand_108 : decode cX7_cursorCommand 108 = .ok (.iconst 0, 1) := by decide +kernel
theorem dX7_cursorCommand_109 : decode cX7_cursorCommand 109 = .ok (.ireturn, 1) := by decide +kernel
theorem dX7_dotCommand_0 : decode cX7_dotCommand 0 = .ok (.aload_n 0, 1) := by decide +kernel
theorem dX7_dotCommand_1 : decode cX7_dotCommand 1 = .ok (.getfield 10, 3) := by decide +kernel
theorem dX7_dotCommand_4 : decode cX7_dotCommand 4 = .ok (.getfield 306, 3) := by decide +kernel
theorem dX7_dotCommand_7 : decode cX7_dotCommand 7 = .ok (.lookupswitch 50 #[(88, 25), (89, 34)], 25) := by decide +kernel
theorem dX7_dotCommand_32 : decode cX7_dotCommand 32 = .ok (.aload_n 0, 1) := by decide +kernel
theorem dX7_dotCommand_33 : decode cX7_dotCommand 33 = .ok (.ldc2_w 353, 3) := by decide +kernel
theorem dX7_dotCommand_36 : decode cX7_dotCommand 36 = .ok (.invokevirtual 344, 3) := by decide +kernel
theorem dX7_dotCommand_39 : decode cX7_dotCommand 39 = .ok (.iconst 1, 1) := by decide +kernel
theorem dX7_dotCommand_40 : decode cX7_dotCommand 40 = .ok (.ireturn, 1) := by decide +kernel
theorem dX7_dotCommand_41 : decode cX7_dotCommand 41 = .ok (.aload_n 0, 1) := by decide +kernel
theorem dX7_dotCommand_42 : decode cX7_dotCommand 42 = .ok (.aload_n 0, 1) := by decide +kernel
theorem dX7_dotCommand_43 : decode cX7_dotCommand 43 = .ok (.getfield 26, 3) := by decide +kernel
theorem dX7_dotCommand_46 : decode cX7_dotCommand 46 = .ok (.getfield 151, 3) := by decide +kernel
theorem dX7_dotCommand_49 : decode cX7_dotCommand 49 = .ok (.ldc2_w 353, 3) := by decide +kernel
theorem dX7_dotCommand_52 : decode cX7_dotCommand 52 = .ok (.invokevirtual 349, 3) := by decide +kernel
theorem dX7_dotCommand_55 : decode cX7_dotCommand 55 = .ok (.iconst 1, 1) := by decide +kernel
theorem dX7_dotCommand_56 : decode cX7_dotCommand 56 = .ok (.ireturn, 1) := by decide +kernel
theorem dX7_dotCommand_57 : decode cX7_dotCommand 57 = .ok (.iconst 0, 1) := by decide +kernel
theorem dX7_dotCommand_58 : decode cX7_dotCommand 58 = .ok (.ireturn, 1) := by decide +kernel
theorem dX7_goAcross_0 : decode cX7_goAcross 0 = .ok (.aload_n 0, 1) := by decide +kernel
theorem dX7_goAcross_1 : decode cX7_goAcross 1 = .ok (.getfield 10, 3) := by decide +kernel
theorem dX7_goAcross_4 : decode cX7_goAcross 4 = .ok (.getfield 355, 3) := by decide +kernel
theorem dX7_goAcross_7 : decode cX7_goAcross 7 = .ok (.ifCond .eq 13, 3) := by decide +kernel
theorem dX7_goAcross_10 : decode cX7_goAcross 10 = .ok (.aload_n 0, 1) := by decide +kernel
theorem dX7_goAcross_11 : decode cX7_goAcross 11 = .ok (.getfield 26, 3) := by decide +kernel
theorem dX7_goAcross_14 : decode cX7_goAcross 14 = .ok (.getfield 105, 3) := by decide +kernel
theorem dX7_goAcross_17 : decode cX7_goAcross 17 = .ok (.goto 4, 3) := by decide +kernel
theorem dX7_goAcross_20 : decode cX7_goAcross 20 = .ok (.iconst 0, 1) := by decide +kernel
theorem dX7_goAcross_21 : decode cX7_goAcross 21 = .ok (.istore_n 3, 1) := by decide +kernel
theorem dX7_goAcross_22 : decode cX7_goAcross 22 = .ok (.aload_n 0, 1) := by decide +kernel
theorem dX7_goAcross_23 : decode cX7_goAcross 23 = .ok (.iload_n 3, 1) := by decide +kernel
theorem dX7_goAcross_24 : decode cX7_goAcross 24 = .ok (.i2l, 1) := by decide +kernel
theorem dX7_goAcross_25 : decode cX7_goAcross 25 = .ok (.aload_n 0, 1) := by decide +kernel
theorem dX7_goAcross_26 : decode cX7_goAcross 26 = .ok (.getfield 10, 3) := by decide +kernel
theorem dX7_goAcross_29 : decode cX7_goAcross 29 = .ok (.getfield 266, 3) := by decide +kernel
theorem dX7_goAcross_32 : decode cX7_goAcross 32 = .ok (.i2l, 1) := by decide +kernel
theorem dX7_goAcross_33 : decode cX7_goAcross 33 = .ok (.lload_n 1, 1) := by decide +kernel
theorem dX7_goAcross_34 : decode cX7_goAcross 34 = .ok (.lmul, 1) := by decide +kernel
theorem dX7_goAcross_35 : decode cX7_goAcross 35 = .ok (.ldc2_w 269, 3) := by decide +kernel
theorem dX7_goAcross_38 : decode cX7_goAcross 38 = .ok (.ldiv, 1) := by decide +kernel
theorem dX7_goAcross_39 : decode cX7_goAcross 39 = .ok (.ladd, 1) := by decide +kernel
theorem dX7_goAcross_40 : decode cX7_goAcross 40 = .ok (.invokevirtual 80, 3) := by decide +kernel
theorem dX7_goAcross_43 : decode cX7_goAcross 43 = .ok (.return_, 1) := by decide +kernel
theorem dX7_goDown_0 : decode cX7_goDown 0 = .ok (.aload_n 0, 1) := by decide +kernel
theorem dX7_goDown_1 : decode cX7_goDown 1 = .ok (.getfield 10, 3) := by decide +kernel
theorem dX7_goDown_4 : decode cX7_goDown 4 = .ok (.getfield 355, 3) := by decide +kernel
theorem dX7_goDown_7 : decode cX7_goDown 7 = .ok (.ifCond .eq 13, 3) := by decide +kernel
theorem dX7_goDown_10 : decode cX7_goDown 10 = .ok (.aload_n 0, 1) := by decide +kernel
theorem dX7_goDown_11 : decode cX7_goDown 11 = .ok (.getfield 26, 3) := by decide +kernel
theorem dX7_goDown_14 : decode cX7_goDown 14 = .ok (.getfield 108, 3) := by decide +kernel
theorem dX7_goDown_17 : decode cX7_goDown 17 = .ok (.goto 4, 3) := by decide +kernel
theorem dX7_goDown_20 : decode cX7_goDown 20 = .ok (.iload_n 1, 1) := by decide +kernel
theorem dX7_goDown_21 : decode cX7_goDown 21 = .ok (.istore 4, 2) := by decide +kernel
theorem dX7_goDown_23 : decode cX7_goDown 23 = .ok (.aload_n 0, 1) := by decide +kernel
theorem dX7_goDown_24 : decode cX7_goDown 24 = .ok (.iload 4, 2) := by decide +kernel
theorem dX7_goDown_26 : decode cX7_goDown 26 = .ok (.i2l, 1) := by decide +kernel
theorem dX7_goDown_27 : decode cX7_goDown 27 = .ok (.aload_n 0, 1) := by decide +kernel
theorem dX7_goDown_28 : decode cX7_goDown 28 = .ok (.getfield 10, 3) := by decide +kernel
theorem dX7_goDown_31 : decode cX7_goDown 31 = .ok (.getfield 266, 3) := by decide +kernel
theorem dX7_goDown_34 : decode cX7_goDown 34 = .ok (.i2l, 1) := by decide +kernel
theorem dX7_goDown_35 : decode cX7_goDown 35 = .ok (.lload_n 2, 1) := by decide +kernel
theorem dX7_goDown_36 : decode cX7_goDown 36 = .ok (.lmul, 1) := by decide +kernel
theorem dX7_goDown_37 : decode cX7_goDown 37 = .ok (.ldc2_w 269, 3) := by decide +kernel
theorem dX7_goDown_40 : decode cX7_goDown 40 = .ok (.ldiv, 1) := by decide +kernel
theorem dX7_goDown_41 : decode cX7_goDown 41 = .ok (.ladd, 1) := by decide +kernel
theorem dX7_goDown_42 : decode cX7_goDown 42 = .ok (.invokevirtual 84, 3) := by decide +kernel
theorem dX7_goDown_45 : decode cX7_goDown 45 = .ok (.return_, 1) := by decide +kernel
