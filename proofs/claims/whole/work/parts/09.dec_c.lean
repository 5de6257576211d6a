theorem dz_M_in_0 : decode zm_M_in.2.1 0 = .ok (.lload_n 0, 1) := by decide +kernel
theorem dz_M_in_1 : decode zm_M_in.2.1 1 = .ok (.lload_n 2, 1) := by decide +kernel
theorem dz_M_in_2 : decode zm_M_in.2.1 2 = .ok (.lcmp, 1) := by decide +kernel
theorem dz_M_in_3 : decode zm_M_in.2.1 3 = .ok (.ifCond .lt 14, 3) := by decide +kernel
theorem dz_M_in_6 : decode zm_M_in.2.1 6 = .ok (.lload_n 0, 1) := by decide +kernel
theorem dz_M_in_7 : decode zm_M_in.2.1 7 = .ok (.lload 4, 2) := by decide +kernel
theorem dz_M_in_9 : decode zm_M_in.2.1 9 = .ok (.lcmp, 1) := by decide +kernel
theorem dz_M_in_10 : decode zm_M_in.2.1 10 = .ok (.ifCond .gt 7, 3) := by decide +kernel
theorem dz_M_in_13 : decode zm_M_in.2.1 13 = .ok (.iconst 1, 1) := by decide +kernel
theorem dz_M_in_14 : decode zm_M_in.2.1 14 = .ok (.goto 4, 3) := by decide +kernel
theorem dz_M_in_17 : decode zm_M_in.2.1 17 = .ok (.iconst 0, 1) := by decide +kernel
theorem dz_M_in_18 : decode zm_M_in.2.1 18 = .ok (.ireturn, 1) := by decide +kernel
theorem dz_M_feed_0 : decode zm_M_feed.2.1 0 = .ok (.iload_n 1, 1) := by decide +kernel
theorem dz_M_feed_1 : decode zm_M_feed.2.1 1 = .ok (.i2l, 1) := by decide +kernel
theorem dz_M_feed_2 : decode zm_M_feed.2.1 2 = .ok (.lconst 0, 1) := by decide +kernel
theorem dz_M_feed_3 : decode zm_M_feed.2.1 3 = .ok (.ldc2_w 63, 3) := by decide +kernel
theorem dz_M_feed_6 : decode zm_M_feed.2.1 6 = .ok (.invokestatic 65, 3) := by decide +kernel
theorem dz_M_feed_9 : decode zm_M_feed.2.1 9 = .ok (.ifCond .ne 5, 3) := by decide +kernel
theorem dz_M_feed_12 : decode zm_M_feed.2.1 12 = .ok (.iconst (-1), 1) := by decide +kernel
theorem dz_M_feed_13 : decode zm_M_feed.2.1 13 = .ok (.ireturn, 1) := by decide +kernel
theorem dz_M_feed_14 : decode zm_M_feed.2.1 14 = .ok (.aload_n 0, 1) := by decide +kernel
theorem dz_M_feed_15 : decode zm_M_feed.2.1 15 = .ok (.getfield 69, 3) := by decide +kernel
theorem dz_M_feed_18 : decode zm_M_feed.2.1 18 = .ok (.sipush 160, 3) := by decide +kernel
theorem dz_M_feed_21 : decode zm_M_feed.2.1 21 = .ok (.if_icmp .ne 6, 3) := by decide +kernel
theorem dz_M_feed_24 : decode zm_M_feed.2.1 24 = .ok (.bipush (-3), 2) := by decide +kernel
theorem dz_M_feed_26 : decode zm_M_feed.2.1 26 = .ok (.ireturn, 1) := by decide +kernel
theorem dz_M_feed_27 : decode zm_M_feed.2.1 27 = .ok (.aload_n 0, 1) := by decide +kernel
theorem dz_M_feed_28 : decode zm_M_feed.2.1 28 = .ok (.getfield 28, 3) := by decide +kernel
theorem dz_M_feed_31 : decode zm_M_feed.2.1 31 = .ok (.aload_n 0, 1) := by decide +kernel
theorem dz_M_feed_32 : decode zm_M_feed.2.1 32 = .ok (.getfield 69, 3) := by decide +kernel
theorem dz_M_feed_35 : decode zm_M_feed.2.1 35 = .ok (.iload_n 1, 1) := by decide +kernel
theorem dz_M_feed_36 : decode zm_M_feed.2.1 36 = .ok (.iastore, 1) := by decide +kernel
theorem dz_M_feed_37 : decode zm_M_feed.2.1 37 = .ok (.aload_n 0, 1) := by decide +kernel
theorem dz_M_feed_38 : decode zm_M_feed.2.1 38 = .ok (.dup, 1) := by decide +kernel
theorem dz_M_feed_39 : decode zm_M_feed.2.1 39 = .ok (.getfield 69, 3) := by decide +kernel
theorem dz_M_feed_42 : decode zm_M_feed.2.1 42 = .ok (.iconst 1, 1) := by decide +kernel
theorem dz_M_feed_43 : decode zm_M_feed.2.1 43 = .ok (.iadd, 1) := by decide +kernel
theorem dz_M_feed_44 : decode zm_M_feed.2.1 44 = .ok (.putfield 69, 3) := by decide +kernel
theorem dz_M_feed_47 : decode zm_M_feed.2.1 47 = .ok (.aload_n 0, 1) := by decide +kernel
theorem dz_M_feed_48 : decode zm_M_feed.2.1 48 = .ok (.getfield 69, 3) := by decide +kernel
theorem dz_M_feed_51 : decode zm_M_feed.2.1 51 = .ok (.ireturn, 1) := by decide +kernel
theorem dz_M_end_0 : decode zm_M_end.2.1 0 = .ok (.iload_n 1, 1) := by decide +kernel
theorem dz_M_end_1 : decode zm_M_end.2.1 1 = .ok (.i2l, 1) := by decide +kernel
theorem dz_M_end_2 : decode zm_M_end.2.1 2 = .ok (.lconst 0, 1) := by decide +kernel
theorem dz_M_end_3 : decode zm_M_end.2.1 3 = .ok (.aload_n 0, 1) := by decide +kernel
theorem dz_M_end_4 : decode zm_M_end.2.1 4 = .ok (.getfield 69, 3) := by decide +kernel
theorem dz_M_end_7 : decode zm_M_end.2.1 7 = .ok (.i2l, 1) := by decide +kernel
theorem dz_M_end_8 : decode zm_M_end.2.1 8 = .ok (.invokestatic 65, 3) := by decide +kernel
theorem dz_M_end_11 : decode zm_M_end.2.1 11 = .ok (.ifCond .ne 5, 3) := by decide +kernel
theorem dz_M_end_14 : decode zm_M_end.2.1 14 = .ok (.iconst (-1), 1) := by decide +kernel
theorem dz_M_end_15 : decode zm_M_end.2.1 15 = .ok (.ireturn, 1) := by decide +kernel
theorem dz_M_end_16 : decode zm_M_end.2.1 16 = .ok (.aload_n 0, 1) := by decide +kernel
theorem dz_M_end_17 : decode zm_M_end.2.1 17 = .ok (.getfield 69, 3) := by decide +kernel
theorem dz_M_end_20 : decode zm_M_end.2.1 20 = .ok (.istore_n 2, 1) := by decide +kernel
theorem dz_M_end_21 : decode zm_M_end.2.1 21 = .ok (.aload_n 0, 1) := by decide +kernel
theorem dz_M_end_22 : decode zm_M_end.2.1 22 = .ok (.iload_n 1, 1) := by decide +kernel
theorem dz_M_end_23 : decode zm_M_end.2.1 23 = .ok (.putfield 69, 3) := by decide +kernel
theorem dz_M_end_26 : decode zm_M_end.2.1 26 = .ok (.iload_n 2, 1) := by decide +kernel
theorem dz_M_end_27 : decode zm_M_end.2.1 27 = .ok (.ireturn, 1) := by decide +kernel
theorem dz_M_byteAt_0 : decode zm_M_byteAt.2.1 0 = .ok (.iload_n 1, 1) := by decide +kernel
theorem dz_M_byteAt_1 : decode zm_M_byteAt.2.1 1 = .ok (.aload_n 0, 1) := by decide +kernel
theorem dz_M_byteAt_2 : decode zm_M_byteAt.2.1 2 = .ok (.getfield 69, 3) := by decide +kernel
theorem dz_M_byteAt_5 : decode zm_M_byteAt.2.1 5 = .ok (.if_icmp .ge 12, 3) := by decide +kernel
theorem dz_M_byteAt_8 : decode zm_M_byteAt.2.1 8 = .ok (.aload_n 0, 1) := by decide +kernel
theorem dz_M_byteAt_9 : decode zm_M_byteAt.2.1 9 = .ok (.getfield 28, 3) := by decide +kernel
theorem dz_M_byteAt_12 : decode zm_M_byteAt.2.1 12 = .ok (.iload_n 1, 1) := by decide +kernel
theorem dz_M_byteAt_13 : decode zm_M_byteAt.2.1 13 = .ok (.iaload, 1) := by decide +kernel
theorem dz_M_byteAt_14 : decode zm_M_byteAt.2.1 14 = .ok (.goto 5, 3) := by decide +kernel
theorem dz_M_byteAt_17 : decode zm_M_byteAt.2.1 17 = .ok (.bipush (-4), 2) := by decide +kernel
theorem dz_M_byteAt_19 : decode zm_M_byteAt.2.1 19 = .ok (.ireturn, 1) := by decide +kernel
theorem dz_M_fails_0 : decode zm_M_fails.2.1 0 = .ok (.aload_n 0, 1) := by decide +kernel
theorem dz_M_fails_1 : decode zm_M_fails.2.1 1 = .ok (.getfield 73, 3) := by decide +kernel
theorem dz_M_fails_4 : decode zm_M_fails.2.1 4 = .ok (.ifCond .ne 16, 3) := by decide +kernel
theorem dz_M_fails_7 : decode zm_M_fails.2.1 7 = .ok (.aload_n 0, 1) := by decide +kernel
theorem dz_M_fails_8 : decode zm_M_fails.2.1 8 = .ok (.iload_n 1, 1) := by decide +kernel
theorem dz_M_fails_9 : decode zm_M_fails.2.1 9 = .ok (.putfield 73, 3) := by decide +kernel
theorem dz_M_fails_12 : decode zm_M_fails.2.1 12 = .ok (.aload_n 0, 1) := by decide +kernel
theorem dz_M_fails_13 : decode zm_M_fails.2.1 13 = .ok (.aload_n 0, 1) := by decide +kernel
theorem dz_M_fails_14 : decode zm_M_fails.2.1 14 = .ok (.getfield 76, 3) := by decide +kernel
theorem dz_M_fails_17 : decode zm_M_fails.2.1 17 = .ok (.putfield 79, 3) := by decide +kernel
theorem dz_M_fails_20 : decode zm_M_fails.2.1 20 = .ok (.return_, 1) := by decide +kernel
theorem dz_M_nameHere_0 : decode zm_M_nameHere.2.1 0 = .ok (.iconst 0, 1) := by decide +kernel
theorem dz_M_nameHere_1 : decode zm_M_nameHere.2.1 1 = .ok (.istore_n 1, 1) := by decide +kernel
theorem dz_M_nameHere_2 : decode zm_M_nameHere.2.1 2 = .ok (.iload_n 1, 1) := by decide +kernel
theorem dz_M_nameHere_3 : decode zm_M_nameHere.2.1 3 = .ok (.bipush 13, 2) := by decide +kernel
theorem dz_M_nameHere_5 : decode zm_M_nameHere.2.1 5 = .ok (.if_icmp .ge 113, 3) := by decide +kernel
theorem dz_M_nameHere_8 : decode zm_M_nameHere.2.1 8 = .ok (.aload_n 0, 1) := by decide +kernel
theorem dz_M_nameHere_9 : decode zm_M_nameHere.2.1 9 = .ok (.getfield 82, 3) := by decide +kernel
theorem dz_M_nameHere_12 : decode zm_M_nameHere.2.1 12 = .ok (.iconst 1, 1) := by decide +kernel
theorem dz_M_nameHere_13 : decode zm_M_nameHere.2.1 13 = .ok (.if_icmp .ne 105, 3) := by decide +kernel
theorem dz_M_nameHere_16 : decode zm_M_nameHere.2.1 16 = .ok (.aload_n 0, 1) := by decide +kernel
theorem dz_M_nameHere_17 : decode zm_M_nameHere.2.1 17 = .ok (.getfield 85, 3) := by decide +kernel
theorem dz_M_nameHere_20 : decode zm_M_nameHere.2.1 20 = .ok (.aload_n 0, 1) := by decide +kernel
theorem dz_M_nameHere_21 : decode zm_M_nameHere.2.1 21 = .ok (.getfield 76, 3) := by decide +kernel
theorem dz_M_nameHere_24 : decode zm_M_nameHere.2.1 24 = .ok (.isub, 1) := by decide +kernel
theorem dz_M_nameHere_25 : decode zm_M_nameHere.2.1 25 = .ok (.aload_n 0, 1) := by decide +kernel
theorem dz_M_nameHere_26 : decode zm_M_nameHere.2.1 26 = .ok (.getfield 31, 3) := by decide +kernel
theorem dz_M_nameHere_29 : decode zm_M_nameHere.2.1 29 = .ok (.iload_n 1, 1) := by decide +kernel
theorem dz_M_nameHere_30 : decode zm_M_nameHere.2.1 30 = .ok (.iconst 1, 1) := by decide +kernel
theorem dz_M_nameHere_31 : decode zm_M_nameHere.2.1 31 = .ok (.iadd, 1) := by decide +kernel
theorem dz_M_nameHere_32 : decode zm_M_nameHere.2.1 32 = .ok (.iaload, 1) := by decide +kernel
theorem dz_M_nameHere_33 : decode zm_M_nameHere.2.1 33 = .ok (.aload_n 0, 1) := by decide +kernel
theorem dz_M_nameHere_34 : decode zm_M_nameHere.2.1 34 = .ok (.getfield 31, 3) := by decide +kernel
theorem dz_M_nameHere_37 : decode zm_M_nameHere.2.1 37 = .ok (.iload_n 1, 1) := by decide +kernel
theorem dz_M_nameHere_38 : decode zm_M_nameHere.2.1 38 = .ok (.iaload, 1) := by decide +kernel
theorem dz_M_nameHere_39 : decode zm_M_nameHere.2.1 39 = .ok (.isub, 1) := by decide +kernel
theorem dz_M_nameHere_40 : decode zm_M_nameHere.2.1 40 = .ok (.if_icmp .ne 7, 3) := by decide +kernel
theorem dz_M_nameHere_43 : decode zm_M_nameHere.2.1 43 = .ok (.iconst 1, 1) := by decide +kernel
theorem dz_M_nameHere_44 : decode zm_M_nameHere.2.1 44 = .ok (.goto 4, 3) := by decide +kernel
theorem dz_M_nameHere_47 : decode zm_M_nameHere.2.1 47 = .ok (.iconst 0, 1) := by decide +kernel
theorem dz_M_nameHere_48 : decode zm_M_nameHere.2.1 48 = .ok (.istore_n 2, 1) := by decide +kernel
theorem dz_M_nameHere_49 : decode zm_M_nameHere.2.1 49 = .ok (.iconst 0, 1) := by decide +kernel
theorem dz_M_nameHere_50 : decode zm_M_nameHere.2.1 50 = .ok (.istore_n 3, 1) := by decide +kernel
theorem dz_M_nameHere_51 : decode zm_M_nameHere.2.1 51 = .ok (.iload_n 2, 1) := by decide +kernel
theorem dz_M_nameHere_52 : decode zm_M_nameHere.2.1 52 = .ok (.ifCond .eq 54, 3) := by decide +kernel
theorem dz_M_nameHere_55 : decode zm_M_nameHere.2.1 55 = .ok (.iload_n 3, 1) := by decide +kernel
theorem dz_M_nameHere_56 : decode zm_M_nameHere.2.1 56 = .ok (.aload_n 0, 1) := by decide +kernel
theorem dz_M_nameHere_57 : decode zm_M_nameHere.2.1 57 = .ok (.getfield 85, 3) := by decide +kernel
theorem dz_M_nameHere_60 : decode zm_M_nameHere.2.1 60 = .ok (.aload_n 0, 1) := by decide +kernel
theorem dz_M_nameHere_61 : decode zm_M_nameHere.2.1 61 = .ok (.getfield 76, 3) := by decide +kernel
theorem dz_M_nameHere_64 : decode zm_M_nameHere.2.1 64 = .ok (.isub, 1) := by decide +kernel
theorem dz_M_nameHere_65 : decode zm_M_nameHere.2.1 65 = .ok (.if_icmp .ge 41, 3) := by decide +kernel
theorem dz_M_nameHere_68 : decode zm_M_nameHere.2.1 68 = .ok (.aload_n 0, 1) := by decide +kernel
theorem dz_M_nameHere_69 : decode zm_M_nameHere.2.1 69 = .ok (.aload_n 0, 1) := by decide +kernel
theorem dz_M_nameHere_70 : decode zm_M_nameHere.2.1 70 = .ok (.getfield 76, 3) := by decide +kernel
theorem dz_M_nameHere_73 : decode zm_M_nameHere.2.1 73 = .ok (.iload_n 3, 1) := by decide +kernel
theorem dz_M_nameHere_74 : decode zm_M_nameHere.2.1 74 = .ok (.iadd, 1) := by decide +kernel
theorem dz_M_nameHere_75 : decode zm_M_nameHere.2.1 75 = .ok (.invokevirtual 88, 3) := by decide +kernel
theorem dz_M_nameHere_78 : decode zm_M_nameHere.2.1 78 = .ok (.aload_n 0, 1) := by decide +kernel
theorem dz_M_nameHere_79 : decode zm_M_nameHere.2.1 79 = .ok (.getfield 34, 3) := by decide +kernel
theorem dz_M_nameHere_82 : decode zm_M_nameHere.2.1 82 = .ok (.aload_n 0, 1) := by decide +kernel
theorem dz_M_nameHere_83 : decode zm_M_nameHere.2.1 83 = .ok (.getfield 31, 3) := by decide +kernel
theorem dz_M_nameHere_86 : decode zm_M_nameHere.2.1 86 = .ok (.iload_n 1, 1) := by decide +kernel
theorem dz_M_nameHere_87 : decode zm_M_nameHere.2.1 87 = .ok (.iaload, 1) := by decide +kernel
theorem dz_M_nameHere_88 : decode zm_M_nameHere.2.1 88 = .ok (.iload_n 3, 1) := by decide +kernel
theorem dz_M_nameHere_89 : decode zm_M_nameHere.2.1 89 = .ok (.iadd, 1) := by decide +kernel
theorem dz_M_nameHere_90 : decode zm_M_nameHere.2.1 90 = .ok (.iaload, 1) := by decide +kernel
theorem dz_M_nameHere_91 : decode zm_M_nameHere.2.1 91 = .ok (.if_icmp .ne 7, 3) := by decide +kernel
theorem dz_M_nameHere_94 : decode zm_M_nameHere.2.1 94 = .ok (.iconst 1, 1) := by decide +kernel
theorem dz_M_nameHere_95 : decode zm_M_nameHere.2.1 95 = .ok (.goto 4, 3) := by decide +kernel
theorem dz_M_nameHere_98 : decode zm_M_nameHere.2.1 98 = .ok (.iconst 0, 1) := by decide +kernel
theorem dz_M_nameHere_99 : decode zm_M_nameHere.2.1 99 = .ok (.istore_n 2, 1) := by decide +kernel
theorem dz_M_nameHere_100 : decode zm_M_nameHere.2.1 100 = .ok (.iinc 3 1, 3) := by decide +kernel
theorem dz_M_nameHere_103 : decode zm_M_nameHere.2.1 103 = .ok (.goto (-52), 3) := by decide +kernel
theorem dz_M_nameHere_106 : decode zm_M_nameHere.2.1 106 = .ok (.iload_n 2, 1) := by decide +kernel
theorem dz_M_nameHere_107 : decode zm_M_nameHere.2.1 107 = .ok (.ifCond .eq 5, 3) := by decide +kernel
theorem dz_M_nameHere_110 : decode zm_M_nameHere.2.1 110 = .ok (.iload_n 1, 1) := by decide +kernel
theorem dz_M_nameHere_111 : decode zm_M_nameHere.2.1 111 = .ok (.ireturn, 1) := by decide +kernel
theorem dz_M_nameHere_112 : decode zm_M_nameHere.2.1 112 = .ok (.iinc 1 1, 3) := by decide +kernel
theorem dz_M_nameHere_115 : decode zm_M_nameHere.2.1 115 = .ok (.goto (-113), 3) := by decide +kernel
theorem dz_M_nameHere_118 : decode zm_M_nameHere.2.1 118 = .ok (.bipush (-4), 2) := by decide +kernel
theorem dz_M_nameHere_120 : decode zm_M_nameHere.2.1 120 = .ok (.ireturn, 1) := by decide +kernel
theorem dz_M_step_0 : decode zm_M_step.2.1 0 = .ok (.aload_n 0, 1) := by decide +kernel
theorem dz_M_step_1 : decode zm_M_step.2.1 1 = .ok (.getfield 73, 3) := by decide +kernel
theorem dz_M_step_4 : decode zm_M_step.2.1 4 = .ok (.ifCond .le 4, 3) := by decide +kernel
theorem dz_M_step_7 : decode zm_M_step.2.1 7 = .ok (.return_, 1) := by decide +kernel
theorem dz_M_step_8 : decode zm_M_step.2.1 8 = .ok (.aload_n 0, 1) := by decide +kernel
theorem dz_M_step_9 : decode zm_M_step.2.1 9 = .ok (.aload_n 0, 1) := by decide +kernel
theorem dz_M_step_10 : decode zm_M_step.2.1 10 = .ok (.getfield 85, 3) := by decide +kernel
theorem dz_M_step_13 : decode zm_M_step.2.1 13 = .ok (.invokevirtual 88, 3) := by decide +kernel
theorem dz_M_step_16 : decode zm_M_step.2.1 16 = .ok (.bipush 32, 2) := by decide +kernel
theorem dz_M_step_18 : decode zm_M_step.2.1 18 = .ok (.if_icmp .ne 16, 3) := by decide +kernel
theorem dz_M_step_21 : decode zm_M_step.2.1 21 = .ok (.aload_n 0, 1) := by decide +kernel
theorem dz_M_step_22 : decode zm_M_step.2.1 22 = .ok (.dup, 1) := by decide +kernel
theorem dz_M_step_23 : decode zm_M_step.2.1 23 = .ok (.getfield 85, 3) := by decide +kernel
theorem dz_M_step_26 : decode zm_M_step.2.1 26 = .ok (.iconst 1, 1) := by decide +kernel
theorem dz_M_step_27 : decode zm_M_step.2.1 27 = .ok (.iadd, 1) := by decide +kernel
theorem dz_M_step_28 : decode zm_M_step.2.1 28 = .ok (.putfield 85, 3) := by decide +kernel
theorem dz_M_step_31 : decode zm_M_step.2.1 31 = .ok (.goto (-23), 3) := by decide +kernel
theorem dz_M_step_34 : decode zm_M_step.2.1 34 = .ok (.aload_n 0, 1) := by decide +kernel
theorem dz_M_step_35 : decode zm_M_step.2.1 35 = .ok (.aload_n 0, 1) := by decide +kernel
theorem dz_M_step_36 : decode zm_M_step.2.1 36 = .ok (.getfield 85, 3) := by decide +kernel
theorem dz_M_step_39 : decode zm_M_step.2.1 39 = .ok (.putfield 76, 3) := by decide +kernel
theorem dz_M_step_42 : decode zm_M_step.2.1 42 = .ok (.aload_n 0, 1) := by decide +kernel
theorem dz_M_step_43 : decode zm_M_step.2.1 43 = .ok (.aload_n 0, 1) := by decide +kernel
theorem dz_M_step_44 : decode zm_M_step.2.1 44 = .ok (.getfield 85, 3) := by decide +kernel
theorem dz_M_step_47 : decode zm_M_step.2.1 47 = .ok (.invokevirtual 88, 3) := by decide +kernel
theorem dz_M_step_50 : decode zm_M_step.2.1 50 = .ok (.istore_n 1, 1) := by decide +kernel
theorem dz_M_step_51 : decode zm_M_step.2.1 51 = .ok (.aload_n 0, 1) := by decide +kernel
theorem dz_M_step_52 : decode zm_M_step.2.1 52 = .ok (.iconst 0, 1) := by decide +kernel
theorem dz_M_step_53 : decode zm_M_step.2.1 53 = .ok (.putfield 92, 3) := by decide +kernel
theorem dz_M_step_56 : decode zm_M_step.2.1 56 = .ok (.iload_n 1, 1) := by decide +kernel
theorem dz_M_step_57 : decode zm_M_step.2.1 57 = .ok (.bipush (-4), 2) := by decide +kernel
theorem dz_M_step_59 : decode zm_M_step.2.1 59 = .ok (.if_icmp .ne 11, 3) := by decide +kernel
theorem dz_M_step_62 : decode zm_M_step.2.1 62 = .ok (.aload_n 0, 1) := by decide +kernel
theorem dz_M_step_63 : decode zm_M_step.2.1 63 = .ok (.iconst 0, 1) := by decide +kernel
theorem dz_M_step_64 : decode zm_M_step.2.1 64 = .ok (.putfield 82, 3) := by decide +kernel
theorem dz_M_step_67 : decode zm_M_step.2.1 67 = .ok (.goto 202, 3) := by decide +kernel
theorem dz_M_step_70 : decode zm_M_step.2.1 70 = .ok (.iload_n 1, 1) := by decide +kernel
theorem dz_M_step_71 : decode zm_M_step.2.1 71 = .ok (.i2l, 1) := by decide +kernel
theorem dz_M_step_72 : decode zm_M_step.2.1 72 = .ok (.ldc2_w 95, 3) := by decide +kernel
theorem dz_M_step_75 : decode zm_M_step.2.1 75 = .ok (.ldc2_w 97, 3) := by decide +kernel
theorem dz_M_step_78 : decode zm_M_step.2.1 78 = .ok (.invokestatic 65, 3) := by decide +kernel
theorem dz_M_step_81 : decode zm_M_step.2.1 81 = .ok (.ifCond .eq 45, 3) := by decide +kernel
theorem dz_M_step_84 : decode zm_M_step.2.1 84 = .ok (.aload_n 0, 1) := by decide +kernel
theorem dz_M_step_85 : decode zm_M_step.2.1 85 = .ok (.aload_n 0, 1) := by decide +kernel
theorem dz_M_step_86 : decode zm_M_step.2.1 86 = .ok (.getfield 85, 3) := by decide +kernel
theorem dz_M_step_89 : decode zm_M_step.2.1 89 = .ok (.invokevirtual 88, 3) := by decide +kernel
theorem dz_M_step_92 : decode zm_M_step.2.1 92 = .ok (.i2l, 1) := by decide +kernel
theorem dz_M_step_93 : decode zm_M_step.2.1 93 = .ok (.ldc2_w 95, 3) := by decide +kernel
theorem dz_M_step_96 : decode zm_M_step.2.1 96 = .ok (.ldc2_w 97, 3) := by decide +kernel
theorem dz_M_step_99 : decode zm_M_step.2.1 99 = .ok (.invokestatic 65, 3) := by decide +kernel
theorem dz_M_step_102 : decode zm_M_step.2.1 102 = .ok (.ifCond .eq 16, 3) := by decide +kernel
theorem dz_M_step_105 : decode zm_M_step.2.1 105 = .ok (.aload_n 0, 1) := by decide +kernel
theorem dz_M_step_106 : decode zm_M_step.2.1 106 = .ok (.dup, 1) := by decide +kernel
theorem dz_M_step_107 : decode zm_M_step.2.1 107 = .ok (.getfield 85, 3) := by decide +kernel
theorem dz_M_step_110 : decode zm_M_step.2.1 110 = .ok (.iconst 1, 1) := by decide +kernel
theorem dz_M_step_111 : decode zm_M_step.2.1 111 = .ok (.iadd, 1) := by decide +kernel
theorem dz_M_step_112 : decode zm_M_step.2.1 112 = .ok (.putfield 85, 3) := by decide +kernel
theorem dz_M_step_115 : decode zm_M_step.2.1 115 = .ok (.goto (-31), 3) := by decide +kernel
theorem dz_M_step_118 : decode zm_M_step.2.1 118 = .ok (.aload_n 0, 1) := by decide +kernel
theorem dz_M_step_119 : decode zm_M_step.2.1 119 = .ok (.iconst 1, 1) := by decide +kernel
theorem dz_M_step_120 : decode zm_M_step.2.1 120 = .ok (.putfield 82, 3) := by decide +kernel
theorem dz_M_step_123 : decode zm_M_step.2.1 123 = .ok (.goto 146, 3) := by decide +kernel
theorem dz_M_step_126 : decode zm_M_step.2.1 126 = .ok (.iload_n 1, 1) := by decide +kernel
theorem dz_M_step_127 : decode zm_M_step.2.1 127 = .ok (.i2l, 1) := by decide +kernel
theorem dz_M_step_128 : decode zm_M_step.2.1 128 = .ok (.ldc2_w 99, 3) := by decide +kernel
theorem dz_M_step_131 : decode zm_M_step.2.1 131 = .ok (.ldc2_w 101, 3) := by decide +kernel
theorem dz_M_step_134 : decode zm_M_step.2.1 134 = .ok (.invokestatic 65, 3) := by decide +kernel
theorem dz_M_step_137 : decode zm_M_step.2.1 137 = .ok (.ifCond .eq 106, 3) := by decide +kernel
theorem dz_M_step_140 : decode zm_M_step.2.1 140 = .ok (.aload_n 0, 1) := by decide +kernel
theorem dz_M_step_141 : decode zm_M_step.2.1 141 = .ok (.aload_n 0, 1) := by decide +kernel
theorem dz_M_step_142 : decode zm_M_step.2.1 142 = .ok (.getfield 85, 3) := by decide +kernel
theorem dz_M_step_145 : decode zm_M_step.2.1 145 = .ok (.invokevirtual 88, 3) := by decide +kernel
theorem dz_M_step_148 : decode zm_M_step.2.1 148 = .ok (.i2l, 1) := by decide +kernel
theorem dz_M_step_149 : decode zm_M_step.2.1 149 = .ok (.ldc2_w 99, 3) := by decide +kernel
theorem dz_M_step_152 : decode zm_M_step.2.1 152 = .ok (.ldc2_w 101, 3) := by decide +kernel
theorem dz_M_step_155 : decode zm_M_step.2.1 155 = .ok (.invokestatic 65, 3) := by decide +kernel
theorem dz_M_step_158 : decode zm_M_step.2.1 158 = .ok (.ifCond .eq 59, 3) := by decide +kernel
theorem dz_M_step_161 : decode zm_M_step.2.1 161 = .ok (.aload_n 0, 1) := by decide +kernel
theorem dz_M_step_162 : decode zm_M_step.2.1 162 = .ok (.aload_n 0, 1) := by decide +kernel
theorem dz_M_step_163 : decode zm_M_step.2.1 163 = .ok (.getfield 85, 3) := by decide +kernel
theorem dz_M_step_166 : decode zm_M_step.2.1 166 = .ok (.aload_n 0, 1) := by decide +kernel
theorem dz_M_step_167 : decode zm_M_step.2.1 167 = .ok (.getfield 76, 3) := by decide +kernel
theorem dz_M_step_170 : decode zm_M_step.2.1 170 = .ok (.isub, 1) := by decide +kernel
theorem dz_M_step_171 : decode zm_M_step.2.1 171 = .ok (.iconst 2, 1) := by decide +kernel
theorem dz_M_step_172 : decode zm_M_step.2.1 172 = .ok (.if_icmp .ge 25, 3) := by decide +kernel
theorem dz_M_step_175 : decode zm_M_step.2.1 175 = .ok (.bipush 10, 2) := by decide +kernel
theorem dz_M_step_177 : decode zm_M_step.2.1 177 = .ok (.aload_n 0, 1) := by decide +kernel
theorem dz_M_step_178 : decode zm_M_step.2.1 178 = .ok (.getfield 92, 3) := by decide +kernel
theorem dz_M_step_181 : decode zm_M_step.2.1 181 = .ok (.imul, 1) := by decide +kernel
theorem dz_M_step_182 : decode zm_M_step.2.1 182 = .ok (.aload_n 0, 1) := by decide +kernel
theorem dz_M_step_183 : decode zm_M_step.2.1 183 = .ok (.aload_n 0, 1) := by decide +kernel
theorem dz_M_step_184 : decode zm_M_step.2.1 184 = .ok (.getfield 85, 3) := by decide +kernel
theorem dz_M_step_187 : decode zm_M_step.2.1 187 = .ok (.invokevirtual 88, 3) := by decide +kernel
theorem dz_M_step_190 : decode zm_M_step.2.1 190 = .ok (.iadd, 1) := by decide +kernel
theorem dz_M_step_191 : decode zm_M_step.2.1 191 = .ok (.bipush 48, 2) := by decide +kernel
theorem dz_M_step_193 : decode zm_M_step.2.1 193 = .ok (.isub, 1) := by decide +kernel
theorem dz_M_step_194 : decode zm_M_step.2.1 194 = .ok (.goto 7, 3) := by decide +kernel
theorem dz_M_step_197 : decode zm_M_step.2.1 197 = .ok (.aload_n 0, 1) := by decide +kernel
theorem dz_M_step_198 : decode zm_M_step.2.1 198 = .ok (.getfield 92, 3) := by decide +kernel
theorem dz_M_step_201 : decode zm_M_step.2.1 201 = .ok (.putfield 92, 3) := by decide +kernel
theorem dz_M_step_204 : decode zm_M_step.2.1 204 = .ok (.aload_n 0, 1) := by decide +kernel
theorem dz_M_step_205 : decode zm_M_step.2.1 205 = .ok (.dup, 1) := by decide +kernel
theorem dz_M_step_206 : decode zm_M_step.2.1 206 = .ok (.getfield 85, 3) := by decide +kernel
theorem dz_M_step_209 : decode zm_M_step.2.1 209 = .ok (.iconst 1, 1) := by decide +kernel
theorem dz_M_step_210 : decode zm_M_step.2.1 210 = .ok (.iadd, 1) := by decide +kernel
theorem dz_M_step_211 : decode zm_M_step.2.1 211 = .ok (.putfield 85, 3) := by decide +kernel
theorem dz_M_step_214 : decode zm_M_step.2.1 214 = .ok (.goto (-74), 3) := by decide +kernel
theorem dz_M_step_217 : decode zm_M_step.2.1 217 = .ok (.aload_n 0, 1) := by decide +kernel
theorem dz_M_step_218 : decode zm_M_step.2.1 218 = .ok (.iconst 2, 1) := by decide +kernel
theorem dz_M_step_219 : decode zm_M_step.2.1 219 = .ok (.putfield 82, 3) := by decide +kernel
theorem dz_M_step_222 : decode zm_M_step.2.1 222 = .ok (.aload_n 0, 1) := by decide +kernel
theorem dz_M_step_223 : decode zm_M_step.2.1 223 = .ok (.getfield 85, 3) := by decide +kernel
theorem dz_M_step_226 : decode zm_M_step.2.1 226 = .ok (.aload_n 0, 1) := by decide +kernel
theorem dz_M_step_227 : decode zm_M_step.2.1 227 = .ok (.getfield 76, 3) := by decide +kernel
theorem dz_M_step_230 : decode zm_M_step.2.1 230 = .ok (.isub, 1) := by decide +kernel
theorem dz_M_step_231 : decode zm_M_step.2.1 231 = .ok (.iconst 2, 1) := by decide +kernel
theorem dz_M_step_232 : decode zm_M_step.2.1 232 = .ok (.if_icmp .le 37, 3) := by decide +kernel
theorem dz_M_step_235 : decode zm_M_step.2.1 235 = .ok (.aload_n 0, 1) := by decide +kernel
theorem dz_M_step_236 : decode zm_M_step.2.1 236 = .ok (.iconst 1, 1) := by decide +kernel
theorem dz_M_step_237 : decode zm_M_step.2.1 237 = .ok (.invokevirtual 103, 3) := by decide +kernel
theorem dz_M_step_240 : decode zm_M_step.2.1 240 = .ok (.goto 29, 3) := by decide +kernel
theorem dz_M_step_243 : decode zm_M_step.2.1 243 = .ok (.aload_n 0, 1) := by decide +kernel
theorem dz_M_step_244 : decode zm_M_step.2.1 244 = .ok (.iconst 3, 1) := by decide +kernel
theorem dz_M_step_245 : decode zm_M_step.2.1 245 = .ok (.putfield 82, 3) := by decide +kernel
theorem dz_M_step_248 : decode zm_M_step.2.1 248 = .ok (.aload_n 0, 1) := by decide +kernel
theorem dz_M_step_249 : decode zm_M_step.2.1 249 = .ok (.dup, 1) := by decide +kernel
theorem dz_M_step_250 : decode zm_M_step.2.1 250 = .ok (.getfield 85, 3) := by decide +kernel
theorem dz_M_step_253 : decode zm_M_step.2.1 253 = .ok (.iconst 1, 1) := by decide +kernel
theorem dz_M_step_254 : decode zm_M_step.2.1 254 = .ok (.iadd, 1) := by decide +kernel
theorem dz_M_step_255 : decode zm_M_step.2.1 255 = .ok (.putfield 85, 3) := by decide +kernel
theorem dz_M_step_258 : decode zm_M_step.2.1 258 = .ok (.iload_n 1, 1) := by decide +kernel
theorem dz_M_step_259 : decode zm_M_step.2.1 259 = .ok (.bipush 59, 2) := by decide +kernel
theorem dz_M_step_261 : decode zm_M_step.2.1 261 = .ok (.if_icmp .eq 8, 3) := by decide +kernel
theorem dz_M_step_264 : decode zm_M_step.2.1 264 = .ok (.aload_n 0, 1) := by decide +kernel
theorem dz_M_step_265 : decode zm_M_step.2.1 265 = .ok (.iconst 1, 1) := by decide +kernel
theorem dz_M_step_266 : decode zm_M_step.2.1 266 = .ok (.invokevirtual 103, 3) := by decide +kernel
theorem dz_M_step_269 : decode zm_M_step.2.1 269 = .ok (.return_, 1) := by decide +kernel
theorem dz_M_other_0 : decode zm_M_other.2.1 0 = .ok (.aload_n 0, 1) := by decide +kernel
theorem dz_M_other_1 : decode zm_M_other.2.1 1 = .ok (.getfield 73, 3) := by decide +kernel
theorem dz_M_other_4 : decode zm_M_other.2.1 4 = .ok (.ifCond .ne 16, 3) := by decide +kernel
theorem dz_M_other_7 : decode zm_M_other.2.1 7 = .ok (.aload_n 0, 1) := by decide +kernel
theorem dz_M_other_8 : decode zm_M_other.2.1 8 = .ok (.getfield 82, 3) := by decide +kernel
theorem dz_M_other_11 : decode zm_M_other.2.1 11 = .ok (.iconst 2, 1) := by decide +kernel
theorem dz_M_other_12 : decode zm_M_other.2.1 12 = .ok (.if_icmp .eq 8, 3) := by decide +kernel
theorem dz_M_other_15 : decode zm_M_other.2.1 15 = .ok (.aload_n 0, 1) := by decide +kernel
theorem dz_M_other_16 : decode zm_M_other.2.1 16 = .ok (.iconst 2, 1) := by decide +kernel
theorem dz_M_other_17 : decode zm_M_other.2.1 17 = .ok (.invokevirtual 103, 3) := by decide +kernel
theorem dz_M_other_20 : decode zm_M_other.2.1 20 = .ok (.aload_n 0, 1) := by decide +kernel
theorem dz_M_other_21 : decode zm_M_other.2.1 21 = .ok (.getfield 73, 3) := by decide +kernel
theorem dz_M_other_24 : decode zm_M_other.2.1 24 = .ok (.ifCond .ne 23, 3) := by decide +kernel
theorem dz_M_other_27 : decode zm_M_other.2.1 27 = .ok (.aload_n 0, 1) := by decide +kernel
theorem dz_M_other_28 : decode zm_M_other.2.1 28 = .ok (.getfield 92, 3) := by decide +kernel
theorem dz_M_other_31 : decode zm_M_other.2.1 31 = .ok (.i2l, 1) := by decide +kernel
theorem dz_M_other_32 : decode zm_M_other.2.1 32 = .ok (.iload_n 1, 1) := by decide +kernel
theorem dz_M_other_33 : decode zm_M_other.2.1 33 = .ok (.i2l, 1) := by decide +kernel
theorem dz_M_other_34 : decode zm_M_other.2.1 34 = .ok (.iload_n 2, 1) := by decide +kernel
theorem dz_M_other_35 : decode zm_M_other.2.1 35 = .ok (.i2l, 1) := by decide +kernel
theorem dz_M_other_36 : decode zm_M_other.2.1 36 = .ok (.invokestatic 65, 3) := by decide +kernel
theorem dz_M_other_39 : decode zm_M_other.2.1 39 = .ok (.ifCond .ne 8, 3) := by decide +kernel
theorem dz_M_other_42 : decode zm_M_other.2.1 42 = .ok (.aload_n 0, 1) := by decide +kernel
theorem dz_M_other_43 : decode zm_M_other.2.1 43 = .ok (.iconst 3, 1) := by decide +kernel
theorem dz_M_other_44 : decode zm_M_other.2.1 44 = .ok (.invokevirtual 103, 3) := by decide +kernel
theorem dz_M_other_47 : decode zm_M_other.2.1 47 = .ok (.aload_n 0, 1) := by decide +kernel
theorem dz_M_other_48 : decode zm_M_other.2.1 48 = .ok (.getfield 73, 3) := by decide +kernel
theorem dz_M_other_51 : decode zm_M_other.2.1 51 = .ok (.ifCond .ne 20, 3) := by decide +kernel
theorem dz_M_other_54 : decode zm_M_other.2.1 54 = .ok (.iload_n 3, 1) := by decide +kernel
theorem dz_M_other_55 : decode zm_M_other.2.1 55 = .ok (.aload_n 0, 1) := by decide +kernel
theorem dz_M_other_56 : decode zm_M_other.2.1 56 = .ok (.getfield 92, 3) := by decide +kernel
theorem dz_M_other_59 : decode zm_M_other.2.1 59 = .ok (.ishr, 1) := by decide +kernel
theorem dz_M_other_60 : decode zm_M_other.2.1 60 = .ok (.iconst 1, 1) := by decide +kernel
theorem dz_M_other_61 : decode zm_M_other.2.1 61 = .ok (.iand, 1) := by decide +kernel
theorem dz_M_other_62 : decode zm_M_other.2.1 62 = .ok (.iconst 1, 1) := by decide +kernel
theorem dz_M_other_63 : decode zm_M_other.2.1 63 = .ok (.if_icmp .ne 8, 3) := by decide +kernel
theorem dz_M_other_66 : decode zm_M_other.2.1 66 = .ok (.aload_n 0, 1) := by decide +kernel
theorem dz_M_other_67 : decode zm_M_other.2.1 67 = .ok (.iconst 4, 1) := by decide +kernel
theorem dz_M_other_68 : decode zm_M_other.2.1 68 = .ok (.invokevirtual 103, 3) := by decide +kernel
theorem dz_M_other_71 : decode zm_M_other.2.1 71 = .ok (.aload_n 0, 1) := by decide +kernel
theorem dz_M_other_72 : decode zm_M_other.2.1 72 = .ok (.getfield 73, 3) := by decide +kernel
theorem dz_M_other_75 : decode zm_M_other.2.1 75 = .ok (.ifCond .ne 10, 3) := by decide +kernel
theorem dz_M_other_78 : decode zm_M_other.2.1 78 = .ok (.aload_n 0, 1) := by decide +kernel
theorem dz_M_other_79 : decode zm_M_other.2.1 79 = .ok (.getfield 92, 3) := by decide +kernel
theorem dz_M_other_82 : decode zm_M_other.2.1 82 = .ok (.goto 4, 3) := by decide +kernel
theorem dz_M_other_85 : decode zm_M_other.2.1 85 = .ok (.iload_n 1, 1) := by decide +kernel
theorem dz_M_other_86 : decode zm_M_other.2.1 86 = .ok (.istore 4, 2) := by decide +kernel
theorem dz_M_other_88 : decode zm_M_other.2.1 88 = .ok (.aload_n 0, 1) := by decide +kernel
theorem dz_M_other_89 : decode zm_M_other.2.1 89 = .ok (.invokevirtual 107, 3) := by decide +kernel
theorem dz_M_other_92 : decode zm_M_other.2.1 92 = .ok (.iload 4, 2) := by decide +kernel
theorem dz_M_other_94 : decode zm_M_other.2.1 94 = .ok (.ireturn, 1) := by decide +kernel
theorem dz_M_person_0 : decode zm_M_person.2.1 0 = .ok (.aload_n 0, 1) := by decide +kernel
theorem dz_M_person_1 : decode zm_M_person.2.1 1 = .ok (.iconst 0, 1) := by decide +kernel
theorem dz_M_person_2 : decode zm_M_person.2.1 2 = .ok (.iconst 5, 1) := by decide +kernel
theorem dz_M_person_3 : decode zm_M_person.2.1 3 = .ok (.iload_n 1, 1) := by decide +kernel
theorem dz_M_person_4 : decode zm_M_person.2.1 4 = .ok (.invokevirtual 110, 3) := by decide +kernel
theorem dz_M_person_7 : decode zm_M_person.2.1 7 = .ok (.istore_n 2, 1) := by decide +kernel
theorem dz_M_person_8 : decode zm_M_person.2.1 8 = .ok (.aload_n 0, 1) := by decide +kernel
theorem dz_M_person_9 : decode zm_M_person.2.1 9 = .ok (.iload_n 2, 1) := by decide +kernel
theorem dz_M_person_10 : decode zm_M_person.2.1 10 = .ok (.aload_n 0, 1) := by decide +kernel
theorem dz_M_person_11 : decode zm_M_person.2.1 11 = .ok (.getfield 114, 3) := by decide +kernel
theorem dz_M_person_14 : decode zm_M_person.2.1 14 = .ok (.if_icmp .le 7, 3) := by decide +kernel
theorem dz_M_person_17 : decode zm_M_person.2.1 17 = .ok (.iload_n 2, 1) := by decide +kernel
theorem dz_M_person_18 : decode zm_M_person.2.1 18 = .ok (.goto 7, 3) := by decide +kernel
theorem dz_M_person_21 : decode zm_M_person.2.1 21 = .ok (.aload_n 0, 1) := by decide +kernel
theorem dz_M_person_22 : decode zm_M_person.2.1 22 = .ok (.getfield 114, 3) := by decide +kernel
theorem dz_M_person_25 : decode zm_M_person.2.1 25 = .ok (.putfield 114, 3) := by decide +kernel
theorem dz_M_person_28 : decode zm_M_person.2.1 28 = .ok (.iload_n 2, 1) := by decide +kernel
theorem dz_M_person_29 : decode zm_M_person.2.1 29 = .ok (.ireturn, 1) := by decide +kernel
theorem dz_M_claimHere_0 : decode zm_M_claimHere.2.1 0 = .ok (.aload_n 0, 1) := by decide +kernel
theorem dz_M_claimHere_1 : decode zm_M_claimHere.2.1 1 = .ok (.invokevirtual 117, 3) := by decide +kernel
theorem dz_M_claimHere_4 : decode zm_M_claimHere.2.1 4 = .ok (.istore_n 1, 1) := by decide +kernel
theorem dz_M_claimHere_5 : decode zm_M_claimHere.2.1 5 = .ok (.iload_n 1, 1) := by decide +kernel
theorem dz_M_claimHere_6 : decode zm_M_claimHere.2.1 6 = .ok (.iconst 1, 1) := by decide +kernel
theorem dz_M_claimHere_7 : decode zm_M_claimHere.2.1 7 = .ok (.if_icmp .ne 7, 3) := by decide +kernel
theorem dz_M_claimHere_10 : decode zm_M_claimHere.2.1 10 = .ok (.iconst 2, 1) := by decide +kernel
theorem dz_M_claimHere_11 : decode zm_M_claimHere.2.1 11 = .ok (.goto 44, 3) := by decide +kernel
theorem dz_M_claimHere_14 : decode zm_M_claimHere.2.1 14 = .ok (.iload_n 1, 1) := by decide +kernel
theorem dz_M_claimHere_15 : decode zm_M_claimHere.2.1 15 = .ok (.iconst 5, 1) := by decide +kernel
theorem dz_M_claimHere_16 : decode zm_M_claimHere.2.1 16 = .ok (.if_icmp .eq 9, 3) := by decide +kernel
theorem dz_M_claimHere_19 : decode zm_M_claimHere.2.1 19 = .ok (.iload_n 1, 1) := by decide +kernel
theorem dz_M_claimHere_20 : decode zm_M_claimHere.2.1 20 = .ok (.bipush 6, 2) := by decide +kernel
theorem dz_M_claimHere_22 : decode zm_M_claimHere.2.1 22 = .ok (.if_icmp .ne 9, 3) := by decide +kernel
theorem dz_M_claimHere_25 : decode zm_M_claimHere.2.1 25 = .ok (.iload_n 1, 1) := by decide +kernel
theorem dz_M_claimHere_26 : decode zm_M_claimHere.2.1 26 = .ok (.iconst 5, 1) := by decide +kernel
theorem dz_M_claimHere_27 : decode zm_M_claimHere.2.1 27 = .ok (.isub, 1) := by decide +kernel
theorem dz_M_claimHere_28 : decode zm_M_claimHere.2.1 28 = .ok (.goto 27, 3) := by decide +kernel
theorem dz_M_claimHere_31 : decode zm_M_claimHere.2.1 31 = .ok (.iload_n 1, 1) := by decide +kernel
theorem dz_M_claimHere_32 : decode zm_M_claimHere.2.1 32 = .ok (.i2l, 1) := by decide +kernel
theorem dz_M_claimHere_33 : decode zm_M_claimHere.2.1 33 = .ok (.ldc2_w 121, 3) := by decide +kernel
theorem dz_M_claimHere_36 : decode zm_M_claimHere.2.1 36 = .ok (.ldc2_w 123, 3) := by decide +kernel
theorem dz_M_claimHere_39 : decode zm_M_claimHere.2.1 39 = .ok (.invokestatic 65, 3) := by decide +kernel
theorem dz_M_claimHere_42 : decode zm_M_claimHere.2.1 42 = .ok (.ifCond .eq 11, 3) := by decide +kernel
theorem dz_M_claimHere_45 : decode zm_M_claimHere.2.1 45 = .ok (.iload_n 1, 1) := by decide +kernel
theorem dz_M_claimHere_46 : decode zm_M_claimHere.2.1 46 = .ok (.iconst 5, 1) := by decide +kernel
theorem dz_M_claimHere_47 : decode zm_M_claimHere.2.1 47 = .ok (.isub, 1) := by decide +kernel
theorem dz_M_claimHere_48 : decode zm_M_claimHere.2.1 48 = .ok (.iconst 1, 1) := by decide +kernel
theorem dz_M_claimHere_49 : decode zm_M_claimHere.2.1 49 = .ok (.iadd, 1) := by decide +kernel
theorem dz_M_claimHere_50 : decode zm_M_claimHere.2.1 50 = .ok (.goto 5, 3) := by decide +kernel
theorem dz_M_claimHere_53 : decode zm_M_claimHere.2.1 53 = .ok (.bipush (-4), 2) := by decide +kernel
theorem dz_M_claimHere_55 : decode zm_M_claimHere.2.1 55 = .ok (.istore_n 2, 1) := by decide +kernel
theorem dz_M_claimHere_56 : decode zm_M_claimHere.2.1 56 = .ok (.aload_n 0, 1) := by decide +kernel
theorem dz_M_claimHere_57 : decode zm_M_claimHere.2.1 57 = .ok (.getfield 73, 3) := by decide +kernel
theorem dz_M_claimHere_60 : decode zm_M_claimHere.2.1 60 = .ok (.ifCond .ne 14, 3) := by decide +kernel
theorem dz_M_claimHere_63 : decode zm_M_claimHere.2.1 63 = .ok (.iload_n 2, 1) := by decide +kernel
theorem dz_M_claimHere_64 : decode zm_M_claimHere.2.1 64 = .ok (.bipush (-4), 2) := by decide +kernel
theorem dz_M_claimHere_66 : decode zm_M_claimHere.2.1 66 = .ok (.if_icmp .ne 8, 3) := by decide +kernel
theorem dz_M_claimHere_69 : decode zm_M_claimHere.2.1 69 = .ok (.aload_n 0, 1) := by decide +kernel
theorem dz_M_claimHere_70 : decode zm_M_claimHere.2.1 70 = .ok (.iconst 2, 1) := by decide +kernel
theorem dz_M_claimHere_71 : decode zm_M_claimHere.2.1 71 = .ok (.invokevirtual 103, 3) := by decide +kernel
theorem dz_M_claimHere_74 : decode zm_M_claimHere.2.1 74 = .ok (.aload_n 0, 1) := by decide +kernel
theorem dz_M_claimHere_75 : decode zm_M_claimHere.2.1 75 = .ok (.invokevirtual 107, 3) := by decide +kernel
theorem dz_M_claimHere_78 : decode zm_M_claimHere.2.1 78 = .ok (.iload_n 2, 1) := by decide +kernel
theorem dz_M_claimHere_79 : decode zm_M_claimHere.2.1 79 = .ok (.bipush (-4), 2) := by decide +kernel
theorem dz_M_claimHere_81 : decode zm_M_claimHere.2.1 81 = .ok (.if_icmp .ne 7, 3) := by decide +kernel
theorem dz_M_claimHere_84 : decode zm_M_claimHere.2.1 84 = .ok (.iconst 0, 1) := by decide +kernel
theorem dz_M_claimHere_85 : decode zm_M_claimHere.2.1 85 = .ok (.goto 4, 3) := by decide +kernel
theorem dz_M_claimHere_88 : decode zm_M_claimHere.2.1 88 = .ok (.iload_n 2, 1) := by decide +kernel
theorem dz_M_claimHere_89 : decode zm_M_claimHere.2.1 89 = .ok (.ireturn, 1) := by decide +kernel
theorem dz_M_readRule_0 : decode zm_M_readRule.2.1 0 = .ok (.aload_n 0, 1) := by decide +kernel
theorem dz_M_readRule_1 : decode zm_M_readRule.2.1 1 = .ok (.getfield 125, 3) := by decide +kernel
theorem dz_M_readRule_4 : decode zm_M_readRule.2.1 4 = .ok (.istore_n 1, 1) := by decide +kernel
theorem dz_M_readRule_5 : decode zm_M_readRule.2.1 5 = .ok (.aload_n 0, 1) := by decide +kernel
theorem dz_M_readRule_6 : decode zm_M_readRule.2.1 6 = .ok (.getfield 19, 3) := by decide +kernel
theorem dz_M_readRule_9 : decode zm_M_readRule.2.1 9 = .ok (.bipush 18, 2) := by decide +kernel
theorem dz_M_readRule_11 : decode zm_M_readRule.2.1 11 = .ok (.iload_n 1, 1) := by decide +kernel
theorem dz_M_readRule_12 : decode zm_M_readRule.2.1 12 = .ok (.iadd, 1) := by decide +kernel
theorem dz_M_readRule_13 : decode zm_M_readRule.2.1 13 = .ok (.aload_n 0, 1) := by decide +kernel
theorem dz_M_readRule_14 : decode zm_M_readRule.2.1 14 = .ok (.iconst 1, 1) := by decide +kernel
theorem dz_M_readRule_15 : decode zm_M_readRule.2.1 15 = .ok (.bipush 9, 2) := by decide +kernel
theorem dz_M_readRule_17 : decode zm_M_readRule.2.1 17 = .ok (.iconst 0, 1) := by decide +kernel
theorem dz_M_readRule_18 : decode zm_M_readRule.2.1 18 = .ok (.invokevirtual 110, 3) := by decide +kernel
theorem dz_M_readRule_21 : decode zm_M_readRule.2.1 21 = .ok (.iastore, 1) := by decide +kernel
theorem dz_M_readRule_22 : decode zm_M_readRule.2.1 22 = .ok (.aload_n 0, 1) := by decide +kernel
theorem dz_M_readRule_23 : decode zm_M_readRule.2.1 23 = .ok (.getfield 25, 3) := by decide +kernel
theorem dz_M_readRule_26 : decode zm_M_readRule.2.1 26 = .ok (.iconst 3, 1) := by decide +kernel
theorem dz_M_readRule_27 : decode zm_M_readRule.2.1 27 = .ok (.iload_n 1, 1) := by decide +kernel
theorem dz_M_readRule_28 : decode zm_M_readRule.2.1 28 = .ok (.imul, 1) := by decide +kernel
theorem dz_M_readRule_29 : decode zm_M_readRule.2.1 29 = .ok (.aload_n 0, 1) := by decide +kernel
theorem dz_M_readRule_30 : decode zm_M_readRule.2.1 30 = .ok (.iconst 0, 1) := by decide +kernel
theorem dz_M_readRule_31 : decode zm_M_readRule.2.1 31 = .ok (.iconst 3, 1) := by decide +kernel
theorem dz_M_readRule_32 : decode zm_M_readRule.2.1 32 = .ok (.iconst 0, 1) := by decide +kernel
theorem dz_M_readRule_33 : decode zm_M_readRule.2.1 33 = .ok (.invokevirtual 110, 3) := by decide +kernel
theorem dz_M_readRule_36 : decode zm_M_readRule.2.1 36 = .ok (.iastore, 1) := by decide +kernel
theorem dz_M_readRule_37 : decode zm_M_readRule.2.1 37 = .ok (.aload_n 0, 1) := by decide +kernel
theorem dz_M_readRule_38 : decode zm_M_readRule.2.1 38 = .ok (.invokevirtual 128, 3) := by decide +kernel
theorem dz_M_readRule_41 : decode zm_M_readRule.2.1 41 = .ok (.istore_n 2, 1) := by decide +kernel
theorem dz_M_readRule_42 : decode zm_M_readRule.2.1 42 = .ok (.aload_n 0, 1) := by decide +kernel
theorem dz_M_readRule_43 : decode zm_M_readRule.2.1 43 = .ok (.getfield 25, 3) := by decide +kernel
theorem dz_M_readRule_46 : decode zm_M_readRule.2.1 46 = .ok (.iconst 3, 1) := by decide +kernel
theorem dz_M_readRule_47 : decode zm_M_readRule.2.1 47 = .ok (.iload_n 1, 1) := by decide +kernel
theorem dz_M_readRule_48 : decode zm_M_readRule.2.1 48 = .ok (.imul, 1) := by decide +kernel
theorem dz_M_readRule_49 : decode zm_M_readRule.2.1 49 = .ok (.iconst 1, 1) := by decide +kernel
theorem dz_M_readRule_50 : decode zm_M_readRule.2.1 50 = .ok (.iadd, 1) := by decide +kernel
theorem dz_M_readRule_51 : decode zm_M_readRule.2.1 51 = .ok (.iload_n 2, 1) := by decide +kernel
theorem dz_M_readRule_52 : decode zm_M_readRule.2.1 52 = .ok (.iastore, 1) := by decide +kernel
theorem dz_M_readRule_53 : decode zm_M_readRule.2.1 53 = .ok (.aload_n 0, 1) := by decide +kernel
theorem dz_M_readRule_54 : decode zm_M_readRule.2.1 54 = .ok (.getfield 25, 3) := by decide +kernel
theorem dz_M_readRule_57 : decode zm_M_readRule.2.1 57 = .ok (.iconst 3, 1) := by decide +kernel
theorem dz_M_readRule_58 : decode zm_M_readRule.2.1 58 = .ok (.iload_n 1, 1) := by decide +kernel
theorem dz_M_readRule_59 : decode zm_M_readRule.2.1 59 = .ok (.imul, 1) := by decide +kernel
theorem dz_M_readRule_60 : decode zm_M_readRule.2.1 60 = .ok (.iconst 2, 1) := by decide +kernel
theorem dz_M_readRule_61 : decode zm_M_readRule.2.1 61 = .ok (.iadd, 1) := by decide +kernel
theorem dz_M_readRule_62 : decode zm_M_readRule.2.1 62 = .ok (.iload_n 2, 1) := by decide +kernel
theorem dz_M_readRule_63 : decode zm_M_readRule.2.1 63 = .ok (.iconst 4, 1) := by decide +kernel
theorem dz_M_readRule_64 : decode zm_M_readRule.2.1 64 = .ok (.if_icmp .ne 11, 3) := by decide +kernel
theorem dz_M_readRule_67 : decode zm_M_readRule.2.1 67 = .ok (.aload_n 0, 1) := by decide +kernel
theorem dz_M_readRule_68 : decode zm_M_readRule.2.1 68 = .ok (.iconst 0, 1) := by decide +kernel
theorem dz_M_readRule_69 : decode zm_M_readRule.2.1 69 = .ok (.invokevirtual 131, 3) := by decide +kernel
theorem dz_M_readRule_72 : decode zm_M_readRule.2.1 72 = .ok (.goto 24, 3) := by decide +kernel
theorem dz_M_readRule_75 : decode zm_M_readRule.2.1 75 = .ok (.aload_n 0, 1) := by decide +kernel
theorem dz_M_readRule_76 : decode zm_M_readRule.2.1 76 = .ok (.iload_n 2, 1) := by decide +kernel
theorem dz_M_readRule_77 : decode zm_M_readRule.2.1 77 = .ok (.iconst 1, 1) := by decide +kernel
theorem dz_M_readRule_78 : decode zm_M_readRule.2.1 78 = .ok (.if_icmp .ne 7, 3) := by decide +kernel
theorem dz_M_readRule_81 : decode zm_M_readRule.2.1 81 = .ok (.iconst 1, 1) := by decide +kernel
theorem dz_M_readRule_82 : decode zm_M_readRule.2.1 82 = .ok (.goto 4, 3) := by decide +kernel
theorem dz_M_readRule_85 : decode zm_M_readRule.2.1 85 = .ok (.iconst 0, 1) := by decide +kernel
theorem dz_M_readRule_86 : decode zm_M_readRule.2.1 86 = .ok (.aload_n 0, 1) := by decide +kernel
theorem dz_M_readRule_87 : decode zm_M_readRule.2.1 87 = .ok (.getfield 37, 3) := by decide +kernel
theorem dz_M_readRule_90 : decode zm_M_readRule.2.1 90 = .ok (.iload_n 2, 1) := by decide +kernel
theorem dz_M_readRule_91 : decode zm_M_readRule.2.1 91 = .ok (.iaload, 1) := by decide +kernel
theorem dz_M_readRule_92 : decode zm_M_readRule.2.1 92 = .ok (.iconst 0, 1) := by decide +kernel
theorem dz_M_readRule_93 : decode zm_M_readRule.2.1 93 = .ok (.invokevirtual 110, 3) := by decide +kernel
theorem dz_M_readRule_96 : decode zm_M_readRule.2.1 96 = .ok (.iastore, 1) := by decide +kernel
theorem dz_M_readRule_97 : decode zm_M_readRule.2.1 97 = .ok (.aload_n 0, 1) := by decide +kernel
theorem dz_M_readRule_98 : decode zm_M_readRule.2.1 98 = .ok (.invokevirtual 117, 3) := by decide +kernel
theorem dz_M_readRule_101 : decode zm_M_readRule.2.1 101 = .ok (.bipush 10, 2) := by decide +kernel
theorem dz_M_readRule_103 : decode zm_M_readRule.2.1 103 = .ok (.isub, 1) := by decide +kernel
theorem dz_M_readRule_104 : decode zm_M_readRule.2.1 104 = .ok (.istore_n 3, 1) := by decide +kernel
theorem dz_M_readRule_105 : decode zm_M_readRule.2.1 105 = .ok (.aload_n 0, 1) := by decide +kernel
theorem dz_M_readRule_106 : decode zm_M_readRule.2.1 106 = .ok (.getfield 73, 3) := by decide +kernel
theorem dz_M_readRule_109 : decode zm_M_readRule.2.1 109 = .ok (.ifCond .ne 12, 3) := by decide +kernel
theorem dz_M_readRule_112 : decode zm_M_readRule.2.1 112 = .ok (.iload_n 3, 1) := by decide +kernel
theorem dz_M_readRule_113 : decode zm_M_readRule.2.1 113 = .ok (.ifCond .ge 8, 3) := by decide +kernel
theorem dz_M_readRule_116 : decode zm_M_readRule.2.1 116 = .ok (.aload_n 0, 1) := by decide +kernel
theorem dz_M_readRule_117 : decode zm_M_readRule.2.1 117 = .ok (.iconst 2, 1) := by decide +kernel
theorem dz_M_readRule_118 : decode zm_M_readRule.2.1 118 = .ok (.invokevirtual 103, 3) := by decide +kernel
theorem dz_M_readRule_121 : decode zm_M_readRule.2.1 121 = .ok (.aload_n 0, 1) := by decide +kernel
theorem dz_M_readRule_122 : decode zm_M_readRule.2.1 122 = .ok (.getfield 19, 3) := by decide +kernel
theorem dz_M_readRule_125 : decode zm_M_readRule.2.1 125 = .ok (.bipush 23, 2) := by decide +kernel
theorem dz_M_readRule_127 : decode zm_M_readRule.2.1 127 = .ok (.iload_n 1, 1) := by decide +kernel
theorem dz_M_readRule_128 : decode zm_M_readRule.2.1 128 = .ok (.iadd, 1) := by decide +kernel
theorem dz_M_readRule_129 : decode zm_M_readRule.2.1 129 = .ok (.iload_n 3, 1) := by decide +kernel
theorem dz_M_readRule_130 : decode zm_M_readRule.2.1 130 = .ok (.iastore, 1) := by decide +kernel
theorem dz_M_readRule_131 : decode zm_M_readRule.2.1 131 = .ok (.aload_n 0, 1) := by decide +kernel
theorem dz_M_readRule_132 : decode zm_M_readRule.2.1 132 = .ok (.invokevirtual 107, 3) := by decide +kernel
theorem dz_M_readRule_135 : decode zm_M_readRule.2.1 135 = .ok (.aload_n 0, 1) := by decide +kernel
theorem dz_M_readRule_136 : decode zm_M_readRule.2.1 136 = .ok (.dup, 1) := by decide +kernel
theorem dz_M_readRule_137 : decode zm_M_readRule.2.1 137 = .ok (.getfield 125, 3) := by decide +kernel
theorem dz_M_readRule_140 : decode zm_M_readRule.2.1 140 = .ok (.iconst 1, 1) := by decide +kernel
theorem dz_M_readRule_141 : decode zm_M_readRule.2.1 141 = .ok (.iadd, 1) := by decide +kernel
theorem dz_M_readRule_142 : decode zm_M_readRule.2.1 142 = .ok (.putfield 125, 3) := by decide +kernel
theorem dz_M_readRule_145 : decode zm_M_readRule.2.1 145 = .ok (.return_, 1) := by decide +kernel
theorem dz_M_readMore_0 : decode zm_M_readMore.2.1 0 = .ok (.iload_n 1, 1) := by decide +kernel
theorem dz_M_readMore_1 : decode zm_M_readMore.2.1 1 = .ok (.ifCond .ne 64, 3) := by decide +kernel
theorem dz_M_readMore_4 : decode zm_M_readMore.2.1 4 = .ok (.aload_n 0, 1) := by decide +kernel
theorem dz_M_readMore_5 : decode zm_M_readMore.2.1 5 = .ok (.getfield 22, 3) := by decide +kernel
theorem dz_M_readMore_8 : decode zm_M_readMore.2.1 8 = .ok (.aload_n 0, 1) := by decide +kernel
theorem dz_M_readMore_9 : decode zm_M_readMore.2.1 9 = .ok (.getfield 134, 3) := by decide +kernel
theorem dz_M_readMore_12 : decode zm_M_readMore.2.1 12 = .ok (.iconst 0, 1) := by decide +kernel
theorem dz_M_readMore_13 : decode zm_M_readMore.2.1 13 = .ok (.iastore, 1) := by decide +kernel
theorem dz_M_readMore_14 : decode zm_M_readMore.2.1 14 = .ok (.aload_n 0, 1) := by decide +kernel
theorem dz_M_readMore_15 : decode zm_M_readMore.2.1 15 = .ok (.getfield 73, 3) := by decide +kernel
theorem dz_M_readMore_18 : decode zm_M_readMore.2.1 18 = .ok (.ifCond .ne 34, 3) := by decide +kernel
theorem dz_M_readMore_21 : decode zm_M_readMore.2.1 21 = .ok (.aload_n 0, 1) := by decide +kernel
theorem dz_M_readMore_22 : decode zm_M_readMore.2.1 22 = .ok (.getfield 82, 3) := by decide +kernel
theorem dz_M_readMore_25 : decode zm_M_readMore.2.1 25 = .ok (.iconst 2, 1) := by decide +kernel
theorem dz_M_readMore_26 : decode zm_M_readMore.2.1 26 = .ok (.if_icmp .ne 26, 3) := by decide +kernel
theorem dz_M_readMore_29 : decode zm_M_readMore.2.1 29 = .ok (.aload_n 0, 1) := by decide +kernel
theorem dz_M_readMore_30 : decode zm_M_readMore.2.1 30 = .ok (.getfield 22, 3) := by decide +kernel
theorem dz_M_readMore_33 : decode zm_M_readMore.2.1 33 = .ok (.aload_n 0, 1) := by decide +kernel
theorem dz_M_readMore_34 : decode zm_M_readMore.2.1 34 = .ok (.getfield 134, 3) := by decide +kernel
theorem dz_M_readMore_37 : decode zm_M_readMore.2.1 37 = .ok (.aload_n 0, 1) := by decide +kernel
theorem dz_M_readMore_38 : decode zm_M_readMore.2.1 38 = .ok (.iconst 0, 1) := by decide +kernel
theorem dz_M_readMore_39 : decode zm_M_readMore.2.1 39 = .ok (.aload_n 0, 1) := by decide +kernel
theorem dz_M_readMore_40 : decode zm_M_readMore.2.1 40 = .ok (.getfield 134, 3) := by decide +kernel
theorem dz_M_readMore_43 : decode zm_M_readMore.2.1 43 = .ok (.iconst 1, 1) := by decide +kernel
theorem dz_M_readMore_44 : decode zm_M_readMore.2.1 44 = .ok (.isub, 1) := by decide +kernel
theorem dz_M_readMore_45 : decode zm_M_readMore.2.1 45 = .ok (.iconst 0, 1) := by decide +kernel
theorem dz_M_readMore_46 : decode zm_M_readMore.2.1 46 = .ok (.invokevirtual 110, 3) := by decide +kernel
theorem dz_M_readMore_49 : decode zm_M_readMore.2.1 49 = .ok (.iconst 1, 1) := by decide +kernel
theorem dz_M_readMore_50 : decode zm_M_readMore.2.1 50 = .ok (.iadd, 1) := by decide +kernel
theorem dz_M_readMore_51 : decode zm_M_readMore.2.1 51 = .ok (.iastore, 1) := by decide +kernel
theorem dz_M_readMore_52 : decode zm_M_readMore.2.1 52 = .ok (.aload_n 0, 1) := by decide +kernel
theorem dz_M_readMore_53 : decode zm_M_readMore.2.1 53 = .ok (.dup, 1) := by decide +kernel
theorem dz_M_readMore_54 : decode zm_M_readMore.2.1 54 = .ok (.getfield 134, 3) := by decide +kernel
theorem dz_M_readMore_57 : decode zm_M_readMore.2.1 57 = .ok (.iconst 1, 1) := by decide +kernel
theorem dz_M_readMore_58 : decode zm_M_readMore.2.1 58 = .ok (.iadd, 1) := by decide +kernel
theorem dz_M_readMore_59 : decode zm_M_readMore.2.1 59 = .ok (.putfield 134, 3) := by decide +kernel
theorem dz_M_readMore_62 : decode zm_M_readMore.2.1 62 = .ok (.goto 125, 3) := by decide +kernel
theorem dz_M_readMore_65 : decode zm_M_readMore.2.1 65 = .ok (.iload_n 1, 1) := by decide +kernel
theorem dz_M_readMore_66 : decode zm_M_readMore.2.1 66 = .ok (.iconst 1, 1) := by decide +kernel
theorem dz_M_readMore_67 : decode zm_M_readMore.2.1 67 = .ok (.if_icmp .ne 35, 3) := by decide +kernel
theorem dz_M_readMore_70 : decode zm_M_readMore.2.1 70 = .ok (.aload_n 0, 1) := by decide +kernel
theorem dz_M_readMore_71 : decode zm_M_readMore.2.1 71 = .ok (.iconst 0, 1) := by decide +kernel
theorem dz_M_readMore_72 : decode zm_M_readMore.2.1 72 = .ok (.invokevirtual 131, 3) := by decide +kernel
theorem dz_M_readMore_75 : decode zm_M_readMore.2.1 75 = .ok (.istore_n 2, 1) := by decide +kernel
theorem dz_M_readMore_76 : decode zm_M_readMore.2.1 76 = .ok (.aload_n 0, 1) := by decide +kernel
theorem dz_M_readMore_77 : decode zm_M_readMore.2.1 77 = .ok (.getfield 19, 3) := by decide +kernel
theorem dz_M_readMore_80 : decode zm_M_readMore.2.1 80 = .ok (.iload_n 2, 1) := by decide +kernel
theorem dz_M_readMore_81 : decode zm_M_readMore.2.1 81 = .ok (.dup2, 1) := by decide +kernel
theorem dz_M_readMore_82 : decode zm_M_readMore.2.1 82 = .ok (.iaload, 1) := by decide +kernel
theorem dz_M_readMore_83 : decode zm_M_readMore.2.1 83 = .ok (.iconst 1, 1) := by decide +kernel
theorem dz_M_readMore_84 : decode zm_M_readMore.2.1 84 = .ok (.aload_n 0, 1) := by decide +kernel
theorem dz_M_readMore_85 : decode zm_M_readMore.2.1 85 = .ok (.iconst 0, 1) := by decide +kernel
theorem dz_M_readMore_86 : decode zm_M_readMore.2.1 86 = .ok (.iconst 4, 1) := by decide +kernel
theorem dz_M_readMore_87 : decode zm_M_readMore.2.1 87 = .ok (.aload_n 0, 1) := by decide +kernel
theorem dz_M_readMore_88 : decode zm_M_readMore.2.1 88 = .ok (.getfield 19, 3) := by decide +kernel
theorem dz_M_readMore_91 : decode zm_M_readMore.2.1 91 = .ok (.iload_n 2, 1) := by decide +kernel
theorem dz_M_readMore_92 : decode zm_M_readMore.2.1 92 = .ok (.iaload, 1) := by decide +kernel
theorem dz_M_readMore_93 : decode zm_M_readMore.2.1 93 = .ok (.invokevirtual 110, 3) := by decide +kernel
theorem dz_M_readMore_96 : decode zm_M_readMore.2.1 96 = .ok (.ishl, 1) := by decide +kernel
theorem dz_M_readMore_97 : decode zm_M_readMore.2.1 97 = .ok (.ior, 1) := by decide +kernel
theorem dz_M_readMore_98 : decode zm_M_readMore.2.1 98 = .ok (.iastore, 1) := by decide +kernel
theorem dz_M_readMore_99 : decode zm_M_readMore.2.1 99 = .ok (.goto 88, 3) := by decide +kernel
theorem dz_M_readMore_102 : decode zm_M_readMore.2.1 102 = .ok (.iload_n 1, 1) := by decide +kernel
theorem dz_M_readMore_103 : decode zm_M_readMore.2.1 103 = .ok (.iconst 2, 1) := by decide +kernel
theorem dz_M_readMore_104 : decode zm_M_readMore.2.1 104 = .ok (.if_icmp .ne 29, 3) := by decide +kernel
theorem dz_M_readMore_107 : decode zm_M_readMore.2.1 107 = .ok (.aload_n 0, 1) := by decide +kernel
theorem dz_M_readMore_108 : decode zm_M_readMore.2.1 108 = .ok (.getfield 19, 3) := by decide +kernel
theorem dz_M_readMore_111 : decode zm_M_readMore.2.1 111 = .ok (.bipush 12, 2) := by decide +kernel
theorem dz_M_readMore_113 : decode zm_M_readMore.2.1 113 = .ok (.dup2, 1) := by decide +kernel
theorem dz_M_readMore_114 : decode zm_M_readMore.2.1 114 = .ok (.iaload, 1) := by decide +kernel
theorem dz_M_readMore_115 : decode zm_M_readMore.2.1 115 = .ok (.iconst 1, 1) := by decide +kernel
theorem dz_M_readMore_116 : decode zm_M_readMore.2.1 116 = .ok (.aload_n 0, 1) := by decide +kernel
theorem dz_M_readMore_117 : decode zm_M_readMore.2.1 117 = .ok (.aload_n 0, 1) := by decide +kernel
theorem dz_M_readMore_118 : decode zm_M_readMore.2.1 118 = .ok (.getfield 19, 3) := by decide +kernel
theorem dz_M_readMore_121 : decode zm_M_readMore.2.1 121 = .ok (.bipush 12, 2) := by decide +kernel
theorem dz_M_readMore_123 : decode zm_M_readMore.2.1 123 = .ok (.iaload, 1) := by decide +kernel
theorem dz_M_readMore_124 : decode zm_M_readMore.2.1 124 = .ok (.invokevirtual 131, 3) := by decide +kernel
theorem dz_M_readMore_127 : decode zm_M_readMore.2.1 127 = .ok (.ishl, 1) := by decide +kernel
theorem dz_M_readMore_128 : decode zm_M_readMore.2.1 128 = .ok (.ior, 1) := by decide +kernel
theorem dz_M_readMore_129 : decode zm_M_readMore.2.1 129 = .ok (.iastore, 1) := by decide +kernel
theorem dz_M_readMore_130 : decode zm_M_readMore.2.1 130 = .ok (.goto 57, 3) := by decide +kernel
theorem dz_M_readMore_133 : decode zm_M_readMore.2.1 133 = .ok (.iload_n 1, 1) := by decide +kernel
theorem dz_M_readMore_134 : decode zm_M_readMore.2.1 134 = .ok (.iconst 3, 1) := by decide +kernel
theorem dz_M_readMore_135 : decode zm_M_readMore.2.1 135 = .ok (.if_icmp .ne 48, 3) := by decide +kernel
theorem dz_M_readMore_138 : decode zm_M_readMore.2.1 138 = .ok (.aload_n 0, 1) := by decide +kernel
theorem dz_M_readMore_139 : decode zm_M_readMore.2.1 139 = .ok (.iconst 0, 1) := by decide +kernel
theorem dz_M_readMore_140 : decode zm_M_readMore.2.1 140 = .ok (.iconst 4, 1) := by decide +kernel
theorem dz_M_readMore_141 : decode zm_M_readMore.2.1 141 = .ok (.aload_n 0, 1) := by decide +kernel
theorem dz_M_readMore_142 : decode zm_M_readMore.2.1 142 = .ok (.getfield 137, 3) := by decide +kernel
theorem dz_M_readMore_145 : decode zm_M_readMore.2.1 145 = .ok (.invokevirtual 110, 3) := by decide +kernel
theorem dz_M_readMore_148 : decode zm_M_readMore.2.1 148 = .ok (.istore_n 2, 1) := by decide +kernel
theorem dz_M_readMore_149 : decode zm_M_readMore.2.1 149 = .ok (.aload_n 0, 1) := by decide +kernel
theorem dz_M_readMore_150 : decode zm_M_readMore.2.1 150 = .ok (.dup, 1) := by decide +kernel
theorem dz_M_readMore_151 : decode zm_M_readMore.2.1 151 = .ok (.getfield 137, 3) := by decide +kernel
theorem dz_M_readMore_154 : decode zm_M_readMore.2.1 154 = .ok (.iconst 1, 1) := by decide +kernel
theorem dz_M_readMore_155 : decode zm_M_readMore.2.1 155 = .ok (.iload_n 2, 1) := by decide +kernel
theorem dz_M_readMore_156 : decode zm_M_readMore.2.1 156 = .ok (.ishl, 1) := by decide +kernel
theorem dz_M_readMore_157 : decode zm_M_readMore.2.1 157 = .ok (.ior, 1) := by decide +kernel
theorem dz_M_readMore_158 : decode zm_M_readMore.2.1 158 = .ok (.putfield 137, 3) := by decide +kernel
theorem dz_M_readMore_161 : decode zm_M_readMore.2.1 161 = .ok (.aload_n 0, 1) := by decide +kernel
theorem dz_M_readMore_162 : decode zm_M_readMore.2.1 162 = .ok (.getfield 19, 3) := by decide +kernel
theorem dz_M_readMore_165 : decode zm_M_readMore.2.1 165 = .ok (.bipush 13, 2) := by decide +kernel
theorem dz_M_readMore_167 : decode zm_M_readMore.2.1 167 = .ok (.iload_n 2, 1) := by decide +kernel
theorem dz_M_readMore_168 : decode zm_M_readMore.2.1 168 = .ok (.iadd, 1) := by decide +kernel
theorem dz_M_readMore_169 : decode zm_M_readMore.2.1 169 = .ok (.aload_n 0, 1) := by decide +kernel
theorem dz_M_readMore_170 : decode zm_M_readMore.2.1 170 = .ok (.iconst 0, 1) := by decide +kernel
theorem dz_M_readMore_171 : decode zm_M_readMore.2.1 171 = .ok (.bipush 10, 2) := by decide +kernel
theorem dz_M_readMore_173 : decode zm_M_readMore.2.1 173 = .ok (.iconst 0, 1) := by decide +kernel
theorem dz_M_readMore_174 : decode zm_M_readMore.2.1 174 = .ok (.invokevirtual 110, 3) := by decide +kernel
theorem dz_M_readMore_177 : decode zm_M_readMore.2.1 177 = .ok (.iconst 5, 1) := by decide +kernel
theorem dz_M_readMore_178 : decode zm_M_readMore.2.1 178 = .ok (.isub, 1) := by decide +kernel
theorem dz_M_readMore_179 : decode zm_M_readMore.2.1 179 = .ok (.iastore, 1) := by decide +kernel
theorem dz_M_readMore_180 : decode zm_M_readMore.2.1 180 = .ok (.goto 7, 3) := by decide +kernel
theorem dz_M_readMore_183 : decode zm_M_readMore.2.1 183 = .ok (.aload_n 0, 1) := by decide +kernel
theorem dz_M_readMore_184 : decode zm_M_readMore.2.1 184 = .ok (.invokevirtual 140, 3) := by decide +kernel
theorem dz_M_readMore_187 : decode zm_M_readMore.2.1 187 = .ok (.return_, 1) := by decide +kernel
theorem dz_M_readLine_0 : decode zm_M_readLine.2.1 0 = .ok (.aload_n 0, 1) := by decide +kernel
theorem dz_M_readLine_1 : decode zm_M_readLine.2.1 1 = .ok (.invokevirtual 117, 3) := by decide +kernel
theorem dz_M_readLine_4 : decode zm_M_readLine.2.1 4 = .ok (.istore_n 1, 1) := by decide +kernel
theorem dz_M_readLine_5 : decode zm_M_readLine.2.1 5 = .ok (.iload_n 1, 1) := by decide +kernel
theorem dz_M_readLine_6 : decode zm_M_readLine.2.1 6 = .ok (.i2l, 1) := by decide +kernel
theorem dz_M_readLine_7 : decode zm_M_readLine.2.1 7 = .ok (.lconst 0, 1) := by decide +kernel
theorem dz_M_readLine_8 : decode zm_M_readLine.2.1 8 = .ok (.ldc2_w 143, 3) := by decide +kernel
theorem dz_M_readLine_11 : decode zm_M_readLine.2.1 11 = .ok (.invokestatic 65, 3) := by decide +kernel
theorem dz_M_readLine_14 : decode zm_M_readLine.2.1 14 = .ok (.ifCond .ne 9, 3) := by decide +kernel
theorem dz_M_readLine_17 : decode zm_M_readLine.2.1 17 = .ok (.aload_n 0, 1) := by decide +kernel
theorem dz_M_readLine_18 : decode zm_M_readLine.2.1 18 = .ok (.iconst 2, 1) := by decide +kernel
theorem dz_M_readLine_19 : decode zm_M_readLine.2.1 19 = .ok (.invokevirtual 103, 3) := by decide +kernel
theorem dz_M_readLine_22 : decode zm_M_readLine.2.1 22 = .ok (.return_, 1) := by decide +kernel
theorem dz_M_readLine_23 : decode zm_M_readLine.2.1 23 = .ok (.iload_n 1, 1) := by decide +kernel
theorem dz_M_readLine_24 : decode zm_M_readLine.2.1 24 = .ok (.ifCond .ne 12, 3) := by decide +kernel
theorem dz_M_readLine_27 : decode zm_M_readLine.2.1 27 = .ok (.aload_n 0, 1) := by decide +kernel
theorem dz_M_readLine_28 : decode zm_M_readLine.2.1 28 = .ok (.getfield 134, 3) := by decide +kernel
theorem dz_M_readLine_31 : decode zm_M_readLine.2.1 31 = .ok (.bipush 6, 2) := by decide +kernel
theorem dz_M_readLine_33 : decode zm_M_readLine.2.1 33 = .ok (.if_icmp .eq 16, 3) := by decide +kernel
theorem dz_M_readLine_36 : decode zm_M_readLine.2.1 36 = .ok (.iload_n 1, 1) := by decide +kernel
theorem dz_M_readLine_37 : decode zm_M_readLine.2.1 37 = .ok (.iconst 4, 1) := by decide +kernel
theorem dz_M_readLine_38 : decode zm_M_readLine.2.1 38 = .ok (.if_icmp .ne 16, 3) := by decide +kernel
theorem dz_M_readLine_41 : decode zm_M_readLine.2.1 41 = .ok (.aload_n 0, 1) := by decide +kernel
theorem dz_M_readLine_42 : decode zm_M_readLine.2.1 42 = .ok (.getfield 125, 3) := by decide +kernel
theorem dz_M_readLine_45 : decode zm_M_readLine.2.1 45 = .ok (.iconst 5, 1) := by decide +kernel
theorem dz_M_readLine_46 : decode zm_M_readLine.2.1 46 = .ok (.if_icmp .ne 8, 3) := by decide +kernel
theorem dz_M_readLine_49 : decode zm_M_readLine.2.1 49 = .ok (.aload_n 0, 1) := by decide +kernel
theorem dz_M_readLine_50 : decode zm_M_readLine.2.1 50 = .ok (.iconst 5, 1) := by decide +kernel
theorem dz_M_readLine_51 : decode zm_M_readLine.2.1 51 = .ok (.invokevirtual 103, 3) := by decide +kernel
theorem dz_M_readLine_54 : decode zm_M_readLine.2.1 54 = .ok (.aload_n 0, 1) := by decide +kernel
theorem dz_M_readLine_55 : decode zm_M_readLine.2.1 55 = .ok (.invokevirtual 107, 3) := by decide +kernel
theorem dz_M_readLine_58 : decode zm_M_readLine.2.1 58 = .ok (.aload_n 0, 1) := by decide +kernel
theorem dz_M_readLine_59 : decode zm_M_readLine.2.1 59 = .ok (.getfield 73, 3) := by decide +kernel
theorem dz_M_readLine_62 : decode zm_M_readLine.2.1 62 = .ok (.ifCond .le 4, 3) := by decide +kernel
theorem dz_M_readLine_65 : decode zm_M_readLine.2.1 65 = .ok (.return_, 1) := by decide +kernel
theorem dz_M_readLine_66 : decode zm_M_readLine.2.1 66 = .ok (.aload_n 0, 1) := by decide +kernel
theorem dz_M_readLine_67 : decode zm_M_readLine.2.1 67 = .ok (.iload_n 1, 1) := by decide +kernel
theorem dz_M_readLine_68 : decode zm_M_readLine.2.1 68 = .ok (.invokevirtual 145, 3) := by decide +kernel
theorem dz_M_readLine_71 : decode zm_M_readLine.2.1 71 = .ok (.aload_n 0, 1) := by decide +kernel
theorem dz_M_readLine_72 : decode zm_M_readLine.2.1 72 = .ok (.getfield 73, 3) := by decide +kernel
theorem dz_M_readLine_75 : decode zm_M_readLine.2.1 75 = .ok (.ifCond .ne 16, 3) := by decide +kernel
theorem dz_M_readLine_78 : decode zm_M_readLine.2.1 78 = .ok (.aload_n 0, 1) := by decide +kernel
theorem dz_M_readLine_79 : decode zm_M_readLine.2.1 79 = .ok (.getfield 82, 3) := by decide +kernel
theorem dz_M_readLine_82 : decode zm_M_readLine.2.1 82 = .ok (.iconst 3, 1) := by decide +kernel
theorem dz_M_readLine_83 : decode zm_M_readLine.2.1 83 = .ok (.if_icmp .eq 8, 3) := by decide +kernel
theorem dz_M_readLine_86 : decode zm_M_readLine.2.1 86 = .ok (.aload_n 0, 1) := by decide +kernel
theorem dz_M_readLine_87 : decode zm_M_readLine.2.1 87 = .ok (.iconst 2, 1) := by decide +kernel
theorem dz_M_readLine_88 : decode zm_M_readLine.2.1 88 = .ok (.invokevirtual 103, 3) := by decide +kernel
theorem dz_M_readLine_91 : decode zm_M_readLine.2.1 91 = .ok (.aload_n 0, 1) := by decide +kernel
theorem dz_M_readLine_92 : decode zm_M_readLine.2.1 92 = .ok (.invokevirtual 107, 3) := by decide +kernel
theorem dz_M_readLine_95 : decode zm_M_readLine.2.1 95 = .ok (.return_, 1) := by decide +kernel
theorem dz_M_areAlike_0 : decode zm_M_areAlike.2.1 0 = .ok (.iconst 0, 1) := by decide +kernel
theorem dz_M_areAlike_1 : decode zm_M_areAlike.2.1 1 = .ok (.istore_n 1, 1) := by decide +kernel
theorem dz_M_areAlike_2 : decode zm_M_areAlike.2.1 2 = .ok (.iconst 0, 1) := by decide +kernel
theorem dz_M_areAlike_3 : decode zm_M_areAlike.2.1 3 = .ok (.istore_n 2, 1) := by decide +kernel
theorem dz_M_areAlike_4 : decode zm_M_areAlike.2.1 4 = .ok (.iload_n 2, 1) := by decide +kernel
theorem dz_M_areAlike_5 : decode zm_M_areAlike.2.1 5 = .ok (.aload_n 0, 1) := by decide +kernel
theorem dz_M_areAlike_6 : decode zm_M_areAlike.2.1 6 = .ok (.getfield 125, 3) := by decide +kernel
theorem dz_M_areAlike_9 : decode zm_M_areAlike.2.1 9 = .ok (.if_icmp .ge 77, 3) := by decide +kernel
theorem dz_M_areAlike_12 : decode zm_M_areAlike.2.1 12 = .ok (.iload_n 2, 1) := by decide +kernel
theorem dz_M_areAlike_13 : decode zm_M_areAlike.2.1 13 = .ok (.iconst 1, 1) := by decide +kernel
theorem dz_M_areAlike_14 : decode zm_M_areAlike.2.1 14 = .ok (.iadd, 1) := by decide +kernel
theorem dz_M_areAlike_15 : decode zm_M_areAlike.2.1 15 = .ok (.istore_n 3, 1) := by decide +kernel
theorem dz_M_areAlike_16 : decode zm_M_areAlike.2.1 16 = .ok (.iload_n 3, 1) := by decide +kernel
theorem dz_M_areAlike_17 : decode zm_M_areAlike.2.1 17 = .ok (.aload_n 0, 1) := by decide +kernel
theorem dz_M_areAlike_18 : decode zm_M_areAlike.2.1 18 = .ok (.getfield 125, 3) := by decide +kernel
theorem dz_M_areAlike_21 : decode zm_M_areAlike.2.1 21 = .ok (.if_icmp .ge 59, 3) := by decide +kernel
theorem dz_M_areAlike_24 : decode zm_M_areAlike.2.1 24 = .ok (.iload_n 1, 1) := by decide +kernel
theorem dz_M_areAlike_25 : decode zm_M_areAlike.2.1 25 = .ok (.ifCond .ne 43, 3) := by decide +kernel
theorem dz_M_areAlike_28 : decode zm_M_areAlike.2.1 28 = .ok (.aload_n 0, 1) := by decide +kernel
theorem dz_M_areAlike_29 : decode zm_M_areAlike.2.1 29 = .ok (.getfield 25, 3) := by decide +kernel
theorem dz_M_areAlike_32 : decode zm_M_areAlike.2.1 32 = .ok (.iconst 3, 1) := by decide +kernel
theorem dz_M_areAlike_33 : decode zm_M_areAlike.2.1 33 = .ok (.iload_n 2, 1) := by decide +kernel
theorem dz_M_areAlike_34 : decode zm_M_areAlike.2.1 34 = .ok (.imul, 1) := by decide +kernel
theorem dz_M_areAlike_35 : decode zm_M_areAlike.2.1 35 = .ok (.iaload, 1) := by decide +kernel
theorem dz_M_areAlike_36 : decode zm_M_areAlike.2.1 36 = .ok (.aload_n 0, 1) := by decide +kernel
theorem dz_M_areAlike_37 : decode zm_M_areAlike.2.1 37 = .ok (.getfield 25, 3) := by decide +kernel
theorem dz_M_areAlike_40 : decode zm_M_areAlike.2.1 40 = .ok (.iconst 3, 1) := by decide +kernel
theorem dz_M_areAlike_41 : decode zm_M_areAlike.2.1 41 = .ok (.iload_n 3, 1) := by decide +kernel
theorem dz_M_areAlike_42 : decode zm_M_areAlike.2.1 42 = .ok (.imul, 1) := by decide +kernel
theorem dz_M_areAlike_43 : decode zm_M_areAlike.2.1 43 = .ok (.iaload, 1) := by decide +kernel
theorem dz_M_areAlike_44 : decode zm_M_areAlike.2.1 44 = .ok (.if_icmp .ne 28, 3) := by decide +kernel
theorem dz_M_areAlike_47 : decode zm_M_areAlike.2.1 47 = .ok (.aload_n 0, 1) := by decide +kernel
theorem dz_M_areAlike_48 : decode zm_M_areAlike.2.1 48 = .ok (.getfield 19, 3) := by decide +kernel
theorem dz_M_areAlike_51 : decode zm_M_areAlike.2.1 51 = .ok (.bipush 18, 2) := by decide +kernel
theorem dz_M_areAlike_53 : decode zm_M_areAlike.2.1 53 = .ok (.iload_n 2, 1) := by decide +kernel
theorem dz_M_areAlike_54 : decode zm_M_areAlike.2.1 54 = .ok (.iadd, 1) := by decide +kernel
theorem dz_M_areAlike_55 : decode zm_M_areAlike.2.1 55 = .ok (.iaload, 1) := by decide +kernel
theorem dz_M_areAlike_56 : decode zm_M_areAlike.2.1 56 = .ok (.aload_n 0, 1) := by decide +kernel
theorem dz_M_areAlike_57 : decode zm_M_areAlike.2.1 57 = .ok (.getfield 19, 3) := by decide +kernel
theorem dz_M_areAlike_60 : decode zm_M_areAlike.2.1 60 = .ok (.bipush 18, 2) := by decide +kernel
theorem dz_M_areAlike_62 : decode zm_M_areAlike.2.1 62 = .ok (.iload_n 3, 1) := by decide +kernel
theorem dz_M_areAlike_63 : decode zm_M_areAlike.2.1 63 = .ok (.iadd, 1) := by decide +kernel
theorem dz_M_areAlike_64 : decode zm_M_areAlike.2.1 64 = .ok (.iaload, 1) := by decide +kernel
theorem dz_M_areAlike_65 : decode zm_M_areAlike.2.1 65 = .ok (.if_icmp .ne 7, 3) := by decide +kernel
theorem dz_M_areAlike_68 : decode zm_M_areAlike.2.1 68 = .ok (.iconst 1, 1) := by decide +kernel
theorem dz_M_areAlike_69 : decode zm_M_areAlike.2.1 69 = .ok (.goto 4, 3) := by decide +kernel
theorem dz_M_areAlike_72 : decode zm_M_areAlike.2.1 72 = .ok (.iconst 0, 1) := by decide +kernel
theorem dz_M_areAlike_73 : decode zm_M_areAlike.2.1 73 = .ok (.istore_n 1, 1) := by decide +kernel
theorem dz_M_areAlike_74 : decode zm_M_areAlike.2.1 74 = .ok (.iinc 3 1, 3) := by decide +kernel
theorem dz_M_areAlike_77 : decode zm_M_areAlike.2.1 77 = .ok (.goto (-61), 3) := by decide +kernel
theorem dz_M_areAlike_80 : decode zm_M_areAlike.2.1 80 = .ok (.iinc 2 1, 3) := by decide +kernel
theorem dz_M_areAlike_83 : decode zm_M_areAlike.2.1 83 = .ok (.goto (-79), 3) := by decide +kernel
theorem dz_M_areAlike_86 : decode zm_M_areAlike.2.1 86 = .ok (.iload_n 1, 1) := by decide +kernel
theorem dz_M_areAlike_87 : decode zm_M_areAlike.2.1 87 = .ok (.ireturn, 1) := by decide +kernel
theorem dz_M_text_0 : decode zm_M_text.2.1 0 = .ok (.aload_n 0, 1) := by decide +kernel
theorem dz_M_text_1 : decode zm_M_text.2.1 1 = .ok (.iconst 0, 1) := by decide +kernel
theorem dz_M_text_2 : decode zm_M_text.2.1 2 = .ok (.putfield 73, 3) := by decide +kernel
theorem dz_M_text_5 : decode zm_M_text.2.1 5 = .ok (.aload_n 0, 1) := by decide +kernel
theorem dz_M_text_6 : decode zm_M_text.2.1 6 = .ok (.iconst 0, 1) := by decide +kernel
theorem dz_M_text_7 : decode zm_M_text.2.1 7 = .ok (.putfield 85, 3) := by decide +kernel
theorem dz_M_text_10 : decode zm_M_text.2.1 10 = .ok (.aload_n 0, 1) := by decide +kernel
theorem dz_M_text_11 : decode zm_M_text.2.1 11 = .ok (.iconst 0, 1) := by decide +kernel
theorem dz_M_text_12 : decode zm_M_text.2.1 12 = .ok (.putfield 134, 3) := by decide +kernel
theorem dz_M_text_15 : decode zm_M_text.2.1 15 = .ok (.aload_n 0, 1) := by decide +kernel
theorem dz_M_text_16 : decode zm_M_text.2.1 16 = .ok (.iconst 0, 1) := by decide +kernel
theorem dz_M_text_17 : decode zm_M_text.2.1 17 = .ok (.putfield 125, 3) := by decide +kernel
theorem dz_M_text_20 : decode zm_M_text.2.1 20 = .ok (.aload_n 0, 1) := by decide +kernel
theorem dz_M_text_21 : decode zm_M_text.2.1 21 = .ok (.iconst 0, 1) := by decide +kernel
theorem dz_M_text_22 : decode zm_M_text.2.1 22 = .ok (.putfield 137, 3) := by decide +kernel
theorem dz_M_text_25 : decode zm_M_text.2.1 25 = .ok (.aload_n 0, 1) := by decide +kernel
theorem dz_M_text_26 : decode zm_M_text.2.1 26 = .ok (.iconst (-1), 1) := by decide +kernel
theorem dz_M_text_27 : decode zm_M_text.2.1 27 = .ok (.putfield 114, 3) := by decide +kernel
theorem dz_M_text_30 : decode zm_M_text.2.1 30 = .ok (.iconst 0, 1) := by decide +kernel
theorem dz_M_text_31 : decode zm_M_text.2.1 31 = .ok (.istore_n 1, 1) := by decide +kernel
theorem dz_M_text_32 : decode zm_M_text.2.1 32 = .ok (.iconst 0, 1) := by decide +kernel
theorem dz_M_text_33 : decode zm_M_text.2.1 33 = .ok (.istore_n 2, 1) := by decide +kernel
theorem dz_M_text_34 : decode zm_M_text.2.1 34 = .ok (.iload_n 2, 1) := by decide +kernel
theorem dz_M_text_35 : decode zm_M_text.2.1 35 = .ok (.bipush 28, 2) := by decide +kernel
theorem dz_M_text_37 : decode zm_M_text.2.1 37 = .ok (.if_icmp .ge 16, 3) := by decide +kernel
theorem dz_M_text_40 : decode zm_M_text.2.1 40 = .ok (.aload_n 0, 1) := by decide +kernel
theorem dz_M_text_41 : decode zm_M_text.2.1 41 = .ok (.getfield 19, 3) := by decide +kernel
theorem dz_M_text_44 : decode zm_M_text.2.1 44 = .ok (.iload_n 2, 1) := by decide +kernel
theorem dz_M_text_45 : decode zm_M_text.2.1 45 = .ok (.iconst 0, 1) := by decide +kernel
theorem dz_M_text_46 : decode zm_M_text.2.1 46 = .ok (.iastore, 1) := by decide +kernel
theorem dz_M_text_47 : decode zm_M_text.2.1 47 = .ok (.iinc 2 1, 3) := by decide +kernel
theorem dz_M_text_50 : decode zm_M_text.2.1 50 = .ok (.goto (-16), 3) := by decide +kernel
theorem dz_M_text_53 : decode zm_M_text.2.1 53 = .ok (.aload_n 0, 1) := by decide +kernel
theorem dz_M_text_54 : decode zm_M_text.2.1 54 = .ok (.invokevirtual 107, 3) := by decide +kernel
theorem dz_M_text_57 : decode zm_M_text.2.1 57 = .ok (.aload_n 0, 1) := by decide +kernel
theorem dz_M_text_58 : decode zm_M_text.2.1 58 = .ok (.getfield 73, 3) := by decide +kernel
theorem dz_M_text_61 : decode zm_M_text.2.1 61 = .ok (.ifCond .ne 20, 3) := by decide +kernel
theorem dz_M_text_64 : decode zm_M_text.2.1 64 = .ok (.aload_n 0, 1) := by decide +kernel
theorem dz_M_text_65 : decode zm_M_text.2.1 65 = .ok (.getfield 82, 3) := by decide +kernel
theorem dz_M_text_68 : decode zm_M_text.2.1 68 = .ok (.ifCond .eq 13, 3) := by decide +kernel
theorem dz_M_text_71 : decode zm_M_text.2.1 71 = .ok (.aload_n 0, 1) := by decide +kernel
theorem dz_M_text_72 : decode zm_M_text.2.1 72 = .ok (.invokevirtual 148, 3) := by decide +kernel
theorem dz_M_text_75 : decode zm_M_text.2.1 75 = .ok (.iinc 1 1, 3) := by decide +kernel
theorem dz_M_text_78 : decode zm_M_text.2.1 78 = .ok (.goto (-21), 3) := by decide +kernel
theorem dz_M_text_81 : decode zm_M_text.2.1 81 = .ok (.aload_n 0, 1) := by decide +kernel
theorem dz_M_text_82 : decode zm_M_text.2.1 82 = .ok (.getfield 73, 3) := by decide +kernel
theorem dz_M_text_85 : decode zm_M_text.2.1 85 = .ok (.ifCond .ne 20, 3) := by decide +kernel
theorem dz_M_text_88 : decode zm_M_text.2.1 88 = .ok (.aload_n 0, 1) := by decide +kernel
theorem dz_M_text_89 : decode zm_M_text.2.1 89 = .ok (.getfield 114, 3) := by decide +kernel
theorem dz_M_text_92 : decode zm_M_text.2.1 92 = .ok (.aload_n 0, 1) := by decide +kernel
theorem dz_M_text_93 : decode zm_M_text.2.1 93 = .ok (.getfield 134, 3) := by decide +kernel
theorem dz_M_text_96 : decode zm_M_text.2.1 96 = .ok (.if_icmp .lt 9, 3) := by decide +kernel
theorem dz_M_text_99 : decode zm_M_text.2.1 99 = .ok (.aload_n 0, 1) := by decide +kernel
theorem dz_M_text_100 : decode zm_M_text.2.1 100 = .ok (.bipush 6, 2) := by decide +kernel
theorem dz_M_text_102 : decode zm_M_text.2.1 102 = .ok (.invokevirtual 103, 3) := by decide +kernel
theorem dz_M_text_105 : decode zm_M_text.2.1 105 = .ok (.aload_n 0, 1) := by decide +kernel
theorem dz_M_text_106 : decode zm_M_text.2.1 106 = .ok (.getfield 73, 3) := by decide +kernel
theorem dz_M_text_109 : decode zm_M_text.2.1 109 = .ok (.ifCond .ne 16, 3) := by decide +kernel
theorem dz_M_text_112 : decode zm_M_text.2.1 112 = .ok (.aload_n 0, 1) := by decide +kernel
theorem dz_M_text_113 : decode zm_M_text.2.1 113 = .ok (.invokevirtual 151, 3) := by decide +kernel
theorem dz_M_text_116 : decode zm_M_text.2.1 116 = .ok (.ifCond .eq 9, 3) := by decide +kernel
theorem dz_M_text_119 : decode zm_M_text.2.1 119 = .ok (.aload_n 0, 1) := by decide +kernel
theorem dz_M_text_120 : decode zm_M_text.2.1 120 = .ok (.bipush 7, 2) := by decide +kernel
theorem dz_M_text_122 : decode zm_M_text.2.1 122 = .ok (.invokevirtual 103, 3) := by decide +kernel
theorem dz_M_text_125 : decode zm_M_text.2.1 125 = .ok (.aload_n 0, 1) := by decide +kernel
theorem dz_M_text_126 : decode zm_M_text.2.1 126 = .ok (.iconst 0, 1) := by decide +kernel
theorem dz_M_text_127 : decode zm_M_text.2.1 127 = .ok (.putfield 69, 3) := by decide +kernel
theorem dz_M_text_130 : decode zm_M_text.2.1 130 = .ok (.aload_n 0, 1) := by decide +kernel
theorem dz_M_text_131 : decode zm_M_text.2.1 131 = .ok (.aload_n 0, 1) := by decide +kernel
theorem dz_M_text_132 : decode zm_M_text.2.1 132 = .ok (.getfield 73, 3) := by decide +kernel
theorem dz_M_text_135 : decode zm_M_text.2.1 135 = .ok (.putfield 155, 3) := by decide +kernel
theorem dz_M_text_138 : decode zm_M_text.2.1 138 = .ok (.aload_n 0, 1) := by decide +kernel
theorem dz_M_text_139 : decode zm_M_text.2.1 139 = .ok (.getfield 73, 3) := by decide +kernel
theorem dz_M_text_142 : decode zm_M_text.2.1 142 = .ok (.ifCond .le 11, 3) := by decide +kernel
theorem dz_M_text_145 : decode zm_M_text.2.1 145 = .ok (.bipush (-10), 2) := by decide +kernel
theorem dz_M_text_147 : decode zm_M_text.2.1 147 = .ok (.aload_n 0, 1) := by decide +kernel
theorem dz_M_text_148 : decode zm_M_text.2.1 148 = .ok (.getfield 79, 3) := by decide +kernel
theorem dz_M_text_151 : decode zm_M_text.2.1 151 = .ok (.isub, 1) := by decide +kernel
theorem dz_M_text_152 : decode zm_M_text.2.1 152 = .ok (.ireturn, 1) := by decide +kernel
theorem dz_M_text_153 : decode zm_M_text.2.1 153 = .ok (.iconst 0, 1) := by decide +kernel
theorem dz_M_text_154 : decode zm_M_text.2.1 154 = .ok (.istore_n 2, 1) := by decide +kernel
theorem dz_M_text_155 : decode zm_M_text.2.1 155 = .ok (.iload_n 2, 1) := by decide +kernel
theorem dz_M_text_156 : decode zm_M_text.2.1 156 = .ok (.bipush 28, 2) := by decide +kernel
theorem dz_M_text_158 : decode zm_M_text.2.1 158 = .ok (.if_icmp .ge 57, 3) := by decide +kernel
theorem dz_M_text_161 : decode zm_M_text.2.1 161 = .ok (.aload_n 0, 1) := by decide +kernel
theorem dz_M_text_162 : decode zm_M_text.2.1 162 = .ok (.getfield 7, 3) := by decide +kernel
theorem dz_M_text_165 : decode zm_M_text.2.1 165 = .ok (.iload_n 2, 1) := by decide +kernel
theorem dz_M_text_166 : decode zm_M_text.2.1 166 = .ok (.aload_n 0, 1) := by decide +kernel
theorem dz_M_text_167 : decode zm_M_text.2.1 167 = .ok (.getfield 19, 3) := by decide +kernel
theorem dz_M_text_170 : decode zm_M_text.2.1 170 = .ok (.iload_n 2, 1) := by decide +kernel
theorem dz_M_text_171 : decode zm_M_text.2.1 171 = .ok (.iaload, 1) := by decide +kernel
theorem dz_M_text_172 : decode zm_M_text.2.1 172 = .ok (.iastore, 1) := by decide +kernel
theorem dz_M_text_173 : decode zm_M_text.2.1 173 = .ok (.aload_n 0, 1) := by decide +kernel
theorem dz_M_text_174 : decode zm_M_text.2.1 174 = .ok (.getfield 13, 3) := by decide +kernel
theorem dz_M_text_177 : decode zm_M_text.2.1 177 = .ok (.iload_n 2, 1) := by decide +kernel
theorem dz_M_text_178 : decode zm_M_text.2.1 178 = .ok (.bipush 6, 2) := by decide +kernel
theorem dz_M_text_180 : decode zm_M_text.2.1 180 = .ok (.irem, 1) := by decide +kernel
theorem dz_M_text_181 : decode zm_M_text.2.1 181 = .ok (.aload_n 0, 1) := by decide +kernel
theorem dz_M_text_182 : decode zm_M_text.2.1 182 = .ok (.getfield 22, 3) := by decide +kernel
theorem dz_M_text_185 : decode zm_M_text.2.1 185 = .ok (.iload_n 2, 1) := by decide +kernel
theorem dz_M_text_186 : decode zm_M_text.2.1 186 = .ok (.bipush 6, 2) := by decide +kernel
theorem dz_M_text_188 : decode zm_M_text.2.1 188 = .ok (.irem, 1) := by decide +kernel
theorem dz_M_text_189 : decode zm_M_text.2.1 189 = .ok (.iaload, 1) := by decide +kernel
theorem dz_M_text_190 : decode zm_M_text.2.1 190 = .ok (.iastore, 1) := by decide +kernel
theorem dz_M_text_191 : decode zm_M_text.2.1 191 = .ok (.aload_n 0, 1) := by decide +kernel
theorem dz_M_text_192 : decode zm_M_text.2.1 192 = .ok (.getfield 16, 3) := by decide +kernel
theorem dz_M_text_195 : decode zm_M_text.2.1 195 = .ok (.iload_n 2, 1) := by decide +kernel
theorem dz_M_text_196 : decode zm_M_text.2.1 196 = .ok (.bipush 15, 2) := by decide +kernel
theorem dz_M_text_198 : decode zm_M_text.2.1 198 = .ok (.irem, 1) := by decide +kernel
theorem dz_M_text_199 : decode zm_M_text.2.1 199 = .ok (.aload_n 0, 1) := by decide +kernel
theorem dz_M_text_200 : decode zm_M_text.2.1 200 = .ok (.getfield 25, 3) := by decide +kernel
theorem dz_M_text_203 : decode zm_M_text.2.1 203 = .ok (.iload_n 2, 1) := by decide +kernel
theorem dz_M_text_204 : decode zm_M_text.2.1 204 = .ok (.bipush 15, 2) := by decide +kernel
theorem dz_M_text_206 : decode zm_M_text.2.1 206 = .ok (.irem, 1) := by decide +kernel
theorem dz_M_text_207 : decode zm_M_text.2.1 207 = .ok (.iaload, 1) := by decide +kernel
theorem dz_M_text_208 : decode zm_M_text.2.1 208 = .ok (.iastore, 1) := by decide +kernel
theorem dz_M_text_209 : decode zm_M_text.2.1 209 = .ok (.iinc 2 1, 3) := by decide +kernel
theorem dz_M_text_212 : decode zm_M_text.2.1 212 = .ok (.goto (-57), 3) := by decide +kernel
theorem dz_M_text_215 : decode zm_M_text.2.1 215 = .ok (.aload_n 0, 1) := by decide +kernel
theorem dz_M_text_216 : decode zm_M_text.2.1 216 = .ok (.aload_n 0, 1) := by decide +kernel
theorem dz_M_text_217 : decode zm_M_text.2.1 217 = .ok (.getfield 134, 3) := by decide +kernel
theorem dz_M_text_220 : decode zm_M_text.2.1 220 = .ok (.putfield 158, 3) := by decide +kernel
theorem dz_M_text_223 : decode zm_M_text.2.1 223 = .ok (.aload_n 0, 1) := by decide +kernel
theorem dz_M_text_224 : decode zm_M_text.2.1 224 = .ok (.aload_n 0, 1) := by decide +kernel
theorem dz_M_text_225 : decode zm_M_text.2.1 225 = .ok (.getfield 125, 3) := by decide +kernel
theorem dz_M_text_228 : decode zm_M_text.2.1 228 = .ok (.putfield 161, 3) := by decide +kernel
theorem dz_M_text_231 : decode zm_M_text.2.1 231 = .ok (.aload_n 0, 1) := by decide +kernel
theorem dz_M_text_232 : decode zm_M_text.2.1 232 = .ok (.iconst 0, 1) := by decide +kernel
theorem dz_M_text_233 : decode zm_M_text.2.1 233 = .ok (.putfield 164, 3) := by decide +kernel
theorem dz_M_text_236 : decode zm_M_text.2.1 236 = .ok (.aload_n 0, 1) := by decide +kernel
theorem dz_M_text_237 : decode zm_M_text.2.1 237 = .ok (.getfield 50, 3) := by decide +kernel
theorem dz_M_text_240 : decode zm_M_text.2.1 240 = .ok (.iconst 0, 1) := by decide +kernel
theorem dz_M_text_241 : decode zm_M_text.2.1 241 = .ok (.iconst 0, 1) := by decide +kernel
theorem dz_M_text_242 : decode zm_M_text.2.1 242 = .ok (.bastore, 1) := by decide +kernel
theorem dz_M_text_243 : decode zm_M_text.2.1 243 = .ok (.aload_n 0, 1) := by decide +kernel
theorem dz_M_text_244 : decode zm_M_text.2.1 244 = .ok (.getfield 50, 3) := by decide +kernel
theorem dz_M_text_247 : decode zm_M_text.2.1 247 = .ok (.iconst 1, 1) := by decide +kernel
theorem dz_M_text_248 : decode zm_M_text.2.1 248 = .ok (.iconst 0, 1) := by decide +kernel
theorem dz_M_text_249 : decode zm_M_text.2.1 249 = .ok (.bastore, 1) := by decide +kernel
theorem dz_M_text_250 : decode zm_M_text.2.1 250 = .ok (.iload_n 1, 1) := by decide +kernel
theorem dz_M_text_251 : decode zm_M_text.2.1 251 = .ok (.ireturn, 1) := by decide +kernel
theorem dz_M_fault_0 : decode zm_M_fault.2.1 0 = .ok (.aload_n 0, 1) := by decide +kernel
theorem dz_M_fault_1 : decode zm_M_fault.2.1 1 = .ok (.getfield 155, 3) := by decide +kernel
theorem dz_M_fault_4 : decode zm_M_fault.2.1 4 = .ok (.ireturn, 1) := by decide +kernel
theorem dz_M_isOne_0 : decode zm_M_isOne.2.1 0 = .ok (.iload_n 1, 1) := by decide +kernel
theorem dz_M_isOne_1 : decode zm_M_isOne.2.1 1 = .ok (.i2l, 1) := by decide +kernel
theorem dz_M_isOne_2 : decode zm_M_isOne.2.1 2 = .ok (.lconst 0, 1) := by decide +kernel
theorem dz_M_isOne_3 : decode zm_M_isOne.2.1 3 = .ok (.aload_n 0, 1) := by decide +kernel
theorem dz_M_isOne_4 : decode zm_M_isOne.2.1 4 = .ok (.getfield 158, 3) := by decide +kernel
theorem dz_M_isOne_7 : decode zm_M_isOne.2.1 7 = .ok (.iconst 1, 1) := by decide +kernel
theorem dz_M_isOne_8 : decode zm_M_isOne.2.1 8 = .ok (.isub, 1) := by decide +kernel
theorem dz_M_isOne_9 : decode zm_M_isOne.2.1 9 = .ok (.i2l, 1) := by decide +kernel
theorem dz_M_isOne_10 : decode zm_M_isOne.2.1 10 = .ok (.invokestatic 65, 3) := by decide +kernel
theorem dz_M_isOne_13 : decode zm_M_isOne.2.1 13 = .ok (.ireturn, 1) := by decide +kernel
theorem dz_M_isRule_0 : decode zm_M_isRule.2.1 0 = .ok (.iload_n 1, 1) := by decide +kernel
theorem dz_M_isRule_1 : decode zm_M_isRule.2.1 1 = .ok (.i2l, 1) := by decide +kernel
theorem dz_M_isRule_2 : decode zm_M_isRule.2.1 2 = .ok (.lconst 0, 1) := by decide +kernel
theorem dz_M_isRule_3 : decode zm_M_isRule.2.1 3 = .ok (.aload_n 0, 1) := by decide +kernel
theorem dz_M_isRule_4 : decode zm_M_isRule.2.1 4 = .ok (.getfield 161, 3) := by decide +kernel
theorem dz_M_isRule_7 : decode zm_M_isRule.2.1 7 = .ok (.iconst 1, 1) := by decide +kernel
theorem dz_M_isRule_8 : decode zm_M_isRule.2.1 8 = .ok (.isub, 1) := by decide +kernel
theorem dz_M_isRule_9 : decode zm_M_isRule.2.1 9 = .ok (.i2l, 1) := by decide +kernel
theorem dz_M_isRule_10 : decode zm_M_isRule.2.1 10 = .ok (.invokestatic 65, 3) := by decide +kernel
theorem dz_M_isRule_13 : decode zm_M_isRule.2.1 13 = .ok (.ireturn, 1) := by decide +kernel
theorem dz_M_isThing_0 : decode zm_M_isThing.2.1 0 = .ok (.iload_n 0, 1) := by decide +kernel
theorem dz_M_isThing_1 : decode zm_M_isThing.2.1 1 = .ok (.i2l, 1) := by decide +kernel
theorem dz_M_isThing_2 : decode zm_M_isThing.2.1 2 = .ok (.lconst 0, 1) := by decide +kernel
theorem dz_M_isThing_3 : decode zm_M_isThing.2.1 3 = .ok (.ldc2_w 167, 3) := by decide +kernel
theorem dz_M_isThing_6 : decode zm_M_isThing.2.1 6 = .ok (.invokestatic 65, 3) := by decide +kernel
theorem dz_M_isThing_9 : decode zm_M_isThing.2.1 9 = .ok (.ireturn, 1) := by decide +kernel
theorem dz_M_isFact_0 : decode zm_M_isFact.2.1 0 = .ok (.iload_n 0, 1) := by decide +kernel
theorem dz_M_isFact_1 : decode zm_M_isFact.2.1 1 = .ok (.i2l, 1) := by decide +kernel
theorem dz_M_isFact_2 : decode zm_M_isFact.2.1 2 = .ok (.lconst 0, 1) := by decide +kernel
theorem dz_M_isFact_3 : decode zm_M_isFact.2.1 3 = .ok (.ldc2_w 143, 3) := by decide +kernel
theorem dz_M_isFact_6 : decode zm_M_isFact.2.1 6 = .ok (.invokestatic 65, 3) := by decide +kernel
theorem dz_M_isFact_9 : decode zm_M_isFact.2.1 9 = .ok (.ireturn, 1) := by decide +kernel
theorem dz_M_isThere_0 : decode zm_M_isThere.2.1 0 = .ok (.iload_n 1, 1) := by decide +kernel
theorem dz_M_isThere_1 : decode zm_M_isThere.2.1 1 = .ok (.iload_n 0, 1) := by decide +kernel
theorem dz_M_isThere_2 : decode zm_M_isThere.2.1 2 = .ok (.ishr, 1) := by decide +kernel
theorem dz_M_isThere_3 : decode zm_M_isThere.2.1 3 = .ok (.iconst 1, 1) := by decide +kernel
theorem dz_M_isThere_4 : decode zm_M_isThere.2.1 4 = .ok (.iand, 1) := by decide +kernel
theorem dz_M_isThere_5 : decode zm_M_isThere.2.1 5 = .ok (.ifCond .ne 7, 3) := by decide +kernel
theorem dz_M_isThere_8 : decode zm_M_isThere.2.1 8 = .ok (.iconst 1, 1) := by decide +kernel
theorem dz_M_isThere_9 : decode zm_M_isThere.2.1 9 = .ok (.goto 4, 3) := by decide +kernel
theorem dz_M_isThere_12 : decode zm_M_isThere.2.1 12 = .ok (.iconst 0, 1) := by decide +kernel
theorem dz_M_isThere_13 : decode zm_M_isThere.2.1 13 = .ok (.ireturn, 1) := by decide +kernel
theorem dz_M_rule_0 : decode zm_M_rule.2.1 0 = .ok (.iload_n 1, 1) := by decide +kernel
theorem dz_M_rule_1 : decode zm_M_rule.2.1 1 = .ok (.ifCond .ne 10, 3) := by decide +kernel
theorem dz_M_rule_4 : decode zm_M_rule.2.1 4 = .ok (.aload_n 0, 1) := by decide +kernel
theorem dz_M_rule_5 : decode zm_M_rule.2.1 5 = .ok (.getfield 158, 3) := by decide +kernel
theorem dz_M_rule_8 : decode zm_M_rule.2.1 8 = .ok (.goto 31, 3) := by decide +kernel
theorem dz_M_rule_11 : decode zm_M_rule.2.1 11 = .ok (.iload_n 1, 1) := by decide +kernel
theorem dz_M_rule_12 : decode zm_M_rule.2.1 12 = .ok (.iconst 1, 1) := by decide +kernel
theorem dz_M_rule_13 : decode zm_M_rule.2.1 13 = .ok (.if_icmp .ne 10, 3) := by decide +kernel
theorem dz_M_rule_16 : decode zm_M_rule.2.1 16 = .ok (.aload_n 0, 1) := by decide +kernel
theorem dz_M_rule_17 : decode zm_M_rule.2.1 17 = .ok (.getfield 161, 3) := by decide +kernel
theorem dz_M_rule_20 : decode zm_M_rule.2.1 20 = .ok (.goto 19, 3) := by decide +kernel
theorem dz_M_rule_23 : decode zm_M_rule.2.1 23 = .ok (.iload_n 1, 1) := by decide +kernel
theorem dz_M_rule_24 : decode zm_M_rule.2.1 24 = .ok (.iconst 2, 1) := by decide +kernel
theorem dz_M_rule_25 : decode zm_M_rule.2.1 25 = .ok (.if_icmp .ne 13, 3) := by decide +kernel
theorem dz_M_rule_28 : decode zm_M_rule.2.1 28 = .ok (.aload_n 0, 1) := by decide +kernel
theorem dz_M_rule_29 : decode zm_M_rule.2.1 29 = .ok (.getfield 7, 3) := by decide +kernel
theorem dz_M_rule_32 : decode zm_M_rule.2.1 32 = .ok (.bipush 12, 2) := by decide +kernel
theorem dz_M_rule_34 : decode zm_M_rule.2.1 34 = .ok (.iaload, 1) := by decide +kernel
theorem dz_M_rule_35 : decode zm_M_rule.2.1 35 = .ok (.goto 4, 3) := by decide +kernel
theorem dz_M_rule_38 : decode zm_M_rule.2.1 38 = .ok (.iconst (-1), 1) := by decide +kernel
theorem dz_M_rule_39 : decode zm_M_rule.2.1 39 = .ok (.ireturn, 1) := by decide +kernel
theorem dz_M_bornAs_0 : decode zm_M_bornAs.2.1 0 = .ok (.iload_n 1, 1) := by decide +kernel
theorem dz_M_bornAs_1 : decode zm_M_bornAs.2.1 1 = .ok (.iload_n 2, 1) := by decide +kernel
theorem dz_M_bornAs_2 : decode zm_M_bornAs.2.1 2 = .ok (.invokestatic 169, 3) := by decide +kernel
theorem dz_M_bornAs_5 : decode zm_M_bornAs.2.1 5 = .ok (.ifCond .eq 7, 3) := by decide +kernel
theorem dz_M_bornAs_8 : decode zm_M_bornAs.2.1 8 = .ok (.iconst 1, 1) := by decide +kernel
theorem dz_M_bornAs_9 : decode zm_M_bornAs.2.1 9 = .ok (.goto 4, 3) := by decide +kernel
theorem dz_M_bornAs_12 : decode zm_M_bornAs.2.1 12 = .ok (.iconst 0, 1) := by decide +kernel
theorem dz_M_bornAs_13 : decode zm_M_bornAs.2.1 13 = .ok (.istore_n 3, 1) := by decide +kernel
theorem dz_M_bornAs_14 : decode zm_M_bornAs.2.1 14 = .ok (.iconst 0, 1) := by decide +kernel
theorem dz_M_bornAs_15 : decode zm_M_bornAs.2.1 15 = .ok (.istore 4, 2) := by decide +kernel
theorem dz_M_bornAs_17 : decode zm_M_bornAs.2.1 17 = .ok (.iload 4, 2) := by decide +kernel
theorem dz_M_bornAs_19 : decode zm_M_bornAs.2.1 19 = .ok (.iload_n 1, 1) := by decide +kernel
theorem dz_M_bornAs_20 : decode zm_M_bornAs.2.1 20 = .ok (.if_icmp .ge 46, 3) := by decide +kernel
theorem dz_M_bornAs_23 : decode zm_M_bornAs.2.1 23 = .ok (.iload_n 3, 1) := by decide +kernel
theorem dz_M_bornAs_24 : decode zm_M_bornAs.2.1 24 = .ok (.iload_n 3, 1) := by decide +kernel
theorem dz_M_bornAs_25 : decode zm_M_bornAs.2.1 25 = .ok (.ifCond .le 32, 3) := by decide +kernel
theorem dz_M_bornAs_28 : decode zm_M_bornAs.2.1 28 = .ok (.aload_n 0, 1) := by decide +kernel
theorem dz_M_bornAs_29 : decode zm_M_bornAs.2.1 29 = .ok (.getfield 13, 3) := by decide +kernel
theorem dz_M_bornAs_32 : decode zm_M_bornAs.2.1 32 = .ok (.iload 4, 2) := by decide +kernel
theorem dz_M_bornAs_34 : decode zm_M_bornAs.2.1 34 = .ok (.iaload, 1) := by decide +kernel
theorem dz_M_bornAs_35 : decode zm_M_bornAs.2.1 35 = .ok (.aload_n 0, 1) := by decide +kernel
theorem dz_M_bornAs_36 : decode zm_M_bornAs.2.1 36 = .ok (.getfield 13, 3) := by decide +kernel
theorem dz_M_bornAs_39 : decode zm_M_bornAs.2.1 39 = .ok (.iload_n 1, 1) := by decide +kernel
theorem dz_M_bornAs_40 : decode zm_M_bornAs.2.1 40 = .ok (.iaload, 1) := by decide +kernel
theorem dz_M_bornAs_41 : decode zm_M_bornAs.2.1 41 = .ok (.if_icmp .ne 16, 3) := by decide +kernel
theorem dz_M_bornAs_44 : decode zm_M_bornAs.2.1 44 = .ok (.iload 4, 2) := by decide +kernel
theorem dz_M_bornAs_46 : decode zm_M_bornAs.2.1 46 = .ok (.iload_n 2, 1) := by decide +kernel
theorem dz_M_bornAs_47 : decode zm_M_bornAs.2.1 47 = .ok (.invokestatic 169, 3) := by decide +kernel
theorem dz_M_bornAs_50 : decode zm_M_bornAs.2.1 50 = .ok (.ifCond .eq 7, 3) := by decide +kernel
theorem dz_M_bornAs_53 : decode zm_M_bornAs.2.1 53 = .ok (.iconst 1, 1) := by decide +kernel
theorem dz_M_bornAs_54 : decode zm_M_bornAs.2.1 54 = .ok (.goto 4, 3) := by decide +kernel
theorem dz_M_bornAs_57 : decode zm_M_bornAs.2.1 57 = .ok (.iconst 0, 1) := by decide +kernel
theorem dz_M_bornAs_58 : decode zm_M_bornAs.2.1 58 = .ok (.iadd, 1) := by decide +kernel
theorem dz_M_bornAs_59 : decode zm_M_bornAs.2.1 59 = .ok (.istore_n 3, 1) := by decide +kernel
theorem dz_M_bornAs_60 : decode zm_M_bornAs.2.1 60 = .ok (.iinc 4 1, 3) := by decide +kernel
theorem dz_M_bornAs_63 : decode zm_M_bornAs.2.1 63 = .ok (.goto (-46), 3) := by decide +kernel
theorem dz_M_bornAs_66 : decode zm_M_bornAs.2.1 66 = .ok (.iload_n 3, 1) := by decide +kernel
theorem dz_M_bornAs_67 : decode zm_M_bornAs.2.1 67 = .ok (.ireturn, 1) := by decide +kernel
theorem dz_M_childrenOf_0 : decode zm_M_childrenOf.2.1 0 = .ok (.iconst 0, 1) := by decide +kernel
theorem dz_M_childrenOf_1 : decode zm_M_childrenOf.2.1 1 = .ok (.istore_n 3, 1) := by decide +kernel
theorem dz_M_childrenOf_2 : decode zm_M_childrenOf.2.1 2 = .ok (.iconst 0, 1) := by decide +kernel
theorem dz_M_childrenOf_3 : decode zm_M_childrenOf.2.1 3 = .ok (.istore 4, 2) := by decide +kernel
theorem dz_M_childrenOf_5 : decode zm_M_childrenOf.2.1 5 = .ok (.iload 4, 2) := by decide +kernel
theorem dz_M_childrenOf_7 : decode zm_M_childrenOf.2.1 7 = .ok (.aload_n 0, 1) := by decide +kernel
theorem dz_M_childrenOf_8 : decode zm_M_childrenOf.2.1 8 = .ok (.getfield 158, 3) := by decide +kernel
theorem dz_M_childrenOf_11 : decode zm_M_childrenOf.2.1 11 = .ok (.if_icmp .ge 39, 3) := by decide +kernel
theorem dz_M_childrenOf_14 : decode zm_M_childrenOf.2.1 14 = .ok (.iload_n 3, 1) := by decide +kernel
theorem dz_M_childrenOf_15 : decode zm_M_childrenOf.2.1 15 = .ok (.aload_n 0, 1) := by decide +kernel
theorem dz_M_childrenOf_16 : decode zm_M_childrenOf.2.1 16 = .ok (.getfield 13, 3) := by decide +kernel
theorem dz_M_childrenOf_19 : decode zm_M_childrenOf.2.1 19 = .ok (.iload 4, 2) := by decide +kernel
theorem dz_M_childrenOf_21 : decode zm_M_childrenOf.2.1 21 = .ok (.iaload, 1) := by decide +kernel
theorem dz_M_childrenOf_22 : decode zm_M_childrenOf.2.1 22 = .ok (.iload_n 1, 1) := by decide +kernel
theorem dz_M_childrenOf_23 : decode zm_M_childrenOf.2.1 23 = .ok (.iconst 1, 1) := by decide +kernel
theorem dz_M_childrenOf_24 : decode zm_M_childrenOf.2.1 24 = .ok (.iadd, 1) := by decide +kernel
theorem dz_M_childrenOf_25 : decode zm_M_childrenOf.2.1 25 = .ok (.if_icmp .ne 16, 3) := by decide +kernel
theorem dz_M_childrenOf_28 : decode zm_M_childrenOf.2.1 28 = .ok (.iload 4, 2) := by decide +kernel
theorem dz_M_childrenOf_30 : decode zm_M_childrenOf.2.1 30 = .ok (.iload_n 2, 1) := by decide +kernel
theorem dz_M_childrenOf_31 : decode zm_M_childrenOf.2.1 31 = .ok (.invokestatic 169, 3) := by decide +kernel
theorem dz_M_childrenOf_34 : decode zm_M_childrenOf.2.1 34 = .ok (.ifCond .eq 7, 3) := by decide +kernel
theorem dz_M_childrenOf_37 : decode zm_M_childrenOf.2.1 37 = .ok (.iconst 1, 1) := by decide +kernel
theorem dz_M_childrenOf_38 : decode zm_M_childrenOf.2.1 38 = .ok (.goto 4, 3) := by decide +kernel
theorem dz_M_childrenOf_41 : decode zm_M_childrenOf.2.1 41 = .ok (.iconst 0, 1) := by decide +kernel
theorem dz_M_childrenOf_42 : decode zm_M_childrenOf.2.1 42 = .ok (.iadd, 1) := by decide +kernel
theorem dz_M_childrenOf_43 : decode zm_M_childrenOf.2.1 43 = .ok (.istore_n 3, 1) := by decide +kernel
theorem dz_M_childrenOf_44 : decode zm_M_childrenOf.2.1 44 = .ok (.iinc 4 1, 3) := by decide +kernel
theorem dz_M_childrenOf_47 : decode zm_M_childrenOf.2.1 47 = .ok (.goto (-42), 3) := by decide +kernel
theorem dz_M_childrenOf_50 : decode zm_M_childrenOf.2.1 50 = .ok (.iload_n 3, 1) := by decide +kernel
theorem dz_M_childrenOf_51 : decode zm_M_childrenOf.2.1 51 = .ok (.ireturn, 1) := by decide +kernel
theorem dz_M_isAbove_0 : decode zm_M_isAbove.2.1 0 = .ok (.aload_n 0, 1) := by decide +kernel
theorem dz_M_isAbove_1 : decode zm_M_isAbove.2.1 1 = .ok (.getfield 13, 3) := by decide +kernel
theorem dz_M_isAbove_4 : decode zm_M_isAbove.2.1 4 = .ok (.iload_n 2, 1) := by decide +kernel
theorem dz_M_isAbove_5 : decode zm_M_isAbove.2.1 5 = .ok (.iaload, 1) := by decide +kernel
theorem dz_M_isAbove_6 : decode zm_M_isAbove.2.1 6 = .ok (.istore_n 3, 1) := by decide +kernel
theorem dz_M_isAbove_7 : decode zm_M_isAbove.2.1 7 = .ok (.iload_n 3, 1) := by decide +kernel
theorem dz_M_isAbove_8 : decode zm_M_isAbove.2.1 8 = .ok (.ifCond .le 22, 3) := by decide +kernel
theorem dz_M_isAbove_11 : decode zm_M_isAbove.2.1 11 = .ok (.iload_n 3, 1) := by decide +kernel
theorem dz_M_isAbove_12 : decode zm_M_isAbove.2.1 12 = .ok (.iload_n 1, 1) := by decide +kernel
theorem dz_M_isAbove_13 : decode zm_M_isAbove.2.1 13 = .ok (.iconst 1, 1) := by decide +kernel
theorem dz_M_isAbove_14 : decode zm_M_isAbove.2.1 14 = .ok (.iadd, 1) := by decide +kernel
theorem dz_M_isAbove_15 : decode zm_M_isAbove.2.1 15 = .ok (.if_icmp .eq 15, 3) := by decide +kernel
theorem dz_M_isAbove_18 : decode zm_M_isAbove.2.1 18 = .ok (.aload_n 0, 1) := by decide +kernel
theorem dz_M_isAbove_19 : decode zm_M_isAbove.2.1 19 = .ok (.getfield 13, 3) := by decide +kernel
theorem dz_M_isAbove_22 : decode zm_M_isAbove.2.1 22 = .ok (.iload_n 3, 1) := by decide +kernel
theorem dz_M_isAbove_23 : decode zm_M_isAbove.2.1 23 = .ok (.iconst 1, 1) := by decide +kernel
theorem dz_M_isAbove_24 : decode zm_M_isAbove.2.1 24 = .ok (.isub, 1) := by decide +kernel
theorem dz_M_isAbove_25 : decode zm_M_isAbove.2.1 25 = .ok (.iaload, 1) := by decide +kernel
theorem dz_M_isAbove_26 : decode zm_M_isAbove.2.1 26 = .ok (.istore_n 3, 1) := by decide +kernel
theorem dz_M_isAbove_27 : decode zm_M_isAbove.2.1 27 = .ok (.goto (-20), 3) := by decide +kernel
theorem dz_M_isAbove_30 : decode zm_M_isAbove.2.1 30 = .ok (.iload_n 3, 1) := by decide +kernel
theorem dz_M_isAbove_31 : decode zm_M_isAbove.2.1 31 = .ok (.ifCond .le 7, 3) := by decide +kernel
theorem dz_M_isAbove_34 : decode zm_M_isAbove.2.1 34 = .ok (.iconst 1, 1) := by decide +kernel
theorem dz_M_isAbove_35 : decode zm_M_isAbove.2.1 35 = .ok (.goto 4, 3) := by decide +kernel
theorem dz_M_isAbove_38 : decode zm_M_isAbove.2.1 38 = .ok (.iconst 0, 1) := by decide +kernel
theorem dz_M_isAbove_39 : decode zm_M_isAbove.2.1 39 = .ok (.ireturn, 1) := by decide +kernel
theorem dz_M_meets_0 : decode zm_M_meets.2.1 0 = .ok (.aload_n 0, 1) := by decide +kernel
theorem dz_M_meets_1 : decode zm_M_meets.2.1 1 = .ok (.getfield 16, 3) := by decide +kernel
theorem dz_M_meets_4 : decode zm_M_meets.2.1 4 = .ok (.iconst 3, 1) := by decide +kernel
theorem dz_M_meets_5 : decode zm_M_meets.2.1 5 = .ok (.iload_n 1, 1) := by decide +kernel
theorem dz_M_meets_6 : decode zm_M_meets.2.1 6 = .ok (.imul, 1) := by decide +kernel
theorem dz_M_meets_7 : decode zm_M_meets.2.1 7 = .ok (.iconst 2, 1) := by decide +kernel
theorem dz_M_meets_8 : decode zm_M_meets.2.1 8 = .ok (.iadd, 1) := by decide +kernel
theorem dz_M_meets_9 : decode zm_M_meets.2.1 9 = .ok (.iaload, 1) := by decide +kernel
theorem dz_M_meets_10 : decode zm_M_meets.2.1 10 = .ok (.istore 4, 2) := by decide +kernel
theorem dz_M_meets_12 : decode zm_M_meets.2.1 12 = .ok (.iload_n 2, 1) := by decide +kernel
theorem dz_M_meets_13 : decode zm_M_meets.2.1 13 = .ok (.iload_n 3, 1) := by decide +kernel
theorem dz_M_meets_14 : decode zm_M_meets.2.1 14 = .ok (.invokestatic 169, 3) := by decide +kernel
theorem dz_M_meets_17 : decode zm_M_meets.2.1 17 = .ok (.ifCond .ne 5, 3) := by decide +kernel
theorem dz_M_meets_20 : decode zm_M_meets.2.1 20 = .ok (.iconst 0, 1) := by decide +kernel
theorem dz_M_meets_21 : decode zm_M_meets.2.1 21 = .ok (.ireturn, 1) := by decide +kernel
theorem dz_M_meets_22 : decode zm_M_meets.2.1 22 = .ok (.aload_n 0, 1) := by decide +kernel
theorem dz_M_meets_23 : decode zm_M_meets.2.1 23 = .ok (.getfield 16, 3) := by decide +kernel
theorem dz_M_meets_26 : decode zm_M_meets.2.1 26 = .ok (.iconst 3, 1) := by decide +kernel
theorem dz_M_meets_27 : decode zm_M_meets.2.1 27 = .ok (.iload_n 1, 1) := by decide +kernel
theorem dz_M_meets_28 : decode zm_M_meets.2.1 28 = .ok (.imul, 1) := by decide +kernel
theorem dz_M_meets_29 : decode zm_M_meets.2.1 29 = .ok (.iconst 1, 1) := by decide +kernel
theorem dz_M_meets_30 : decode zm_M_meets.2.1 30 = .ok (.iadd, 1) := by decide +kernel
theorem dz_M_meets_31 : decode zm_M_meets.2.1 31 = .ok (.iaload, 1) := by decide +kernel
theorem dz_M_meets_32 : decode zm_M_meets.2.1 32 = .ok (.tableswitch 104 0 4 #[36, 38, 55, 76, 96], 36) := by decide +kernel
theorem dz_M_meets_68 : decode zm_M_meets.2.1 68 = .ok (.iconst 1, 1) := by decide +kernel
theorem dz_M_meets_69 : decode zm_M_meets.2.1 69 = .ok (.ireturn, 1) := by decide +kernel
theorem dz_M_meets_70 : decode zm_M_meets.2.1 70 = .ok (.aload_n 0, 1) := by decide +kernel
theorem dz_M_meets_71 : decode zm_M_meets.2.1 71 = .ok (.iload_n 2, 1) := by decide +kernel
theorem dz_M_meets_72 : decode zm_M_meets.2.1 72 = .ok (.iload_n 3, 1) := by decide +kernel
theorem dz_M_meets_73 : decode zm_M_meets.2.1 73 = .ok (.invokevirtual 173, 3) := by decide +kernel
theorem dz_M_meets_76 : decode zm_M_meets.2.1 76 = .ok (.iload 4, 2) := by decide +kernel
theorem dz_M_meets_78 : decode zm_M_meets.2.1 78 = .ok (.if_icmp .ne 7, 3) := by decide +kernel
theorem dz_M_meets_81 : decode zm_M_meets.2.1 81 = .ok (.iconst 1, 1) := by decide +kernel
theorem dz_M_meets_82 : decode zm_M_meets.2.1 82 = .ok (.goto 4, 3) := by decide +kernel
theorem dz_M_meets_85 : decode zm_M_meets.2.1 85 = .ok (.iconst 0, 1) := by decide +kernel
theorem dz_M_meets_86 : decode zm_M_meets.2.1 86 = .ok (.ireturn, 1) := by decide +kernel
theorem dz_M_meets_87 : decode zm_M_meets.2.1 87 = .ok (.aload_n 0, 1) := by decide +kernel
theorem dz_M_meets_88 : decode zm_M_meets.2.1 88 = .ok (.getfield 7, 3) := by decide +kernel
theorem dz_M_meets_91 : decode zm_M_meets.2.1 91 = .ok (.iload_n 2, 1) := by decide +kernel
theorem dz_M_meets_92 : decode zm_M_meets.2.1 92 = .ok (.iaload, 1) := by decide +kernel
theorem dz_M_meets_93 : decode zm_M_meets.2.1 93 = .ok (.iload 4, 2) := by decide +kernel
theorem dz_M_meets_95 : decode zm_M_meets.2.1 95 = .ok (.ishr, 1) := by decide +kernel
theorem dz_M_meets_96 : decode zm_M_meets.2.1 96 = .ok (.iconst 1, 1) := by decide +kernel
theorem dz_M_meets_97 : decode zm_M_meets.2.1 97 = .ok (.iand, 1) := by decide +kernel
theorem dz_M_meets_98 : decode zm_M_meets.2.1 98 = .ok (.iconst 1, 1) := by decide +kernel
theorem dz_M_meets_99 : decode zm_M_meets.2.1 99 = .ok (.if_icmp .ne 7, 3) := by decide +kernel
theorem dz_M_meets_102 : decode zm_M_meets.2.1 102 = .ok (.iconst 1, 1) := by decide +kernel
theorem dz_M_meets_103 : decode zm_M_meets.2.1 103 = .ok (.goto 4, 3) := by decide +kernel
theorem dz_M_meets_106 : decode zm_M_meets.2.1 106 = .ok (.iconst 0, 1) := by decide +kernel
theorem dz_M_meets_107 : decode zm_M_meets.2.1 107 = .ok (.ireturn, 1) := by decide +kernel
theorem dz_M_meets_108 : decode zm_M_meets.2.1 108 = .ok (.aload_n 0, 1) := by decide +kernel
theorem dz_M_meets_109 : decode zm_M_meets.2.1 109 = .ok (.getfield 7, 3) := by decide +kernel
theorem dz_M_meets_112 : decode zm_M_meets.2.1 112 = .ok (.bipush 6, 2) := by decide +kernel
theorem dz_M_meets_114 : decode zm_M_meets.2.1 114 = .ok (.iload_n 2, 1) := by decide +kernel
theorem dz_M_meets_115 : decode zm_M_meets.2.1 115 = .ok (.iadd, 1) := by decide +kernel
theorem dz_M_meets_116 : decode zm_M_meets.2.1 116 = .ok (.iaload, 1) := by decide +kernel
theorem dz_M_meets_117 : decode zm_M_meets.2.1 117 = .ok (.iload 4, 2) := by decide +kernel
theorem dz_M_meets_119 : decode zm_M_meets.2.1 119 = .ok (.if_icmp .lt 7, 3) := by decide +kernel
theorem dz_M_meets_122 : decode zm_M_meets.2.1 122 = .ok (.iconst 1, 1) := by decide +kernel
theorem dz_M_meets_123 : decode zm_M_meets.2.1 123 = .ok (.goto 4, 3) := by decide +kernel
theorem dz_M_meets_126 : decode zm_M_meets.2.1 126 = .ok (.iconst 0, 1) := by decide +kernel
theorem dz_M_meets_127 : decode zm_M_meets.2.1 127 = .ok (.ireturn, 1) := by decide +kernel
theorem dz_M_meets_128 : decode zm_M_meets.2.1 128 = .ok (.aload_n 0, 1) := by decide +kernel
theorem dz_M_meets_129 : decode zm_M_meets.2.1 129 = .ok (.iload 4, 2) := by decide +kernel
theorem dz_M_meets_131 : decode zm_M_meets.2.1 131 = .ok (.iload_n 2, 1) := by decide +kernel
theorem dz_M_meets_132 : decode zm_M_meets.2.1 132 = .ok (.invokevirtual 177, 3) := by decide +kernel
theorem dz_M_meets_135 : decode zm_M_meets.2.1 135 = .ok (.ireturn, 1) := by decide +kernel
theorem dz_M_meets_136 : decode zm_M_meets.2.1 136 = .ok (.aload_n 0, 1) := by decide +kernel
theorem dz_M_meets_137 : decode zm_M_meets.2.1 137 = .ok (.iload_n 2, 1) := by decide +kernel
theorem dz_M_meets_138 : decode zm_M_meets.2.1 138 = .ok (.iload_n 3, 1) := by decide +kernel
theorem dz_M_meets_139 : decode zm_M_meets.2.1 139 = .ok (.invokevirtual 180, 3) := by decide +kernel
theorem dz_M_meets_142 : decode zm_M_meets.2.1 142 = .ok (.iload 4, 2) := by decide +kernel
theorem dz_M_meets_144 : decode zm_M_meets.2.1 144 = .ok (.if_icmp .ne 7, 3) := by decide +kernel
theorem dz_M_meets_147 : decode zm_M_meets.2.1 147 = .ok (.iconst 1, 1) := by decide +kernel
theorem dz_M_meets_148 : decode zm_M_meets.2.1 148 = .ok (.goto 4, 3) := by decide +kernel
theorem dz_M_meets_151 : decode zm_M_meets.2.1 151 = .ok (.iconst 0, 1) := by decide +kernel
theorem dz_M_meets_152 : decode zm_M_meets.2.1 152 = .ok (.ireturn, 1) := by decide +kernel
theorem dz_M_whoMeet_0 : decode zm_M_whoMeet.2.1 0 = .ok (.iconst 0, 1) := by decide +kernel
theorem dz_M_whoMeet_1 : decode zm_M_whoMeet.2.1 1 = .ok (.istore_n 3, 1) := by decide +kernel
theorem dz_M_whoMeet_2 : decode zm_M_whoMeet.2.1 2 = .ok (.iconst 0, 1) := by decide +kernel
theorem dz_M_whoMeet_3 : decode zm_M_whoMeet.2.1 3 = .ok (.istore 4, 2) := by decide +kernel
theorem dz_M_whoMeet_5 : decode zm_M_whoMeet.2.1 5 = .ok (.iload 4, 2) := by decide +kernel
theorem dz_M_whoMeet_7 : decode zm_M_whoMeet.2.1 7 = .ok (.aload_n 0, 1) := by decide +kernel
theorem dz_M_whoMeet_8 : decode zm_M_whoMeet.2.1 8 = .ok (.getfield 158, 3) := by decide +kernel
theorem dz_M_whoMeet_11 : decode zm_M_whoMeet.2.1 11 = .ok (.if_icmp .ge 31, 3) := by decide +kernel
theorem dz_M_whoMeet_14 : decode zm_M_whoMeet.2.1 14 = .ok (.iload_n 3, 1) := by decide +kernel
theorem dz_M_whoMeet_15 : decode zm_M_whoMeet.2.1 15 = .ok (.aload_n 0, 1) := by decide +kernel
theorem dz_M_whoMeet_16 : decode zm_M_whoMeet.2.1 16 = .ok (.iload_n 1, 1) := by decide +kernel
theorem dz_M_whoMeet_17 : decode zm_M_whoMeet.2.1 17 = .ok (.iload 4, 2) := by decide +kernel
theorem dz_M_whoMeet_19 : decode zm_M_whoMeet.2.1 19 = .ok (.iload_n 2, 1) := by decide +kernel
theorem dz_M_whoMeet_20 : decode zm_M_whoMeet.2.1 20 = .ok (.invokevirtual 183, 3) := by decide +kernel
theorem dz_M_whoMeet_23 : decode zm_M_whoMeet.2.1 23 = .ok (.ifCond .eq 10, 3) := by decide +kernel
theorem dz_M_whoMeet_26 : decode zm_M_whoMeet.2.1 26 = .ok (.iconst 1, 1) := by decide +kernel
theorem dz_M_whoMeet_27 : decode zm_M_whoMeet.2.1 27 = .ok (.iload 4, 2) := by decide +kernel
theorem dz_M_whoMeet_29 : decode zm_M_whoMeet.2.1 29 = .ok (.ishl, 1) := by decide +kernel
theorem dz_M_whoMeet_30 : decode zm_M_whoMeet.2.1 30 = .ok (.goto 4, 3) := by decide +kernel
theorem dz_M_whoMeet_33 : decode zm_M_whoMeet.2.1 33 = .ok (.iconst 0, 1) := by decide +kernel
theorem dz_M_whoMeet_34 : decode zm_M_whoMeet.2.1 34 = .ok (.ior, 1) := by decide +kernel
theorem dz_M_whoMeet_35 : decode zm_M_whoMeet.2.1 35 = .ok (.istore_n 3, 1) := by decide +kernel
theorem dz_M_whoMeet_36 : decode zm_M_whoMeet.2.1 36 = .ok (.iinc 4 1, 3) := by decide +kernel
theorem dz_M_whoMeet_39 : decode zm_M_whoMeet.2.1 39 = .ok (.goto (-34), 3) := by decide +kernel
theorem dz_M_whoMeet_42 : decode zm_M_whoMeet.2.1 42 = .ok (.iload_n 3, 1) := by decide +kernel
theorem dz_M_whoMeet_43 : decode zm_M_whoMeet.2.1 43 = .ok (.ireturn, 1) := by decide +kernel
theorem dz_M_givesBy_0 : decode zm_M_givesBy.2.1 0 = .ok (.aload_n 0, 1) := by decide +kernel
theorem dz_M_givesBy_1 : decode zm_M_givesBy.2.1 1 = .ok (.iload_n 1, 1) := by decide +kernel
theorem dz_M_givesBy_2 : decode zm_M_givesBy.2.1 2 = .ok (.iload_n 2, 1) := by decide +kernel
theorem dz_M_givesBy_3 : decode zm_M_givesBy.2.1 3 = .ok (.invokevirtual 187, 3) := by decide +kernel
theorem dz_M_givesBy_6 : decode zm_M_givesBy.2.1 6 = .ok (.istore 4, 2) := by decide +kernel
theorem dz_M_givesBy_8 : decode zm_M_givesBy.2.1 8 = .ok (.iconst 0, 1) := by decide +kernel
theorem dz_M_givesBy_9 : decode zm_M_givesBy.2.1 9 = .ok (.istore 5, 2) := by decide +kernel
theorem dz_M_givesBy_11 : decode zm_M_givesBy.2.1 11 = .ok (.bipush (-4), 2) := by decide +kernel
theorem dz_M_givesBy_13 : decode zm_M_givesBy.2.1 13 = .ok (.istore 6, 2) := by decide +kernel
theorem dz_M_givesBy_15 : decode zm_M_givesBy.2.1 15 = .ok (.iconst 0, 1) := by decide +kernel
theorem dz_M_givesBy_16 : decode zm_M_givesBy.2.1 16 = .ok (.istore 7, 2) := by decide +kernel
theorem dz_M_givesBy_18 : decode zm_M_givesBy.2.1 18 = .ok (.iload 7, 2) := by decide +kernel
theorem dz_M_givesBy_20 : decode zm_M_givesBy.2.1 20 = .ok (.aload_n 0, 1) := by decide +kernel
theorem dz_M_givesBy_21 : decode zm_M_givesBy.2.1 21 = .ok (.getfield 158, 3) := by decide +kernel
theorem dz_M_givesBy_24 : decode zm_M_givesBy.2.1 24 = .ok (.if_icmp .ge 58, 3) := by decide +kernel
theorem dz_M_givesBy_27 : decode zm_M_givesBy.2.1 27 = .ok (.iload 4, 2) := by decide +kernel
theorem dz_M_givesBy_29 : decode zm_M_givesBy.2.1 29 = .ok (.iload 7, 2) := by decide +kernel
theorem dz_M_givesBy_31 : decode zm_M_givesBy.2.1 31 = .ok (.ishr, 1) := by decide +kernel
theorem dz_M_givesBy_32 : decode zm_M_givesBy.2.1 32 = .ok (.iconst 1, 1) := by decide +kernel
theorem dz_M_givesBy_33 : decode zm_M_givesBy.2.1 33 = .ok (.iand, 1) := by decide +kernel
theorem dz_M_givesBy_34 : decode zm_M_givesBy.2.1 34 = .ok (.iconst 1, 1) := by decide +kernel
theorem dz_M_givesBy_35 : decode zm_M_givesBy.2.1 35 = .ok (.if_icmp .ne 41, 3) := by decide +kernel
theorem dz_M_givesBy_38 : decode zm_M_givesBy.2.1 38 = .ok (.iinc 5 1, 3) := by decide +kernel
theorem dz_M_givesBy_41 : decode zm_M_givesBy.2.1 41 = .ok (.iload_n 3, 1) := by decide +kernel
theorem dz_M_givesBy_42 : decode zm_M_givesBy.2.1 42 = .ok (.iconst 2, 1) := by decide +kernel
theorem dz_M_givesBy_43 : decode zm_M_givesBy.2.1 43 = .ok (.if_icmp .eq 24, 3) := by decide +kernel
theorem dz_M_givesBy_46 : decode zm_M_givesBy.2.1 46 = .ok (.iload_n 3, 1) := by decide +kernel
theorem dz_M_givesBy_47 : decode zm_M_givesBy.2.1 47 = .ok (.ifCond .ne 9, 3) := by decide +kernel
theorem dz_M_givesBy_50 : decode zm_M_givesBy.2.1 50 = .ok (.iload 5, 2) := by decide +kernel
theorem dz_M_givesBy_52 : decode zm_M_givesBy.2.1 52 = .ok (.iconst 1, 1) := by decide +kernel
theorem dz_M_givesBy_53 : decode zm_M_givesBy.2.1 53 = .ok (.if_icmp .eq 14, 3) := by decide +kernel
theorem dz_M_givesBy_56 : decode zm_M_givesBy.2.1 56 = .ok (.iload_n 3, 1) := by decide +kernel
theorem dz_M_givesBy_57 : decode zm_M_givesBy.2.1 57 = .ok (.iconst 1, 1) := by decide +kernel
theorem dz_M_givesBy_58 : decode zm_M_givesBy.2.1 58 = .ok (.if_icmp .ne 14, 3) := by decide +kernel
theorem dz_M_givesBy_61 : decode zm_M_givesBy.2.1 61 = .ok (.iload 5, 2) := by decide +kernel
theorem dz_M_givesBy_63 : decode zm_M_givesBy.2.1 63 = .ok (.iconst 3, 1) := by decide +kernel
theorem dz_M_givesBy_64 : decode zm_M_givesBy.2.1 64 = .ok (.if_icmp .ne 8, 3) := by decide +kernel
theorem dz_M_givesBy_67 : decode zm_M_givesBy.2.1 67 = .ok (.iload 7, 2) := by decide +kernel
theorem dz_M_givesBy_69 : decode zm_M_givesBy.2.1 69 = .ok (.goto 5, 3) := by decide +kernel
theorem dz_M_givesBy_72 : decode zm_M_givesBy.2.1 72 = .ok (.iload 6, 2) := by decide +kernel
theorem dz_M_givesBy_74 : decode zm_M_givesBy.2.1 74 = .ok (.istore 6, 2) := by decide +kernel
theorem dz_M_givesBy_76 : decode zm_M_givesBy.2.1 76 = .ok (.iinc 7 1, 3) := by decide +kernel
theorem dz_M_givesBy_79 : decode zm_M_givesBy.2.1 79 = .ok (.goto (-61), 3) := by decide +kernel
theorem dz_M_givesBy_82 : decode zm_M_givesBy.2.1 82 = .ok (.iload 6, 2) := by decide +kernel
theorem dz_M_givesBy_84 : decode zm_M_givesBy.2.1 84 = .ok (.ireturn, 1) := by decide +kernel
theorem dz_M_gives_0 : decode zm_M_gives.2.1 0 = .ok (.aload_n 0, 1) := by decide +kernel
theorem dz_M_gives_1 : decode zm_M_gives.2.1 1 = .ok (.iload_n 1, 1) := by decide +kernel
theorem dz_M_gives_2 : decode zm_M_gives.2.1 2 = .ok (.iload_n 2, 1) := by decide +kernel
theorem dz_M_gives_3 : decode zm_M_gives.2.1 3 = .ok (.aload_n 0, 1) := by decide +kernel
theorem dz_M_gives_4 : decode zm_M_gives.2.1 4 = .ok (.getfield 7, 3) := by decide +kernel
theorem dz_M_gives_7 : decode zm_M_gives.2.1 7 = .ok (.bipush 23, 2) := by decide +kernel
theorem dz_M_gives_9 : decode zm_M_gives.2.1 9 = .ok (.iload_n 1, 1) := by decide +kernel
theorem dz_M_gives_10 : decode zm_M_gives.2.1 10 = .ok (.iadd, 1) := by decide +kernel
theorem dz_M_gives_11 : decode zm_M_gives.2.1 11 = .ok (.iaload, 1) := by decide +kernel
theorem dz_M_gives_12 : decode zm_M_gives.2.1 12 = .ok (.invokevirtual 190, 3) := by decide +kernel
theorem dz_M_gives_15 : decode zm_M_gives.2.1 15 = .ok (.ireturn, 1) := by decide +kernel
theorem dz_M_ruleBy_0 : decode zm_M_ruleBy.2.1 0 = .ok (.bipush (-4), 2) := by decide +kernel
theorem dz_M_ruleBy_2 : decode zm_M_ruleBy.2.1 2 = .ok (.istore 5, 2) := by decide +kernel
theorem dz_M_ruleBy_4 : decode zm_M_ruleBy.2.1 4 = .ok (.iconst 0, 1) := by decide +kernel
theorem dz_M_ruleBy_5 : decode zm_M_ruleBy.2.1 5 = .ok (.istore 6, 2) := by decide +kernel
theorem dz_M_ruleBy_7 : decode zm_M_ruleBy.2.1 7 = .ok (.iload 6, 2) := by decide +kernel
theorem dz_M_ruleBy_9 : decode zm_M_ruleBy.2.1 9 = .ok (.aload_n 0, 1) := by decide +kernel
theorem dz_M_ruleBy_10 : decode zm_M_ruleBy.2.1 10 = .ok (.getfield 161, 3) := by decide +kernel
theorem dz_M_ruleBy_13 : decode zm_M_ruleBy.2.1 13 = .ok (.if_icmp .ge 112, 3) := by decide +kernel
theorem dz_M_ruleBy_16 : decode zm_M_ruleBy.2.1 16 = .ok (.iload_n 3, 1) := by decide +kernel
theorem dz_M_ruleBy_17 : decode zm_M_ruleBy.2.1 17 = .ok (.iload 6, 2) := by decide +kernel
theorem dz_M_ruleBy_19 : decode zm_M_ruleBy.2.1 19 = .ok (.ishr, 1) := by decide +kernel
theorem dz_M_ruleBy_20 : decode zm_M_ruleBy.2.1 20 = .ok (.iconst 1, 1) := by decide +kernel
theorem dz_M_ruleBy_21 : decode zm_M_ruleBy.2.1 21 = .ok (.iand, 1) := by decide +kernel
theorem dz_M_ruleBy_22 : decode zm_M_ruleBy.2.1 22 = .ok (.iconst 1, 1) := by decide +kernel
theorem dz_M_ruleBy_23 : decode zm_M_ruleBy.2.1 23 = .ok (.if_icmp .ne 50, 3) := by decide +kernel
theorem dz_M_ruleBy_26 : decode zm_M_ruleBy.2.1 26 = .ok (.aload_n 0, 1) := by decide +kernel
theorem dz_M_ruleBy_27 : decode zm_M_ruleBy.2.1 27 = .ok (.getfield 16, 3) := by decide +kernel
theorem dz_M_ruleBy_30 : decode zm_M_ruleBy.2.1 30 = .ok (.iconst 3, 1) := by decide +kernel
theorem dz_M_ruleBy_31 : decode zm_M_ruleBy.2.1 31 = .ok (.iload 6, 2) := by decide +kernel
theorem dz_M_ruleBy_33 : decode zm_M_ruleBy.2.1 33 = .ok (.imul, 1) := by decide +kernel
theorem dz_M_ruleBy_34 : decode zm_M_ruleBy.2.1 34 = .ok (.iaload, 1) := by decide +kernel
theorem dz_M_ruleBy_35 : decode zm_M_ruleBy.2.1 35 = .ok (.iload_n 1, 1) := by decide +kernel
theorem dz_M_ruleBy_36 : decode zm_M_ruleBy.2.1 36 = .ok (.if_icmp .ne 37, 3) := by decide +kernel
theorem dz_M_ruleBy_39 : decode zm_M_ruleBy.2.1 39 = .ok (.iload 5, 2) := by decide +kernel
theorem dz_M_ruleBy_41 : decode zm_M_ruleBy.2.1 41 = .ok (.bipush (-4), 2) := by decide +kernel
theorem dz_M_ruleBy_43 : decode zm_M_ruleBy.2.1 43 = .ok (.if_icmp .eq 26, 3) := by decide +kernel
theorem dz_M_ruleBy_46 : decode zm_M_ruleBy.2.1 46 = .ok (.aload_n 0, 1) := by decide +kernel
theorem dz_M_ruleBy_47 : decode zm_M_ruleBy.2.1 47 = .ok (.getfield 7, 3) := by decide +kernel
theorem dz_M_ruleBy_50 : decode zm_M_ruleBy.2.1 50 = .ok (.bipush 18, 2) := by decide +kernel
theorem dz_M_ruleBy_52 : decode zm_M_ruleBy.2.1 52 = .ok (.iload 6, 2) := by decide +kernel
theorem dz_M_ruleBy_54 : decode zm_M_ruleBy.2.1 54 = .ok (.iadd, 1) := by decide +kernel
theorem dz_M_ruleBy_55 : decode zm_M_ruleBy.2.1 55 = .ok (.iaload, 1) := by decide +kernel
theorem dz_M_ruleBy_56 : decode zm_M_ruleBy.2.1 56 = .ok (.aload_n 0, 1) := by decide +kernel
theorem dz_M_ruleBy_57 : decode zm_M_ruleBy.2.1 57 = .ok (.getfield 7, 3) := by decide +kernel
theorem dz_M_ruleBy_60 : decode zm_M_ruleBy.2.1 60 = .ok (.bipush 18, 2) := by decide +kernel
theorem dz_M_ruleBy_62 : decode zm_M_ruleBy.2.1 62 = .ok (.iload 5, 2) := by decide +kernel
theorem dz_M_ruleBy_64 : decode zm_M_ruleBy.2.1 64 = .ok (.iadd, 1) := by decide +kernel
theorem dz_M_ruleBy_65 : decode zm_M_ruleBy.2.1 65 = .ok (.iaload, 1) := by decide +kernel
theorem dz_M_ruleBy_66 : decode zm_M_ruleBy.2.1 66 = .ok (.if_icmp .ge 7, 3) := by decide +kernel
theorem dz_M_ruleBy_69 : decode zm_M_ruleBy.2.1 69 = .ok (.iconst 1, 1) := by decide +kernel
theorem dz_M_ruleBy_70 : decode zm_M_ruleBy.2.1 70 = .ok (.goto 4, 3) := by decide +kernel
theorem dz_M_ruleBy_73 : decode zm_M_ruleBy.2.1 73 = .ok (.iconst 0, 1) := by decide +kernel
theorem dz_M_ruleBy_74 : decode zm_M_ruleBy.2.1 74 = .ok (.istore 7, 2) := by decide +kernel
theorem dz_M_ruleBy_76 : decode zm_M_ruleBy.2.1 76 = .ok (.iload 7, 2) := by decide +kernel
theorem dz_M_ruleBy_78 : decode zm_M_ruleBy.2.1 78 = .ok (.ifCond .eq 41, 3) := by decide +kernel
theorem dz_M_ruleBy_81 : decode zm_M_ruleBy.2.1 81 = .ok (.aload_n 0, 1) := by decide +kernel
theorem dz_M_ruleBy_82 : decode zm_M_ruleBy.2.1 82 = .ok (.iload 6, 2) := by decide +kernel
theorem dz_M_ruleBy_84 : decode zm_M_ruleBy.2.1 84 = .ok (.iload_n 2, 1) := by decide +kernel
theorem dz_M_ruleBy_85 : decode zm_M_ruleBy.2.1 85 = .ok (.iload 4, 2) := by decide +kernel
theorem dz_M_ruleBy_87 : decode zm_M_ruleBy.2.1 87 = .ok (.bipush (-4), 2) := by decide +kernel
theorem dz_M_ruleBy_89 : decode zm_M_ruleBy.2.1 89 = .ok (.if_icmp .ne 16, 3) := by decide +kernel
theorem dz_M_ruleBy_92 : decode zm_M_ruleBy.2.1 92 = .ok (.aload_n 0, 1) := by decide +kernel
theorem dz_M_ruleBy_93 : decode zm_M_ruleBy.2.1 93 = .ok (.getfield 7, 3) := by decide +kernel
theorem dz_M_ruleBy_96 : decode zm_M_ruleBy.2.1 96 = .ok (.bipush 23, 2) := by decide +kernel
theorem dz_M_ruleBy_98 : decode zm_M_ruleBy.2.1 98 = .ok (.iload 6, 2) := by decide +kernel
theorem dz_M_ruleBy_100 : decode zm_M_ruleBy.2.1 100 = .ok (.iadd, 1) := by decide +kernel
theorem dz_M_ruleBy_101 : decode zm_M_ruleBy.2.1 101 = .ok (.iaload, 1) := by decide +kernel
theorem dz_M_ruleBy_102 : decode zm_M_ruleBy.2.1 102 = .ok (.goto 5, 3) := by decide +kernel
theorem dz_M_ruleBy_105 : decode zm_M_ruleBy.2.1 105 = .ok (.iload 4, 2) := by decide +kernel
theorem dz_M_ruleBy_107 : decode zm_M_ruleBy.2.1 107 = .ok (.invokevirtual 190, 3) := by decide +kernel
theorem dz_M_ruleBy_110 : decode zm_M_ruleBy.2.1 110 = .ok (.bipush (-4), 2) := by decide +kernel
theorem dz_M_ruleBy_112 : decode zm_M_ruleBy.2.1 112 = .ok (.if_icmp .eq 7, 3) := by decide +kernel
theorem dz_M_ruleBy_115 : decode zm_M_ruleBy.2.1 115 = .ok (.iload 6, 2) := by decide +kernel
theorem dz_M_ruleBy_117 : decode zm_M_ruleBy.2.1 117 = .ok (.istore 5, 2) := by decide +kernel
theorem dz_M_ruleBy_119 : decode zm_M_ruleBy.2.1 119 = .ok (.iinc 6 1, 3) := by decide +kernel
theorem dz_M_ruleBy_122 : decode zm_M_ruleBy.2.1 122 = .ok (.goto (-115), 3) := by decide +kernel
theorem dz_M_ruleBy_125 : decode zm_M_ruleBy.2.1 125 = .ok (.iload 5, 2) := by decide +kernel
theorem dz_M_ruleBy_127 : decode zm_M_ruleBy.2.1 127 = .ok (.ireturn, 1) := by decide +kernel
theorem dz_M_ownerBy_0 : decode zm_M_ownerBy.2.1 0 = .ok (.aload_n 0, 1) := by decide +kernel
theorem dz_M_ownerBy_1 : decode zm_M_ownerBy.2.1 1 = .ok (.iload_n 1, 1) := by decide +kernel
theorem dz_M_ownerBy_2 : decode zm_M_ownerBy.2.1 2 = .ok (.iload_n 2, 1) := by decide +kernel
theorem dz_M_ownerBy_3 : decode zm_M_ownerBy.2.1 3 = .ok (.iload_n 3, 1) := by decide +kernel
theorem dz_M_ownerBy_4 : decode zm_M_ownerBy.2.1 4 = .ok (.bipush (-4), 2) := by decide +kernel
theorem dz_M_ownerBy_6 : decode zm_M_ownerBy.2.1 6 = .ok (.invokevirtual 193, 3) := by decide +kernel
theorem dz_M_ownerBy_9 : decode zm_M_ownerBy.2.1 9 = .ok (.istore 4, 2) := by decide +kernel
theorem dz_M_ownerBy_11 : decode zm_M_ownerBy.2.1 11 = .ok (.iload 4, 2) := by decide +kernel
theorem dz_M_ownerBy_13 : decode zm_M_ownerBy.2.1 13 = .ok (.bipush (-4), 2) := by decide +kernel
theorem dz_M_ownerBy_15 : decode zm_M_ownerBy.2.1 15 = .ok (.if_icmp .ne 8, 3) := by decide +kernel
theorem dz_M_ownerBy_18 : decode zm_M_ownerBy.2.1 18 = .ok (.bipush (-4), 2) := by decide +kernel
theorem dz_M_ownerBy_20 : decode zm_M_ownerBy.2.1 20 = .ok (.goto 10, 3) := by decide +kernel
theorem dz_M_ownerBy_23 : decode zm_M_ownerBy.2.1 23 = .ok (.aload_n 0, 1) := by decide +kernel
theorem dz_M_ownerBy_24 : decode zm_M_ownerBy.2.1 24 = .ok (.iload 4, 2) := by decide +kernel
theorem dz_M_ownerBy_26 : decode zm_M_ownerBy.2.1 26 = .ok (.iload_n 2, 1) := by decide +kernel
theorem dz_M_ownerBy_27 : decode zm_M_ownerBy.2.1 27 = .ok (.invokevirtual 197, 3) := by decide +kernel
theorem dz_M_ownerBy_30 : decode zm_M_ownerBy.2.1 30 = .ok (.ireturn, 1) := by decide +kernel
theorem dz_M_ownerIn_0 : decode zm_M_ownerIn.2.1 0 = .ok (.aload_n 0, 1) := by decide +kernel
theorem dz_M_ownerIn_1 : decode zm_M_ownerIn.2.1 1 = .ok (.iload_n 1, 1) := by decide +kernel
theorem dz_M_ownerIn_2 : decode zm_M_ownerIn.2.1 2 = .ok (.iload_n 2, 1) := by decide +kernel
theorem dz_M_ownerIn_3 : decode zm_M_ownerIn.2.1 3 = .ok (.bipush 31, 2) := by decide +kernel
theorem dz_M_ownerIn_5 : decode zm_M_ownerIn.2.1 5 = .ok (.invokevirtual 200, 3) := by decide +kernel
theorem dz_M_ownerIn_8 : decode zm_M_ownerIn.2.1 8 = .ok (.ireturn, 1) := by decide +kernel
theorem dz_M_one_0 : decode zm_M_one.2.1 0 = .ok (.aload_n 0, 1) := by decide +kernel
theorem dz_M_one_1 : decode zm_M_one.2.1 1 = .ok (.iload_n 1, 1) := by decide +kernel
theorem dz_M_one_2 : decode zm_M_one.2.1 2 = .ok (.invokevirtual 203, 3) := by decide +kernel
theorem dz_M_one_5 : decode zm_M_one.2.1 5 = .ok (.ifCond .eq 15, 3) := by decide +kernel
theorem dz_M_one_8 : decode zm_M_one.2.1 8 = .ok (.iload_n 2, 1) := by decide +kernel
theorem dz_M_one_9 : decode zm_M_one.2.1 9 = .ok (.i2l, 1) := by decide +kernel
theorem dz_M_one_10 : decode zm_M_one.2.1 10 = .ok (.lconst 0, 1) := by decide +kernel
theorem dz_M_one_11 : decode zm_M_one.2.1 11 = .ok (.ldc2_w 207, 3) := by decide +kernel
theorem dz_M_one_14 : decode zm_M_one.2.1 14 = .ok (.invokestatic 65, 3) := by decide +kernel
theorem dz_M_one_17 : decode zm_M_one.2.1 17 = .ok (.ifCond .ne 5, 3) := by decide +kernel
theorem dz_M_one_20 : decode zm_M_one.2.1 20 = .ok (.iconst (-1), 1) := by decide +kernel
theorem dz_M_one_21 : decode zm_M_one.2.1 21 = .ok (.ireturn, 1) := by decide +kernel
theorem dz_M_one_22 : decode zm_M_one.2.1 22 = .ok (.aload_n 0, 1) := by decide +kernel
theorem dz_M_one_23 : decode zm_M_one.2.1 23 = .ok (.getfield 7, 3) := by decide +kernel
theorem dz_M_one_26 : decode zm_M_one.2.1 26 = .ok (.bipush 12, 2) := by decide +kernel
theorem dz_M_one_28 : decode zm_M_one.2.1 28 = .ok (.iaload, 1) := by decide +kernel
theorem dz_M_one_29 : decode zm_M_one.2.1 29 = .ok (.istore_n 3, 1) := by decide +kernel
theorem dz_M_one_30 : decode zm_M_one.2.1 30 = .ok (.iload_n 2, 1) := by decide +kernel
theorem dz_M_one_31 : decode zm_M_one.2.1 31 = .ok (.tableswitch 86 0 4 #[33, 56, 63, 73, 79], 33) := by decide +kernel
theorem dz_M_one_64 : decode zm_M_one.2.1 64 = .ok (.aload_n 0, 1) := by decide +kernel
theorem dz_M_one_65 : decode zm_M_one.2.1 65 = .ok (.getfield 13, 3) := by decide +kernel
theorem dz_M_one_68 : decode zm_M_one.2.1 68 = .ok (.iload_n 1, 1) := by decide +kernel
theorem dz_M_one_69 : decode zm_M_one.2.1 69 = .ok (.iaload, 1) := by decide +kernel
theorem dz_M_one_70 : decode zm_M_one.2.1 70 = .ok (.ifCond .ne 8, 3) := by decide +kernel
theorem dz_M_one_73 : decode zm_M_one.2.1 73 = .ok (.bipush (-4), 2) := by decide +kernel
theorem dz_M_one_75 : decode zm_M_one.2.1 75 = .ok (.goto 11, 3) := by decide +kernel
theorem dz_M_one_78 : decode zm_M_one.2.1 78 = .ok (.aload_n 0, 1) := by decide +kernel
theorem dz_M_one_79 : decode zm_M_one.2.1 79 = .ok (.getfield 13, 3) := by decide +kernel
theorem dz_M_one_82 : decode zm_M_one.2.1 82 = .ok (.iload_n 1, 1) := by decide +kernel
theorem dz_M_one_83 : decode zm_M_one.2.1 83 = .ok (.iaload, 1) := by decide +kernel
theorem dz_M_one_84 : decode zm_M_one.2.1 84 = .ok (.iconst 1, 1) := by decide +kernel
theorem dz_M_one_85 : decode zm_M_one.2.1 85 = .ok (.isub, 1) := by decide +kernel
theorem dz_M_one_86 : decode zm_M_one.2.1 86 = .ok (.ireturn, 1) := by decide +kernel
theorem dz_M_one_87 : decode zm_M_one.2.1 87 = .ok (.aload_n 0, 1) := by decide +kernel
theorem dz_M_one_88 : decode zm_M_one.2.1 88 = .ok (.getfield 7, 3) := by decide +kernel
theorem dz_M_one_91 : decode zm_M_one.2.1 91 = .ok (.iload_n 1, 1) := by decide +kernel
theorem dz_M_one_92 : decode zm_M_one.2.1 92 = .ok (.iaload, 1) := by decide +kernel
theorem dz_M_one_93 : decode zm_M_one.2.1 93 = .ok (.ireturn, 1) := by decide +kernel
theorem dz_M_one_94 : decode zm_M_one.2.1 94 = .ok (.aload_n 0, 1) := by decide +kernel
theorem dz_M_one_95 : decode zm_M_one.2.1 95 = .ok (.getfield 7, 3) := by decide +kernel
theorem dz_M_one_98 : decode zm_M_one.2.1 98 = .ok (.bipush 6, 2) := by decide +kernel
theorem dz_M_one_100 : decode zm_M_one.2.1 100 = .ok (.iload_n 1, 1) := by decide +kernel
theorem dz_M_one_101 : decode zm_M_one.2.1 101 = .ok (.iadd, 1) := by decide +kernel
theorem dz_M_one_102 : decode zm_M_one.2.1 102 = .ok (.iaload, 1) := by decide +kernel
theorem dz_M_one_103 : decode zm_M_one.2.1 103 = .ok (.ireturn, 1) := by decide +kernel
theorem dz_M_one_104 : decode zm_M_one.2.1 104 = .ok (.iload_n 3, 1) := by decide +kernel
theorem dz_M_one_105 : decode zm_M_one.2.1 105 = .ok (.iload_n 1, 1) := by decide +kernel
theorem dz_M_one_106 : decode zm_M_one.2.1 106 = .ok (.ishr, 1) := by decide +kernel
theorem dz_M_one_107 : decode zm_M_one.2.1 107 = .ok (.iconst 1, 1) := by decide +kernel
theorem dz_M_one_108 : decode zm_M_one.2.1 108 = .ok (.iand, 1) := by decide +kernel
theorem dz_M_one_109 : decode zm_M_one.2.1 109 = .ok (.ireturn, 1) := by decide +kernel
theorem dz_M_one_110 : decode zm_M_one.2.1 110 = .ok (.aload_n 0, 1) := by decide +kernel
theorem dz_M_one_111 : decode zm_M_one.2.1 111 = .ok (.iload_n 1, 1) := by decide +kernel
theorem dz_M_one_112 : decode zm_M_one.2.1 112 = .ok (.iload_n 3, 1) := by decide +kernel
theorem dz_M_one_113 : decode zm_M_one.2.1 113 = .ok (.invokevirtual 173, 3) := by decide +kernel
theorem dz_M_one_116 : decode zm_M_one.2.1 116 = .ok (.ireturn, 1) := by decide +kernel
theorem dz_M_one_117 : decode zm_M_one.2.1 117 = .ok (.aload_n 0, 1) := by decide +kernel
theorem dz_M_one_118 : decode zm_M_one.2.1 118 = .ok (.iload_n 1, 1) := by decide +kernel
theorem dz_M_one_119 : decode zm_M_one.2.1 119 = .ok (.iload_n 3, 1) := by decide +kernel
theorem dz_M_one_120 : decode zm_M_one.2.1 120 = .ok (.invokevirtual 180, 3) := by decide +kernel
theorem dz_M_one_123 : decode zm_M_one.2.1 123 = .ok (.ireturn, 1) := by decide +kernel
theorem dz_M_odd_0 : decode zm_M_odd.2.1 0 = .ok (.iload_n 1, 1) := by decide +kernel
theorem dz_M_odd_1 : decode zm_M_odd.2.1 1 = .ok (.invokestatic 209, 3) := by decide +kernel
theorem dz_M_odd_4 : decode zm_M_odd.2.1 4 = .ok (.ifCond .eq 17, 3) := by decide +kernel
theorem dz_M_odd_7 : decode zm_M_odd.2.1 7 = .ok (.aload_n 0, 1) := by decide +kernel
theorem dz_M_odd_8 : decode zm_M_odd.2.1 8 = .ok (.getfield 7, 3) := by decide +kernel
theorem dz_M_odd_11 : decode zm_M_odd.2.1 11 = .ok (.bipush 13, 2) := by decide +kernel
theorem dz_M_odd_13 : decode zm_M_odd.2.1 13 = .ok (.iload_n 1, 1) := by decide +kernel
theorem dz_M_odd_14 : decode zm_M_odd.2.1 14 = .ok (.iadd, 1) := by decide +kernel
theorem dz_M_odd_15 : decode zm_M_odd.2.1 15 = .ok (.iaload, 1) := by decide +kernel
theorem dz_M_odd_16 : decode zm_M_odd.2.1 16 = .ok (.iconst 5, 1) := by decide +kernel
theorem dz_M_odd_17 : decode zm_M_odd.2.1 17 = .ok (.iadd, 1) := by decide +kernel
theorem dz_M_odd_18 : decode zm_M_odd.2.1 18 = .ok (.goto 4, 3) := by decide +kernel
theorem dz_M_odd_21 : decode zm_M_odd.2.1 21 = .ok (.iconst (-1), 1) := by decide +kernel
theorem dz_M_odd_22 : decode zm_M_odd.2.1 22 = .ok (.ireturn, 1) := by decide +kernel
theorem dz_M_law_0 : decode zm_M_law.2.1 0 = .ok (.aload_n 0, 1) := by decide +kernel
theorem dz_M_law_1 : decode zm_M_law.2.1 1 = .ok (.iload_n 1, 1) := by decide +kernel
theorem dz_M_law_2 : decode zm_M_law.2.1 2 = .ok (.invokevirtual 212, 3) := by decide +kernel
theorem dz_M_law_5 : decode zm_M_law.2.1 5 = .ok (.ifCond .eq 15, 3) := by decide +kernel
theorem dz_M_law_8 : decode zm_M_law.2.1 8 = .ok (.iload_n 2, 1) := by decide +kernel
theorem dz_M_law_9 : decode zm_M_law.2.1 9 = .ok (.i2l, 1) := by decide +kernel
theorem dz_M_law_10 : decode zm_M_law.2.1 10 = .ok (.lconst 0, 1) := by decide +kernel
theorem dz_M_law_11 : decode zm_M_law.2.1 11 = .ok (.ldc2_w 215, 3) := by decide +kernel
theorem dz_M_law_14 : decode zm_M_law.2.1 14 = .ok (.invokestatic 65, 3) := by decide +kernel
theorem dz_M_law_17 : decode zm_M_law.2.1 17 = .ok (.ifCond .ne 5, 3) := by decide +kernel
theorem dz_M_law_20 : decode zm_M_law.2.1 20 = .ok (.iconst (-1), 1) := by decide +kernel
theorem dz_M_law_21 : decode zm_M_law.2.1 21 = .ok (.ireturn, 1) := by decide +kernel
theorem dz_M_law_22 : decode zm_M_law.2.1 22 = .ok (.iload_n 2, 1) := by decide +kernel
theorem dz_M_law_23 : decode zm_M_law.2.1 23 = .ok (.tableswitch 87 0 6 #[41, 87, 87, 87, 51, 61, 74], 41) := by decide +kernel
theorem dz_M_law_64 : decode zm_M_law.2.1 64 = .ok (.aload_n 0, 1) := by decide +kernel
theorem dz_M_law_65 : decode zm_M_law.2.1 65 = .ok (.getfield 7, 3) := by decide +kernel
theorem dz_M_law_68 : decode zm_M_law.2.1 68 = .ok (.bipush 18, 2) := by decide +kernel
theorem dz_M_law_70 : decode zm_M_law.2.1 70 = .ok (.iload_n 1, 1) := by decide +kernel
theorem dz_M_law_71 : decode zm_M_law.2.1 71 = .ok (.iadd, 1) := by decide +kernel
theorem dz_M_law_72 : decode zm_M_law.2.1 72 = .ok (.iaload, 1) := by decide +kernel
theorem dz_M_law_73 : decode zm_M_law.2.1 73 = .ok (.ireturn, 1) := by decide +kernel
theorem dz_M_law_74 : decode zm_M_law.2.1 74 = .ok (.aload_n 0, 1) := by decide +kernel
theorem dz_M_law_75 : decode zm_M_law.2.1 75 = .ok (.getfield 7, 3) := by decide +kernel
theorem dz_M_law_78 : decode zm_M_law.2.1 78 = .ok (.bipush 23, 2) := by decide +kernel
theorem dz_M_law_80 : decode zm_M_law.2.1 80 = .ok (.iload_n 1, 1) := by decide +kernel
theorem dz_M_law_81 : decode zm_M_law.2.1 81 = .ok (.iadd, 1) := by decide +kernel
theorem dz_M_law_82 : decode zm_M_law.2.1 82 = .ok (.iaload, 1) := by decide +kernel
theorem dz_M_law_83 : decode zm_M_law.2.1 83 = .ok (.ireturn, 1) := by decide +kernel
theorem dz_M_law_84 : decode zm_M_law.2.1 84 = .ok (.aload_n 0, 1) := by decide +kernel
theorem dz_M_law_85 : decode zm_M_law.2.1 85 = .ok (.iload_n 1, 1) := by decide +kernel
theorem dz_M_law_86 : decode zm_M_law.2.1 86 = .ok (.aload_n 0, 1) := by decide +kernel
theorem dz_M_law_87 : decode zm_M_law.2.1 87 = .ok (.getfield 7, 3) := by decide +kernel
theorem dz_M_law_90 : decode zm_M_law.2.1 90 = .ok (.bipush 12, 2) := by decide +kernel
theorem dz_M_law_92 : decode zm_M_law.2.1 92 = .ok (.iaload, 1) := by decide +kernel
theorem dz_M_law_93 : decode zm_M_law.2.1 93 = .ok (.invokevirtual 187, 3) := by decide +kernel
theorem dz_M_law_96 : decode zm_M_law.2.1 96 = .ok (.ireturn, 1) := by decide +kernel
theorem dz_M_law_97 : decode zm_M_law.2.1 97 = .ok (.aload_n 0, 1) := by decide +kernel
theorem dz_M_law_98 : decode zm_M_law.2.1 98 = .ok (.iload_n 1, 1) := by decide +kernel
theorem dz_M_law_99 : decode zm_M_law.2.1 99 = .ok (.aload_n 0, 1) := by decide +kernel
theorem dz_M_law_100 : decode zm_M_law.2.1 100 = .ok (.getfield 7, 3) := by decide +kernel
theorem dz_M_law_103 : decode zm_M_law.2.1 103 = .ok (.bipush 12, 2) := by decide +kernel
theorem dz_M_law_105 : decode zm_M_law.2.1 105 = .ok (.iaload, 1) := by decide +kernel
theorem dz_M_law_106 : decode zm_M_law.2.1 106 = .ok (.invokevirtual 197, 3) := by decide +kernel
theorem dz_M_law_109 : decode zm_M_law.2.1 109 = .ok (.ireturn, 1) := by decide +kernel
theorem dz_M_law_110 : decode zm_M_law.2.1 110 = .ok (.aload_n 0, 1) := by decide +kernel
theorem dz_M_law_111 : decode zm_M_law.2.1 111 = .ok (.getfield 16, 3) := by decide +kernel
theorem dz_M_law_114 : decode zm_M_law.2.1 114 = .ok (.iconst 3, 1) := by decide +kernel
theorem dz_M_law_115 : decode zm_M_law.2.1 115 = .ok (.iload_n 1, 1) := by decide +kernel
theorem dz_M_law_116 : decode zm_M_law.2.1 116 = .ok (.imul, 1) := by decide +kernel
theorem dz_M_law_117 : decode zm_M_law.2.1 117 = .ok (.iload_n 2, 1) := by decide +kernel
theorem dz_M_law_118 : decode zm_M_law.2.1 118 = .ok (.iadd, 1) := by decide +kernel
theorem dz_M_law_119 : decode zm_M_law.2.1 119 = .ok (.iconst 1, 1) := by decide +kernel
theorem dz_M_law_120 : decode zm_M_law.2.1 120 = .ok (.isub, 1) := by decide +kernel
theorem dz_M_law_121 : decode zm_M_law.2.1 121 = .ok (.iaload, 1) := by decide +kernel
theorem dz_M_law_122 : decode zm_M_law.2.1 122 = .ok (.ireturn, 1) := by decide +kernel
theorem dz_M_owner_0 : decode zm_M_owner.2.1 0 = .ok (.iload_n 1, 1) := by decide +kernel
theorem dz_M_owner_1 : decode zm_M_owner.2.1 1 = .ok (.invokestatic 217, 3) := by decide +kernel
theorem dz_M_owner_4 : decode zm_M_owner.2.1 4 = .ok (.ifCond .eq 18, 3) := by decide +kernel
theorem dz_M_owner_7 : decode zm_M_owner.2.1 7 = .ok (.aload_n 0, 1) := by decide +kernel
theorem dz_M_owner_8 : decode zm_M_owner.2.1 8 = .ok (.iload_n 1, 1) := by decide +kernel
theorem dz_M_owner_9 : decode zm_M_owner.2.1 9 = .ok (.aload_n 0, 1) := by decide +kernel
theorem dz_M_owner_10 : decode zm_M_owner.2.1 10 = .ok (.getfield 7, 3) := by decide +kernel
theorem dz_M_owner_13 : decode zm_M_owner.2.1 13 = .ok (.bipush 12, 2) := by decide +kernel
theorem dz_M_owner_15 : decode zm_M_owner.2.1 15 = .ok (.iaload, 1) := by decide +kernel
theorem dz_M_owner_16 : decode zm_M_owner.2.1 16 = .ok (.invokevirtual 220, 3) := by decide +kernel
theorem dz_M_owner_19 : decode zm_M_owner.2.1 19 = .ok (.goto 4, 3) := by decide +kernel
theorem dz_M_owner_22 : decode zm_M_owner.2.1 22 = .ok (.iconst (-1), 1) := by decide +kernel
theorem dz_M_owner_23 : decode zm_M_owner.2.1 23 = .ok (.ireturn, 1) := by decide +kernel
theorem dz_M_by_0 : decode zm_M_by.2.1 0 = .ok (.iload_n 1, 1) := by decide +kernel
theorem dz_M_by_1 : decode zm_M_by.2.1 1 = .ok (.invokestatic 217, 3) := by decide +kernel
theorem dz_M_by_4 : decode zm_M_by.2.1 4 = .ok (.ifCond .eq 22, 3) := by decide +kernel
theorem dz_M_by_7 : decode zm_M_by.2.1 7 = .ok (.aload_n 0, 1) := by decide +kernel
theorem dz_M_by_8 : decode zm_M_by.2.1 8 = .ok (.iload_n 1, 1) := by decide +kernel
theorem dz_M_by_9 : decode zm_M_by.2.1 9 = .ok (.aload_n 0, 1) := by decide +kernel
theorem dz_M_by_10 : decode zm_M_by.2.1 10 = .ok (.getfield 7, 3) := by decide +kernel
theorem dz_M_by_13 : decode zm_M_by.2.1 13 = .ok (.bipush 12, 2) := by decide +kernel
theorem dz_M_by_15 : decode zm_M_by.2.1 15 = .ok (.iaload, 1) := by decide +kernel
theorem dz_M_by_16 : decode zm_M_by.2.1 16 = .ok (.bipush 31, 2) := by decide +kernel
theorem dz_M_by_18 : decode zm_M_by.2.1 18 = .ok (.bipush (-4), 2) := by decide +kernel
theorem dz_M_by_20 : decode zm_M_by.2.1 20 = .ok (.invokevirtual 193, 3) := by decide +kernel
theorem dz_M_by_23 : decode zm_M_by.2.1 23 = .ok (.goto 4, 3) := by decide +kernel
theorem dz_M_by_26 : decode zm_M_by.2.1 26 = .ok (.iconst (-1), 1) := by decide +kernel
theorem dz_M_by_27 : decode zm_M_by.2.1 27 = .ok (.ireturn, 1) := by decide +kernel
theorem dz_M_sets_0 : decode zm_M_sets.2.1 0 = .ok (.iload_n 1, 1) := by decide +kernel
theorem dz_M_sets_1 : decode zm_M_sets.2.1 1 = .ok (.ifCond .ne 5, 3) := by decide +kernel
theorem dz_M_sets_4 : decode zm_M_sets.2.1 4 = .ok (.iconst (-1), 1) := by decide +kernel
theorem dz_M_sets_5 : decode zm_M_sets.2.1 5 = .ok (.ireturn, 1) := by decide +kernel
theorem dz_M_sets_6 : decode zm_M_sets.2.1 6 = .ok (.aload_n 0, 1) := by decide +kernel
theorem dz_M_sets_7 : decode zm_M_sets.2.1 7 = .ok (.getfield 7, 3) := by decide +kernel
theorem dz_M_sets_10 : decode zm_M_sets.2.1 10 = .ok (.iload_n 2, 1) := by decide +kernel
theorem dz_M_sets_11 : decode zm_M_sets.2.1 11 = .ok (.iaload, 1) := by decide +kernel
theorem dz_M_sets_12 : decode zm_M_sets.2.1 12 = .ok (.istore 4, 2) := by decide +kernel
theorem dz_M_sets_14 : decode zm_M_sets.2.1 14 = .ok (.aload_n 0, 1) := by decide +kernel
theorem dz_M_sets_15 : decode zm_M_sets.2.1 15 = .ok (.getfield 7, 3) := by decide +kernel
theorem dz_M_sets_18 : decode zm_M_sets.2.1 18 = .ok (.iload_n 2, 1) := by decide +kernel
theorem dz_M_sets_19 : decode zm_M_sets.2.1 19 = .ok (.iload_n 3, 1) := by decide +kernel
theorem dz_M_sets_20 : decode zm_M_sets.2.1 20 = .ok (.iastore, 1) := by decide +kernel
theorem dz_M_sets_21 : decode zm_M_sets.2.1 21 = .ok (.iload 4, 2) := by decide +kernel
theorem dz_M_sets_23 : decode zm_M_sets.2.1 23 = .ok (.ireturn, 1) := by decide +kernel
theorem dz_M_isDeed_0 : decode zm_M_isDeed.2.1 0 = .ok (.iload_n 1, 1) := by decide +kernel
theorem dz_M_isDeed_1 : decode zm_M_isDeed.2.1 1 = .ok (.ifCond .lt 27, 3) := by decide +kernel
theorem dz_M_isDeed_4 : decode zm_M_isDeed.2.1 4 = .ok (.aload_n 0, 1) := by decide +kernel
theorem dz_M_isDeed_5 : decode zm_M_isDeed.2.1 5 = .ok (.iload_n 1, 1) := by decide +kernel
theorem dz_M_isDeed_6 : decode zm_M_isDeed.2.1 6 = .ok (.bipush 10, 2) := by decide +kernel
theorem dz_M_isDeed_8 : decode zm_M_isDeed.2.1 8 = .ok (.idiv, 1) := by decide +kernel
theorem dz_M_isDeed_9 : decode zm_M_isDeed.2.1 9 = .ok (.invokevirtual 203, 3) := by decide +kernel
theorem dz_M_isDeed_12 : decode zm_M_isDeed.2.1 12 = .ok (.ifCond .eq 16, 3) := by decide +kernel
theorem dz_M_isDeed_15 : decode zm_M_isDeed.2.1 15 = .ok (.iload_n 1, 1) := by decide +kernel
theorem dz_M_isDeed_16 : decode zm_M_isDeed.2.1 16 = .ok (.bipush 10, 2) := by decide +kernel
theorem dz_M_isDeed_18 : decode zm_M_isDeed.2.1 18 = .ok (.irem, 1) := by decide +kernel
theorem dz_M_isDeed_19 : decode zm_M_isDeed.2.1 19 = .ok (.bipush 6, 2) := by decide +kernel
theorem dz_M_isDeed_21 : decode zm_M_isDeed.2.1 21 = .ok (.if_icmp .gt 7, 3) := by decide +kernel
theorem dz_M_isDeed_24 : decode zm_M_isDeed.2.1 24 = .ok (.iconst 1, 1) := by decide +kernel
theorem dz_M_isDeed_25 : decode zm_M_isDeed.2.1 25 = .ok (.goto 4, 3) := by decide +kernel
theorem dz_M_isDeed_28 : decode zm_M_isDeed.2.1 28 = .ok (.iconst 0, 1) := by decide +kernel
theorem dz_M_isDeed_29 : decode zm_M_isDeed.2.1 29 = .ok (.ireturn, 1) := by decide +kernel
theorem dz_M_canDo_0 : decode zm_M_canDo.2.1 0 = .ok (.iload_n 1, 1) := by decide +kernel
theorem dz_M_canDo_1 : decode zm_M_canDo.2.1 1 = .ok (.bipush 10, 2) := by decide +kernel
theorem dz_M_canDo_3 : decode zm_M_canDo.2.1 3 = .ok (.idiv, 1) := by decide +kernel
theorem dz_M_canDo_4 : decode zm_M_canDo.2.1 4 = .ok (.istore_n 2, 1) := by decide +kernel
theorem dz_M_canDo_5 : decode zm_M_canDo.2.1 5 = .ok (.iload_n 1, 1) := by decide +kernel
theorem dz_M_canDo_6 : decode zm_M_canDo.2.1 6 = .ok (.bipush 10, 2) := by decide +kernel
theorem dz_M_canDo_8 : decode zm_M_canDo.2.1 8 = .ok (.irem, 1) := by decide +kernel
theorem dz_M_canDo_9 : decode zm_M_canDo.2.1 9 = .ok (.istore_n 3, 1) := by decide +kernel
theorem dz_M_canDo_10 : decode zm_M_canDo.2.1 10 = .ok (.iload_n 3, 1) := by decide +kernel
theorem dz_M_canDo_11 : decode zm_M_canDo.2.1 11 = .ok (.bipush 6, 2) := by decide +kernel
theorem dz_M_canDo_13 : decode zm_M_canDo.2.1 13 = .ok (.if_icmp .eq 34, 3) := by decide +kernel
theorem dz_M_canDo_16 : decode zm_M_canDo.2.1 16 = .ok (.aload_n 0, 1) := by decide +kernel
theorem dz_M_canDo_17 : decode zm_M_canDo.2.1 17 = .ok (.getfield 7, 3) := by decide +kernel
theorem dz_M_canDo_20 : decode zm_M_canDo.2.1 20 = .ok (.bipush 6, 2) := by decide +kernel
theorem dz_M_canDo_22 : decode zm_M_canDo.2.1 22 = .ok (.iload_n 2, 1) := by decide +kernel
theorem dz_M_canDo_23 : decode zm_M_canDo.2.1 23 = .ok (.iadd, 1) := by decide +kernel
theorem dz_M_canDo_24 : decode zm_M_canDo.2.1 24 = .ok (.iaload, 1) := by decide +kernel
theorem dz_M_canDo_25 : decode zm_M_canDo.2.1 25 = .ok (.iconst 3, 1) := by decide +kernel
theorem dz_M_canDo_26 : decode zm_M_canDo.2.1 26 = .ok (.if_icmp .ge 25, 3) := by decide +kernel
theorem dz_M_canDo_29 : decode zm_M_canDo.2.1 29 = .ok (.iload_n 3, 1) := by decide +kernel
theorem dz_M_canDo_30 : decode zm_M_canDo.2.1 30 = .ok (.iconst 5, 1) := by decide +kernel
theorem dz_M_canDo_31 : decode zm_M_canDo.2.1 31 = .ok (.if_icmp .eq 16, 3) := by decide +kernel
theorem dz_M_canDo_34 : decode zm_M_canDo.2.1 34 = .ok (.aload_n 0, 1) := by decide +kernel
theorem dz_M_canDo_35 : decode zm_M_canDo.2.1 35 = .ok (.getfield 7, 3) := by decide +kernel
theorem dz_M_canDo_38 : decode zm_M_canDo.2.1 38 = .ok (.iload_n 2, 1) := by decide +kernel
theorem dz_M_canDo_39 : decode zm_M_canDo.2.1 39 = .ok (.iaload, 1) := by decide +kernel
theorem dz_M_canDo_40 : decode zm_M_canDo.2.1 40 = .ok (.iload_n 3, 1) := by decide +kernel
theorem dz_M_canDo_41 : decode zm_M_canDo.2.1 41 = .ok (.ishr, 1) := by decide +kernel
theorem dz_M_canDo_42 : decode zm_M_canDo.2.1 42 = .ok (.iconst 1, 1) := by decide +kernel
theorem dz_M_canDo_43 : decode zm_M_canDo.2.1 43 = .ok (.iand, 1) := by decide +kernel
theorem dz_M_canDo_44 : decode zm_M_canDo.2.1 44 = .ok (.ifCond .ne 7, 3) := by decide +kernel
theorem dz_M_canDo_47 : decode zm_M_canDo.2.1 47 = .ok (.iconst 1, 1) := by decide +kernel
theorem dz_M_canDo_48 : decode zm_M_canDo.2.1 48 = .ok (.goto 4, 3) := by decide +kernel
theorem dz_M_canDo_51 : decode zm_M_canDo.2.1 51 = .ok (.iconst 0, 1) := by decide +kernel
theorem dz_M_canDo_52 : decode zm_M_canDo.2.1 52 = .ok (.istore 4, 2) := by decide +kernel
theorem dz_M_canDo_54 : decode zm_M_canDo.2.1 54 = .ok (.iload_n 2, 1) := by decide +kernel
theorem dz_M_canDo_55 : decode zm_M_canDo.2.1 55 = .ok (.aload_n 0, 1) := by decide +kernel
theorem dz_M_canDo_56 : decode zm_M_canDo.2.1 56 = .ok (.getfield 7, 3) := by decide +kernel
theorem dz_M_canDo_59 : decode zm_M_canDo.2.1 59 = .ok (.bipush 12, 2) := by decide +kernel
theorem dz_M_canDo_61 : decode zm_M_canDo.2.1 61 = .ok (.iaload, 1) := by decide +kernel
theorem dz_M_canDo_62 : decode zm_M_canDo.2.1 62 = .ok (.invokestatic 169, 3) := by decide +kernel
theorem dz_M_canDo_65 : decode zm_M_canDo.2.1 65 = .ok (.ifCond .eq 12, 3) := by decide +kernel
theorem dz_M_canDo_68 : decode zm_M_canDo.2.1 68 = .ok (.iload 4, 2) := by decide +kernel
theorem dz_M_canDo_70 : decode zm_M_canDo.2.1 70 = .ok (.ifCond .eq 7, 3) := by decide +kernel
theorem dz_M_canDo_73 : decode zm_M_canDo.2.1 73 = .ok (.iconst 1, 1) := by decide +kernel
theorem dz_M_canDo_74 : decode zm_M_canDo.2.1 74 = .ok (.goto 4, 3) := by decide +kernel
theorem dz_M_canDo_77 : decode zm_M_canDo.2.1 77 = .ok (.iconst 0, 1) := by decide +kernel
theorem dz_M_canDo_78 : decode zm_M_canDo.2.1 78 = .ok (.ireturn, 1) := by decide +kernel
