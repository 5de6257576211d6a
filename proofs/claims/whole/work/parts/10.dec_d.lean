theorem dz_M_doesIt_0 : decode zm_M_doesIt.2.1 0 = .ok (.iload_n 1, 1) := by decide +kernel
theorem dz_M_doesIt_1 : decode zm_M_doesIt.2.1 1 = .ok (.bipush 10, 2) := by decide +kernel
theorem dz_M_doesIt_3 : decode zm_M_doesIt.2.1 3 = .ok (.idiv, 1) := by decide +kernel
theorem dz_M_doesIt_4 : decode zm_M_doesIt.2.1 4 = .ok (.istore_n 2, 1) := by decide +kernel
theorem dz_M_doesIt_5 : decode zm_M_doesIt.2.1 5 = .ok (.iload_n 1, 1) := by decide +kernel
theorem dz_M_doesIt_6 : decode zm_M_doesIt.2.1 6 = .ok (.bipush 10, 2) := by decide +kernel
theorem dz_M_doesIt_8 : decode zm_M_doesIt.2.1 8 = .ok (.irem, 1) := by decide +kernel
theorem dz_M_doesIt_9 : decode zm_M_doesIt.2.1 9 = .ok (.istore_n 3, 1) := by decide +kernel
theorem dz_M_doesIt_10 : decode zm_M_doesIt.2.1 10 = .ok (.aload_n 0, 1) := by decide +kernel
theorem dz_M_doesIt_11 : decode zm_M_doesIt.2.1 11 = .ok (.getfield 7, 3) := by decide +kernel
theorem dz_M_doesIt_14 : decode zm_M_doesIt.2.1 14 = .ok (.iload_n 2, 1) := by decide +kernel
theorem dz_M_doesIt_15 : decode zm_M_doesIt.2.1 15 = .ok (.dup2, 1) := by decide +kernel
theorem dz_M_doesIt_16 : decode zm_M_doesIt.2.1 16 = .ok (.iaload, 1) := by decide +kernel
theorem dz_M_doesIt_17 : decode zm_M_doesIt.2.1 17 = .ok (.iload_n 3, 1) := by decide +kernel
theorem dz_M_doesIt_18 : decode zm_M_doesIt.2.1 18 = .ok (.iconst 5, 1) := by decide +kernel
theorem dz_M_doesIt_19 : decode zm_M_doesIt.2.1 19 = .ok (.if_icmp .ge 9, 3) := by decide +kernel
theorem dz_M_doesIt_22 : decode zm_M_doesIt.2.1 22 = .ok (.iconst 1, 1) := by decide +kernel
theorem dz_M_doesIt_23 : decode zm_M_doesIt.2.1 23 = .ok (.iload_n 3, 1) := by decide +kernel
theorem dz_M_doesIt_24 : decode zm_M_doesIt.2.1 24 = .ok (.ishl, 1) := by decide +kernel
theorem dz_M_doesIt_25 : decode zm_M_doesIt.2.1 25 = .ok (.goto 4, 3) := by decide +kernel
theorem dz_M_doesIt_28 : decode zm_M_doesIt.2.1 28 = .ok (.iconst 0, 1) := by decide +kernel
theorem dz_M_doesIt_29 : decode zm_M_doesIt.2.1 29 = .ok (.ior, 1) := by decide +kernel
theorem dz_M_doesIt_30 : decode zm_M_doesIt.2.1 30 = .ok (.iastore, 1) := by decide +kernel
theorem dz_M_doesIt_31 : decode zm_M_doesIt.2.1 31 = .ok (.aload_n 0, 1) := by decide +kernel
theorem dz_M_doesIt_32 : decode zm_M_doesIt.2.1 32 = .ok (.getfield 7, 3) := by decide +kernel
theorem dz_M_doesIt_35 : decode zm_M_doesIt.2.1 35 = .ok (.bipush 6, 2) := by decide +kernel
theorem dz_M_doesIt_37 : decode zm_M_doesIt.2.1 37 = .ok (.iload_n 2, 1) := by decide +kernel
theorem dz_M_doesIt_38 : decode zm_M_doesIt.2.1 38 = .ok (.iadd, 1) := by decide +kernel
theorem dz_M_doesIt_39 : decode zm_M_doesIt.2.1 39 = .ok (.dup2, 1) := by decide +kernel
theorem dz_M_doesIt_40 : decode zm_M_doesIt.2.1 40 = .ok (.iaload, 1) := by decide +kernel
theorem dz_M_doesIt_41 : decode zm_M_doesIt.2.1 41 = .ok (.iload_n 3, 1) := by decide +kernel
theorem dz_M_doesIt_42 : decode zm_M_doesIt.2.1 42 = .ok (.bipush 6, 2) := by decide +kernel
theorem dz_M_doesIt_44 : decode zm_M_doesIt.2.1 44 = .ok (.if_icmp .ne 7, 3) := by decide +kernel
theorem dz_M_doesIt_47 : decode zm_M_doesIt.2.1 47 = .ok (.iconst 0, 1) := by decide +kernel
theorem dz_M_doesIt_48 : decode zm_M_doesIt.2.1 48 = .ok (.goto 4, 3) := by decide +kernel
theorem dz_M_doesIt_51 : decode zm_M_doesIt.2.1 51 = .ok (.iconst 1, 1) := by decide +kernel
theorem dz_M_doesIt_52 : decode zm_M_doesIt.2.1 52 = .ok (.iadd, 1) := by decide +kernel
theorem dz_M_doesIt_53 : decode zm_M_doesIt.2.1 53 = .ok (.iastore, 1) := by decide +kernel
theorem dz_M_doesIt_54 : decode zm_M_doesIt.2.1 54 = .ok (.aload_n 0, 1) := by decide +kernel
theorem dz_M_doesIt_55 : decode zm_M_doesIt.2.1 55 = .ok (.getfield 7, 3) := by decide +kernel
theorem dz_M_doesIt_58 : decode zm_M_doesIt.2.1 58 = .ok (.bipush 12, 2) := by decide +kernel
theorem dz_M_doesIt_60 : decode zm_M_doesIt.2.1 60 = .ok (.dup2, 1) := by decide +kernel
theorem dz_M_doesIt_61 : decode zm_M_doesIt.2.1 61 = .ok (.iaload, 1) := by decide +kernel
theorem dz_M_doesIt_62 : decode zm_M_doesIt.2.1 62 = .ok (.iload_n 3, 1) := by decide +kernel
theorem dz_M_doesIt_63 : decode zm_M_doesIt.2.1 63 = .ok (.bipush 6, 2) := by decide +kernel
theorem dz_M_doesIt_65 : decode zm_M_doesIt.2.1 65 = .ok (.if_icmp .ne 9, 3) := by decide +kernel
theorem dz_M_doesIt_68 : decode zm_M_doesIt.2.1 68 = .ok (.iconst 1, 1) := by decide +kernel
theorem dz_M_doesIt_69 : decode zm_M_doesIt.2.1 69 = .ok (.iload_n 2, 1) := by decide +kernel
theorem dz_M_doesIt_70 : decode zm_M_doesIt.2.1 70 = .ok (.ishl, 1) := by decide +kernel
theorem dz_M_doesIt_71 : decode zm_M_doesIt.2.1 71 = .ok (.goto 4, 3) := by decide +kernel
theorem dz_M_doesIt_74 : decode zm_M_doesIt.2.1 74 = .ok (.iconst 0, 1) := by decide +kernel
theorem dz_M_doesIt_75 : decode zm_M_doesIt.2.1 75 = .ok (.ior, 1) := by decide +kernel
theorem dz_M_doesIt_76 : decode zm_M_doesIt.2.1 76 = .ok (.iastore, 1) := by decide +kernel
theorem dz_M_doesIt_77 : decode zm_M_doesIt.2.1 77 = .ok (.return_, 1) := by decide +kernel
theorem dz_M_done_0 : decode zm_M_done.2.1 0 = .ok (.aload_n 0, 1) := by decide +kernel
theorem dz_M_done_1 : decode zm_M_done.2.1 1 = .ok (.iload_n 1, 1) := by decide +kernel
theorem dz_M_done_2 : decode zm_M_done.2.1 2 = .ok (.invokevirtual 223, 3) := by decide +kernel
theorem dz_M_done_5 : decode zm_M_done.2.1 5 = .ok (.ifCond .ne 5, 3) := by decide +kernel
theorem dz_M_done_8 : decode zm_M_done.2.1 8 = .ok (.iconst (-1), 1) := by decide +kernel
theorem dz_M_done_9 : decode zm_M_done.2.1 9 = .ok (.ireturn, 1) := by decide +kernel
theorem dz_M_done_10 : decode zm_M_done.2.1 10 = .ok (.aload_n 0, 1) := by decide +kernel
theorem dz_M_done_11 : decode zm_M_done.2.1 11 = .ok (.iload_n 1, 1) := by decide +kernel
theorem dz_M_done_12 : decode zm_M_done.2.1 12 = .ok (.invokevirtual 226, 3) := by decide +kernel
theorem dz_M_done_15 : decode zm_M_done.2.1 15 = .ok (.ifCond .ne 6, 3) := by decide +kernel
theorem dz_M_done_18 : decode zm_M_done.2.1 18 = .ok (.bipush (-2), 2) := by decide +kernel
theorem dz_M_done_20 : decode zm_M_done.2.1 20 = .ok (.ireturn, 1) := by decide +kernel
theorem dz_M_done_21 : decode zm_M_done.2.1 21 = .ok (.aload_n 0, 1) := by decide +kernel
theorem dz_M_done_22 : decode zm_M_done.2.1 22 = .ok (.iload_n 1, 1) := by decide +kernel
theorem dz_M_done_23 : decode zm_M_done.2.1 23 = .ok (.invokevirtual 229, 3) := by decide +kernel
theorem dz_M_done_26 : decode zm_M_done.2.1 26 = .ok (.aload_n 0, 1) := by decide +kernel
theorem dz_M_done_27 : decode zm_M_done.2.1 27 = .ok (.getfield 7, 3) := by decide +kernel
theorem dz_M_done_30 : decode zm_M_done.2.1 30 = .ok (.bipush 6, 2) := by decide +kernel
theorem dz_M_done_32 : decode zm_M_done.2.1 32 = .ok (.iload_n 1, 1) := by decide +kernel
theorem dz_M_done_33 : decode zm_M_done.2.1 33 = .ok (.bipush 10, 2) := by decide +kernel
theorem dz_M_done_35 : decode zm_M_done.2.1 35 = .ok (.idiv, 1) := by decide +kernel
theorem dz_M_done_36 : decode zm_M_done.2.1 36 = .ok (.iadd, 1) := by decide +kernel
theorem dz_M_done_37 : decode zm_M_done.2.1 37 = .ok (.iaload, 1) := by decide +kernel
theorem dz_M_done_38 : decode zm_M_done.2.1 38 = .ok (.ireturn, 1) := by decide +kernel
theorem dz_M_does_0 : decode zm_M_does.2.1 0 = .ok (.aload_n 0, 1) := by decide +kernel
theorem dz_M_does_1 : decode zm_M_does.2.1 1 = .ok (.iload_n 1, 1) := by decide +kernel
theorem dz_M_does_2 : decode zm_M_does.2.1 2 = .ok (.invokevirtual 232, 3) := by decide +kernel
theorem dz_M_does_5 : decode zm_M_does.2.1 5 = .ok (.ireturn, 1) := by decide +kernel
theorem dz_M_comes_0 : decode zm_M_comes.2.1 0 = .ok (.aload_n 0, 1) := by decide +kernel
theorem dz_M_comes_1 : decode zm_M_comes.2.1 1 = .ok (.iload_n 1, 1) := by decide +kernel
theorem dz_M_comes_2 : decode zm_M_comes.2.1 2 = .ok (.invokevirtual 203, 3) := by decide +kernel
theorem dz_M_comes_5 : decode zm_M_comes.2.1 5 = .ok (.ifCond .ne 5, 3) := by decide +kernel
theorem dz_M_comes_8 : decode zm_M_comes.2.1 8 = .ok (.iconst (-1), 1) := by decide +kernel
theorem dz_M_comes_9 : decode zm_M_comes.2.1 9 = .ok (.ireturn, 1) := by decide +kernel
theorem dz_M_comes_10 : decode zm_M_comes.2.1 10 = .ok (.aload_n 0, 1) := by decide +kernel
theorem dz_M_comes_11 : decode zm_M_comes.2.1 11 = .ok (.getfield 7, 3) := by decide +kernel
theorem dz_M_comes_14 : decode zm_M_comes.2.1 14 = .ok (.bipush 12, 2) := by decide +kernel
theorem dz_M_comes_16 : decode zm_M_comes.2.1 16 = .ok (.iaload, 1) := by decide +kernel
theorem dz_M_comes_17 : decode zm_M_comes.2.1 17 = .ok (.iload_n 1, 1) := by decide +kernel
theorem dz_M_comes_18 : decode zm_M_comes.2.1 18 = .ok (.ishr, 1) := by decide +kernel
theorem dz_M_comes_19 : decode zm_M_comes.2.1 19 = .ok (.iconst 1, 1) := by decide +kernel
theorem dz_M_comes_20 : decode zm_M_comes.2.1 20 = .ok (.iand, 1) := by decide +kernel
theorem dz_M_comes_21 : decode zm_M_comes.2.1 21 = .ok (.istore_n 2, 1) := by decide +kernel
theorem dz_M_comes_22 : decode zm_M_comes.2.1 22 = .ok (.aload_n 0, 1) := by decide +kernel
theorem dz_M_comes_23 : decode zm_M_comes.2.1 23 = .ok (.getfield 7, 3) := by decide +kernel
theorem dz_M_comes_26 : decode zm_M_comes.2.1 26 = .ok (.bipush 12, 2) := by decide +kernel
theorem dz_M_comes_28 : decode zm_M_comes.2.1 28 = .ok (.dup2, 1) := by decide +kernel
theorem dz_M_comes_29 : decode zm_M_comes.2.1 29 = .ok (.iaload, 1) := by decide +kernel
theorem dz_M_comes_30 : decode zm_M_comes.2.1 30 = .ok (.iconst 1, 1) := by decide +kernel
theorem dz_M_comes_31 : decode zm_M_comes.2.1 31 = .ok (.iload_n 1, 1) := by decide +kernel
theorem dz_M_comes_32 : decode zm_M_comes.2.1 32 = .ok (.ishl, 1) := by decide +kernel
theorem dz_M_comes_33 : decode zm_M_comes.2.1 33 = .ok (.iconst (-1), 1) := by decide +kernel
theorem dz_M_comes_34 : decode zm_M_comes.2.1 34 = .ok (.ixor, 1) := by decide +kernel
theorem dz_M_comes_35 : decode zm_M_comes.2.1 35 = .ok (.iand, 1) := by decide +kernel
theorem dz_M_comes_36 : decode zm_M_comes.2.1 36 = .ok (.iastore, 1) := by decide +kernel
theorem dz_M_comes_37 : decode zm_M_comes.2.1 37 = .ok (.iload_n 2, 1) := by decide +kernel
theorem dz_M_comes_38 : decode zm_M_comes.2.1 38 = .ok (.ireturn, 1) := by decide +kernel
theorem dz_M_tries_0 : decode zm_M_tries.2.1 0 = .ok (.aload_n 0, 1) := by decide +kernel
theorem dz_M_tries_1 : decode zm_M_tries.2.1 1 = .ok (.aload_n 0, 1) := by decide +kernel
theorem dz_M_tries_2 : decode zm_M_tries.2.1 2 = .ok (.iload_n 1, 1) := by decide +kernel
theorem dz_M_tries_3 : decode zm_M_tries.2.1 3 = .ok (.invokevirtual 203, 3) := by decide +kernel
theorem dz_M_tries_6 : decode zm_M_tries.2.1 6 = .ok (.ifCond .eq 19, 3) := by decide +kernel
theorem dz_M_tries_9 : decode zm_M_tries.2.1 9 = .ok (.iload_n 2, 1) := by decide +kernel
theorem dz_M_tries_10 : decode zm_M_tries.2.1 10 = .ok (.i2l, 1) := by decide +kernel
theorem dz_M_tries_11 : decode zm_M_tries.2.1 11 = .ok (.lconst 0, 1) := by decide +kernel
theorem dz_M_tries_12 : decode zm_M_tries.2.1 12 = .ok (.ldc2_w 167, 3) := by decide +kernel
theorem dz_M_tries_15 : decode zm_M_tries.2.1 15 = .ok (.invokestatic 65, 3) := by decide +kernel
theorem dz_M_tries_18 : decode zm_M_tries.2.1 18 = .ok (.ifCond .eq 7, 3) := by decide +kernel
theorem dz_M_tries_21 : decode zm_M_tries.2.1 21 = .ok (.iconst 1, 1) := by decide +kernel
theorem dz_M_tries_22 : decode zm_M_tries.2.1 22 = .ok (.goto 4, 3) := by decide +kernel
theorem dz_M_tries_25 : decode zm_M_tries.2.1 25 = .ok (.iconst 0, 1) := by decide +kernel
theorem dz_M_tries_26 : decode zm_M_tries.2.1 26 = .ok (.bipush 6, 2) := by decide +kernel
theorem dz_M_tries_28 : decode zm_M_tries.2.1 28 = .ok (.iload_n 1, 1) := by decide +kernel
theorem dz_M_tries_29 : decode zm_M_tries.2.1 29 = .ok (.iadd, 1) := by decide +kernel
theorem dz_M_tries_30 : decode zm_M_tries.2.1 30 = .ok (.iload_n 2, 1) := by decide +kernel
theorem dz_M_tries_31 : decode zm_M_tries.2.1 31 = .ok (.invokevirtual 235, 3) := by decide +kernel
theorem dz_M_tries_34 : decode zm_M_tries.2.1 34 = .ok (.ireturn, 1) := by decide +kernel
theorem dz_M_hush_0 : decode zm_M_hush.2.1 0 = .ok (.aload_n 0, 1) := by decide +kernel
theorem dz_M_hush_1 : decode zm_M_hush.2.1 1 = .ok (.iload_n 1, 1) := by decide +kernel
theorem dz_M_hush_2 : decode zm_M_hush.2.1 2 = .ok (.invokevirtual 203, 3) := by decide +kernel
theorem dz_M_hush_5 : decode zm_M_hush.2.1 5 = .ok (.ifCond .eq 10, 3) := by decide +kernel
theorem dz_M_hush_8 : decode zm_M_hush.2.1 8 = .ok (.iload_n 2, 1) := by decide +kernel
theorem dz_M_hush_9 : decode zm_M_hush.2.1 9 = .ok (.invokestatic 209, 3) := by decide +kernel
theorem dz_M_hush_12 : decode zm_M_hush.2.1 12 = .ok (.ifCond .ne 5, 3) := by decide +kernel
theorem dz_M_hush_15 : decode zm_M_hush.2.1 15 = .ok (.iconst (-1), 1) := by decide +kernel
theorem dz_M_hush_16 : decode zm_M_hush.2.1 16 = .ok (.ireturn, 1) := by decide +kernel
theorem dz_M_hush_17 : decode zm_M_hush.2.1 17 = .ok (.aload_n 0, 1) := by decide +kernel
theorem dz_M_hush_18 : decode zm_M_hush.2.1 18 = .ok (.getfield 7, 3) := by decide +kernel
theorem dz_M_hush_21 : decode zm_M_hush.2.1 21 = .ok (.iload_n 1, 1) := by decide +kernel
theorem dz_M_hush_22 : decode zm_M_hush.2.1 22 = .ok (.iaload, 1) := by decide +kernel
theorem dz_M_hush_23 : decode zm_M_hush.2.1 23 = .ok (.iload_n 2, 1) := by decide +kernel
theorem dz_M_hush_24 : decode zm_M_hush.2.1 24 = .ok (.ishr, 1) := by decide +kernel
theorem dz_M_hush_25 : decode zm_M_hush.2.1 25 = .ok (.iconst 1, 1) := by decide +kernel
theorem dz_M_hush_26 : decode zm_M_hush.2.1 26 = .ok (.iand, 1) := by decide +kernel
theorem dz_M_hush_27 : decode zm_M_hush.2.1 27 = .ok (.istore_n 3, 1) := by decide +kernel
theorem dz_M_hush_28 : decode zm_M_hush.2.1 28 = .ok (.aload_n 0, 1) := by decide +kernel
theorem dz_M_hush_29 : decode zm_M_hush.2.1 29 = .ok (.getfield 7, 3) := by decide +kernel
theorem dz_M_hush_32 : decode zm_M_hush.2.1 32 = .ok (.iload_n 1, 1) := by decide +kernel
theorem dz_M_hush_33 : decode zm_M_hush.2.1 33 = .ok (.dup2, 1) := by decide +kernel
theorem dz_M_hush_34 : decode zm_M_hush.2.1 34 = .ok (.iaload, 1) := by decide +kernel
theorem dz_M_hush_35 : decode zm_M_hush.2.1 35 = .ok (.iconst 1, 1) := by decide +kernel
theorem dz_M_hush_36 : decode zm_M_hush.2.1 36 = .ok (.iload_n 2, 1) := by decide +kernel
theorem dz_M_hush_37 : decode zm_M_hush.2.1 37 = .ok (.ishl, 1) := by decide +kernel
theorem dz_M_hush_38 : decode zm_M_hush.2.1 38 = .ok (.iconst (-1), 1) := by decide +kernel
theorem dz_M_hush_39 : decode zm_M_hush.2.1 39 = .ok (.ixor, 1) := by decide +kernel
theorem dz_M_hush_40 : decode zm_M_hush.2.1 40 = .ok (.iand, 1) := by decide +kernel
theorem dz_M_hush_41 : decode zm_M_hush.2.1 41 = .ok (.iastore, 1) := by decide +kernel
theorem dz_M_hush_42 : decode zm_M_hush.2.1 42 = .ok (.iload_n 3, 1) := by decide +kernel
theorem dz_M_hush_43 : decode zm_M_hush.2.1 43 = .ok (.ireturn, 1) := by decide +kernel
theorem dz_M_weigh_0 : decode zm_M_weigh.2.1 0 = .ok (.iload_n 1, 1) := by decide +kernel
theorem dz_M_weigh_1 : decode zm_M_weigh.2.1 1 = .ok (.invokestatic 209, 3) := by decide +kernel
theorem dz_M_weigh_4 : decode zm_M_weigh.2.1 4 = .ok (.ifCond .eq 32, 3) := by decide +kernel
theorem dz_M_weigh_7 : decode zm_M_weigh.2.1 7 = .ok (.iload_n 2, 1) := by decide +kernel
theorem dz_M_weigh_8 : decode zm_M_weigh.2.1 8 = .ok (.i2l, 1) := by decide +kernel
theorem dz_M_weigh_9 : decode zm_M_weigh.2.1 9 = .ok (.lconst 0, 1) := by decide +kernel
theorem dz_M_weigh_10 : decode zm_M_weigh.2.1 10 = .ok (.ldc2_w 239, 3) := by decide +kernel
theorem dz_M_weigh_13 : decode zm_M_weigh.2.1 13 = .ok (.invokestatic 65, 3) := by decide +kernel
theorem dz_M_weigh_16 : decode zm_M_weigh.2.1 16 = .ok (.ifCond .eq 20, 3) := by decide +kernel
theorem dz_M_weigh_19 : decode zm_M_weigh.2.1 19 = .ok (.iconst 5, 1) := by decide +kernel
theorem dz_M_weigh_20 : decode zm_M_weigh.2.1 20 = .ok (.aload_n 0, 1) := by decide +kernel
theorem dz_M_weigh_21 : decode zm_M_weigh.2.1 21 = .ok (.iconst 1, 1) := by decide +kernel
theorem dz_M_weigh_22 : decode zm_M_weigh.2.1 22 = .ok (.bipush 13, 2) := by decide +kernel
theorem dz_M_weigh_24 : decode zm_M_weigh.2.1 24 = .ok (.iload_n 1, 1) := by decide +kernel
theorem dz_M_weigh_25 : decode zm_M_weigh.2.1 25 = .ok (.iadd, 1) := by decide +kernel
theorem dz_M_weigh_26 : decode zm_M_weigh.2.1 26 = .ok (.iload_n 2, 1) := by decide +kernel
theorem dz_M_weigh_27 : decode zm_M_weigh.2.1 27 = .ok (.iconst 5, 1) := by decide +kernel
theorem dz_M_weigh_28 : decode zm_M_weigh.2.1 28 = .ok (.isub, 1) := by decide +kernel
theorem dz_M_weigh_29 : decode zm_M_weigh.2.1 29 = .ok (.invokevirtual 235, 3) := by decide +kernel
theorem dz_M_weigh_32 : decode zm_M_weigh.2.1 32 = .ok (.iadd, 1) := by decide +kernel
theorem dz_M_weigh_33 : decode zm_M_weigh.2.1 33 = .ok (.goto 4, 3) := by decide +kernel
theorem dz_M_weigh_36 : decode zm_M_weigh.2.1 36 = .ok (.iconst (-1), 1) := by decide +kernel
theorem dz_M_weigh_37 : decode zm_M_weigh.2.1 37 = .ok (.ireturn, 1) := by decide +kernel
theorem dz_M_rank_0 : decode zm_M_rank.2.1 0 = .ok (.aload_n 0, 1) := by decide +kernel
theorem dz_M_rank_1 : decode zm_M_rank.2.1 1 = .ok (.iload_n 1, 1) := by decide +kernel
theorem dz_M_rank_2 : decode zm_M_rank.2.1 2 = .ok (.invokevirtual 212, 3) := by decide +kernel
theorem dz_M_rank_5 : decode zm_M_rank.2.1 5 = .ok (.ifCond .eq 15, 3) := by decide +kernel
theorem dz_M_rank_8 : decode zm_M_rank.2.1 8 = .ok (.iload_n 2, 1) := by decide +kernel
theorem dz_M_rank_9 : decode zm_M_rank.2.1 9 = .ok (.i2l, 1) := by decide +kernel
theorem dz_M_rank_10 : decode zm_M_rank.2.1 10 = .ok (.lconst 1, 1) := by decide +kernel
theorem dz_M_rank_11 : decode zm_M_rank.2.1 11 = .ok (.ldc2_w 123, 3) := by decide +kernel
theorem dz_M_rank_14 : decode zm_M_rank.2.1 14 = .ok (.invokestatic 65, 3) := by decide +kernel
theorem dz_M_rank_17 : decode zm_M_rank.2.1 17 = .ok (.ifCond .ne 5, 3) := by decide +kernel
theorem dz_M_rank_20 : decode zm_M_rank.2.1 20 = .ok (.iconst (-1), 1) := by decide +kernel
theorem dz_M_rank_21 : decode zm_M_rank.2.1 21 = .ok (.ireturn, 1) := by decide +kernel
theorem dz_M_rank_22 : decode zm_M_rank.2.1 22 = .ok (.iconst 0, 1) := by decide +kernel
theorem dz_M_rank_23 : decode zm_M_rank.2.1 23 = .ok (.istore_n 3, 1) := by decide +kernel
theorem dz_M_rank_24 : decode zm_M_rank.2.1 24 = .ok (.iload_n 3, 1) := by decide +kernel
theorem dz_M_rank_25 : decode zm_M_rank.2.1 25 = .ok (.aload_n 0, 1) := by decide +kernel
theorem dz_M_rank_26 : decode zm_M_rank.2.1 26 = .ok (.getfield 161, 3) := by decide +kernel
theorem dz_M_rank_29 : decode zm_M_rank.2.1 29 = .ok (.if_icmp .ge 49, 3) := by decide +kernel
theorem dz_M_rank_32 : decode zm_M_rank.2.1 32 = .ok (.iload_n 3, 1) := by decide +kernel
theorem dz_M_rank_33 : decode zm_M_rank.2.1 33 = .ok (.iload_n 1, 1) := by decide +kernel
theorem dz_M_rank_34 : decode zm_M_rank.2.1 34 = .ok (.if_icmp .eq 38, 3) := by decide +kernel
theorem dz_M_rank_37 : decode zm_M_rank.2.1 37 = .ok (.aload_n 0, 1) := by decide +kernel
theorem dz_M_rank_38 : decode zm_M_rank.2.1 38 = .ok (.getfield 16, 3) := by decide +kernel
theorem dz_M_rank_41 : decode zm_M_rank.2.1 41 = .ok (.iconst 3, 1) := by decide +kernel
theorem dz_M_rank_42 : decode zm_M_rank.2.1 42 = .ok (.iload_n 3, 1) := by decide +kernel
theorem dz_M_rank_43 : decode zm_M_rank.2.1 43 = .ok (.imul, 1) := by decide +kernel
theorem dz_M_rank_44 : decode zm_M_rank.2.1 44 = .ok (.iaload, 1) := by decide +kernel
theorem dz_M_rank_45 : decode zm_M_rank.2.1 45 = .ok (.aload_n 0, 1) := by decide +kernel
theorem dz_M_rank_46 : decode zm_M_rank.2.1 46 = .ok (.getfield 16, 3) := by decide +kernel
theorem dz_M_rank_49 : decode zm_M_rank.2.1 49 = .ok (.iconst 3, 1) := by decide +kernel
theorem dz_M_rank_50 : decode zm_M_rank.2.1 50 = .ok (.iload_n 1, 1) := by decide +kernel
theorem dz_M_rank_51 : decode zm_M_rank.2.1 51 = .ok (.imul, 1) := by decide +kernel
theorem dz_M_rank_52 : decode zm_M_rank.2.1 52 = .ok (.iaload, 1) := by decide +kernel
theorem dz_M_rank_53 : decode zm_M_rank.2.1 53 = .ok (.if_icmp .ne 19, 3) := by decide +kernel
theorem dz_M_rank_56 : decode zm_M_rank.2.1 56 = .ok (.aload_n 0, 1) := by decide +kernel
theorem dz_M_rank_57 : decode zm_M_rank.2.1 57 = .ok (.getfield 7, 3) := by decide +kernel
theorem dz_M_rank_60 : decode zm_M_rank.2.1 60 = .ok (.bipush 18, 2) := by decide +kernel
theorem dz_M_rank_62 : decode zm_M_rank.2.1 62 = .ok (.iload_n 3, 1) := by decide +kernel
theorem dz_M_rank_63 : decode zm_M_rank.2.1 63 = .ok (.iadd, 1) := by decide +kernel
theorem dz_M_rank_64 : decode zm_M_rank.2.1 64 = .ok (.iaload, 1) := by decide +kernel
theorem dz_M_rank_65 : decode zm_M_rank.2.1 65 = .ok (.iload_n 2, 1) := by decide +kernel
theorem dz_M_rank_66 : decode zm_M_rank.2.1 66 = .ok (.if_icmp .ne 6, 3) := by decide +kernel
theorem dz_M_rank_69 : decode zm_M_rank.2.1 69 = .ok (.bipush (-2), 2) := by decide +kernel
theorem dz_M_rank_71 : decode zm_M_rank.2.1 71 = .ok (.ireturn, 1) := by decide +kernel
theorem dz_M_rank_72 : decode zm_M_rank.2.1 72 = .ok (.iinc 3 1, 3) := by decide +kernel
theorem dz_M_rank_75 : decode zm_M_rank.2.1 75 = .ok (.goto (-51), 3) := by decide +kernel
theorem dz_M_rank_78 : decode zm_M_rank.2.1 78 = .ok (.aload_n 0, 1) := by decide +kernel
theorem dz_M_rank_79 : decode zm_M_rank.2.1 79 = .ok (.iconst 1, 1) := by decide +kernel
theorem dz_M_rank_80 : decode zm_M_rank.2.1 80 = .ok (.bipush 18, 2) := by decide +kernel
theorem dz_M_rank_82 : decode zm_M_rank.2.1 82 = .ok (.iload_n 1, 1) := by decide +kernel
theorem dz_M_rank_83 : decode zm_M_rank.2.1 83 = .ok (.iadd, 1) := by decide +kernel
theorem dz_M_rank_84 : decode zm_M_rank.2.1 84 = .ok (.iload_n 2, 1) := by decide +kernel
theorem dz_M_rank_85 : decode zm_M_rank.2.1 85 = .ok (.invokevirtual 235, 3) := by decide +kernel
theorem dz_M_rank_88 : decode zm_M_rank.2.1 88 = .ok (.ireturn, 1) := by decide +kernel
theorem dz_M_pick_0 : decode zm_M_pick.2.1 0 = .ok (.aload_n 0, 1) := by decide +kernel
theorem dz_M_pick_1 : decode zm_M_pick.2.1 1 = .ok (.aload_n 0, 1) := by decide +kernel
theorem dz_M_pick_2 : decode zm_M_pick.2.1 2 = .ok (.iload_n 1, 1) := by decide +kernel
theorem dz_M_pick_3 : decode zm_M_pick.2.1 3 = .ok (.invokevirtual 212, 3) := by decide +kernel
theorem dz_M_pick_6 : decode zm_M_pick.2.1 6 = .ok (.ifCond .eq 19, 3) := by decide +kernel
theorem dz_M_pick_9 : decode zm_M_pick.2.1 9 = .ok (.iload_n 2, 1) := by decide +kernel
theorem dz_M_pick_10 : decode zm_M_pick.2.1 10 = .ok (.i2l, 1) := by decide +kernel
theorem dz_M_pick_11 : decode zm_M_pick.2.1 11 = .ok (.lconst 0, 1) := by decide +kernel
theorem dz_M_pick_12 : decode zm_M_pick.2.1 12 = .ok (.ldc2_w 241, 3) := by decide +kernel
theorem dz_M_pick_15 : decode zm_M_pick.2.1 15 = .ok (.invokestatic 65, 3) := by decide +kernel
theorem dz_M_pick_18 : decode zm_M_pick.2.1 18 = .ok (.ifCond .eq 7, 3) := by decide +kernel
theorem dz_M_pick_21 : decode zm_M_pick.2.1 21 = .ok (.iconst 1, 1) := by decide +kernel
theorem dz_M_pick_22 : decode zm_M_pick.2.1 22 = .ok (.goto 4, 3) := by decide +kernel
theorem dz_M_pick_25 : decode zm_M_pick.2.1 25 = .ok (.iconst 0, 1) := by decide +kernel
theorem dz_M_pick_26 : decode zm_M_pick.2.1 26 = .ok (.bipush 23, 2) := by decide +kernel
theorem dz_M_pick_28 : decode zm_M_pick.2.1 28 = .ok (.iload_n 1, 1) := by decide +kernel
theorem dz_M_pick_29 : decode zm_M_pick.2.1 29 = .ok (.iadd, 1) := by decide +kernel
theorem dz_M_pick_30 : decode zm_M_pick.2.1 30 = .ok (.iload_n 2, 1) := by decide +kernel
theorem dz_M_pick_31 : decode zm_M_pick.2.1 31 = .ok (.invokevirtual 235, 3) := by decide +kernel
theorem dz_M_pick_34 : decode zm_M_pick.2.1 34 = .ok (.ireturn, 1) := by decide +kernel
theorem dz_M_copies_0 : decode zm_M_copies.2.1 0 = .ok (.iconst 0, 1) := by decide +kernel
theorem dz_M_copies_1 : decode zm_M_copies.2.1 1 = .ok (.istore_n 3, 1) := by decide +kernel
theorem dz_M_copies_2 : decode zm_M_copies.2.1 2 = .ok (.iload_n 3, 1) := by decide +kernel
theorem dz_M_copies_3 : decode zm_M_copies.2.1 3 = .ok (.bipush 28, 2) := by decide +kernel
theorem dz_M_copies_5 : decode zm_M_copies.2.1 5 = .ok (.if_icmp .ge 25, 3) := by decide +kernel
theorem dz_M_copies_8 : decode zm_M_copies.2.1 8 = .ok (.aload_n 0, 1) := by decide +kernel
theorem dz_M_copies_9 : decode zm_M_copies.2.1 9 = .ok (.getfield 7, 3) := by decide +kernel
theorem dz_M_copies_12 : decode zm_M_copies.2.1 12 = .ok (.iload_n 2, 1) := by decide +kernel
theorem dz_M_copies_13 : decode zm_M_copies.2.1 13 = .ok (.iload_n 3, 1) := by decide +kernel
theorem dz_M_copies_14 : decode zm_M_copies.2.1 14 = .ok (.iadd, 1) := by decide +kernel
theorem dz_M_copies_15 : decode zm_M_copies.2.1 15 = .ok (.aload_n 0, 1) := by decide +kernel
theorem dz_M_copies_16 : decode zm_M_copies.2.1 16 = .ok (.getfield 7, 3) := by decide +kernel
theorem dz_M_copies_19 : decode zm_M_copies.2.1 19 = .ok (.iload_n 1, 1) := by decide +kernel
theorem dz_M_copies_20 : decode zm_M_copies.2.1 20 = .ok (.iload_n 3, 1) := by decide +kernel
theorem dz_M_copies_21 : decode zm_M_copies.2.1 21 = .ok (.iadd, 1) := by decide +kernel
theorem dz_M_copies_22 : decode zm_M_copies.2.1 22 = .ok (.iaload, 1) := by decide +kernel
theorem dz_M_copies_23 : decode zm_M_copies.2.1 23 = .ok (.iastore, 1) := by decide +kernel
theorem dz_M_copies_24 : decode zm_M_copies.2.1 24 = .ok (.iinc 3 1, 3) := by decide +kernel
theorem dz_M_copies_27 : decode zm_M_copies.2.1 27 = .ok (.goto (-25), 3) := by decide +kernel
theorem dz_M_copies_30 : decode zm_M_copies.2.1 30 = .ok (.return_, 1) := by decide +kernel
theorem dz_M_isHisBy_0 : decode zm_M_isHisBy.2.1 0 = .ok (.iload_n 3, 1) := by decide +kernel
theorem dz_M_isHisBy_1 : decode zm_M_isHisBy.2.1 1 = .ok (.ifCond .ne 7, 3) := by decide +kernel
theorem dz_M_isHisBy_4 : decode zm_M_isHisBy.2.1 4 = .ok (.iconst 0, 1) := by decide +kernel
theorem dz_M_isHisBy_5 : decode zm_M_isHisBy.2.1 5 = .ok (.goto 25, 3) := by decide +kernel
theorem dz_M_isHisBy_8 : decode zm_M_isHisBy.2.1 8 = .ok (.iload_n 3, 1) := by decide +kernel
theorem dz_M_isHisBy_9 : decode zm_M_isHisBy.2.1 9 = .ok (.iconst 1, 1) := by decide +kernel
theorem dz_M_isHisBy_10 : decode zm_M_isHisBy.2.1 10 = .ok (.if_icmp .ne 7, 3) := by decide +kernel
theorem dz_M_isHisBy_13 : decode zm_M_isHisBy.2.1 13 = .ok (.iconst 1, 1) := by decide +kernel
theorem dz_M_isHisBy_14 : decode zm_M_isHisBy.2.1 14 = .ok (.goto 16, 3) := by decide +kernel
theorem dz_M_isHisBy_17 : decode zm_M_isHisBy.2.1 17 = .ok (.iload_n 3, 1) := by decide +kernel
theorem dz_M_isHisBy_18 : decode zm_M_isHisBy.2.1 18 = .ok (.iconst 2, 1) := by decide +kernel
theorem dz_M_isHisBy_19 : decode zm_M_isHisBy.2.1 19 = .ok (.if_icmp .ne 8, 3) := by decide +kernel
theorem dz_M_isHisBy_22 : decode zm_M_isHisBy.2.1 22 = .ok (.bipush 60, 2) := by decide +kernel
theorem dz_M_isHisBy_24 : decode zm_M_isHisBy.2.1 24 = .ok (.goto 6, 3) := by decide +kernel
theorem dz_M_isHisBy_27 : decode zm_M_isHisBy.2.1 27 = .ok (.sipush 3600, 3) := by decide +kernel
theorem dz_M_isHisBy_30 : decode zm_M_isHisBy.2.1 30 = .ok (.istore 5, 2) := by decide +kernel
theorem dz_M_isHisBy_32 : decode zm_M_isHisBy.2.1 32 = .ok (.iconst 1, 1) := by decide +kernel
theorem dz_M_isHisBy_33 : decode zm_M_isHisBy.2.1 33 = .ok (.istore 6, 2) := by decide +kernel
theorem dz_M_isHisBy_35 : decode zm_M_isHisBy.2.1 35 = .ok (.aload_n 0, 1) := by decide +kernel
theorem dz_M_isHisBy_36 : decode zm_M_isHisBy.2.1 36 = .ok (.iconst 1, 1) := by decide +kernel
theorem dz_M_isHisBy_37 : decode zm_M_isHisBy.2.1 37 = .ok (.putfield 243, 3) := by decide +kernel
theorem dz_M_isHisBy_40 : decode zm_M_isHisBy.2.1 40 = .ok (.aload_n 0, 1) := by decide +kernel
theorem dz_M_isHisBy_41 : decode zm_M_isHisBy.2.1 41 = .ok (.iconst 0, 1) := by decide +kernel
theorem dz_M_isHisBy_42 : decode zm_M_isHisBy.2.1 42 = .ok (.bipush 84, 2) := by decide +kernel
theorem dz_M_isHisBy_44 : decode zm_M_isHisBy.2.1 44 = .ok (.invokevirtual 246, 3) := by decide +kernel
theorem dz_M_isHisBy_47 : decode zm_M_isHisBy.2.1 47 = .ok (.iconst 0, 1) := by decide +kernel
theorem dz_M_isHisBy_48 : decode zm_M_isHisBy.2.1 48 = .ok (.istore 7, 2) := by decide +kernel
theorem dz_M_isHisBy_50 : decode zm_M_isHisBy.2.1 50 = .ok (.iload 7, 2) := by decide +kernel
theorem dz_M_isHisBy_52 : decode zm_M_isHisBy.2.1 52 = .ok (.iload_n 3, 1) := by decide +kernel
theorem dz_M_isHisBy_53 : decode zm_M_isHisBy.2.1 53 = .ok (.if_icmp .ge 102, 3) := by decide +kernel
theorem dz_M_isHisBy_56 : decode zm_M_isHisBy.2.1 56 = .ok (.iload 6, 2) := by decide +kernel
theorem dz_M_isHisBy_58 : decode zm_M_isHisBy.2.1 58 = .ok (.ifCond .eq 97, 3) := by decide +kernel
theorem dz_M_isHisBy_61 : decode zm_M_isHisBy.2.1 61 = .ok (.aload_n 0, 1) := by decide +kernel
theorem dz_M_isHisBy_62 : decode zm_M_isHisBy.2.1 62 = .ok (.getfield 40, 3) := by decide +kernel
theorem dz_M_isHisBy_65 : decode zm_M_isHisBy.2.1 65 = .ok (.iload 7, 2) := by decide +kernel
theorem dz_M_isHisBy_67 : decode zm_M_isHisBy.2.1 67 = .ok (.iload 4, 2) := by decide +kernel
theorem dz_M_isHisBy_69 : decode zm_M_isHisBy.2.1 69 = .ok (.iload 5, 2) := by decide +kernel
theorem dz_M_isHisBy_71 : decode zm_M_isHisBy.2.1 71 = .ok (.idiv, 1) := by decide +kernel
theorem dz_M_isHisBy_72 : decode zm_M_isHisBy.2.1 72 = .ok (.bipush 60, 2) := by decide +kernel
theorem dz_M_isHisBy_74 : decode zm_M_isHisBy.2.1 74 = .ok (.irem, 1) := by decide +kernel
theorem dz_M_isHisBy_75 : decode zm_M_isHisBy.2.1 75 = .ok (.iastore, 1) := by decide +kernel
theorem dz_M_isHisBy_76 : decode zm_M_isHisBy.2.1 76 = .ok (.aload_n 0, 1) := by decide +kernel
theorem dz_M_isHisBy_77 : decode zm_M_isHisBy.2.1 77 = .ok (.aload_n 0, 1) := by decide +kernel
theorem dz_M_isHisBy_78 : decode zm_M_isHisBy.2.1 78 = .ok (.getfield 40, 3) := by decide +kernel
theorem dz_M_isHisBy_81 : decode zm_M_isHisBy.2.1 81 = .ok (.iload 7, 2) := by decide +kernel
theorem dz_M_isHisBy_83 : decode zm_M_isHisBy.2.1 83 = .ok (.iaload, 1) := by decide +kernel
theorem dz_M_isHisBy_84 : decode zm_M_isHisBy.2.1 84 = .ok (.invokevirtual 223, 3) := by decide +kernel
theorem dz_M_isHisBy_87 : decode zm_M_isHisBy.2.1 87 = .ok (.ifCond .eq 21, 3) := by decide +kernel
theorem dz_M_isHisBy_90 : decode zm_M_isHisBy.2.1 90 = .ok (.aload_n 0, 1) := by decide +kernel
theorem dz_M_isHisBy_91 : decode zm_M_isHisBy.2.1 91 = .ok (.aload_n 0, 1) := by decide +kernel
theorem dz_M_isHisBy_92 : decode zm_M_isHisBy.2.1 92 = .ok (.getfield 40, 3) := by decide +kernel
theorem dz_M_isHisBy_95 : decode zm_M_isHisBy.2.1 95 = .ok (.iload 7, 2) := by decide +kernel
theorem dz_M_isHisBy_97 : decode zm_M_isHisBy.2.1 97 = .ok (.iaload, 1) := by decide +kernel
theorem dz_M_isHisBy_98 : decode zm_M_isHisBy.2.1 98 = .ok (.invokevirtual 226, 3) := by decide +kernel
theorem dz_M_isHisBy_101 : decode zm_M_isHisBy.2.1 101 = .ok (.ifCond .eq 7, 3) := by decide +kernel
theorem dz_M_isHisBy_104 : decode zm_M_isHisBy.2.1 104 = .ok (.iconst 1, 1) := by decide +kernel
theorem dz_M_isHisBy_105 : decode zm_M_isHisBy.2.1 105 = .ok (.goto 4, 3) := by decide +kernel
theorem dz_M_isHisBy_108 : decode zm_M_isHisBy.2.1 108 = .ok (.iconst 0, 1) := by decide +kernel
theorem dz_M_isHisBy_109 : decode zm_M_isHisBy.2.1 109 = .ok (.istore 6, 2) := by decide +kernel
theorem dz_M_isHisBy_111 : decode zm_M_isHisBy.2.1 111 = .ok (.aload_n 0, 1) := by decide +kernel
theorem dz_M_isHisBy_112 : decode zm_M_isHisBy.2.1 112 = .ok (.iload 6, 2) := by decide +kernel
theorem dz_M_isHisBy_114 : decode zm_M_isHisBy.2.1 114 = .ok (.ifCond .eq 7, 3) := by decide +kernel
theorem dz_M_isHisBy_117 : decode zm_M_isHisBy.2.1 117 = .ok (.iconst 1, 1) := by decide +kernel
theorem dz_M_isHisBy_118 : decode zm_M_isHisBy.2.1 118 = .ok (.goto 5, 3) := by decide +kernel
theorem dz_M_isHisBy_121 : decode zm_M_isHisBy.2.1 121 = .ok (.iload 5, 2) := by decide +kernel
theorem dz_M_isHisBy_123 : decode zm_M_isHisBy.2.1 123 = .ok (.putfield 243, 3) := by decide +kernel
theorem dz_M_isHisBy_126 : decode zm_M_isHisBy.2.1 126 = .ok (.iload 6, 2) := by decide +kernel
theorem dz_M_isHisBy_128 : decode zm_M_isHisBy.2.1 128 = .ok (.ifCond .eq 14, 3) := by decide +kernel
theorem dz_M_isHisBy_131 : decode zm_M_isHisBy.2.1 131 = .ok (.aload_n 0, 1) := by decide +kernel
theorem dz_M_isHisBy_132 : decode zm_M_isHisBy.2.1 132 = .ok (.aload_n 0, 1) := by decide +kernel
theorem dz_M_isHisBy_133 : decode zm_M_isHisBy.2.1 133 = .ok (.getfield 40, 3) := by decide +kernel
theorem dz_M_isHisBy_136 : decode zm_M_isHisBy.2.1 136 = .ok (.iload 7, 2) := by decide +kernel
theorem dz_M_isHisBy_138 : decode zm_M_isHisBy.2.1 138 = .ok (.iaload, 1) := by decide +kernel
theorem dz_M_isHisBy_139 : decode zm_M_isHisBy.2.1 139 = .ok (.invokevirtual 229, 3) := by decide +kernel
theorem dz_M_isHisBy_142 : decode zm_M_isHisBy.2.1 142 = .ok (.iload 5, 2) := by decide +kernel
theorem dz_M_isHisBy_144 : decode zm_M_isHisBy.2.1 144 = .ok (.bipush 60, 2) := by decide +kernel
theorem dz_M_isHisBy_146 : decode zm_M_isHisBy.2.1 146 = .ok (.idiv, 1) := by decide +kernel
theorem dz_M_isHisBy_147 : decode zm_M_isHisBy.2.1 147 = .ok (.istore 5, 2) := by decide +kernel
theorem dz_M_isHisBy_149 : decode zm_M_isHisBy.2.1 149 = .ok (.iinc 7 1, 3) := by decide +kernel
theorem dz_M_isHisBy_152 : decode zm_M_isHisBy.2.1 152 = .ok (.goto (-102), 3) := by decide +kernel
theorem dz_M_isHisBy_155 : decode zm_M_isHisBy.2.1 155 = .ok (.iload 6, 2) := by decide +kernel
theorem dz_M_isHisBy_157 : decode zm_M_isHisBy.2.1 157 = .ok (.ifCond .eq 23, 3) := by decide +kernel
theorem dz_M_isHisBy_160 : decode zm_M_isHisBy.2.1 160 = .ok (.aload_n 0, 1) := by decide +kernel
theorem dz_M_isHisBy_161 : decode zm_M_isHisBy.2.1 161 = .ok (.iload_n 2, 1) := by decide +kernel
theorem dz_M_isHisBy_162 : decode zm_M_isHisBy.2.1 162 = .ok (.aload_n 0, 1) := by decide +kernel
theorem dz_M_isHisBy_163 : decode zm_M_isHisBy.2.1 163 = .ok (.getfield 7, 3) := by decide +kernel
theorem dz_M_isHisBy_166 : decode zm_M_isHisBy.2.1 166 = .ok (.bipush 12, 2) := by decide +kernel
theorem dz_M_isHisBy_168 : decode zm_M_isHisBy.2.1 168 = .ok (.iaload, 1) := by decide +kernel
theorem dz_M_isHisBy_169 : decode zm_M_isHisBy.2.1 169 = .ok (.invokevirtual 220, 3) := by decide +kernel
theorem dz_M_isHisBy_172 : decode zm_M_isHisBy.2.1 172 = .ok (.iload_n 1, 1) := by decide +kernel
theorem dz_M_isHisBy_173 : decode zm_M_isHisBy.2.1 173 = .ok (.if_icmp .ne 7, 3) := by decide +kernel
theorem dz_M_isHisBy_176 : decode zm_M_isHisBy.2.1 176 = .ok (.iconst 1, 1) := by decide +kernel
theorem dz_M_isHisBy_177 : decode zm_M_isHisBy.2.1 177 = .ok (.goto 4, 3) := by decide +kernel
theorem dz_M_isHisBy_180 : decode zm_M_isHisBy.2.1 180 = .ok (.iconst 0, 1) := by decide +kernel
theorem dz_M_isHisBy_181 : decode zm_M_isHisBy.2.1 181 = .ok (.istore 7, 2) := by decide +kernel
theorem dz_M_isHisBy_183 : decode zm_M_isHisBy.2.1 183 = .ok (.aload_n 0, 1) := by decide +kernel
theorem dz_M_isHisBy_184 : decode zm_M_isHisBy.2.1 184 = .ok (.bipush 84, 2) := by decide +kernel
theorem dz_M_isHisBy_186 : decode zm_M_isHisBy.2.1 186 = .ok (.iconst 0, 1) := by decide +kernel
theorem dz_M_isHisBy_187 : decode zm_M_isHisBy.2.1 187 = .ok (.invokevirtual 246, 3) := by decide +kernel
theorem dz_M_isHisBy_190 : decode zm_M_isHisBy.2.1 190 = .ok (.iload 7, 2) := by decide +kernel
theorem dz_M_isHisBy_192 : decode zm_M_isHisBy.2.1 192 = .ok (.ireturn, 1) := by decide +kernel
theorem dz_M_claim_0 : decode zm_M_claim.2.1 0 = .ok (.aload_n 0, 1) := by decide +kernel
theorem dz_M_claim_1 : decode zm_M_claim.2.1 1 = .ok (.iload_n 1, 1) := by decide +kernel
theorem dz_M_claim_2 : decode zm_M_claim.2.1 2 = .ok (.invokevirtual 203, 3) := by decide +kernel
theorem dz_M_claim_5 : decode zm_M_claim.2.1 5 = .ok (.ifCond .eq 44, 3) := by decide +kernel
theorem dz_M_claim_8 : decode zm_M_claim.2.1 8 = .ok (.iload_n 2, 1) := by decide +kernel
theorem dz_M_claim_9 : decode zm_M_claim.2.1 9 = .ok (.invokestatic 217, 3) := by decide +kernel
theorem dz_M_claim_12 : decode zm_M_claim.2.1 12 = .ok (.ifCond .eq 37, 3) := by decide +kernel
theorem dz_M_claim_15 : decode zm_M_claim.2.1 15 = .ok (.iload_n 3, 1) := by decide +kernel
theorem dz_M_claim_16 : decode zm_M_claim.2.1 16 = .ok (.i2l, 1) := by decide +kernel
theorem dz_M_claim_17 : decode zm_M_claim.2.1 17 = .ok (.lconst 0, 1) := by decide +kernel
theorem dz_M_claim_18 : decode zm_M_claim.2.1 18 = .ok (.ldc2_w 167, 3) := by decide +kernel
theorem dz_M_claim_21 : decode zm_M_claim.2.1 21 = .ok (.invokestatic 65, 3) := by decide +kernel
theorem dz_M_claim_24 : decode zm_M_claim.2.1 24 = .ok (.ifCond .eq 25, 3) := by decide +kernel
theorem dz_M_claim_27 : decode zm_M_claim.2.1 27 = .ok (.iload 4, 2) := by decide +kernel
theorem dz_M_claim_29 : decode zm_M_claim.2.1 29 = .ok (.ifCond .eq 22, 3) := by decide +kernel
theorem dz_M_claim_32 : decode zm_M_claim.2.1 32 = .ok (.iload 4, 2) := by decide +kernel
theorem dz_M_claim_34 : decode zm_M_claim.2.1 34 = .ok (.i2l, 1) := by decide +kernel
theorem dz_M_claim_35 : decode zm_M_claim.2.1 35 = .ok (.ldc2_w 239, 3) := by decide +kernel
theorem dz_M_claim_38 : decode zm_M_claim.2.1 38 = .ok (.bipush 9, 2) := by decide +kernel
theorem dz_M_claim_40 : decode zm_M_claim.2.1 40 = .ok (.iload_n 3, 1) := by decide +kernel
theorem dz_M_claim_41 : decode zm_M_claim.2.1 41 = .ok (.iadd, 1) := by decide +kernel
theorem dz_M_claim_42 : decode zm_M_claim.2.1 42 = .ok (.i2l, 1) := by decide +kernel
theorem dz_M_claim_43 : decode zm_M_claim.2.1 43 = .ok (.invokestatic 65, 3) := by decide +kernel
theorem dz_M_claim_46 : decode zm_M_claim.2.1 46 = .ok (.ifCond .ne 5, 3) := by decide +kernel
theorem dz_M_claim_49 : decode zm_M_claim.2.1 49 = .ok (.iconst (-1), 1) := by decide +kernel
theorem dz_M_claim_50 : decode zm_M_claim.2.1 50 = .ok (.ireturn, 1) := by decide +kernel
theorem dz_M_claim_51 : decode zm_M_claim.2.1 51 = .ok (.iconst 1, 1) := by decide +kernel
theorem dz_M_claim_52 : decode zm_M_claim.2.1 52 = .ok (.istore 5, 2) := by decide +kernel
theorem dz_M_claim_54 : decode zm_M_claim.2.1 54 = .ok (.iconst 0, 1) := by decide +kernel
theorem dz_M_claim_55 : decode zm_M_claim.2.1 55 = .ok (.istore 6, 2) := by decide +kernel
theorem dz_M_claim_57 : decode zm_M_claim.2.1 57 = .ok (.iload 6, 2) := by decide +kernel
theorem dz_M_claim_59 : decode zm_M_claim.2.1 59 = .ok (.iload_n 3, 1) := by decide +kernel
theorem dz_M_claim_60 : decode zm_M_claim.2.1 60 = .ok (.if_icmp .gt 87, 3) := by decide +kernel
theorem dz_M_claim_63 : decode zm_M_claim.2.1 63 = .ok (.iconst 0, 1) := by decide +kernel
theorem dz_M_claim_64 : decode zm_M_claim.2.1 64 = .ok (.istore 7, 2) := by decide +kernel
theorem dz_M_claim_66 : decode zm_M_claim.2.1 66 = .ok (.iload 7, 2) := by decide +kernel
theorem dz_M_claim_68 : decode zm_M_claim.2.1 68 = .ok (.iload 5, 2) := by decide +kernel
theorem dz_M_claim_70 : decode zm_M_claim.2.1 70 = .ok (.if_icmp .ge 64, 3) := by decide +kernel
theorem dz_M_claim_73 : decode zm_M_claim.2.1 73 = .ok (.aload_n 0, 1) := by decide +kernel
theorem dz_M_claim_74 : decode zm_M_claim.2.1 74 = .ok (.iload_n 1, 1) := by decide +kernel
theorem dz_M_claim_75 : decode zm_M_claim.2.1 75 = .ok (.iload_n 2, 1) := by decide +kernel
theorem dz_M_claim_76 : decode zm_M_claim.2.1 76 = .ok (.iload 6, 2) := by decide +kernel
theorem dz_M_claim_78 : decode zm_M_claim.2.1 78 = .ok (.iload 7, 2) := by decide +kernel
theorem dz_M_claim_80 : decode zm_M_claim.2.1 80 = .ok (.invokevirtual 250, 3) := by decide +kernel
theorem dz_M_claim_83 : decode zm_M_claim.2.1 83 = .ok (.ifCond .eq 39, 3) := by decide +kernel
theorem dz_M_claim_86 : decode zm_M_claim.2.1 86 = .ok (.iload 4, 2) := by decide +kernel
theorem dz_M_claim_88 : decode zm_M_claim.2.1 88 = .ok (.ifCond .ne 8, 3) := by decide +kernel
theorem dz_M_claim_91 : decode zm_M_claim.2.1 91 = .ok (.iload 6, 2) := by decide +kernel
theorem dz_M_claim_93 : decode zm_M_claim.2.1 93 = .ok (.goto 28, 3) := by decide +kernel
theorem dz_M_claim_96 : decode zm_M_claim.2.1 96 = .ok (.iload 4, 2) := by decide +kernel
theorem dz_M_claim_98 : decode zm_M_claim.2.1 98 = .ok (.bipush 10, 2) := by decide +kernel
theorem dz_M_claim_100 : decode zm_M_claim.2.1 100 = .ok (.isub, 1) := by decide +kernel
theorem dz_M_claim_101 : decode zm_M_claim.2.1 101 = .ok (.iload 6, 2) := by decide +kernel
theorem dz_M_claim_103 : decode zm_M_claim.2.1 103 = .ok (.if_icmp .ge 16, 3) := by decide +kernel
theorem dz_M_claim_106 : decode zm_M_claim.2.1 106 = .ok (.aload_n 0, 1) := by decide +kernel
theorem dz_M_claim_107 : decode zm_M_claim.2.1 107 = .ok (.getfield 40, 3) := by decide +kernel
theorem dz_M_claim_110 : decode zm_M_claim.2.1 110 = .ok (.iload 4, 2) := by decide +kernel
theorem dz_M_claim_112 : decode zm_M_claim.2.1 112 = .ok (.bipush 10, 2) := by decide +kernel
theorem dz_M_claim_114 : decode zm_M_claim.2.1 114 = .ok (.isub, 1) := by decide +kernel
theorem dz_M_claim_115 : decode zm_M_claim.2.1 115 = .ok (.iaload, 1) := by decide +kernel
theorem dz_M_claim_116 : decode zm_M_claim.2.1 116 = .ok (.goto 5, 3) := by decide +kernel
theorem dz_M_claim_119 : decode zm_M_claim.2.1 119 = .ok (.bipush (-4), 2) := by decide +kernel
theorem dz_M_claim_121 : decode zm_M_claim.2.1 121 = .ok (.ireturn, 1) := by decide +kernel
theorem dz_M_claim_122 : decode zm_M_claim.2.1 122 = .ok (.iload 7, 2) := by decide +kernel
theorem dz_M_claim_124 : decode zm_M_claim.2.1 124 = .ok (.aload_n 0, 1) := by decide +kernel
theorem dz_M_claim_125 : decode zm_M_claim.2.1 125 = .ok (.getfield 243, 3) := by decide +kernel
theorem dz_M_claim_128 : decode zm_M_claim.2.1 128 = .ok (.iadd, 1) := by decide +kernel
theorem dz_M_claim_129 : decode zm_M_claim.2.1 129 = .ok (.istore 7, 2) := by decide +kernel
theorem dz_M_claim_131 : decode zm_M_claim.2.1 131 = .ok (.goto (-65), 3) := by decide +kernel
theorem dz_M_claim_134 : decode zm_M_claim.2.1 134 = .ok (.iload 5, 2) := by decide +kernel
theorem dz_M_claim_136 : decode zm_M_claim.2.1 136 = .ok (.bipush 60, 2) := by decide +kernel
theorem dz_M_claim_138 : decode zm_M_claim.2.1 138 = .ok (.imul, 1) := by decide +kernel
theorem dz_M_claim_139 : decode zm_M_claim.2.1 139 = .ok (.istore 5, 2) := by decide +kernel
theorem dz_M_claim_141 : decode zm_M_claim.2.1 141 = .ok (.iinc 6 1, 3) := by decide +kernel
theorem dz_M_claim_144 : decode zm_M_claim.2.1 144 = .ok (.goto (-87), 3) := by decide +kernel
theorem dz_M_claim_147 : decode zm_M_claim.2.1 147 = .ok (.bipush (-4), 2) := by decide +kernel
theorem dz_M_claim_149 : decode zm_M_claim.2.1 149 = .ok (.ireturn, 1) := by decide +kernel
theorem dz_M_pivot_0 : decode zm_M_pivot.2.1 0 = .ok (.iload_n 1, 1) := by decide +kernel
theorem dz_M_pivot_1 : decode zm_M_pivot.2.1 1 = .ok (.invokestatic 217, 3) := by decide +kernel
theorem dz_M_pivot_4 : decode zm_M_pivot.2.1 4 = .ok (.ifCond .ne 5, 3) := by decide +kernel
theorem dz_M_pivot_7 : decode zm_M_pivot.2.1 7 = .ok (.iconst (-1), 1) := by decide +kernel
theorem dz_M_pivot_8 : decode zm_M_pivot.2.1 8 = .ok (.ireturn, 1) := by decide +kernel
theorem dz_M_pivot_9 : decode zm_M_pivot.2.1 9 = .ok (.aload_n 0, 1) := by decide +kernel
theorem dz_M_pivot_10 : decode zm_M_pivot.2.1 10 = .ok (.getfield 7, 3) := by decide +kernel
theorem dz_M_pivot_13 : decode zm_M_pivot.2.1 13 = .ok (.bipush 12, 2) := by decide +kernel
theorem dz_M_pivot_15 : decode zm_M_pivot.2.1 15 = .ok (.iaload, 1) := by decide +kernel
theorem dz_M_pivot_16 : decode zm_M_pivot.2.1 16 = .ok (.istore_n 2, 1) := by decide +kernel
theorem dz_M_pivot_17 : decode zm_M_pivot.2.1 17 = .ok (.iconst 0, 1) := by decide +kernel
theorem dz_M_pivot_18 : decode zm_M_pivot.2.1 18 = .ok (.istore_n 3, 1) := by decide +kernel
theorem dz_M_pivot_19 : decode zm_M_pivot.2.1 19 = .ok (.iconst 0, 1) := by decide +kernel
theorem dz_M_pivot_20 : decode zm_M_pivot.2.1 20 = .ok (.istore 4, 2) := by decide +kernel
theorem dz_M_pivot_22 : decode zm_M_pivot.2.1 22 = .ok (.iload 4, 2) := by decide +kernel
theorem dz_M_pivot_24 : decode zm_M_pivot.2.1 24 = .ok (.aload_n 0, 1) := by decide +kernel
theorem dz_M_pivot_25 : decode zm_M_pivot.2.1 25 = .ok (.getfield 158, 3) := by decide +kernel
theorem dz_M_pivot_28 : decode zm_M_pivot.2.1 28 = .ok (.if_icmp .ge 49, 3) := by decide +kernel
theorem dz_M_pivot_31 : decode zm_M_pivot.2.1 31 = .ok (.iload_n 3, 1) := by decide +kernel
theorem dz_M_pivot_32 : decode zm_M_pivot.2.1 32 = .ok (.iload 4, 2) := by decide +kernel
theorem dz_M_pivot_34 : decode zm_M_pivot.2.1 34 = .ok (.iload_n 2, 1) := by decide +kernel
theorem dz_M_pivot_35 : decode zm_M_pivot.2.1 35 = .ok (.invokestatic 169, 3) := by decide +kernel
theorem dz_M_pivot_38 : decode zm_M_pivot.2.1 38 = .ok (.ifCond .eq 30, 3) := by decide +kernel
theorem dz_M_pivot_41 : decode zm_M_pivot.2.1 41 = .ok (.aload_n 0, 1) := by decide +kernel
theorem dz_M_pivot_42 : decode zm_M_pivot.2.1 42 = .ok (.iload_n 1, 1) := by decide +kernel
theorem dz_M_pivot_43 : decode zm_M_pivot.2.1 43 = .ok (.iload_n 2, 1) := by decide +kernel
theorem dz_M_pivot_44 : decode zm_M_pivot.2.1 44 = .ok (.iconst 1, 1) := by decide +kernel
theorem dz_M_pivot_45 : decode zm_M_pivot.2.1 45 = .ok (.iload 4, 2) := by decide +kernel
theorem dz_M_pivot_47 : decode zm_M_pivot.2.1 47 = .ok (.ishl, 1) := by decide +kernel
theorem dz_M_pivot_48 : decode zm_M_pivot.2.1 48 = .ok (.ior, 1) := by decide +kernel
theorem dz_M_pivot_49 : decode zm_M_pivot.2.1 49 = .ok (.invokevirtual 220, 3) := by decide +kernel
theorem dz_M_pivot_52 : decode zm_M_pivot.2.1 52 = .ok (.aload_n 0, 1) := by decide +kernel
theorem dz_M_pivot_53 : decode zm_M_pivot.2.1 53 = .ok (.iload_n 1, 1) := by decide +kernel
theorem dz_M_pivot_54 : decode zm_M_pivot.2.1 54 = .ok (.iload_n 2, 1) := by decide +kernel
theorem dz_M_pivot_55 : decode zm_M_pivot.2.1 55 = .ok (.invokevirtual 220, 3) := by decide +kernel
theorem dz_M_pivot_58 : decode zm_M_pivot.2.1 58 = .ok (.if_icmp .eq 10, 3) := by decide +kernel
theorem dz_M_pivot_61 : decode zm_M_pivot.2.1 61 = .ok (.iconst 1, 1) := by decide +kernel
theorem dz_M_pivot_62 : decode zm_M_pivot.2.1 62 = .ok (.iload 4, 2) := by decide +kernel
theorem dz_M_pivot_64 : decode zm_M_pivot.2.1 64 = .ok (.ishl, 1) := by decide +kernel
theorem dz_M_pivot_65 : decode zm_M_pivot.2.1 65 = .ok (.goto 4, 3) := by decide +kernel
theorem dz_M_pivot_68 : decode zm_M_pivot.2.1 68 = .ok (.iconst 0, 1) := by decide +kernel
theorem dz_M_pivot_69 : decode zm_M_pivot.2.1 69 = .ok (.ior, 1) := by decide +kernel
theorem dz_M_pivot_70 : decode zm_M_pivot.2.1 70 = .ok (.istore_n 3, 1) := by decide +kernel
theorem dz_M_pivot_71 : decode zm_M_pivot.2.1 71 = .ok (.iinc 4 1, 3) := by decide +kernel
theorem dz_M_pivot_74 : decode zm_M_pivot.2.1 74 = .ok (.goto (-52), 3) := by decide +kernel
theorem dz_M_pivot_77 : decode zm_M_pivot.2.1 77 = .ok (.iload_n 3, 1) := by decide +kernel
theorem dz_M_pivot_78 : decode zm_M_pivot.2.1 78 = .ok (.ireturn, 1) := by decide +kernel
theorem dz_M_spoils_0 : decode zm_M_spoils.2.1 0 = .ok (.aload_n 0, 1) := by decide +kernel
theorem dz_M_spoils_1 : decode zm_M_spoils.2.1 1 = .ok (.iload_n 1, 1) := by decide +kernel
theorem dz_M_spoils_2 : decode zm_M_spoils.2.1 2 = .ok (.invokevirtual 203, 3) := by decide +kernel
theorem dz_M_spoils_5 : decode zm_M_spoils.2.1 5 = .ok (.ifCond .ne 5, 3) := by decide +kernel
theorem dz_M_spoils_8 : decode zm_M_spoils.2.1 8 = .ok (.iconst (-1), 1) := by decide +kernel
theorem dz_M_spoils_9 : decode zm_M_spoils.2.1 9 = .ok (.ireturn, 1) := by decide +kernel
theorem dz_M_spoils_10 : decode zm_M_spoils.2.1 10 = .ok (.iconst 0, 1) := by decide +kernel
theorem dz_M_spoils_11 : decode zm_M_spoils.2.1 11 = .ok (.istore_n 2, 1) := by decide +kernel
theorem dz_M_spoils_12 : decode zm_M_spoils.2.1 12 = .ok (.iconst 0, 1) := by decide +kernel
theorem dz_M_spoils_13 : decode zm_M_spoils.2.1 13 = .ok (.istore_n 3, 1) := by decide +kernel
theorem dz_M_spoils_14 : decode zm_M_spoils.2.1 14 = .ok (.iload_n 3, 1) := by decide +kernel
theorem dz_M_spoils_15 : decode zm_M_spoils.2.1 15 = .ok (.iconst 4, 1) := by decide +kernel
theorem dz_M_spoils_16 : decode zm_M_spoils.2.1 16 = .ok (.if_icmp .ge 117, 3) := by decide +kernel
theorem dz_M_spoils_19 : decode zm_M_spoils.2.1 19 = .ok (.iconst 0, 1) := by decide +kernel
theorem dz_M_spoils_20 : decode zm_M_spoils.2.1 20 = .ok (.istore 4, 2) := by decide +kernel
theorem dz_M_spoils_22 : decode zm_M_spoils.2.1 22 = .ok (.iload 4, 2) := by decide +kernel
theorem dz_M_spoils_24 : decode zm_M_spoils.2.1 24 = .ok (.iconst 5, 1) := by decide +kernel
theorem dz_M_spoils_25 : decode zm_M_spoils.2.1 25 = .ok (.if_icmp .gt 102, 3) := by decide +kernel
theorem dz_M_spoils_28 : decode zm_M_spoils.2.1 28 = .ok (.aload_n 0, 1) := by decide +kernel
theorem dz_M_spoils_29 : decode zm_M_spoils.2.1 29 = .ok (.iload_n 3, 1) := by decide +kernel
theorem dz_M_spoils_30 : decode zm_M_spoils.2.1 30 = .ok (.aload_n 0, 1) := by decide +kernel
theorem dz_M_spoils_31 : decode zm_M_spoils.2.1 31 = .ok (.getfield 7, 3) := by decide +kernel
theorem dz_M_spoils_34 : decode zm_M_spoils.2.1 34 = .ok (.bipush 12, 2) := by decide +kernel
theorem dz_M_spoils_36 : decode zm_M_spoils.2.1 36 = .ok (.iaload, 1) := by decide +kernel
theorem dz_M_spoils_37 : decode zm_M_spoils.2.1 37 = .ok (.invokevirtual 220, 3) := by decide +kernel
theorem dz_M_spoils_40 : decode zm_M_spoils.2.1 40 = .ok (.iload_n 1, 1) := by decide +kernel
theorem dz_M_spoils_41 : decode zm_M_spoils.2.1 41 = .ok (.if_icmp .ne 86, 3) := by decide +kernel
theorem dz_M_spoils_44 : decode zm_M_spoils.2.1 44 = .ok (.aload_n 0, 1) := by decide +kernel
theorem dz_M_spoils_45 : decode zm_M_spoils.2.1 45 = .ok (.bipush 10, 2) := by decide +kernel
theorem dz_M_spoils_47 : decode zm_M_spoils.2.1 47 = .ok (.iload_n 1, 1) := by decide +kernel
theorem dz_M_spoils_48 : decode zm_M_spoils.2.1 48 = .ok (.imul, 1) := by decide +kernel
theorem dz_M_spoils_49 : decode zm_M_spoils.2.1 49 = .ok (.iload 4, 2) := by decide +kernel
theorem dz_M_spoils_51 : decode zm_M_spoils.2.1 51 = .ok (.iadd, 1) := by decide +kernel
theorem dz_M_spoils_52 : decode zm_M_spoils.2.1 52 = .ok (.invokevirtual 226, 3) := by decide +kernel
theorem dz_M_spoils_55 : decode zm_M_spoils.2.1 55 = .ok (.ifCond .eq 66, 3) := by decide +kernel
theorem dz_M_spoils_58 : decode zm_M_spoils.2.1 58 = .ok (.aload_n 0, 1) := by decide +kernel
theorem dz_M_spoils_59 : decode zm_M_spoils.2.1 59 = .ok (.iconst 0, 1) := by decide +kernel
theorem dz_M_spoils_60 : decode zm_M_spoils.2.1 60 = .ok (.bipush 84, 2) := by decide +kernel
theorem dz_M_spoils_62 : decode zm_M_spoils.2.1 62 = .ok (.invokevirtual 246, 3) := by decide +kernel
theorem dz_M_spoils_65 : decode zm_M_spoils.2.1 65 = .ok (.aload_n 0, 1) := by decide +kernel
theorem dz_M_spoils_66 : decode zm_M_spoils.2.1 66 = .ok (.bipush 10, 2) := by decide +kernel
theorem dz_M_spoils_68 : decode zm_M_spoils.2.1 68 = .ok (.iload_n 1, 1) := by decide +kernel
theorem dz_M_spoils_69 : decode zm_M_spoils.2.1 69 = .ok (.imul, 1) := by decide +kernel
theorem dz_M_spoils_70 : decode zm_M_spoils.2.1 70 = .ok (.iload 4, 2) := by decide +kernel
theorem dz_M_spoils_72 : decode zm_M_spoils.2.1 72 = .ok (.iadd, 1) := by decide +kernel
theorem dz_M_spoils_73 : decode zm_M_spoils.2.1 73 = .ok (.invokevirtual 229, 3) := by decide +kernel
theorem dz_M_spoils_76 : decode zm_M_spoils.2.1 76 = .ok (.aload_n 0, 1) := by decide +kernel
theorem dz_M_spoils_77 : decode zm_M_spoils.2.1 77 = .ok (.iload_n 3, 1) := by decide +kernel
theorem dz_M_spoils_78 : decode zm_M_spoils.2.1 78 = .ok (.aload_n 0, 1) := by decide +kernel
theorem dz_M_spoils_79 : decode zm_M_spoils.2.1 79 = .ok (.getfield 7, 3) := by decide +kernel
theorem dz_M_spoils_82 : decode zm_M_spoils.2.1 82 = .ok (.bipush 12, 2) := by decide +kernel
theorem dz_M_spoils_84 : decode zm_M_spoils.2.1 84 = .ok (.iaload, 1) := by decide +kernel
theorem dz_M_spoils_85 : decode zm_M_spoils.2.1 85 = .ok (.invokevirtual 220, 3) := by decide +kernel
theorem dz_M_spoils_88 : decode zm_M_spoils.2.1 88 = .ok (.iload_n 1, 1) := by decide +kernel
theorem dz_M_spoils_89 : decode zm_M_spoils.2.1 89 = .ok (.if_icmp .ne 7, 3) := by decide +kernel
theorem dz_M_spoils_92 : decode zm_M_spoils.2.1 92 = .ok (.iconst 1, 1) := by decide +kernel
theorem dz_M_spoils_93 : decode zm_M_spoils.2.1 93 = .ok (.goto 4, 3) := by decide +kernel
theorem dz_M_spoils_96 : decode zm_M_spoils.2.1 96 = .ok (.iconst 0, 1) := by decide +kernel
theorem dz_M_spoils_97 : decode zm_M_spoils.2.1 97 = .ok (.istore 5, 2) := by decide +kernel
theorem dz_M_spoils_99 : decode zm_M_spoils.2.1 99 = .ok (.aload_n 0, 1) := by decide +kernel
theorem dz_M_spoils_100 : decode zm_M_spoils.2.1 100 = .ok (.bipush 84, 2) := by decide +kernel
theorem dz_M_spoils_102 : decode zm_M_spoils.2.1 102 = .ok (.iconst 0, 1) := by decide +kernel
theorem dz_M_spoils_103 : decode zm_M_spoils.2.1 103 = .ok (.invokevirtual 246, 3) := by decide +kernel
theorem dz_M_spoils_106 : decode zm_M_spoils.2.1 106 = .ok (.iload_n 2, 1) := by decide +kernel
theorem dz_M_spoils_107 : decode zm_M_spoils.2.1 107 = .ok (.iload 5, 2) := by decide +kernel
theorem dz_M_spoils_109 : decode zm_M_spoils.2.1 109 = .ok (.ifCond .eq 7, 3) := by decide +kernel
theorem dz_M_spoils_112 : decode zm_M_spoils.2.1 112 = .ok (.iconst 0, 1) := by decide +kernel
theorem dz_M_spoils_113 : decode zm_M_spoils.2.1 113 = .ok (.goto 6, 3) := by decide +kernel
theorem dz_M_spoils_116 : decode zm_M_spoils.2.1 116 = .ok (.iconst 1, 1) := by decide +kernel
theorem dz_M_spoils_117 : decode zm_M_spoils.2.1 117 = .ok (.iload_n 3, 1) := by decide +kernel
theorem dz_M_spoils_118 : decode zm_M_spoils.2.1 118 = .ok (.ishl, 1) := by decide +kernel
theorem dz_M_spoils_119 : decode zm_M_spoils.2.1 119 = .ok (.ior, 1) := by decide +kernel
theorem dz_M_spoils_120 : decode zm_M_spoils.2.1 120 = .ok (.istore_n 2, 1) := by decide +kernel
theorem dz_M_spoils_121 : decode zm_M_spoils.2.1 121 = .ok (.iinc 4 1, 3) := by decide +kernel
theorem dz_M_spoils_124 : decode zm_M_spoils.2.1 124 = .ok (.goto (-102), 3) := by decide +kernel
theorem dz_M_spoils_127 : decode zm_M_spoils.2.1 127 = .ok (.iinc 3 1, 3) := by decide +kernel
theorem dz_M_spoils_130 : decode zm_M_spoils.2.1 130 = .ok (.goto (-116), 3) := by decide +kernel
theorem dz_M_spoils_133 : decode zm_M_spoils.2.1 133 = .ok (.iload_n 2, 1) := by decide +kernel
theorem dz_M_spoils_134 : decode zm_M_spoils.2.1 134 = .ok (.ireturn, 1) := by decide +kernel
theorem dz_M_cases_0 : decode zm_M_cases.2.1 0 = .ok (.iconst 1, 1) := by decide +kernel
theorem dz_M_cases_1 : decode zm_M_cases.2.1 1 = .ok (.aload_n 0, 1) := by decide +kernel
theorem dz_M_cases_2 : decode zm_M_cases.2.1 2 = .ok (.getfield 158, 3) := by decide +kernel
theorem dz_M_cases_5 : decode zm_M_cases.2.1 5 = .ok (.ishl, 1) := by decide +kernel
theorem dz_M_cases_6 : decode zm_M_cases.2.1 6 = .ok (.ireturn, 1) := by decide +kernel
theorem dz_M_dead_0 : decode zm_M_dead.2.1 0 = .ok (.iload_n 1, 1) := by decide +kernel
theorem dz_M_dead_1 : decode zm_M_dead.2.1 1 = .ok (.i2l, 1) := by decide +kernel
theorem dz_M_dead_2 : decode zm_M_dead.2.1 2 = .ok (.lconst 0, 1) := by decide +kernel
theorem dz_M_dead_3 : decode zm_M_dead.2.1 3 = .ok (.ldc2_w 241, 3) := by decide +kernel
theorem dz_M_dead_6 : decode zm_M_dead.2.1 6 = .ok (.invokestatic 65, 3) := by decide +kernel
theorem dz_M_dead_9 : decode zm_M_dead.2.1 9 = .ok (.ifCond .ne 5, 3) := by decide +kernel
theorem dz_M_dead_12 : decode zm_M_dead.2.1 12 = .ok (.iconst (-1), 1) := by decide +kernel
theorem dz_M_dead_13 : decode zm_M_dead.2.1 13 = .ok (.ireturn, 1) := by decide +kernel
theorem dz_M_dead_14 : decode zm_M_dead.2.1 14 = .ok (.iconst 1, 1) := by decide +kernel
theorem dz_M_dead_15 : decode zm_M_dead.2.1 15 = .ok (.aload_n 0, 1) := by decide +kernel
theorem dz_M_dead_16 : decode zm_M_dead.2.1 16 = .ok (.getfield 161, 3) := by decide +kernel
theorem dz_M_dead_19 : decode zm_M_dead.2.1 19 = .ok (.ishl, 1) := by decide +kernel
theorem dz_M_dead_20 : decode zm_M_dead.2.1 20 = .ok (.iconst 1, 1) := by decide +kernel
theorem dz_M_dead_21 : decode zm_M_dead.2.1 21 = .ok (.isub, 1) := by decide +kernel
theorem dz_M_dead_22 : decode zm_M_dead.2.1 22 = .ok (.istore_n 2, 1) := by decide +kernel
theorem dz_M_dead_23 : decode zm_M_dead.2.1 23 = .ok (.iconst 0, 1) := by decide +kernel
theorem dz_M_dead_24 : decode zm_M_dead.2.1 24 = .ok (.istore_n 3, 1) := by decide +kernel
theorem dz_M_dead_25 : decode zm_M_dead.2.1 25 = .ok (.iload_n 2, 1) := by decide +kernel
theorem dz_M_dead_26 : decode zm_M_dead.2.1 26 = .ok (.istore 4, 2) := by decide +kernel
theorem dz_M_dead_28 : decode zm_M_dead.2.1 28 = .ok (.iconst 0, 1) := by decide +kernel
theorem dz_M_dead_29 : decode zm_M_dead.2.1 29 = .ok (.istore 5, 2) := by decide +kernel
theorem dz_M_dead_31 : decode zm_M_dead.2.1 31 = .ok (.iconst 0, 1) := by decide +kernel
theorem dz_M_dead_32 : decode zm_M_dead.2.1 32 = .ok (.istore 6, 2) := by decide +kernel
theorem dz_M_dead_34 : decode zm_M_dead.2.1 34 = .ok (.iload 6, 2) := by decide +kernel
theorem dz_M_dead_36 : decode zm_M_dead.2.1 36 = .ok (.aload_n 0, 1) := by decide +kernel
theorem dz_M_dead_37 : decode zm_M_dead.2.1 37 = .ok (.invokevirtual 254, 3) := by decide +kernel
theorem dz_M_dead_40 : decode zm_M_dead.2.1 40 = .ok (.if_icmp .ge 132, 3) := by decide +kernel
theorem dz_M_dead_43 : decode zm_M_dead.2.1 43 = .ok (.iconst 0, 1) := by decide +kernel
theorem dz_M_dead_44 : decode zm_M_dead.2.1 44 = .ok (.istore 7, 2) := by decide +kernel
theorem dz_M_dead_46 : decode zm_M_dead.2.1 46 = .ok (.iconst 0, 1) := by decide +kernel
theorem dz_M_dead_47 : decode zm_M_dead.2.1 47 = .ok (.istore 8, 2) := by decide +kernel
theorem dz_M_dead_49 : decode zm_M_dead.2.1 49 = .ok (.iload 8, 2) := by decide +kernel
theorem dz_M_dead_51 : decode zm_M_dead.2.1 51 = .ok (.aload_n 0, 1) := by decide +kernel
theorem dz_M_dead_52 : decode zm_M_dead.2.1 52 = .ok (.getfield 161, 3) := by decide +kernel
theorem dz_M_dead_55 : decode zm_M_dead.2.1 55 = .ok (.if_icmp .ge 35, 3) := by decide +kernel
theorem dz_M_dead_58 : decode zm_M_dead.2.1 58 = .ok (.iload 7, 2) := by decide +kernel
theorem dz_M_dead_60 : decode zm_M_dead.2.1 60 = .ok (.aload_n 0, 1) := by decide +kernel
theorem dz_M_dead_61 : decode zm_M_dead.2.1 61 = .ok (.iload 8, 2) := by decide +kernel
theorem dz_M_dead_63 : decode zm_M_dead.2.1 63 = .ok (.iload 6, 2) := by decide +kernel
theorem dz_M_dead_65 : decode zm_M_dead.2.1 65 = .ok (.invokevirtual 197, 3) := by decide +kernel
theorem dz_M_dead_68 : decode zm_M_dead.2.1 68 = .ok (.bipush (-4), 2) := by decide +kernel
theorem dz_M_dead_70 : decode zm_M_dead.2.1 70 = .ok (.if_icmp .eq 10, 3) := by decide +kernel
theorem dz_M_dead_73 : decode zm_M_dead.2.1 73 = .ok (.iconst 1, 1) := by decide +kernel
theorem dz_M_dead_74 : decode zm_M_dead.2.1 74 = .ok (.iload 8, 2) := by decide +kernel
theorem dz_M_dead_76 : decode zm_M_dead.2.1 76 = .ok (.ishl, 1) := by decide +kernel
theorem dz_M_dead_77 : decode zm_M_dead.2.1 77 = .ok (.goto 4, 3) := by decide +kernel
theorem dz_M_dead_80 : decode zm_M_dead.2.1 80 = .ok (.iconst 0, 1) := by decide +kernel
theorem dz_M_dead_81 : decode zm_M_dead.2.1 81 = .ok (.ior, 1) := by decide +kernel
theorem dz_M_dead_82 : decode zm_M_dead.2.1 82 = .ok (.istore 7, 2) := by decide +kernel
theorem dz_M_dead_84 : decode zm_M_dead.2.1 84 = .ok (.iinc 8 1, 3) := by decide +kernel
theorem dz_M_dead_87 : decode zm_M_dead.2.1 87 = .ok (.goto (-38), 3) := by decide +kernel
theorem dz_M_dead_90 : decode zm_M_dead.2.1 90 = .ok (.iload_n 3, 1) := by decide +kernel
theorem dz_M_dead_91 : decode zm_M_dead.2.1 91 = .ok (.iload 7, 2) := by decide +kernel
theorem dz_M_dead_93 : decode zm_M_dead.2.1 93 = .ok (.ior, 1) := by decide +kernel
theorem dz_M_dead_94 : decode zm_M_dead.2.1 94 = .ok (.istore_n 3, 1) := by decide +kernel
theorem dz_M_dead_95 : decode zm_M_dead.2.1 95 = .ok (.iload 4, 2) := by decide +kernel
theorem dz_M_dead_97 : decode zm_M_dead.2.1 97 = .ok (.iload 6, 2) := by decide +kernel
theorem dz_M_dead_99 : decode zm_M_dead.2.1 99 = .ok (.aload_n 0, 1) := by decide +kernel
theorem dz_M_dead_100 : decode zm_M_dead.2.1 100 = .ok (.invokevirtual 254, 3) := by decide +kernel
theorem dz_M_dead_103 : decode zm_M_dead.2.1 103 = .ok (.iconst 1, 1) := by decide +kernel
theorem dz_M_dead_104 : decode zm_M_dead.2.1 104 = .ok (.isub, 1) := by decide +kernel
theorem dz_M_dead_105 : decode zm_M_dead.2.1 105 = .ok (.if_icmp .ne 7, 3) := by decide +kernel
theorem dz_M_dead_108 : decode zm_M_dead.2.1 108 = .ok (.iconst (-1), 1) := by decide +kernel
theorem dz_M_dead_109 : decode zm_M_dead.2.1 109 = .ok (.goto 5, 3) := by decide +kernel
theorem dz_M_dead_112 : decode zm_M_dead.2.1 112 = .ok (.iload 7, 2) := by decide +kernel
theorem dz_M_dead_114 : decode zm_M_dead.2.1 114 = .ok (.iand, 1) := by decide +kernel
theorem dz_M_dead_115 : decode zm_M_dead.2.1 115 = .ok (.istore 4, 2) := by decide +kernel
theorem dz_M_dead_117 : decode zm_M_dead.2.1 117 = .ok (.iconst 0, 1) := by decide +kernel
theorem dz_M_dead_118 : decode zm_M_dead.2.1 118 = .ok (.istore 8, 2) := by decide +kernel
theorem dz_M_dead_120 : decode zm_M_dead.2.1 120 = .ok (.iload 8, 2) := by decide +kernel
theorem dz_M_dead_122 : decode zm_M_dead.2.1 122 = .ok (.iconst 4, 1) := by decide +kernel
theorem dz_M_dead_123 : decode zm_M_dead.2.1 123 = .ok (.if_icmp .ge 43, 3) := by decide +kernel
theorem dz_M_dead_126 : decode zm_M_dead.2.1 126 = .ok (.aload_n 0, 1) := by decide +kernel
theorem dz_M_dead_127 : decode zm_M_dead.2.1 127 = .ok (.iload 8, 2) := by decide +kernel
theorem dz_M_dead_129 : decode zm_M_dead.2.1 129 = .ok (.iload 6, 2) := by decide +kernel
theorem dz_M_dead_131 : decode zm_M_dead.2.1 131 = .ok (.bipush 31, 2) := by decide +kernel
theorem dz_M_dead_133 : decode zm_M_dead.2.1 133 = .ok (.bipush (-4), 2) := by decide +kernel
theorem dz_M_dead_135 : decode zm_M_dead.2.1 135 = .ok (.invokevirtual 193, 3) := by decide +kernel
theorem dz_M_dead_138 : decode zm_M_dead.2.1 138 = .ok (.istore 9, 2) := by decide +kernel
theorem dz_M_dead_140 : decode zm_M_dead.2.1 140 = .ok (.iload 5, 2) := by decide +kernel
theorem dz_M_dead_142 : decode zm_M_dead.2.1 142 = .ok (.iload 9, 2) := by decide +kernel
theorem dz_M_dead_144 : decode zm_M_dead.2.1 144 = .ok (.bipush (-4), 2) := by decide +kernel
theorem dz_M_dead_146 : decode zm_M_dead.2.1 146 = .ok (.if_icmp .ne 7, 3) := by decide +kernel
theorem dz_M_dead_149 : decode zm_M_dead.2.1 149 = .ok (.iconst 0, 1) := by decide +kernel
theorem dz_M_dead_150 : decode zm_M_dead.2.1 150 = .ok (.goto 7, 3) := by decide +kernel
theorem dz_M_dead_153 : decode zm_M_dead.2.1 153 = .ok (.iconst 1, 1) := by decide +kernel
theorem dz_M_dead_154 : decode zm_M_dead.2.1 154 = .ok (.iload 9, 2) := by decide +kernel
theorem dz_M_dead_156 : decode zm_M_dead.2.1 156 = .ok (.ishl, 1) := by decide +kernel
theorem dz_M_dead_157 : decode zm_M_dead.2.1 157 = .ok (.ior, 1) := by decide +kernel
theorem dz_M_dead_158 : decode zm_M_dead.2.1 158 = .ok (.istore 5, 2) := by decide +kernel
theorem dz_M_dead_160 : decode zm_M_dead.2.1 160 = .ok (.iinc 8 1, 3) := by decide +kernel
theorem dz_M_dead_163 : decode zm_M_dead.2.1 163 = .ok (.goto (-43), 3) := by decide +kernel
theorem dz_M_dead_166 : decode zm_M_dead.2.1 166 = .ok (.iinc 6 1, 3) := by decide +kernel
theorem dz_M_dead_169 : decode zm_M_dead.2.1 169 = .ok (.goto (-135), 3) := by decide +kernel
theorem dz_M_dead_172 : decode zm_M_dead.2.1 172 = .ok (.iload_n 1, 1) := by decide +kernel
theorem dz_M_dead_173 : decode zm_M_dead.2.1 173 = .ok (.ifCond .ne 11, 3) := by decide +kernel
theorem dz_M_dead_176 : decode zm_M_dead.2.1 176 = .ok (.iload_n 2, 1) := by decide +kernel
theorem dz_M_dead_177 : decode zm_M_dead.2.1 177 = .ok (.iload_n 3, 1) := by decide +kernel
theorem dz_M_dead_178 : decode zm_M_dead.2.1 178 = .ok (.iconst (-1), 1) := by decide +kernel
theorem dz_M_dead_179 : decode zm_M_dead.2.1 179 = .ok (.ixor, 1) := by decide +kernel
theorem dz_M_dead_180 : decode zm_M_dead.2.1 180 = .ok (.iand, 1) := by decide +kernel
theorem dz_M_dead_181 : decode zm_M_dead.2.1 181 = .ok (.goto 19, 3) := by decide +kernel
theorem dz_M_dead_184 : decode zm_M_dead.2.1 184 = .ok (.iload_n 1, 1) := by decide +kernel
theorem dz_M_dead_185 : decode zm_M_dead.2.1 185 = .ok (.iconst 1, 1) := by decide +kernel
theorem dz_M_dead_186 : decode zm_M_dead.2.1 186 = .ok (.if_icmp .ne 8, 3) := by decide +kernel
theorem dz_M_dead_189 : decode zm_M_dead.2.1 189 = .ok (.iload 4, 2) := by decide +kernel
theorem dz_M_dead_191 : decode zm_M_dead.2.1 191 = .ok (.goto 9, 3) := by decide +kernel
theorem dz_M_dead_194 : decode zm_M_dead.2.1 194 = .ok (.iload_n 2, 1) := by decide +kernel
theorem dz_M_dead_195 : decode zm_M_dead.2.1 195 = .ok (.iload 5, 2) := by decide +kernel
theorem dz_M_dead_197 : decode zm_M_dead.2.1 197 = .ok (.iconst (-1), 1) := by decide +kernel
theorem dz_M_dead_198 : decode zm_M_dead.2.1 198 = .ok (.ixor, 1) := by decide +kernel
theorem dz_M_dead_199 : decode zm_M_dead.2.1 199 = .ok (.iand, 1) := by decide +kernel
theorem dz_M_dead_200 : decode zm_M_dead.2.1 200 = .ok (.ireturn, 1) := by decide +kernel
theorem dz_M_isEnough_0 : decode zm_M_isEnough.2.1 0 = .ok (.iconst 1, 1) := by decide +kernel
theorem dz_M_isEnough_1 : decode zm_M_isEnough.2.1 1 = .ok (.istore_n 2, 1) := by decide +kernel
theorem dz_M_isEnough_2 : decode zm_M_isEnough.2.1 2 = .ok (.iconst 0, 1) := by decide +kernel
theorem dz_M_isEnough_3 : decode zm_M_isEnough.2.1 3 = .ok (.istore_n 3, 1) := by decide +kernel
theorem dz_M_isEnough_4 : decode zm_M_isEnough.2.1 4 = .ok (.iload_n 3, 1) := by decide +kernel
theorem dz_M_isEnough_5 : decode zm_M_isEnough.2.1 5 = .ok (.aload_n 0, 1) := by decide +kernel
theorem dz_M_isEnough_6 : decode zm_M_isEnough.2.1 6 = .ok (.invokevirtual 254, 3) := by decide +kernel
theorem dz_M_isEnough_9 : decode zm_M_isEnough.2.1 9 = .ok (.if_icmp .ge 56, 3) := by decide +kernel
theorem dz_M_isEnough_12 : decode zm_M_isEnough.2.1 12 = .ok (.iload_n 2, 1) := by decide +kernel
theorem dz_M_isEnough_13 : decode zm_M_isEnough.2.1 13 = .ok (.ifCond .eq 52, 3) := by decide +kernel
theorem dz_M_isEnough_16 : decode zm_M_isEnough.2.1 16 = .ok (.iconst 0, 1) := by decide +kernel
theorem dz_M_isEnough_17 : decode zm_M_isEnough.2.1 17 = .ok (.istore 4, 2) := by decide +kernel
theorem dz_M_isEnough_19 : decode zm_M_isEnough.2.1 19 = .ok (.iload 4, 2) := by decide +kernel
theorem dz_M_isEnough_21 : decode zm_M_isEnough.2.1 21 = .ok (.iconst 4, 1) := by decide +kernel
theorem dz_M_isEnough_22 : decode zm_M_isEnough.2.1 22 = .ok (.if_icmp .ge 37, 3) := by decide +kernel
theorem dz_M_isEnough_25 : decode zm_M_isEnough.2.1 25 = .ok (.iload_n 2, 1) := by decide +kernel
theorem dz_M_isEnough_26 : decode zm_M_isEnough.2.1 26 = .ok (.ifCond .eq 25, 3) := by decide +kernel
theorem dz_M_isEnough_29 : decode zm_M_isEnough.2.1 29 = .ok (.aload_n 0, 1) := by decide +kernel
theorem dz_M_isEnough_30 : decode zm_M_isEnough.2.1 30 = .ok (.iload 4, 2) := by decide +kernel
theorem dz_M_isEnough_32 : decode zm_M_isEnough.2.1 32 = .ok (.iload_n 3, 1) := by decide +kernel
theorem dz_M_isEnough_33 : decode zm_M_isEnough.2.1 33 = .ok (.iload_n 1, 1) := by decide +kernel
theorem dz_M_isEnough_34 : decode zm_M_isEnough.2.1 34 = .ok (.invokevirtual 200, 3) := by decide +kernel
theorem dz_M_isEnough_37 : decode zm_M_isEnough.2.1 37 = .ok (.aload_n 0, 1) := by decide +kernel
theorem dz_M_isEnough_38 : decode zm_M_isEnough.2.1 38 = .ok (.iload 4, 2) := by decide +kernel
theorem dz_M_isEnough_40 : decode zm_M_isEnough.2.1 40 = .ok (.iload_n 3, 1) := by decide +kernel
theorem dz_M_isEnough_41 : decode zm_M_isEnough.2.1 41 = .ok (.invokevirtual 220, 3) := by decide +kernel
theorem dz_M_isEnough_44 : decode zm_M_isEnough.2.1 44 = .ok (.if_icmp .ne 7, 3) := by decide +kernel
theorem dz_M_isEnough_47 : decode zm_M_isEnough.2.1 47 = .ok (.iconst 1, 1) := by decide +kernel
theorem dz_M_isEnough_48 : decode zm_M_isEnough.2.1 48 = .ok (.goto 4, 3) := by decide +kernel
theorem dz_M_isEnough_51 : decode zm_M_isEnough.2.1 51 = .ok (.iconst 0, 1) := by decide +kernel
theorem dz_M_isEnough_52 : decode zm_M_isEnough.2.1 52 = .ok (.istore_n 2, 1) := by decide +kernel
theorem dz_M_isEnough_53 : decode zm_M_isEnough.2.1 53 = .ok (.iinc 4 1, 3) := by decide +kernel
theorem dz_M_isEnough_56 : decode zm_M_isEnough.2.1 56 = .ok (.goto (-37), 3) := by decide +kernel
theorem dz_M_isEnough_59 : decode zm_M_isEnough.2.1 59 = .ok (.iinc 3 1, 3) := by decide +kernel
theorem dz_M_isEnough_62 : decode zm_M_isEnough.2.1 62 = .ok (.goto (-58), 3) := by decide +kernel
theorem dz_M_isEnough_65 : decode zm_M_isEnough.2.1 65 = .ok (.iload_n 2, 1) := by decide +kernel
theorem dz_M_isEnough_66 : decode zm_M_isEnough.2.1 66 = .ok (.ireturn, 1) := by decide +kernel
theorem dz_M_bitsOf_0 : decode zm_M_bitsOf.2.1 0 = .ok (.iconst 0, 1) := by decide +kernel
theorem dz_M_bitsOf_1 : decode zm_M_bitsOf.2.1 1 = .ok (.istore_n 1, 1) := by decide +kernel
theorem dz_M_bitsOf_2 : decode zm_M_bitsOf.2.1 2 = .ok (.iconst 0, 1) := by decide +kernel
theorem dz_M_bitsOf_3 : decode zm_M_bitsOf.2.1 3 = .ok (.istore_n 2, 1) := by decide +kernel
theorem dz_M_bitsOf_4 : decode zm_M_bitsOf.2.1 4 = .ok (.iload_n 2, 1) := by decide +kernel
theorem dz_M_bitsOf_5 : decode zm_M_bitsOf.2.1 5 = .ok (.bipush 6, 2) := by decide +kernel
theorem dz_M_bitsOf_7 : decode zm_M_bitsOf.2.1 7 = .ok (.if_icmp .ge 17, 3) := by decide +kernel
theorem dz_M_bitsOf_10 : decode zm_M_bitsOf.2.1 10 = .ok (.iload_n 1, 1) := by decide +kernel
theorem dz_M_bitsOf_11 : decode zm_M_bitsOf.2.1 11 = .ok (.iload_n 0, 1) := by decide +kernel
theorem dz_M_bitsOf_12 : decode zm_M_bitsOf.2.1 12 = .ok (.iload_n 2, 1) := by decide +kernel
theorem dz_M_bitsOf_13 : decode zm_M_bitsOf.2.1 13 = .ok (.ishr, 1) := by decide +kernel
theorem dz_M_bitsOf_14 : decode zm_M_bitsOf.2.1 14 = .ok (.iconst 1, 1) := by decide +kernel
theorem dz_M_bitsOf_15 : decode zm_M_bitsOf.2.1 15 = .ok (.iand, 1) := by decide +kernel
theorem dz_M_bitsOf_16 : decode zm_M_bitsOf.2.1 16 = .ok (.iadd, 1) := by decide +kernel
theorem dz_M_bitsOf_17 : decode zm_M_bitsOf.2.1 17 = .ok (.istore_n 1, 1) := by decide +kernel
theorem dz_M_bitsOf_18 : decode zm_M_bitsOf.2.1 18 = .ok (.iinc 2 1, 3) := by decide +kernel
theorem dz_M_bitsOf_21 : decode zm_M_bitsOf.2.1 21 = .ok (.goto (-17), 3) := by decide +kernel
theorem dz_M_bitsOf_24 : decode zm_M_bitsOf.2.1 24 = .ok (.iload_n 1, 1) := by decide +kernel
theorem dz_M_bitsOf_25 : decode zm_M_bitsOf.2.1 25 = .ok (.ireturn, 1) := by decide +kernel
theorem dz_M_least_0 : decode zm_M_least.2.1 0 = .ok (.iload_n 1, 1) := by decide +kernel
theorem dz_M_least_1 : decode zm_M_least.2.1 1 = .ok (.i2l, 1) := by decide +kernel
theorem dz_M_least_2 : decode zm_M_least.2.1 2 = .ok (.lconst 0, 1) := by decide +kernel
theorem dz_M_least_3 : decode zm_M_least.2.1 3 = .ok (.lconst 1, 1) := by decide +kernel
theorem dz_M_least_4 : decode zm_M_least.2.1 4 = .ok (.invokestatic 65, 3) := by decide +kernel
theorem dz_M_least_7 : decode zm_M_least.2.1 7 = .ok (.ifCond .ne 5, 3) := by decide +kernel
theorem dz_M_least_10 : decode zm_M_least.2.1 10 = .ok (.iconst (-1), 1) := by decide +kernel
theorem dz_M_least_11 : decode zm_M_least.2.1 11 = .ok (.ireturn, 1) := by decide +kernel
theorem dz_M_least_12 : decode zm_M_least.2.1 12 = .ok (.bipush 100, 2) := by decide +kernel
theorem dz_M_least_14 : decode zm_M_least.2.1 14 = .ok (.istore_n 2, 1) := by decide +kernel
theorem dz_M_least_15 : decode zm_M_least.2.1 15 = .ok (.iconst 0, 1) := by decide +kernel
theorem dz_M_least_16 : decode zm_M_least.2.1 16 = .ok (.istore_n 3, 1) := by decide +kernel
theorem dz_M_least_17 : decode zm_M_least.2.1 17 = .ok (.iconst 0, 1) := by decide +kernel
theorem dz_M_least_18 : decode zm_M_least.2.1 18 = .ok (.istore 4, 2) := by decide +kernel
theorem dz_M_least_20 : decode zm_M_least.2.1 20 = .ok (.iload 4, 2) := by decide +kernel
theorem dz_M_least_22 : decode zm_M_least.2.1 22 = .ok (.iconst 1, 1) := by decide +kernel
theorem dz_M_least_23 : decode zm_M_least.2.1 23 = .ok (.aload_n 0, 1) := by decide +kernel
theorem dz_M_least_24 : decode zm_M_least.2.1 24 = .ok (.getfield 161, 3) := by decide +kernel
theorem dz_M_least_27 : decode zm_M_least.2.1 27 = .ok (.ishl, 1) := by decide +kernel
theorem dz_M_least_28 : decode zm_M_least.2.1 28 = .ok (.if_icmp .ge 36, 3) := by decide +kernel
theorem dz_M_least_31 : decode zm_M_least.2.1 31 = .ok (.iload 4, 2) := by decide +kernel
theorem dz_M_least_33 : decode zm_M_least.2.1 33 = .ok (.invokestatic 257, 3) := by decide +kernel
theorem dz_M_least_36 : decode zm_M_least.2.1 36 = .ok (.iload_n 2, 1) := by decide +kernel
theorem dz_M_least_37 : decode zm_M_least.2.1 37 = .ok (.if_icmp .ge 21, 3) := by decide +kernel
theorem dz_M_least_40 : decode zm_M_least.2.1 40 = .ok (.aload_n 0, 1) := by decide +kernel
theorem dz_M_least_41 : decode zm_M_least.2.1 41 = .ok (.iload 4, 2) := by decide +kernel
theorem dz_M_least_43 : decode zm_M_least.2.1 43 = .ok (.invokevirtual 260, 3) := by decide +kernel
theorem dz_M_least_46 : decode zm_M_least.2.1 46 = .ok (.ifCond .eq 12, 3) := by decide +kernel
theorem dz_M_least_49 : decode zm_M_least.2.1 49 = .ok (.iload 4, 2) := by decide +kernel
theorem dz_M_least_51 : decode zm_M_least.2.1 51 = .ok (.invokestatic 257, 3) := by decide +kernel
theorem dz_M_least_54 : decode zm_M_least.2.1 54 = .ok (.istore_n 2, 1) := by decide +kernel
theorem dz_M_least_55 : decode zm_M_least.2.1 55 = .ok (.iload 4, 2) := by decide +kernel
theorem dz_M_least_57 : decode zm_M_least.2.1 57 = .ok (.istore_n 3, 1) := by decide +kernel
theorem dz_M_least_58 : decode zm_M_least.2.1 58 = .ok (.iinc 4 1, 3) := by decide +kernel
theorem dz_M_least_61 : decode zm_M_least.2.1 61 = .ok (.goto (-41), 3) := by decide +kernel
theorem dz_M_least_64 : decode zm_M_least.2.1 64 = .ok (.iload_n 1, 1) := by decide +kernel
theorem dz_M_least_65 : decode zm_M_least.2.1 65 = .ok (.ifCond .ne 7, 3) := by decide +kernel
theorem dz_M_least_68 : decode zm_M_least.2.1 68 = .ok (.iload_n 2, 1) := by decide +kernel
theorem dz_M_least_69 : decode zm_M_least.2.1 69 = .ok (.goto 4, 3) := by decide +kernel
theorem dz_M_least_72 : decode zm_M_least.2.1 72 = .ok (.iload_n 3, 1) := by decide +kernel
theorem dz_M_least_73 : decode zm_M_least.2.1 73 = .ok (.ireturn, 1) := by decide +kernel
theorem dz_M_who_0 : decode zm_M_who.2.1 0 = .ok (.iload_n 1, 1) := by decide +kernel
theorem dz_M_who_1 : decode zm_M_who.2.1 1 = .ok (.invokestatic 217, 3) := by decide +kernel
theorem dz_M_who_4 : decode zm_M_who.2.1 4 = .ok (.ifCond .ne 5, 3) := by decide +kernel
theorem dz_M_who_7 : decode zm_M_who.2.1 7 = .ok (.iconst (-1), 1) := by decide +kernel
theorem dz_M_who_8 : decode zm_M_who.2.1 8 = .ok (.ireturn, 1) := by decide +kernel
theorem dz_M_who_9 : decode zm_M_who.2.1 9 = .ok (.iconst 0, 1) := by decide +kernel
theorem dz_M_who_10 : decode zm_M_who.2.1 10 = .ok (.istore_n 2, 1) := by decide +kernel
theorem dz_M_who_11 : decode zm_M_who.2.1 11 = .ok (.iconst 0, 1) := by decide +kernel
theorem dz_M_who_12 : decode zm_M_who.2.1 12 = .ok (.istore_n 3, 1) := by decide +kernel
theorem dz_M_who_13 : decode zm_M_who.2.1 13 = .ok (.iload_n 3, 1) := by decide +kernel
theorem dz_M_who_14 : decode zm_M_who.2.1 14 = .ok (.aload_n 0, 1) := by decide +kernel
theorem dz_M_who_15 : decode zm_M_who.2.1 15 = .ok (.invokevirtual 254, 3) := by decide +kernel
theorem dz_M_who_18 : decode zm_M_who.2.1 18 = .ok (.if_icmp .ge 35, 3) := by decide +kernel
theorem dz_M_who_21 : decode zm_M_who.2.1 21 = .ok (.aload_n 0, 1) := by decide +kernel
theorem dz_M_who_22 : decode zm_M_who.2.1 22 = .ok (.iload_n 1, 1) := by decide +kernel
theorem dz_M_who_23 : decode zm_M_who.2.1 23 = .ok (.iload_n 3, 1) := by decide +kernel
theorem dz_M_who_24 : decode zm_M_who.2.1 24 = .ok (.invokevirtual 220, 3) := by decide +kernel
theorem dz_M_who_27 : decode zm_M_who.2.1 27 = .ok (.istore 4, 2) := by decide +kernel
theorem dz_M_who_29 : decode zm_M_who.2.1 29 = .ok (.iload_n 2, 1) := by decide +kernel
theorem dz_M_who_30 : decode zm_M_who.2.1 30 = .ok (.iload 4, 2) := by decide +kernel
theorem dz_M_who_32 : decode zm_M_who.2.1 32 = .ok (.bipush (-4), 2) := by decide +kernel
theorem dz_M_who_34 : decode zm_M_who.2.1 34 = .ok (.if_icmp .ne 7, 3) := by decide +kernel
theorem dz_M_who_37 : decode zm_M_who.2.1 37 = .ok (.iconst 0, 1) := by decide +kernel
theorem dz_M_who_38 : decode zm_M_who.2.1 38 = .ok (.goto 7, 3) := by decide +kernel
theorem dz_M_who_41 : decode zm_M_who.2.1 41 = .ok (.iconst 1, 1) := by decide +kernel
theorem dz_M_who_42 : decode zm_M_who.2.1 42 = .ok (.iload 4, 2) := by decide +kernel
theorem dz_M_who_44 : decode zm_M_who.2.1 44 = .ok (.ishl, 1) := by decide +kernel
theorem dz_M_who_45 : decode zm_M_who.2.1 45 = .ok (.ior, 1) := by decide +kernel
theorem dz_M_who_46 : decode zm_M_who.2.1 46 = .ok (.istore_n 2, 1) := by decide +kernel
theorem dz_M_who_47 : decode zm_M_who.2.1 47 = .ok (.iinc 3 1, 3) := by decide +kernel
theorem dz_M_who_50 : decode zm_M_who.2.1 50 = .ok (.goto (-37), 3) := by decide +kernel
theorem dz_M_who_53 : decode zm_M_who.2.1 53 = .ok (.iload_n 2, 1) := by decide +kernel
theorem dz_M_who_54 : decode zm_M_who.2.1 54 = .ok (.ireturn, 1) := by decide +kernel
theorem dz_M_via_0 : decode zm_M_via.2.1 0 = .ok (.aload_n 0, 1) := by decide +kernel
theorem dz_M_via_1 : decode zm_M_via.2.1 1 = .ok (.iload_n 1, 1) := by decide +kernel
theorem dz_M_via_2 : decode zm_M_via.2.1 2 = .ok (.invokevirtual 203, 3) := by decide +kernel
theorem dz_M_via_5 : decode zm_M_via.2.1 5 = .ok (.ifCond .eq 10, 3) := by decide +kernel
theorem dz_M_via_8 : decode zm_M_via.2.1 8 = .ok (.iload_n 2, 1) := by decide +kernel
theorem dz_M_via_9 : decode zm_M_via.2.1 9 = .ok (.invokestatic 217, 3) := by decide +kernel
theorem dz_M_via_12 : decode zm_M_via.2.1 12 = .ok (.ifCond .ne 5, 3) := by decide +kernel
theorem dz_M_via_15 : decode zm_M_via.2.1 15 = .ok (.iconst (-1), 1) := by decide +kernel
theorem dz_M_via_16 : decode zm_M_via.2.1 16 = .ok (.ireturn, 1) := by decide +kernel
theorem dz_M_via_17 : decode zm_M_via.2.1 17 = .ok (.iconst 0, 1) := by decide +kernel
theorem dz_M_via_18 : decode zm_M_via.2.1 18 = .ok (.istore_n 3, 1) := by decide +kernel
theorem dz_M_via_19 : decode zm_M_via.2.1 19 = .ok (.iconst 0, 1) := by decide +kernel
theorem dz_M_via_20 : decode zm_M_via.2.1 20 = .ok (.istore 4, 2) := by decide +kernel
theorem dz_M_via_22 : decode zm_M_via.2.1 22 = .ok (.iload 4, 2) := by decide +kernel
theorem dz_M_via_24 : decode zm_M_via.2.1 24 = .ok (.aload_n 0, 1) := by decide +kernel
theorem dz_M_via_25 : decode zm_M_via.2.1 25 = .ok (.invokevirtual 254, 3) := by decide +kernel
theorem dz_M_via_28 : decode zm_M_via.2.1 28 = .ok (.if_icmp .ge 40, 3) := by decide +kernel
theorem dz_M_via_31 : decode zm_M_via.2.1 31 = .ok (.iload_n 3, 1) := by decide +kernel
theorem dz_M_via_32 : decode zm_M_via.2.1 32 = .ok (.aload_n 0, 1) := by decide +kernel
theorem dz_M_via_33 : decode zm_M_via.2.1 33 = .ok (.iload_n 2, 1) := by decide +kernel
theorem dz_M_via_34 : decode zm_M_via.2.1 34 = .ok (.iload 4, 2) := by decide +kernel
theorem dz_M_via_36 : decode zm_M_via.2.1 36 = .ok (.invokevirtual 220, 3) := by decide +kernel
theorem dz_M_via_39 : decode zm_M_via.2.1 39 = .ok (.iload_n 1, 1) := by decide +kernel
theorem dz_M_via_40 : decode zm_M_via.2.1 40 = .ok (.if_icmp .ne 19, 3) := by decide +kernel
theorem dz_M_via_43 : decode zm_M_via.2.1 43 = .ok (.iconst 1, 1) := by decide +kernel
theorem dz_M_via_44 : decode zm_M_via.2.1 44 = .ok (.aload_n 0, 1) := by decide +kernel
theorem dz_M_via_45 : decode zm_M_via.2.1 45 = .ok (.iload_n 2, 1) := by decide +kernel
theorem dz_M_via_46 : decode zm_M_via.2.1 46 = .ok (.iload 4, 2) := by decide +kernel
theorem dz_M_via_48 : decode zm_M_via.2.1 48 = .ok (.bipush 31, 2) := by decide +kernel
theorem dz_M_via_50 : decode zm_M_via.2.1 50 = .ok (.bipush (-4), 2) := by decide +kernel
theorem dz_M_via_52 : decode zm_M_via.2.1 52 = .ok (.invokevirtual 193, 3) := by decide +kernel
theorem dz_M_via_55 : decode zm_M_via.2.1 55 = .ok (.ishl, 1) := by decide +kernel
theorem dz_M_via_56 : decode zm_M_via.2.1 56 = .ok (.goto 4, 3) := by decide +kernel
theorem dz_M_via_59 : decode zm_M_via.2.1 59 = .ok (.iconst 0, 1) := by decide +kernel
theorem dz_M_via_60 : decode zm_M_via.2.1 60 = .ok (.ior, 1) := by decide +kernel
theorem dz_M_via_61 : decode zm_M_via.2.1 61 = .ok (.istore_n 3, 1) := by decide +kernel
theorem dz_M_via_62 : decode zm_M_via.2.1 62 = .ok (.iinc 4 1, 3) := by decide +kernel
theorem dz_M_via_65 : decode zm_M_via.2.1 65 = .ok (.goto (-43), 3) := by decide +kernel
theorem dz_M_via_68 : decode zm_M_via.2.1 68 = .ok (.iload_n 3, 1) := by decide +kernel
theorem dz_M_via_69 : decode zm_M_via.2.1 69 = .ok (.ireturn, 1) := by decide +kernel
theorem dz_M_lowest_0 : decode zm_M_lowest.2.1 0 = .ok (.lload_n 0, 1) := by decide +kernel
theorem dz_M_lowest_1 : decode zm_M_lowest.2.1 1 = .ok (.lstore 5, 2) := by decide +kernel
theorem dz_M_lowest_3 : decode zm_M_lowest.2.1 3 = .ok (.lload_n 2, 1) := by decide +kernel
theorem dz_M_lowest_4 : decode zm_M_lowest.2.1 4 = .ok (.lstore 7, 2) := by decide +kernel
theorem dz_M_lowest_6 : decode zm_M_lowest.2.1 6 = .ok (.lload 7, 2) := by decide +kernel
theorem dz_M_lowest_8 : decode zm_M_lowest.2.1 8 = .ok (.lconst 0, 1) := by decide +kernel
theorem dz_M_lowest_9 : decode zm_M_lowest.2.1 9 = .ok (.lcmp, 1) := by decide +kernel
theorem dz_M_lowest_10 : decode zm_M_lowest.2.1 10 = .ok (.ifCond .eq 21, 3) := by decide +kernel
theorem dz_M_lowest_13 : decode zm_M_lowest.2.1 13 = .ok (.lload 5, 2) := by decide +kernel
theorem dz_M_lowest_15 : decode zm_M_lowest.2.1 15 = .ok (.lload 7, 2) := by decide +kernel
theorem dz_M_lowest_17 : decode zm_M_lowest.2.1 17 = .ok (.lrem, 1) := by decide +kernel
theorem dz_M_lowest_18 : decode zm_M_lowest.2.1 18 = .ok (.lstore 9, 2) := by decide +kernel
theorem dz_M_lowest_20 : decode zm_M_lowest.2.1 20 = .ok (.lload 7, 2) := by decide +kernel
theorem dz_M_lowest_22 : decode zm_M_lowest.2.1 22 = .ok (.lstore 5, 2) := by decide +kernel
theorem dz_M_lowest_24 : decode zm_M_lowest.2.1 24 = .ok (.lload 9, 2) := by decide +kernel
theorem dz_M_lowest_26 : decode zm_M_lowest.2.1 26 = .ok (.lstore 7, 2) := by decide +kernel
theorem dz_M_lowest_28 : decode zm_M_lowest.2.1 28 = .ok (.goto (-22), 3) := by decide +kernel
theorem dz_M_lowest_31 : decode zm_M_lowest.2.1 31 = .ok (.iload 4, 2) := by decide +kernel
theorem dz_M_lowest_33 : decode zm_M_lowest.2.1 33 = .ok (.ifCond .ne 7, 3) := by decide +kernel
theorem dz_M_lowest_36 : decode zm_M_lowest.2.1 36 = .ok (.lload_n 0, 1) := by decide +kernel
theorem dz_M_lowest_37 : decode zm_M_lowest.2.1 37 = .ok (.goto 4, 3) := by decide +kernel
theorem dz_M_lowest_40 : decode zm_M_lowest.2.1 40 = .ok (.lload_n 2, 1) := by decide +kernel
theorem dz_M_lowest_41 : decode zm_M_lowest.2.1 41 = .ok (.lload 5, 2) := by decide +kernel
theorem dz_M_lowest_43 : decode zm_M_lowest.2.1 43 = .ok (.ldiv, 1) := by decide +kernel
theorem dz_M_lowest_44 : decode zm_M_lowest.2.1 44 = .ok (.lreturn, 1) := by decide +kernel
theorem dz_M_odds_0 : decode zm_M_odds.2.1 0 = .ok (.iload_n 1, 1) := by decide +kernel
theorem dz_M_odds_1 : decode zm_M_odds.2.1 1 = .ok (.i2l, 1) := by decide +kernel
theorem dz_M_odds_2 : decode zm_M_odds.2.1 2 = .ok (.lconst 0, 1) := by decide +kernel
theorem dz_M_odds_3 : decode zm_M_odds.2.1 3 = .ok (.ldc2_w 239, 3) := by decide +kernel
theorem dz_M_odds_6 : decode zm_M_odds.2.1 6 = .ok (.invokestatic 65, 3) := by decide +kernel
theorem dz_M_odds_9 : decode zm_M_odds.2.1 9 = .ok (.ifCond .eq 29, 3) := by decide +kernel
theorem dz_M_odds_12 : decode zm_M_odds.2.1 12 = .ok (.aload_n 0, 1) := by decide +kernel
theorem dz_M_odds_13 : decode zm_M_odds.2.1 13 = .ok (.iload_n 2, 1) := by decide +kernel
theorem dz_M_odds_14 : decode zm_M_odds.2.1 14 = .ok (.invokevirtual 203, 3) := by decide +kernel
theorem dz_M_odds_17 : decode zm_M_odds.2.1 17 = .ok (.ifCond .eq 21, 3) := by decide +kernel
theorem dz_M_odds_20 : decode zm_M_odds.2.1 20 = .ok (.iload_n 3, 1) := by decide +kernel
theorem dz_M_odds_21 : decode zm_M_odds.2.1 21 = .ok (.invokestatic 217, 3) := by decide +kernel
theorem dz_M_odds_24 : decode zm_M_odds.2.1 24 = .ok (.ifCond .eq 14, 3) := by decide +kernel
theorem dz_M_odds_27 : decode zm_M_odds.2.1 27 = .ok (.iload 4, 2) := by decide +kernel
theorem dz_M_odds_29 : decode zm_M_odds.2.1 29 = .ok (.i2l, 1) := by decide +kernel
theorem dz_M_odds_30 : decode zm_M_odds.2.1 30 = .ok (.lconst 0, 1) := by decide +kernel
theorem dz_M_odds_31 : decode zm_M_odds.2.1 31 = .ok (.lconst 1, 1) := by decide +kernel
theorem dz_M_odds_32 : decode zm_M_odds.2.1 32 = .ok (.invokestatic 65, 3) := by decide +kernel
theorem dz_M_odds_35 : decode zm_M_odds.2.1 35 = .ok (.ifCond .ne 7, 3) := by decide +kernel
theorem dz_M_odds_38 : decode zm_M_odds.2.1 38 = .ok (.ldc2_w 263, 3) := by decide +kernel
theorem dz_M_odds_41 : decode zm_M_odds.2.1 41 = .ok (.lreturn, 1) := by decide +kernel
theorem dz_M_odds_42 : decode zm_M_odds.2.1 42 = .ok (.aload_n 0, 1) := by decide +kernel
theorem dz_M_odds_43 : decode zm_M_odds.2.1 43 = .ok (.getfield 7, 3) := by decide +kernel
theorem dz_M_odds_46 : decode zm_M_odds.2.1 46 = .ok (.bipush 12, 2) := by decide +kernel
theorem dz_M_odds_48 : decode zm_M_odds.2.1 48 = .ok (.iaload, 1) := by decide +kernel
theorem dz_M_odds_49 : decode zm_M_odds.2.1 49 = .ok (.istore 5, 2) := by decide +kernel
theorem dz_M_odds_51 : decode zm_M_odds.2.1 51 = .ok (.lconst 0, 1) := by decide +kernel
theorem dz_M_odds_52 : decode zm_M_odds.2.1 52 = .ok (.lstore 6, 2) := by decide +kernel
theorem dz_M_odds_54 : decode zm_M_odds.2.1 54 = .ok (.lconst 1, 1) := by decide +kernel
theorem dz_M_odds_55 : decode zm_M_odds.2.1 55 = .ok (.lstore 8, 2) := by decide +kernel
theorem dz_M_odds_57 : decode zm_M_odds.2.1 57 = .ok (.iconst 0, 1) := by decide +kernel
theorem dz_M_odds_58 : decode zm_M_odds.2.1 58 = .ok (.istore 10, 2) := by decide +kernel
theorem dz_M_odds_60 : decode zm_M_odds.2.1 60 = .ok (.iload 10, 2) := by decide +kernel
theorem dz_M_odds_62 : decode zm_M_odds.2.1 62 = .ok (.aload_n 0, 1) := by decide +kernel
theorem dz_M_odds_63 : decode zm_M_odds.2.1 63 = .ok (.getfield 158, 3) := by decide +kernel
theorem dz_M_odds_66 : decode zm_M_odds.2.1 66 = .ok (.if_icmp .ge 31, 3) := by decide +kernel
theorem dz_M_odds_69 : decode zm_M_odds.2.1 69 = .ok (.lload 8, 2) := by decide +kernel
theorem dz_M_odds_71 : decode zm_M_odds.2.1 71 = .ok (.iload 10, 2) := by decide +kernel
theorem dz_M_odds_73 : decode zm_M_odds.2.1 73 = .ok (.iload 5, 2) := by decide +kernel
theorem dz_M_odds_75 : decode zm_M_odds.2.1 75 = .ok (.invokestatic 169, 3) := by decide +kernel
theorem dz_M_odds_78 : decode zm_M_odds.2.1 78 = .ok (.ifCond .eq 9, 3) := by decide +kernel
theorem dz_M_odds_81 : decode zm_M_odds.2.1 81 = .ok (.ldc2_w 239, 3) := by decide +kernel
theorem dz_M_odds_84 : decode zm_M_odds.2.1 84 = .ok (.goto 4, 3) := by decide +kernel
theorem dz_M_odds_87 : decode zm_M_odds.2.1 87 = .ok (.lconst 1, 1) := by decide +kernel
theorem dz_M_odds_88 : decode zm_M_odds.2.1 88 = .ok (.lmul, 1) := by decide +kernel
theorem dz_M_odds_89 : decode zm_M_odds.2.1 89 = .ok (.lstore 8, 2) := by decide +kernel
theorem dz_M_odds_91 : decode zm_M_odds.2.1 91 = .ok (.iinc 10 1, 3) := by decide +kernel
theorem dz_M_odds_94 : decode zm_M_odds.2.1 94 = .ok (.goto (-34), 3) := by decide +kernel
theorem dz_M_odds_97 : decode zm_M_odds.2.1 97 = .ok (.iconst 0, 1) := by decide +kernel
theorem dz_M_odds_98 : decode zm_M_odds.2.1 98 = .ok (.istore 10, 2) := by decide +kernel
theorem dz_M_odds_100 : decode zm_M_odds.2.1 100 = .ok (.iload 10, 2) := by decide +kernel
theorem dz_M_odds_102 : decode zm_M_odds.2.1 102 = .ok (.aload_n 0, 1) := by decide +kernel
theorem dz_M_odds_103 : decode zm_M_odds.2.1 103 = .ok (.invokevirtual 254, 3) := by decide +kernel
theorem dz_M_odds_106 : decode zm_M_odds.2.1 106 = .ok (.if_icmp .ge 97, 3) := by decide +kernel
theorem dz_M_odds_109 : decode zm_M_odds.2.1 109 = .ok (.iload 10, 2) := by decide +kernel
theorem dz_M_odds_111 : decode zm_M_odds.2.1 111 = .ok (.iload 5, 2) := by decide +kernel
theorem dz_M_odds_113 : decode zm_M_odds.2.1 113 = .ok (.iand, 1) := by decide +kernel
theorem dz_M_odds_114 : decode zm_M_odds.2.1 114 = .ok (.iload 5, 2) := by decide +kernel
theorem dz_M_odds_116 : decode zm_M_odds.2.1 116 = .ok (.if_icmp .ne 81, 3) := by decide +kernel
theorem dz_M_odds_119 : decode zm_M_odds.2.1 119 = .ok (.aload_n 0, 1) := by decide +kernel
theorem dz_M_odds_120 : decode zm_M_odds.2.1 120 = .ok (.iload_n 3, 1) := by decide +kernel
theorem dz_M_odds_121 : decode zm_M_odds.2.1 121 = .ok (.iload 10, 2) := by decide +kernel
theorem dz_M_odds_123 : decode zm_M_odds.2.1 123 = .ok (.invokevirtual 220, 3) := by decide +kernel
theorem dz_M_odds_126 : decode zm_M_odds.2.1 126 = .ok (.iload_n 2, 1) := by decide +kernel
theorem dz_M_odds_127 : decode zm_M_odds.2.1 127 = .ok (.if_icmp .ne 70, 3) := by decide +kernel
theorem dz_M_odds_130 : decode zm_M_odds.2.1 130 = .ok (.lconst 1, 1) := by decide +kernel
theorem dz_M_odds_131 : decode zm_M_odds.2.1 131 = .ok (.lstore 11, 2) := by decide +kernel
theorem dz_M_odds_133 : decode zm_M_odds.2.1 133 = .ok (.iconst 0, 1) := by decide +kernel
theorem dz_M_odds_134 : decode zm_M_odds.2.1 134 = .ok (.istore 13, 2) := by decide +kernel
theorem dz_M_odds_136 : decode zm_M_odds.2.1 136 = .ok (.iload 13, 2) := by decide +kernel
theorem dz_M_odds_138 : decode zm_M_odds.2.1 138 = .ok (.aload_n 0, 1) := by decide +kernel
theorem dz_M_odds_139 : decode zm_M_odds.2.1 139 = .ok (.getfield 158, 3) := by decide +kernel
theorem dz_M_odds_142 : decode zm_M_odds.2.1 142 = .ok (.if_icmp .ge 48, 3) := by decide +kernel
theorem dz_M_odds_145 : decode zm_M_odds.2.1 145 = .ok (.lload 11, 2) := by decide +kernel
theorem dz_M_odds_147 : decode zm_M_odds.2.1 147 = .ok (.iload 13, 2) := by decide +kernel
theorem dz_M_odds_149 : decode zm_M_odds.2.1 149 = .ok (.iload 5, 2) := by decide +kernel
theorem dz_M_odds_151 : decode zm_M_odds.2.1 151 = .ok (.invokestatic 169, 3) := by decide +kernel
theorem dz_M_odds_154 : decode zm_M_odds.2.1 154 = .ok (.ifCond .ne 7, 3) := by decide +kernel
theorem dz_M_odds_157 : decode zm_M_odds.2.1 157 = .ok (.lconst 1, 1) := by decide +kernel
theorem dz_M_odds_158 : decode zm_M_odds.2.1 158 = .ok (.goto 23, 3) := by decide +kernel
theorem dz_M_odds_161 : decode zm_M_odds.2.1 161 = .ok (.iload 13, 2) := by decide +kernel
theorem dz_M_odds_163 : decode zm_M_odds.2.1 163 = .ok (.iload 10, 2) := by decide +kernel
theorem dz_M_odds_165 : decode zm_M_odds.2.1 165 = .ok (.invokestatic 169, 3) := by decide +kernel
theorem dz_M_odds_168 : decode zm_M_odds.2.1 168 = .ok (.ifCond .eq 11, 3) := by decide +kernel
theorem dz_M_odds_171 : decode zm_M_odds.2.1 171 = .ok (.bipush 10, 2) := by decide +kernel
theorem dz_M_odds_173 : decode zm_M_odds.2.1 173 = .ok (.iload_n 1, 1) := by decide +kernel
theorem dz_M_odds_174 : decode zm_M_odds.2.1 174 = .ok (.isub, 1) := by decide +kernel
theorem dz_M_odds_175 : decode zm_M_odds.2.1 175 = .ok (.i2l, 1) := by decide +kernel
theorem dz_M_odds_176 : decode zm_M_odds.2.1 176 = .ok (.goto 5, 3) := by decide +kernel
theorem dz_M_odds_179 : decode zm_M_odds.2.1 179 = .ok (.iload_n 1, 1) := by decide +kernel
theorem dz_M_odds_180 : decode zm_M_odds.2.1 180 = .ok (.i2l, 1) := by decide +kernel
theorem dz_M_odds_181 : decode zm_M_odds.2.1 181 = .ok (.lmul, 1) := by decide +kernel
theorem dz_M_odds_182 : decode zm_M_odds.2.1 182 = .ok (.lstore 11, 2) := by decide +kernel
theorem dz_M_odds_184 : decode zm_M_odds.2.1 184 = .ok (.iinc 13 1, 3) := by decide +kernel
theorem dz_M_odds_187 : decode zm_M_odds.2.1 187 = .ok (.goto (-51), 3) := by decide +kernel
theorem dz_M_odds_190 : decode zm_M_odds.2.1 190 = .ok (.lload 6, 2) := by decide +kernel
theorem dz_M_odds_192 : decode zm_M_odds.2.1 192 = .ok (.lload 11, 2) := by decide +kernel
theorem dz_M_odds_194 : decode zm_M_odds.2.1 194 = .ok (.ladd, 1) := by decide +kernel
theorem dz_M_odds_195 : decode zm_M_odds.2.1 195 = .ok (.lstore 6, 2) := by decide +kernel
theorem dz_M_odds_197 : decode zm_M_odds.2.1 197 = .ok (.iinc 10 1, 3) := by decide +kernel
theorem dz_M_odds_200 : decode zm_M_odds.2.1 200 = .ok (.goto (-100), 3) := by decide +kernel
theorem dz_M_odds_203 : decode zm_M_odds.2.1 203 = .ok (.lload 6, 2) := by decide +kernel
theorem dz_M_odds_205 : decode zm_M_odds.2.1 205 = .ok (.lload 8, 2) := by decide +kernel
theorem dz_M_odds_207 : decode zm_M_odds.2.1 207 = .ok (.iload 4, 2) := by decide +kernel
theorem dz_M_odds_209 : decode zm_M_odds.2.1 209 = .ok (.invokestatic 265, 3) := by decide +kernel
theorem dz_M_odds_212 : decode zm_M_odds.2.1 212 = .ok (.lreturn, 1) := by decide +kernel
theorem dz_M_turn_0 : decode zm_M_turn.2.1 0 = .ok (.iload_n 1, 1) := by decide +kernel
theorem dz_M_turn_1 : decode zm_M_turn.2.1 1 = .ok (.i2l, 1) := by decide +kernel
theorem dz_M_turn_2 : decode zm_M_turn.2.1 2 = .ok (.lconst 0, 1) := by decide +kernel
theorem dz_M_turn_3 : decode zm_M_turn.2.1 3 = .ok (.ldc2_w 241, 3) := by decide +kernel
theorem dz_M_turn_6 : decode zm_M_turn.2.1 6 = .ok (.invokestatic 65, 3) := by decide +kernel
theorem dz_M_turn_9 : decode zm_M_turn.2.1 9 = .ok (.ifCond .eq 10, 3) := by decide +kernel
theorem dz_M_turn_12 : decode zm_M_turn.2.1 12 = .ok (.iload_n 2, 1) := by decide +kernel
theorem dz_M_turn_13 : decode zm_M_turn.2.1 13 = .ok (.invokestatic 217, 3) := by decide +kernel
theorem dz_M_turn_16 : decode zm_M_turn.2.1 16 = .ok (.ifCond .ne 5, 3) := by decide +kernel
theorem dz_M_turn_19 : decode zm_M_turn.2.1 19 = .ok (.iconst (-1), 1) := by decide +kernel
theorem dz_M_turn_20 : decode zm_M_turn.2.1 20 = .ok (.ireturn, 1) := by decide +kernel
theorem dz_M_turn_21 : decode zm_M_turn.2.1 21 = .ok (.aload_n 0, 1) := by decide +kernel
theorem dz_M_turn_22 : decode zm_M_turn.2.1 22 = .ok (.iload_n 2, 1) := by decide +kernel
theorem dz_M_turn_23 : decode zm_M_turn.2.1 23 = .ok (.aload_n 0, 1) := by decide +kernel
theorem dz_M_turn_24 : decode zm_M_turn.2.1 24 = .ok (.getfield 7, 3) := by decide +kernel
theorem dz_M_turn_27 : decode zm_M_turn.2.1 27 = .ok (.bipush 12, 2) := by decide +kernel
theorem dz_M_turn_29 : decode zm_M_turn.2.1 29 = .ok (.iaload, 1) := by decide +kernel
theorem dz_M_turn_30 : decode zm_M_turn.2.1 30 = .ok (.bipush 31, 2) := by decide +kernel
theorem dz_M_turn_32 : decode zm_M_turn.2.1 32 = .ok (.iload_n 1, 1) := by decide +kernel
theorem dz_M_turn_33 : decode zm_M_turn.2.1 33 = .ok (.invokevirtual 193, 3) := by decide +kernel
theorem dz_M_turn_36 : decode zm_M_turn.2.1 36 = .ok (.istore_n 3, 1) := by decide +kernel
theorem dz_M_turn_37 : decode zm_M_turn.2.1 37 = .ok (.iload_n 3, 1) := by decide +kernel
theorem dz_M_turn_38 : decode zm_M_turn.2.1 38 = .ok (.bipush (-4), 2) := by decide +kernel
theorem dz_M_turn_40 : decode zm_M_turn.2.1 40 = .ok (.if_icmp .ne 8, 3) := by decide +kernel
theorem dz_M_turn_43 : decode zm_M_turn.2.1 43 = .ok (.bipush (-4), 2) := by decide +kernel
theorem dz_M_turn_45 : decode zm_M_turn.2.1 45 = .ok (.goto 16, 3) := by decide +kernel
theorem dz_M_turn_48 : decode zm_M_turn.2.1 48 = .ok (.aload_n 0, 1) := by decide +kernel
theorem dz_M_turn_49 : decode zm_M_turn.2.1 49 = .ok (.iload_n 3, 1) := by decide +kernel
theorem dz_M_turn_50 : decode zm_M_turn.2.1 50 = .ok (.aload_n 0, 1) := by decide +kernel
theorem dz_M_turn_51 : decode zm_M_turn.2.1 51 = .ok (.getfield 7, 3) := by decide +kernel
theorem dz_M_turn_54 : decode zm_M_turn.2.1 54 = .ok (.bipush 12, 2) := by decide +kernel
theorem dz_M_turn_56 : decode zm_M_turn.2.1 56 = .ok (.iaload, 1) := by decide +kernel
theorem dz_M_turn_57 : decode zm_M_turn.2.1 57 = .ok (.iload_n 1, 1) := by decide +kernel
theorem dz_M_turn_58 : decode zm_M_turn.2.1 58 = .ok (.invokevirtual 190, 3) := by decide +kernel
theorem dz_M_turn_61 : decode zm_M_turn.2.1 61 = .ok (.ireturn, 1) := by decide +kernel
theorem dz_M_stops_0 : decode zm_M_stops.2.1 0 = .ok (.aload_n 0, 1) := by decide +kernel
theorem dz_M_stops_1 : decode zm_M_stops.2.1 1 = .ok (.getfield 7, 3) := by decide +kernel
theorem dz_M_stops_4 : decode zm_M_stops.2.1 4 = .ok (.iload_n 1, 1) := by decide +kernel
theorem dz_M_stops_5 : decode zm_M_stops.2.1 5 = .ok (.iaload, 1) := by decide +kernel
theorem dz_M_stops_6 : decode zm_M_stops.2.1 6 = .ok (.istore 5, 2) := by decide +kernel
theorem dz_M_stops_8 : decode zm_M_stops.2.1 8 = .ok (.aload_n 0, 1) := by decide +kernel
theorem dz_M_stops_9 : decode zm_M_stops.2.1 9 = .ok (.getfield 7, 3) := by decide +kernel
theorem dz_M_stops_12 : decode zm_M_stops.2.1 12 = .ok (.bipush 6, 2) := by decide +kernel
theorem dz_M_stops_14 : decode zm_M_stops.2.1 14 = .ok (.iload_n 1, 1) := by decide +kernel
theorem dz_M_stops_15 : decode zm_M_stops.2.1 15 = .ok (.iadd, 1) := by decide +kernel
theorem dz_M_stops_16 : decode zm_M_stops.2.1 16 = .ok (.iaload, 1) := by decide +kernel
theorem dz_M_stops_17 : decode zm_M_stops.2.1 17 = .ok (.istore 6, 2) := by decide +kernel
theorem dz_M_stops_19 : decode zm_M_stops.2.1 19 = .ok (.aload_n 0, 1) := by decide +kernel
theorem dz_M_stops_20 : decode zm_M_stops.2.1 20 = .ok (.getfield 7, 3) := by decide +kernel
theorem dz_M_stops_23 : decode zm_M_stops.2.1 23 = .ok (.iload_n 1, 1) := by decide +kernel
theorem dz_M_stops_24 : decode zm_M_stops.2.1 24 = .ok (.iload_n 3, 1) := by decide +kernel
theorem dz_M_stops_25 : decode zm_M_stops.2.1 25 = .ok (.iastore, 1) := by decide +kernel
theorem dz_M_stops_26 : decode zm_M_stops.2.1 26 = .ok (.aload_n 0, 1) := by decide +kernel
theorem dz_M_stops_27 : decode zm_M_stops.2.1 27 = .ok (.getfield 7, 3) := by decide +kernel
theorem dz_M_stops_30 : decode zm_M_stops.2.1 30 = .ok (.bipush 6, 2) := by decide +kernel
theorem dz_M_stops_32 : decode zm_M_stops.2.1 32 = .ok (.iload_n 1, 1) := by decide +kernel
theorem dz_M_stops_33 : decode zm_M_stops.2.1 33 = .ok (.iadd, 1) := by decide +kernel
theorem dz_M_stops_34 : decode zm_M_stops.2.1 34 = .ok (.iload 4, 2) := by decide +kernel
theorem dz_M_stops_36 : decode zm_M_stops.2.1 36 = .ok (.iastore, 1) := by decide +kernel
theorem dz_M_stops_37 : decode zm_M_stops.2.1 37 = .ok (.aload_n 0, 1) := by decide +kernel
theorem dz_M_stops_38 : decode zm_M_stops.2.1 38 = .ok (.iload_n 2, 1) := by decide +kernel
theorem dz_M_stops_39 : decode zm_M_stops.2.1 39 = .ok (.aload_n 0, 1) := by decide +kernel
theorem dz_M_stops_40 : decode zm_M_stops.2.1 40 = .ok (.getfield 7, 3) := by decide +kernel
theorem dz_M_stops_43 : decode zm_M_stops.2.1 43 = .ok (.bipush 12, 2) := by decide +kernel
theorem dz_M_stops_45 : decode zm_M_stops.2.1 45 = .ok (.iaload, 1) := by decide +kernel
theorem dz_M_stops_46 : decode zm_M_stops.2.1 46 = .ok (.invokevirtual 220, 3) := by decide +kernel
theorem dz_M_stops_49 : decode zm_M_stops.2.1 49 = .ok (.iload_n 1, 1) := by decide +kernel
theorem dz_M_stops_50 : decode zm_M_stops.2.1 50 = .ok (.if_icmp .ne 7, 3) := by decide +kernel
theorem dz_M_stops_53 : decode zm_M_stops.2.1 53 = .ok (.iconst 1, 1) := by decide +kernel
theorem dz_M_stops_54 : decode zm_M_stops.2.1 54 = .ok (.goto 4, 3) := by decide +kernel
theorem dz_M_stops_57 : decode zm_M_stops.2.1 57 = .ok (.iconst 0, 1) := by decide +kernel
theorem dz_M_stops_58 : decode zm_M_stops.2.1 58 = .ok (.istore 7, 2) := by decide +kernel
theorem dz_M_stops_60 : decode zm_M_stops.2.1 60 = .ok (.aload_n 0, 1) := by decide +kernel
theorem dz_M_stops_61 : decode zm_M_stops.2.1 61 = .ok (.getfield 7, 3) := by decide +kernel
theorem dz_M_stops_64 : decode zm_M_stops.2.1 64 = .ok (.iload_n 1, 1) := by decide +kernel
theorem dz_M_stops_65 : decode zm_M_stops.2.1 65 = .ok (.iload 5, 2) := by decide +kernel
theorem dz_M_stops_67 : decode zm_M_stops.2.1 67 = .ok (.iastore, 1) := by decide +kernel
theorem dz_M_stops_68 : decode zm_M_stops.2.1 68 = .ok (.aload_n 0, 1) := by decide +kernel
theorem dz_M_stops_69 : decode zm_M_stops.2.1 69 = .ok (.getfield 7, 3) := by decide +kernel
theorem dz_M_stops_72 : decode zm_M_stops.2.1 72 = .ok (.bipush 6, 2) := by decide +kernel
theorem dz_M_stops_74 : decode zm_M_stops.2.1 74 = .ok (.iload_n 1, 1) := by decide +kernel
theorem dz_M_stops_75 : decode zm_M_stops.2.1 75 = .ok (.iadd, 1) := by decide +kernel
theorem dz_M_stops_76 : decode zm_M_stops.2.1 76 = .ok (.iload 6, 2) := by decide +kernel
theorem dz_M_stops_78 : decode zm_M_stops.2.1 78 = .ok (.iastore, 1) := by decide +kernel
theorem dz_M_stops_79 : decode zm_M_stops.2.1 79 = .ok (.iload 7, 2) := by decide +kernel
theorem dz_M_stops_81 : decode zm_M_stops.2.1 81 = .ok (.ifCond .eq 7, 3) := by decide +kernel
theorem dz_M_stops_84 : decode zm_M_stops.2.1 84 = .ok (.lconst 1, 1) := by decide +kernel
theorem dz_M_stops_85 : decode zm_M_stops.2.1 85 = .ok (.goto 4, 3) := by decide +kernel
theorem dz_M_stops_88 : decode zm_M_stops.2.1 88 = .ok (.lconst 0, 1) := by decide +kernel
theorem dz_M_stops_89 : decode zm_M_stops.2.1 89 = .ok (.lreturn, 1) := by decide +kernel
theorem dz_M_tens_0 : decode zm_M_tens.2.1 0 = .ok (.iload_n 0, 1) := by decide +kernel
theorem dz_M_tens_1 : decode zm_M_tens.2.1 1 = .ok (.ifCond .ne 7, 3) := by decide +kernel
theorem dz_M_tens_4 : decode zm_M_tens.2.1 4 = .ok (.lconst 1, 1) := by decide +kernel
theorem dz_M_tens_5 : decode zm_M_tens.2.1 5 = .ok (.goto 28, 3) := by decide +kernel
theorem dz_M_tens_8 : decode zm_M_tens.2.1 8 = .ok (.iload_n 0, 1) := by decide +kernel
theorem dz_M_tens_9 : decode zm_M_tens.2.1 9 = .ok (.iconst 1, 1) := by decide +kernel
theorem dz_M_tens_10 : decode zm_M_tens.2.1 10 = .ok (.if_icmp .ne 9, 3) := by decide +kernel
theorem dz_M_tens_13 : decode zm_M_tens.2.1 13 = .ok (.ldc2_w 239, 3) := by decide +kernel
theorem dz_M_tens_16 : decode zm_M_tens.2.1 16 = .ok (.goto 17, 3) := by decide +kernel
theorem dz_M_tens_19 : decode zm_M_tens.2.1 19 = .ok (.iload_n 0, 1) := by decide +kernel
theorem dz_M_tens_20 : decode zm_M_tens.2.1 20 = .ok (.iconst 2, 1) := by decide +kernel
theorem dz_M_tens_21 : decode zm_M_tens.2.1 21 = .ok (.if_icmp .ne 9, 3) := by decide +kernel
theorem dz_M_tens_24 : decode zm_M_tens.2.1 24 = .ok (.ldc2_w 269, 3) := by decide +kernel
theorem dz_M_tens_27 : decode zm_M_tens.2.1 27 = .ok (.goto 6, 3) := by decide +kernel
theorem dz_M_tens_30 : decode zm_M_tens.2.1 30 = .ok (.ldc2_w 271, 3) := by decide +kernel
theorem dz_M_tens_33 : decode zm_M_tens.2.1 33 = .ok (.lreturn, 1) := by decide +kernel
theorem dz_M_triesFor_0 : decode zm_M_triesFor.2.1 0 = .ok (.aload_n 0, 1) := by decide +kernel
theorem dz_M_triesFor_1 : decode zm_M_triesFor.2.1 1 = .ok (.getfield 7, 3) := by decide +kernel
theorem dz_M_triesFor_4 : decode zm_M_triesFor.2.1 4 = .ok (.bipush 13, 2) := by decide +kernel
theorem dz_M_triesFor_6 : decode zm_M_triesFor.2.1 6 = .ok (.iload_n 1, 1) := by decide +kernel
theorem dz_M_triesFor_7 : decode zm_M_triesFor.2.1 7 = .ok (.iadd, 1) := by decide +kernel
theorem dz_M_triesFor_8 : decode zm_M_triesFor.2.1 8 = .ok (.iaload, 1) := by decide +kernel
theorem dz_M_triesFor_9 : decode zm_M_triesFor.2.1 9 = .ok (.iconst 5, 1) := by decide +kernel
theorem dz_M_triesFor_10 : decode zm_M_triesFor.2.1 10 = .ok (.iadd, 1) := by decide +kernel
theorem dz_M_triesFor_11 : decode zm_M_triesFor.2.1 11 = .ok (.istore 4, 2) := by decide +kernel
theorem dz_M_triesFor_13 : decode zm_M_triesFor.2.1 13 = .ok (.iload 4, 2) := by decide +kernel
theorem dz_M_triesFor_15 : decode zm_M_triesFor.2.1 15 = .ok (.i2l, 1) := by decide +kernel
theorem dz_M_triesFor_16 : decode zm_M_triesFor.2.1 16 = .ok (.aload_n 0, 1) := by decide +kernel
theorem dz_M_triesFor_17 : decode zm_M_triesFor.2.1 17 = .ok (.getfield 43, 3) := by decide +kernel
theorem dz_M_triesFor_20 : decode zm_M_triesFor.2.1 20 = .ok (.bipush 32, 2) := by decide +kernel
theorem dz_M_triesFor_22 : decode zm_M_triesFor.2.1 22 = .ok (.iload_n 2, 1) := by decide +kernel
theorem dz_M_triesFor_23 : decode zm_M_triesFor.2.1 23 = .ok (.iconst 1, 1) := by decide +kernel
theorem dz_M_triesFor_24 : decode zm_M_triesFor.2.1 24 = .ok (.isub, 1) := by decide +kernel
theorem dz_M_triesFor_25 : decode zm_M_triesFor.2.1 25 = .ok (.imul, 1) := by decide +kernel
theorem dz_M_triesFor_26 : decode zm_M_triesFor.2.1 26 = .ok (.iload_n 3, 1) := by decide +kernel
theorem dz_M_triesFor_27 : decode zm_M_triesFor.2.1 27 = .ok (.iconst 1, 1) := by decide +kernel
theorem dz_M_triesFor_28 : decode zm_M_triesFor.2.1 28 = .ok (.iload_n 1, 1) := by decide +kernel
theorem dz_M_triesFor_29 : decode zm_M_triesFor.2.1 29 = .ok (.ishl, 1) := by decide +kernel
theorem dz_M_triesFor_30 : decode zm_M_triesFor.2.1 30 = .ok (.ior, 1) := by decide +kernel
theorem dz_M_triesFor_31 : decode zm_M_triesFor.2.1 31 = .ok (.iadd, 1) := by decide +kernel
theorem dz_M_triesFor_32 : decode zm_M_triesFor.2.1 32 = .ok (.laload, 1) := by decide +kernel
theorem dz_M_triesFor_33 : decode zm_M_triesFor.2.1 33 = .ok (.lmul, 1) := by decide +kernel
theorem dz_M_triesFor_34 : decode zm_M_triesFor.2.1 34 = .ok (.bipush 10, 2) := by decide +kernel
theorem dz_M_triesFor_36 : decode zm_M_triesFor.2.1 36 = .ok (.iload 4, 2) := by decide +kernel
theorem dz_M_triesFor_38 : decode zm_M_triesFor.2.1 38 = .ok (.isub, 1) := by decide +kernel
theorem dz_M_triesFor_39 : decode zm_M_triesFor.2.1 39 = .ok (.i2l, 1) := by decide +kernel
theorem dz_M_triesFor_40 : decode zm_M_triesFor.2.1 40 = .ok (.aload_n 0, 1) := by decide +kernel
theorem dz_M_triesFor_41 : decode zm_M_triesFor.2.1 41 = .ok (.getfield 43, 3) := by decide +kernel
theorem dz_M_triesFor_44 : decode zm_M_triesFor.2.1 44 = .ok (.bipush 32, 2) := by decide +kernel
theorem dz_M_triesFor_46 : decode zm_M_triesFor.2.1 46 = .ok (.iload_n 2, 1) := by decide +kernel
theorem dz_M_triesFor_47 : decode zm_M_triesFor.2.1 47 = .ok (.iconst 1, 1) := by decide +kernel
theorem dz_M_triesFor_48 : decode zm_M_triesFor.2.1 48 = .ok (.isub, 1) := by decide +kernel
theorem dz_M_triesFor_49 : decode zm_M_triesFor.2.1 49 = .ok (.imul, 1) := by decide +kernel
theorem dz_M_triesFor_50 : decode zm_M_triesFor.2.1 50 = .ok (.iload_n 3, 1) := by decide +kernel
theorem dz_M_triesFor_51 : decode zm_M_triesFor.2.1 51 = .ok (.iadd, 1) := by decide +kernel
theorem dz_M_triesFor_52 : decode zm_M_triesFor.2.1 52 = .ok (.laload, 1) := by decide +kernel
theorem dz_M_triesFor_53 : decode zm_M_triesFor.2.1 53 = .ok (.lmul, 1) := by decide +kernel
theorem dz_M_triesFor_54 : decode zm_M_triesFor.2.1 54 = .ok (.ladd, 1) := by decide +kernel
theorem dz_M_triesFor_55 : decode zm_M_triesFor.2.1 55 = .ok (.lreturn, 1) := by decide +kernel
theorem dz_M_layValues_0 : decode zm_M_layValues.2.1 0 = .ok (.iconst 0, 1) := by decide +kernel
theorem dz_M_layValues_1 : decode zm_M_layValues.2.1 1 = .ok (.istore 4, 2) := by decide +kernel
theorem dz_M_layValues_3 : decode zm_M_layValues.2.1 3 = .ok (.iload 4, 2) := by decide +kernel
theorem dz_M_layValues_5 : decode zm_M_layValues.2.1 5 = .ok (.iload_n 3, 1) := by decide +kernel
theorem dz_M_layValues_6 : decode zm_M_layValues.2.1 6 = .ok (.if_icmp .gt 134, 3) := by decide +kernel
theorem dz_M_layValues_9 : decode zm_M_layValues.2.1 9 = .ok (.iconst 0, 1) := by decide +kernel
theorem dz_M_layValues_10 : decode zm_M_layValues.2.1 10 = .ok (.istore 5, 2) := by decide +kernel
theorem dz_M_layValues_12 : decode zm_M_layValues.2.1 12 = .ok (.iload 5, 2) := by decide +kernel
theorem dz_M_layValues_14 : decode zm_M_layValues.2.1 14 = .ok (.bipush 32, 2) := by decide +kernel
theorem dz_M_layValues_16 : decode zm_M_layValues.2.1 16 = .ok (.if_icmp .ge 118, 3) := by decide +kernel
theorem dz_M_layValues_19 : decode zm_M_layValues.2.1 19 = .ok (.aload_n 0, 1) := by decide +kernel
theorem dz_M_layValues_20 : decode zm_M_layValues.2.1 20 = .ok (.iload_n 1, 1) := by decide +kernel
theorem dz_M_layValues_21 : decode zm_M_layValues.2.1 21 = .ok (.iload_n 2, 1) := by decide +kernel
theorem dz_M_layValues_22 : decode zm_M_layValues.2.1 22 = .ok (.iload 5, 2) := by decide +kernel
theorem dz_M_layValues_24 : decode zm_M_layValues.2.1 24 = .ok (.aload_n 0, 1) := by decide +kernel
theorem dz_M_layValues_25 : decode zm_M_layValues.2.1 25 = .ok (.getfield 7, 3) := by decide +kernel
theorem dz_M_layValues_28 : decode zm_M_layValues.2.1 28 = .ok (.bipush 6, 2) := by decide +kernel
theorem dz_M_layValues_30 : decode zm_M_layValues.2.1 30 = .ok (.iload_n 1, 1) := by decide +kernel
theorem dz_M_layValues_31 : decode zm_M_layValues.2.1 31 = .ok (.iadd, 1) := by decide +kernel
theorem dz_M_layValues_32 : decode zm_M_layValues.2.1 32 = .ok (.iaload, 1) := by decide +kernel
theorem dz_M_layValues_33 : decode zm_M_layValues.2.1 33 = .ok (.iload_n 3, 1) := by decide +kernel
theorem dz_M_layValues_34 : decode zm_M_layValues.2.1 34 = .ok (.iadd, 1) := by decide +kernel
theorem dz_M_layValues_35 : decode zm_M_layValues.2.1 35 = .ok (.iload 4, 2) := by decide +kernel
theorem dz_M_layValues_37 : decode zm_M_layValues.2.1 37 = .ok (.isub, 1) := by decide +kernel
theorem dz_M_layValues_38 : decode zm_M_layValues.2.1 38 = .ok (.invokevirtual 273, 3) := by decide +kernel
theorem dz_M_layValues_41 : decode zm_M_layValues.2.1 41 = .ok (.iload 4, 2) := by decide +kernel
theorem dz_M_layValues_43 : decode zm_M_layValues.2.1 43 = .ok (.invokestatic 277, 3) := by decide +kernel
theorem dz_M_layValues_46 : decode zm_M_layValues.2.1 46 = .ok (.lmul, 1) := by decide +kernel
theorem dz_M_layValues_47 : decode zm_M_layValues.2.1 47 = .ok (.lstore 6, 2) := by decide +kernel
theorem dz_M_layValues_49 : decode zm_M_layValues.2.1 49 = .ok (.iconst 0, 1) := by decide +kernel
theorem dz_M_layValues_50 : decode zm_M_layValues.2.1 50 = .ok (.istore 8, 2) := by decide +kernel
theorem dz_M_layValues_52 : decode zm_M_layValues.2.1 52 = .ok (.iload 8, 2) := by decide +kernel
theorem dz_M_layValues_54 : decode zm_M_layValues.2.1 54 = .ok (.iconst 5, 1) := by decide +kernel
theorem dz_M_layValues_55 : decode zm_M_layValues.2.1 55 = .ok (.if_icmp .ge 58, 3) := by decide +kernel
theorem dz_M_layValues_58 : decode zm_M_layValues.2.1 58 = .ok (.iload 4, 2) := by decide +kernel
theorem dz_M_layValues_60 : decode zm_M_layValues.2.1 60 = .ok (.ifCond .le 53, 3) := by decide +kernel
theorem dz_M_layValues_63 : decode zm_M_layValues.2.1 63 = .ok (.iload 5, 2) := by decide +kernel
theorem dz_M_layValues_65 : decode zm_M_layValues.2.1 65 = .ok (.iload 8, 2) := by decide +kernel
theorem dz_M_layValues_67 : decode zm_M_layValues.2.1 67 = .ok (.ishr, 1) := by decide +kernel
theorem dz_M_layValues_68 : decode zm_M_layValues.2.1 68 = .ok (.iconst 1, 1) := by decide +kernel
theorem dz_M_layValues_69 : decode zm_M_layValues.2.1 69 = .ok (.iand, 1) := by decide +kernel
theorem dz_M_layValues_70 : decode zm_M_layValues.2.1 70 = .ok (.iconst 1, 1) := by decide +kernel
theorem dz_M_layValues_71 : decode zm_M_layValues.2.1 71 = .ok (.if_icmp .ne 7, 3) := by decide +kernel
theorem dz_M_layValues_74 : decode zm_M_layValues.2.1 74 = .ok (.lconst 0, 1) := by decide +kernel
theorem dz_M_layValues_75 : decode zm_M_layValues.2.1 75 = .ok (.goto 13, 3) := by decide +kernel
theorem dz_M_layValues_78 : decode zm_M_layValues.2.1 78 = .ok (.aload_n 0, 1) := by decide +kernel
theorem dz_M_layValues_79 : decode zm_M_layValues.2.1 79 = .ok (.iload 8, 2) := by decide +kernel
theorem dz_M_layValues_81 : decode zm_M_layValues.2.1 81 = .ok (.iload 4, 2) := by decide +kernel
theorem dz_M_layValues_83 : decode zm_M_layValues.2.1 83 = .ok (.iload 5, 2) := by decide +kernel
theorem dz_M_layValues_85 : decode zm_M_layValues.2.1 85 = .ok (.invokevirtual 281, 3) := by decide +kernel
theorem dz_M_layValues_88 : decode zm_M_layValues.2.1 88 = .ok (.lstore 9, 2) := by decide +kernel
theorem dz_M_layValues_90 : decode zm_M_layValues.2.1 90 = .ok (.lload 9, 2) := by decide +kernel
theorem dz_M_layValues_92 : decode zm_M_layValues.2.1 92 = .ok (.lload 6, 2) := by decide +kernel
theorem dz_M_layValues_94 : decode zm_M_layValues.2.1 94 = .ok (.lcmp, 1) := by decide +kernel
theorem dz_M_layValues_95 : decode zm_M_layValues.2.1 95 = .ok (.ifCond .le 8, 3) := by decide +kernel
theorem dz_M_layValues_98 : decode zm_M_layValues.2.1 98 = .ok (.lload 9, 2) := by decide +kernel
theorem dz_M_layValues_100 : decode zm_M_layValues.2.1 100 = .ok (.goto 5, 3) := by decide +kernel
theorem dz_M_layValues_103 : decode zm_M_layValues.2.1 103 = .ok (.lload 6, 2) := by decide +kernel
theorem dz_M_layValues_105 : decode zm_M_layValues.2.1 105 = .ok (.lstore 6, 2) := by decide +kernel
theorem dz_M_layValues_107 : decode zm_M_layValues.2.1 107 = .ok (.iinc 8 1, 3) := by decide +kernel
theorem dz_M_layValues_110 : decode zm_M_layValues.2.1 110 = .ok (.goto (-58), 3) := by decide +kernel
theorem dz_M_layValues_113 : decode zm_M_layValues.2.1 113 = .ok (.aload_n 0, 1) := by decide +kernel
theorem dz_M_layValues_114 : decode zm_M_layValues.2.1 114 = .ok (.getfield 43, 3) := by decide +kernel
theorem dz_M_layValues_117 : decode zm_M_layValues.2.1 117 = .ok (.bipush 32, 2) := by decide +kernel
theorem dz_M_layValues_119 : decode zm_M_layValues.2.1 119 = .ok (.iload 4, 2) := by decide +kernel
theorem dz_M_layValues_121 : decode zm_M_layValues.2.1 121 = .ok (.imul, 1) := by decide +kernel
theorem dz_M_layValues_122 : decode zm_M_layValues.2.1 122 = .ok (.iload 5, 2) := by decide +kernel
theorem dz_M_layValues_124 : decode zm_M_layValues.2.1 124 = .ok (.iadd, 1) := by decide +kernel
theorem dz_M_layValues_125 : decode zm_M_layValues.2.1 125 = .ok (.lload 6, 2) := by decide +kernel
theorem dz_M_layValues_127 : decode zm_M_layValues.2.1 127 = .ok (.lastore, 1) := by decide +kernel
theorem dz_M_layValues_128 : decode zm_M_layValues.2.1 128 = .ok (.iinc 5 1, 3) := by decide +kernel
theorem dz_M_layValues_131 : decode zm_M_layValues.2.1 131 = .ok (.goto (-119), 3) := by decide +kernel
theorem dz_M_layValues_134 : decode zm_M_layValues.2.1 134 = .ok (.iinc 4 1, 3) := by decide +kernel
theorem dz_M_layValues_137 : decode zm_M_layValues.2.1 137 = .ok (.goto (-134), 3) := by decide +kernel
theorem dz_M_layValues_140 : decode zm_M_layValues.2.1 140 = .ok (.return_, 1) := by decide +kernel
theorem dz_M_best_0 : decode zm_M_best.2.1 0 = .ok (.aload_n 0, 1) := by decide +kernel
theorem dz_M_best_1 : decode zm_M_best.2.1 1 = .ok (.iload_n 1, 1) := by decide +kernel
theorem dz_M_best_2 : decode zm_M_best.2.1 2 = .ok (.invokevirtual 203, 3) := by decide +kernel
theorem dz_M_best_5 : decode zm_M_best.2.1 5 = .ok (.ifCond .eq 35, 3) := by decide +kernel
theorem dz_M_best_8 : decode zm_M_best.2.1 8 = .ok (.iload_n 2, 1) := by decide +kernel
theorem dz_M_best_9 : decode zm_M_best.2.1 9 = .ok (.invokestatic 217, 3) := by decide +kernel
theorem dz_M_best_12 : decode zm_M_best.2.1 12 = .ok (.ifCond .eq 28, 3) := by decide +kernel
theorem dz_M_best_15 : decode zm_M_best.2.1 15 = .ok (.iload_n 3, 1) := by decide +kernel
theorem dz_M_best_16 : decode zm_M_best.2.1 16 = .ok (.i2l, 1) := by decide +kernel
theorem dz_M_best_17 : decode zm_M_best.2.1 17 = .ok (.lconst 0, 1) := by decide +kernel
theorem dz_M_best_18 : decode zm_M_best.2.1 18 = .ok (.ldc2_w 167, 3) := by decide +kernel
theorem dz_M_best_21 : decode zm_M_best.2.1 21 = .ok (.invokestatic 65, 3) := by decide +kernel
theorem dz_M_best_24 : decode zm_M_best.2.1 24 = .ok (.ifCond .eq 16, 3) := by decide +kernel
theorem dz_M_best_27 : decode zm_M_best.2.1 27 = .ok (.iload 4, 2) := by decide +kernel
theorem dz_M_best_29 : decode zm_M_best.2.1 29 = .ok (.i2l, 1) := by decide +kernel
theorem dz_M_best_30 : decode zm_M_best.2.1 30 = .ok (.lconst 0, 1) := by decide +kernel
theorem dz_M_best_31 : decode zm_M_best.2.1 31 = .ok (.ldc2_w 241, 3) := by decide +kernel
theorem dz_M_best_34 : decode zm_M_best.2.1 34 = .ok (.invokestatic 65, 3) := by decide +kernel
theorem dz_M_best_37 : decode zm_M_best.2.1 37 = .ok (.ifCond .ne 7, 3) := by decide +kernel
theorem dz_M_best_40 : decode zm_M_best.2.1 40 = .ok (.ldc2_w 263, 3) := by decide +kernel
theorem dz_M_best_43 : decode zm_M_best.2.1 43 = .ok (.lreturn, 1) := by decide +kernel
theorem dz_M_best_44 : decode zm_M_best.2.1 44 = .ok (.iconst 3, 1) := by decide +kernel
theorem dz_M_best_45 : decode zm_M_best.2.1 45 = .ok (.aload_n 0, 1) := by decide +kernel
theorem dz_M_best_46 : decode zm_M_best.2.1 46 = .ok (.getfield 7, 3) := by decide +kernel
theorem dz_M_best_49 : decode zm_M_best.2.1 49 = .ok (.bipush 6, 2) := by decide +kernel
theorem dz_M_best_51 : decode zm_M_best.2.1 51 = .ok (.iload_n 1, 1) := by decide +kernel
theorem dz_M_best_52 : decode zm_M_best.2.1 52 = .ok (.iadd, 1) := by decide +kernel
theorem dz_M_best_53 : decode zm_M_best.2.1 53 = .ok (.iaload, 1) := by decide +kernel
theorem dz_M_best_54 : decode zm_M_best.2.1 54 = .ok (.isub, 1) := by decide +kernel
theorem dz_M_best_55 : decode zm_M_best.2.1 55 = .ok (.istore 5, 2) := by decide +kernel
theorem dz_M_best_57 : decode zm_M_best.2.1 57 = .ok (.iload_n 1, 1) := by decide +kernel
theorem dz_M_best_58 : decode zm_M_best.2.1 58 = .ok (.aload_n 0, 1) := by decide +kernel
theorem dz_M_best_59 : decode zm_M_best.2.1 59 = .ok (.getfield 7, 3) := by decide +kernel
theorem dz_M_best_62 : decode zm_M_best.2.1 62 = .ok (.bipush 12, 2) := by decide +kernel
theorem dz_M_best_64 : decode zm_M_best.2.1 64 = .ok (.iaload, 1) := by decide +kernel
theorem dz_M_best_65 : decode zm_M_best.2.1 65 = .ok (.invokestatic 169, 3) := by decide +kernel
theorem dz_M_best_68 : decode zm_M_best.2.1 68 = .ok (.ifCond .ne 7, 3) := by decide +kernel
theorem dz_M_best_71 : decode zm_M_best.2.1 71 = .ok (.iconst 0, 1) := by decide +kernel
theorem dz_M_best_72 : decode zm_M_best.2.1 72 = .ok (.goto 15, 3) := by decide +kernel
theorem dz_M_best_75 : decode zm_M_best.2.1 75 = .ok (.iload_n 3, 1) := by decide +kernel
theorem dz_M_best_76 : decode zm_M_best.2.1 76 = .ok (.iload 5, 2) := by decide +kernel
theorem dz_M_best_78 : decode zm_M_best.2.1 78 = .ok (.if_icmp .ge 7, 3) := by decide +kernel
theorem dz_M_best_81 : decode zm_M_best.2.1 81 = .ok (.iload_n 3, 1) := by decide +kernel
theorem dz_M_best_82 : decode zm_M_best.2.1 82 = .ok (.goto 5, 3) := by decide +kernel
theorem dz_M_best_85 : decode zm_M_best.2.1 85 = .ok (.iload 5, 2) := by decide +kernel
theorem dz_M_best_87 : decode zm_M_best.2.1 87 = .ok (.istore 6, 2) := by decide +kernel
theorem dz_M_best_89 : decode zm_M_best.2.1 89 = .ok (.aload_n 0, 1) := by decide +kernel
theorem dz_M_best_90 : decode zm_M_best.2.1 90 = .ok (.iload_n 1, 1) := by decide +kernel
theorem dz_M_best_91 : decode zm_M_best.2.1 91 = .ok (.iload_n 2, 1) := by decide +kernel
theorem dz_M_best_92 : decode zm_M_best.2.1 92 = .ok (.iload 6, 2) := by decide +kernel
theorem dz_M_best_94 : decode zm_M_best.2.1 94 = .ok (.invokevirtual 285, 3) := by decide +kernel
theorem dz_M_best_97 : decode zm_M_best.2.1 97 = .ok (.iload 4, 2) := by decide +kernel
theorem dz_M_best_99 : decode zm_M_best.2.1 99 = .ok (.iconst 2, 1) := by decide +kernel
theorem dz_M_best_100 : decode zm_M_best.2.1 100 = .ok (.if_icmp .ge 31, 3) := by decide +kernel
theorem dz_M_best_103 : decode zm_M_best.2.1 103 = .ok (.aload_n 0, 1) := by decide +kernel
theorem dz_M_best_104 : decode zm_M_best.2.1 104 = .ok (.getfield 43, 3) := by decide +kernel
theorem dz_M_best_107 : decode zm_M_best.2.1 107 = .ok (.bipush 32, 2) := by decide +kernel
theorem dz_M_best_109 : decode zm_M_best.2.1 109 = .ok (.iload 6, 2) := by decide +kernel
theorem dz_M_best_111 : decode zm_M_best.2.1 111 = .ok (.imul, 1) := by decide +kernel
theorem dz_M_best_112 : decode zm_M_best.2.1 112 = .ok (.aload_n 0, 1) := by decide +kernel
theorem dz_M_best_113 : decode zm_M_best.2.1 113 = .ok (.getfield 7, 3) := by decide +kernel
theorem dz_M_best_116 : decode zm_M_best.2.1 116 = .ok (.iload_n 1, 1) := by decide +kernel
theorem dz_M_best_117 : decode zm_M_best.2.1 117 = .ok (.iaload, 1) := by decide +kernel
theorem dz_M_best_118 : decode zm_M_best.2.1 118 = .ok (.iadd, 1) := by decide +kernel
theorem dz_M_best_119 : decode zm_M_best.2.1 119 = .ok (.laload, 1) := by decide +kernel
theorem dz_M_best_120 : decode zm_M_best.2.1 120 = .ok (.iload 6, 2) := by decide +kernel
theorem dz_M_best_122 : decode zm_M_best.2.1 122 = .ok (.invokestatic 277, 3) := by decide +kernel
theorem dz_M_best_125 : decode zm_M_best.2.1 125 = .ok (.iload 4, 2) := by decide +kernel
theorem dz_M_best_127 : decode zm_M_best.2.1 127 = .ok (.invokestatic 265, 3) := by decide +kernel
theorem dz_M_best_130 : decode zm_M_best.2.1 130 = .ok (.lreturn, 1) := by decide +kernel
theorem dz_M_best_131 : decode zm_M_best.2.1 131 = .ok (.iconst 5, 1) := by decide +kernel
theorem dz_M_best_132 : decode zm_M_best.2.1 132 = .ok (.istore 7, 2) := by decide +kernel
theorem dz_M_best_134 : decode zm_M_best.2.1 134 = .ok (.aload_n 0, 1) := by decide +kernel
theorem dz_M_best_135 : decode zm_M_best.2.1 135 = .ok (.iload_n 1, 1) := by decide +kernel
theorem dz_M_best_136 : decode zm_M_best.2.1 136 = .ok (.iload_n 2, 1) := by decide +kernel
theorem dz_M_best_137 : decode zm_M_best.2.1 137 = .ok (.aload_n 0, 1) := by decide +kernel
theorem dz_M_best_138 : decode zm_M_best.2.1 138 = .ok (.getfield 7, 3) := by decide +kernel
theorem dz_M_best_141 : decode zm_M_best.2.1 141 = .ok (.iload_n 1, 1) := by decide +kernel
theorem dz_M_best_142 : decode zm_M_best.2.1 142 = .ok (.iaload, 1) := by decide +kernel
theorem dz_M_best_143 : decode zm_M_best.2.1 143 = .ok (.aload_n 0, 1) := by decide +kernel
theorem dz_M_best_144 : decode zm_M_best.2.1 144 = .ok (.getfield 7, 3) := by decide +kernel
theorem dz_M_best_147 : decode zm_M_best.2.1 147 = .ok (.bipush 6, 2) := by decide +kernel
theorem dz_M_best_149 : decode zm_M_best.2.1 149 = .ok (.iload_n 1, 1) := by decide +kernel
theorem dz_M_best_150 : decode zm_M_best.2.1 150 = .ok (.iadd, 1) := by decide +kernel
theorem dz_M_best_151 : decode zm_M_best.2.1 151 = .ok (.iaload, 1) := by decide +kernel
theorem dz_M_best_152 : decode zm_M_best.2.1 152 = .ok (.invokevirtual 273, 3) := by decide +kernel
theorem dz_M_best_155 : decode zm_M_best.2.1 155 = .ok (.iload 6, 2) := by decide +kernel
theorem dz_M_best_157 : decode zm_M_best.2.1 157 = .ok (.invokestatic 277, 3) := by decide +kernel
theorem dz_M_best_160 : decode zm_M_best.2.1 160 = .ok (.lmul, 1) := by decide +kernel
theorem dz_M_best_161 : decode zm_M_best.2.1 161 = .ok (.lstore 8, 2) := by decide +kernel
theorem dz_M_best_163 : decode zm_M_best.2.1 163 = .ok (.iconst 0, 1) := by decide +kernel
theorem dz_M_best_164 : decode zm_M_best.2.1 164 = .ok (.istore 10, 2) := by decide +kernel
theorem dz_M_best_166 : decode zm_M_best.2.1 166 = .ok (.iload 10, 2) := by decide +kernel
theorem dz_M_best_168 : decode zm_M_best.2.1 168 = .ok (.iconst 5, 1) := by decide +kernel
theorem dz_M_best_169 : decode zm_M_best.2.1 169 = .ok (.if_icmp .ge 83, 3) := by decide +kernel
theorem dz_M_best_172 : decode zm_M_best.2.1 172 = .ok (.iload 6, 2) := by decide +kernel
theorem dz_M_best_174 : decode zm_M_best.2.1 174 = .ok (.ifCond .le 78, 3) := by decide +kernel
theorem dz_M_best_177 : decode zm_M_best.2.1 177 = .ok (.aload_n 0, 1) := by decide +kernel
theorem dz_M_best_178 : decode zm_M_best.2.1 178 = .ok (.getfield 7, 3) := by decide +kernel
theorem dz_M_best_181 : decode zm_M_best.2.1 181 = .ok (.iload_n 1, 1) := by decide +kernel
theorem dz_M_best_182 : decode zm_M_best.2.1 182 = .ok (.iaload, 1) := by decide +kernel
theorem dz_M_best_183 : decode zm_M_best.2.1 183 = .ok (.iload 10, 2) := by decide +kernel
theorem dz_M_best_185 : decode zm_M_best.2.1 185 = .ok (.ishr, 1) := by decide +kernel
theorem dz_M_best_186 : decode zm_M_best.2.1 186 = .ok (.iconst 1, 1) := by decide +kernel
theorem dz_M_best_187 : decode zm_M_best.2.1 187 = .ok (.iand, 1) := by decide +kernel
theorem dz_M_best_188 : decode zm_M_best.2.1 188 = .ok (.iconst 1, 1) := by decide +kernel
theorem dz_M_best_189 : decode zm_M_best.2.1 189 = .ok (.if_icmp .ne 7, 3) := by decide +kernel
theorem dz_M_best_192 : decode zm_M_best.2.1 192 = .ok (.lconst 0, 1) := by decide +kernel
theorem dz_M_best_193 : decode zm_M_best.2.1 193 = .ok (.goto 17, 3) := by decide +kernel
theorem dz_M_best_196 : decode zm_M_best.2.1 196 = .ok (.aload_n 0, 1) := by decide +kernel
theorem dz_M_best_197 : decode zm_M_best.2.1 197 = .ok (.iload 10, 2) := by decide +kernel
theorem dz_M_best_199 : decode zm_M_best.2.1 199 = .ok (.iload 6, 2) := by decide +kernel
theorem dz_M_best_201 : decode zm_M_best.2.1 201 = .ok (.aload_n 0, 1) := by decide +kernel
theorem dz_M_best_202 : decode zm_M_best.2.1 202 = .ok (.getfield 7, 3) := by decide +kernel
theorem dz_M_best_205 : decode zm_M_best.2.1 205 = .ok (.iload_n 1, 1) := by decide +kernel
theorem dz_M_best_206 : decode zm_M_best.2.1 206 = .ok (.iaload, 1) := by decide +kernel
theorem dz_M_best_207 : decode zm_M_best.2.1 207 = .ok (.invokevirtual 281, 3) := by decide +kernel
theorem dz_M_best_210 : decode zm_M_best.2.1 210 = .ok (.lstore 11, 2) := by decide +kernel
theorem dz_M_best_212 : decode zm_M_best.2.1 212 = .ok (.lload 11, 2) := by decide +kernel
theorem dz_M_best_214 : decode zm_M_best.2.1 214 = .ok (.lload 8, 2) := by decide +kernel
theorem dz_M_best_216 : decode zm_M_best.2.1 216 = .ok (.lcmp, 1) := by decide +kernel
theorem dz_M_best_217 : decode zm_M_best.2.1 217 = .ok (.ifCond .le 8, 3) := by decide +kernel
theorem dz_M_best_220 : decode zm_M_best.2.1 220 = .ok (.iload 10, 2) := by decide +kernel
theorem dz_M_best_222 : decode zm_M_best.2.1 222 = .ok (.goto 5, 3) := by decide +kernel
theorem dz_M_best_225 : decode zm_M_best.2.1 225 = .ok (.iload 7, 2) := by decide +kernel
theorem dz_M_best_227 : decode zm_M_best.2.1 227 = .ok (.istore 7, 2) := by decide +kernel
theorem dz_M_best_229 : decode zm_M_best.2.1 229 = .ok (.lload 11, 2) := by decide +kernel
theorem dz_M_best_231 : decode zm_M_best.2.1 231 = .ok (.lload 8, 2) := by decide +kernel
theorem dz_M_best_233 : decode zm_M_best.2.1 233 = .ok (.lcmp, 1) := by decide +kernel
theorem dz_M_best_234 : decode zm_M_best.2.1 234 = .ok (.ifCond .le 8, 3) := by decide +kernel
theorem dz_M_best_237 : decode zm_M_best.2.1 237 = .ok (.lload 11, 2) := by decide +kernel
theorem dz_M_best_239 : decode zm_M_best.2.1 239 = .ok (.goto 5, 3) := by decide +kernel
theorem dz_M_best_242 : decode zm_M_best.2.1 242 = .ok (.lload 8, 2) := by decide +kernel
theorem dz_M_best_244 : decode zm_M_best.2.1 244 = .ok (.lstore 8, 2) := by decide +kernel
theorem dz_M_best_246 : decode zm_M_best.2.1 246 = .ok (.iinc 10 1, 3) := by decide +kernel
theorem dz_M_best_249 : decode zm_M_best.2.1 249 = .ok (.goto (-83), 3) := by decide +kernel
theorem dz_M_best_252 : decode zm_M_best.2.1 252 = .ok (.iload 7, 2) := by decide +kernel
theorem dz_M_best_254 : decode zm_M_best.2.1 254 = .ok (.i2l, 1) := by decide +kernel
theorem dz_M_best_255 : decode zm_M_best.2.1 255 = .ok (.lreturn, 1) := by decide +kernel
theorem dz_M_see_0 : decode zm_M_see.2.1 0 = .ok (.iload_n 1, 1) := by decide +kernel
theorem dz_M_see_1 : decode zm_M_see.2.1 1 = .ok (.invokestatic 217, 3) := by decide +kernel
theorem dz_M_see_4 : decode zm_M_see.2.1 4 = .ok (.ifCond .eq 17, 3) := by decide +kernel
theorem dz_M_see_7 : decode zm_M_see.2.1 7 = .ok (.aload_n 0, 1) := by decide +kernel
theorem dz_M_see_8 : decode zm_M_see.2.1 8 = .ok (.iload_n 2, 1) := by decide +kernel
theorem dz_M_see_9 : decode zm_M_see.2.1 9 = .ok (.invokevirtual 203, 3) := by decide +kernel
theorem dz_M_see_12 : decode zm_M_see.2.1 12 = .ok (.ifCond .ne 11, 3) := by decide +kernel
theorem dz_M_see_15 : decode zm_M_see.2.1 15 = .ok (.iload_n 2, 1) := by decide +kernel
theorem dz_M_see_16 : decode zm_M_see.2.1 16 = .ok (.bipush (-4), 2) := by decide +kernel
theorem dz_M_see_18 : decode zm_M_see.2.1 18 = .ok (.if_icmp .eq 5, 3) := by decide +kernel
theorem dz_M_see_21 : decode zm_M_see.2.1 21 = .ok (.iconst (-1), 1) := by decide +kernel
theorem dz_M_see_22 : decode zm_M_see.2.1 22 = .ok (.ireturn, 1) := by decide +kernel
theorem dz_M_see_23 : decode zm_M_see.2.1 23 = .ok (.aload_n 0, 1) := by decide +kernel
theorem dz_M_see_24 : decode zm_M_see.2.1 24 = .ok (.getfield 164, 3) := by decide +kernel
theorem dz_M_see_27 : decode zm_M_see.2.1 27 = .ok (.bipush 6, 2) := by decide +kernel
theorem dz_M_see_29 : decode zm_M_see.2.1 29 = .ok (.if_icmp .ne 6, 3) := by decide +kernel
theorem dz_M_see_32 : decode zm_M_see.2.1 32 = .ok (.bipush (-3), 2) := by decide +kernel
theorem dz_M_see_34 : decode zm_M_see.2.1 34 = .ok (.ireturn, 1) := by decide +kernel
theorem dz_M_see_35 : decode zm_M_see.2.1 35 = .ok (.aload_n 0, 1) := by decide +kernel
theorem dz_M_see_36 : decode zm_M_see.2.1 36 = .ok (.getfield 47, 3) := by decide +kernel
theorem dz_M_see_39 : decode zm_M_see.2.1 39 = .ok (.iconst 2, 1) := by decide +kernel
theorem dz_M_see_40 : decode zm_M_see.2.1 40 = .ok (.aload_n 0, 1) := by decide +kernel
theorem dz_M_see_41 : decode zm_M_see.2.1 41 = .ok (.getfield 164, 3) := by decide +kernel
theorem dz_M_see_44 : decode zm_M_see.2.1 44 = .ok (.imul, 1) := by decide +kernel
theorem dz_M_see_45 : decode zm_M_see.2.1 45 = .ok (.iload_n 1, 1) := by decide +kernel
theorem dz_M_see_46 : decode zm_M_see.2.1 46 = .ok (.iastore, 1) := by decide +kernel
theorem dz_M_see_47 : decode zm_M_see.2.1 47 = .ok (.aload_n 0, 1) := by decide +kernel
theorem dz_M_see_48 : decode zm_M_see.2.1 48 = .ok (.getfield 47, 3) := by decide +kernel
theorem dz_M_see_51 : decode zm_M_see.2.1 51 = .ok (.iconst 2, 1) := by decide +kernel
theorem dz_M_see_52 : decode zm_M_see.2.1 52 = .ok (.aload_n 0, 1) := by decide +kernel
theorem dz_M_see_53 : decode zm_M_see.2.1 53 = .ok (.getfield 164, 3) := by decide +kernel
theorem dz_M_see_56 : decode zm_M_see.2.1 56 = .ok (.imul, 1) := by decide +kernel
theorem dz_M_see_57 : decode zm_M_see.2.1 57 = .ok (.iconst 1, 1) := by decide +kernel
theorem dz_M_see_58 : decode zm_M_see.2.1 58 = .ok (.iadd, 1) := by decide +kernel
theorem dz_M_see_59 : decode zm_M_see.2.1 59 = .ok (.iload_n 2, 1) := by decide +kernel
theorem dz_M_see_60 : decode zm_M_see.2.1 60 = .ok (.iastore, 1) := by decide +kernel
theorem dz_M_see_61 : decode zm_M_see.2.1 61 = .ok (.aload_n 0, 1) := by decide +kernel
theorem dz_M_see_62 : decode zm_M_see.2.1 62 = .ok (.dup, 1) := by decide +kernel
theorem dz_M_see_63 : decode zm_M_see.2.1 63 = .ok (.getfield 164, 3) := by decide +kernel
theorem dz_M_see_66 : decode zm_M_see.2.1 66 = .ok (.iconst 1, 1) := by decide +kernel
theorem dz_M_see_67 : decode zm_M_see.2.1 67 = .ok (.iadd, 1) := by decide +kernel
theorem dz_M_see_68 : decode zm_M_see.2.1 68 = .ok (.putfield 164, 3) := by decide +kernel
theorem dz_M_see_71 : decode zm_M_see.2.1 71 = .ok (.aload_n 0, 1) := by decide +kernel
theorem dz_M_see_72 : decode zm_M_see.2.1 72 = .ok (.getfield 164, 3) := by decide +kernel
theorem dz_M_see_75 : decode zm_M_see.2.1 75 = .ok (.ireturn, 1) := by decide +kernel
theorem dz_M_forget_0 : decode zm_M_forget.2.1 0 = .ok (.iload_n 1, 1) := by decide +kernel
theorem dz_M_forget_1 : decode zm_M_forget.2.1 1 = .ok (.i2l, 1) := by decide +kernel
theorem dz_M_forget_2 : decode zm_M_forget.2.1 2 = .ok (.lconst 0, 1) := by decide +kernel
theorem dz_M_forget_3 : decode zm_M_forget.2.1 3 = .ok (.aload_n 0, 1) := by decide +kernel
theorem dz_M_forget_4 : decode zm_M_forget.2.1 4 = .ok (.getfield 164, 3) := by decide +kernel
theorem dz_M_forget_7 : decode zm_M_forget.2.1 7 = .ok (.i2l, 1) := by decide +kernel
theorem dz_M_forget_8 : decode zm_M_forget.2.1 8 = .ok (.invokestatic 65, 3) := by decide +kernel
theorem dz_M_forget_11 : decode zm_M_forget.2.1 11 = .ok (.ifCond .ne 5, 3) := by decide +kernel
theorem dz_M_forget_14 : decode zm_M_forget.2.1 14 = .ok (.iconst (-1), 1) := by decide +kernel
theorem dz_M_forget_15 : decode zm_M_forget.2.1 15 = .ok (.ireturn, 1) := by decide +kernel
theorem dz_M_forget_16 : decode zm_M_forget.2.1 16 = .ok (.aload_n 0, 1) := by decide +kernel
theorem dz_M_forget_17 : decode zm_M_forget.2.1 17 = .ok (.getfield 164, 3) := by decide +kernel
theorem dz_M_forget_20 : decode zm_M_forget.2.1 20 = .ok (.istore_n 2, 1) := by decide +kernel
theorem dz_M_forget_21 : decode zm_M_forget.2.1 21 = .ok (.aload_n 0, 1) := by decide +kernel
theorem dz_M_forget_22 : decode zm_M_forget.2.1 22 = .ok (.iload_n 1, 1) := by decide +kernel
theorem dz_M_forget_23 : decode zm_M_forget.2.1 23 = .ok (.putfield 164, 3) := by decide +kernel
theorem dz_M_forget_26 : decode zm_M_forget.2.1 26 = .ok (.iload_n 2, 1) := by decide +kernel
theorem dz_M_forget_27 : decode zm_M_forget.2.1 27 = .ok (.ireturn, 1) := by decide +kernel
theorem dz_M_fits_0 : decode zm_M_fits.2.1 0 = .ok (.iload_n 1, 1) := by decide +kernel
theorem dz_M_fits_1 : decode zm_M_fits.2.1 1 = .ok (.i2l, 1) := by decide +kernel
theorem dz_M_fits_2 : decode zm_M_fits.2.1 2 = .ok (.lconst 0, 1) := by decide +kernel
theorem dz_M_fits_3 : decode zm_M_fits.2.1 3 = .ok (.ldc2_w 167, 3) := by decide +kernel
theorem dz_M_fits_6 : decode zm_M_fits.2.1 6 = .ok (.invokestatic 65, 3) := by decide +kernel
theorem dz_M_fits_9 : decode zm_M_fits.2.1 9 = .ok (.ifCond .ne 5, 3) := by decide +kernel
theorem dz_M_fits_12 : decode zm_M_fits.2.1 12 = .ok (.iconst (-1), 1) := by decide +kernel
theorem dz_M_fits_13 : decode zm_M_fits.2.1 13 = .ok (.ireturn, 1) := by decide +kernel
theorem dz_M_fits_14 : decode zm_M_fits.2.1 14 = .ok (.iconst 0, 1) := by decide +kernel
theorem dz_M_fits_15 : decode zm_M_fits.2.1 15 = .ok (.istore_n 2, 1) := by decide +kernel
theorem dz_M_fits_16 : decode zm_M_fits.2.1 16 = .ok (.bipush (-4), 2) := by decide +kernel
theorem dz_M_fits_18 : decode zm_M_fits.2.1 18 = .ok (.istore_n 3, 1) := by decide +kernel
theorem dz_M_fits_19 : decode zm_M_fits.2.1 19 = .ok (.aload_n 0, 1) := by decide +kernel
theorem dz_M_fits_20 : decode zm_M_fits.2.1 20 = .ok (.invokevirtual 254, 3) := by decide +kernel
theorem dz_M_fits_23 : decode zm_M_fits.2.1 23 = .ok (.iconst 1, 1) := by decide +kernel
theorem dz_M_fits_24 : decode zm_M_fits.2.1 24 = .ok (.isub, 1) := by decide +kernel
theorem dz_M_fits_25 : decode zm_M_fits.2.1 25 = .ok (.istore 4, 2) := by decide +kernel
theorem dz_M_fits_27 : decode zm_M_fits.2.1 27 = .ok (.aload_n 0, 1) := by decide +kernel
theorem dz_M_fits_28 : decode zm_M_fits.2.1 28 = .ok (.invokevirtual 254, 3) := by decide +kernel
theorem dz_M_fits_31 : decode zm_M_fits.2.1 31 = .ok (.iconst 1, 1) := by decide +kernel
theorem dz_M_fits_32 : decode zm_M_fits.2.1 32 = .ok (.isub, 1) := by decide +kernel
theorem dz_M_fits_33 : decode zm_M_fits.2.1 33 = .ok (.istore 5, 2) := by decide +kernel
theorem dz_M_fits_35 : decode zm_M_fits.2.1 35 = .ok (.iconst 0, 1) := by decide +kernel
theorem dz_M_fits_36 : decode zm_M_fits.2.1 36 = .ok (.istore 6, 2) := by decide +kernel
theorem dz_M_fits_38 : decode zm_M_fits.2.1 38 = .ok (.iload 6, 2) := by decide +kernel
theorem dz_M_fits_40 : decode zm_M_fits.2.1 40 = .ok (.aload_n 0, 1) := by decide +kernel
theorem dz_M_fits_41 : decode zm_M_fits.2.1 41 = .ok (.invokevirtual 254, 3) := by decide +kernel
theorem dz_M_fits_44 : decode zm_M_fits.2.1 44 = .ok (.if_icmp .ge 106, 3) := by decide +kernel
theorem dz_M_fits_47 : decode zm_M_fits.2.1 47 = .ok (.iconst 1, 1) := by decide +kernel
theorem dz_M_fits_48 : decode zm_M_fits.2.1 48 = .ok (.istore 7, 2) := by decide +kernel
theorem dz_M_fits_50 : decode zm_M_fits.2.1 50 = .ok (.iconst 0, 1) := by decide +kernel
theorem dz_M_fits_51 : decode zm_M_fits.2.1 51 = .ok (.istore 8, 2) := by decide +kernel
theorem dz_M_fits_53 : decode zm_M_fits.2.1 53 = .ok (.iload 8, 2) := by decide +kernel
theorem dz_M_fits_55 : decode zm_M_fits.2.1 55 = .ok (.aload_n 0, 1) := by decide +kernel
theorem dz_M_fits_56 : decode zm_M_fits.2.1 56 = .ok (.getfield 164, 3) := by decide +kernel
theorem dz_M_fits_59 : decode zm_M_fits.2.1 59 = .ok (.if_icmp .ge 50, 3) := by decide +kernel
theorem dz_M_fits_62 : decode zm_M_fits.2.1 62 = .ok (.iload 7, 2) := by decide +kernel
theorem dz_M_fits_64 : decode zm_M_fits.2.1 64 = .ok (.ifCond .eq 36, 3) := by decide +kernel
theorem dz_M_fits_67 : decode zm_M_fits.2.1 67 = .ok (.aload_n 0, 1) := by decide +kernel
theorem dz_M_fits_68 : decode zm_M_fits.2.1 68 = .ok (.aload_n 0, 1) := by decide +kernel
theorem dz_M_fits_69 : decode zm_M_fits.2.1 69 = .ok (.getfield 47, 3) := by decide +kernel
theorem dz_M_fits_72 : decode zm_M_fits.2.1 72 = .ok (.iconst 2, 1) := by decide +kernel
theorem dz_M_fits_73 : decode zm_M_fits.2.1 73 = .ok (.iload 8, 2) := by decide +kernel
theorem dz_M_fits_75 : decode zm_M_fits.2.1 75 = .ok (.imul, 1) := by decide +kernel
theorem dz_M_fits_76 : decode zm_M_fits.2.1 76 = .ok (.iaload, 1) := by decide +kernel
theorem dz_M_fits_77 : decode zm_M_fits.2.1 77 = .ok (.iload 6, 2) := by decide +kernel
theorem dz_M_fits_79 : decode zm_M_fits.2.1 79 = .ok (.invokevirtual 220, 3) := by decide +kernel
theorem dz_M_fits_82 : decode zm_M_fits.2.1 82 = .ok (.aload_n 0, 1) := by decide +kernel
theorem dz_M_fits_83 : decode zm_M_fits.2.1 83 = .ok (.getfield 47, 3) := by decide +kernel
theorem dz_M_fits_86 : decode zm_M_fits.2.1 86 = .ok (.iconst 2, 1) := by decide +kernel
theorem dz_M_fits_87 : decode zm_M_fits.2.1 87 = .ok (.iload 8, 2) := by decide +kernel
theorem dz_M_fits_89 : decode zm_M_fits.2.1 89 = .ok (.imul, 1) := by decide +kernel
theorem dz_M_fits_90 : decode zm_M_fits.2.1 90 = .ok (.iconst 1, 1) := by decide +kernel
theorem dz_M_fits_91 : decode zm_M_fits.2.1 91 = .ok (.iadd, 1) := by decide +kernel
theorem dz_M_fits_92 : decode zm_M_fits.2.1 92 = .ok (.iaload, 1) := by decide +kernel
theorem dz_M_fits_93 : decode zm_M_fits.2.1 93 = .ok (.if_icmp .ne 7, 3) := by decide +kernel
theorem dz_M_fits_96 : decode zm_M_fits.2.1 96 = .ok (.iconst 1, 1) := by decide +kernel
theorem dz_M_fits_97 : decode zm_M_fits.2.1 97 = .ok (.goto 4, 3) := by decide +kernel
theorem dz_M_fits_100 : decode zm_M_fits.2.1 100 = .ok (.iconst 0, 1) := by decide +kernel
theorem dz_M_fits_101 : decode zm_M_fits.2.1 101 = .ok (.istore 7, 2) := by decide +kernel
theorem dz_M_fits_103 : decode zm_M_fits.2.1 103 = .ok (.iinc 8 1, 3) := by decide +kernel
theorem dz_M_fits_106 : decode zm_M_fits.2.1 106 = .ok (.goto (-53), 3) := by decide +kernel
theorem dz_M_fits_109 : decode zm_M_fits.2.1 109 = .ok (.iload 7, 2) := by decide +kernel
theorem dz_M_fits_111 : decode zm_M_fits.2.1 111 = .ok (.ifCond .eq 33, 3) := by decide +kernel
theorem dz_M_fits_114 : decode zm_M_fits.2.1 114 = .ok (.iload_n 2, 1) := by decide +kernel
theorem dz_M_fits_115 : decode zm_M_fits.2.1 115 = .ok (.ifCond .ne 8, 3) := by decide +kernel
theorem dz_M_fits_118 : decode zm_M_fits.2.1 118 = .ok (.iload 6, 2) := by decide +kernel
theorem dz_M_fits_120 : decode zm_M_fits.2.1 120 = .ok (.goto 4, 3) := by decide +kernel
theorem dz_M_fits_123 : decode zm_M_fits.2.1 123 = .ok (.iload_n 3, 1) := by decide +kernel
theorem dz_M_fits_124 : decode zm_M_fits.2.1 124 = .ok (.istore_n 3, 1) := by decide +kernel
theorem dz_M_fits_125 : decode zm_M_fits.2.1 125 = .ok (.iload 4, 2) := by decide +kernel
theorem dz_M_fits_127 : decode zm_M_fits.2.1 127 = .ok (.iload 6, 2) := by decide +kernel
theorem dz_M_fits_129 : decode zm_M_fits.2.1 129 = .ok (.iand, 1) := by decide +kernel
theorem dz_M_fits_130 : decode zm_M_fits.2.1 130 = .ok (.istore 4, 2) := by decide +kernel
theorem dz_M_fits_132 : decode zm_M_fits.2.1 132 = .ok (.iload 5, 2) := by decide +kernel
theorem dz_M_fits_134 : decode zm_M_fits.2.1 134 = .ok (.iload 6, 2) := by decide +kernel
theorem dz_M_fits_136 : decode zm_M_fits.2.1 136 = .ok (.iconst (-1), 1) := by decide +kernel
theorem dz_M_fits_137 : decode zm_M_fits.2.1 137 = .ok (.ixor, 1) := by decide +kernel
theorem dz_M_fits_138 : decode zm_M_fits.2.1 138 = .ok (.iand, 1) := by decide +kernel
theorem dz_M_fits_139 : decode zm_M_fits.2.1 139 = .ok (.istore 5, 2) := by decide +kernel
theorem dz_M_fits_141 : decode zm_M_fits.2.1 141 = .ok (.iinc 2 1, 3) := by decide +kernel
theorem dz_M_fits_144 : decode zm_M_fits.2.1 144 = .ok (.iinc 6 1, 3) := by decide +kernel
theorem dz_M_fits_147 : decode zm_M_fits.2.1 147 = .ok (.goto (-109), 3) := by decide +kernel
theorem dz_M_fits_150 : decode zm_M_fits.2.1 150 = .ok (.iload_n 1, 1) := by decide +kernel
theorem dz_M_fits_151 : decode zm_M_fits.2.1 151 = .ok (.ifCond .ne 7, 3) := by decide +kernel
theorem dz_M_fits_154 : decode zm_M_fits.2.1 154 = .ok (.iload_n 2, 1) := by decide +kernel
theorem dz_M_fits_155 : decode zm_M_fits.2.1 155 = .ok (.goto 33, 3) := by decide +kernel
theorem dz_M_fits_158 : decode zm_M_fits.2.1 158 = .ok (.iload_n 2, 1) := by decide +kernel
theorem dz_M_fits_159 : decode zm_M_fits.2.1 159 = .ok (.ifCond .ne 8, 3) := by decide +kernel
theorem dz_M_fits_162 : decode zm_M_fits.2.1 162 = .ok (.bipush (-4), 2) := by decide +kernel
theorem dz_M_fits_164 : decode zm_M_fits.2.1 164 = .ok (.goto 24, 3) := by decide +kernel
theorem dz_M_fits_167 : decode zm_M_fits.2.1 167 = .ok (.iload_n 1, 1) := by decide +kernel
theorem dz_M_fits_168 : decode zm_M_fits.2.1 168 = .ok (.iconst 1, 1) := by decide +kernel
theorem dz_M_fits_169 : decode zm_M_fits.2.1 169 = .ok (.if_icmp .ne 7, 3) := by decide +kernel
theorem dz_M_fits_172 : decode zm_M_fits.2.1 172 = .ok (.iload_n 3, 1) := by decide +kernel
theorem dz_M_fits_173 : decode zm_M_fits.2.1 173 = .ok (.goto 15, 3) := by decide +kernel
theorem dz_M_fits_176 : decode zm_M_fits.2.1 176 = .ok (.iload_n 1, 1) := by decide +kernel
theorem dz_M_fits_177 : decode zm_M_fits.2.1 177 = .ok (.iconst 2, 1) := by decide +kernel
theorem dz_M_fits_178 : decode zm_M_fits.2.1 178 = .ok (.if_icmp .ne 8, 3) := by decide +kernel
theorem dz_M_fits_181 : decode zm_M_fits.2.1 181 = .ok (.iload 4, 2) := by decide +kernel
theorem dz_M_fits_183 : decode zm_M_fits.2.1 183 = .ok (.goto 5, 3) := by decide +kernel
theorem dz_M_fits_186 : decode zm_M_fits.2.1 186 = .ok (.iload 5, 2) := by decide +kernel
theorem dz_M_fits_188 : decode zm_M_fits.2.1 188 = .ok (.ireturn, 1) := by decide +kernel
theorem dz_M_drift_0 : decode zm_M_drift.2.1 0 = .ok (.iload_n 2, 1) := by decide +kernel
theorem dz_M_drift_1 : decode zm_M_drift.2.1 1 = .ok (.i2l, 1) := by decide +kernel
theorem dz_M_drift_2 : decode zm_M_drift.2.1 2 = .ok (.lconst 1, 1) := by decide +kernel
theorem dz_M_drift_3 : decode zm_M_drift.2.1 3 = .ok (.ldc2_w 289, 3) := by decide +kernel
theorem dz_M_drift_6 : decode zm_M_drift.2.1 6 = .ok (.invokestatic 65, 3) := by decide +kernel
theorem dz_M_drift_9 : decode zm_M_drift.2.1 9 = .ok (.ifCond .eq 13, 3) := by decide +kernel
theorem dz_M_drift_12 : decode zm_M_drift.2.1 12 = .ok (.iload_n 3, 1) := by decide +kernel
theorem dz_M_drift_13 : decode zm_M_drift.2.1 13 = .ok (.i2l, 1) := by decide +kernel
theorem dz_M_drift_14 : decode zm_M_drift.2.1 14 = .ok (.lconst 0, 1) := by decide +kernel
theorem dz_M_drift_15 : decode zm_M_drift.2.1 15 = .ok (.lconst 1, 1) := by decide +kernel
theorem dz_M_drift_16 : decode zm_M_drift.2.1 16 = .ok (.invokestatic 65, 3) := by decide +kernel
theorem dz_M_drift_19 : decode zm_M_drift.2.1 19 = .ok (.ifCond .ne 5, 3) := by decide +kernel
theorem dz_M_drift_22 : decode zm_M_drift.2.1 22 = .ok (.iconst (-1), 1) := by decide +kernel
theorem dz_M_drift_23 : decode zm_M_drift.2.1 23 = .ok (.ireturn, 1) := by decide +kernel
theorem dz_M_drift_24 : decode zm_M_drift.2.1 24 = .ok (.aload_n 0, 1) := by decide +kernel
theorem dz_M_drift_25 : decode zm_M_drift.2.1 25 = .ok (.getfield 158, 3) := by decide +kernel
theorem dz_M_drift_28 : decode zm_M_drift.2.1 28 = .ok (.ifCond .ne 6, 3) := by decide +kernel
theorem dz_M_drift_31 : decode zm_M_drift.2.1 31 = .ok (.bipush (-2), 2) := by decide +kernel
theorem dz_M_drift_33 : decode zm_M_drift.2.1 33 = .ok (.ireturn, 1) := by decide +kernel
theorem dz_M_drift_34 : decode zm_M_drift.2.1 34 = .ok (.aload_n 0, 1) := by decide +kernel
theorem dz_M_drift_35 : decode zm_M_drift.2.1 35 = .ok (.iconst 0, 1) := by decide +kernel
theorem dz_M_drift_36 : decode zm_M_drift.2.1 36 = .ok (.bipush 84, 2) := by decide +kernel
theorem dz_M_drift_38 : decode zm_M_drift.2.1 38 = .ok (.invokevirtual 246, 3) := by decide +kernel
theorem dz_M_drift_41 : decode zm_M_drift.2.1 41 = .ok (.iload_n 1, 1) := by decide +kernel
theorem dz_M_drift_42 : decode zm_M_drift.2.1 42 = .ok (.istore 4, 2) := by decide +kernel
theorem dz_M_drift_44 : decode zm_M_drift.2.1 44 = .ok (.iconst 0, 1) := by decide +kernel
theorem dz_M_drift_45 : decode zm_M_drift.2.1 45 = .ok (.istore 5, 2) := by decide +kernel
theorem dz_M_drift_47 : decode zm_M_drift.2.1 47 = .ok (.aload_n 0, 1) := by decide +kernel
theorem dz_M_drift_48 : decode zm_M_drift.2.1 48 = .ok (.iconst 0, 1) := by decide +kernel
theorem dz_M_drift_49 : decode zm_M_drift.2.1 49 = .ok (.aload_n 0, 1) := by decide +kernel
theorem dz_M_drift_50 : decode zm_M_drift.2.1 50 = .ok (.getfield 7, 3) := by decide +kernel
theorem dz_M_drift_53 : decode zm_M_drift.2.1 53 = .ok (.bipush 12, 2) := by decide +kernel
theorem dz_M_drift_55 : decode zm_M_drift.2.1 55 = .ok (.iaload, 1) := by decide +kernel
theorem dz_M_drift_56 : decode zm_M_drift.2.1 56 = .ok (.invokevirtual 220, 3) := by decide +kernel
theorem dz_M_drift_59 : decode zm_M_drift.2.1 59 = .ok (.istore 6, 2) := by decide +kernel
theorem dz_M_drift_61 : decode zm_M_drift.2.1 61 = .ok (.iconst 0, 1) := by decide +kernel
theorem dz_M_drift_62 : decode zm_M_drift.2.1 62 = .ok (.istore 7, 2) := by decide +kernel
theorem dz_M_drift_64 : decode zm_M_drift.2.1 64 = .ok (.iload 7, 2) := by decide +kernel
theorem dz_M_drift_66 : decode zm_M_drift.2.1 66 = .ok (.iload_n 2, 1) := by decide +kernel
theorem dz_M_drift_67 : decode zm_M_drift.2.1 67 = .ok (.if_icmp .ge 153, 3) := by decide +kernel
theorem dz_M_drift_70 : decode zm_M_drift.2.1 70 = .ok (.iload 4, 2) := by decide +kernel
theorem dz_M_drift_72 : decode zm_M_drift.2.1 72 = .ok (.ldc_w 291, 3) := by decide +kernel
theorem dz_M_drift_75 : decode zm_M_drift.2.1 75 = .ok (.imul, 1) := by decide +kernel
theorem dz_M_drift_76 : decode zm_M_drift.2.1 76 = .ok (.sipush 12345, 3) := by decide +kernel
theorem dz_M_drift_79 : decode zm_M_drift.2.1 79 = .ok (.iadd, 1) := by decide +kernel
theorem dz_M_drift_80 : decode zm_M_drift.2.1 80 = .ok (.istore 4, 2) := by decide +kernel
theorem dz_M_drift_82 : decode zm_M_drift.2.1 82 = .ok (.iload 4, 2) := by decide +kernel
theorem dz_M_drift_84 : decode zm_M_drift.2.1 84 = .ok (.bipush 16, 2) := by decide +kernel
theorem dz_M_drift_86 : decode zm_M_drift.2.1 86 = .ok (.ishr, 1) := by decide +kernel
theorem dz_M_drift_87 : decode zm_M_drift.2.1 87 = .ok (.sipush 32767, 3) := by decide +kernel
theorem dz_M_drift_90 : decode zm_M_drift.2.1 90 = .ok (.iand, 1) := by decide +kernel
theorem dz_M_drift_91 : decode zm_M_drift.2.1 91 = .ok (.aload_n 0, 1) := by decide +kernel
theorem dz_M_drift_92 : decode zm_M_drift.2.1 92 = .ok (.getfield 158, 3) := by decide +kernel
theorem dz_M_drift_95 : decode zm_M_drift.2.1 95 = .ok (.irem, 1) := by decide +kernel
theorem dz_M_drift_96 : decode zm_M_drift.2.1 96 = .ok (.istore 8, 2) := by decide +kernel
theorem dz_M_drift_98 : decode zm_M_drift.2.1 98 = .ok (.iload 4, 2) := by decide +kernel
theorem dz_M_drift_100 : decode zm_M_drift.2.1 100 = .ok (.ldc_w 291, 3) := by decide +kernel
theorem dz_M_drift_103 : decode zm_M_drift.2.1 103 = .ok (.imul, 1) := by decide +kernel
theorem dz_M_drift_104 : decode zm_M_drift.2.1 104 = .ok (.sipush 12345, 3) := by decide +kernel
theorem dz_M_drift_107 : decode zm_M_drift.2.1 107 = .ok (.iadd, 1) := by decide +kernel
theorem dz_M_drift_108 : decode zm_M_drift.2.1 108 = .ok (.istore 4, 2) := by decide +kernel
theorem dz_M_drift_110 : decode zm_M_drift.2.1 110 = .ok (.bipush 10, 2) := by decide +kernel
theorem dz_M_drift_112 : decode zm_M_drift.2.1 112 = .ok (.iload 8, 2) := by decide +kernel
theorem dz_M_drift_114 : decode zm_M_drift.2.1 114 = .ok (.imul, 1) := by decide +kernel
theorem dz_M_drift_115 : decode zm_M_drift.2.1 115 = .ok (.iload 4, 2) := by decide +kernel
theorem dz_M_drift_117 : decode zm_M_drift.2.1 117 = .ok (.bipush 16, 2) := by decide +kernel
theorem dz_M_drift_119 : decode zm_M_drift.2.1 119 = .ok (.ishr, 1) := by decide +kernel
theorem dz_M_drift_120 : decode zm_M_drift.2.1 120 = .ok (.sipush 32767, 3) := by decide +kernel
theorem dz_M_drift_123 : decode zm_M_drift.2.1 123 = .ok (.iand, 1) := by decide +kernel
theorem dz_M_drift_124 : decode zm_M_drift.2.1 124 = .ok (.bipush 7, 2) := by decide +kernel
theorem dz_M_drift_126 : decode zm_M_drift.2.1 126 = .ok (.irem, 1) := by decide +kernel
theorem dz_M_drift_127 : decode zm_M_drift.2.1 127 = .ok (.iadd, 1) := by decide +kernel
theorem dz_M_drift_128 : decode zm_M_drift.2.1 128 = .ok (.istore 9, 2) := by decide +kernel
theorem dz_M_drift_130 : decode zm_M_drift.2.1 130 = .ok (.aload_n 0, 1) := by decide +kernel
theorem dz_M_drift_131 : decode zm_M_drift.2.1 131 = .ok (.iload 9, 2) := by decide +kernel
theorem dz_M_drift_133 : decode zm_M_drift.2.1 133 = .ok (.invokevirtual 226, 3) := by decide +kernel
theorem dz_M_drift_136 : decode zm_M_drift.2.1 136 = .ok (.ifCond .eq 9, 3) := by decide +kernel
theorem dz_M_drift_139 : decode zm_M_drift.2.1 139 = .ok (.aload_n 0, 1) := by decide +kernel
theorem dz_M_drift_140 : decode zm_M_drift.2.1 140 = .ok (.iload 9, 2) := by decide +kernel
theorem dz_M_drift_142 : decode zm_M_drift.2.1 142 = .ok (.invokevirtual 229, 3) := by decide +kernel
theorem dz_M_drift_145 : decode zm_M_drift.2.1 145 = .ok (.aload_n 0, 1) := by decide +kernel
theorem dz_M_drift_146 : decode zm_M_drift.2.1 146 = .ok (.getfield 7, 3) := by decide +kernel
theorem dz_M_drift_149 : decode zm_M_drift.2.1 149 = .ok (.bipush 12, 2) := by decide +kernel
theorem dz_M_drift_151 : decode zm_M_drift.2.1 151 = .ok (.aload_n 0, 1) := by decide +kernel
theorem dz_M_drift_152 : decode zm_M_drift.2.1 152 = .ok (.getfield 7, 3) := by decide +kernel
theorem dz_M_drift_155 : decode zm_M_drift.2.1 155 = .ok (.bipush 12, 2) := by decide +kernel
theorem dz_M_drift_157 : decode zm_M_drift.2.1 157 = .ok (.iaload, 1) := by decide +kernel
theorem dz_M_drift_158 : decode zm_M_drift.2.1 158 = .ok (.aload_n 0, 1) := by decide +kernel
theorem dz_M_drift_159 : decode zm_M_drift.2.1 159 = .ok (.invokevirtual 254, 3) := by decide +kernel
theorem dz_M_drift_162 : decode zm_M_drift.2.1 162 = .ok (.iconst 1, 1) := by decide +kernel
theorem dz_M_drift_163 : decode zm_M_drift.2.1 163 = .ok (.isub, 1) := by decide +kernel
theorem dz_M_drift_164 : decode zm_M_drift.2.1 164 = .ok (.if_icmp .ne 7, 3) := by decide +kernel
theorem dz_M_drift_167 : decode zm_M_drift.2.1 167 = .ok (.iconst 0, 1) := by decide +kernel
theorem dz_M_drift_168 : decode zm_M_drift.2.1 168 = .ok (.goto 10, 3) := by decide +kernel
theorem dz_M_drift_171 : decode zm_M_drift.2.1 171 = .ok (.aload_n 0, 1) := by decide +kernel
theorem dz_M_drift_172 : decode zm_M_drift.2.1 172 = .ok (.getfield 7, 3) := by decide +kernel
theorem dz_M_drift_175 : decode zm_M_drift.2.1 175 = .ok (.bipush 12, 2) := by decide +kernel
theorem dz_M_drift_177 : decode zm_M_drift.2.1 177 = .ok (.iaload, 1) := by decide +kernel
theorem dz_M_drift_178 : decode zm_M_drift.2.1 178 = .ok (.iastore, 1) := by decide +kernel
theorem dz_M_drift_179 : decode zm_M_drift.2.1 179 = .ok (.aload_n 0, 1) := by decide +kernel
theorem dz_M_drift_180 : decode zm_M_drift.2.1 180 = .ok (.iconst 0, 1) := by decide +kernel
theorem dz_M_drift_181 : decode zm_M_drift.2.1 181 = .ok (.aload_n 0, 1) := by decide +kernel
theorem dz_M_drift_182 : decode zm_M_drift.2.1 182 = .ok (.getfield 7, 3) := by decide +kernel
theorem dz_M_drift_185 : decode zm_M_drift.2.1 185 = .ok (.bipush 12, 2) := by decide +kernel
theorem dz_M_drift_187 : decode zm_M_drift.2.1 187 = .ok (.iaload, 1) := by decide +kernel
theorem dz_M_drift_188 : decode zm_M_drift.2.1 188 = .ok (.invokevirtual 220, 3) := by decide +kernel
theorem dz_M_drift_191 : decode zm_M_drift.2.1 191 = .ok (.istore 10, 2) := by decide +kernel
theorem dz_M_drift_193 : decode zm_M_drift.2.1 193 = .ok (.iload 5, 2) := by decide +kernel
theorem dz_M_drift_195 : decode zm_M_drift.2.1 195 = .ok (.iload 10, 2) := by decide +kernel
theorem dz_M_drift_197 : decode zm_M_drift.2.1 197 = .ok (.iload 6, 2) := by decide +kernel
theorem dz_M_drift_199 : decode zm_M_drift.2.1 199 = .ok (.if_icmp .eq 7, 3) := by decide +kernel
theorem dz_M_drift_202 : decode zm_M_drift.2.1 202 = .ok (.iconst 1, 1) := by decide +kernel
theorem dz_M_drift_203 : decode zm_M_drift.2.1 203 = .ok (.goto 4, 3) := by decide +kernel
theorem dz_M_drift_206 : decode zm_M_drift.2.1 206 = .ok (.iconst 0, 1) := by decide +kernel
theorem dz_M_drift_207 : decode zm_M_drift.2.1 207 = .ok (.iadd, 1) := by decide +kernel
theorem dz_M_drift_208 : decode zm_M_drift.2.1 208 = .ok (.istore 5, 2) := by decide +kernel
theorem dz_M_drift_210 : decode zm_M_drift.2.1 210 = .ok (.iload 10, 2) := by decide +kernel
theorem dz_M_drift_212 : decode zm_M_drift.2.1 212 = .ok (.istore 6, 2) := by decide +kernel
theorem dz_M_drift_214 : decode zm_M_drift.2.1 214 = .ok (.iinc 7 1, 3) := by decide +kernel
theorem dz_M_drift_217 : decode zm_M_drift.2.1 217 = .ok (.goto (-153), 3) := by decide +kernel
theorem dz_M_drift_220 : decode zm_M_drift.2.1 220 = .ok (.aload_n 0, 1) := by decide +kernel
theorem dz_M_drift_221 : decode zm_M_drift.2.1 221 = .ok (.bipush 84, 2) := by decide +kernel
theorem dz_M_drift_223 : decode zm_M_drift.2.1 223 = .ok (.iconst 0, 1) := by decide +kernel
theorem dz_M_drift_224 : decode zm_M_drift.2.1 224 = .ok (.invokevirtual 246, 3) := by decide +kernel
theorem dz_M_drift_227 : decode zm_M_drift.2.1 227 = .ok (.iload_n 3, 1) := by decide +kernel
theorem dz_M_drift_228 : decode zm_M_drift.2.1 228 = .ok (.ifCond .ne 8, 3) := by decide +kernel
theorem dz_M_drift_231 : decode zm_M_drift.2.1 231 = .ok (.iload 5, 2) := by decide +kernel
theorem dz_M_drift_233 : decode zm_M_drift.2.1 233 = .ok (.goto 5, 3) := by decide +kernel
theorem dz_M_drift_236 : decode zm_M_drift.2.1 236 = .ok (.iload 6, 2) := by decide +kernel
theorem dz_M_drift_238 : decode zm_M_drift.2.1 238 = .ok (.ireturn, 1) := by decide +kernel
theorem dz_M_keep_0 : decode zm_M_keep.2.1 0 = .ok (.iload_n 1, 1) := by decide +kernel
theorem dz_M_keep_1 : decode zm_M_keep.2.1 1 = .ok (.i2l, 1) := by decide +kernel
theorem dz_M_keep_2 : decode zm_M_keep.2.1 2 = .ok (.lconst 0, 1) := by decide +kernel
theorem dz_M_keep_3 : decode zm_M_keep.2.1 3 = .ok (.lconst 1, 1) := by decide +kernel
theorem dz_M_keep_4 : decode zm_M_keep.2.1 4 = .ok (.invokestatic 65, 3) := by decide +kernel
theorem dz_M_keep_7 : decode zm_M_keep.2.1 7 = .ok (.ifCond .ne 5, 3) := by decide +kernel
theorem dz_M_keep_10 : decode zm_M_keep.2.1 10 = .ok (.iconst (-1), 1) := by decide +kernel
theorem dz_M_keep_11 : decode zm_M_keep.2.1 11 = .ok (.ireturn, 1) := by decide +kernel
theorem dz_M_keep_12 : decode zm_M_keep.2.1 12 = .ok (.aload_n 0, 1) := by decide +kernel
theorem dz_M_keep_13 : decode zm_M_keep.2.1 13 = .ok (.iconst 0, 1) := by decide +kernel
theorem dz_M_keep_14 : decode zm_M_keep.2.1 14 = .ok (.bipush 28, 2) := by decide +kernel
theorem dz_M_keep_16 : decode zm_M_keep.2.1 16 = .ok (.iload_n 1, 1) := by decide +kernel
theorem dz_M_keep_17 : decode zm_M_keep.2.1 17 = .ok (.iconst 1, 1) := by decide +kernel
theorem dz_M_keep_18 : decode zm_M_keep.2.1 18 = .ok (.iadd, 1) := by decide +kernel
theorem dz_M_keep_19 : decode zm_M_keep.2.1 19 = .ok (.imul, 1) := by decide +kernel
theorem dz_M_keep_20 : decode zm_M_keep.2.1 20 = .ok (.invokevirtual 246, 3) := by decide +kernel
theorem dz_M_keep_23 : decode zm_M_keep.2.1 23 = .ok (.aload_n 0, 1) := by decide +kernel
theorem dz_M_keep_24 : decode zm_M_keep.2.1 24 = .ok (.getfield 50, 3) := by decide +kernel
theorem dz_M_keep_27 : decode zm_M_keep.2.1 27 = .ok (.iload_n 1, 1) := by decide +kernel
theorem dz_M_keep_28 : decode zm_M_keep.2.1 28 = .ok (.baload, 1) := by decide +kernel
theorem dz_M_keep_29 : decode zm_M_keep.2.1 29 = .ok (.ifCond .eq 7, 3) := by decide +kernel
theorem dz_M_keep_32 : decode zm_M_keep.2.1 32 = .ok (.iconst 1, 1) := by decide +kernel
theorem dz_M_keep_33 : decode zm_M_keep.2.1 33 = .ok (.goto 4, 3) := by decide +kernel
theorem dz_M_keep_36 : decode zm_M_keep.2.1 36 = .ok (.iconst 0, 1) := by decide +kernel
theorem dz_M_keep_37 : decode zm_M_keep.2.1 37 = .ok (.istore_n 2, 1) := by decide +kernel
theorem dz_M_keep_38 : decode zm_M_keep.2.1 38 = .ok (.aload_n 0, 1) := by decide +kernel
theorem dz_M_keep_39 : decode zm_M_keep.2.1 39 = .ok (.getfield 50, 3) := by decide +kernel
theorem dz_M_keep_42 : decode zm_M_keep.2.1 42 = .ok (.iload_n 1, 1) := by decide +kernel
theorem dz_M_keep_43 : decode zm_M_keep.2.1 43 = .ok (.iconst 1, 1) := by decide +kernel
theorem dz_M_keep_44 : decode zm_M_keep.2.1 44 = .ok (.bastore, 1) := by decide +kernel
theorem dz_M_keep_45 : decode zm_M_keep.2.1 45 = .ok (.iload_n 2, 1) := by decide +kernel
theorem dz_M_keep_46 : decode zm_M_keep.2.1 46 = .ok (.ireturn, 1) := by decide +kernel
theorem dz_M_back_0 : decode zm_M_back.2.1 0 = .ok (.iload_n 1, 1) := by decide +kernel
theorem dz_M_back_1 : decode zm_M_back.2.1 1 = .ok (.i2l, 1) := by decide +kernel
theorem dz_M_back_2 : decode zm_M_back.2.1 2 = .ok (.lconst 0, 1) := by decide +kernel
theorem dz_M_back_3 : decode zm_M_back.2.1 3 = .ok (.lconst 1, 1) := by decide +kernel
theorem dz_M_back_4 : decode zm_M_back.2.1 4 = .ok (.invokestatic 65, 3) := by decide +kernel
theorem dz_M_back_7 : decode zm_M_back.2.1 7 = .ok (.ifCond .ne 5, 3) := by decide +kernel
theorem dz_M_back_10 : decode zm_M_back.2.1 10 = .ok (.iconst (-1), 1) := by decide +kernel
theorem dz_M_back_11 : decode zm_M_back.2.1 11 = .ok (.ireturn, 1) := by decide +kernel
theorem dz_M_back_12 : decode zm_M_back.2.1 12 = .ok (.aload_n 0, 1) := by decide +kernel
theorem dz_M_back_13 : decode zm_M_back.2.1 13 = .ok (.getfield 50, 3) := by decide +kernel
theorem dz_M_back_16 : decode zm_M_back.2.1 16 = .ok (.iload_n 1, 1) := by decide +kernel
theorem dz_M_back_17 : decode zm_M_back.2.1 17 = .ok (.baload, 1) := by decide +kernel
theorem dz_M_back_18 : decode zm_M_back.2.1 18 = .ok (.ifCond .ne 6, 3) := by decide +kernel
theorem dz_M_back_21 : decode zm_M_back.2.1 21 = .ok (.bipush (-2), 2) := by decide +kernel
theorem dz_M_back_23 : decode zm_M_back.2.1 23 = .ok (.ireturn, 1) := by decide +kernel
theorem dz_M_back_24 : decode zm_M_back.2.1 24 = .ok (.aload_n 0, 1) := by decide +kernel
theorem dz_M_back_25 : decode zm_M_back.2.1 25 = .ok (.bipush 28, 2) := by decide +kernel
theorem dz_M_back_27 : decode zm_M_back.2.1 27 = .ok (.iload_n 1, 1) := by decide +kernel
theorem dz_M_back_28 : decode zm_M_back.2.1 28 = .ok (.iconst 1, 1) := by decide +kernel
theorem dz_M_back_29 : decode zm_M_back.2.1 29 = .ok (.iadd, 1) := by decide +kernel
theorem dz_M_back_30 : decode zm_M_back.2.1 30 = .ok (.imul, 1) := by decide +kernel
theorem dz_M_back_31 : decode zm_M_back.2.1 31 = .ok (.iconst 0, 1) := by decide +kernel
theorem dz_M_back_32 : decode zm_M_back.2.1 32 = .ok (.invokevirtual 246, 3) := by decide +kernel
theorem dz_M_back_35 : decode zm_M_back.2.1 35 = .ok (.aload_n 0, 1) := by decide +kernel
theorem dz_M_back_36 : decode zm_M_back.2.1 36 = .ok (.getfield 7, 3) := by decide +kernel
theorem dz_M_back_39 : decode zm_M_back.2.1 39 = .ok (.bipush 12, 2) := by decide +kernel
theorem dz_M_back_41 : decode zm_M_back.2.1 41 = .ok (.iaload, 1) := by decide +kernel
theorem dz_M_back_42 : decode zm_M_back.2.1 42 = .ok (.ireturn, 1) := by decide +kernel
theorem dz_M_sheet_0 : decode zm_M_sheet.2.1 0 = .ok (.iload_n 1, 1) := by decide +kernel
theorem dz_M_sheet_1 : decode zm_M_sheet.2.1 1 = .ok (.i2l, 1) := by decide +kernel
theorem dz_M_sheet_2 : decode zm_M_sheet.2.1 2 = .ok (.lconst 0, 1) := by decide +kernel
theorem dz_M_sheet_3 : decode zm_M_sheet.2.1 3 = .ok (.ldc2_w 167, 3) := by decide +kernel
theorem dz_M_sheet_6 : decode zm_M_sheet.2.1 6 = .ok (.invokestatic 65, 3) := by decide +kernel
theorem dz_M_sheet_9 : decode zm_M_sheet.2.1 9 = .ok (.ifCond .eq 21, 3) := by decide +kernel
theorem dz_M_sheet_12 : decode zm_M_sheet.2.1 12 = .ok (.iload_n 2, 1) := by decide +kernel
theorem dz_M_sheet_13 : decode zm_M_sheet.2.1 13 = .ok (.i2l, 1) := by decide +kernel
theorem dz_M_sheet_14 : decode zm_M_sheet.2.1 14 = .ok (.lconst 0, 1) := by decide +kernel
theorem dz_M_sheet_15 : decode zm_M_sheet.2.1 15 = .ok (.ldc2_w 241, 3) := by decide +kernel
theorem dz_M_sheet_18 : decode zm_M_sheet.2.1 18 = .ok (.invokestatic 65, 3) := by decide +kernel
theorem dz_M_sheet_21 : decode zm_M_sheet.2.1 21 = .ok (.ifCond .eq 9, 3) := by decide +kernel
theorem dz_M_sheet_24 : decode zm_M_sheet.2.1 24 = .ok (.iload_n 3, 1) := by decide +kernel
theorem dz_M_sheet_25 : decode zm_M_sheet.2.1 25 = .ok (.bipush 40, 2) := by decide +kernel
theorem dz_M_sheet_27 : decode zm_M_sheet.2.1 27 = .ok (.if_icmp .le 5, 3) := by decide +kernel
theorem dz_M_sheet_30 : decode zm_M_sheet.2.1 30 = .ok (.iconst (-1), 1) := by decide +kernel
theorem dz_M_sheet_31 : decode zm_M_sheet.2.1 31 = .ok (.ireturn, 1) := by decide +kernel
theorem dz_M_sheet_32 : decode zm_M_sheet.2.1 32 = .ok (.iload_n 3, 1) := by decide +kernel
theorem dz_M_sheet_33 : decode zm_M_sheet.2.1 33 = .ok (.ifCond .ge 6, 3) := by decide +kernel
theorem dz_M_sheet_36 : decode zm_M_sheet.2.1 36 = .ok (.bipush (-14), 2) := by decide +kernel
theorem dz_M_sheet_38 : decode zm_M_sheet.2.1 38 = .ok (.ireturn, 1) := by decide +kernel
theorem dz_M_sheet_39 : decode zm_M_sheet.2.1 39 = .ok (.aload_n 0, 1) := by decide +kernel
theorem dz_M_sheet_40 : decode zm_M_sheet.2.1 40 = .ok (.getfield 54, 3) := by decide +kernel
theorem dz_M_sheet_43 : decode zm_M_sheet.2.1 43 = .ok (.iload_n 1, 1) := by decide +kernel
theorem dz_M_sheet_44 : decode zm_M_sheet.2.1 44 = .ok (.iload_n 2, 1) := by decide +kernel
theorem dz_M_sheet_45 : decode zm_M_sheet.2.1 45 = .ok (.iastore, 1) := by decide +kernel
theorem dz_M_sheet_46 : decode zm_M_sheet.2.1 46 = .ok (.aload_n 0, 1) := by decide +kernel
theorem dz_M_sheet_47 : decode zm_M_sheet.2.1 47 = .ok (.getfield 57, 3) := by decide +kernel
theorem dz_M_sheet_50 : decode zm_M_sheet.2.1 50 = .ok (.iload_n 1, 1) := by decide +kernel
theorem dz_M_sheet_51 : decode zm_M_sheet.2.1 51 = .ok (.iload_n 3, 1) := by decide +kernel
theorem dz_M_sheet_52 : decode zm_M_sheet.2.1 52 = .ok (.iastore, 1) := by decide +kernel
theorem dz_M_sheet_53 : decode zm_M_sheet.2.1 53 = .ok (.iconst 0, 1) := by decide +kernel
theorem dz_M_sheet_54 : decode zm_M_sheet.2.1 54 = .ok (.istore 4, 2) := by decide +kernel
theorem dz_M_sheet_56 : decode zm_M_sheet.2.1 56 = .ok (.iload 4, 2) := by decide +kernel
theorem dz_M_sheet_58 : decode zm_M_sheet.2.1 58 = .ok (.bipush 40, 2) := by decide +kernel
theorem dz_M_sheet_60 : decode zm_M_sheet.2.1 60 = .ok (.if_icmp .ge 22, 3) := by decide +kernel
theorem dz_M_sheet_63 : decode zm_M_sheet.2.1 63 = .ok (.aload_n 0, 1) := by decide +kernel
theorem dz_M_sheet_64 : decode zm_M_sheet.2.1 64 = .ok (.getfield 60, 3) := by decide +kernel
theorem dz_M_sheet_67 : decode zm_M_sheet.2.1 67 = .ok (.bipush 40, 2) := by decide +kernel
theorem dz_M_sheet_69 : decode zm_M_sheet.2.1 69 = .ok (.iload_n 1, 1) := by decide +kernel
theorem dz_M_sheet_70 : decode zm_M_sheet.2.1 70 = .ok (.imul, 1) := by decide +kernel
theorem dz_M_sheet_71 : decode zm_M_sheet.2.1 71 = .ok (.iload 4, 2) := by decide +kernel
theorem dz_M_sheet_73 : decode zm_M_sheet.2.1 73 = .ok (.iadd, 1) := by decide +kernel
theorem dz_M_sheet_74 : decode zm_M_sheet.2.1 74 = .ok (.iconst 0, 1) := by decide +kernel
theorem dz_M_sheet_75 : decode zm_M_sheet.2.1 75 = .ok (.iastore, 1) := by decide +kernel
theorem dz_M_sheet_76 : decode zm_M_sheet.2.1 76 = .ok (.iinc 4 1, 3) := by decide +kernel
theorem dz_M_sheet_79 : decode zm_M_sheet.2.1 79 = .ok (.goto (-23), 3) := by decide +kernel
theorem dz_M_sheet_82 : decode zm_M_sheet.2.1 82 = .ok (.iconst 1, 1) := by decide +kernel
theorem dz_M_sheet_83 : decode zm_M_sheet.2.1 83 = .ok (.ireturn, 1) := by decide +kernel
theorem dz_M_lay_0 : decode zm_M_lay.2.1 0 = .ok (.iload_n 1, 1) := by decide +kernel
theorem dz_M_lay_1 : decode zm_M_lay.2.1 1 = .ok (.i2l, 1) := by decide +kernel
theorem dz_M_lay_2 : decode zm_M_lay.2.1 2 = .ok (.lconst 0, 1) := by decide +kernel
theorem dz_M_lay_3 : decode zm_M_lay.2.1 3 = .ok (.ldc2_w 167, 3) := by decide +kernel
theorem dz_M_lay_6 : decode zm_M_lay.2.1 6 = .ok (.invokestatic 65, 3) := by decide +kernel
theorem dz_M_lay_9 : decode zm_M_lay.2.1 9 = .ok (.ifCond .ne 5, 3) := by decide +kernel
theorem dz_M_lay_12 : decode zm_M_lay.2.1 12 = .ok (.iconst (-1), 1) := by decide +kernel
theorem dz_M_lay_13 : decode zm_M_lay.2.1 13 = .ok (.ireturn, 1) := by decide +kernel
theorem dz_M_lay_14 : decode zm_M_lay.2.1 14 = .ok (.aload_n 0, 1) := by decide +kernel
theorem dz_M_lay_15 : decode zm_M_lay.2.1 15 = .ok (.getfield 54, 3) := by decide +kernel
theorem dz_M_lay_18 : decode zm_M_lay.2.1 18 = .ok (.iload_n 1, 1) := by decide +kernel
theorem dz_M_lay_19 : decode zm_M_lay.2.1 19 = .ok (.iaload, 1) := by decide +kernel
theorem dz_M_lay_20 : decode zm_M_lay.2.1 20 = .ok (.bipush (-4), 2) := by decide +kernel
theorem dz_M_lay_22 : decode zm_M_lay.2.1 22 = .ok (.if_icmp .ne 6, 3) := by decide +kernel
theorem dz_M_lay_25 : decode zm_M_lay.2.1 25 = .ok (.bipush (-11), 2) := by decide +kernel
theorem dz_M_lay_27 : decode zm_M_lay.2.1 27 = .ok (.ireturn, 1) := by decide +kernel
theorem dz_M_lay_28 : decode zm_M_lay.2.1 28 = .ok (.iload_n 2, 1) := by decide +kernel
theorem dz_M_lay_29 : decode zm_M_lay.2.1 29 = .ok (.i2l, 1) := by decide +kernel
theorem dz_M_lay_30 : decode zm_M_lay.2.1 30 = .ok (.lconst 0, 1) := by decide +kernel
theorem dz_M_lay_31 : decode zm_M_lay.2.1 31 = .ok (.aload_n 0, 1) := by decide +kernel
theorem dz_M_lay_32 : decode zm_M_lay.2.1 32 = .ok (.getfield 57, 3) := by decide +kernel
theorem dz_M_lay_35 : decode zm_M_lay.2.1 35 = .ok (.iload_n 1, 1) := by decide +kernel
theorem dz_M_lay_36 : decode zm_M_lay.2.1 36 = .ok (.iaload, 1) := by decide +kernel
theorem dz_M_lay_37 : decode zm_M_lay.2.1 37 = .ok (.iconst 1, 1) := by decide +kernel
theorem dz_M_lay_38 : decode zm_M_lay.2.1 38 = .ok (.isub, 1) := by decide +kernel
theorem dz_M_lay_39 : decode zm_M_lay.2.1 39 = .ok (.i2l, 1) := by decide +kernel
theorem dz_M_lay_40 : decode zm_M_lay.2.1 40 = .ok (.invokestatic 65, 3) := by decide +kernel
theorem dz_M_lay_43 : decode zm_M_lay.2.1 43 = .ok (.ifCond .ne 6, 3) := by decide +kernel
theorem dz_M_lay_46 : decode zm_M_lay.2.1 46 = .ok (.bipush (-12), 2) := by decide +kernel
theorem dz_M_lay_48 : decode zm_M_lay.2.1 48 = .ok (.ireturn, 1) := by decide +kernel
theorem dz_M_lay_49 : decode zm_M_lay.2.1 49 = .ok (.aload_n 0, 1) := by decide +kernel
theorem dz_M_lay_50 : decode zm_M_lay.2.1 50 = .ok (.getfield 60, 3) := by decide +kernel
theorem dz_M_lay_53 : decode zm_M_lay.2.1 53 = .ok (.bipush 40, 2) := by decide +kernel
theorem dz_M_lay_55 : decode zm_M_lay.2.1 55 = .ok (.iload_n 1, 1) := by decide +kernel
theorem dz_M_lay_56 : decode zm_M_lay.2.1 56 = .ok (.imul, 1) := by decide +kernel
theorem dz_M_lay_57 : decode zm_M_lay.2.1 57 = .ok (.iload_n 2, 1) := by decide +kernel
theorem dz_M_lay_58 : decode zm_M_lay.2.1 58 = .ok (.iadd, 1) := by decide +kernel
theorem dz_M_lay_59 : decode zm_M_lay.2.1 59 = .ok (.aload_n 0, 1) := by decide +kernel
theorem dz_M_lay_60 : decode zm_M_lay.2.1 60 = .ok (.getfield 54, 3) := by decide +kernel
theorem dz_M_lay_63 : decode zm_M_lay.2.1 63 = .ok (.iload_n 1, 1) := by decide +kernel
theorem dz_M_lay_64 : decode zm_M_lay.2.1 64 = .ok (.iaload, 1) := by decide +kernel
theorem dz_M_lay_65 : decode zm_M_lay.2.1 65 = .ok (.ifCond .ne 13, 3) := by decide +kernel
theorem dz_M_lay_68 : decode zm_M_lay.2.1 68 = .ok (.iload_n 3, 1) := by decide +kernel
theorem dz_M_lay_69 : decode zm_M_lay.2.1 69 = .ok (.bipush 24, 2) := by decide +kernel
theorem dz_M_lay_71 : decode zm_M_lay.2.1 71 = .ok (.ishl, 1) := by decide +kernel
theorem dz_M_lay_72 : decode zm_M_lay.2.1 72 = .ok (.bipush 24, 2) := by decide +kernel
theorem dz_M_lay_74 : decode zm_M_lay.2.1 74 = .ok (.ishr, 1) := by decide +kernel
theorem dz_M_lay_75 : decode zm_M_lay.2.1 75 = .ok (.goto 24, 3) := by decide +kernel
theorem dz_M_lay_78 : decode zm_M_lay.2.1 78 = .ok (.aload_n 0, 1) := by decide +kernel
theorem dz_M_lay_79 : decode zm_M_lay.2.1 79 = .ok (.getfield 54, 3) := by decide +kernel
theorem dz_M_lay_82 : decode zm_M_lay.2.1 82 = .ok (.iload_n 1, 1) := by decide +kernel
theorem dz_M_lay_83 : decode zm_M_lay.2.1 83 = .ok (.iaload, 1) := by decide +kernel
theorem dz_M_lay_84 : decode zm_M_lay.2.1 84 = .ok (.iconst 1, 1) := by decide +kernel
theorem dz_M_lay_85 : decode zm_M_lay.2.1 85 = .ok (.if_icmp .ne 13, 3) := by decide +kernel
theorem dz_M_lay_88 : decode zm_M_lay.2.1 88 = .ok (.iload_n 3, 1) := by decide +kernel
theorem dz_M_lay_89 : decode zm_M_lay.2.1 89 = .ok (.bipush 16, 2) := by decide +kernel
theorem dz_M_lay_91 : decode zm_M_lay.2.1 91 = .ok (.ishl, 1) := by decide +kernel
theorem dz_M_lay_92 : decode zm_M_lay.2.1 92 = .ok (.bipush 16, 2) := by decide +kernel
theorem dz_M_lay_94 : decode zm_M_lay.2.1 94 = .ok (.ishr, 1) := by decide +kernel
theorem dz_M_lay_95 : decode zm_M_lay.2.1 95 = .ok (.goto 4, 3) := by decide +kernel
theorem dz_M_lay_98 : decode zm_M_lay.2.1 98 = .ok (.iload_n 3, 1) := by decide +kernel
theorem dz_M_lay_99 : decode zm_M_lay.2.1 99 = .ok (.iastore, 1) := by decide +kernel
theorem dz_M_lay_100 : decode zm_M_lay.2.1 100 = .ok (.iconst 1, 1) := by decide +kernel
theorem dz_M_lay_101 : decode zm_M_lay.2.1 101 = .ok (.ireturn, 1) := by decide +kernel
theorem dz_M_read_0 : decode zm_M_read.2.1 0 = .ok (.iload_n 1, 1) := by decide +kernel
theorem dz_M_read_1 : decode zm_M_read.2.1 1 = .ok (.i2l, 1) := by decide +kernel
theorem dz_M_read_2 : decode zm_M_read.2.1 2 = .ok (.lconst 0, 1) := by decide +kernel
theorem dz_M_read_3 : decode zm_M_read.2.1 3 = .ok (.ldc2_w 167, 3) := by decide +kernel
theorem dz_M_read_6 : decode zm_M_read.2.1 6 = .ok (.invokestatic 65, 3) := by decide +kernel
theorem dz_M_read_9 : decode zm_M_read.2.1 9 = .ok (.ifCond .eq 28, 3) := by decide +kernel
theorem dz_M_read_12 : decode zm_M_read.2.1 12 = .ok (.iload_n 2, 1) := by decide +kernel
theorem dz_M_read_13 : decode zm_M_read.2.1 13 = .ok (.i2l, 1) := by decide +kernel
theorem dz_M_read_14 : decode zm_M_read.2.1 14 = .ok (.lconst 0, 1) := by decide +kernel
theorem dz_M_read_15 : decode zm_M_read.2.1 15 = .ok (.ldc2_w 241, 3) := by decide +kernel
theorem dz_M_read_18 : decode zm_M_read.2.1 18 = .ok (.invokestatic 65, 3) := by decide +kernel
theorem dz_M_read_21 : decode zm_M_read.2.1 21 = .ok (.ifCond .eq 16, 3) := by decide +kernel
theorem dz_M_read_24 : decode zm_M_read.2.1 24 = .ok (.iload 4, 2) := by decide +kernel
theorem dz_M_read_26 : decode zm_M_read.2.1 26 = .ok (.i2l, 1) := by decide +kernel
theorem dz_M_read_27 : decode zm_M_read.2.1 27 = .ok (.lconst 0, 1) := by decide +kernel
theorem dz_M_read_28 : decode zm_M_read.2.1 28 = .ok (.ldc2_w 292, 3) := by decide +kernel
theorem dz_M_read_31 : decode zm_M_read.2.1 31 = .ok (.invokestatic 65, 3) := by decide +kernel
theorem dz_M_read_34 : decode zm_M_read.2.1 34 = .ok (.ifCond .ne 5, 3) := by decide +kernel
theorem dz_M_read_37 : decode zm_M_read.2.1 37 = .ok (.iconst (-1), 1) := by decide +kernel
theorem dz_M_read_38 : decode zm_M_read.2.1 38 = .ok (.ireturn, 1) := by decide +kernel
theorem dz_M_read_39 : decode zm_M_read.2.1 39 = .ok (.aload_n 0, 1) := by decide +kernel
theorem dz_M_read_40 : decode zm_M_read.2.1 40 = .ok (.iconst 0, 1) := by decide +kernel
theorem dz_M_read_41 : decode zm_M_read.2.1 41 = .ok (.bipush 84, 2) := by decide +kernel
theorem dz_M_read_43 : decode zm_M_read.2.1 43 = .ok (.invokevirtual 246, 3) := by decide +kernel
theorem dz_M_read_46 : decode zm_M_read.2.1 46 = .ok (.iconst 0, 1) := by decide +kernel
theorem dz_M_read_47 : decode zm_M_read.2.1 47 = .ok (.istore 5, 2) := by decide +kernel
theorem dz_M_read_49 : decode zm_M_read.2.1 49 = .ok (.iconst 0, 1) := by decide +kernel
theorem dz_M_read_50 : decode zm_M_read.2.1 50 = .ok (.istore 6, 2) := by decide +kernel
theorem dz_M_read_52 : decode zm_M_read.2.1 52 = .ok (.iload 6, 2) := by decide +kernel
theorem dz_M_read_54 : decode zm_M_read.2.1 54 = .ok (.iload 4, 2) := by decide +kernel
theorem dz_M_read_56 : decode zm_M_read.2.1 56 = .ok (.if_icmp .ge 111, 3) := by decide +kernel
theorem dz_M_read_59 : decode zm_M_read.2.1 59 = .ok (.iload 5, 2) := by decide +kernel
theorem dz_M_read_61 : decode zm_M_read.2.1 61 = .ok (.ifCond .ne 106, 3) := by decide +kernel
theorem dz_M_read_64 : decode zm_M_read.2.1 64 = .ok (.aload_n 0, 1) := by decide +kernel
theorem dz_M_read_65 : decode zm_M_read.2.1 65 = .ok (.getfield 54, 3) := by decide +kernel
theorem dz_M_read_68 : decode zm_M_read.2.1 68 = .ok (.iload_n 1, 1) := by decide +kernel
theorem dz_M_read_69 : decode zm_M_read.2.1 69 = .ok (.iaload, 1) := by decide +kernel
theorem dz_M_read_70 : decode zm_M_read.2.1 70 = .ok (.bipush (-4), 2) := by decide +kernel
theorem dz_M_read_72 : decode zm_M_read.2.1 72 = .ok (.if_icmp .ne 7, 3) := by decide +kernel
theorem dz_M_read_75 : decode zm_M_read.2.1 75 = .ok (.iconst 1, 1) := by decide +kernel
theorem dz_M_read_76 : decode zm_M_read.2.1 76 = .ok (.goto 44, 3) := by decide +kernel
theorem dz_M_read_79 : decode zm_M_read.2.1 79 = .ok (.aload_n 0, 1) := by decide +kernel
theorem dz_M_read_80 : decode zm_M_read.2.1 80 = .ok (.getfield 54, 3) := by decide +kernel
theorem dz_M_read_83 : decode zm_M_read.2.1 83 = .ok (.iload_n 1, 1) := by decide +kernel
theorem dz_M_read_84 : decode zm_M_read.2.1 84 = .ok (.iaload, 1) := by decide +kernel
theorem dz_M_read_85 : decode zm_M_read.2.1 85 = .ok (.iload_n 2, 1) := by decide +kernel
theorem dz_M_read_86 : decode zm_M_read.2.1 86 = .ok (.if_icmp .eq 7, 3) := by decide +kernel
theorem dz_M_read_89 : decode zm_M_read.2.1 89 = .ok (.iconst 3, 1) := by decide +kernel
theorem dz_M_read_90 : decode zm_M_read.2.1 90 = .ok (.goto 30, 3) := by decide +kernel
theorem dz_M_read_93 : decode zm_M_read.2.1 93 = .ok (.iload_n 3, 1) := by decide +kernel
theorem dz_M_read_94 : decode zm_M_read.2.1 94 = .ok (.i2l, 1) := by decide +kernel
theorem dz_M_read_95 : decode zm_M_read.2.1 95 = .ok (.iload 6, 2) := by decide +kernel
theorem dz_M_read_97 : decode zm_M_read.2.1 97 = .ok (.i2l, 1) := by decide +kernel
theorem dz_M_read_98 : decode zm_M_read.2.1 98 = .ok (.ladd, 1) := by decide +kernel
theorem dz_M_read_99 : decode zm_M_read.2.1 99 = .ok (.lconst 0, 1) := by decide +kernel
theorem dz_M_read_100 : decode zm_M_read.2.1 100 = .ok (.aload_n 0, 1) := by decide +kernel
theorem dz_M_read_101 : decode zm_M_read.2.1 101 = .ok (.getfield 57, 3) := by decide +kernel
theorem dz_M_read_104 : decode zm_M_read.2.1 104 = .ok (.iload_n 1, 1) := by decide +kernel
theorem dz_M_read_105 : decode zm_M_read.2.1 105 = .ok (.iaload, 1) := by decide +kernel
theorem dz_M_read_106 : decode zm_M_read.2.1 106 = .ok (.iconst 1, 1) := by decide +kernel
theorem dz_M_read_107 : decode zm_M_read.2.1 107 = .ok (.isub, 1) := by decide +kernel
theorem dz_M_read_108 : decode zm_M_read.2.1 108 = .ok (.i2l, 1) := by decide +kernel
theorem dz_M_read_109 : decode zm_M_read.2.1 109 = .ok (.invokestatic 65, 3) := by decide +kernel
theorem dz_M_read_112 : decode zm_M_read.2.1 112 = .ok (.ifCond .ne 7, 3) := by decide +kernel
theorem dz_M_read_115 : decode zm_M_read.2.1 115 = .ok (.iconst 2, 1) := by decide +kernel
theorem dz_M_read_116 : decode zm_M_read.2.1 116 = .ok (.goto 4, 3) := by decide +kernel
theorem dz_M_read_119 : decode zm_M_read.2.1 119 = .ok (.iconst 0, 1) := by decide +kernel
theorem dz_M_read_120 : decode zm_M_read.2.1 120 = .ok (.istore 5, 2) := by decide +kernel
theorem dz_M_read_122 : decode zm_M_read.2.1 122 = .ok (.iload 5, 2) := by decide +kernel
theorem dz_M_read_124 : decode zm_M_read.2.1 124 = .ok (.ifCond .ne (-72), 3) := by decide +kernel
theorem dz_M_read_127 : decode zm_M_read.2.1 127 = .ok (.aload_n 0, 1) := by decide +kernel
theorem dz_M_read_128 : decode zm_M_read.2.1 128 = .ok (.aload_n 0, 1) := by decide +kernel
theorem dz_M_read_129 : decode zm_M_read.2.1 129 = .ok (.getfield 60, 3) := by decide +kernel
theorem dz_M_read_132 : decode zm_M_read.2.1 132 = .ok (.bipush 40, 2) := by decide +kernel
theorem dz_M_read_134 : decode zm_M_read.2.1 134 = .ok (.iload_n 1, 1) := by decide +kernel
theorem dz_M_read_135 : decode zm_M_read.2.1 135 = .ok (.imul, 1) := by decide +kernel
theorem dz_M_read_136 : decode zm_M_read.2.1 136 = .ok (.iload_n 3, 1) := by decide +kernel
theorem dz_M_read_137 : decode zm_M_read.2.1 137 = .ok (.iadd, 1) := by decide +kernel
theorem dz_M_read_138 : decode zm_M_read.2.1 138 = .ok (.iload 6, 2) := by decide +kernel
theorem dz_M_read_140 : decode zm_M_read.2.1 140 = .ok (.iadd, 1) := by decide +kernel
theorem dz_M_read_141 : decode zm_M_read.2.1 141 = .ok (.iaload, 1) := by decide +kernel
theorem dz_M_read_142 : decode zm_M_read.2.1 142 = .ok (.invokevirtual 232, 3) := by decide +kernel
theorem dz_M_read_145 : decode zm_M_read.2.1 145 = .ok (.ifCond .ge 16, 3) := by decide +kernel
theorem dz_M_read_148 : decode zm_M_read.2.1 148 = .ok (.aload_n 0, 1) := by decide +kernel
theorem dz_M_read_149 : decode zm_M_read.2.1 149 = .ok (.bipush 84, 2) := by decide +kernel
theorem dz_M_read_151 : decode zm_M_read.2.1 151 = .ok (.iconst 0, 1) := by decide +kernel
theorem dz_M_read_152 : decode zm_M_read.2.1 152 = .ok (.invokevirtual 246, 3) := by decide +kernel
theorem dz_M_read_155 : decode zm_M_read.2.1 155 = .ok (.bipush (-20), 2) := by decide +kernel
theorem dz_M_read_157 : decode zm_M_read.2.1 157 = .ok (.iload 6, 2) := by decide +kernel
theorem dz_M_read_159 : decode zm_M_read.2.1 159 = .ok (.isub, 1) := by decide +kernel
theorem dz_M_read_160 : decode zm_M_read.2.1 160 = .ok (.ireturn, 1) := by decide +kernel
theorem dz_M_read_161 : decode zm_M_read.2.1 161 = .ok (.iinc 6 1, 3) := by decide +kernel
theorem dz_M_read_164 : decode zm_M_read.2.1 164 = .ok (.goto (-112), 3) := by decide +kernel
theorem dz_M_read_167 : decode zm_M_read.2.1 167 = .ok (.aload_n 0, 1) := by decide +kernel
theorem dz_M_read_168 : decode zm_M_read.2.1 168 = .ok (.iload 5, 2) := by decide +kernel
theorem dz_M_read_170 : decode zm_M_read.2.1 170 = .ok (.putfield 294, 3) := by decide +kernel
theorem dz_M_read_173 : decode zm_M_read.2.1 173 = .ok (.iload 6, 2) := by decide +kernel
theorem dz_M_read_175 : decode zm_M_read.2.1 175 = .ok (.ireturn, 1) := by decide +kernel
theorem dz_M_torn_0 : decode zm_M_torn.2.1 0 = .ok (.aload_n 0, 1) := by decide +kernel
theorem dz_M_torn_1 : decode zm_M_torn.2.1 1 = .ok (.getfield 294, 3) := by decide +kernel
theorem dz_M_torn_4 : decode zm_M_torn.2.1 4 = .ok (.ireturn, 1) := by decide +kernel
theorem dz_M_count_0 : decode zm_M_count.2.1 0 = .ok (.iconst 0, 1) := by decide +kernel
theorem dz_M_count_1 : decode zm_M_count.2.1 1 = .ok (.istore_n 2, 1) := by decide +kernel
theorem dz_M_count_2 : decode zm_M_count.2.1 2 = .ok (.iconst 0, 1) := by decide +kernel
theorem dz_M_count_3 : decode zm_M_count.2.1 3 = .ok (.istore_n 3, 1) := by decide +kernel
theorem dz_M_count_4 : decode zm_M_count.2.1 4 = .ok (.iconst 0, 1) := by decide +kernel
theorem dz_M_count_5 : decode zm_M_count.2.1 5 = .ok (.istore 4, 2) := by decide +kernel
theorem dz_M_count_7 : decode zm_M_count.2.1 7 = .ok (.iconst 0, 1) := by decide +kernel
theorem dz_M_count_8 : decode zm_M_count.2.1 8 = .ok (.istore 5, 2) := by decide +kernel
theorem dz_M_count_10 : decode zm_M_count.2.1 10 = .ok (.iload 5, 2) := by decide +kernel
theorem dz_M_count_12 : decode zm_M_count.2.1 12 = .ok (.iconst 4, 1) := by decide +kernel
theorem dz_M_count_13 : decode zm_M_count.2.1 13 = .ok (.if_icmp .ge 35, 3) := by decide +kernel
theorem dz_M_count_16 : decode zm_M_count.2.1 16 = .ok (.iload_n 2, 1) := by decide +kernel
theorem dz_M_count_17 : decode zm_M_count.2.1 17 = .ok (.aload_n 0, 1) := by decide +kernel
theorem dz_M_count_18 : decode zm_M_count.2.1 18 = .ok (.iload 5, 2) := by decide +kernel
theorem dz_M_count_20 : decode zm_M_count.2.1 20 = .ok (.aload_n 0, 1) := by decide +kernel
theorem dz_M_count_21 : decode zm_M_count.2.1 21 = .ok (.getfield 7, 3) := by decide +kernel
theorem dz_M_count_24 : decode zm_M_count.2.1 24 = .ok (.bipush 12, 2) := by decide +kernel
theorem dz_M_count_26 : decode zm_M_count.2.1 26 = .ok (.iaload, 1) := by decide +kernel
theorem dz_M_count_27 : decode zm_M_count.2.1 27 = .ok (.invokevirtual 220, 3) := by decide +kernel
theorem dz_M_count_30 : decode zm_M_count.2.1 30 = .ok (.bipush (-4), 2) := by decide +kernel
theorem dz_M_count_32 : decode zm_M_count.2.1 32 = .ok (.if_icmp .ne 7, 3) := by decide +kernel
theorem dz_M_count_35 : decode zm_M_count.2.1 35 = .ok (.iconst 0, 1) := by decide +kernel
theorem dz_M_count_36 : decode zm_M_count.2.1 36 = .ok (.goto 4, 3) := by decide +kernel
theorem dz_M_count_39 : decode zm_M_count.2.1 39 = .ok (.iconst 1, 1) := by decide +kernel
theorem dz_M_count_40 : decode zm_M_count.2.1 40 = .ok (.iadd, 1) := by decide +kernel
theorem dz_M_count_41 : decode zm_M_count.2.1 41 = .ok (.istore_n 2, 1) := by decide +kernel
theorem dz_M_count_42 : decode zm_M_count.2.1 42 = .ok (.iinc 5 1, 3) := by decide +kernel
theorem dz_M_count_45 : decode zm_M_count.2.1 45 = .ok (.goto (-35), 3) := by decide +kernel
theorem dz_M_count_48 : decode zm_M_count.2.1 48 = .ok (.iconst 0, 1) := by decide +kernel
theorem dz_M_count_49 : decode zm_M_count.2.1 49 = .ok (.istore 5, 2) := by decide +kernel
theorem dz_M_count_51 : decode zm_M_count.2.1 51 = .ok (.iload 5, 2) := by decide +kernel
theorem dz_M_count_53 : decode zm_M_count.2.1 53 = .ok (.aload_n 0, 1) := by decide +kernel
theorem dz_M_count_54 : decode zm_M_count.2.1 54 = .ok (.getfield 158, 3) := by decide +kernel
theorem dz_M_count_57 : decode zm_M_count.2.1 57 = .ok (.if_icmp .ge 37, 3) := by decide +kernel
theorem dz_M_count_60 : decode zm_M_count.2.1 60 = .ok (.iload_n 3, 1) := by decide +kernel
theorem dz_M_count_61 : decode zm_M_count.2.1 61 = .ok (.aload_n 0, 1) := by decide +kernel
theorem dz_M_count_62 : decode zm_M_count.2.1 62 = .ok (.getfield 7, 3) := by decide +kernel
theorem dz_M_count_65 : decode zm_M_count.2.1 65 = .ok (.iload 5, 2) := by decide +kernel
theorem dz_M_count_67 : decode zm_M_count.2.1 67 = .ok (.iaload, 1) := by decide +kernel
theorem dz_M_count_68 : decode zm_M_count.2.1 68 = .ok (.invokestatic 257, 3) := by decide +kernel
theorem dz_M_count_71 : decode zm_M_count.2.1 71 = .ok (.iadd, 1) := by decide +kernel
theorem dz_M_count_72 : decode zm_M_count.2.1 72 = .ok (.istore_n 3, 1) := by decide +kernel
theorem dz_M_count_73 : decode zm_M_count.2.1 73 = .ok (.iload 4, 2) := by decide +kernel
theorem dz_M_count_75 : decode zm_M_count.2.1 75 = .ok (.aload_n 0, 1) := by decide +kernel
theorem dz_M_count_76 : decode zm_M_count.2.1 76 = .ok (.getfield 7, 3) := by decide +kernel
theorem dz_M_count_79 : decode zm_M_count.2.1 79 = .ok (.bipush 6, 2) := by decide +kernel
theorem dz_M_count_81 : decode zm_M_count.2.1 81 = .ok (.iload 5, 2) := by decide +kernel
theorem dz_M_count_83 : decode zm_M_count.2.1 83 = .ok (.iadd, 1) := by decide +kernel
theorem dz_M_count_84 : decode zm_M_count.2.1 84 = .ok (.iaload, 1) := by decide +kernel
theorem dz_M_count_85 : decode zm_M_count.2.1 85 = .ok (.iadd, 1) := by decide +kernel
theorem dz_M_count_86 : decode zm_M_count.2.1 86 = .ok (.istore 4, 2) := by decide +kernel
theorem dz_M_count_88 : decode zm_M_count.2.1 88 = .ok (.iinc 5 1, 3) := by decide +kernel
theorem dz_M_count_91 : decode zm_M_count.2.1 91 = .ok (.goto (-40), 3) := by decide +kernel
theorem dz_M_count_94 : decode zm_M_count.2.1 94 = .ok (.iload_n 1, 1) := by decide +kernel
theorem dz_M_count_95 : decode zm_M_count.2.1 95 = .ok (.tableswitch 111 0 6 #[41, 46, 76, 81, 104, 106, 108], 41) := by decide +kernel
theorem dz_M_count_136 : decode zm_M_count.2.1 136 = .ok (.aload_n 0, 1) := by decide +kernel
theorem dz_M_count_137 : decode zm_M_count.2.1 137 = .ok (.getfield 164, 3) := by decide +kernel
theorem dz_M_count_140 : decode zm_M_count.2.1 140 = .ok (.ireturn, 1) := by decide +kernel
theorem dz_M_count_141 : decode zm_M_count.2.1 141 = .ok (.aload_n 0, 1) := by decide +kernel
theorem dz_M_count_142 : decode zm_M_count.2.1 142 = .ok (.getfield 50, 3) := by decide +kernel
theorem dz_M_count_145 : decode zm_M_count.2.1 145 = .ok (.iconst 0, 1) := by decide +kernel
theorem dz_M_count_146 : decode zm_M_count.2.1 146 = .ok (.baload, 1) := by decide +kernel
theorem dz_M_count_147 : decode zm_M_count.2.1 147 = .ok (.ifCond .eq 7, 3) := by decide +kernel
theorem dz_M_count_150 : decode zm_M_count.2.1 150 = .ok (.iconst 1, 1) := by decide +kernel
theorem dz_M_count_151 : decode zm_M_count.2.1 151 = .ok (.goto 4, 3) := by decide +kernel
theorem dz_M_count_154 : decode zm_M_count.2.1 154 = .ok (.iconst 0, 1) := by decide +kernel
theorem dz_M_count_155 : decode zm_M_count.2.1 155 = .ok (.aload_n 0, 1) := by decide +kernel
theorem dz_M_count_156 : decode zm_M_count.2.1 156 = .ok (.getfield 50, 3) := by decide +kernel
theorem dz_M_count_159 : decode zm_M_count.2.1 159 = .ok (.iconst 1, 1) := by decide +kernel
theorem dz_M_count_160 : decode zm_M_count.2.1 160 = .ok (.baload, 1) := by decide +kernel
theorem dz_M_count_161 : decode zm_M_count.2.1 161 = .ok (.ifCond .eq 7, 3) := by decide +kernel
theorem dz_M_count_164 : decode zm_M_count.2.1 164 = .ok (.iconst 1, 1) := by decide +kernel
theorem dz_M_count_165 : decode zm_M_count.2.1 165 = .ok (.goto 4, 3) := by decide +kernel
theorem dz_M_count_168 : decode zm_M_count.2.1 168 = .ok (.iconst 0, 1) := by decide +kernel
theorem dz_M_count_169 : decode zm_M_count.2.1 169 = .ok (.iadd, 1) := by decide +kernel
theorem dz_M_count_170 : decode zm_M_count.2.1 170 = .ok (.ireturn, 1) := by decide +kernel
theorem dz_M_count_171 : decode zm_M_count.2.1 171 = .ok (.aload_n 0, 1) := by decide +kernel
theorem dz_M_count_172 : decode zm_M_count.2.1 172 = .ok (.getfield 69, 3) := by decide +kernel
theorem dz_M_count_175 : decode zm_M_count.2.1 175 = .ok (.ireturn, 1) := by decide +kernel
theorem dz_M_count_176 : decode zm_M_count.2.1 176 = .ok (.aload_n 0, 1) := by decide +kernel
theorem dz_M_count_177 : decode zm_M_count.2.1 177 = .ok (.getfield 54, 3) := by decide +kernel
theorem dz_M_count_180 : decode zm_M_count.2.1 180 = .ok (.iconst 0, 1) := by decide +kernel
theorem dz_M_count_181 : decode zm_M_count.2.1 181 = .ok (.iaload, 1) := by decide +kernel
theorem dz_M_count_182 : decode zm_M_count.2.1 182 = .ok (.bipush (-4), 2) := by decide +kernel
theorem dz_M_count_184 : decode zm_M_count.2.1 184 = .ok (.if_icmp .ne 8, 3) := by decide +kernel
theorem dz_M_count_187 : decode zm_M_count.2.1 187 = .ok (.bipush (-4), 2) := by decide +kernel
theorem dz_M_count_189 : decode zm_M_count.2.1 189 = .ok (.goto 9, 3) := by decide +kernel
theorem dz_M_count_192 : decode zm_M_count.2.1 192 = .ok (.aload_n 0, 1) := by decide +kernel
theorem dz_M_count_193 : decode zm_M_count.2.1 193 = .ok (.getfield 57, 3) := by decide +kernel
theorem dz_M_count_196 : decode zm_M_count.2.1 196 = .ok (.iconst 0, 1) := by decide +kernel
theorem dz_M_count_197 : decode zm_M_count.2.1 197 = .ok (.iaload, 1) := by decide +kernel
theorem dz_M_count_198 : decode zm_M_count.2.1 198 = .ok (.ireturn, 1) := by decide +kernel
theorem dz_M_count_199 : decode zm_M_count.2.1 199 = .ok (.iload_n 2, 1) := by decide +kernel
theorem dz_M_count_200 : decode zm_M_count.2.1 200 = .ok (.ireturn, 1) := by decide +kernel
theorem dz_M_count_201 : decode zm_M_count.2.1 201 = .ok (.iload_n 3, 1) := by decide +kernel
theorem dz_M_count_202 : decode zm_M_count.2.1 202 = .ok (.ireturn, 1) := by decide +kernel
theorem dz_M_count_203 : decode zm_M_count.2.1 203 = .ok (.iload 4, 2) := by decide +kernel
theorem dz_M_count_205 : decode zm_M_count.2.1 205 = .ok (.ireturn, 1) := by decide +kernel
theorem dz_M_count_206 : decode zm_M_count.2.1 206 = .ok (.iconst (-1), 1) := by decide +kernel
theorem dz_M_count_207 : decode zm_M_count.2.1 207 = .ok (.ireturn, 1) := by decide +kernel
