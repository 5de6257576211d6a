theorem dz_S_feed_0 : decode zm_S_feed.2.1 0 = .ok (.iload_n 1, 1) := by decide +kernel
theorem dz_S_feed_1 : decode zm_S_feed.2.1 1 = .ok (.ifCond .lt 9, 3) := by decide +kernel
theorem dz_S_feed_4 : decode zm_S_feed.2.1 4 = .ok (.iload_n 1, 1) := by decide +kernel
theorem dz_S_feed_5 : decode zm_S_feed.2.1 5 = .ok (.bipush 127, 2) := by decide +kernel
theorem dz_S_feed_7 : decode zm_S_feed.2.1 7 = .ok (.if_icmp .le 5, 3) := by decide +kernel
theorem dz_S_feed_10 : decode zm_S_feed.2.1 10 = .ok (.iconst (-1), 1) := by decide +kernel
theorem dz_S_feed_11 : decode zm_S_feed.2.1 11 = .ok (.ireturn, 1) := by decide +kernel
theorem dz_S_feed_12 : decode zm_S_feed.2.1 12 = .ok (.aload_n 0, 1) := by decide +kernel
theorem dz_S_feed_13 : decode zm_S_feed.2.1 13 = .ok (.getfield 12, 3) := by decide +kernel
theorem dz_S_feed_16 : decode zm_S_feed.2.1 16 = .ok (.iload_n 1, 1) := by decide +kernel
theorem dz_S_feed_17 : decode zm_S_feed.2.1 17 = .ok (.invokevirtual 59, 3) := by decide +kernel
theorem dz_S_feed_20 : decode zm_S_feed.2.1 20 = .ok (.ifCond .eq 13, 3) := by decide +kernel
theorem dz_S_feed_23 : decode zm_S_feed.2.1 23 = .ok (.aload_n 0, 1) := by decide +kernel
theorem dz_S_feed_24 : decode zm_S_feed.2.1 24 = .ok (.getfield 12, 3) := by decide +kernel
theorem dz_S_feed_27 : decode zm_S_feed.2.1 27 = .ok (.getfield 63, 3) := by decide +kernel
theorem dz_S_feed_30 : decode zm_S_feed.2.1 30 = .ok (.goto 5, 3) := by decide +kernel
theorem dz_S_feed_33 : decode zm_S_feed.2.1 33 = .ok (.bipush (-3), 2) := by decide +kernel
theorem dz_S_feed_35 : decode zm_S_feed.2.1 35 = .ok (.ireturn, 1) := by decide +kernel
theorem dz_S_end_0 : decode zm_S_end.2.1 0 = .ok (.aload_n 0, 1) := by decide +kernel
theorem dz_S_end_1 : decode zm_S_end.2.1 1 = .ok (.getfield 12, 3) := by decide +kernel
theorem dz_S_end_4 : decode zm_S_end.2.1 4 = .ok (.getfield 63, 3) := by decide +kernel
theorem dz_S_end_7 : decode zm_S_end.2.1 7 = .ok (.istore_n 2, 1) := by decide +kernel
theorem dz_S_end_8 : decode zm_S_end.2.1 8 = .ok (.iload_n 1, 1) := by decide +kernel
theorem dz_S_end_9 : decode zm_S_end.2.1 9 = .ok (.ifCond .lt 8, 3) := by decide +kernel
theorem dz_S_end_12 : decode zm_S_end.2.1 12 = .ok (.iload_n 1, 1) := by decide +kernel
theorem dz_S_end_13 : decode zm_S_end.2.1 13 = .ok (.iload_n 2, 1) := by decide +kernel
theorem dz_S_end_14 : decode zm_S_end.2.1 14 = .ok (.if_icmp .le 5, 3) := by decide +kernel
theorem dz_S_end_17 : decode zm_S_end.2.1 17 = .ok (.iconst (-1), 1) := by decide +kernel
theorem dz_S_end_18 : decode zm_S_end.2.1 18 = .ok (.ireturn, 1) := by decide +kernel
theorem dz_S_end_19 : decode zm_S_end.2.1 19 = .ok (.aload_n 0, 1) := by decide +kernel
theorem dz_S_end_20 : decode zm_S_end.2.1 20 = .ok (.getfield 12, 3) := by decide +kernel
theorem dz_S_end_23 : decode zm_S_end.2.1 23 = .ok (.iload_n 1, 1) := by decide +kernel
theorem dz_S_end_24 : decode zm_S_end.2.1 24 = .ok (.putfield 63, 3) := by decide +kernel
theorem dz_S_end_27 : decode zm_S_end.2.1 27 = .ok (.iload_n 2, 1) := by decide +kernel
theorem dz_S_end_28 : decode zm_S_end.2.1 28 = .ok (.ireturn, 1) := by decide +kernel
theorem dz_S_text_0 : decode zm_S_text.2.1 0 = .ok (.aload_n 0, 1) := by decide +kernel
theorem dz_S_text_1 : decode zm_S_text.2.1 1 = .ok (.getfield 19, 3) := by decide +kernel
theorem dz_S_text_4 : decode zm_S_text.2.1 4 = .ok (.aload_n 0, 1) := by decide +kernel
theorem dz_S_text_5 : decode zm_S_text.2.1 5 = .ok (.getfield 12, 3) := by decide +kernel
theorem dz_S_text_8 : decode zm_S_text.2.1 8 = .ok (.aload_n 0, 1) := by decide +kernel
theorem dz_S_text_9 : decode zm_S_text.2.1 9 = .ok (.getfield 56, 3) := by decide +kernel
theorem dz_S_text_12 : decode zm_S_text.2.1 12 = .ok (.invokevirtual 67, 3) := by decide +kernel
theorem dz_S_text_15 : decode zm_S_text.2.1 15 = .ok (.istore_n 1, 1) := by decide +kernel
theorem dz_S_text_16 : decode zm_S_text.2.1 16 = .ok (.aload_n 0, 1) := by decide +kernel
theorem dz_S_text_17 : decode zm_S_text.2.1 17 = .ok (.aload_n 0, 1) := by decide +kernel
theorem dz_S_text_18 : decode zm_S_text.2.1 18 = .ok (.getfield 19, 3) := by decide +kernel
theorem dz_S_text_21 : decode zm_S_text.2.1 21 = .ok (.getfield 71, 3) := by decide +kernel
theorem dz_S_text_24 : decode zm_S_text.2.1 24 = .ok (.putfield 74, 3) := by decide +kernel
theorem dz_S_text_27 : decode zm_S_text.2.1 27 = .ok (.aload_n 0, 1) := by decide +kernel
theorem dz_S_text_28 : decode zm_S_text.2.1 28 = .ok (.getfield 12, 3) := by decide +kernel
theorem dz_S_text_31 : decode zm_S_text.2.1 31 = .ok (.iconst 0, 1) := by decide +kernel
theorem dz_S_text_32 : decode zm_S_text.2.1 32 = .ok (.putfield 63, 3) := by decide +kernel
theorem dz_S_text_35 : decode zm_S_text.2.1 35 = .ok (.aload_n 0, 1) := by decide +kernel
theorem dz_S_text_36 : decode zm_S_text.2.1 36 = .ok (.getfield 74, 3) := by decide +kernel
theorem dz_S_text_39 : decode zm_S_text.2.1 39 = .ok (.ifCond .eq 14, 3) := by decide +kernel
theorem dz_S_text_42 : decode zm_S_text.2.1 42 = .ok (.bipush (-10), 2) := by decide +kernel
theorem dz_S_text_44 : decode zm_S_text.2.1 44 = .ok (.aload_n 0, 1) := by decide +kernel
theorem dz_S_text_45 : decode zm_S_text.2.1 45 = .ok (.getfield 19, 3) := by decide +kernel
theorem dz_S_text_48 : decode zm_S_text.2.1 48 = .ok (.getfield 77, 3) := by decide +kernel
theorem dz_S_text_51 : decode zm_S_text.2.1 51 = .ok (.isub, 1) := by decide +kernel
theorem dz_S_text_52 : decode zm_S_text.2.1 52 = .ok (.ireturn, 1) := by decide +kernel
theorem dz_S_text_53 : decode zm_S_text.2.1 53 = .ok (.aload_n 0, 1) := by decide +kernel
theorem dz_S_text_54 : decode zm_S_text.2.1 54 = .ok (.getfield 56, 3) := by decide +kernel
theorem dz_S_text_57 : decode zm_S_text.2.1 57 = .ok (.astore_n 2, 1) := by decide +kernel
theorem dz_S_text_58 : decode zm_S_text.2.1 58 = .ok (.aload_n 0, 1) := by decide +kernel
theorem dz_S_text_59 : decode zm_S_text.2.1 59 = .ok (.aload_n 0, 1) := by decide +kernel
theorem dz_S_text_60 : decode zm_S_text.2.1 60 = .ok (.getfield 53, 3) := by decide +kernel
theorem dz_S_text_63 : decode zm_S_text.2.1 63 = .ok (.putfield 56, 3) := by decide +kernel
theorem dz_S_text_66 : decode zm_S_text.2.1 66 = .ok (.aload_n 0, 1) := by decide +kernel
theorem dz_S_text_67 : decode zm_S_text.2.1 67 = .ok (.aload_n 2, 1) := by decide +kernel
theorem dz_S_text_68 : decode zm_S_text.2.1 68 = .ok (.putfield 53, 3) := by decide +kernel
theorem dz_S_text_71 : decode zm_S_text.2.1 71 = .ok (.aload_n 0, 1) := by decide +kernel
theorem dz_S_text_72 : decode zm_S_text.2.1 72 = .ok (.iconst 0, 1) := by decide +kernel
theorem dz_S_text_73 : decode zm_S_text.2.1 73 = .ok (.putfield 80, 3) := by decide +kernel
theorem dz_S_text_76 : decode zm_S_text.2.1 76 = .ok (.aload_n 0, 1) := by decide +kernel
theorem dz_S_text_77 : decode zm_S_text.2.1 77 = .ok (.iconst 0, 1) := by decide +kernel
theorem dz_S_text_78 : decode zm_S_text.2.1 78 = .ok (.putfield 83, 3) := by decide +kernel
theorem dz_S_text_81 : decode zm_S_text.2.1 81 = .ok (.iload_n 1, 1) := by decide +kernel
theorem dz_S_text_82 : decode zm_S_text.2.1 82 = .ok (.ireturn, 1) := by decide +kernel
theorem dz_S_fault_0 : decode zm_S_fault.2.1 0 = .ok (.aload_n 0, 1) := by decide +kernel
theorem dz_S_fault_1 : decode zm_S_fault.2.1 1 = .ok (.getfield 74, 3) := by decide +kernel
theorem dz_S_fault_4 : decode zm_S_fault.2.1 4 = .ok (.ireturn, 1) := by decide +kernel
theorem dz_S_rule_0 : decode zm_S_rule.2.1 0 = .ok (.iload_n 1, 1) := by decide +kernel
theorem dz_S_rule_1 : decode zm_S_rule.2.1 1 = .ok (.tableswitch 51 0 2 #[27, 35, 43], 27) := by decide +kernel
theorem dz_S_rule_28 : decode zm_S_rule.2.1 28 = .ok (.aload_n 0, 1) := by decide +kernel
theorem dz_S_rule_29 : decode zm_S_rule.2.1 29 = .ok (.getfield 53, 3) := by decide +kernel
theorem dz_S_rule_32 : decode zm_S_rule.2.1 32 = .ok (.getfield 86, 3) := by decide +kernel
theorem dz_S_rule_35 : decode zm_S_rule.2.1 35 = .ok (.ireturn, 1) := by decide +kernel
theorem dz_S_rule_36 : decode zm_S_rule.2.1 36 = .ok (.aload_n 0, 1) := by decide +kernel
theorem dz_S_rule_37 : decode zm_S_rule.2.1 37 = .ok (.getfield 53, 3) := by decide +kernel
theorem dz_S_rule_40 : decode zm_S_rule.2.1 40 = .ok (.getfield 89, 3) := by decide +kernel
theorem dz_S_rule_43 : decode zm_S_rule.2.1 43 = .ok (.ireturn, 1) := by decide +kernel
theorem dz_S_rule_44 : decode zm_S_rule.2.1 44 = .ok (.aload_n 0, 1) := by decide +kernel
theorem dz_S_rule_45 : decode zm_S_rule.2.1 45 = .ok (.getfield 53, 3) := by decide +kernel
theorem dz_S_rule_48 : decode zm_S_rule.2.1 48 = .ok (.getfield 92, 3) := by decide +kernel
theorem dz_S_rule_51 : decode zm_S_rule.2.1 51 = .ok (.ireturn, 1) := by decide +kernel
theorem dz_S_rule_52 : decode zm_S_rule.2.1 52 = .ok (.iconst (-1), 1) := by decide +kernel
theorem dz_S_rule_53 : decode zm_S_rule.2.1 53 = .ok (.ireturn, 1) := by decide +kernel
theorem dz_S_one_0 : decode zm_S_one.2.1 0 = .ok (.aload_n 0, 1) := by decide +kernel
theorem dz_S_one_1 : decode zm_S_one.2.1 1 = .ok (.getfield 53, 3) := by decide +kernel
theorem dz_S_one_4 : decode zm_S_one.2.1 4 = .ok (.iload_n 1, 1) := by decide +kernel
theorem dz_S_one_5 : decode zm_S_one.2.1 5 = .ok (.invokevirtual 95, 3) := by decide +kernel
theorem dz_S_one_8 : decode zm_S_one.2.1 8 = .ok (.ifCond .ne 5, 3) := by decide +kernel
theorem dz_S_one_11 : decode zm_S_one.2.1 11 = .ok (.iconst (-1), 1) := by decide +kernel
theorem dz_S_one_12 : decode zm_S_one.2.1 12 = .ok (.ireturn, 1) := by decide +kernel
theorem dz_S_one_13 : decode zm_S_one.2.1 13 = .ok (.iload_n 2, 1) := by decide +kernel
theorem dz_S_one_14 : decode zm_S_one.2.1 14 = .ok (.tableswitch 117 0 5 #[38, 48, 58, 68, 85, 101], 38) := by decide +kernel
theorem dz_S_one_52 : decode zm_S_one.2.1 52 = .ok (.aload_n 0, 1) := by decide +kernel
theorem dz_S_one_53 : decode zm_S_one.2.1 53 = .ok (.getfield 53, 3) := by decide +kernel
theorem dz_S_one_56 : decode zm_S_one.2.1 56 = .ok (.getfield 98, 3) := by decide +kernel
theorem dz_S_one_59 : decode zm_S_one.2.1 59 = .ok (.iload_n 1, 1) := by decide +kernel
theorem dz_S_one_60 : decode zm_S_one.2.1 60 = .ok (.iaload, 1) := by decide +kernel
theorem dz_S_one_61 : decode zm_S_one.2.1 61 = .ok (.ireturn, 1) := by decide +kernel
theorem dz_S_one_62 : decode zm_S_one.2.1 62 = .ok (.aload_n 0, 1) := by decide +kernel
theorem dz_S_one_63 : decode zm_S_one.2.1 63 = .ok (.getfield 53, 3) := by decide +kernel
theorem dz_S_one_66 : decode zm_S_one.2.1 66 = .ok (.getfield 101, 3) := by decide +kernel
theorem dz_S_one_69 : decode zm_S_one.2.1 69 = .ok (.iload_n 1, 1) := by decide +kernel
theorem dz_S_one_70 : decode zm_S_one.2.1 70 = .ok (.iaload, 1) := by decide +kernel
theorem dz_S_one_71 : decode zm_S_one.2.1 71 = .ok (.ireturn, 1) := by decide +kernel
theorem dz_S_one_72 : decode zm_S_one.2.1 72 = .ok (.aload_n 0, 1) := by decide +kernel
theorem dz_S_one_73 : decode zm_S_one.2.1 73 = .ok (.getfield 53, 3) := by decide +kernel
theorem dz_S_one_76 : decode zm_S_one.2.1 76 = .ok (.getfield 104, 3) := by decide +kernel
theorem dz_S_one_79 : decode zm_S_one.2.1 79 = .ok (.iload_n 1, 1) := by decide +kernel
theorem dz_S_one_80 : decode zm_S_one.2.1 80 = .ok (.iaload, 1) := by decide +kernel
theorem dz_S_one_81 : decode zm_S_one.2.1 81 = .ok (.ireturn, 1) := by decide +kernel
theorem dz_S_one_82 : decode zm_S_one.2.1 82 = .ok (.aload_n 0, 1) := by decide +kernel
theorem dz_S_one_83 : decode zm_S_one.2.1 83 = .ok (.getfield 53, 3) := by decide +kernel
theorem dz_S_one_86 : decode zm_S_one.2.1 86 = .ok (.iload_n 1, 1) := by decide +kernel
theorem dz_S_one_87 : decode zm_S_one.2.1 87 = .ok (.invokevirtual 107, 3) := by decide +kernel
theorem dz_S_one_90 : decode zm_S_one.2.1 90 = .ok (.ifCond .eq 7, 3) := by decide +kernel
theorem dz_S_one_93 : decode zm_S_one.2.1 93 = .ok (.iconst 1, 1) := by decide +kernel
theorem dz_S_one_94 : decode zm_S_one.2.1 94 = .ok (.goto 4, 3) := by decide +kernel
theorem dz_S_one_97 : decode zm_S_one.2.1 97 = .ok (.iconst 0, 1) := by decide +kernel
theorem dz_S_one_98 : decode zm_S_one.2.1 98 = .ok (.ireturn, 1) := by decide +kernel
theorem dz_S_one_99 : decode zm_S_one.2.1 99 = .ok (.aload_n 0, 1) := by decide +kernel
theorem dz_S_one_100 : decode zm_S_one.2.1 100 = .ok (.getfield 53, 3) := by decide +kernel
theorem dz_S_one_103 : decode zm_S_one.2.1 103 = .ok (.iload_n 1, 1) := by decide +kernel
theorem dz_S_one_104 : decode zm_S_one.2.1 104 = .ok (.aload_n 0, 1) := by decide +kernel
theorem dz_S_one_105 : decode zm_S_one.2.1 105 = .ok (.getfield 53, 3) := by decide +kernel
theorem dz_S_one_108 : decode zm_S_one.2.1 108 = .ok (.getfield 92, 3) := by decide +kernel
theorem dz_S_one_111 : decode zm_S_one.2.1 111 = .ok (.invokevirtual 110, 3) := by decide +kernel
theorem dz_S_one_114 : decode zm_S_one.2.1 114 = .ok (.ireturn, 1) := by decide +kernel
theorem dz_S_one_115 : decode zm_S_one.2.1 115 = .ok (.aload_n 0, 1) := by decide +kernel
theorem dz_S_one_116 : decode zm_S_one.2.1 116 = .ok (.getfield 53, 3) := by decide +kernel
theorem dz_S_one_119 : decode zm_S_one.2.1 119 = .ok (.iload_n 1, 1) := by decide +kernel
theorem dz_S_one_120 : decode zm_S_one.2.1 120 = .ok (.aload_n 0, 1) := by decide +kernel
theorem dz_S_one_121 : decode zm_S_one.2.1 121 = .ok (.getfield 53, 3) := by decide +kernel
theorem dz_S_one_124 : decode zm_S_one.2.1 124 = .ok (.getfield 92, 3) := by decide +kernel
theorem dz_S_one_127 : decode zm_S_one.2.1 127 = .ok (.invokevirtual 114, 3) := by decide +kernel
theorem dz_S_one_130 : decode zm_S_one.2.1 130 = .ok (.ireturn, 1) := by decide +kernel
theorem dz_S_one_131 : decode zm_S_one.2.1 131 = .ok (.iconst (-1), 1) := by decide +kernel
theorem dz_S_one_132 : decode zm_S_one.2.1 132 = .ok (.ireturn, 1) := by decide +kernel
theorem dz_S_odd_0 : decode zm_S_odd.2.1 0 = .ok (.iload_n 1, 1) := by decide +kernel
theorem dz_S_odd_1 : decode zm_S_odd.2.1 1 = .ok (.invokestatic 117, 3) := by decide +kernel
theorem dz_S_odd_4 : decode zm_S_odd.2.1 4 = .ok (.ifCond .eq 15, 3) := by decide +kernel
theorem dz_S_odd_7 : decode zm_S_odd.2.1 7 = .ok (.aload_n 0, 1) := by decide +kernel
theorem dz_S_odd_8 : decode zm_S_odd.2.1 8 = .ok (.getfield 53, 3) := by decide +kernel
theorem dz_S_odd_11 : decode zm_S_odd.2.1 11 = .ok (.getfield 120, 3) := by decide +kernel
theorem dz_S_odd_14 : decode zm_S_odd.2.1 14 = .ok (.iload_n 1, 1) := by decide +kernel
theorem dz_S_odd_15 : decode zm_S_odd.2.1 15 = .ok (.iaload, 1) := by decide +kernel
theorem dz_S_odd_16 : decode zm_S_odd.2.1 16 = .ok (.goto 4, 3) := by decide +kernel
theorem dz_S_odd_19 : decode zm_S_odd.2.1 19 = .ok (.iconst (-1), 1) := by decide +kernel
theorem dz_S_odd_20 : decode zm_S_odd.2.1 20 = .ok (.ireturn, 1) := by decide +kernel
theorem dz_S_law_0 : decode zm_S_law.2.1 0 = .ok (.aload_n 0, 1) := by decide +kernel
theorem dz_S_law_1 : decode zm_S_law.2.1 1 = .ok (.getfield 53, 3) := by decide +kernel
theorem dz_S_law_4 : decode zm_S_law.2.1 4 = .ok (.iload_n 1, 1) := by decide +kernel
theorem dz_S_law_5 : decode zm_S_law.2.1 5 = .ok (.invokevirtual 123, 3) := by decide +kernel
theorem dz_S_law_8 : decode zm_S_law.2.1 8 = .ok (.ifCond .ne 5, 3) := by decide +kernel
theorem dz_S_law_11 : decode zm_S_law.2.1 11 = .ok (.iconst (-1), 1) := by decide +kernel
theorem dz_S_law_12 : decode zm_S_law.2.1 12 = .ok (.ireturn, 1) := by decide +kernel
theorem dz_S_law_13 : decode zm_S_law.2.1 13 = .ok (.iload_n 2, 1) := by decide +kernel
theorem dz_S_law_14 : decode zm_S_law.2.1 14 = .ok (.tableswitch 124 0 6 #[42, 52, 62, 72, 82, 92, 108], 42) := by decide +kernel
theorem dz_S_law_56 : decode zm_S_law.2.1 56 = .ok (.aload_n 0, 1) := by decide +kernel
theorem dz_S_law_57 : decode zm_S_law.2.1 57 = .ok (.getfield 53, 3) := by decide +kernel
theorem dz_S_law_60 : decode zm_S_law.2.1 60 = .ok (.getfield 126, 3) := by decide +kernel
theorem dz_S_law_63 : decode zm_S_law.2.1 63 = .ok (.iload_n 1, 1) := by decide +kernel
theorem dz_S_law_64 : decode zm_S_law.2.1 64 = .ok (.iaload, 1) := by decide +kernel
theorem dz_S_law_65 : decode zm_S_law.2.1 65 = .ok (.ireturn, 1) := by decide +kernel
theorem dz_S_law_66 : decode zm_S_law.2.1 66 = .ok (.aload_n 0, 1) := by decide +kernel
theorem dz_S_law_67 : decode zm_S_law.2.1 67 = .ok (.getfield 53, 3) := by decide +kernel
theorem dz_S_law_70 : decode zm_S_law.2.1 70 = .ok (.getfield 129, 3) := by decide +kernel
theorem dz_S_law_73 : decode zm_S_law.2.1 73 = .ok (.iload_n 1, 1) := by decide +kernel
theorem dz_S_law_74 : decode zm_S_law.2.1 74 = .ok (.iaload, 1) := by decide +kernel
theorem dz_S_law_75 : decode zm_S_law.2.1 75 = .ok (.ireturn, 1) := by decide +kernel
theorem dz_S_law_76 : decode zm_S_law.2.1 76 = .ok (.aload_n 0, 1) := by decide +kernel
theorem dz_S_law_77 : decode zm_S_law.2.1 77 = .ok (.getfield 53, 3) := by decide +kernel
theorem dz_S_law_80 : decode zm_S_law.2.1 80 = .ok (.getfield 132, 3) := by decide +kernel
theorem dz_S_law_83 : decode zm_S_law.2.1 83 = .ok (.iload_n 1, 1) := by decide +kernel
theorem dz_S_law_84 : decode zm_S_law.2.1 84 = .ok (.iaload, 1) := by decide +kernel
theorem dz_S_law_85 : decode zm_S_law.2.1 85 = .ok (.ireturn, 1) := by decide +kernel
theorem dz_S_law_86 : decode zm_S_law.2.1 86 = .ok (.aload_n 0, 1) := by decide +kernel
theorem dz_S_law_87 : decode zm_S_law.2.1 87 = .ok (.getfield 53, 3) := by decide +kernel
theorem dz_S_law_90 : decode zm_S_law.2.1 90 = .ok (.getfield 135, 3) := by decide +kernel
theorem dz_S_law_93 : decode zm_S_law.2.1 93 = .ok (.iload_n 1, 1) := by decide +kernel
theorem dz_S_law_94 : decode zm_S_law.2.1 94 = .ok (.iaload, 1) := by decide +kernel
theorem dz_S_law_95 : decode zm_S_law.2.1 95 = .ok (.ireturn, 1) := by decide +kernel
theorem dz_S_law_96 : decode zm_S_law.2.1 96 = .ok (.aload_n 0, 1) := by decide +kernel
theorem dz_S_law_97 : decode zm_S_law.2.1 97 = .ok (.getfield 53, 3) := by decide +kernel
theorem dz_S_law_100 : decode zm_S_law.2.1 100 = .ok (.getfield 138, 3) := by decide +kernel
theorem dz_S_law_103 : decode zm_S_law.2.1 103 = .ok (.iload_n 1, 1) := by decide +kernel
theorem dz_S_law_104 : decode zm_S_law.2.1 104 = .ok (.iaload, 1) := by decide +kernel
theorem dz_S_law_105 : decode zm_S_law.2.1 105 = .ok (.ireturn, 1) := by decide +kernel
theorem dz_S_law_106 : decode zm_S_law.2.1 106 = .ok (.aload_n 0, 1) := by decide +kernel
theorem dz_S_law_107 : decode zm_S_law.2.1 107 = .ok (.getfield 53, 3) := by decide +kernel
theorem dz_S_law_110 : decode zm_S_law.2.1 110 = .ok (.iload_n 1, 1) := by decide +kernel
theorem dz_S_law_111 : decode zm_S_law.2.1 111 = .ok (.aload_n 0, 1) := by decide +kernel
theorem dz_S_law_112 : decode zm_S_law.2.1 112 = .ok (.getfield 53, 3) := by decide +kernel
theorem dz_S_law_115 : decode zm_S_law.2.1 115 = .ok (.getfield 92, 3) := by decide +kernel
theorem dz_S_law_118 : decode zm_S_law.2.1 118 = .ok (.invokevirtual 141, 3) := by decide +kernel
theorem dz_S_law_121 : decode zm_S_law.2.1 121 = .ok (.ireturn, 1) := by decide +kernel
theorem dz_S_law_122 : decode zm_S_law.2.1 122 = .ok (.aload_n 0, 1) := by decide +kernel
theorem dz_S_law_123 : decode zm_S_law.2.1 123 = .ok (.getfield 53, 3) := by decide +kernel
theorem dz_S_law_126 : decode zm_S_law.2.1 126 = .ok (.iload_n 1, 1) := by decide +kernel
theorem dz_S_law_127 : decode zm_S_law.2.1 127 = .ok (.aload_n 0, 1) := by decide +kernel
theorem dz_S_law_128 : decode zm_S_law.2.1 128 = .ok (.getfield 53, 3) := by decide +kernel
theorem dz_S_law_131 : decode zm_S_law.2.1 131 = .ok (.getfield 92, 3) := by decide +kernel
theorem dz_S_law_134 : decode zm_S_law.2.1 134 = .ok (.invokevirtual 144, 3) := by decide +kernel
theorem dz_S_law_137 : decode zm_S_law.2.1 137 = .ok (.ireturn, 1) := by decide +kernel
theorem dz_S_law_138 : decode zm_S_law.2.1 138 = .ok (.iconst (-1), 1) := by decide +kernel
theorem dz_S_law_139 : decode zm_S_law.2.1 139 = .ok (.ireturn, 1) := by decide +kernel
theorem dz_S_owner_0 : decode zm_S_owner.2.1 0 = .ok (.iload_n 1, 1) := by decide +kernel
theorem dz_S_owner_1 : decode zm_S_owner.2.1 1 = .ok (.invokestatic 147, 3) := by decide +kernel
theorem dz_S_owner_4 : decode zm_S_owner.2.1 4 = .ok (.ifCond .eq 14, 3) := by decide +kernel
theorem dz_S_owner_7 : decode zm_S_owner.2.1 7 = .ok (.aload_n 0, 1) := by decide +kernel
theorem dz_S_owner_8 : decode zm_S_owner.2.1 8 = .ok (.getfield 53, 3) := by decide +kernel
theorem dz_S_owner_11 : decode zm_S_owner.2.1 11 = .ok (.iload_n 1, 1) := by decide +kernel
theorem dz_S_owner_12 : decode zm_S_owner.2.1 12 = .ok (.invokevirtual 150, 3) := by decide +kernel
theorem dz_S_owner_15 : decode zm_S_owner.2.1 15 = .ok (.goto 4, 3) := by decide +kernel
theorem dz_S_owner_18 : decode zm_S_owner.2.1 18 = .ok (.iconst (-1), 1) := by decide +kernel
theorem dz_S_owner_19 : decode zm_S_owner.2.1 19 = .ok (.ireturn, 1) := by decide +kernel
theorem dz_S_by_0 : decode zm_S_by.2.1 0 = .ok (.iload_n 1, 1) := by decide +kernel
theorem dz_S_by_1 : decode zm_S_by.2.1 1 = .ok (.invokestatic 147, 3) := by decide +kernel
theorem dz_S_by_4 : decode zm_S_by.2.1 4 = .ok (.ifCond .eq 23, 3) := by decide +kernel
theorem dz_S_by_7 : decode zm_S_by.2.1 7 = .ok (.aload_n 0, 1) := by decide +kernel
theorem dz_S_by_8 : decode zm_S_by.2.1 8 = .ok (.getfield 53, 3) := by decide +kernel
theorem dz_S_by_11 : decode zm_S_by.2.1 11 = .ok (.iload_n 1, 1) := by decide +kernel
theorem dz_S_by_12 : decode zm_S_by.2.1 12 = .ok (.aload_n 0, 1) := by decide +kernel
theorem dz_S_by_13 : decode zm_S_by.2.1 13 = .ok (.getfield 53, 3) := by decide +kernel
theorem dz_S_by_16 : decode zm_S_by.2.1 16 = .ok (.getfield 92, 3) := by decide +kernel
theorem dz_S_by_19 : decode zm_S_by.2.1 19 = .ok (.bipush 31, 2) := by decide +kernel
theorem dz_S_by_21 : decode zm_S_by.2.1 21 = .ok (.invokevirtual 154, 3) := by decide +kernel
theorem dz_S_by_24 : decode zm_S_by.2.1 24 = .ok (.goto 4, 3) := by decide +kernel
theorem dz_S_by_27 : decode zm_S_by.2.1 27 = .ok (.iconst (-1), 1) := by decide +kernel
theorem dz_S_by_28 : decode zm_S_by.2.1 28 = .ok (.ireturn, 1) := by decide +kernel
theorem dz_S_does_0 : decode zm_S_does.2.1 0 = .ok (.aload_n 0, 1) := by decide +kernel
theorem dz_S_does_1 : decode zm_S_does.2.1 1 = .ok (.getfield 53, 3) := by decide +kernel
theorem dz_S_does_4 : decode zm_S_does.2.1 4 = .ok (.iload_n 1, 1) := by decide +kernel
theorem dz_S_does_5 : decode zm_S_does.2.1 5 = .ok (.invokevirtual 158, 3) := by decide +kernel
theorem dz_S_does_8 : decode zm_S_does.2.1 8 = .ok (.ireturn, 1) := by decide +kernel
theorem dz_S_comes_0 : decode zm_S_comes.2.1 0 = .ok (.aload_n 0, 1) := by decide +kernel
theorem dz_S_comes_1 : decode zm_S_comes.2.1 1 = .ok (.getfield 53, 3) := by decide +kernel
theorem dz_S_comes_4 : decode zm_S_comes.2.1 4 = .ok (.iload_n 1, 1) := by decide +kernel
theorem dz_S_comes_5 : decode zm_S_comes.2.1 5 = .ok (.invokevirtual 95, 3) := by decide +kernel
theorem dz_S_comes_8 : decode zm_S_comes.2.1 8 = .ok (.ifCond .ne 5, 3) := by decide +kernel
theorem dz_S_comes_11 : decode zm_S_comes.2.1 11 = .ok (.iconst (-1), 1) := by decide +kernel
theorem dz_S_comes_12 : decode zm_S_comes.2.1 12 = .ok (.ireturn, 1) := by decide +kernel
theorem dz_S_comes_13 : decode zm_S_comes.2.1 13 = .ok (.aload_n 0, 1) := by decide +kernel
theorem dz_S_comes_14 : decode zm_S_comes.2.1 14 = .ok (.getfield 53, 3) := by decide +kernel
theorem dz_S_comes_17 : decode zm_S_comes.2.1 17 = .ok (.iload_n 1, 1) := by decide +kernel
theorem dz_S_comes_18 : decode zm_S_comes.2.1 18 = .ok (.invokevirtual 107, 3) := by decide +kernel
theorem dz_S_comes_21 : decode zm_S_comes.2.1 21 = .ok (.ifCond .eq 7, 3) := by decide +kernel
theorem dz_S_comes_24 : decode zm_S_comes.2.1 24 = .ok (.iconst 1, 1) := by decide +kernel
theorem dz_S_comes_25 : decode zm_S_comes.2.1 25 = .ok (.goto 4, 3) := by decide +kernel
theorem dz_S_comes_28 : decode zm_S_comes.2.1 28 = .ok (.iconst 0, 1) := by decide +kernel
theorem dz_S_comes_29 : decode zm_S_comes.2.1 29 = .ok (.istore_n 2, 1) := by decide +kernel
theorem dz_S_comes_30 : decode zm_S_comes.2.1 30 = .ok (.aload_n 0, 1) := by decide +kernel
theorem dz_S_comes_31 : decode zm_S_comes.2.1 31 = .ok (.getfield 53, 3) := by decide +kernel
theorem dz_S_comes_34 : decode zm_S_comes.2.1 34 = .ok (.dup, 1) := by decide +kernel
theorem dz_S_comes_35 : decode zm_S_comes.2.1 35 = .ok (.getfield 92, 3) := by decide +kernel
theorem dz_S_comes_38 : decode zm_S_comes.2.1 38 = .ok (.iconst 1, 1) := by decide +kernel
theorem dz_S_comes_39 : decode zm_S_comes.2.1 39 = .ok (.iload_n 1, 1) := by decide +kernel
theorem dz_S_comes_40 : decode zm_S_comes.2.1 40 = .ok (.ishl, 1) := by decide +kernel
theorem dz_S_comes_41 : decode zm_S_comes.2.1 41 = .ok (.iconst (-1), 1) := by decide +kernel
theorem dz_S_comes_42 : decode zm_S_comes.2.1 42 = .ok (.ixor, 1) := by decide +kernel
theorem dz_S_comes_43 : decode zm_S_comes.2.1 43 = .ok (.iand, 1) := by decide +kernel
theorem dz_S_comes_44 : decode zm_S_comes.2.1 44 = .ok (.putfield 92, 3) := by decide +kernel
theorem dz_S_comes_47 : decode zm_S_comes.2.1 47 = .ok (.iload_n 2, 1) := by decide +kernel
theorem dz_S_comes_48 : decode zm_S_comes.2.1 48 = .ok (.ireturn, 1) := by decide +kernel
theorem dz_S_tries_0 : decode zm_S_tries.2.1 0 = .ok (.aload_n 0, 1) := by decide +kernel
theorem dz_S_tries_1 : decode zm_S_tries.2.1 1 = .ok (.getfield 53, 3) := by decide +kernel
theorem dz_S_tries_4 : decode zm_S_tries.2.1 4 = .ok (.iload_n 1, 1) := by decide +kernel
theorem dz_S_tries_5 : decode zm_S_tries.2.1 5 = .ok (.invokevirtual 95, 3) := by decide +kernel
theorem dz_S_tries_8 : decode zm_S_tries.2.1 8 = .ok (.ifCond .eq 12, 3) := by decide +kernel
theorem dz_S_tries_11 : decode zm_S_tries.2.1 11 = .ok (.iload_n 2, 1) := by decide +kernel
theorem dz_S_tries_12 : decode zm_S_tries.2.1 12 = .ok (.ifCond .lt 8, 3) := by decide +kernel
theorem dz_S_tries_15 : decode zm_S_tries.2.1 15 = .ok (.iload_n 2, 1) := by decide +kernel
theorem dz_S_tries_16 : decode zm_S_tries.2.1 16 = .ok (.iconst 3, 1) := by decide +kernel
theorem dz_S_tries_17 : decode zm_S_tries.2.1 17 = .ok (.if_icmp .le 5, 3) := by decide +kernel
theorem dz_S_tries_20 : decode zm_S_tries.2.1 20 = .ok (.iconst (-1), 1) := by decide +kernel
theorem dz_S_tries_21 : decode zm_S_tries.2.1 21 = .ok (.ireturn, 1) := by decide +kernel
theorem dz_S_tries_22 : decode zm_S_tries.2.1 22 = .ok (.aload_n 0, 1) := by decide +kernel
theorem dz_S_tries_23 : decode zm_S_tries.2.1 23 = .ok (.getfield 53, 3) := by decide +kernel
theorem dz_S_tries_26 : decode zm_S_tries.2.1 26 = .ok (.getfield 104, 3) := by decide +kernel
theorem dz_S_tries_29 : decode zm_S_tries.2.1 29 = .ok (.iload_n 1, 1) := by decide +kernel
theorem dz_S_tries_30 : decode zm_S_tries.2.1 30 = .ok (.iaload, 1) := by decide +kernel
theorem dz_S_tries_31 : decode zm_S_tries.2.1 31 = .ok (.istore_n 3, 1) := by decide +kernel
theorem dz_S_tries_32 : decode zm_S_tries.2.1 32 = .ok (.aload_n 0, 1) := by decide +kernel
theorem dz_S_tries_33 : decode zm_S_tries.2.1 33 = .ok (.getfield 53, 3) := by decide +kernel
theorem dz_S_tries_36 : decode zm_S_tries.2.1 36 = .ok (.getfield 104, 3) := by decide +kernel
theorem dz_S_tries_39 : decode zm_S_tries.2.1 39 = .ok (.iload_n 1, 1) := by decide +kernel
theorem dz_S_tries_40 : decode zm_S_tries.2.1 40 = .ok (.iload_n 2, 1) := by decide +kernel
theorem dz_S_tries_41 : decode zm_S_tries.2.1 41 = .ok (.iastore, 1) := by decide +kernel
theorem dz_S_tries_42 : decode zm_S_tries.2.1 42 = .ok (.iload_n 3, 1) := by decide +kernel
theorem dz_S_tries_43 : decode zm_S_tries.2.1 43 = .ok (.ireturn, 1) := by decide +kernel
theorem dz_S_hush_0 : decode zm_S_hush.2.1 0 = .ok (.aload_n 0, 1) := by decide +kernel
theorem dz_S_hush_1 : decode zm_S_hush.2.1 1 = .ok (.getfield 53, 3) := by decide +kernel
theorem dz_S_hush_4 : decode zm_S_hush.2.1 4 = .ok (.iload_n 1, 1) := by decide +kernel
theorem dz_S_hush_5 : decode zm_S_hush.2.1 5 = .ok (.invokevirtual 95, 3) := by decide +kernel
theorem dz_S_hush_8 : decode zm_S_hush.2.1 8 = .ok (.ifCond .eq 10, 3) := by decide +kernel
theorem dz_S_hush_11 : decode zm_S_hush.2.1 11 = .ok (.iload_n 2, 1) := by decide +kernel
theorem dz_S_hush_12 : decode zm_S_hush.2.1 12 = .ok (.invokestatic 117, 3) := by decide +kernel
theorem dz_S_hush_15 : decode zm_S_hush.2.1 15 = .ok (.ifCond .ne 5, 3) := by decide +kernel
theorem dz_S_hush_18 : decode zm_S_hush.2.1 18 = .ok (.iconst (-1), 1) := by decide +kernel
theorem dz_S_hush_19 : decode zm_S_hush.2.1 19 = .ok (.ireturn, 1) := by decide +kernel
theorem dz_S_hush_20 : decode zm_S_hush.2.1 20 = .ok (.aload_n 0, 1) := by decide +kernel
theorem dz_S_hush_21 : decode zm_S_hush.2.1 21 = .ok (.getfield 53, 3) := by decide +kernel
theorem dz_S_hush_24 : decode zm_S_hush.2.1 24 = .ok (.iload_n 1, 1) := by decide +kernel
theorem dz_S_hush_25 : decode zm_S_hush.2.1 25 = .ok (.iload_n 2, 1) := by decide +kernel
theorem dz_S_hush_26 : decode zm_S_hush.2.1 26 = .ok (.invokevirtual 161, 3) := by decide +kernel
theorem dz_S_hush_29 : decode zm_S_hush.2.1 29 = .ok (.ifCond .eq 7, 3) := by decide +kernel
theorem dz_S_hush_32 : decode zm_S_hush.2.1 32 = .ok (.iconst 1, 1) := by decide +kernel
theorem dz_S_hush_33 : decode zm_S_hush.2.1 33 = .ok (.goto 4, 3) := by decide +kernel
theorem dz_S_hush_36 : decode zm_S_hush.2.1 36 = .ok (.iconst 0, 1) := by decide +kernel
theorem dz_S_hush_37 : decode zm_S_hush.2.1 37 = .ok (.istore_n 3, 1) := by decide +kernel
theorem dz_S_hush_38 : decode zm_S_hush.2.1 38 = .ok (.aload_n 0, 1) := by decide +kernel
theorem dz_S_hush_39 : decode zm_S_hush.2.1 39 = .ok (.getfield 53, 3) := by decide +kernel
theorem dz_S_hush_42 : decode zm_S_hush.2.1 42 = .ok (.getfield 101, 3) := by decide +kernel
theorem dz_S_hush_45 : decode zm_S_hush.2.1 45 = .ok (.iload_n 1, 1) := by decide +kernel
theorem dz_S_hush_46 : decode zm_S_hush.2.1 46 = .ok (.dup2, 1) := by decide +kernel
theorem dz_S_hush_47 : decode zm_S_hush.2.1 47 = .ok (.iaload, 1) := by decide +kernel
theorem dz_S_hush_48 : decode zm_S_hush.2.1 48 = .ok (.iconst 1, 1) := by decide +kernel
theorem dz_S_hush_49 : decode zm_S_hush.2.1 49 = .ok (.iload_n 2, 1) := by decide +kernel
theorem dz_S_hush_50 : decode zm_S_hush.2.1 50 = .ok (.ishl, 1) := by decide +kernel
theorem dz_S_hush_51 : decode zm_S_hush.2.1 51 = .ok (.iconst (-1), 1) := by decide +kernel
theorem dz_S_hush_52 : decode zm_S_hush.2.1 52 = .ok (.ixor, 1) := by decide +kernel
theorem dz_S_hush_53 : decode zm_S_hush.2.1 53 = .ok (.iand, 1) := by decide +kernel
theorem dz_S_hush_54 : decode zm_S_hush.2.1 54 = .ok (.iastore, 1) := by decide +kernel
theorem dz_S_hush_55 : decode zm_S_hush.2.1 55 = .ok (.iload_n 3, 1) := by decide +kernel
theorem dz_S_hush_56 : decode zm_S_hush.2.1 56 = .ok (.ireturn, 1) := by decide +kernel
theorem dz_S_weigh_0 : decode zm_S_weigh.2.1 0 = .ok (.iload_n 1, 1) := by decide +kernel
theorem dz_S_weigh_1 : decode zm_S_weigh.2.1 1 = .ok (.invokestatic 117, 3) := by decide +kernel
theorem dz_S_weigh_4 : decode zm_S_weigh.2.1 4 = .ok (.ifCond .eq 13, 3) := by decide +kernel
theorem dz_S_weigh_7 : decode zm_S_weigh.2.1 7 = .ok (.iload_n 2, 1) := by decide +kernel
theorem dz_S_weigh_8 : decode zm_S_weigh.2.1 8 = .ok (.ifCond .lt 9, 3) := by decide +kernel
theorem dz_S_weigh_11 : decode zm_S_weigh.2.1 11 = .ok (.iload_n 2, 1) := by decide +kernel
theorem dz_S_weigh_12 : decode zm_S_weigh.2.1 12 = .ok (.bipush 10, 2) := by decide +kernel
theorem dz_S_weigh_14 : decode zm_S_weigh.2.1 14 = .ok (.if_icmp .le 5, 3) := by decide +kernel
theorem dz_S_weigh_17 : decode zm_S_weigh.2.1 17 = .ok (.iconst (-1), 1) := by decide +kernel
theorem dz_S_weigh_18 : decode zm_S_weigh.2.1 18 = .ok (.ireturn, 1) := by decide +kernel
theorem dz_S_weigh_19 : decode zm_S_weigh.2.1 19 = .ok (.aload_n 0, 1) := by decide +kernel
theorem dz_S_weigh_20 : decode zm_S_weigh.2.1 20 = .ok (.getfield 53, 3) := by decide +kernel
theorem dz_S_weigh_23 : decode zm_S_weigh.2.1 23 = .ok (.getfield 120, 3) := by decide +kernel
theorem dz_S_weigh_26 : decode zm_S_weigh.2.1 26 = .ok (.iload_n 1, 1) := by decide +kernel
theorem dz_S_weigh_27 : decode zm_S_weigh.2.1 27 = .ok (.iaload, 1) := by decide +kernel
theorem dz_S_weigh_28 : decode zm_S_weigh.2.1 28 = .ok (.istore_n 3, 1) := by decide +kernel
theorem dz_S_weigh_29 : decode zm_S_weigh.2.1 29 = .ok (.aload_n 0, 1) := by decide +kernel
theorem dz_S_weigh_30 : decode zm_S_weigh.2.1 30 = .ok (.getfield 53, 3) := by decide +kernel
theorem dz_S_weigh_33 : decode zm_S_weigh.2.1 33 = .ok (.getfield 120, 3) := by decide +kernel
theorem dz_S_weigh_36 : decode zm_S_weigh.2.1 36 = .ok (.iload_n 1, 1) := by decide +kernel
theorem dz_S_weigh_37 : decode zm_S_weigh.2.1 37 = .ok (.iload_n 2, 1) := by decide +kernel
theorem dz_S_weigh_38 : decode zm_S_weigh.2.1 38 = .ok (.iastore, 1) := by decide +kernel
theorem dz_S_weigh_39 : decode zm_S_weigh.2.1 39 = .ok (.iload_n 3, 1) := by decide +kernel
theorem dz_S_weigh_40 : decode zm_S_weigh.2.1 40 = .ok (.ireturn, 1) := by decide +kernel
theorem dz_S_rank_0 : decode zm_S_rank.2.1 0 = .ok (.aload_n 0, 1) := by decide +kernel
theorem dz_S_rank_1 : decode zm_S_rank.2.1 1 = .ok (.getfield 53, 3) := by decide +kernel
theorem dz_S_rank_4 : decode zm_S_rank.2.1 4 = .ok (.iload_n 1, 1) := by decide +kernel
theorem dz_S_rank_5 : decode zm_S_rank.2.1 5 = .ok (.invokevirtual 123, 3) := by decide +kernel
theorem dz_S_rank_8 : decode zm_S_rank.2.1 8 = .ok (.ifCond .eq 14, 3) := by decide +kernel
theorem dz_S_rank_11 : decode zm_S_rank.2.1 11 = .ok (.iload_n 2, 1) := by decide +kernel
theorem dz_S_rank_12 : decode zm_S_rank.2.1 12 = .ok (.iconst 1, 1) := by decide +kernel
theorem dz_S_rank_13 : decode zm_S_rank.2.1 13 = .ok (.if_icmp .lt 9, 3) := by decide +kernel
theorem dz_S_rank_16 : decode zm_S_rank.2.1 16 = .ok (.iload_n 2, 1) := by decide +kernel
theorem dz_S_rank_17 : decode zm_S_rank.2.1 17 = .ok (.bipush 9, 2) := by decide +kernel
theorem dz_S_rank_19 : decode zm_S_rank.2.1 19 = .ok (.if_icmp .le 5, 3) := by decide +kernel
theorem dz_S_rank_22 : decode zm_S_rank.2.1 22 = .ok (.iconst (-1), 1) := by decide +kernel
theorem dz_S_rank_23 : decode zm_S_rank.2.1 23 = .ok (.ireturn, 1) := by decide +kernel
theorem dz_S_rank_24 : decode zm_S_rank.2.1 24 = .ok (.iconst 0, 1) := by decide +kernel
theorem dz_S_rank_25 : decode zm_S_rank.2.1 25 = .ok (.istore_n 3, 1) := by decide +kernel
theorem dz_S_rank_26 : decode zm_S_rank.2.1 26 = .ok (.iload_n 3, 1) := by decide +kernel
theorem dz_S_rank_27 : decode zm_S_rank.2.1 27 = .ok (.aload_n 0, 1) := by decide +kernel
theorem dz_S_rank_28 : decode zm_S_rank.2.1 28 = .ok (.getfield 53, 3) := by decide +kernel
theorem dz_S_rank_31 : decode zm_S_rank.2.1 31 = .ok (.getfield 89, 3) := by decide +kernel
theorem dz_S_rank_34 : decode zm_S_rank.2.1 34 = .ok (.if_icmp .ge 51, 3) := by decide +kernel
theorem dz_S_rank_37 : decode zm_S_rank.2.1 37 = .ok (.iload_n 3, 1) := by decide +kernel
theorem dz_S_rank_38 : decode zm_S_rank.2.1 38 = .ok (.iload_n 1, 1) := by decide +kernel
theorem dz_S_rank_39 : decode zm_S_rank.2.1 39 = .ok (.if_icmp .eq 40, 3) := by decide +kernel
theorem dz_S_rank_42 : decode zm_S_rank.2.1 42 = .ok (.aload_n 0, 1) := by decide +kernel
theorem dz_S_rank_43 : decode zm_S_rank.2.1 43 = .ok (.getfield 53, 3) := by decide +kernel
theorem dz_S_rank_46 : decode zm_S_rank.2.1 46 = .ok (.getfield 129, 3) := by decide +kernel
theorem dz_S_rank_49 : decode zm_S_rank.2.1 49 = .ok (.iload_n 3, 1) := by decide +kernel
theorem dz_S_rank_50 : decode zm_S_rank.2.1 50 = .ok (.iaload, 1) := by decide +kernel
theorem dz_S_rank_51 : decode zm_S_rank.2.1 51 = .ok (.aload_n 0, 1) := by decide +kernel
theorem dz_S_rank_52 : decode zm_S_rank.2.1 52 = .ok (.getfield 53, 3) := by decide +kernel
theorem dz_S_rank_55 : decode zm_S_rank.2.1 55 = .ok (.getfield 129, 3) := by decide +kernel
theorem dz_S_rank_58 : decode zm_S_rank.2.1 58 = .ok (.iload_n 1, 1) := by decide +kernel
theorem dz_S_rank_59 : decode zm_S_rank.2.1 59 = .ok (.iaload, 1) := by decide +kernel
theorem dz_S_rank_60 : decode zm_S_rank.2.1 60 = .ok (.if_icmp .ne 19, 3) := by decide +kernel
theorem dz_S_rank_63 : decode zm_S_rank.2.1 63 = .ok (.aload_n 0, 1) := by decide +kernel
theorem dz_S_rank_64 : decode zm_S_rank.2.1 64 = .ok (.getfield 53, 3) := by decide +kernel
theorem dz_S_rank_67 : decode zm_S_rank.2.1 67 = .ok (.getfield 126, 3) := by decide +kernel
theorem dz_S_rank_70 : decode zm_S_rank.2.1 70 = .ok (.iload_n 3, 1) := by decide +kernel
theorem dz_S_rank_71 : decode zm_S_rank.2.1 71 = .ok (.iaload, 1) := by decide +kernel
theorem dz_S_rank_72 : decode zm_S_rank.2.1 72 = .ok (.iload_n 2, 1) := by decide +kernel
theorem dz_S_rank_73 : decode zm_S_rank.2.1 73 = .ok (.if_icmp .ne 6, 3) := by decide +kernel
theorem dz_S_rank_76 : decode zm_S_rank.2.1 76 = .ok (.bipush (-2), 2) := by decide +kernel
theorem dz_S_rank_78 : decode zm_S_rank.2.1 78 = .ok (.ireturn, 1) := by decide +kernel
theorem dz_S_rank_79 : decode zm_S_rank.2.1 79 = .ok (.iinc 3 1, 3) := by decide +kernel
theorem dz_S_rank_82 : decode zm_S_rank.2.1 82 = .ok (.goto (-56), 3) := by decide +kernel
theorem dz_S_rank_85 : decode zm_S_rank.2.1 85 = .ok (.aload_n 0, 1) := by decide +kernel
theorem dz_S_rank_86 : decode zm_S_rank.2.1 86 = .ok (.getfield 53, 3) := by decide +kernel
theorem dz_S_rank_89 : decode zm_S_rank.2.1 89 = .ok (.getfield 126, 3) := by decide +kernel
theorem dz_S_rank_92 : decode zm_S_rank.2.1 92 = .ok (.iload_n 1, 1) := by decide +kernel
theorem dz_S_rank_93 : decode zm_S_rank.2.1 93 = .ok (.iaload, 1) := by decide +kernel
theorem dz_S_rank_94 : decode zm_S_rank.2.1 94 = .ok (.istore_n 3, 1) := by decide +kernel
theorem dz_S_rank_95 : decode zm_S_rank.2.1 95 = .ok (.aload_n 0, 1) := by decide +kernel
theorem dz_S_rank_96 : decode zm_S_rank.2.1 96 = .ok (.getfield 53, 3) := by decide +kernel
theorem dz_S_rank_99 : decode zm_S_rank.2.1 99 = .ok (.getfield 126, 3) := by decide +kernel
theorem dz_S_rank_102 : decode zm_S_rank.2.1 102 = .ok (.iload_n 1, 1) := by decide +kernel
theorem dz_S_rank_103 : decode zm_S_rank.2.1 103 = .ok (.iload_n 2, 1) := by decide +kernel
theorem dz_S_rank_104 : decode zm_S_rank.2.1 104 = .ok (.iastore, 1) := by decide +kernel
theorem dz_S_rank_105 : decode zm_S_rank.2.1 105 = .ok (.iload_n 3, 1) := by decide +kernel
theorem dz_S_rank_106 : decode zm_S_rank.2.1 106 = .ok (.ireturn, 1) := by decide +kernel
theorem dz_S_pick_0 : decode zm_S_pick.2.1 0 = .ok (.aload_n 0, 1) := by decide +kernel
theorem dz_S_pick_1 : decode zm_S_pick.2.1 1 = .ok (.getfield 53, 3) := by decide +kernel
theorem dz_S_pick_4 : decode zm_S_pick.2.1 4 = .ok (.iload_n 1, 1) := by decide +kernel
theorem dz_S_pick_5 : decode zm_S_pick.2.1 5 = .ok (.invokevirtual 123, 3) := by decide +kernel
theorem dz_S_pick_8 : decode zm_S_pick.2.1 8 = .ok (.ifCond .eq 10, 3) := by decide +kernel
theorem dz_S_pick_11 : decode zm_S_pick.2.1 11 = .ok (.iload_n 2, 1) := by decide +kernel
theorem dz_S_pick_12 : decode zm_S_pick.2.1 12 = .ok (.invokestatic 165, 3) := by decide +kernel
theorem dz_S_pick_15 : decode zm_S_pick.2.1 15 = .ok (.ifCond .ne 5, 3) := by decide +kernel
theorem dz_S_pick_18 : decode zm_S_pick.2.1 18 = .ok (.iconst (-1), 1) := by decide +kernel
theorem dz_S_pick_19 : decode zm_S_pick.2.1 19 = .ok (.ireturn, 1) := by decide +kernel
theorem dz_S_pick_20 : decode zm_S_pick.2.1 20 = .ok (.aload_n 0, 1) := by decide +kernel
theorem dz_S_pick_21 : decode zm_S_pick.2.1 21 = .ok (.getfield 53, 3) := by decide +kernel
theorem dz_S_pick_24 : decode zm_S_pick.2.1 24 = .ok (.getfield 138, 3) := by decide +kernel
theorem dz_S_pick_27 : decode zm_S_pick.2.1 27 = .ok (.iload_n 1, 1) := by decide +kernel
theorem dz_S_pick_28 : decode zm_S_pick.2.1 28 = .ok (.iaload, 1) := by decide +kernel
theorem dz_S_pick_29 : decode zm_S_pick.2.1 29 = .ok (.istore_n 3, 1) := by decide +kernel
theorem dz_S_pick_30 : decode zm_S_pick.2.1 30 = .ok (.aload_n 0, 1) := by decide +kernel
theorem dz_S_pick_31 : decode zm_S_pick.2.1 31 = .ok (.getfield 53, 3) := by decide +kernel
theorem dz_S_pick_34 : decode zm_S_pick.2.1 34 = .ok (.getfield 138, 3) := by decide +kernel
theorem dz_S_pick_37 : decode zm_S_pick.2.1 37 = .ok (.iload_n 1, 1) := by decide +kernel
theorem dz_S_pick_38 : decode zm_S_pick.2.1 38 = .ok (.iload_n 2, 1) := by decide +kernel
theorem dz_S_pick_39 : decode zm_S_pick.2.1 39 = .ok (.iastore, 1) := by decide +kernel
theorem dz_S_pick_40 : decode zm_S_pick.2.1 40 = .ok (.iload_n 3, 1) := by decide +kernel
theorem dz_S_pick_41 : decode zm_S_pick.2.1 41 = .ok (.ireturn, 1) := by decide +kernel
theorem dz_S_claim_0 : decode zm_S_claim.2.1 0 = .ok (.aload_n 0, 1) := by decide +kernel
theorem dz_S_claim_1 : decode zm_S_claim.2.1 1 = .ok (.getfield 53, 3) := by decide +kernel
theorem dz_S_claim_4 : decode zm_S_claim.2.1 4 = .ok (.iload_n 1, 1) := by decide +kernel
theorem dz_S_claim_5 : decode zm_S_claim.2.1 5 = .ok (.invokevirtual 95, 3) := by decide +kernel
theorem dz_S_claim_8 : decode zm_S_claim.2.1 8 = .ok (.ifCond .eq 19, 3) := by decide +kernel
theorem dz_S_claim_11 : decode zm_S_claim.2.1 11 = .ok (.iload_n 2, 1) := by decide +kernel
theorem dz_S_claim_12 : decode zm_S_claim.2.1 12 = .ok (.invokestatic 147, 3) := by decide +kernel
theorem dz_S_claim_15 : decode zm_S_claim.2.1 15 = .ok (.ifCond .eq 12, 3) := by decide +kernel
theorem dz_S_claim_18 : decode zm_S_claim.2.1 18 = .ok (.iload_n 3, 1) := by decide +kernel
theorem dz_S_claim_19 : decode zm_S_claim.2.1 19 = .ok (.ifCond .lt 8, 3) := by decide +kernel
theorem dz_S_claim_22 : decode zm_S_claim.2.1 22 = .ok (.iload_n 3, 1) := by decide +kernel
theorem dz_S_claim_23 : decode zm_S_claim.2.1 23 = .ok (.iconst 3, 1) := by decide +kernel
theorem dz_S_claim_24 : decode zm_S_claim.2.1 24 = .ok (.if_icmp .le 5, 3) := by decide +kernel
theorem dz_S_claim_27 : decode zm_S_claim.2.1 27 = .ok (.iconst (-1), 1) := by decide +kernel
theorem dz_S_claim_28 : decode zm_S_claim.2.1 28 = .ok (.ireturn, 1) := by decide +kernel
theorem dz_S_claim_29 : decode zm_S_claim.2.1 29 = .ok (.iload 4, 2) := by decide +kernel
theorem dz_S_claim_31 : decode zm_S_claim.2.1 31 = .ok (.bipush 10, 2) := by decide +kernel
theorem dz_S_claim_33 : decode zm_S_claim.2.1 33 = .ok (.isub, 1) := by decide +kernel
theorem dz_S_claim_34 : decode zm_S_claim.2.1 34 = .ok (.istore 5, 2) := by decide +kernel
theorem dz_S_claim_36 : decode zm_S_claim.2.1 36 = .ok (.iload 4, 2) := by decide +kernel
theorem dz_S_claim_38 : decode zm_S_claim.2.1 38 = .ok (.ifCond .eq 18, 3) := by decide +kernel
theorem dz_S_claim_41 : decode zm_S_claim.2.1 41 = .ok (.iload 4, 2) := by decide +kernel
theorem dz_S_claim_43 : decode zm_S_claim.2.1 43 = .ok (.bipush 10, 2) := by decide +kernel
theorem dz_S_claim_45 : decode zm_S_claim.2.1 45 = .ok (.if_icmp .lt 9, 3) := by decide +kernel
theorem dz_S_claim_48 : decode zm_S_claim.2.1 48 = .ok (.iload 5, 2) := by decide +kernel
theorem dz_S_claim_50 : decode zm_S_claim.2.1 50 = .ok (.iload_n 3, 1) := by decide +kernel
theorem dz_S_claim_51 : decode zm_S_claim.2.1 51 = .ok (.if_icmp .lt 5, 3) := by decide +kernel
theorem dz_S_claim_54 : decode zm_S_claim.2.1 54 = .ok (.iconst (-1), 1) := by decide +kernel
theorem dz_S_claim_55 : decode zm_S_claim.2.1 55 = .ok (.ireturn, 1) := by decide +kernel
theorem dz_S_claim_56 : decode zm_S_claim.2.1 56 = .ok (.aload_n 0, 1) := by decide +kernel
theorem dz_S_claim_57 : decode zm_S_claim.2.1 57 = .ok (.iload_n 1, 1) := by decide +kernel
theorem dz_S_claim_58 : decode zm_S_claim.2.1 58 = .ok (.iload_n 2, 1) := by decide +kernel
theorem dz_S_claim_59 : decode zm_S_claim.2.1 59 = .ok (.iload_n 3, 1) := by decide +kernel
theorem dz_S_claim_60 : decode zm_S_claim.2.1 60 = .ok (.invokevirtual 168, 3) := by decide +kernel
theorem dz_S_claim_63 : decode zm_S_claim.2.1 63 = .ok (.istore 6, 2) := by decide +kernel
theorem dz_S_claim_65 : decode zm_S_claim.2.1 65 = .ok (.iload 6, 2) := by decide +kernel
theorem dz_S_claim_67 : decode zm_S_claim.2.1 67 = .ok (.bipush (-4), 2) := by decide +kernel
theorem dz_S_claim_69 : decode zm_S_claim.2.1 69 = .ok (.if_icmp .eq 8, 3) := by decide +kernel
theorem dz_S_claim_72 : decode zm_S_claim.2.1 72 = .ok (.iload 4, 2) := by decide +kernel
theorem dz_S_claim_74 : decode zm_S_claim.2.1 74 = .ok (.ifCond .ne 6, 3) := by decide +kernel
theorem dz_S_claim_77 : decode zm_S_claim.2.1 77 = .ok (.iload 6, 2) := by decide +kernel
theorem dz_S_claim_79 : decode zm_S_claim.2.1 79 = .ok (.ireturn, 1) := by decide +kernel
theorem dz_S_claim_80 : decode zm_S_claim.2.1 80 = .ok (.iload 5, 2) := by decide +kernel
theorem dz_S_claim_82 : decode zm_S_claim.2.1 82 = .ok (.iload 6, 2) := by decide +kernel
theorem dz_S_claim_84 : decode zm_S_claim.2.1 84 = .ok (.if_icmp .ge 23, 3) := by decide +kernel
theorem dz_S_claim_87 : decode zm_S_claim.2.1 87 = .ok (.iload 5, 2) := by decide +kernel
theorem dz_S_claim_89 : decode zm_S_claim.2.1 89 = .ok (.aload_n 0, 1) := by decide +kernel
theorem dz_S_claim_90 : decode zm_S_claim.2.1 90 = .ok (.getfield 43, 3) := by decide +kernel
theorem dz_S_claim_93 : decode zm_S_claim.2.1 93 = .ok (.arraylength, 1) := by decide +kernel
theorem dz_S_claim_94 : decode zm_S_claim.2.1 94 = .ok (.if_icmp .ge 13, 3) := by decide +kernel
theorem dz_S_claim_97 : decode zm_S_claim.2.1 97 = .ok (.aload_n 0, 1) := by decide +kernel
theorem dz_S_claim_98 : decode zm_S_claim.2.1 98 = .ok (.getfield 43, 3) := by decide +kernel
theorem dz_S_claim_101 : decode zm_S_claim.2.1 101 = .ok (.iload 5, 2) := by decide +kernel
theorem dz_S_claim_103 : decode zm_S_claim.2.1 103 = .ok (.iaload, 1) := by decide +kernel
theorem dz_S_claim_104 : decode zm_S_claim.2.1 104 = .ok (.goto 5, 3) := by decide +kernel
theorem dz_S_claim_107 : decode zm_S_claim.2.1 107 = .ok (.bipush (-4), 2) := by decide +kernel
theorem dz_S_claim_109 : decode zm_S_claim.2.1 109 = .ok (.ireturn, 1) := by decide +kernel
theorem dz_S_pivot_0 : decode zm_S_pivot.2.1 0 = .ok (.iload_n 1, 1) := by decide +kernel
theorem dz_S_pivot_1 : decode zm_S_pivot.2.1 1 = .ok (.invokestatic 147, 3) := by decide +kernel
theorem dz_S_pivot_4 : decode zm_S_pivot.2.1 4 = .ok (.ifCond .ne 5, 3) := by decide +kernel
theorem dz_S_pivot_7 : decode zm_S_pivot.2.1 7 = .ok (.iconst (-1), 1) := by decide +kernel
theorem dz_S_pivot_8 : decode zm_S_pivot.2.1 8 = .ok (.ireturn, 1) := by decide +kernel
theorem dz_S_pivot_9 : decode zm_S_pivot.2.1 9 = .ok (.aload_n 0, 1) := by decide +kernel
theorem dz_S_pivot_10 : decode zm_S_pivot.2.1 10 = .ok (.getfield 53, 3) := by decide +kernel
theorem dz_S_pivot_13 : decode zm_S_pivot.2.1 13 = .ok (.iload_n 1, 1) := by decide +kernel
theorem dz_S_pivot_14 : decode zm_S_pivot.2.1 14 = .ok (.invokevirtual 150, 3) := by decide +kernel
theorem dz_S_pivot_17 : decode zm_S_pivot.2.1 17 = .ok (.istore_n 2, 1) := by decide +kernel
theorem dz_S_pivot_18 : decode zm_S_pivot.2.1 18 = .ok (.iconst 0, 1) := by decide +kernel
theorem dz_S_pivot_19 : decode zm_S_pivot.2.1 19 = .ok (.istore_n 3, 1) := by decide +kernel
theorem dz_S_pivot_20 : decode zm_S_pivot.2.1 20 = .ok (.iconst 0, 1) := by decide +kernel
theorem dz_S_pivot_21 : decode zm_S_pivot.2.1 21 = .ok (.istore 4, 2) := by decide +kernel
theorem dz_S_pivot_23 : decode zm_S_pivot.2.1 23 = .ok (.iload 4, 2) := by decide +kernel
theorem dz_S_pivot_25 : decode zm_S_pivot.2.1 25 = .ok (.aload_n 0, 1) := by decide +kernel
theorem dz_S_pivot_26 : decode zm_S_pivot.2.1 26 = .ok (.getfield 53, 3) := by decide +kernel
theorem dz_S_pivot_29 : decode zm_S_pivot.2.1 29 = .ok (.getfield 86, 3) := by decide +kernel
theorem dz_S_pivot_32 : decode zm_S_pivot.2.1 32 = .ok (.if_icmp .ge 58, 3) := by decide +kernel
theorem dz_S_pivot_35 : decode zm_S_pivot.2.1 35 = .ok (.aload_n 0, 1) := by decide +kernel
theorem dz_S_pivot_36 : decode zm_S_pivot.2.1 36 = .ok (.getfield 53, 3) := by decide +kernel
theorem dz_S_pivot_39 : decode zm_S_pivot.2.1 39 = .ok (.getfield 92, 3) := by decide +kernel
theorem dz_S_pivot_42 : decode zm_S_pivot.2.1 42 = .ok (.iconst 1, 1) := by decide +kernel
theorem dz_S_pivot_43 : decode zm_S_pivot.2.1 43 = .ok (.iload 4, 2) := by decide +kernel
theorem dz_S_pivot_45 : decode zm_S_pivot.2.1 45 = .ok (.ishl, 1) := by decide +kernel
theorem dz_S_pivot_46 : decode zm_S_pivot.2.1 46 = .ok (.ior, 1) := by decide +kernel
theorem dz_S_pivot_47 : decode zm_S_pivot.2.1 47 = .ok (.istore 5, 2) := by decide +kernel
theorem dz_S_pivot_49 : decode zm_S_pivot.2.1 49 = .ok (.aload_n 0, 1) := by decide +kernel
theorem dz_S_pivot_50 : decode zm_S_pivot.2.1 50 = .ok (.getfield 53, 3) := by decide +kernel
theorem dz_S_pivot_53 : decode zm_S_pivot.2.1 53 = .ok (.iload 4, 2) := by decide +kernel
theorem dz_S_pivot_55 : decode zm_S_pivot.2.1 55 = .ok (.invokevirtual 107, 3) := by decide +kernel
theorem dz_S_pivot_58 : decode zm_S_pivot.2.1 58 = .ok (.ifCond .ne 26, 3) := by decide +kernel
theorem dz_S_pivot_61 : decode zm_S_pivot.2.1 61 = .ok (.aload_n 0, 1) := by decide +kernel
theorem dz_S_pivot_62 : decode zm_S_pivot.2.1 62 = .ok (.getfield 53, 3) := by decide +kernel
theorem dz_S_pivot_65 : decode zm_S_pivot.2.1 65 = .ok (.iload_n 1, 1) := by decide +kernel
theorem dz_S_pivot_66 : decode zm_S_pivot.2.1 66 = .ok (.iload 5, 2) := by decide +kernel
theorem dz_S_pivot_68 : decode zm_S_pivot.2.1 68 = .ok (.bipush 31, 2) := by decide +kernel
theorem dz_S_pivot_70 : decode zm_S_pivot.2.1 70 = .ok (.invokevirtual 171, 3) := by decide +kernel
theorem dz_S_pivot_73 : decode zm_S_pivot.2.1 73 = .ok (.iload_n 2, 1) := by decide +kernel
theorem dz_S_pivot_74 : decode zm_S_pivot.2.1 74 = .ok (.if_icmp .eq 10, 3) := by decide +kernel
theorem dz_S_pivot_77 : decode zm_S_pivot.2.1 77 = .ok (.iload_n 3, 1) := by decide +kernel
theorem dz_S_pivot_78 : decode zm_S_pivot.2.1 78 = .ok (.iconst 1, 1) := by decide +kernel
theorem dz_S_pivot_79 : decode zm_S_pivot.2.1 79 = .ok (.iload 4, 2) := by decide +kernel
theorem dz_S_pivot_81 : decode zm_S_pivot.2.1 81 = .ok (.ishl, 1) := by decide +kernel
theorem dz_S_pivot_82 : decode zm_S_pivot.2.1 82 = .ok (.ior, 1) := by decide +kernel
theorem dz_S_pivot_83 : decode zm_S_pivot.2.1 83 = .ok (.istore_n 3, 1) := by decide +kernel
theorem dz_S_pivot_84 : decode zm_S_pivot.2.1 84 = .ok (.iinc 4 1, 3) := by decide +kernel
theorem dz_S_pivot_87 : decode zm_S_pivot.2.1 87 = .ok (.goto (-64), 3) := by decide +kernel
theorem dz_S_pivot_90 : decode zm_S_pivot.2.1 90 = .ok (.iload_n 3, 1) := by decide +kernel
theorem dz_S_pivot_91 : decode zm_S_pivot.2.1 91 = .ok (.ireturn, 1) := by decide +kernel
theorem dz_S_spoils_0 : decode zm_S_spoils.2.1 0 = .ok (.aload_n 0, 1) := by decide +kernel
theorem dz_S_spoils_1 : decode zm_S_spoils.2.1 1 = .ok (.getfield 53, 3) := by decide +kernel
theorem dz_S_spoils_4 : decode zm_S_spoils.2.1 4 = .ok (.iload_n 1, 1) := by decide +kernel
theorem dz_S_spoils_5 : decode zm_S_spoils.2.1 5 = .ok (.invokevirtual 95, 3) := by decide +kernel
theorem dz_S_spoils_8 : decode zm_S_spoils.2.1 8 = .ok (.ifCond .ne 5, 3) := by decide +kernel
theorem dz_S_spoils_11 : decode zm_S_spoils.2.1 11 = .ok (.iconst (-1), 1) := by decide +kernel
theorem dz_S_spoils_12 : decode zm_S_spoils.2.1 12 = .ok (.ireturn, 1) := by decide +kernel
theorem dz_S_spoils_13 : decode zm_S_spoils.2.1 13 = .ok (.aload_n 0, 1) := by decide +kernel
theorem dz_S_spoils_14 : decode zm_S_spoils.2.1 14 = .ok (.getfield 40, 3) := by decide +kernel
theorem dz_S_spoils_17 : decode zm_S_spoils.2.1 17 = .ok (.aload_n 0, 1) := by decide +kernel
theorem dz_S_spoils_18 : decode zm_S_spoils.2.1 18 = .ok (.getfield 53, 3) := by decide +kernel
theorem dz_S_spoils_21 : decode zm_S_spoils.2.1 21 = .ok (.invokevirtual 174, 3) := by decide +kernel
theorem dz_S_spoils_24 : decode zm_S_spoils.2.1 24 = .ok (.aload_n 0, 1) := by decide +kernel
theorem dz_S_spoils_25 : decode zm_S_spoils.2.1 25 = .ok (.getfield 40, 3) := by decide +kernel
theorem dz_S_spoils_28 : decode zm_S_spoils.2.1 28 = .ok (.iload_n 1, 1) := by decide +kernel
theorem dz_S_spoils_29 : decode zm_S_spoils.2.1 29 = .ok (.invokevirtual 178, 3) := by decide +kernel
theorem dz_S_spoils_32 : decode zm_S_spoils.2.1 32 = .ok (.istore_n 2, 1) := by decide +kernel
theorem dz_S_spoils_33 : decode zm_S_spoils.2.1 33 = .ok (.iconst 0, 1) := by decide +kernel
theorem dz_S_spoils_34 : decode zm_S_spoils.2.1 34 = .ok (.istore_n 3, 1) := by decide +kernel
theorem dz_S_spoils_35 : decode zm_S_spoils.2.1 35 = .ok (.iconst 0, 1) := by decide +kernel
theorem dz_S_spoils_36 : decode zm_S_spoils.2.1 36 = .ok (.istore 4, 2) := by decide +kernel
theorem dz_S_spoils_38 : decode zm_S_spoils.2.1 38 = .ok (.iload 4, 2) := by decide +kernel
theorem dz_S_spoils_40 : decode zm_S_spoils.2.1 40 = .ok (.iconst 5, 1) := by decide +kernel
theorem dz_S_spoils_41 : decode zm_S_spoils.2.1 41 = .ok (.if_icmp .gt 54, 3) := by decide +kernel
theorem dz_S_spoils_44 : decode zm_S_spoils.2.1 44 = .ok (.bipush 10, 2) := by decide +kernel
theorem dz_S_spoils_46 : decode zm_S_spoils.2.1 46 = .ok (.iload_n 1, 1) := by decide +kernel
theorem dz_S_spoils_47 : decode zm_S_spoils.2.1 47 = .ok (.imul, 1) := by decide +kernel
theorem dz_S_spoils_48 : decode zm_S_spoils.2.1 48 = .ok (.iload 4, 2) := by decide +kernel
theorem dz_S_spoils_50 : decode zm_S_spoils.2.1 50 = .ok (.iadd, 1) := by decide +kernel
theorem dz_S_spoils_51 : decode zm_S_spoils.2.1 51 = .ok (.istore 5, 2) := by decide +kernel
theorem dz_S_spoils_53 : decode zm_S_spoils.2.1 53 = .ok (.aload_n 0, 1) := by decide +kernel
theorem dz_S_spoils_54 : decode zm_S_spoils.2.1 54 = .ok (.getfield 40, 3) := by decide +kernel
theorem dz_S_spoils_57 : decode zm_S_spoils.2.1 57 = .ok (.iload 5, 2) := by decide +kernel
theorem dz_S_spoils_59 : decode zm_S_spoils.2.1 59 = .ok (.invokevirtual 158, 3) := by decide +kernel
theorem dz_S_spoils_62 : decode zm_S_spoils.2.1 62 = .ok (.ifCond .lt 27, 3) := by decide +kernel
theorem dz_S_spoils_65 : decode zm_S_spoils.2.1 65 = .ok (.iload_n 3, 1) := by decide +kernel
theorem dz_S_spoils_66 : decode zm_S_spoils.2.1 66 = .ok (.iload_n 2, 1) := by decide +kernel
theorem dz_S_spoils_67 : decode zm_S_spoils.2.1 67 = .ok (.aload_n 0, 1) := by decide +kernel
theorem dz_S_spoils_68 : decode zm_S_spoils.2.1 68 = .ok (.getfield 40, 3) := by decide +kernel
theorem dz_S_spoils_71 : decode zm_S_spoils.2.1 71 = .ok (.iload_n 1, 1) := by decide +kernel
theorem dz_S_spoils_72 : decode zm_S_spoils.2.1 72 = .ok (.invokevirtual 178, 3) := by decide +kernel
theorem dz_S_spoils_75 : decode zm_S_spoils.2.1 75 = .ok (.iconst (-1), 1) := by decide +kernel
theorem dz_S_spoils_76 : decode zm_S_spoils.2.1 76 = .ok (.ixor, 1) := by decide +kernel
theorem dz_S_spoils_77 : decode zm_S_spoils.2.1 77 = .ok (.iand, 1) := by decide +kernel
theorem dz_S_spoils_78 : decode zm_S_spoils.2.1 78 = .ok (.ior, 1) := by decide +kernel
theorem dz_S_spoils_79 : decode zm_S_spoils.2.1 79 = .ok (.istore_n 3, 1) := by decide +kernel
theorem dz_S_spoils_80 : decode zm_S_spoils.2.1 80 = .ok (.aload_n 0, 1) := by decide +kernel
theorem dz_S_spoils_81 : decode zm_S_spoils.2.1 81 = .ok (.getfield 40, 3) := by decide +kernel
theorem dz_S_spoils_84 : decode zm_S_spoils.2.1 84 = .ok (.iload 5, 2) := by decide +kernel
theorem dz_S_spoils_86 : decode zm_S_spoils.2.1 86 = .ok (.invokevirtual 181, 3) := by decide +kernel
theorem dz_S_spoils_89 : decode zm_S_spoils.2.1 89 = .ok (.iinc 4 1, 3) := by decide +kernel
theorem dz_S_spoils_92 : decode zm_S_spoils.2.1 92 = .ok (.goto (-54), 3) := by decide +kernel
theorem dz_S_spoils_95 : decode zm_S_spoils.2.1 95 = .ok (.iload_n 3, 1) := by decide +kernel
theorem dz_S_spoils_96 : decode zm_S_spoils.2.1 96 = .ok (.ireturn, 1) := by decide +kernel
theorem dz_S_dead_0 : decode zm_S_dead.2.1 0 = .ok (.aload_n 0, 1) := by decide +kernel
theorem dz_S_dead_1 : decode zm_S_dead.2.1 1 = .ok (.getfield 53, 3) := by decide +kernel
theorem dz_S_dead_4 : decode zm_S_dead.2.1 4 = .ok (.invokevirtual 185, 3) := by decide +kernel
theorem dz_S_dead_7 : decode zm_S_dead.2.1 7 = .ok (.istore_n 2, 1) := by decide +kernel
theorem dz_S_dead_8 : decode zm_S_dead.2.1 8 = .ok (.iload_n 1, 1) := by decide +kernel
theorem dz_S_dead_9 : decode zm_S_dead.2.1 9 = .ok (.tableswitch 54 0 2 #[27, 36, 41], 27) := by decide +kernel
theorem dz_S_dead_36 : decode zm_S_dead.2.1 36 = .ok (.iload_n 2, 1) := by decide +kernel
theorem dz_S_dead_37 : decode zm_S_dead.2.1 37 = .ok (.aload_n 0, 1) := by decide +kernel
theorem dz_S_dead_38 : decode zm_S_dead.2.1 38 = .ok (.invokevirtual 189, 3) := by decide +kernel
theorem dz_S_dead_41 : decode zm_S_dead.2.1 41 = .ok (.iconst (-1), 1) := by decide +kernel
theorem dz_S_dead_42 : decode zm_S_dead.2.1 42 = .ok (.ixor, 1) := by decide +kernel
theorem dz_S_dead_43 : decode zm_S_dead.2.1 43 = .ok (.iand, 1) := by decide +kernel
theorem dz_S_dead_44 : decode zm_S_dead.2.1 44 = .ok (.ireturn, 1) := by decide +kernel
theorem dz_S_dead_45 : decode zm_S_dead.2.1 45 = .ok (.aload_n 0, 1) := by decide +kernel
theorem dz_S_dead_46 : decode zm_S_dead.2.1 46 = .ok (.invokevirtual 192, 3) := by decide +kernel
theorem dz_S_dead_49 : decode zm_S_dead.2.1 49 = .ok (.ireturn, 1) := by decide +kernel
theorem dz_S_dead_50 : decode zm_S_dead.2.1 50 = .ok (.iload_n 2, 1) := by decide +kernel
theorem dz_S_dead_51 : decode zm_S_dead.2.1 51 = .ok (.aload_n 0, 1) := by decide +kernel
theorem dz_S_dead_52 : decode zm_S_dead.2.1 52 = .ok (.bipush (-4), 2) := by decide +kernel
theorem dz_S_dead_54 : decode zm_S_dead.2.1 54 = .ok (.bipush (-4), 2) := by decide +kernel
theorem dz_S_dead_56 : decode zm_S_dead.2.1 56 = .ok (.invokevirtual 195, 3) := by decide +kernel
theorem dz_S_dead_59 : decode zm_S_dead.2.1 59 = .ok (.iconst (-1), 1) := by decide +kernel
theorem dz_S_dead_60 : decode zm_S_dead.2.1 60 = .ok (.ixor, 1) := by decide +kernel
theorem dz_S_dead_61 : decode zm_S_dead.2.1 61 = .ok (.iand, 1) := by decide +kernel
theorem dz_S_dead_62 : decode zm_S_dead.2.1 62 = .ok (.ireturn, 1) := by decide +kernel
theorem dz_S_dead_63 : decode zm_S_dead.2.1 63 = .ok (.iconst (-1), 1) := by decide +kernel
theorem dz_S_dead_64 : decode zm_S_dead.2.1 64 = .ok (.ireturn, 1) := by decide +kernel
theorem dz_S_least_0 : decode zm_S_least.2.1 0 = .ok (.iload_n 1, 1) := by decide +kernel
theorem dz_S_least_1 : decode zm_S_least.2.1 1 = .ok (.ifCond .lt 8, 3) := by decide +kernel
theorem dz_S_least_4 : decode zm_S_least.2.1 4 = .ok (.iload_n 1, 1) := by decide +kernel
theorem dz_S_least_5 : decode zm_S_least.2.1 5 = .ok (.iconst 1, 1) := by decide +kernel
theorem dz_S_least_6 : decode zm_S_least.2.1 6 = .ok (.if_icmp .le 5, 3) := by decide +kernel
theorem dz_S_least_9 : decode zm_S_least.2.1 9 = .ok (.iconst (-1), 1) := by decide +kernel
theorem dz_S_least_10 : decode zm_S_least.2.1 10 = .ok (.ireturn, 1) := by decide +kernel
theorem dz_S_least_11 : decode zm_S_least.2.1 11 = .ok (.aload_n 0, 1) := by decide +kernel
theorem dz_S_least_12 : decode zm_S_least.2.1 12 = .ok (.getfield 53, 3) := by decide +kernel
theorem dz_S_least_15 : decode zm_S_least.2.1 15 = .ok (.invokevirtual 185, 3) := by decide +kernel
theorem dz_S_least_18 : decode zm_S_least.2.1 18 = .ok (.istore_n 2, 1) := by decide +kernel
theorem dz_S_least_19 : decode zm_S_least.2.1 19 = .ok (.iload_n 2, 1) := by decide +kernel
theorem dz_S_least_20 : decode zm_S_least.2.1 20 = .ok (.istore_n 3, 1) := by decide +kernel
theorem dz_S_least_21 : decode zm_S_least.2.1 21 = .ok (.iconst 0, 1) := by decide +kernel
theorem dz_S_least_22 : decode zm_S_least.2.1 22 = .ok (.istore 4, 2) := by decide +kernel
theorem dz_S_least_24 : decode zm_S_least.2.1 24 = .ok (.iload 4, 2) := by decide +kernel
theorem dz_S_least_26 : decode zm_S_least.2.1 26 = .ok (.iload_n 2, 1) := by decide +kernel
theorem dz_S_least_27 : decode zm_S_least.2.1 27 = .ok (.if_icmp .ge 33, 3) := by decide +kernel
theorem dz_S_least_30 : decode zm_S_least.2.1 30 = .ok (.iload 4, 2) := by decide +kernel
theorem dz_S_least_32 : decode zm_S_least.2.1 32 = .ok (.invokestatic 198, 3) := by decide +kernel
theorem dz_S_least_35 : decode zm_S_least.2.1 35 = .ok (.iload_n 3, 1) := by decide +kernel
theorem dz_S_least_36 : decode zm_S_least.2.1 36 = .ok (.invokestatic 198, 3) := by decide +kernel
theorem dz_S_least_39 : decode zm_S_least.2.1 39 = .ok (.if_icmp .ge 15, 3) := by decide +kernel
theorem dz_S_least_42 : decode zm_S_least.2.1 42 = .ok (.aload_n 0, 1) := by decide +kernel
theorem dz_S_least_43 : decode zm_S_least.2.1 43 = .ok (.iload 4, 2) := by decide +kernel
theorem dz_S_least_45 : decode zm_S_least.2.1 45 = .ok (.invokevirtual 203, 3) := by decide +kernel
theorem dz_S_least_48 : decode zm_S_least.2.1 48 = .ok (.ifCond .eq 6, 3) := by decide +kernel
theorem dz_S_least_51 : decode zm_S_least.2.1 51 = .ok (.iload 4, 2) := by decide +kernel
theorem dz_S_least_53 : decode zm_S_least.2.1 53 = .ok (.istore_n 3, 1) := by decide +kernel
theorem dz_S_least_54 : decode zm_S_least.2.1 54 = .ok (.iinc 4 1, 3) := by decide +kernel
theorem dz_S_least_57 : decode zm_S_least.2.1 57 = .ok (.goto (-33), 3) := by decide +kernel
theorem dz_S_least_60 : decode zm_S_least.2.1 60 = .ok (.iload_n 1, 1) := by decide +kernel
theorem dz_S_least_61 : decode zm_S_least.2.1 61 = .ok (.ifCond .ne 10, 3) := by decide +kernel
theorem dz_S_least_64 : decode zm_S_least.2.1 64 = .ok (.iload_n 3, 1) := by decide +kernel
theorem dz_S_least_65 : decode zm_S_least.2.1 65 = .ok (.invokestatic 198, 3) := by decide +kernel
theorem dz_S_least_68 : decode zm_S_least.2.1 68 = .ok (.goto 4, 3) := by decide +kernel
theorem dz_S_least_71 : decode zm_S_least.2.1 71 = .ok (.iload_n 3, 1) := by decide +kernel
theorem dz_S_least_72 : decode zm_S_least.2.1 72 = .ok (.ireturn, 1) := by decide +kernel
theorem dz_S_who_0 : decode zm_S_who.2.1 0 = .ok (.iload_n 1, 1) := by decide +kernel
theorem dz_S_who_1 : decode zm_S_who.2.1 1 = .ok (.invokestatic 147, 3) := by decide +kernel
theorem dz_S_who_4 : decode zm_S_who.2.1 4 = .ok (.ifCond .ne 5, 3) := by decide +kernel
theorem dz_S_who_7 : decode zm_S_who.2.1 7 = .ok (.iconst (-1), 1) := by decide +kernel
theorem dz_S_who_8 : decode zm_S_who.2.1 8 = .ok (.ireturn, 1) := by decide +kernel
theorem dz_S_who_9 : decode zm_S_who.2.1 9 = .ok (.iconst 0, 1) := by decide +kernel
theorem dz_S_who_10 : decode zm_S_who.2.1 10 = .ok (.istore_n 2, 1) := by decide +kernel
theorem dz_S_who_11 : decode zm_S_who.2.1 11 = .ok (.iconst 0, 1) := by decide +kernel
theorem dz_S_who_12 : decode zm_S_who.2.1 12 = .ok (.istore_n 3, 1) := by decide +kernel
theorem dz_S_who_13 : decode zm_S_who.2.1 13 = .ok (.iload_n 3, 1) := by decide +kernel
theorem dz_S_who_14 : decode zm_S_who.2.1 14 = .ok (.aload_n 0, 1) := by decide +kernel
theorem dz_S_who_15 : decode zm_S_who.2.1 15 = .ok (.getfield 53, 3) := by decide +kernel
theorem dz_S_who_18 : decode zm_S_who.2.1 18 = .ok (.invokevirtual 206, 3) := by decide +kernel
theorem dz_S_who_21 : decode zm_S_who.2.1 21 = .ok (.if_icmp .ge 36, 3) := by decide +kernel
theorem dz_S_who_24 : decode zm_S_who.2.1 24 = .ok (.aload_n 0, 1) := by decide +kernel
theorem dz_S_who_25 : decode zm_S_who.2.1 25 = .ok (.getfield 53, 3) := by decide +kernel
theorem dz_S_who_28 : decode zm_S_who.2.1 28 = .ok (.iload_n 1, 1) := by decide +kernel
theorem dz_S_who_29 : decode zm_S_who.2.1 29 = .ok (.iload_n 3, 1) := by decide +kernel
theorem dz_S_who_30 : decode zm_S_who.2.1 30 = .ok (.bipush 31, 2) := by decide +kernel
theorem dz_S_who_32 : decode zm_S_who.2.1 32 = .ok (.invokevirtual 171, 3) := by decide +kernel
theorem dz_S_who_35 : decode zm_S_who.2.1 35 = .ok (.istore 4, 2) := by decide +kernel
theorem dz_S_who_37 : decode zm_S_who.2.1 37 = .ok (.iload 4, 2) := by decide +kernel
theorem dz_S_who_39 : decode zm_S_who.2.1 39 = .ok (.bipush (-4), 2) := by decide +kernel
theorem dz_S_who_41 : decode zm_S_who.2.1 41 = .ok (.if_icmp .eq 10, 3) := by decide +kernel
theorem dz_S_who_44 : decode zm_S_who.2.1 44 = .ok (.iload_n 2, 1) := by decide +kernel
theorem dz_S_who_45 : decode zm_S_who.2.1 45 = .ok (.iconst 1, 1) := by decide +kernel
theorem dz_S_who_46 : decode zm_S_who.2.1 46 = .ok (.iload 4, 2) := by decide +kernel
theorem dz_S_who_48 : decode zm_S_who.2.1 48 = .ok (.ishl, 1) := by decide +kernel
theorem dz_S_who_49 : decode zm_S_who.2.1 49 = .ok (.ior, 1) := by decide +kernel
theorem dz_S_who_50 : decode zm_S_who.2.1 50 = .ok (.istore_n 2, 1) := by decide +kernel
theorem dz_S_who_51 : decode zm_S_who.2.1 51 = .ok (.iinc 3 1, 3) := by decide +kernel
theorem dz_S_who_54 : decode zm_S_who.2.1 54 = .ok (.goto (-41), 3) := by decide +kernel
theorem dz_S_who_57 : decode zm_S_who.2.1 57 = .ok (.iload_n 2, 1) := by decide +kernel
theorem dz_S_who_58 : decode zm_S_who.2.1 58 = .ok (.ireturn, 1) := by decide +kernel
theorem dz_S_via_0 : decode zm_S_via.2.1 0 = .ok (.aload_n 0, 1) := by decide +kernel
theorem dz_S_via_1 : decode zm_S_via.2.1 1 = .ok (.getfield 53, 3) := by decide +kernel
theorem dz_S_via_4 : decode zm_S_via.2.1 4 = .ok (.iload_n 1, 1) := by decide +kernel
theorem dz_S_via_5 : decode zm_S_via.2.1 5 = .ok (.invokevirtual 95, 3) := by decide +kernel
theorem dz_S_via_8 : decode zm_S_via.2.1 8 = .ok (.ifCond .eq 19, 3) := by decide +kernel
theorem dz_S_via_11 : decode zm_S_via.2.1 11 = .ok (.iload_n 2, 1) := by decide +kernel
theorem dz_S_via_12 : decode zm_S_via.2.1 12 = .ok (.invokestatic 147, 3) := by decide +kernel
theorem dz_S_via_15 : decode zm_S_via.2.1 15 = .ok (.ifCond .eq 12, 3) := by decide +kernel
theorem dz_S_via_18 : decode zm_S_via.2.1 18 = .ok (.aload_n 0, 1) := by decide +kernel
theorem dz_S_via_19 : decode zm_S_via.2.1 19 = .ok (.iload_n 1, 1) := by decide +kernel
theorem dz_S_via_20 : decode zm_S_via.2.1 20 = .ok (.iload_n 2, 1) := by decide +kernel
theorem dz_S_via_21 : decode zm_S_via.2.1 21 = .ok (.invokevirtual 195, 3) := by decide +kernel
theorem dz_S_via_24 : decode zm_S_via.2.1 24 = .ok (.goto 4, 3) := by decide +kernel
theorem dz_S_via_27 : decode zm_S_via.2.1 27 = .ok (.iconst (-1), 1) := by decide +kernel
theorem dz_S_via_28 : decode zm_S_via.2.1 28 = .ok (.ireturn, 1) := by decide +kernel
theorem dz_S_odds_0 : decode zm_S_odds.2.1 0 = .ok (.iload_n 1, 1) := by decide +kernel
theorem dz_S_odds_1 : decode zm_S_odds.2.1 1 = .ok (.ifCond .lt 38, 3) := by decide +kernel
theorem dz_S_odds_4 : decode zm_S_odds.2.1 4 = .ok (.iload_n 1, 1) := by decide +kernel
theorem dz_S_odds_5 : decode zm_S_odds.2.1 5 = .ok (.bipush 10, 2) := by decide +kernel
theorem dz_S_odds_7 : decode zm_S_odds.2.1 7 = .ok (.if_icmp .gt 32, 3) := by decide +kernel
theorem dz_S_odds_10 : decode zm_S_odds.2.1 10 = .ok (.aload_n 0, 1) := by decide +kernel
theorem dz_S_odds_11 : decode zm_S_odds.2.1 11 = .ok (.getfield 53, 3) := by decide +kernel
theorem dz_S_odds_14 : decode zm_S_odds.2.1 14 = .ok (.iload_n 2, 1) := by decide +kernel
theorem dz_S_odds_15 : decode zm_S_odds.2.1 15 = .ok (.invokevirtual 95, 3) := by decide +kernel
theorem dz_S_odds_18 : decode zm_S_odds.2.1 18 = .ok (.ifCond .eq 21, 3) := by decide +kernel
theorem dz_S_odds_21 : decode zm_S_odds.2.1 21 = .ok (.iload_n 3, 1) := by decide +kernel
theorem dz_S_odds_22 : decode zm_S_odds.2.1 22 = .ok (.invokestatic 147, 3) := by decide +kernel
theorem dz_S_odds_25 : decode zm_S_odds.2.1 25 = .ok (.ifCond .eq 14, 3) := by decide +kernel
theorem dz_S_odds_28 : decode zm_S_odds.2.1 28 = .ok (.iload 4, 2) := by decide +kernel
theorem dz_S_odds_30 : decode zm_S_odds.2.1 30 = .ok (.ifCond .lt 9, 3) := by decide +kernel
theorem dz_S_odds_33 : decode zm_S_odds.2.1 33 = .ok (.iload 4, 2) := by decide +kernel
theorem dz_S_odds_35 : decode zm_S_odds.2.1 35 = .ok (.iconst 1, 1) := by decide +kernel
theorem dz_S_odds_36 : decode zm_S_odds.2.1 36 = .ok (.if_icmp .le 7, 3) := by decide +kernel
theorem dz_S_odds_39 : decode zm_S_odds.2.1 39 = .ok (.ldc2_w 209, 3) := by decide +kernel
theorem dz_S_odds_42 : decode zm_S_odds.2.1 42 = .ok (.lreturn, 1) := by decide +kernel
theorem dz_S_odds_43 : decode zm_S_odds.2.1 43 = .ok (.lconst 0, 1) := by decide +kernel
theorem dz_S_odds_44 : decode zm_S_odds.2.1 44 = .ok (.lstore 5, 2) := by decide +kernel
theorem dz_S_odds_46 : decode zm_S_odds.2.1 46 = .ok (.iconst 0, 1) := by decide +kernel
theorem dz_S_odds_47 : decode zm_S_odds.2.1 47 = .ok (.istore 7, 2) := by decide +kernel
theorem dz_S_odds_49 : decode zm_S_odds.2.1 49 = .ok (.iload 7, 2) := by decide +kernel
theorem dz_S_odds_51 : decode zm_S_odds.2.1 51 = .ok (.aload_n 0, 1) := by decide +kernel
theorem dz_S_odds_52 : decode zm_S_odds.2.1 52 = .ok (.getfield 53, 3) := by decide +kernel
theorem dz_S_odds_55 : decode zm_S_odds.2.1 55 = .ok (.invokevirtual 206, 3) := by decide +kernel
theorem dz_S_odds_58 : decode zm_S_odds.2.1 58 = .ok (.if_icmp .ge 57, 3) := by decide +kernel
theorem dz_S_odds_61 : decode zm_S_odds.2.1 61 = .ok (.iload 7, 2) := by decide +kernel
theorem dz_S_odds_63 : decode zm_S_odds.2.1 63 = .ok (.aload_n 0, 1) := by decide +kernel
theorem dz_S_odds_64 : decode zm_S_odds.2.1 64 = .ok (.getfield 53, 3) := by decide +kernel
theorem dz_S_odds_67 : decode zm_S_odds.2.1 67 = .ok (.getfield 92, 3) := by decide +kernel
theorem dz_S_odds_70 : decode zm_S_odds.2.1 70 = .ok (.iand, 1) := by decide +kernel
theorem dz_S_odds_71 : decode zm_S_odds.2.1 71 = .ok (.aload_n 0, 1) := by decide +kernel
theorem dz_S_odds_72 : decode zm_S_odds.2.1 72 = .ok (.getfield 53, 3) := by decide +kernel
theorem dz_S_odds_75 : decode zm_S_odds.2.1 75 = .ok (.getfield 92, 3) := by decide +kernel
theorem dz_S_odds_78 : decode zm_S_odds.2.1 78 = .ok (.if_icmp .ne 31, 3) := by decide +kernel
theorem dz_S_odds_81 : decode zm_S_odds.2.1 81 = .ok (.aload_n 0, 1) := by decide +kernel
theorem dz_S_odds_82 : decode zm_S_odds.2.1 82 = .ok (.getfield 53, 3) := by decide +kernel
theorem dz_S_odds_85 : decode zm_S_odds.2.1 85 = .ok (.iload_n 3, 1) := by decide +kernel
theorem dz_S_odds_86 : decode zm_S_odds.2.1 86 = .ok (.iload 7, 2) := by decide +kernel
theorem dz_S_odds_88 : decode zm_S_odds.2.1 88 = .ok (.bipush 31, 2) := by decide +kernel
theorem dz_S_odds_90 : decode zm_S_odds.2.1 90 = .ok (.invokevirtual 171, 3) := by decide +kernel
theorem dz_S_odds_93 : decode zm_S_odds.2.1 93 = .ok (.iload_n 2, 1) := by decide +kernel
theorem dz_S_odds_94 : decode zm_S_odds.2.1 94 = .ok (.if_icmp .ne 15, 3) := by decide +kernel
theorem dz_S_odds_97 : decode zm_S_odds.2.1 97 = .ok (.lload 5, 2) := by decide +kernel
theorem dz_S_odds_99 : decode zm_S_odds.2.1 99 = .ok (.aload_n 0, 1) := by decide +kernel
theorem dz_S_odds_100 : decode zm_S_odds.2.1 100 = .ok (.iload 7, 2) := by decide +kernel
theorem dz_S_odds_102 : decode zm_S_odds.2.1 102 = .ok (.iload_n 1, 1) := by decide +kernel
theorem dz_S_odds_103 : decode zm_S_odds.2.1 103 = .ok (.invokevirtual 211, 3) := by decide +kernel
theorem dz_S_odds_106 : decode zm_S_odds.2.1 106 = .ok (.ladd, 1) := by decide +kernel
theorem dz_S_odds_107 : decode zm_S_odds.2.1 107 = .ok (.lstore 5, 2) := by decide +kernel
theorem dz_S_odds_109 : decode zm_S_odds.2.1 109 = .ok (.iinc 7 1, 3) := by decide +kernel
theorem dz_S_odds_112 : decode zm_S_odds.2.1 112 = .ok (.goto (-63), 3) := by decide +kernel
theorem dz_S_odds_115 : decode zm_S_odds.2.1 115 = .ok (.aload_n 0, 1) := by decide +kernel
theorem dz_S_odds_116 : decode zm_S_odds.2.1 116 = .ok (.getfield 53, 3) := by decide +kernel
theorem dz_S_odds_119 : decode zm_S_odds.2.1 119 = .ok (.getfield 86, 3) := by decide +kernel
theorem dz_S_odds_122 : decode zm_S_odds.2.1 122 = .ok (.aload_n 0, 1) := by decide +kernel
theorem dz_S_odds_123 : decode zm_S_odds.2.1 123 = .ok (.getfield 53, 3) := by decide +kernel
theorem dz_S_odds_126 : decode zm_S_odds.2.1 126 = .ok (.getfield 92, 3) := by decide +kernel
theorem dz_S_odds_129 : decode zm_S_odds.2.1 129 = .ok (.invokestatic 198, 3) := by decide +kernel
theorem dz_S_odds_132 : decode zm_S_odds.2.1 132 = .ok (.isub, 1) := by decide +kernel
theorem dz_S_odds_133 : decode zm_S_odds.2.1 133 = .ok (.istore 7, 2) := by decide +kernel
theorem dz_S_odds_135 : decode zm_S_odds.2.1 135 = .ok (.lload 5, 2) := by decide +kernel
theorem dz_S_odds_137 : decode zm_S_odds.2.1 137 = .ok (.bipush 10, 2) := by decide +kernel
theorem dz_S_odds_139 : decode zm_S_odds.2.1 139 = .ok (.iload 7, 2) := by decide +kernel
theorem dz_S_odds_141 : decode zm_S_odds.2.1 141 = .ok (.invokestatic 215, 3) := by decide +kernel
theorem dz_S_odds_144 : decode zm_S_odds.2.1 144 = .ok (.iload 4, 2) := by decide +kernel
theorem dz_S_odds_146 : decode zm_S_odds.2.1 146 = .ok (.invokestatic 218, 3) := by decide +kernel
theorem dz_S_odds_149 : decode zm_S_odds.2.1 149 = .ok (.lreturn, 1) := by decide +kernel
theorem dz_S_turn_0 : decode zm_S_turn.2.1 0 = .ok (.iload_n 1, 1) := by decide +kernel
theorem dz_S_turn_1 : decode zm_S_turn.2.1 1 = .ok (.invokestatic 165, 3) := by decide +kernel
theorem dz_S_turn_4 : decode zm_S_turn.2.1 4 = .ok (.ifCond .eq 10, 3) := by decide +kernel
theorem dz_S_turn_7 : decode zm_S_turn.2.1 7 = .ok (.iload_n 2, 1) := by decide +kernel
theorem dz_S_turn_8 : decode zm_S_turn.2.1 8 = .ok (.invokestatic 147, 3) := by decide +kernel
theorem dz_S_turn_11 : decode zm_S_turn.2.1 11 = .ok (.ifCond .ne 5, 3) := by decide +kernel
theorem dz_S_turn_14 : decode zm_S_turn.2.1 14 = .ok (.iconst (-1), 1) := by decide +kernel
theorem dz_S_turn_15 : decode zm_S_turn.2.1 15 = .ok (.ireturn, 1) := by decide +kernel
theorem dz_S_turn_16 : decode zm_S_turn.2.1 16 = .ok (.aload_n 0, 1) := by decide +kernel
theorem dz_S_turn_17 : decode zm_S_turn.2.1 17 = .ok (.getfield 40, 3) := by decide +kernel
theorem dz_S_turn_20 : decode zm_S_turn.2.1 20 = .ok (.aload_n 0, 1) := by decide +kernel
theorem dz_S_turn_21 : decode zm_S_turn.2.1 21 = .ok (.getfield 53, 3) := by decide +kernel
theorem dz_S_turn_24 : decode zm_S_turn.2.1 24 = .ok (.invokevirtual 174, 3) := by decide +kernel
theorem dz_S_turn_27 : decode zm_S_turn.2.1 27 = .ok (.iconst 0, 1) := by decide +kernel
theorem dz_S_turn_28 : decode zm_S_turn.2.1 28 = .ok (.istore_n 3, 1) := by decide +kernel
theorem dz_S_turn_29 : decode zm_S_turn.2.1 29 = .ok (.iload_n 3, 1) := by decide +kernel
theorem dz_S_turn_30 : decode zm_S_turn.2.1 30 = .ok (.aload_n 0, 1) := by decide +kernel
theorem dz_S_turn_31 : decode zm_S_turn.2.1 31 = .ok (.getfield 40, 3) := by decide +kernel
theorem dz_S_turn_34 : decode zm_S_turn.2.1 34 = .ok (.getfield 89, 3) := by decide +kernel
theorem dz_S_turn_37 : decode zm_S_turn.2.1 37 = .ok (.if_icmp .ge 19, 3) := by decide +kernel
theorem dz_S_turn_40 : decode zm_S_turn.2.1 40 = .ok (.aload_n 0, 1) := by decide +kernel
theorem dz_S_turn_41 : decode zm_S_turn.2.1 41 = .ok (.getfield 40, 3) := by decide +kernel
theorem dz_S_turn_44 : decode zm_S_turn.2.1 44 = .ok (.getfield 138, 3) := by decide +kernel
theorem dz_S_turn_47 : decode zm_S_turn.2.1 47 = .ok (.iload_n 3, 1) := by decide +kernel
theorem dz_S_turn_48 : decode zm_S_turn.2.1 48 = .ok (.iload_n 1, 1) := by decide +kernel
theorem dz_S_turn_49 : decode zm_S_turn.2.1 49 = .ok (.iastore, 1) := by decide +kernel
theorem dz_S_turn_50 : decode zm_S_turn.2.1 50 = .ok (.iinc 3 1, 3) := by decide +kernel
theorem dz_S_turn_53 : decode zm_S_turn.2.1 53 = .ok (.goto (-24), 3) := by decide +kernel
theorem dz_S_turn_56 : decode zm_S_turn.2.1 56 = .ok (.aload_n 0, 1) := by decide +kernel
theorem dz_S_turn_57 : decode zm_S_turn.2.1 57 = .ok (.getfield 40, 3) := by decide +kernel
theorem dz_S_turn_60 : decode zm_S_turn.2.1 60 = .ok (.iload_n 2, 1) := by decide +kernel
theorem dz_S_turn_61 : decode zm_S_turn.2.1 61 = .ok (.invokevirtual 150, 3) := by decide +kernel
theorem dz_S_turn_64 : decode zm_S_turn.2.1 64 = .ok (.ireturn, 1) := by decide +kernel
theorem dz_S_best_0 : decode zm_S_best.2.1 0 = .ok (.aload_n 0, 1) := by decide +kernel
theorem dz_S_best_1 : decode zm_S_best.2.1 1 = .ok (.getfield 53, 3) := by decide +kernel
theorem dz_S_best_4 : decode zm_S_best.2.1 4 = .ok (.iload_n 1, 1) := by decide +kernel
theorem dz_S_best_5 : decode zm_S_best.2.1 5 = .ok (.invokevirtual 95, 3) := by decide +kernel
theorem dz_S_best_8 : decode zm_S_best.2.1 8 = .ok (.ifCond .eq 30, 3) := by decide +kernel
theorem dz_S_best_11 : decode zm_S_best.2.1 11 = .ok (.iload_n 2, 1) := by decide +kernel
theorem dz_S_best_12 : decode zm_S_best.2.1 12 = .ok (.invokestatic 147, 3) := by decide +kernel
theorem dz_S_best_15 : decode zm_S_best.2.1 15 = .ok (.ifCond .eq 23, 3) := by decide +kernel
theorem dz_S_best_18 : decode zm_S_best.2.1 18 = .ok (.iload_n 3, 1) := by decide +kernel
theorem dz_S_best_19 : decode zm_S_best.2.1 19 = .ok (.ifCond .lt 19, 3) := by decide +kernel
theorem dz_S_best_22 : decode zm_S_best.2.1 22 = .ok (.iload_n 3, 1) := by decide +kernel
theorem dz_S_best_23 : decode zm_S_best.2.1 23 = .ok (.iconst 3, 1) := by decide +kernel
theorem dz_S_best_24 : decode zm_S_best.2.1 24 = .ok (.if_icmp .gt 14, 3) := by decide +kernel
theorem dz_S_best_27 : decode zm_S_best.2.1 27 = .ok (.iload 4, 2) := by decide +kernel
theorem dz_S_best_29 : decode zm_S_best.2.1 29 = .ok (.ifCond .lt 9, 3) := by decide +kernel
theorem dz_S_best_32 : decode zm_S_best.2.1 32 = .ok (.iload 4, 2) := by decide +kernel
theorem dz_S_best_34 : decode zm_S_best.2.1 34 = .ok (.iconst 2, 1) := by decide +kernel
theorem dz_S_best_35 : decode zm_S_best.2.1 35 = .ok (.if_icmp .le 7, 3) := by decide +kernel
theorem dz_S_best_38 : decode zm_S_best.2.1 38 = .ok (.ldc2_w 209, 3) := by decide +kernel
theorem dz_S_best_41 : decode zm_S_best.2.1 41 = .ok (.lreturn, 1) := by decide +kernel
theorem dz_S_best_42 : decode zm_S_best.2.1 42 = .ok (.aload_n 0, 1) := by decide +kernel
theorem dz_S_best_43 : decode zm_S_best.2.1 43 = .ok (.getfield 40, 3) := by decide +kernel
theorem dz_S_best_46 : decode zm_S_best.2.1 46 = .ok (.aload_n 0, 1) := by decide +kernel
theorem dz_S_best_47 : decode zm_S_best.2.1 47 = .ok (.getfield 53, 3) := by decide +kernel
theorem dz_S_best_50 : decode zm_S_best.2.1 50 = .ok (.invokevirtual 174, 3) := by decide +kernel
theorem dz_S_best_53 : decode zm_S_best.2.1 53 = .ok (.aload_n 0, 1) := by decide +kernel
theorem dz_S_best_54 : decode zm_S_best.2.1 54 = .ok (.getfield 40, 3) := by decide +kernel
theorem dz_S_best_57 : decode zm_S_best.2.1 57 = .ok (.iload_n 2, 1) := by decide +kernel
theorem dz_S_best_58 : decode zm_S_best.2.1 58 = .ok (.invokevirtual 150, 3) := by decide +kernel
theorem dz_S_best_61 : decode zm_S_best.2.1 61 = .ok (.iload_n 1, 1) := by decide +kernel
theorem dz_S_best_62 : decode zm_S_best.2.1 62 = .ok (.if_icmp .ne 12, 3) := by decide +kernel
theorem dz_S_best_65 : decode zm_S_best.2.1 65 = .ok (.bipush 10, 2) := by decide +kernel
theorem dz_S_best_67 : decode zm_S_best.2.1 67 = .ok (.iload_n 3, 1) := by decide +kernel
theorem dz_S_best_68 : decode zm_S_best.2.1 68 = .ok (.invokestatic 215, 3) := by decide +kernel
theorem dz_S_best_71 : decode zm_S_best.2.1 71 = .ok (.goto 4, 3) := by decide +kernel
theorem dz_S_best_74 : decode zm_S_best.2.1 74 = .ok (.lconst 0, 1) := by decide +kernel
theorem dz_S_best_75 : decode zm_S_best.2.1 75 = .ok (.lstore 5, 2) := by decide +kernel
theorem dz_S_best_77 : decode zm_S_best.2.1 77 = .ok (.iconst 5, 1) := by decide +kernel
theorem dz_S_best_78 : decode zm_S_best.2.1 78 = .ok (.istore 7, 2) := by decide +kernel
theorem dz_S_best_80 : decode zm_S_best.2.1 80 = .ok (.iconst 0, 1) := by decide +kernel
theorem dz_S_best_81 : decode zm_S_best.2.1 81 = .ok (.istore 8, 2) := by decide +kernel
theorem dz_S_best_83 : decode zm_S_best.2.1 83 = .ok (.iload 8, 2) := by decide +kernel
theorem dz_S_best_85 : decode zm_S_best.2.1 85 = .ok (.iconst 5, 1) := by decide +kernel
theorem dz_S_best_86 : decode zm_S_best.2.1 86 = .ok (.if_icmp .ge 36, 3) := by decide +kernel
theorem dz_S_best_89 : decode zm_S_best.2.1 89 = .ok (.aload_n 0, 1) := by decide +kernel
theorem dz_S_best_90 : decode zm_S_best.2.1 90 = .ok (.iload 8, 2) := by decide +kernel
theorem dz_S_best_92 : decode zm_S_best.2.1 92 = .ok (.iload_n 1, 1) := by decide +kernel
theorem dz_S_best_93 : decode zm_S_best.2.1 93 = .ok (.iload_n 2, 1) := by decide +kernel
theorem dz_S_best_94 : decode zm_S_best.2.1 94 = .ok (.iload_n 3, 1) := by decide +kernel
theorem dz_S_best_95 : decode zm_S_best.2.1 95 = .ok (.invokevirtual 222, 3) := by decide +kernel
theorem dz_S_best_98 : decode zm_S_best.2.1 98 = .ok (.lstore 9, 2) := by decide +kernel
theorem dz_S_best_100 : decode zm_S_best.2.1 100 = .ok (.lload 9, 2) := by decide +kernel
theorem dz_S_best_102 : decode zm_S_best.2.1 102 = .ok (.lload 5, 2) := by decide +kernel
theorem dz_S_best_104 : decode zm_S_best.2.1 104 = .ok (.lcmp, 1) := by decide +kernel
theorem dz_S_best_105 : decode zm_S_best.2.1 105 = .ok (.ifCond .le 11, 3) := by decide +kernel
theorem dz_S_best_108 : decode zm_S_best.2.1 108 = .ok (.lload 9, 2) := by decide +kernel
theorem dz_S_best_110 : decode zm_S_best.2.1 110 = .ok (.lstore 5, 2) := by decide +kernel
theorem dz_S_best_112 : decode zm_S_best.2.1 112 = .ok (.iload 8, 2) := by decide +kernel
theorem dz_S_best_114 : decode zm_S_best.2.1 114 = .ok (.istore 7, 2) := by decide +kernel
theorem dz_S_best_116 : decode zm_S_best.2.1 116 = .ok (.iinc 8 1, 3) := by decide +kernel
theorem dz_S_best_119 : decode zm_S_best.2.1 119 = .ok (.goto (-36), 3) := by decide +kernel
theorem dz_S_best_122 : decode zm_S_best.2.1 122 = .ok (.iload 4, 2) := by decide +kernel
theorem dz_S_best_124 : decode zm_S_best.2.1 124 = .ok (.iconst 2, 1) := by decide +kernel
theorem dz_S_best_125 : decode zm_S_best.2.1 125 = .ok (.if_icmp .ne 9, 3) := by decide +kernel
theorem dz_S_best_128 : decode zm_S_best.2.1 128 = .ok (.iload 7, 2) := by decide +kernel
theorem dz_S_best_130 : decode zm_S_best.2.1 130 = .ok (.i2l, 1) := by decide +kernel
theorem dz_S_best_131 : decode zm_S_best.2.1 131 = .ok (.goto 16, 3) := by decide +kernel
theorem dz_S_best_134 : decode zm_S_best.2.1 134 = .ok (.lload 5, 2) := by decide +kernel
theorem dz_S_best_136 : decode zm_S_best.2.1 136 = .ok (.bipush 10, 2) := by decide +kernel
theorem dz_S_best_138 : decode zm_S_best.2.1 138 = .ok (.iload_n 3, 1) := by decide +kernel
theorem dz_S_best_139 : decode zm_S_best.2.1 139 = .ok (.invokestatic 215, 3) := by decide +kernel
theorem dz_S_best_142 : decode zm_S_best.2.1 142 = .ok (.iload 4, 2) := by decide +kernel
theorem dz_S_best_144 : decode zm_S_best.2.1 144 = .ok (.invokestatic 218, 3) := by decide +kernel
theorem dz_S_best_147 : decode zm_S_best.2.1 147 = .ok (.lreturn, 1) := by decide +kernel
theorem dz_S_see_0 : decode zm_S_see.2.1 0 = .ok (.iload_n 1, 1) := by decide +kernel
theorem dz_S_see_1 : decode zm_S_see.2.1 1 = .ok (.invokestatic 147, 3) := by decide +kernel
theorem dz_S_see_4 : decode zm_S_see.2.1 4 = .ok (.ifCond .eq 20, 3) := by decide +kernel
theorem dz_S_see_7 : decode zm_S_see.2.1 7 = .ok (.iload_n 2, 1) := by decide +kernel
theorem dz_S_see_8 : decode zm_S_see.2.1 8 = .ok (.bipush (-4), 2) := by decide +kernel
theorem dz_S_see_10 : decode zm_S_see.2.1 10 = .ok (.if_icmp .eq 16, 3) := by decide +kernel
theorem dz_S_see_13 : decode zm_S_see.2.1 13 = .ok (.aload_n 0, 1) := by decide +kernel
theorem dz_S_see_14 : decode zm_S_see.2.1 14 = .ok (.getfield 53, 3) := by decide +kernel
theorem dz_S_see_17 : decode zm_S_see.2.1 17 = .ok (.iload_n 2, 1) := by decide +kernel
theorem dz_S_see_18 : decode zm_S_see.2.1 18 = .ok (.invokevirtual 95, 3) := by decide +kernel
theorem dz_S_see_21 : decode zm_S_see.2.1 21 = .ok (.ifCond .ne 5, 3) := by decide +kernel
theorem dz_S_see_24 : decode zm_S_see.2.1 24 = .ok (.iconst (-1), 1) := by decide +kernel
theorem dz_S_see_25 : decode zm_S_see.2.1 25 = .ok (.ireturn, 1) := by decide +kernel
theorem dz_S_see_26 : decode zm_S_see.2.1 26 = .ok (.aload_n 0, 1) := by decide +kernel
theorem dz_S_see_27 : decode zm_S_see.2.1 27 = .ok (.getfield 80, 3) := by decide +kernel
theorem dz_S_see_30 : decode zm_S_see.2.1 30 = .ok (.bipush 6, 2) := by decide +kernel
theorem dz_S_see_32 : decode zm_S_see.2.1 32 = .ok (.if_icmp .lt 6, 3) := by decide +kernel
theorem dz_S_see_35 : decode zm_S_see.2.1 35 = .ok (.bipush (-3), 2) := by decide +kernel
theorem dz_S_see_37 : decode zm_S_see.2.1 37 = .ok (.ireturn, 1) := by decide +kernel
theorem dz_S_see_38 : decode zm_S_see.2.1 38 = .ok (.aload_n 0, 1) := by decide +kernel
theorem dz_S_see_39 : decode zm_S_see.2.1 39 = .ok (.getfield 47, 3) := by decide +kernel
theorem dz_S_see_42 : decode zm_S_see.2.1 42 = .ok (.aload_n 0, 1) := by decide +kernel
theorem dz_S_see_43 : decode zm_S_see.2.1 43 = .ok (.getfield 80, 3) := by decide +kernel
theorem dz_S_see_46 : decode zm_S_see.2.1 46 = .ok (.iload_n 1, 1) := by decide +kernel
theorem dz_S_see_47 : decode zm_S_see.2.1 47 = .ok (.iastore, 1) := by decide +kernel
theorem dz_S_see_48 : decode zm_S_see.2.1 48 = .ok (.aload_n 0, 1) := by decide +kernel
theorem dz_S_see_49 : decode zm_S_see.2.1 49 = .ok (.getfield 50, 3) := by decide +kernel
theorem dz_S_see_52 : decode zm_S_see.2.1 52 = .ok (.aload_n 0, 1) := by decide +kernel
theorem dz_S_see_53 : decode zm_S_see.2.1 53 = .ok (.getfield 80, 3) := by decide +kernel
theorem dz_S_see_56 : decode zm_S_see.2.1 56 = .ok (.iload_n 2, 1) := by decide +kernel
theorem dz_S_see_57 : decode zm_S_see.2.1 57 = .ok (.iastore, 1) := by decide +kernel
theorem dz_S_see_58 : decode zm_S_see.2.1 58 = .ok (.aload_n 0, 1) := by decide +kernel
theorem dz_S_see_59 : decode zm_S_see.2.1 59 = .ok (.dup, 1) := by decide +kernel
theorem dz_S_see_60 : decode zm_S_see.2.1 60 = .ok (.getfield 80, 3) := by decide +kernel
theorem dz_S_see_63 : decode zm_S_see.2.1 63 = .ok (.iconst 1, 1) := by decide +kernel
theorem dz_S_see_64 : decode zm_S_see.2.1 64 = .ok (.iadd, 1) := by decide +kernel
theorem dz_S_see_65 : decode zm_S_see.2.1 65 = .ok (.putfield 80, 3) := by decide +kernel
theorem dz_S_see_68 : decode zm_S_see.2.1 68 = .ok (.aload_n 0, 1) := by decide +kernel
theorem dz_S_see_69 : decode zm_S_see.2.1 69 = .ok (.getfield 80, 3) := by decide +kernel
theorem dz_S_see_72 : decode zm_S_see.2.1 72 = .ok (.ireturn, 1) := by decide +kernel
theorem dz_S_forget_0 : decode zm_S_forget.2.1 0 = .ok (.iload_n 1, 1) := by decide +kernel
theorem dz_S_forget_1 : decode zm_S_forget.2.1 1 = .ok (.ifCond .lt 11, 3) := by decide +kernel
theorem dz_S_forget_4 : decode zm_S_forget.2.1 4 = .ok (.iload_n 1, 1) := by decide +kernel
theorem dz_S_forget_5 : decode zm_S_forget.2.1 5 = .ok (.aload_n 0, 1) := by decide +kernel
theorem dz_S_forget_6 : decode zm_S_forget.2.1 6 = .ok (.getfield 80, 3) := by decide +kernel
theorem dz_S_forget_9 : decode zm_S_forget.2.1 9 = .ok (.if_icmp .le 5, 3) := by decide +kernel
theorem dz_S_forget_12 : decode zm_S_forget.2.1 12 = .ok (.iconst (-1), 1) := by decide +kernel
theorem dz_S_forget_13 : decode zm_S_forget.2.1 13 = .ok (.ireturn, 1) := by decide +kernel
theorem dz_S_forget_14 : decode zm_S_forget.2.1 14 = .ok (.aload_n 0, 1) := by decide +kernel
theorem dz_S_forget_15 : decode zm_S_forget.2.1 15 = .ok (.getfield 80, 3) := by decide +kernel
theorem dz_S_forget_18 : decode zm_S_forget.2.1 18 = .ok (.istore_n 2, 1) := by decide +kernel
theorem dz_S_forget_19 : decode zm_S_forget.2.1 19 = .ok (.aload_n 0, 1) := by decide +kernel
theorem dz_S_forget_20 : decode zm_S_forget.2.1 20 = .ok (.iload_n 1, 1) := by decide +kernel
theorem dz_S_forget_21 : decode zm_S_forget.2.1 21 = .ok (.putfield 80, 3) := by decide +kernel
theorem dz_S_forget_24 : decode zm_S_forget.2.1 24 = .ok (.iload_n 2, 1) := by decide +kernel
theorem dz_S_forget_25 : decode zm_S_forget.2.1 25 = .ok (.ireturn, 1) := by decide +kernel
theorem dz_S_fits_0 : decode zm_S_fits.2.1 0 = .ok (.iload_n 1, 1) := by decide +kernel
theorem dz_S_fits_1 : decode zm_S_fits.2.1 1 = .ok (.ifCond .lt 8, 3) := by decide +kernel
theorem dz_S_fits_4 : decode zm_S_fits.2.1 4 = .ok (.iload_n 1, 1) := by decide +kernel
theorem dz_S_fits_5 : decode zm_S_fits.2.1 5 = .ok (.iconst 3, 1) := by decide +kernel
theorem dz_S_fits_6 : decode zm_S_fits.2.1 6 = .ok (.if_icmp .le 5, 3) := by decide +kernel
theorem dz_S_fits_9 : decode zm_S_fits.2.1 9 = .ok (.iconst (-1), 1) := by decide +kernel
theorem dz_S_fits_10 : decode zm_S_fits.2.1 10 = .ok (.ireturn, 1) := by decide +kernel
theorem dz_S_fits_11 : decode zm_S_fits.2.1 11 = .ok (.iconst 0, 1) := by decide +kernel
theorem dz_S_fits_12 : decode zm_S_fits.2.1 12 = .ok (.istore_n 2, 1) := by decide +kernel
theorem dz_S_fits_13 : decode zm_S_fits.2.1 13 = .ok (.bipush (-4), 2) := by decide +kernel
theorem dz_S_fits_15 : decode zm_S_fits.2.1 15 = .ok (.istore_n 3, 1) := by decide +kernel
theorem dz_S_fits_16 : decode zm_S_fits.2.1 16 = .ok (.aload_n 0, 1) := by decide +kernel
theorem dz_S_fits_17 : decode zm_S_fits.2.1 17 = .ok (.getfield 53, 3) := by decide +kernel
theorem dz_S_fits_20 : decode zm_S_fits.2.1 20 = .ok (.invokevirtual 226, 3) := by decide +kernel
theorem dz_S_fits_23 : decode zm_S_fits.2.1 23 = .ok (.istore 4, 2) := by decide +kernel
theorem dz_S_fits_25 : decode zm_S_fits.2.1 25 = .ok (.iconst 0, 1) := by decide +kernel
theorem dz_S_fits_26 : decode zm_S_fits.2.1 26 = .ok (.istore 5, 2) := by decide +kernel
theorem dz_S_fits_28 : decode zm_S_fits.2.1 28 = .ok (.iconst 0, 1) := by decide +kernel
theorem dz_S_fits_29 : decode zm_S_fits.2.1 29 = .ok (.istore 6, 2) := by decide +kernel
theorem dz_S_fits_31 : decode zm_S_fits.2.1 31 = .ok (.iload 6, 2) := by decide +kernel
theorem dz_S_fits_33 : decode zm_S_fits.2.1 33 = .ok (.aload_n 0, 1) := by decide +kernel
theorem dz_S_fits_34 : decode zm_S_fits.2.1 34 = .ok (.getfield 53, 3) := by decide +kernel
theorem dz_S_fits_37 : decode zm_S_fits.2.1 37 = .ok (.invokevirtual 206, 3) := by decide +kernel
theorem dz_S_fits_40 : decode zm_S_fits.2.1 40 = .ok (.if_icmp .ge 48, 3) := by decide +kernel
theorem dz_S_fits_43 : decode zm_S_fits.2.1 43 = .ok (.aload_n 0, 1) := by decide +kernel
theorem dz_S_fits_44 : decode zm_S_fits.2.1 44 = .ok (.iload 6, 2) := by decide +kernel
theorem dz_S_fits_46 : decode zm_S_fits.2.1 46 = .ok (.invokevirtual 229, 3) := by decide +kernel
theorem dz_S_fits_49 : decode zm_S_fits.2.1 49 = .ok (.ifCond .eq 33, 3) := by decide +kernel
theorem dz_S_fits_52 : decode zm_S_fits.2.1 52 = .ok (.iinc 2 1, 3) := by decide +kernel
theorem dz_S_fits_55 : decode zm_S_fits.2.1 55 = .ok (.iload_n 3, 1) := by decide +kernel
theorem dz_S_fits_56 : decode zm_S_fits.2.1 56 = .ok (.bipush (-4), 2) := by decide +kernel
theorem dz_S_fits_58 : decode zm_S_fits.2.1 58 = .ok (.if_icmp .ne 8, 3) := by decide +kernel
theorem dz_S_fits_61 : decode zm_S_fits.2.1 61 = .ok (.iload 6, 2) := by decide +kernel
theorem dz_S_fits_63 : decode zm_S_fits.2.1 63 = .ok (.goto 4, 3) := by decide +kernel
theorem dz_S_fits_66 : decode zm_S_fits.2.1 66 = .ok (.iload_n 3, 1) := by decide +kernel
theorem dz_S_fits_67 : decode zm_S_fits.2.1 67 = .ok (.istore_n 3, 1) := by decide +kernel
theorem dz_S_fits_68 : decode zm_S_fits.2.1 68 = .ok (.iload 4, 2) := by decide +kernel
theorem dz_S_fits_70 : decode zm_S_fits.2.1 70 = .ok (.iload 6, 2) := by decide +kernel
theorem dz_S_fits_72 : decode zm_S_fits.2.1 72 = .ok (.iand, 1) := by decide +kernel
theorem dz_S_fits_73 : decode zm_S_fits.2.1 73 = .ok (.istore 4, 2) := by decide +kernel
theorem dz_S_fits_75 : decode zm_S_fits.2.1 75 = .ok (.iload 5, 2) := by decide +kernel
theorem dz_S_fits_77 : decode zm_S_fits.2.1 77 = .ok (.iload 6, 2) := by decide +kernel
theorem dz_S_fits_79 : decode zm_S_fits.2.1 79 = .ok (.ior, 1) := by decide +kernel
theorem dz_S_fits_80 : decode zm_S_fits.2.1 80 = .ok (.istore 5, 2) := by decide +kernel
theorem dz_S_fits_82 : decode zm_S_fits.2.1 82 = .ok (.iinc 6 1, 3) := by decide +kernel
theorem dz_S_fits_85 : decode zm_S_fits.2.1 85 = .ok (.goto (-54), 3) := by decide +kernel
theorem dz_S_fits_88 : decode zm_S_fits.2.1 88 = .ok (.iload_n 1, 1) := by decide +kernel
theorem dz_S_fits_89 : decode zm_S_fits.2.1 89 = .ok (.ifCond .eq 7, 3) := by decide +kernel
theorem dz_S_fits_92 : decode zm_S_fits.2.1 92 = .ok (.iload_n 2, 1) := by decide +kernel
theorem dz_S_fits_93 : decode zm_S_fits.2.1 93 = .ok (.ifCond .ne 14, 3) := by decide +kernel
theorem dz_S_fits_96 : decode zm_S_fits.2.1 96 = .ok (.iload_n 1, 1) := by decide +kernel
theorem dz_S_fits_97 : decode zm_S_fits.2.1 97 = .ok (.ifCond .ne 7, 3) := by decide +kernel
theorem dz_S_fits_100 : decode zm_S_fits.2.1 100 = .ok (.iload_n 2, 1) := by decide +kernel
theorem dz_S_fits_101 : decode zm_S_fits.2.1 101 = .ok (.goto 5, 3) := by decide +kernel
theorem dz_S_fits_104 : decode zm_S_fits.2.1 104 = .ok (.bipush (-4), 2) := by decide +kernel
theorem dz_S_fits_106 : decode zm_S_fits.2.1 106 = .ok (.ireturn, 1) := by decide +kernel
theorem dz_S_fits_107 : decode zm_S_fits.2.1 107 = .ok (.iload_n 1, 1) := by decide +kernel
theorem dz_S_fits_108 : decode zm_S_fits.2.1 108 = .ok (.iconst 1, 1) := by decide +kernel
theorem dz_S_fits_109 : decode zm_S_fits.2.1 109 = .ok (.if_icmp .ne 5, 3) := by decide +kernel
theorem dz_S_fits_112 : decode zm_S_fits.2.1 112 = .ok (.iload_n 3, 1) := by decide +kernel
theorem dz_S_fits_113 : decode zm_S_fits.2.1 113 = .ok (.ireturn, 1) := by decide +kernel
theorem dz_S_fits_114 : decode zm_S_fits.2.1 114 = .ok (.iload_n 1, 1) := by decide +kernel
theorem dz_S_fits_115 : decode zm_S_fits.2.1 115 = .ok (.iconst 2, 1) := by decide +kernel
theorem dz_S_fits_116 : decode zm_S_fits.2.1 116 = .ok (.if_icmp .ne 8, 3) := by decide +kernel
theorem dz_S_fits_119 : decode zm_S_fits.2.1 119 = .ok (.iload 4, 2) := by decide +kernel
theorem dz_S_fits_121 : decode zm_S_fits.2.1 121 = .ok (.goto 15, 3) := by decide +kernel
theorem dz_S_fits_124 : decode zm_S_fits.2.1 124 = .ok (.aload_n 0, 1) := by decide +kernel
theorem dz_S_fits_125 : decode zm_S_fits.2.1 125 = .ok (.getfield 53, 3) := by decide +kernel
theorem dz_S_fits_128 : decode zm_S_fits.2.1 128 = .ok (.invokevirtual 226, 3) := by decide +kernel
theorem dz_S_fits_131 : decode zm_S_fits.2.1 131 = .ok (.iload 5, 2) := by decide +kernel
theorem dz_S_fits_133 : decode zm_S_fits.2.1 133 = .ok (.iconst (-1), 1) := by decide +kernel
theorem dz_S_fits_134 : decode zm_S_fits.2.1 134 = .ok (.ixor, 1) := by decide +kernel
theorem dz_S_fits_135 : decode zm_S_fits.2.1 135 = .ok (.iand, 1) := by decide +kernel
theorem dz_S_fits_136 : decode zm_S_fits.2.1 136 = .ok (.ireturn, 1) := by decide +kernel
theorem dz_S_drift_0 : decode zm_S_drift.2.1 0 = .ok (.iload_n 2, 1) := by decide +kernel
theorem dz_S_drift_1 : decode zm_S_drift.2.1 1 = .ok (.iconst 1, 1) := by decide +kernel
theorem dz_S_drift_2 : decode zm_S_drift.2.1 2 = .ok (.if_icmp .lt 18, 3) := by decide +kernel
theorem dz_S_drift_5 : decode zm_S_drift.2.1 5 = .ok (.iload_n 2, 1) := by decide +kernel
theorem dz_S_drift_6 : decode zm_S_drift.2.1 6 = .ok (.bipush 60, 2) := by decide +kernel
theorem dz_S_drift_8 : decode zm_S_drift.2.1 8 = .ok (.if_icmp .gt 12, 3) := by decide +kernel
theorem dz_S_drift_11 : decode zm_S_drift.2.1 11 = .ok (.iload_n 3, 1) := by decide +kernel
theorem dz_S_drift_12 : decode zm_S_drift.2.1 12 = .ok (.ifCond .lt 8, 3) := by decide +kernel
theorem dz_S_drift_15 : decode zm_S_drift.2.1 15 = .ok (.iload_n 3, 1) := by decide +kernel
theorem dz_S_drift_16 : decode zm_S_drift.2.1 16 = .ok (.iconst 1, 1) := by decide +kernel
theorem dz_S_drift_17 : decode zm_S_drift.2.1 17 = .ok (.if_icmp .le 5, 3) := by decide +kernel
theorem dz_S_drift_20 : decode zm_S_drift.2.1 20 = .ok (.iconst (-1), 1) := by decide +kernel
theorem dz_S_drift_21 : decode zm_S_drift.2.1 21 = .ok (.ireturn, 1) := by decide +kernel
theorem dz_S_drift_22 : decode zm_S_drift.2.1 22 = .ok (.aload_n 0, 1) := by decide +kernel
theorem dz_S_drift_23 : decode zm_S_drift.2.1 23 = .ok (.getfield 53, 3) := by decide +kernel
theorem dz_S_drift_26 : decode zm_S_drift.2.1 26 = .ok (.getfield 86, 3) := by decide +kernel
theorem dz_S_drift_29 : decode zm_S_drift.2.1 29 = .ok (.istore 4, 2) := by decide +kernel
theorem dz_S_drift_31 : decode zm_S_drift.2.1 31 = .ok (.iload 4, 2) := by decide +kernel
theorem dz_S_drift_33 : decode zm_S_drift.2.1 33 = .ok (.ifCond .gt 6, 3) := by decide +kernel
theorem dz_S_drift_36 : decode zm_S_drift.2.1 36 = .ok (.bipush (-2), 2) := by decide +kernel
theorem dz_S_drift_38 : decode zm_S_drift.2.1 38 = .ok (.ireturn, 1) := by decide +kernel
theorem dz_S_drift_39 : decode zm_S_drift.2.1 39 = .ok (.aload_n 0, 1) := by decide +kernel
theorem dz_S_drift_40 : decode zm_S_drift.2.1 40 = .ok (.getfield 40, 3) := by decide +kernel
theorem dz_S_drift_43 : decode zm_S_drift.2.1 43 = .ok (.aload_n 0, 1) := by decide +kernel
theorem dz_S_drift_44 : decode zm_S_drift.2.1 44 = .ok (.getfield 53, 3) := by decide +kernel
theorem dz_S_drift_47 : decode zm_S_drift.2.1 47 = .ok (.invokevirtual 174, 3) := by decide +kernel
theorem dz_S_drift_50 : decode zm_S_drift.2.1 50 = .ok (.aload_n 0, 1) := by decide +kernel
theorem dz_S_drift_51 : decode zm_S_drift.2.1 51 = .ok (.getfield 40, 3) := by decide +kernel
theorem dz_S_drift_54 : decode zm_S_drift.2.1 54 = .ok (.iconst 0, 1) := by decide +kernel
theorem dz_S_drift_55 : decode zm_S_drift.2.1 55 = .ok (.invokevirtual 150, 3) := by decide +kernel
theorem dz_S_drift_58 : decode zm_S_drift.2.1 58 = .ok (.istore 5, 2) := by decide +kernel
theorem dz_S_drift_60 : decode zm_S_drift.2.1 60 = .ok (.iconst 0, 1) := by decide +kernel
theorem dz_S_drift_61 : decode zm_S_drift.2.1 61 = .ok (.istore 6, 2) := by decide +kernel
theorem dz_S_drift_63 : decode zm_S_drift.2.1 63 = .ok (.iconst 0, 1) := by decide +kernel
theorem dz_S_drift_64 : decode zm_S_drift.2.1 64 = .ok (.istore 7, 2) := by decide +kernel
theorem dz_S_drift_66 : decode zm_S_drift.2.1 66 = .ok (.iload 7, 2) := by decide +kernel
theorem dz_S_drift_68 : decode zm_S_drift.2.1 68 = .ok (.iload_n 2, 1) := by decide +kernel
theorem dz_S_drift_69 : decode zm_S_drift.2.1 69 = .ok (.if_icmp .ge 105, 3) := by decide +kernel
theorem dz_S_drift_72 : decode zm_S_drift.2.1 72 = .ok (.iload_n 1, 1) := by decide +kernel
theorem dz_S_drift_73 : decode zm_S_drift.2.1 73 = .ok (.invokestatic 232, 3) := by decide +kernel
theorem dz_S_drift_76 : decode zm_S_drift.2.1 76 = .ok (.istore_n 1, 1) := by decide +kernel
theorem dz_S_drift_77 : decode zm_S_drift.2.1 77 = .ok (.iload_n 1, 1) := by decide +kernel
theorem dz_S_drift_78 : decode zm_S_drift.2.1 78 = .ok (.invokestatic 235, 3) := by decide +kernel
theorem dz_S_drift_81 : decode zm_S_drift.2.1 81 = .ok (.iload 4, 2) := by decide +kernel
theorem dz_S_drift_83 : decode zm_S_drift.2.1 83 = .ok (.irem, 1) := by decide +kernel
theorem dz_S_drift_84 : decode zm_S_drift.2.1 84 = .ok (.istore 8, 2) := by decide +kernel
theorem dz_S_drift_86 : decode zm_S_drift.2.1 86 = .ok (.iload_n 1, 1) := by decide +kernel
theorem dz_S_drift_87 : decode zm_S_drift.2.1 87 = .ok (.invokestatic 232, 3) := by decide +kernel
theorem dz_S_drift_90 : decode zm_S_drift.2.1 90 = .ok (.istore_n 1, 1) := by decide +kernel
theorem dz_S_drift_91 : decode zm_S_drift.2.1 91 = .ok (.aload_n 0, 1) := by decide +kernel
theorem dz_S_drift_92 : decode zm_S_drift.2.1 92 = .ok (.getfield 40, 3) := by decide +kernel
theorem dz_S_drift_95 : decode zm_S_drift.2.1 95 = .ok (.bipush 10, 2) := by decide +kernel
theorem dz_S_drift_97 : decode zm_S_drift.2.1 97 = .ok (.iload 8, 2) := by decide +kernel
theorem dz_S_drift_99 : decode zm_S_drift.2.1 99 = .ok (.imul, 1) := by decide +kernel
theorem dz_S_drift_100 : decode zm_S_drift.2.1 100 = .ok (.iload_n 1, 1) := by decide +kernel
theorem dz_S_drift_101 : decode zm_S_drift.2.1 101 = .ok (.invokestatic 235, 3) := by decide +kernel
theorem dz_S_drift_104 : decode zm_S_drift.2.1 104 = .ok (.bipush 7, 2) := by decide +kernel
theorem dz_S_drift_106 : decode zm_S_drift.2.1 106 = .ok (.irem, 1) := by decide +kernel
theorem dz_S_drift_107 : decode zm_S_drift.2.1 107 = .ok (.iadd, 1) := by decide +kernel
theorem dz_S_drift_108 : decode zm_S_drift.2.1 108 = .ok (.invokevirtual 158, 3) := by decide +kernel
theorem dz_S_drift_111 : decode zm_S_drift.2.1 111 = .ok (.pop, 1) := by decide +kernel
theorem dz_S_drift_112 : decode zm_S_drift.2.1 112 = .ok (.aload_n 0, 1) := by decide +kernel
theorem dz_S_drift_113 : decode zm_S_drift.2.1 113 = .ok (.getfield 40, 3) := by decide +kernel
theorem dz_S_drift_116 : decode zm_S_drift.2.1 116 = .ok (.getfield 92, 3) := by decide +kernel
theorem dz_S_drift_119 : decode zm_S_drift.2.1 119 = .ok (.aload_n 0, 1) := by decide +kernel
theorem dz_S_drift_120 : decode zm_S_drift.2.1 120 = .ok (.getfield 40, 3) := by decide +kernel
theorem dz_S_drift_123 : decode zm_S_drift.2.1 123 = .ok (.invokevirtual 226, 3) := by decide +kernel
theorem dz_S_drift_126 : decode zm_S_drift.2.1 126 = .ok (.if_icmp .ne 11, 3) := by decide +kernel
theorem dz_S_drift_129 : decode zm_S_drift.2.1 129 = .ok (.aload_n 0, 1) := by decide +kernel
theorem dz_S_drift_130 : decode zm_S_drift.2.1 130 = .ok (.getfield 40, 3) := by decide +kernel
theorem dz_S_drift_133 : decode zm_S_drift.2.1 133 = .ok (.iconst 0, 1) := by decide +kernel
theorem dz_S_drift_134 : decode zm_S_drift.2.1 134 = .ok (.putfield 92, 3) := by decide +kernel
theorem dz_S_drift_137 : decode zm_S_drift.2.1 137 = .ok (.aload_n 0, 1) := by decide +kernel
theorem dz_S_drift_138 : decode zm_S_drift.2.1 138 = .ok (.getfield 40, 3) := by decide +kernel
theorem dz_S_drift_141 : decode zm_S_drift.2.1 141 = .ok (.iconst 0, 1) := by decide +kernel
theorem dz_S_drift_142 : decode zm_S_drift.2.1 142 = .ok (.invokevirtual 150, 3) := by decide +kernel
theorem dz_S_drift_145 : decode zm_S_drift.2.1 145 = .ok (.istore 9, 2) := by decide +kernel
theorem dz_S_drift_147 : decode zm_S_drift.2.1 147 = .ok (.iload 6, 2) := by decide +kernel
theorem dz_S_drift_149 : decode zm_S_drift.2.1 149 = .ok (.iload 9, 2) := by decide +kernel
theorem dz_S_drift_151 : decode zm_S_drift.2.1 151 = .ok (.iload 5, 2) := by decide +kernel
theorem dz_S_drift_153 : decode zm_S_drift.2.1 153 = .ok (.if_icmp .eq 7, 3) := by decide +kernel
theorem dz_S_drift_156 : decode zm_S_drift.2.1 156 = .ok (.iconst 1, 1) := by decide +kernel
theorem dz_S_drift_157 : decode zm_S_drift.2.1 157 = .ok (.goto 4, 3) := by decide +kernel
theorem dz_S_drift_160 : decode zm_S_drift.2.1 160 = .ok (.iconst 0, 1) := by decide +kernel
theorem dz_S_drift_161 : decode zm_S_drift.2.1 161 = .ok (.iadd, 1) := by decide +kernel
theorem dz_S_drift_162 : decode zm_S_drift.2.1 162 = .ok (.istore 6, 2) := by decide +kernel
theorem dz_S_drift_164 : decode zm_S_drift.2.1 164 = .ok (.iload 9, 2) := by decide +kernel
theorem dz_S_drift_166 : decode zm_S_drift.2.1 166 = .ok (.istore 5, 2) := by decide +kernel
theorem dz_S_drift_168 : decode zm_S_drift.2.1 168 = .ok (.iinc 7 1, 3) := by decide +kernel
theorem dz_S_drift_171 : decode zm_S_drift.2.1 171 = .ok (.goto (-105), 3) := by decide +kernel
theorem dz_S_drift_174 : decode zm_S_drift.2.1 174 = .ok (.iload_n 3, 1) := by decide +kernel
theorem dz_S_drift_175 : decode zm_S_drift.2.1 175 = .ok (.ifCond .ne 8, 3) := by decide +kernel
theorem dz_S_drift_178 : decode zm_S_drift.2.1 178 = .ok (.iload 6, 2) := by decide +kernel
theorem dz_S_drift_180 : decode zm_S_drift.2.1 180 = .ok (.goto 5, 3) := by decide +kernel
theorem dz_S_drift_183 : decode zm_S_drift.2.1 183 = .ok (.iload 5, 2) := by decide +kernel
theorem dz_S_drift_185 : decode zm_S_drift.2.1 185 = .ok (.ireturn, 1) := by decide +kernel
theorem dz_S_keep_0 : decode zm_S_keep.2.1 0 = .ok (.iload_n 1, 1) := by decide +kernel
theorem dz_S_keep_1 : decode zm_S_keep.2.1 1 = .ok (.ifCond .lt 8, 3) := by decide +kernel
theorem dz_S_keep_4 : decode zm_S_keep.2.1 4 = .ok (.iload_n 1, 1) := by decide +kernel
theorem dz_S_keep_5 : decode zm_S_keep.2.1 5 = .ok (.iconst 2, 1) := by decide +kernel
theorem dz_S_keep_6 : decode zm_S_keep.2.1 6 = .ok (.if_icmp .lt 5, 3) := by decide +kernel
theorem dz_S_keep_9 : decode zm_S_keep.2.1 9 = .ok (.iconst (-1), 1) := by decide +kernel
theorem dz_S_keep_10 : decode zm_S_keep.2.1 10 = .ok (.ireturn, 1) := by decide +kernel
theorem dz_S_keep_11 : decode zm_S_keep.2.1 11 = .ok (.aload_n 0, 1) := by decide +kernel
theorem dz_S_keep_12 : decode zm_S_keep.2.1 12 = .ok (.getfield 83, 3) := by decide +kernel
theorem dz_S_keep_15 : decode zm_S_keep.2.1 15 = .ok (.iload_n 1, 1) := by decide +kernel
theorem dz_S_keep_16 : decode zm_S_keep.2.1 16 = .ok (.ishr, 1) := by decide +kernel
theorem dz_S_keep_17 : decode zm_S_keep.2.1 17 = .ok (.iconst 1, 1) := by decide +kernel
theorem dz_S_keep_18 : decode zm_S_keep.2.1 18 = .ok (.iand, 1) := by decide +kernel
theorem dz_S_keep_19 : decode zm_S_keep.2.1 19 = .ok (.istore_n 2, 1) := by decide +kernel
theorem dz_S_keep_20 : decode zm_S_keep.2.1 20 = .ok (.aload_n 0, 1) := by decide +kernel
theorem dz_S_keep_21 : decode zm_S_keep.2.1 21 = .ok (.iload_n 1, 1) := by decide +kernel
theorem dz_S_keep_22 : decode zm_S_keep.2.1 22 = .ok (.invokevirtual 238, 3) := by decide +kernel
theorem dz_S_keep_25 : decode zm_S_keep.2.1 25 = .ok (.aload_n 0, 1) := by decide +kernel
theorem dz_S_keep_26 : decode zm_S_keep.2.1 26 = .ok (.getfield 53, 3) := by decide +kernel
theorem dz_S_keep_29 : decode zm_S_keep.2.1 29 = .ok (.invokevirtual 174, 3) := by decide +kernel
theorem dz_S_keep_32 : decode zm_S_keep.2.1 32 = .ok (.aload_n 0, 1) := by decide +kernel
theorem dz_S_keep_33 : decode zm_S_keep.2.1 33 = .ok (.dup, 1) := by decide +kernel
theorem dz_S_keep_34 : decode zm_S_keep.2.1 34 = .ok (.getfield 83, 3) := by decide +kernel
theorem dz_S_keep_37 : decode zm_S_keep.2.1 37 = .ok (.iconst 1, 1) := by decide +kernel
theorem dz_S_keep_38 : decode zm_S_keep.2.1 38 = .ok (.iload_n 1, 1) := by decide +kernel
theorem dz_S_keep_39 : decode zm_S_keep.2.1 39 = .ok (.ishl, 1) := by decide +kernel
theorem dz_S_keep_40 : decode zm_S_keep.2.1 40 = .ok (.ior, 1) := by decide +kernel
theorem dz_S_keep_41 : decode zm_S_keep.2.1 41 = .ok (.putfield 83, 3) := by decide +kernel
theorem dz_S_keep_44 : decode zm_S_keep.2.1 44 = .ok (.iload_n 2, 1) := by decide +kernel
theorem dz_S_keep_45 : decode zm_S_keep.2.1 45 = .ok (.ireturn, 1) := by decide +kernel
theorem dz_S_back_0 : decode zm_S_back.2.1 0 = .ok (.iload_n 1, 1) := by decide +kernel
theorem dz_S_back_1 : decode zm_S_back.2.1 1 = .ok (.ifCond .lt 8, 3) := by decide +kernel
theorem dz_S_back_4 : decode zm_S_back.2.1 4 = .ok (.iload_n 1, 1) := by decide +kernel
theorem dz_S_back_5 : decode zm_S_back.2.1 5 = .ok (.iconst 2, 1) := by decide +kernel
theorem dz_S_back_6 : decode zm_S_back.2.1 6 = .ok (.if_icmp .lt 5, 3) := by decide +kernel
theorem dz_S_back_9 : decode zm_S_back.2.1 9 = .ok (.iconst (-1), 1) := by decide +kernel
theorem dz_S_back_10 : decode zm_S_back.2.1 10 = .ok (.ireturn, 1) := by decide +kernel
theorem dz_S_back_11 : decode zm_S_back.2.1 11 = .ok (.aload_n 0, 1) := by decide +kernel
theorem dz_S_back_12 : decode zm_S_back.2.1 12 = .ok (.getfield 83, 3) := by decide +kernel
theorem dz_S_back_15 : decode zm_S_back.2.1 15 = .ok (.iload_n 1, 1) := by decide +kernel
theorem dz_S_back_16 : decode zm_S_back.2.1 16 = .ok (.ishr, 1) := by decide +kernel
theorem dz_S_back_17 : decode zm_S_back.2.1 17 = .ok (.iconst 1, 1) := by decide +kernel
theorem dz_S_back_18 : decode zm_S_back.2.1 18 = .ok (.iand, 1) := by decide +kernel
theorem dz_S_back_19 : decode zm_S_back.2.1 19 = .ok (.ifCond .ne 6, 3) := by decide +kernel
theorem dz_S_back_22 : decode zm_S_back.2.1 22 = .ok (.bipush (-2), 2) := by decide +kernel
theorem dz_S_back_24 : decode zm_S_back.2.1 24 = .ok (.ireturn, 1) := by decide +kernel
theorem dz_S_back_25 : decode zm_S_back.2.1 25 = .ok (.aload_n 0, 1) := by decide +kernel
theorem dz_S_back_26 : decode zm_S_back.2.1 26 = .ok (.getfield 53, 3) := by decide +kernel
theorem dz_S_back_29 : decode zm_S_back.2.1 29 = .ok (.aload_n 0, 1) := by decide +kernel
theorem dz_S_back_30 : decode zm_S_back.2.1 30 = .ok (.iload_n 1, 1) := by decide +kernel
theorem dz_S_back_31 : decode zm_S_back.2.1 31 = .ok (.invokevirtual 238, 3) := by decide +kernel
theorem dz_S_back_34 : decode zm_S_back.2.1 34 = .ok (.invokevirtual 174, 3) := by decide +kernel
theorem dz_S_back_37 : decode zm_S_back.2.1 37 = .ok (.aload_n 0, 1) := by decide +kernel
theorem dz_S_back_38 : decode zm_S_back.2.1 38 = .ok (.getfield 53, 3) := by decide +kernel
theorem dz_S_back_41 : decode zm_S_back.2.1 41 = .ok (.getfield 92, 3) := by decide +kernel
theorem dz_S_back_44 : decode zm_S_back.2.1 44 = .ok (.ireturn, 1) := by decide +kernel
theorem dz_S_sheet_0 : decode zm_S_sheet.2.1 0 = .ok (.aload_n 0, 1) := by decide +kernel
theorem dz_S_sheet_1 : decode zm_S_sheet.2.1 1 = .ok (.getfield 26, 3) := by decide +kernel
theorem dz_S_sheet_4 : decode zm_S_sheet.2.1 4 = .ok (.iload_n 1, 1) := by decide +kernel
theorem dz_S_sheet_5 : decode zm_S_sheet.2.1 5 = .ok (.invokevirtual 242, 3) := by decide +kernel
theorem dz_S_sheet_8 : decode zm_S_sheet.2.1 8 = .ok (.ifCond .eq 20, 3) := by decide +kernel
theorem dz_S_sheet_11 : decode zm_S_sheet.2.1 11 = .ok (.aload_n 0, 1) := by decide +kernel
theorem dz_S_sheet_12 : decode zm_S_sheet.2.1 12 = .ok (.getfield 26, 3) := by decide +kernel
theorem dz_S_sheet_15 : decode zm_S_sheet.2.1 15 = .ok (.iload_n 2, 1) := by decide +kernel
theorem dz_S_sheet_16 : decode zm_S_sheet.2.1 16 = .ok (.invokevirtual 245, 3) := by decide +kernel
theorem dz_S_sheet_19 : decode zm_S_sheet.2.1 19 = .ok (.ifCond .eq 9, 3) := by decide +kernel
theorem dz_S_sheet_22 : decode zm_S_sheet.2.1 22 = .ok (.iload_n 3, 1) := by decide +kernel
theorem dz_S_sheet_23 : decode zm_S_sheet.2.1 23 = .ok (.bipush 40, 2) := by decide +kernel
theorem dz_S_sheet_25 : decode zm_S_sheet.2.1 25 = .ok (.if_icmp .le 5, 3) := by decide +kernel
theorem dz_S_sheet_28 : decode zm_S_sheet.2.1 28 = .ok (.iconst (-1), 1) := by decide +kernel
theorem dz_S_sheet_29 : decode zm_S_sheet.2.1 29 = .ok (.ireturn, 1) := by decide +kernel
theorem dz_S_sheet_30 : decode zm_S_sheet.2.1 30 = .ok (.iload_n 3, 1) := by decide +kernel
theorem dz_S_sheet_31 : decode zm_S_sheet.2.1 31 = .ok (.ifCond .ge 6, 3) := by decide +kernel
theorem dz_S_sheet_34 : decode zm_S_sheet.2.1 34 = .ok (.bipush (-14), 2) := by decide +kernel
theorem dz_S_sheet_36 : decode zm_S_sheet.2.1 36 = .ok (.ireturn, 1) := by decide +kernel
theorem dz_S_sheet_37 : decode zm_S_sheet.2.1 37 = .ok (.aload_n 0, 1) := by decide +kernel
theorem dz_S_sheet_38 : decode zm_S_sheet.2.1 38 = .ok (.getfield 26, 3) := by decide +kernel
theorem dz_S_sheet_41 : decode zm_S_sheet.2.1 41 = .ok (.iload_n 1, 1) := by decide +kernel
theorem dz_S_sheet_42 : decode zm_S_sheet.2.1 42 = .ok (.iload_n 2, 1) := by decide +kernel
theorem dz_S_sheet_43 : decode zm_S_sheet.2.1 43 = .ok (.iload_n 3, 1) := by decide +kernel
theorem dz_S_sheet_44 : decode zm_S_sheet.2.1 44 = .ok (.invokevirtual 248, 3) := by decide +kernel
theorem dz_S_sheet_47 : decode zm_S_sheet.2.1 47 = .ok (.iconst 1, 1) := by decide +kernel
theorem dz_S_sheet_48 : decode zm_S_sheet.2.1 48 = .ok (.ireturn, 1) := by decide +kernel
theorem dz_S_lay_0 : decode zm_S_lay.2.1 0 = .ok (.aload_n 0, 1) := by decide +kernel
theorem dz_S_lay_1 : decode zm_S_lay.2.1 1 = .ok (.getfield 26, 3) := by decide +kernel
theorem dz_S_lay_4 : decode zm_S_lay.2.1 4 = .ok (.iload_n 1, 1) := by decide +kernel
theorem dz_S_lay_5 : decode zm_S_lay.2.1 5 = .ok (.invokevirtual 242, 3) := by decide +kernel
theorem dz_S_lay_8 : decode zm_S_lay.2.1 8 = .ok (.ifCond .ne 5, 3) := by decide +kernel
theorem dz_S_lay_11 : decode zm_S_lay.2.1 11 = .ok (.iconst (-1), 1) := by decide +kernel
theorem dz_S_lay_12 : decode zm_S_lay.2.1 12 = .ok (.ireturn, 1) := by decide +kernel
theorem dz_S_lay_13 : decode zm_S_lay.2.1 13 = .ok (.aload_n 0, 1) := by decide +kernel
theorem dz_S_lay_14 : decode zm_S_lay.2.1 14 = .ok (.getfield 26, 3) := by decide +kernel
theorem dz_S_lay_17 : decode zm_S_lay.2.1 17 = .ok (.iload_n 1, 1) := by decide +kernel
theorem dz_S_lay_18 : decode zm_S_lay.2.1 18 = .ok (.aload_n 0, 1) := by decide +kernel
theorem dz_S_lay_19 : decode zm_S_lay.2.1 19 = .ok (.getfield 26, 3) := by decide +kernel
theorem dz_S_lay_22 : decode zm_S_lay.2.1 22 = .ok (.iload_n 1, 1) := by decide +kernel
theorem dz_S_lay_23 : decode zm_S_lay.2.1 23 = .ok (.invokevirtual 252, 3) := by decide +kernel
theorem dz_S_lay_26 : decode zm_S_lay.2.1 26 = .ok (.iload_n 2, 1) := by decide +kernel
theorem dz_S_lay_27 : decode zm_S_lay.2.1 27 = .ok (.invokevirtual 255, 3) := by decide +kernel
theorem dz_S_lay_30 : decode zm_S_lay.2.1 30 = .ok (.istore 4, 2) := by decide +kernel
theorem dz_S_lay_32 : decode zm_S_lay.2.1 32 = .ok (.iload 4, 2) := by decide +kernel
theorem dz_S_lay_34 : decode zm_S_lay.2.1 34 = .ok (.ifCond .eq 9, 3) := by decide +kernel
theorem dz_S_lay_37 : decode zm_S_lay.2.1 37 = .ok (.bipush (-10), 2) := by decide +kernel
theorem dz_S_lay_39 : decode zm_S_lay.2.1 39 = .ok (.iload 4, 2) := by decide +kernel
theorem dz_S_lay_41 : decode zm_S_lay.2.1 41 = .ok (.isub, 1) := by decide +kernel
theorem dz_S_lay_42 : decode zm_S_lay.2.1 42 = .ok (.ireturn, 1) := by decide +kernel
theorem dz_S_lay_43 : decode zm_S_lay.2.1 43 = .ok (.aload_n 0, 1) := by decide +kernel
theorem dz_S_lay_44 : decode zm_S_lay.2.1 44 = .ok (.getfield 26, 3) := by decide +kernel
theorem dz_S_lay_47 : decode zm_S_lay.2.1 47 = .ok (.iload_n 1, 1) := by decide +kernel
theorem dz_S_lay_48 : decode zm_S_lay.2.1 48 = .ok (.iload_n 2, 1) := by decide +kernel
theorem dz_S_lay_49 : decode zm_S_lay.2.1 49 = .ok (.iload_n 3, 1) := by decide +kernel
theorem dz_S_lay_50 : decode zm_S_lay.2.1 50 = .ok (.invokevirtual 258, 3) := by decide +kernel
theorem dz_S_lay_53 : decode zm_S_lay.2.1 53 = .ok (.iconst 1, 1) := by decide +kernel
theorem dz_S_lay_54 : decode zm_S_lay.2.1 54 = .ok (.ireturn, 1) := by decide +kernel
theorem dz_S_read_0 : decode zm_S_read.2.1 0 = .ok (.aload_n 0, 1) := by decide +kernel
theorem dz_S_read_1 : decode zm_S_read.2.1 1 = .ok (.getfield 26, 3) := by decide +kernel
theorem dz_S_read_4 : decode zm_S_read.2.1 4 = .ok (.iload_n 1, 1) := by decide +kernel
theorem dz_S_read_5 : decode zm_S_read.2.1 5 = .ok (.invokevirtual 242, 3) := by decide +kernel
theorem dz_S_read_8 : decode zm_S_read.2.1 8 = .ok (.ifCond .eq 26, 3) := by decide +kernel
theorem dz_S_read_11 : decode zm_S_read.2.1 11 = .ok (.aload_n 0, 1) := by decide +kernel
theorem dz_S_read_12 : decode zm_S_read.2.1 12 = .ok (.getfield 26, 3) := by decide +kernel
theorem dz_S_read_15 : decode zm_S_read.2.1 15 = .ok (.iload_n 2, 1) := by decide +kernel
theorem dz_S_read_16 : decode zm_S_read.2.1 16 = .ok (.invokevirtual 245, 3) := by decide +kernel
theorem dz_S_read_19 : decode zm_S_read.2.1 19 = .ok (.ifCond .eq 15, 3) := by decide +kernel
theorem dz_S_read_22 : decode zm_S_read.2.1 22 = .ok (.iload 4, 2) := by decide +kernel
theorem dz_S_read_24 : decode zm_S_read.2.1 24 = .ok (.ifCond .lt 10, 3) := by decide +kernel
theorem dz_S_read_27 : decode zm_S_read.2.1 27 = .ok (.iload 4, 2) := by decide +kernel
theorem dz_S_read_29 : decode zm_S_read.2.1 29 = .ok (.bipush 20, 2) := by decide +kernel
theorem dz_S_read_31 : decode zm_S_read.2.1 31 = .ok (.if_icmp .le 5, 3) := by decide +kernel
theorem dz_S_read_34 : decode zm_S_read.2.1 34 = .ok (.iconst (-1), 1) := by decide +kernel
theorem dz_S_read_35 : decode zm_S_read.2.1 35 = .ok (.ireturn, 1) := by decide +kernel
theorem dz_S_read_36 : decode zm_S_read.2.1 36 = .ok (.aload_n 0, 1) := by decide +kernel
theorem dz_S_read_37 : decode zm_S_read.2.1 37 = .ok (.getfield 40, 3) := by decide +kernel
theorem dz_S_read_40 : decode zm_S_read.2.1 40 = .ok (.aload_n 0, 1) := by decide +kernel
theorem dz_S_read_41 : decode zm_S_read.2.1 41 = .ok (.getfield 53, 3) := by decide +kernel
theorem dz_S_read_44 : decode zm_S_read.2.1 44 = .ok (.invokevirtual 174, 3) := by decide +kernel
theorem dz_S_read_47 : decode zm_S_read.2.1 47 = .ok (.iconst 0, 1) := by decide +kernel
theorem dz_S_read_48 : decode zm_S_read.2.1 48 = .ok (.istore 5, 2) := by decide +kernel
theorem dz_S_read_50 : decode zm_S_read.2.1 50 = .ok (.iconst 0, 1) := by decide +kernel
theorem dz_S_read_51 : decode zm_S_read.2.1 51 = .ok (.istore 6, 2) := by decide +kernel
theorem dz_S_read_53 : decode zm_S_read.2.1 53 = .ok (.iload 6, 2) := by decide +kernel
theorem dz_S_read_55 : decode zm_S_read.2.1 55 = .ok (.iload 4, 2) := by decide +kernel
theorem dz_S_read_57 : decode zm_S_read.2.1 57 = .ok (.if_icmp .ge 60, 3) := by decide +kernel
theorem dz_S_read_60 : decode zm_S_read.2.1 60 = .ok (.aload_n 0, 1) := by decide +kernel
theorem dz_S_read_61 : decode zm_S_read.2.1 61 = .ok (.getfield 26, 3) := by decide +kernel
theorem dz_S_read_64 : decode zm_S_read.2.1 64 = .ok (.iload_n 1, 1) := by decide +kernel
theorem dz_S_read_65 : decode zm_S_read.2.1 65 = .ok (.iload_n 2, 1) := by decide +kernel
theorem dz_S_read_66 : decode zm_S_read.2.1 66 = .ok (.iload_n 3, 1) := by decide +kernel
theorem dz_S_read_67 : decode zm_S_read.2.1 67 = .ok (.iload 6, 2) := by decide +kernel
theorem dz_S_read_69 : decode zm_S_read.2.1 69 = .ok (.iadd, 1) := by decide +kernel
theorem dz_S_read_70 : decode zm_S_read.2.1 70 = .ok (.invokevirtual 255, 3) := by decide +kernel
theorem dz_S_read_73 : decode zm_S_read.2.1 73 = .ok (.istore 5, 2) := by decide +kernel
theorem dz_S_read_75 : decode zm_S_read.2.1 75 = .ok (.iload 5, 2) := by decide +kernel
theorem dz_S_read_77 : decode zm_S_read.2.1 77 = .ok (.ifCond .eq 6, 3) := by decide +kernel
theorem dz_S_read_80 : decode zm_S_read.2.1 80 = .ok (.goto 37, 3) := by decide +kernel
theorem dz_S_read_83 : decode zm_S_read.2.1 83 = .ok (.aload_n 0, 1) := by decide +kernel
theorem dz_S_read_84 : decode zm_S_read.2.1 84 = .ok (.getfield 40, 3) := by decide +kernel
theorem dz_S_read_87 : decode zm_S_read.2.1 87 = .ok (.aload_n 0, 1) := by decide +kernel
theorem dz_S_read_88 : decode zm_S_read.2.1 88 = .ok (.getfield 26, 3) := by decide +kernel
theorem dz_S_read_91 : decode zm_S_read.2.1 91 = .ok (.iload_n 1, 1) := by decide +kernel
theorem dz_S_read_92 : decode zm_S_read.2.1 92 = .ok (.iload_n 3, 1) := by decide +kernel
theorem dz_S_read_93 : decode zm_S_read.2.1 93 = .ok (.iload 6, 2) := by decide +kernel
theorem dz_S_read_95 : decode zm_S_read.2.1 95 = .ok (.iadd, 1) := by decide +kernel
theorem dz_S_read_96 : decode zm_S_read.2.1 96 = .ok (.invokevirtual 261, 3) := by decide +kernel
theorem dz_S_read_99 : decode zm_S_read.2.1 99 = .ok (.invokevirtual 158, 3) := by decide +kernel
theorem dz_S_read_102 : decode zm_S_read.2.1 102 = .ok (.ifCond .ge 9, 3) := by decide +kernel
theorem dz_S_read_105 : decode zm_S_read.2.1 105 = .ok (.bipush (-20), 2) := by decide +kernel
theorem dz_S_read_107 : decode zm_S_read.2.1 107 = .ok (.iload 6, 2) := by decide +kernel
theorem dz_S_read_109 : decode zm_S_read.2.1 109 = .ok (.isub, 1) := by decide +kernel
theorem dz_S_read_110 : decode zm_S_read.2.1 110 = .ok (.ireturn, 1) := by decide +kernel
theorem dz_S_read_111 : decode zm_S_read.2.1 111 = .ok (.iinc 6 1, 3) := by decide +kernel
theorem dz_S_read_114 : decode zm_S_read.2.1 114 = .ok (.goto (-61), 3) := by decide +kernel
theorem dz_S_read_117 : decode zm_S_read.2.1 117 = .ok (.aload_n 0, 1) := by decide +kernel
theorem dz_S_read_118 : decode zm_S_read.2.1 118 = .ok (.getfield 53, 3) := by decide +kernel
theorem dz_S_read_121 : decode zm_S_read.2.1 121 = .ok (.aload_n 0, 1) := by decide +kernel
theorem dz_S_read_122 : decode zm_S_read.2.1 122 = .ok (.getfield 40, 3) := by decide +kernel
theorem dz_S_read_125 : decode zm_S_read.2.1 125 = .ok (.invokevirtual 174, 3) := by decide +kernel
theorem dz_S_read_128 : decode zm_S_read.2.1 128 = .ok (.aload_n 0, 1) := by decide +kernel
theorem dz_S_read_129 : decode zm_S_read.2.1 129 = .ok (.iload 5, 2) := by decide +kernel
theorem dz_S_read_131 : decode zm_S_read.2.1 131 = .ok (.putfield 264, 3) := by decide +kernel
theorem dz_S_read_134 : decode zm_S_read.2.1 134 = .ok (.iload 6, 2) := by decide +kernel
theorem dz_S_read_136 : decode zm_S_read.2.1 136 = .ok (.ireturn, 1) := by decide +kernel
theorem dz_S_torn_0 : decode zm_S_torn.2.1 0 = .ok (.aload_n 0, 1) := by decide +kernel
theorem dz_S_torn_1 : decode zm_S_torn.2.1 1 = .ok (.getfield 264, 3) := by decide +kernel
theorem dz_S_torn_4 : decode zm_S_torn.2.1 4 = .ok (.ireturn, 1) := by decide +kernel
theorem dz_S_count_0 : decode zm_S_count.2.1 0 = .ok (.iload_n 1, 1) := by decide +kernel
theorem dz_S_count_1 : decode zm_S_count.2.1 1 = .ok (.tableswitch 97 0 6 #[43, 48, 56, 64, 73, 81, 89], 43) := by decide +kernel
theorem dz_S_count_44 : decode zm_S_count.2.1 44 = .ok (.aload_n 0, 1) := by decide +kernel
theorem dz_S_count_45 : decode zm_S_count.2.1 45 = .ok (.getfield 80, 3) := by decide +kernel
theorem dz_S_count_48 : decode zm_S_count.2.1 48 = .ok (.ireturn, 1) := by decide +kernel
theorem dz_S_count_49 : decode zm_S_count.2.1 49 = .ok (.aload_n 0, 1) := by decide +kernel
theorem dz_S_count_50 : decode zm_S_count.2.1 50 = .ok (.getfield 83, 3) := by decide +kernel
theorem dz_S_count_53 : decode zm_S_count.2.1 53 = .ok (.invokestatic 198, 3) := by decide +kernel
theorem dz_S_count_56 : decode zm_S_count.2.1 56 = .ok (.ireturn, 1) := by decide +kernel
theorem dz_S_count_57 : decode zm_S_count.2.1 57 = .ok (.aload_n 0, 1) := by decide +kernel
theorem dz_S_count_58 : decode zm_S_count.2.1 58 = .ok (.getfield 12, 3) := by decide +kernel
theorem dz_S_count_61 : decode zm_S_count.2.1 61 = .ok (.getfield 63, 3) := by decide +kernel
theorem dz_S_count_64 : decode zm_S_count.2.1 64 = .ok (.ireturn, 1) := by decide +kernel
theorem dz_S_count_65 : decode zm_S_count.2.1 65 = .ok (.aload_n 0, 1) := by decide +kernel
theorem dz_S_count_66 : decode zm_S_count.2.1 66 = .ok (.getfield 26, 3) := by decide +kernel
theorem dz_S_count_69 : decode zm_S_count.2.1 69 = .ok (.iconst 0, 1) := by decide +kernel
theorem dz_S_count_70 : decode zm_S_count.2.1 70 = .ok (.invokevirtual 267, 3) := by decide +kernel
theorem dz_S_count_73 : decode zm_S_count.2.1 73 = .ok (.ireturn, 1) := by decide +kernel
theorem dz_S_count_74 : decode zm_S_count.2.1 74 = .ok (.aload_n 0, 1) := by decide +kernel
theorem dz_S_count_75 : decode zm_S_count.2.1 75 = .ok (.getfield 53, 3) := by decide +kernel
theorem dz_S_count_78 : decode zm_S_count.2.1 78 = .ok (.invokevirtual 270, 3) := by decide +kernel
theorem dz_S_count_81 : decode zm_S_count.2.1 81 = .ok (.ireturn, 1) := by decide +kernel
theorem dz_S_count_82 : decode zm_S_count.2.1 82 = .ok (.aload_n 0, 1) := by decide +kernel
theorem dz_S_count_83 : decode zm_S_count.2.1 83 = .ok (.getfield 53, 3) := by decide +kernel
theorem dz_S_count_86 : decode zm_S_count.2.1 86 = .ok (.invokevirtual 273, 3) := by decide +kernel
theorem dz_S_count_89 : decode zm_S_count.2.1 89 = .ok (.ireturn, 1) := by decide +kernel
theorem dz_S_count_90 : decode zm_S_count.2.1 90 = .ok (.aload_n 0, 1) := by decide +kernel
theorem dz_S_count_91 : decode zm_S_count.2.1 91 = .ok (.getfield 53, 3) := by decide +kernel
theorem dz_S_count_94 : decode zm_S_count.2.1 94 = .ok (.invokevirtual 276, 3) := by decide +kernel
theorem dz_S_count_97 : decode zm_S_count.2.1 97 = .ok (.ireturn, 1) := by decide +kernel
theorem dz_S_count_98 : decode zm_S_count.2.1 98 = .ok (.iconst (-1), 1) := by decide +kernel
theorem dz_S_count_99 : decode zm_S_count.2.1 99 = .ok (.ireturn, 1) := by decide +kernel
theorem dz_S_isFact_0 : decode zm_S_isFact.2.1 0 = .ok (.iload_n 0, 1) := by decide +kernel
theorem dz_S_isFact_1 : decode zm_S_isFact.2.1 1 = .ok (.ifCond .lt 12, 3) := by decide +kernel
theorem dz_S_isFact_4 : decode zm_S_isFact.2.1 4 = .ok (.iload_n 0, 1) := by decide +kernel
theorem dz_S_isFact_5 : decode zm_S_isFact.2.1 5 = .ok (.iconst 5, 1) := by decide +kernel
theorem dz_S_isFact_6 : decode zm_S_isFact.2.1 6 = .ok (.if_icmp .ge 7, 3) := by decide +kernel
theorem dz_S_isFact_9 : decode zm_S_isFact.2.1 9 = .ok (.iconst 1, 1) := by decide +kernel
theorem dz_S_isFact_10 : decode zm_S_isFact.2.1 10 = .ok (.goto 4, 3) := by decide +kernel
theorem dz_S_isFact_13 : decode zm_S_isFact.2.1 13 = .ok (.iconst 0, 1) := by decide +kernel
theorem dz_S_isFact_14 : decode zm_S_isFact.2.1 14 = .ok (.ireturn, 1) := by decide +kernel
theorem dz_S_isThing_0 : decode zm_S_isThing.2.1 0 = .ok (.iload_n 0, 1) := by decide +kernel
theorem dz_S_isThing_1 : decode zm_S_isThing.2.1 1 = .ok (.ifCond .lt 12, 3) := by decide +kernel
theorem dz_S_isThing_4 : decode zm_S_isThing.2.1 4 = .ok (.iload_n 0, 1) := by decide +kernel
theorem dz_S_isThing_5 : decode zm_S_isThing.2.1 5 = .ok (.iconst 4, 1) := by decide +kernel
theorem dz_S_isThing_6 : decode zm_S_isThing.2.1 6 = .ok (.if_icmp .ge 7, 3) := by decide +kernel
theorem dz_S_isThing_9 : decode zm_S_isThing.2.1 9 = .ok (.iconst 1, 1) := by decide +kernel
theorem dz_S_isThing_10 : decode zm_S_isThing.2.1 10 = .ok (.goto 4, 3) := by decide +kernel
theorem dz_S_isThing_13 : decode zm_S_isThing.2.1 13 = .ok (.iconst 0, 1) := by decide +kernel
theorem dz_S_isThing_14 : decode zm_S_isThing.2.1 14 = .ok (.ireturn, 1) := by decide +kernel
theorem dz_S_isPick_0 : decode zm_S_isPick.2.1 0 = .ok (.iload_n 0, 1) := by decide +kernel
theorem dz_S_isPick_1 : decode zm_S_isPick.2.1 1 = .ok (.ifCond .lt 12, 3) := by decide +kernel
theorem dz_S_isPick_4 : decode zm_S_isPick.2.1 4 = .ok (.iload_n 0, 1) := by decide +kernel
theorem dz_S_isPick_5 : decode zm_S_isPick.2.1 5 = .ok (.iconst 2, 1) := by decide +kernel
theorem dz_S_isPick_6 : decode zm_S_isPick.2.1 6 = .ok (.if_icmp .gt 7, 3) := by decide +kernel
theorem dz_S_isPick_9 : decode zm_S_isPick.2.1 9 = .ok (.iconst 1, 1) := by decide +kernel
theorem dz_S_isPick_10 : decode zm_S_isPick.2.1 10 = .ok (.goto 4, 3) := by decide +kernel
theorem dz_S_isPick_13 : decode zm_S_isPick.2.1 13 = .ok (.iconst 0, 1) := by decide +kernel
theorem dz_S_isPick_14 : decode zm_S_isPick.2.1 14 = .ok (.ireturn, 1) := by decide +kernel
theorem dz_S_shortestRow_0 : decode zm_S_shortestRow.2.1 0 = .ok (.aload_n 0, 1) := by decide +kernel
theorem dz_S_shortestRow_1 : decode zm_S_shortestRow.2.1 1 = .ok (.getfield 40, 3) := by decide +kernel
theorem dz_S_shortestRow_4 : decode zm_S_shortestRow.2.1 4 = .ok (.aload_n 0, 1) := by decide +kernel
theorem dz_S_shortestRow_5 : decode zm_S_shortestRow.2.1 5 = .ok (.getfield 53, 3) := by decide +kernel
theorem dz_S_shortestRow_8 : decode zm_S_shortestRow.2.1 8 = .ok (.invokevirtual 174, 3) := by decide +kernel
theorem dz_S_shortestRow_11 : decode zm_S_shortestRow.2.1 11 = .ok (.iconst 0, 1) := by decide +kernel
theorem dz_S_shortestRow_12 : decode zm_S_shortestRow.2.1 12 = .ok (.istore 4, 2) := by decide +kernel
theorem dz_S_shortestRow_14 : decode zm_S_shortestRow.2.1 14 = .ok (.iload 4, 2) := by decide +kernel
theorem dz_S_shortestRow_16 : decode zm_S_shortestRow.2.1 16 = .ok (.iload_n 3, 1) := by decide +kernel
theorem dz_S_shortestRow_17 : decode zm_S_shortestRow.2.1 17 = .ok (.if_icmp .gt 32, 3) := by decide +kernel
theorem dz_S_shortestRow_20 : decode zm_S_shortestRow.2.1 20 = .ok (.aload_n 0, 1) := by decide +kernel
theorem dz_S_shortestRow_21 : decode zm_S_shortestRow.2.1 21 = .ok (.getfield 40, 3) := by decide +kernel
theorem dz_S_shortestRow_24 : decode zm_S_shortestRow.2.1 24 = .ok (.aload_n 0, 1) := by decide +kernel
theorem dz_S_shortestRow_25 : decode zm_S_shortestRow.2.1 25 = .ok (.getfield 43, 3) := by decide +kernel
theorem dz_S_shortestRow_28 : decode zm_S_shortestRow.2.1 28 = .ok (.iload_n 1, 1) := by decide +kernel
theorem dz_S_shortestRow_29 : decode zm_S_shortestRow.2.1 29 = .ok (.iload_n 2, 1) := by decide +kernel
theorem dz_S_shortestRow_30 : decode zm_S_shortestRow.2.1 30 = .ok (.iload 4, 2) := by decide +kernel
theorem dz_S_shortestRow_32 : decode zm_S_shortestRow.2.1 32 = .ok (.iconst 0, 1) := by decide +kernel
theorem dz_S_shortestRow_33 : decode zm_S_shortestRow.2.1 33 = .ok (.iconst 0, 1) := by decide +kernel
theorem dz_S_shortestRow_34 : decode zm_S_shortestRow.2.1 34 = .ok (.invokestatic 279, 3) := by decide +kernel
theorem dz_S_shortestRow_37 : decode zm_S_shortestRow.2.1 37 = .ok (.ifCond .eq 6, 3) := by decide +kernel
theorem dz_S_shortestRow_40 : decode zm_S_shortestRow.2.1 40 = .ok (.iload 4, 2) := by decide +kernel
theorem dz_S_shortestRow_42 : decode zm_S_shortestRow.2.1 42 = .ok (.ireturn, 1) := by decide +kernel
theorem dz_S_shortestRow_43 : decode zm_S_shortestRow.2.1 43 = .ok (.iinc 4 1, 3) := by decide +kernel
theorem dz_S_shortestRow_46 : decode zm_S_shortestRow.2.1 46 = .ok (.goto (-32), 3) := by decide +kernel
theorem dz_S_shortestRow_49 : decode zm_S_shortestRow.2.1 49 = .ok (.bipush (-4), 2) := by decide +kernel
theorem dz_S_shortestRow_51 : decode zm_S_shortestRow.2.1 51 = .ok (.ireturn, 1) := by decide +kernel
theorem dz_S_findRow_0 : decode zm_S_findRow.2.1 0 = .ok (.iload 5, 2) := by decide +kernel
theorem dz_S_findRow_2 : decode zm_S_findRow.2.1 2 = .ok (.ifCond .lt 17, 3) := by decide +kernel
theorem dz_S_findRow_5 : decode zm_S_findRow.2.1 5 = .ok (.iload 5, 2) := by decide +kernel
theorem dz_S_findRow_7 : decode zm_S_findRow.2.1 7 = .ok (.iload 4, 2) := by decide +kernel
theorem dz_S_findRow_9 : decode zm_S_findRow.2.1 9 = .ok (.if_icmp .ge 10, 3) := by decide +kernel
theorem dz_S_findRow_12 : decode zm_S_findRow.2.1 12 = .ok (.iload 5, 2) := by decide +kernel
theorem dz_S_findRow_14 : decode zm_S_findRow.2.1 14 = .ok (.aload_n 1, 1) := by decide +kernel
theorem dz_S_findRow_15 : decode zm_S_findRow.2.1 15 = .ok (.arraylength, 1) := by decide +kernel
theorem dz_S_findRow_16 : decode zm_S_findRow.2.1 16 = .ok (.if_icmp .lt 24, 3) := by decide +kernel
theorem dz_S_findRow_19 : decode zm_S_findRow.2.1 19 = .ok (.aload_n 0, 1) := by decide +kernel
theorem dz_S_findRow_20 : decode zm_S_findRow.2.1 20 = .ok (.iload_n 3, 1) := by decide +kernel
theorem dz_S_findRow_21 : decode zm_S_findRow.2.1 21 = .ok (.aload_n 0, 1) := by decide +kernel
theorem dz_S_findRow_22 : decode zm_S_findRow.2.1 22 = .ok (.getfield 92, 3) := by decide +kernel
theorem dz_S_findRow_25 : decode zm_S_findRow.2.1 25 = .ok (.bipush 31, 2) := by decide +kernel
theorem dz_S_findRow_27 : decode zm_S_findRow.2.1 27 = .ok (.invokevirtual 171, 3) := by decide +kernel
theorem dz_S_findRow_30 : decode zm_S_findRow.2.1 30 = .ok (.iload_n 2, 1) := by decide +kernel
theorem dz_S_findRow_31 : decode zm_S_findRow.2.1 31 = .ok (.if_icmp .ne 7, 3) := by decide +kernel
theorem dz_S_findRow_34 : decode zm_S_findRow.2.1 34 = .ok (.iconst 1, 1) := by decide +kernel
theorem dz_S_findRow_35 : decode zm_S_findRow.2.1 35 = .ok (.goto 4, 3) := by decide +kernel
theorem dz_S_findRow_38 : decode zm_S_findRow.2.1 38 = .ok (.iconst 0, 1) := by decide +kernel
theorem dz_S_findRow_39 : decode zm_S_findRow.2.1 39 = .ok (.ireturn, 1) := by decide +kernel
theorem dz_S_findRow_40 : decode zm_S_findRow.2.1 40 = .ok (.iload 6, 2) := by decide +kernel
theorem dz_S_findRow_42 : decode zm_S_findRow.2.1 42 = .ok (.istore 7, 2) := by decide +kernel
theorem dz_S_findRow_44 : decode zm_S_findRow.2.1 44 = .ok (.iload 7, 2) := by decide +kernel
theorem dz_S_findRow_46 : decode zm_S_findRow.2.1 46 = .ok (.bipush 10, 2) := by decide +kernel
theorem dz_S_findRow_48 : decode zm_S_findRow.2.1 48 = .ok (.aload_n 0, 1) := by decide +kernel
theorem dz_S_findRow_49 : decode zm_S_findRow.2.1 49 = .ok (.getfield 86, 3) := by decide +kernel
theorem dz_S_findRow_52 : decode zm_S_findRow.2.1 52 = .ok (.imul, 1) := by decide +kernel
theorem dz_S_findRow_53 : decode zm_S_findRow.2.1 53 = .ok (.if_icmp .ge 57, 3) := by decide +kernel
theorem dz_S_findRow_56 : decode zm_S_findRow.2.1 56 = .ok (.aload_n 0, 1) := by decide +kernel
theorem dz_S_findRow_57 : decode zm_S_findRow.2.1 57 = .ok (.iload 7, 2) := by decide +kernel
theorem dz_S_findRow_59 : decode zm_S_findRow.2.1 59 = .ok (.invokevirtual 158, 3) := by decide +kernel
theorem dz_S_findRow_62 : decode zm_S_findRow.2.1 62 = .ok (.ifCond .ge 6, 3) := by decide +kernel
theorem dz_S_findRow_65 : decode zm_S_findRow.2.1 65 = .ok (.goto 39, 3) := by decide +kernel
theorem dz_S_findRow_68 : decode zm_S_findRow.2.1 68 = .ok (.aload_n 1, 1) := by decide +kernel
theorem dz_S_findRow_69 : decode zm_S_findRow.2.1 69 = .ok (.iload 5, 2) := by decide +kernel
theorem dz_S_findRow_71 : decode zm_S_findRow.2.1 71 = .ok (.iload 7, 2) := by decide +kernel
theorem dz_S_findRow_73 : decode zm_S_findRow.2.1 73 = .ok (.iastore, 1) := by decide +kernel
theorem dz_S_findRow_74 : decode zm_S_findRow.2.1 74 = .ok (.aload_n 0, 1) := by decide +kernel
theorem dz_S_findRow_75 : decode zm_S_findRow.2.1 75 = .ok (.aload_n 1, 1) := by decide +kernel
theorem dz_S_findRow_76 : decode zm_S_findRow.2.1 76 = .ok (.iload_n 2, 1) := by decide +kernel
theorem dz_S_findRow_77 : decode zm_S_findRow.2.1 77 = .ok (.iload_n 3, 1) := by decide +kernel
theorem dz_S_findRow_78 : decode zm_S_findRow.2.1 78 = .ok (.iload 4, 2) := by decide +kernel
theorem dz_S_findRow_80 : decode zm_S_findRow.2.1 80 = .ok (.iload 5, 2) := by decide +kernel
theorem dz_S_findRow_82 : decode zm_S_findRow.2.1 82 = .ok (.iconst 1, 1) := by decide +kernel
theorem dz_S_findRow_83 : decode zm_S_findRow.2.1 83 = .ok (.iadd, 1) := by decide +kernel
theorem dz_S_findRow_84 : decode zm_S_findRow.2.1 84 = .ok (.iload 7, 2) := by decide +kernel
theorem dz_S_findRow_86 : decode zm_S_findRow.2.1 86 = .ok (.invokestatic 279, 3) := by decide +kernel
theorem dz_S_findRow_89 : decode zm_S_findRow.2.1 89 = .ok (.istore 8, 2) := by decide +kernel
theorem dz_S_findRow_91 : decode zm_S_findRow.2.1 91 = .ok (.aload_n 0, 1) := by decide +kernel
theorem dz_S_findRow_92 : decode zm_S_findRow.2.1 92 = .ok (.iload 7, 2) := by decide +kernel
theorem dz_S_findRow_94 : decode zm_S_findRow.2.1 94 = .ok (.invokevirtual 181, 3) := by decide +kernel
theorem dz_S_findRow_97 : decode zm_S_findRow.2.1 97 = .ok (.iload 8, 2) := by decide +kernel
theorem dz_S_findRow_99 : decode zm_S_findRow.2.1 99 = .ok (.ifCond .eq 5, 3) := by decide +kernel
theorem dz_S_findRow_102 : decode zm_S_findRow.2.1 102 = .ok (.iconst 1, 1) := by decide +kernel
theorem dz_S_findRow_103 : decode zm_S_findRow.2.1 103 = .ok (.ireturn, 1) := by decide +kernel
theorem dz_S_findRow_104 : decode zm_S_findRow.2.1 104 = .ok (.iinc 7 1, 3) := by decide +kernel
theorem dz_S_findRow_107 : decode zm_S_findRow.2.1 107 = .ok (.goto (-63), 3) := by decide +kernel
theorem dz_S_findRow_110 : decode zm_S_findRow.2.1 110 = .ok (.iconst 0, 1) := by decide +kernel
theorem dz_S_findRow_111 : decode zm_S_findRow.2.1 111 = .ok (.ireturn, 1) := by decide +kernel
theorem dz_S_givingSomewhere_0 : decode zm_S_givingSomewhere.2.1 0 = .ok (.iconst 0, 1) := by decide +kernel
theorem dz_S_givingSomewhere_1 : decode zm_S_givingSomewhere.2.1 1 = .ok (.istore_n 1, 1) := by decide +kernel
theorem dz_S_givingSomewhere_2 : decode zm_S_givingSomewhere.2.1 2 = .ok (.iconst 0, 1) := by decide +kernel
theorem dz_S_givingSomewhere_3 : decode zm_S_givingSomewhere.2.1 3 = .ok (.istore_n 2, 1) := by decide +kernel
theorem dz_S_givingSomewhere_4 : decode zm_S_givingSomewhere.2.1 4 = .ok (.iload_n 2, 1) := by decide +kernel
theorem dz_S_givingSomewhere_5 : decode zm_S_givingSomewhere.2.1 5 = .ok (.aload_n 0, 1) := by decide +kernel
theorem dz_S_givingSomewhere_6 : decode zm_S_givingSomewhere.2.1 6 = .ok (.getfield 53, 3) := by decide +kernel
theorem dz_S_givingSomewhere_9 : decode zm_S_givingSomewhere.2.1 9 = .ok (.invokevirtual 206, 3) := by decide +kernel
theorem dz_S_givingSomewhere_12 : decode zm_S_givingSomewhere.2.1 12 = .ok (.if_icmp .ge 20, 3) := by decide +kernel
theorem dz_S_givingSomewhere_15 : decode zm_S_givingSomewhere.2.1 15 = .ok (.iload_n 1, 1) := by decide +kernel
theorem dz_S_givingSomewhere_16 : decode zm_S_givingSomewhere.2.1 16 = .ok (.aload_n 0, 1) := by decide +kernel
theorem dz_S_givingSomewhere_17 : decode zm_S_givingSomewhere.2.1 17 = .ok (.getfield 53, 3) := by decide +kernel
theorem dz_S_givingSomewhere_20 : decode zm_S_givingSomewhere.2.1 20 = .ok (.iload_n 2, 1) := by decide +kernel
theorem dz_S_givingSomewhere_21 : decode zm_S_givingSomewhere.2.1 21 = .ok (.invokevirtual 283, 3) := by decide +kernel
theorem dz_S_givingSomewhere_24 : decode zm_S_givingSomewhere.2.1 24 = .ok (.ior, 1) := by decide +kernel
theorem dz_S_givingSomewhere_25 : decode zm_S_givingSomewhere.2.1 25 = .ok (.istore_n 1, 1) := by decide +kernel
theorem dz_S_givingSomewhere_26 : decode zm_S_givingSomewhere.2.1 26 = .ok (.iinc 2 1, 3) := by decide +kernel
theorem dz_S_givingSomewhere_29 : decode zm_S_givingSomewhere.2.1 29 = .ok (.goto (-25), 3) := by decide +kernel
theorem dz_S_givingSomewhere_32 : decode zm_S_givingSomewhere.2.1 32 = .ok (.iload_n 1, 1) := by decide +kernel
theorem dz_S_givingSomewhere_33 : decode zm_S_givingSomewhere.2.1 33 = .ok (.ireturn, 1) := by decide +kernel
theorem dz_S_givingEverywhere_0 : decode zm_S_givingEverywhere.2.1 0 = .ok (.aload_n 0, 1) := by decide +kernel
theorem dz_S_givingEverywhere_1 : decode zm_S_givingEverywhere.2.1 1 = .ok (.getfield 53, 3) := by decide +kernel
theorem dz_S_givingEverywhere_4 : decode zm_S_givingEverywhere.2.1 4 = .ok (.invokevirtual 185, 3) := by decide +kernel
theorem dz_S_givingEverywhere_7 : decode zm_S_givingEverywhere.2.1 7 = .ok (.istore_n 1, 1) := by decide +kernel
theorem dz_S_givingEverywhere_8 : decode zm_S_givingEverywhere.2.1 8 = .ok (.iconst 0, 1) := by decide +kernel
theorem dz_S_givingEverywhere_9 : decode zm_S_givingEverywhere.2.1 9 = .ok (.istore_n 2, 1) := by decide +kernel
theorem dz_S_givingEverywhere_10 : decode zm_S_givingEverywhere.2.1 10 = .ok (.iload_n 2, 1) := by decide +kernel
theorem dz_S_givingEverywhere_11 : decode zm_S_givingEverywhere.2.1 11 = .ok (.aload_n 0, 1) := by decide +kernel
theorem dz_S_givingEverywhere_12 : decode zm_S_givingEverywhere.2.1 12 = .ok (.getfield 53, 3) := by decide +kernel
theorem dz_S_givingEverywhere_15 : decode zm_S_givingEverywhere.2.1 15 = .ok (.invokevirtual 206, 3) := by decide +kernel
theorem dz_S_givingEverywhere_18 : decode zm_S_givingEverywhere.2.1 18 = .ok (.if_icmp .ge 31, 3) := by decide +kernel
theorem dz_S_givingEverywhere_21 : decode zm_S_givingEverywhere.2.1 21 = .ok (.iload_n 2, 1) := by decide +kernel
theorem dz_S_givingEverywhere_22 : decode zm_S_givingEverywhere.2.1 22 = .ok (.aload_n 0, 1) := by decide +kernel
theorem dz_S_givingEverywhere_23 : decode zm_S_givingEverywhere.2.1 23 = .ok (.getfield 53, 3) := by decide +kernel
theorem dz_S_givingEverywhere_26 : decode zm_S_givingEverywhere.2.1 26 = .ok (.invokevirtual 226, 3) := by decide +kernel
theorem dz_S_givingEverywhere_29 : decode zm_S_givingEverywhere.2.1 29 = .ok (.if_icmp .eq 14, 3) := by decide +kernel
theorem dz_S_givingEverywhere_32 : decode zm_S_givingEverywhere.2.1 32 = .ok (.iload_n 1, 1) := by decide +kernel
theorem dz_S_givingEverywhere_33 : decode zm_S_givingEverywhere.2.1 33 = .ok (.aload_n 0, 1) := by decide +kernel
theorem dz_S_givingEverywhere_34 : decode zm_S_givingEverywhere.2.1 34 = .ok (.getfield 53, 3) := by decide +kernel
theorem dz_S_givingEverywhere_37 : decode zm_S_givingEverywhere.2.1 37 = .ok (.iload_n 2, 1) := by decide +kernel
theorem dz_S_givingEverywhere_38 : decode zm_S_givingEverywhere.2.1 38 = .ok (.invokevirtual 283, 3) := by decide +kernel
theorem dz_S_givingEverywhere_41 : decode zm_S_givingEverywhere.2.1 41 = .ok (.iand, 1) := by decide +kernel
theorem dz_S_givingEverywhere_42 : decode zm_S_givingEverywhere.2.1 42 = .ok (.istore_n 1, 1) := by decide +kernel
theorem dz_S_givingEverywhere_43 : decode zm_S_givingEverywhere.2.1 43 = .ok (.iinc 2 1, 3) := by decide +kernel
theorem dz_S_givingEverywhere_46 : decode zm_S_givingEverywhere.2.1 46 = .ok (.goto (-36), 3) := by decide +kernel
theorem dz_S_givingEverywhere_49 : decode zm_S_givingEverywhere.2.1 49 = .ok (.iload_n 1, 1) := by decide +kernel
theorem dz_S_givingEverywhere_50 : decode zm_S_givingEverywhere.2.1 50 = .ok (.ireturn, 1) := by decide +kernel
theorem dz_S_rulesAtWork_0 : decode zm_S_rulesAtWork.2.1 0 = .ok (.iconst 0, 1) := by decide +kernel
theorem dz_S_rulesAtWork_1 : decode zm_S_rulesAtWork.2.1 1 = .ok (.istore_n 3, 1) := by decide +kernel
theorem dz_S_rulesAtWork_2 : decode zm_S_rulesAtWork.2.1 2 = .ok (.iconst 0, 1) := by decide +kernel
theorem dz_S_rulesAtWork_3 : decode zm_S_rulesAtWork.2.1 3 = .ok (.istore 4, 2) := by decide +kernel
theorem dz_S_rulesAtWork_5 : decode zm_S_rulesAtWork.2.1 5 = .ok (.iload 4, 2) := by decide +kernel
theorem dz_S_rulesAtWork_7 : decode zm_S_rulesAtWork.2.1 7 = .ok (.aload_n 0, 1) := by decide +kernel
theorem dz_S_rulesAtWork_8 : decode zm_S_rulesAtWork.2.1 8 = .ok (.getfield 53, 3) := by decide +kernel
theorem dz_S_rulesAtWork_11 : decode zm_S_rulesAtWork.2.1 11 = .ok (.invokevirtual 206, 3) := by decide +kernel
theorem dz_S_rulesAtWork_14 : decode zm_S_rulesAtWork.2.1 14 = .ok (.if_icmp .ge 89, 3) := by decide +kernel
theorem dz_S_rulesAtWork_17 : decode zm_S_rulesAtWork.2.1 17 = .ok (.iconst 0, 1) := by decide +kernel
theorem dz_S_rulesAtWork_18 : decode zm_S_rulesAtWork.2.1 18 = .ok (.istore 5, 2) := by decide +kernel
theorem dz_S_rulesAtWork_20 : decode zm_S_rulesAtWork.2.1 20 = .ok (.iload 5, 2) := by decide +kernel
theorem dz_S_rulesAtWork_22 : decode zm_S_rulesAtWork.2.1 22 = .ok (.iconst 4, 1) := by decide +kernel
theorem dz_S_rulesAtWork_23 : decode zm_S_rulesAtWork.2.1 23 = .ok (.if_icmp .ge 74, 3) := by decide +kernel
theorem dz_S_rulesAtWork_26 : decode zm_S_rulesAtWork.2.1 26 = .ok (.aload_n 0, 1) := by decide +kernel
theorem dz_S_rulesAtWork_27 : decode zm_S_rulesAtWork.2.1 27 = .ok (.getfield 53, 3) := by decide +kernel
theorem dz_S_rulesAtWork_30 : decode zm_S_rulesAtWork.2.1 30 = .ok (.iload 5, 2) := by decide +kernel
theorem dz_S_rulesAtWork_32 : decode zm_S_rulesAtWork.2.1 32 = .ok (.iload 4, 2) := by decide +kernel
theorem dz_S_rulesAtWork_34 : decode zm_S_rulesAtWork.2.1 34 = .ok (.bipush 31, 2) := by decide +kernel
theorem dz_S_rulesAtWork_36 : decode zm_S_rulesAtWork.2.1 36 = .ok (.invokevirtual 154, 3) := by decide +kernel
theorem dz_S_rulesAtWork_39 : decode zm_S_rulesAtWork.2.1 39 = .ok (.istore 6, 2) := by decide +kernel
theorem dz_S_rulesAtWork_41 : decode zm_S_rulesAtWork.2.1 41 = .ok (.iload 6, 2) := by decide +kernel
theorem dz_S_rulesAtWork_43 : decode zm_S_rulesAtWork.2.1 43 = .ok (.bipush (-4), 2) := by decide +kernel
theorem dz_S_rulesAtWork_45 : decode zm_S_rulesAtWork.2.1 45 = .ok (.if_icmp .eq 46, 3) := by decide +kernel
theorem dz_S_rulesAtWork_48 : decode zm_S_rulesAtWork.2.1 48 = .ok (.iload_n 2, 1) := by decide +kernel
theorem dz_S_rulesAtWork_49 : decode zm_S_rulesAtWork.2.1 49 = .ok (.bipush (-4), 2) := by decide +kernel
theorem dz_S_rulesAtWork_51 : decode zm_S_rulesAtWork.2.1 51 = .ok (.if_icmp .eq 12, 3) := by decide +kernel
theorem dz_S_rulesAtWork_54 : decode zm_S_rulesAtWork.2.1 54 = .ok (.iload 5, 2) := by decide +kernel
theorem dz_S_rulesAtWork_56 : decode zm_S_rulesAtWork.2.1 56 = .ok (.iload_n 2, 1) := by decide +kernel
theorem dz_S_rulesAtWork_57 : decode zm_S_rulesAtWork.2.1 57 = .ok (.if_icmp .eq 6, 3) := by decide +kernel
theorem dz_S_rulesAtWork_60 : decode zm_S_rulesAtWork.2.1 60 = .ok (.goto 31, 3) := by decide +kernel
theorem dz_S_rulesAtWork_63 : decode zm_S_rulesAtWork.2.1 63 = .ok (.iload_n 1, 1) := by decide +kernel
theorem dz_S_rulesAtWork_64 : decode zm_S_rulesAtWork.2.1 64 = .ok (.bipush (-4), 2) := by decide +kernel
theorem dz_S_rulesAtWork_66 : decode zm_S_rulesAtWork.2.1 66 = .ok (.if_icmp .eq 18, 3) := by decide +kernel
theorem dz_S_rulesAtWork_69 : decode zm_S_rulesAtWork.2.1 69 = .ok (.aload_n 0, 1) := by decide +kernel
theorem dz_S_rulesAtWork_70 : decode zm_S_rulesAtWork.2.1 70 = .ok (.getfield 53, 3) := by decide +kernel
theorem dz_S_rulesAtWork_73 : decode zm_S_rulesAtWork.2.1 73 = .ok (.iload 6, 2) := by decide +kernel
theorem dz_S_rulesAtWork_75 : decode zm_S_rulesAtWork.2.1 75 = .ok (.iload 4, 2) := by decide +kernel
theorem dz_S_rulesAtWork_77 : decode zm_S_rulesAtWork.2.1 77 = .ok (.invokevirtual 144, 3) := by decide +kernel
theorem dz_S_rulesAtWork_80 : decode zm_S_rulesAtWork.2.1 80 = .ok (.iload_n 1, 1) := by decide +kernel
theorem dz_S_rulesAtWork_81 : decode zm_S_rulesAtWork.2.1 81 = .ok (.if_icmp .ne 10, 3) := by decide +kernel
theorem dz_S_rulesAtWork_84 : decode zm_S_rulesAtWork.2.1 84 = .ok (.iload_n 3, 1) := by decide +kernel
theorem dz_S_rulesAtWork_85 : decode zm_S_rulesAtWork.2.1 85 = .ok (.iconst 1, 1) := by decide +kernel
theorem dz_S_rulesAtWork_86 : decode zm_S_rulesAtWork.2.1 86 = .ok (.iload 6, 2) := by decide +kernel
theorem dz_S_rulesAtWork_88 : decode zm_S_rulesAtWork.2.1 88 = .ok (.ishl, 1) := by decide +kernel
theorem dz_S_rulesAtWork_89 : decode zm_S_rulesAtWork.2.1 89 = .ok (.ior, 1) := by decide +kernel
theorem dz_S_rulesAtWork_90 : decode zm_S_rulesAtWork.2.1 90 = .ok (.istore_n 3, 1) := by decide +kernel
theorem dz_S_rulesAtWork_91 : decode zm_S_rulesAtWork.2.1 91 = .ok (.iinc 5 1, 3) := by decide +kernel
theorem dz_S_rulesAtWork_94 : decode zm_S_rulesAtWork.2.1 94 = .ok (.goto (-74), 3) := by decide +kernel
theorem dz_S_rulesAtWork_97 : decode zm_S_rulesAtWork.2.1 97 = .ok (.iinc 4 1, 3) := by decide +kernel
theorem dz_S_rulesAtWork_100 : decode zm_S_rulesAtWork.2.1 100 = .ok (.goto (-95), 3) := by decide +kernel
theorem dz_S_rulesAtWork_103 : decode zm_S_rulesAtWork.2.1 103 = .ok (.iload_n 3, 1) := by decide +kernel
theorem dz_S_rulesAtWork_104 : decode zm_S_rulesAtWork.2.1 104 = .ok (.ireturn, 1) := by decide +kernel
theorem dz_S_sameOwnersBy_0 : decode zm_S_sameOwnersBy.2.1 0 = .ok (.iconst 0, 1) := by decide +kernel
theorem dz_S_sameOwnersBy_1 : decode zm_S_sameOwnersBy.2.1 1 = .ok (.istore_n 2, 1) := by decide +kernel
theorem dz_S_sameOwnersBy_2 : decode zm_S_sameOwnersBy.2.1 2 = .ok (.iload_n 2, 1) := by decide +kernel
theorem dz_S_sameOwnersBy_3 : decode zm_S_sameOwnersBy.2.1 3 = .ok (.aload_n 0, 1) := by decide +kernel
theorem dz_S_sameOwnersBy_4 : decode zm_S_sameOwnersBy.2.1 4 = .ok (.getfield 53, 3) := by decide +kernel
theorem dz_S_sameOwnersBy_7 : decode zm_S_sameOwnersBy.2.1 7 = .ok (.invokevirtual 206, 3) := by decide +kernel
theorem dz_S_sameOwnersBy_10 : decode zm_S_sameOwnersBy.2.1 10 = .ok (.if_icmp .ge 48, 3) := by decide +kernel
theorem dz_S_sameOwnersBy_13 : decode zm_S_sameOwnersBy.2.1 13 = .ok (.iconst 0, 1) := by decide +kernel
theorem dz_S_sameOwnersBy_14 : decode zm_S_sameOwnersBy.2.1 14 = .ok (.istore_n 3, 1) := by decide +kernel
theorem dz_S_sameOwnersBy_15 : decode zm_S_sameOwnersBy.2.1 15 = .ok (.iload_n 3, 1) := by decide +kernel
theorem dz_S_sameOwnersBy_16 : decode zm_S_sameOwnersBy.2.1 16 = .ok (.iconst 4, 1) := by decide +kernel
theorem dz_S_sameOwnersBy_17 : decode zm_S_sameOwnersBy.2.1 17 = .ok (.if_icmp .ge 35, 3) := by decide +kernel
theorem dz_S_sameOwnersBy_20 : decode zm_S_sameOwnersBy.2.1 20 = .ok (.aload_n 0, 1) := by decide +kernel
theorem dz_S_sameOwnersBy_21 : decode zm_S_sameOwnersBy.2.1 21 = .ok (.getfield 53, 3) := by decide +kernel
theorem dz_S_sameOwnersBy_24 : decode zm_S_sameOwnersBy.2.1 24 = .ok (.iload_n 3, 1) := by decide +kernel
theorem dz_S_sameOwnersBy_25 : decode zm_S_sameOwnersBy.2.1 25 = .ok (.iload_n 2, 1) := by decide +kernel
theorem dz_S_sameOwnersBy_26 : decode zm_S_sameOwnersBy.2.1 26 = .ok (.iload_n 1, 1) := by decide +kernel
theorem dz_S_sameOwnersBy_27 : decode zm_S_sameOwnersBy.2.1 27 = .ok (.invokevirtual 171, 3) := by decide +kernel
theorem dz_S_sameOwnersBy_30 : decode zm_S_sameOwnersBy.2.1 30 = .ok (.aload_n 0, 1) := by decide +kernel
theorem dz_S_sameOwnersBy_31 : decode zm_S_sameOwnersBy.2.1 31 = .ok (.getfield 53, 3) := by decide +kernel
theorem dz_S_sameOwnersBy_34 : decode zm_S_sameOwnersBy.2.1 34 = .ok (.iload_n 3, 1) := by decide +kernel
theorem dz_S_sameOwnersBy_35 : decode zm_S_sameOwnersBy.2.1 35 = .ok (.iload_n 2, 1) := by decide +kernel
theorem dz_S_sameOwnersBy_36 : decode zm_S_sameOwnersBy.2.1 36 = .ok (.bipush 31, 2) := by decide +kernel
theorem dz_S_sameOwnersBy_38 : decode zm_S_sameOwnersBy.2.1 38 = .ok (.invokevirtual 171, 3) := by decide +kernel
theorem dz_S_sameOwnersBy_41 : decode zm_S_sameOwnersBy.2.1 41 = .ok (.if_icmp .eq 5, 3) := by decide +kernel
theorem dz_S_sameOwnersBy_44 : decode zm_S_sameOwnersBy.2.1 44 = .ok (.iconst 0, 1) := by decide +kernel
theorem dz_S_sameOwnersBy_45 : decode zm_S_sameOwnersBy.2.1 45 = .ok (.ireturn, 1) := by decide +kernel
theorem dz_S_sameOwnersBy_46 : decode zm_S_sameOwnersBy.2.1 46 = .ok (.iinc 3 1, 3) := by decide +kernel
theorem dz_S_sameOwnersBy_49 : decode zm_S_sameOwnersBy.2.1 49 = .ok (.goto (-34), 3) := by decide +kernel
theorem dz_S_sameOwnersBy_52 : decode zm_S_sameOwnersBy.2.1 52 = .ok (.iinc 2 1, 3) := by decide +kernel
theorem dz_S_sameOwnersBy_55 : decode zm_S_sameOwnersBy.2.1 55 = .ok (.goto (-53), 3) := by decide +kernel
theorem dz_S_sameOwnersBy_58 : decode zm_S_sameOwnersBy.2.1 58 = .ok (.iconst 1, 1) := by decide +kernel
theorem dz_S_sameOwnersBy_59 : decode zm_S_sameOwnersBy.2.1 59 = .ok (.ireturn, 1) := by decide +kernel
theorem dz_S_waysTo_0 : decode zm_S_waysTo.2.1 0 = .ok (.iload_n 1, 1) := by decide +kernel
theorem dz_S_waysTo_1 : decode zm_S_waysTo.2.1 1 = .ok (.aload_n 0, 1) := by decide +kernel
theorem dz_S_waysTo_2 : decode zm_S_waysTo.2.1 2 = .ok (.getfield 53, 3) := by decide +kernel
theorem dz_S_waysTo_5 : decode zm_S_waysTo.2.1 5 = .ok (.getfield 92, 3) := by decide +kernel
theorem dz_S_waysTo_8 : decode zm_S_waysTo.2.1 8 = .ok (.iconst (-1), 1) := by decide +kernel
theorem dz_S_waysTo_9 : decode zm_S_waysTo.2.1 9 = .ok (.ixor, 1) := by decide +kernel
theorem dz_S_waysTo_10 : decode zm_S_waysTo.2.1 10 = .ok (.iand, 1) := by decide +kernel
theorem dz_S_waysTo_11 : decode zm_S_waysTo.2.1 11 = .ok (.invokestatic 198, 3) := by decide +kernel
theorem dz_S_waysTo_14 : decode zm_S_waysTo.2.1 14 = .ok (.istore_n 3, 1) := by decide +kernel
theorem dz_S_waysTo_15 : decode zm_S_waysTo.2.1 15 = .ok (.aload_n 0, 1) := by decide +kernel
theorem dz_S_waysTo_16 : decode zm_S_waysTo.2.1 16 = .ok (.getfield 53, 3) := by decide +kernel
theorem dz_S_waysTo_19 : decode zm_S_waysTo.2.1 19 = .ok (.getfield 86, 3) := by decide +kernel
theorem dz_S_waysTo_22 : decode zm_S_waysTo.2.1 22 = .ok (.iload_n 1, 1) := by decide +kernel
theorem dz_S_waysTo_23 : decode zm_S_waysTo.2.1 23 = .ok (.invokestatic 198, 3) := by decide +kernel
theorem dz_S_waysTo_26 : decode zm_S_waysTo.2.1 26 = .ok (.isub, 1) := by decide +kernel
theorem dz_S_waysTo_27 : decode zm_S_waysTo.2.1 27 = .ok (.istore 4, 2) := by decide +kernel
theorem dz_S_waysTo_29 : decode zm_S_waysTo.2.1 29 = .ok (.iload_n 2, 1) := by decide +kernel
theorem dz_S_waysTo_30 : decode zm_S_waysTo.2.1 30 = .ok (.iload_n 3, 1) := by decide +kernel
theorem dz_S_waysTo_31 : decode zm_S_waysTo.2.1 31 = .ok (.invokestatic 215, 3) := by decide +kernel
theorem dz_S_waysTo_34 : decode zm_S_waysTo.2.1 34 = .ok (.bipush 10, 2) := by decide +kernel
theorem dz_S_waysTo_36 : decode zm_S_waysTo.2.1 36 = .ok (.iload_n 2, 1) := by decide +kernel
theorem dz_S_waysTo_37 : decode zm_S_waysTo.2.1 37 = .ok (.isub, 1) := by decide +kernel
theorem dz_S_waysTo_38 : decode zm_S_waysTo.2.1 38 = .ok (.iload 4, 2) := by decide +kernel
theorem dz_S_waysTo_40 : decode zm_S_waysTo.2.1 40 = .ok (.invokestatic 215, 3) := by decide +kernel
theorem dz_S_waysTo_43 : decode zm_S_waysTo.2.1 43 = .ok (.lmul, 1) := by decide +kernel
theorem dz_S_waysTo_44 : decode zm_S_waysTo.2.1 44 = .ok (.lreturn, 1) := by decide +kernel
theorem dz_S_isAsSeen_0 : decode zm_S_isAsSeen.2.1 0 = .ok (.iconst 0, 1) := by decide +kernel
theorem dz_S_isAsSeen_1 : decode zm_S_isAsSeen.2.1 1 = .ok (.istore_n 2, 1) := by decide +kernel
theorem dz_S_isAsSeen_2 : decode zm_S_isAsSeen.2.1 2 = .ok (.iload_n 2, 1) := by decide +kernel
theorem dz_S_isAsSeen_3 : decode zm_S_isAsSeen.2.1 3 = .ok (.aload_n 0, 1) := by decide +kernel
theorem dz_S_isAsSeen_4 : decode zm_S_isAsSeen.2.1 4 = .ok (.getfield 80, 3) := by decide +kernel
theorem dz_S_isAsSeen_7 : decode zm_S_isAsSeen.2.1 7 = .ok (.if_icmp .ge 42, 3) := by decide +kernel
theorem dz_S_isAsSeen_10 : decode zm_S_isAsSeen.2.1 10 = .ok (.iload_n 2, 1) := by decide +kernel
theorem dz_S_isAsSeen_11 : decode zm_S_isAsSeen.2.1 11 = .ok (.bipush 6, 2) := by decide +kernel
theorem dz_S_isAsSeen_13 : decode zm_S_isAsSeen.2.1 13 = .ok (.if_icmp .ge 36, 3) := by decide +kernel
theorem dz_S_isAsSeen_16 : decode zm_S_isAsSeen.2.1 16 = .ok (.aload_n 0, 1) := by decide +kernel
theorem dz_S_isAsSeen_17 : decode zm_S_isAsSeen.2.1 17 = .ok (.getfield 53, 3) := by decide +kernel
theorem dz_S_isAsSeen_20 : decode zm_S_isAsSeen.2.1 20 = .ok (.aload_n 0, 1) := by decide +kernel
theorem dz_S_isAsSeen_21 : decode zm_S_isAsSeen.2.1 21 = .ok (.getfield 47, 3) := by decide +kernel
theorem dz_S_isAsSeen_24 : decode zm_S_isAsSeen.2.1 24 = .ok (.iload_n 2, 1) := by decide +kernel
theorem dz_S_isAsSeen_25 : decode zm_S_isAsSeen.2.1 25 = .ok (.iaload, 1) := by decide +kernel
theorem dz_S_isAsSeen_26 : decode zm_S_isAsSeen.2.1 26 = .ok (.iload_n 1, 1) := by decide +kernel
theorem dz_S_isAsSeen_27 : decode zm_S_isAsSeen.2.1 27 = .ok (.bipush 31, 2) := by decide +kernel
theorem dz_S_isAsSeen_29 : decode zm_S_isAsSeen.2.1 29 = .ok (.invokevirtual 171, 3) := by decide +kernel
theorem dz_S_isAsSeen_32 : decode zm_S_isAsSeen.2.1 32 = .ok (.aload_n 0, 1) := by decide +kernel
theorem dz_S_isAsSeen_33 : decode zm_S_isAsSeen.2.1 33 = .ok (.getfield 50, 3) := by decide +kernel
theorem dz_S_isAsSeen_36 : decode zm_S_isAsSeen.2.1 36 = .ok (.iload_n 2, 1) := by decide +kernel
theorem dz_S_isAsSeen_37 : decode zm_S_isAsSeen.2.1 37 = .ok (.iaload, 1) := by decide +kernel
theorem dz_S_isAsSeen_38 : decode zm_S_isAsSeen.2.1 38 = .ok (.if_icmp .eq 5, 3) := by decide +kernel
theorem dz_S_isAsSeen_41 : decode zm_S_isAsSeen.2.1 41 = .ok (.iconst 0, 1) := by decide +kernel
theorem dz_S_isAsSeen_42 : decode zm_S_isAsSeen.2.1 42 = .ok (.ireturn, 1) := by decide +kernel
theorem dz_S_isAsSeen_43 : decode zm_S_isAsSeen.2.1 43 = .ok (.iinc 2 1, 3) := by decide +kernel
theorem dz_S_isAsSeen_46 : decode zm_S_isAsSeen.2.1 46 = .ok (.goto (-44), 3) := by decide +kernel
theorem dz_S_isAsSeen_49 : decode zm_S_isAsSeen.2.1 49 = .ok (.iconst 1, 1) := by decide +kernel
theorem dz_S_isAsSeen_50 : decode zm_S_isAsSeen.2.1 50 = .ok (.ireturn, 1) := by decide +kernel
theorem dz_S_waysAtBest_0 : decode zm_S_waysAtBest.2.1 0 = .ok (.aload_n 0, 1) := by decide +kernel
theorem dz_S_waysAtBest_1 : decode zm_S_waysAtBest.2.1 1 = .ok (.getfield 40, 3) := by decide +kernel
theorem dz_S_waysAtBest_4 : decode zm_S_waysAtBest.2.1 4 = .ok (.iload_n 2, 1) := by decide +kernel
theorem dz_S_waysAtBest_5 : decode zm_S_waysAtBest.2.1 5 = .ok (.aload_n 0, 1) := by decide +kernel
theorem dz_S_waysAtBest_6 : decode zm_S_waysAtBest.2.1 6 = .ok (.getfield 40, 3) := by decide +kernel
theorem dz_S_waysAtBest_9 : decode zm_S_waysAtBest.2.1 9 = .ok (.getfield 92, 3) := by decide +kernel
theorem dz_S_waysAtBest_12 : decode zm_S_waysAtBest.2.1 12 = .ok (.bipush 31, 2) := by decide +kernel
theorem dz_S_waysAtBest_14 : decode zm_S_waysAtBest.2.1 14 = .ok (.invokevirtual 171, 3) := by decide +kernel
theorem dz_S_waysAtBest_17 : decode zm_S_waysAtBest.2.1 17 = .ok (.iload_n 1, 1) := by decide +kernel
theorem dz_S_waysAtBest_18 : decode zm_S_waysAtBest.2.1 18 = .ok (.if_icmp .ne 7, 3) := by decide +kernel
theorem dz_S_waysAtBest_21 : decode zm_S_waysAtBest.2.1 21 = .ok (.iconst 1, 1) := by decide +kernel
theorem dz_S_waysAtBest_22 : decode zm_S_waysAtBest.2.1 22 = .ok (.goto 4, 3) := by decide +kernel
theorem dz_S_waysAtBest_25 : decode zm_S_waysAtBest.2.1 25 = .ok (.iconst 0, 1) := by decide +kernel
theorem dz_S_waysAtBest_26 : decode zm_S_waysAtBest.2.1 26 = .ok (.istore 4, 2) := by decide +kernel
theorem dz_S_waysAtBest_28 : decode zm_S_waysAtBest.2.1 28 = .ok (.iload 4, 2) := by decide +kernel
theorem dz_S_waysAtBest_30 : decode zm_S_waysAtBest.2.1 30 = .ok (.ifCond .eq 12, 3) := by decide +kernel
theorem dz_S_waysAtBest_33 : decode zm_S_waysAtBest.2.1 33 = .ok (.bipush 10, 2) := by decide +kernel
theorem dz_S_waysAtBest_35 : decode zm_S_waysAtBest.2.1 35 = .ok (.iload_n 3, 1) := by decide +kernel
theorem dz_S_waysAtBest_36 : decode zm_S_waysAtBest.2.1 36 = .ok (.invokestatic 215, 3) := by decide +kernel
theorem dz_S_waysAtBest_39 : decode zm_S_waysAtBest.2.1 39 = .ok (.goto 4, 3) := by decide +kernel
theorem dz_S_waysAtBest_42 : decode zm_S_waysAtBest.2.1 42 = .ok (.lconst 0, 1) := by decide +kernel
theorem dz_S_waysAtBest_43 : decode zm_S_waysAtBest.2.1 43 = .ok (.lstore 5, 2) := by decide +kernel
theorem dz_S_waysAtBest_45 : decode zm_S_waysAtBest.2.1 45 = .ok (.iconst 0, 1) := by decide +kernel
theorem dz_S_waysAtBest_46 : decode zm_S_waysAtBest.2.1 46 = .ok (.istore 7, 2) := by decide +kernel
theorem dz_S_waysAtBest_48 : decode zm_S_waysAtBest.2.1 48 = .ok (.iload 7, 2) := by decide +kernel
theorem dz_S_waysAtBest_50 : decode zm_S_waysAtBest.2.1 50 = .ok (.iconst 5, 1) := by decide +kernel
theorem dz_S_waysAtBest_51 : decode zm_S_waysAtBest.2.1 51 = .ok (.if_icmp .ge 25, 3) := by decide +kernel
theorem dz_S_waysAtBest_54 : decode zm_S_waysAtBest.2.1 54 = .ok (.lload 5, 2) := by decide +kernel
theorem dz_S_waysAtBest_56 : decode zm_S_waysAtBest.2.1 56 = .ok (.aload_n 0, 1) := by decide +kernel
theorem dz_S_waysAtBest_57 : decode zm_S_waysAtBest.2.1 57 = .ok (.iload 7, 2) := by decide +kernel
theorem dz_S_waysAtBest_59 : decode zm_S_waysAtBest.2.1 59 = .ok (.iload_n 1, 1) := by decide +kernel
theorem dz_S_waysAtBest_60 : decode zm_S_waysAtBest.2.1 60 = .ok (.iload_n 2, 1) := by decide +kernel
theorem dz_S_waysAtBest_61 : decode zm_S_waysAtBest.2.1 61 = .ok (.iload_n 3, 1) := by decide +kernel
theorem dz_S_waysAtBest_62 : decode zm_S_waysAtBest.2.1 62 = .ok (.invokevirtual 222, 3) := by decide +kernel
theorem dz_S_waysAtBest_65 : decode zm_S_waysAtBest.2.1 65 = .ok (.invokestatic 286, 3) := by decide +kernel
theorem dz_S_waysAtBest_68 : decode zm_S_waysAtBest.2.1 68 = .ok (.lstore 5, 2) := by decide +kernel
theorem dz_S_waysAtBest_70 : decode zm_S_waysAtBest.2.1 70 = .ok (.iinc 7 1, 3) := by decide +kernel
theorem dz_S_waysAtBest_73 : decode zm_S_waysAtBest.2.1 73 = .ok (.goto (-25), 3) := by decide +kernel
theorem dz_S_waysAtBest_76 : decode zm_S_waysAtBest.2.1 76 = .ok (.lload 5, 2) := by decide +kernel
theorem dz_S_waysAtBest_78 : decode zm_S_waysAtBest.2.1 78 = .ok (.lreturn, 1) := by decide +kernel
theorem dz_S_waysTryingFor_0 : decode zm_S_waysTryingFor.2.1 0 = .ok (.iload 4, 2) := by decide +kernel
theorem dz_S_waysTryingFor_2 : decode zm_S_waysTryingFor.2.1 2 = .ok (.ifCond .le 39, 3) := by decide +kernel
theorem dz_S_waysTryingFor_5 : decode zm_S_waysTryingFor.2.1 5 = .ok (.aload_n 0, 1) := by decide +kernel
theorem dz_S_waysTryingFor_6 : decode zm_S_waysTryingFor.2.1 6 = .ok (.getfield 40, 3) := by decide +kernel
theorem dz_S_waysTryingFor_9 : decode zm_S_waysTryingFor.2.1 9 = .ok (.iload_n 2, 1) := by decide +kernel
theorem dz_S_waysTryingFor_10 : decode zm_S_waysTryingFor.2.1 10 = .ok (.invokevirtual 95, 3) := by decide +kernel
theorem dz_S_waysTryingFor_13 : decode zm_S_waysTryingFor.2.1 13 = .ok (.ifCond .eq 28, 3) := by decide +kernel
theorem dz_S_waysTryingFor_16 : decode zm_S_waysTryingFor.2.1 16 = .ok (.aload_n 0, 1) := by decide +kernel
theorem dz_S_waysTryingFor_17 : decode zm_S_waysTryingFor.2.1 17 = .ok (.getfield 40, 3) := by decide +kernel
theorem dz_S_waysTryingFor_20 : decode zm_S_waysTryingFor.2.1 20 = .ok (.getfield 104, 3) := by decide +kernel
theorem dz_S_waysTryingFor_23 : decode zm_S_waysTryingFor.2.1 23 = .ok (.iload_n 2, 1) := by decide +kernel
theorem dz_S_waysTryingFor_24 : decode zm_S_waysTryingFor.2.1 24 = .ok (.iaload, 1) := by decide +kernel
theorem dz_S_waysTryingFor_25 : decode zm_S_waysTryingFor.2.1 25 = .ok (.iconst 3, 1) := by decide +kernel
theorem dz_S_waysTryingFor_26 : decode zm_S_waysTryingFor.2.1 26 = .ok (.if_icmp .ge 15, 3) := by decide +kernel
theorem dz_S_waysTryingFor_29 : decode zm_S_waysTryingFor.2.1 29 = .ok (.aload_n 0, 1) := by decide +kernel
theorem dz_S_waysTryingFor_30 : decode zm_S_waysTryingFor.2.1 30 = .ok (.getfield 40, 3) := by decide +kernel
theorem dz_S_waysTryingFor_33 : decode zm_S_waysTryingFor.2.1 33 = .ok (.iload_n 2, 1) := by decide +kernel
theorem dz_S_waysTryingFor_34 : decode zm_S_waysTryingFor.2.1 34 = .ok (.iload_n 1, 1) := by decide +kernel
theorem dz_S_waysTryingFor_35 : decode zm_S_waysTryingFor.2.1 35 = .ok (.invokevirtual 161, 3) := by decide +kernel
theorem dz_S_waysTryingFor_38 : decode zm_S_waysTryingFor.2.1 38 = .ok (.ifCond .eq 7, 3) := by decide +kernel
theorem dz_S_waysTryingFor_41 : decode zm_S_waysTryingFor.2.1 41 = .ok (.ldc2_w 292, 3) := by decide +kernel
theorem dz_S_waysTryingFor_44 : decode zm_S_waysTryingFor.2.1 44 = .ok (.lreturn, 1) := by decide +kernel
theorem dz_S_waysTryingFor_45 : decode zm_S_waysTryingFor.2.1 45 = .ok (.aload_n 0, 1) := by decide +kernel
theorem dz_S_waysTryingFor_46 : decode zm_S_waysTryingFor.2.1 46 = .ok (.getfield 40, 3) := by decide +kernel
theorem dz_S_waysTryingFor_49 : decode zm_S_waysTryingFor.2.1 49 = .ok (.getfield 104, 3) := by decide +kernel
theorem dz_S_waysTryingFor_52 : decode zm_S_waysTryingFor.2.1 52 = .ok (.iload_n 2, 1) := by decide +kernel
theorem dz_S_waysTryingFor_53 : decode zm_S_waysTryingFor.2.1 53 = .ok (.dup2, 1) := by decide +kernel
theorem dz_S_waysTryingFor_54 : decode zm_S_waysTryingFor.2.1 54 = .ok (.iaload, 1) := by decide +kernel
theorem dz_S_waysTryingFor_55 : decode zm_S_waysTryingFor.2.1 55 = .ok (.iconst 1, 1) := by decide +kernel
theorem dz_S_waysTryingFor_56 : decode zm_S_waysTryingFor.2.1 56 = .ok (.iadd, 1) := by decide +kernel
theorem dz_S_waysTryingFor_57 : decode zm_S_waysTryingFor.2.1 57 = .ok (.iastore, 1) := by decide +kernel
theorem dz_S_waysTryingFor_58 : decode zm_S_waysTryingFor.2.1 58 = .ok (.aload_n 0, 1) := by decide +kernel
theorem dz_S_waysTryingFor_59 : decode zm_S_waysTryingFor.2.1 59 = .ok (.iload_n 2, 1) := by decide +kernel
theorem dz_S_waysTryingFor_60 : decode zm_S_waysTryingFor.2.1 60 = .ok (.iload_n 3, 1) := by decide +kernel
theorem dz_S_waysTryingFor_61 : decode zm_S_waysTryingFor.2.1 61 = .ok (.iload 4, 2) := by decide +kernel
theorem dz_S_waysTryingFor_63 : decode zm_S_waysTryingFor.2.1 63 = .ok (.iconst 1, 1) := by decide +kernel
theorem dz_S_waysTryingFor_64 : decode zm_S_waysTryingFor.2.1 64 = .ok (.isub, 1) := by decide +kernel
theorem dz_S_waysTryingFor_65 : decode zm_S_waysTryingFor.2.1 65 = .ok (.invokevirtual 294, 3) := by decide +kernel
theorem dz_S_waysTryingFor_68 : decode zm_S_waysTryingFor.2.1 68 = .ok (.lstore 5, 2) := by decide +kernel
theorem dz_S_waysTryingFor_70 : decode zm_S_waysTryingFor.2.1 70 = .ok (.aload_n 0, 1) := by decide +kernel
theorem dz_S_waysTryingFor_71 : decode zm_S_waysTryingFor.2.1 71 = .ok (.getfield 40, 3) := by decide +kernel
theorem dz_S_waysTryingFor_74 : decode zm_S_waysTryingFor.2.1 74 = .ok (.getfield 101, 3) := by decide +kernel
theorem dz_S_waysTryingFor_77 : decode zm_S_waysTryingFor.2.1 77 = .ok (.iload_n 2, 1) := by decide +kernel
theorem dz_S_waysTryingFor_78 : decode zm_S_waysTryingFor.2.1 78 = .ok (.dup2, 1) := by decide +kernel
theorem dz_S_waysTryingFor_79 : decode zm_S_waysTryingFor.2.1 79 = .ok (.iaload, 1) := by decide +kernel
theorem dz_S_waysTryingFor_80 : decode zm_S_waysTryingFor.2.1 80 = .ok (.iconst 1, 1) := by decide +kernel
theorem dz_S_waysTryingFor_81 : decode zm_S_waysTryingFor.2.1 81 = .ok (.iload_n 1, 1) := by decide +kernel
theorem dz_S_waysTryingFor_82 : decode zm_S_waysTryingFor.2.1 82 = .ok (.ishl, 1) := by decide +kernel
theorem dz_S_waysTryingFor_83 : decode zm_S_waysTryingFor.2.1 83 = .ok (.ior, 1) := by decide +kernel
theorem dz_S_waysTryingFor_84 : decode zm_S_waysTryingFor.2.1 84 = .ok (.iastore, 1) := by decide +kernel
theorem dz_S_waysTryingFor_85 : decode zm_S_waysTryingFor.2.1 85 = .ok (.aload_n 0, 1) := by decide +kernel
theorem dz_S_waysTryingFor_86 : decode zm_S_waysTryingFor.2.1 86 = .ok (.iload_n 2, 1) := by decide +kernel
theorem dz_S_waysTryingFor_87 : decode zm_S_waysTryingFor.2.1 87 = .ok (.iload_n 3, 1) := by decide +kernel
theorem dz_S_waysTryingFor_88 : decode zm_S_waysTryingFor.2.1 88 = .ok (.iload 4, 2) := by decide +kernel
theorem dz_S_waysTryingFor_90 : decode zm_S_waysTryingFor.2.1 90 = .ok (.iconst 1, 1) := by decide +kernel
theorem dz_S_waysTryingFor_91 : decode zm_S_waysTryingFor.2.1 91 = .ok (.isub, 1) := by decide +kernel
theorem dz_S_waysTryingFor_92 : decode zm_S_waysTryingFor.2.1 92 = .ok (.invokevirtual 294, 3) := by decide +kernel
theorem dz_S_waysTryingFor_95 : decode zm_S_waysTryingFor.2.1 95 = .ok (.lstore 7, 2) := by decide +kernel
theorem dz_S_waysTryingFor_97 : decode zm_S_waysTryingFor.2.1 97 = .ok (.aload_n 0, 1) := by decide +kernel
theorem dz_S_waysTryingFor_98 : decode zm_S_waysTryingFor.2.1 98 = .ok (.getfield 40, 3) := by decide +kernel
theorem dz_S_waysTryingFor_101 : decode zm_S_waysTryingFor.2.1 101 = .ok (.getfield 101, 3) := by decide +kernel
theorem dz_S_waysTryingFor_104 : decode zm_S_waysTryingFor.2.1 104 = .ok (.iload_n 2, 1) := by decide +kernel
theorem dz_S_waysTryingFor_105 : decode zm_S_waysTryingFor.2.1 105 = .ok (.dup2, 1) := by decide +kernel
theorem dz_S_waysTryingFor_106 : decode zm_S_waysTryingFor.2.1 106 = .ok (.iaload, 1) := by decide +kernel
theorem dz_S_waysTryingFor_107 : decode zm_S_waysTryingFor.2.1 107 = .ok (.iconst 1, 1) := by decide +kernel
theorem dz_S_waysTryingFor_108 : decode zm_S_waysTryingFor.2.1 108 = .ok (.iload_n 1, 1) := by decide +kernel
theorem dz_S_waysTryingFor_109 : decode zm_S_waysTryingFor.2.1 109 = .ok (.ishl, 1) := by decide +kernel
theorem dz_S_waysTryingFor_110 : decode zm_S_waysTryingFor.2.1 110 = .ok (.iconst (-1), 1) := by decide +kernel
theorem dz_S_waysTryingFor_111 : decode zm_S_waysTryingFor.2.1 111 = .ok (.ixor, 1) := by decide +kernel
theorem dz_S_waysTryingFor_112 : decode zm_S_waysTryingFor.2.1 112 = .ok (.iand, 1) := by decide +kernel
theorem dz_S_waysTryingFor_113 : decode zm_S_waysTryingFor.2.1 113 = .ok (.iastore, 1) := by decide +kernel
theorem dz_S_waysTryingFor_114 : decode zm_S_waysTryingFor.2.1 114 = .ok (.aload_n 0, 1) := by decide +kernel
theorem dz_S_waysTryingFor_115 : decode zm_S_waysTryingFor.2.1 115 = .ok (.getfield 40, 3) := by decide +kernel
theorem dz_S_waysTryingFor_118 : decode zm_S_waysTryingFor.2.1 118 = .ok (.getfield 104, 3) := by decide +kernel
theorem dz_S_waysTryingFor_121 : decode zm_S_waysTryingFor.2.1 121 = .ok (.iload_n 2, 1) := by decide +kernel
theorem dz_S_waysTryingFor_122 : decode zm_S_waysTryingFor.2.1 122 = .ok (.dup2, 1) := by decide +kernel
theorem dz_S_waysTryingFor_123 : decode zm_S_waysTryingFor.2.1 123 = .ok (.iaload, 1) := by decide +kernel
theorem dz_S_waysTryingFor_124 : decode zm_S_waysTryingFor.2.1 124 = .ok (.iconst 1, 1) := by decide +kernel
theorem dz_S_waysTryingFor_125 : decode zm_S_waysTryingFor.2.1 125 = .ok (.isub, 1) := by decide +kernel
theorem dz_S_waysTryingFor_126 : decode zm_S_waysTryingFor.2.1 126 = .ok (.iastore, 1) := by decide +kernel
theorem dz_S_waysTryingFor_127 : decode zm_S_waysTryingFor.2.1 127 = .ok (.aload_n 0, 1) := by decide +kernel
theorem dz_S_waysTryingFor_128 : decode zm_S_waysTryingFor.2.1 128 = .ok (.getfield 40, 3) := by decide +kernel
theorem dz_S_waysTryingFor_131 : decode zm_S_waysTryingFor.2.1 131 = .ok (.getfield 120, 3) := by decide +kernel
theorem dz_S_waysTryingFor_134 : decode zm_S_waysTryingFor.2.1 134 = .ok (.iload_n 1, 1) := by decide +kernel
theorem dz_S_waysTryingFor_135 : decode zm_S_waysTryingFor.2.1 135 = .ok (.iaload, 1) := by decide +kernel
theorem dz_S_waysTryingFor_136 : decode zm_S_waysTryingFor.2.1 136 = .ok (.istore 9, 2) := by decide +kernel
theorem dz_S_waysTryingFor_138 : decode zm_S_waysTryingFor.2.1 138 = .ok (.iload 9, 2) := by decide +kernel
theorem dz_S_waysTryingFor_140 : decode zm_S_waysTryingFor.2.1 140 = .ok (.i2l, 1) := by decide +kernel
theorem dz_S_waysTryingFor_141 : decode zm_S_waysTryingFor.2.1 141 = .ok (.lload 7, 2) := by decide +kernel
theorem dz_S_waysTryingFor_143 : decode zm_S_waysTryingFor.2.1 143 = .ok (.lmul, 1) := by decide +kernel
theorem dz_S_waysTryingFor_144 : decode zm_S_waysTryingFor.2.1 144 = .ok (.bipush 10, 2) := by decide +kernel
theorem dz_S_waysTryingFor_146 : decode zm_S_waysTryingFor.2.1 146 = .ok (.iload 9, 2) := by decide +kernel
theorem dz_S_waysTryingFor_148 : decode zm_S_waysTryingFor.2.1 148 = .ok (.isub, 1) := by decide +kernel
theorem dz_S_waysTryingFor_149 : decode zm_S_waysTryingFor.2.1 149 = .ok (.i2l, 1) := by decide +kernel
theorem dz_S_waysTryingFor_150 : decode zm_S_waysTryingFor.2.1 150 = .ok (.lload 5, 2) := by decide +kernel
theorem dz_S_waysTryingFor_152 : decode zm_S_waysTryingFor.2.1 152 = .ok (.lmul, 1) := by decide +kernel
theorem dz_S_waysTryingFor_153 : decode zm_S_waysTryingFor.2.1 153 = .ok (.ladd, 1) := by decide +kernel
theorem dz_S_waysTryingFor_154 : decode zm_S_waysTryingFor.2.1 154 = .ok (.lreturn, 1) := by decide +kernel
theorem dz_S_image_0 : decode zm_S_image.2.1 0 = .ok (.iload_n 1, 1) := by decide +kernel
theorem dz_S_image_1 : decode zm_S_image.2.1 1 = .ok (.ifCond .ne 10, 3) := by decide +kernel
theorem dz_S_image_4 : decode zm_S_image.2.1 4 = .ok (.aload_n 0, 1) := by decide +kernel
theorem dz_S_image_5 : decode zm_S_image.2.1 5 = .ok (.getfield 33, 3) := by decide +kernel
theorem dz_S_image_8 : decode zm_S_image.2.1 8 = .ok (.goto 7, 3) := by decide +kernel
theorem dz_S_image_11 : decode zm_S_image.2.1 11 = .ok (.aload_n 0, 1) := by decide +kernel
theorem dz_S_image_12 : decode zm_S_image.2.1 12 = .ok (.getfield 37, 3) := by decide +kernel
theorem dz_S_image_15 : decode zm_S_image.2.1 15 = .ok (.areturn, 1) := by decide +kernel
theorem dz_S_nextSeed_0 : decode zm_S_nextSeed.2.1 0 = .ok (.iload_n 0, 1) := by decide +kernel
theorem dz_S_nextSeed_1 : decode zm_S_nextSeed.2.1 1 = .ok (.ldc_w 298, 3) := by decide +kernel
theorem dz_S_nextSeed_4 : decode zm_S_nextSeed.2.1 4 = .ok (.imul, 1) := by decide +kernel
theorem dz_S_nextSeed_5 : decode zm_S_nextSeed.2.1 5 = .ok (.sipush 12345, 3) := by decide +kernel
theorem dz_S_nextSeed_8 : decode zm_S_nextSeed.2.1 8 = .ok (.iadd, 1) := by decide +kernel
theorem dz_S_nextSeed_9 : decode zm_S_nextSeed.2.1 9 = .ok (.ireturn, 1) := by decide +kernel
theorem dz_S_drawn_0 : decode zm_S_drawn.2.1 0 = .ok (.iload_n 0, 1) := by decide +kernel
theorem dz_S_drawn_1 : decode zm_S_drawn.2.1 1 = .ok (.bipush 16, 2) := by decide +kernel
theorem dz_S_drawn_3 : decode zm_S_drawn.2.1 3 = .ok (.iushr, 1) := by decide +kernel
theorem dz_S_drawn_4 : decode zm_S_drawn.2.1 4 = .ok (.sipush 32767, 3) := by decide +kernel
theorem dz_S_drawn_7 : decode zm_S_drawn.2.1 7 = .ok (.iand, 1) := by decide +kernel
theorem dz_S_drawn_8 : decode zm_S_drawn.2.1 8 = .ok (.ireturn, 1) := by decide +kernel
theorem dz_S_power_0 : decode zm_S_power.2.1 0 = .ok (.lconst 1, 1) := by decide +kernel
theorem dz_S_power_1 : decode zm_S_power.2.1 1 = .ok (.lstore_n 2, 1) := by decide +kernel
theorem dz_S_power_2 : decode zm_S_power.2.1 2 = .ok (.iconst 0, 1) := by decide +kernel
theorem dz_S_power_3 : decode zm_S_power.2.1 3 = .ok (.istore 4, 2) := by decide +kernel
theorem dz_S_power_5 : decode zm_S_power.2.1 5 = .ok (.iload 4, 2) := by decide +kernel
theorem dz_S_power_7 : decode zm_S_power.2.1 7 = .ok (.iload_n 1, 1) := by decide +kernel
theorem dz_S_power_8 : decode zm_S_power.2.1 8 = .ok (.if_icmp .ge 14, 3) := by decide +kernel
theorem dz_S_power_11 : decode zm_S_power.2.1 11 = .ok (.lload_n 2, 1) := by decide +kernel
theorem dz_S_power_12 : decode zm_S_power.2.1 12 = .ok (.iload_n 0, 1) := by decide +kernel
theorem dz_S_power_13 : decode zm_S_power.2.1 13 = .ok (.i2l, 1) := by decide +kernel
theorem dz_S_power_14 : decode zm_S_power.2.1 14 = .ok (.lmul, 1) := by decide +kernel
theorem dz_S_power_15 : decode zm_S_power.2.1 15 = .ok (.lstore_n 2, 1) := by decide +kernel
theorem dz_S_power_16 : decode zm_S_power.2.1 16 = .ok (.iinc 4 1, 3) := by decide +kernel
theorem dz_S_power_19 : decode zm_S_power.2.1 19 = .ok (.goto (-14), 3) := by decide +kernel
theorem dz_S_power_22 : decode zm_S_power.2.1 22 = .ok (.lload_n 2, 1) := by decide +kernel
theorem dz_S_power_23 : decode zm_S_power.2.1 23 = .ok (.lreturn, 1) := by decide +kernel
theorem dz_S_lowestTerms_0 : decode zm_S_lowestTerms.2.1 0 = .ok (.lload_n 2, 1) := by decide +kernel
theorem dz_S_lowestTerms_1 : decode zm_S_lowestTerms.2.1 1 = .ok (.lstore 5, 2) := by decide +kernel
theorem dz_S_lowestTerms_3 : decode zm_S_lowestTerms.2.1 3 = .ok (.lload_n 0, 1) := by decide +kernel
theorem dz_S_lowestTerms_4 : decode zm_S_lowestTerms.2.1 4 = .ok (.lstore 7, 2) := by decide +kernel
theorem dz_S_lowestTerms_6 : decode zm_S_lowestTerms.2.1 6 = .ok (.iconst 0, 1) := by decide +kernel
theorem dz_S_lowestTerms_7 : decode zm_S_lowestTerms.2.1 7 = .ok (.istore 9, 2) := by decide +kernel
theorem dz_S_lowestTerms_9 : decode zm_S_lowestTerms.2.1 9 = .ok (.iload 9, 2) := by decide +kernel
theorem dz_S_lowestTerms_11 : decode zm_S_lowestTerms.2.1 11 = .ok (.bipush 100, 2) := by decide +kernel
theorem dz_S_lowestTerms_13 : decode zm_S_lowestTerms.2.1 13 = .ok (.if_icmp .ge 31, 3) := by decide +kernel
theorem dz_S_lowestTerms_16 : decode zm_S_lowestTerms.2.1 16 = .ok (.lload 7, 2) := by decide +kernel
theorem dz_S_lowestTerms_18 : decode zm_S_lowestTerms.2.1 18 = .ok (.lconst 0, 1) := by decide +kernel
theorem dz_S_lowestTerms_19 : decode zm_S_lowestTerms.2.1 19 = .ok (.lcmp, 1) := by decide +kernel
theorem dz_S_lowestTerms_20 : decode zm_S_lowestTerms.2.1 20 = .ok (.ifCond .eq 24, 3) := by decide +kernel
theorem dz_S_lowestTerms_23 : decode zm_S_lowestTerms.2.1 23 = .ok (.lload 5, 2) := by decide +kernel
theorem dz_S_lowestTerms_25 : decode zm_S_lowestTerms.2.1 25 = .ok (.lload 7, 2) := by decide +kernel
theorem dz_S_lowestTerms_27 : decode zm_S_lowestTerms.2.1 27 = .ok (.lrem, 1) := by decide +kernel
theorem dz_S_lowestTerms_28 : decode zm_S_lowestTerms.2.1 28 = .ok (.lstore 10, 2) := by decide +kernel
theorem dz_S_lowestTerms_30 : decode zm_S_lowestTerms.2.1 30 = .ok (.lload 7, 2) := by decide +kernel
theorem dz_S_lowestTerms_32 : decode zm_S_lowestTerms.2.1 32 = .ok (.lstore 5, 2) := by decide +kernel
theorem dz_S_lowestTerms_34 : decode zm_S_lowestTerms.2.1 34 = .ok (.lload 10, 2) := by decide +kernel
theorem dz_S_lowestTerms_36 : decode zm_S_lowestTerms.2.1 36 = .ok (.lstore 7, 2) := by decide +kernel
theorem dz_S_lowestTerms_38 : decode zm_S_lowestTerms.2.1 38 = .ok (.iinc 9 1, 3) := by decide +kernel
theorem dz_S_lowestTerms_41 : decode zm_S_lowestTerms.2.1 41 = .ok (.goto (-32), 3) := by decide +kernel
theorem dz_S_lowestTerms_44 : decode zm_S_lowestTerms.2.1 44 = .ok (.lload 5, 2) := by decide +kernel
theorem dz_S_lowestTerms_46 : decode zm_S_lowestTerms.2.1 46 = .ok (.lconst 0, 1) := by decide +kernel
theorem dz_S_lowestTerms_47 : decode zm_S_lowestTerms.2.1 47 = .ok (.lcmp, 1) := by decide +kernel
theorem dz_S_lowestTerms_48 : decode zm_S_lowestTerms.2.1 48 = .ok (.ifCond .gt 7, 3) := by decide +kernel
theorem dz_S_lowestTerms_51 : decode zm_S_lowestTerms.2.1 51 = .ok (.ldc2_w 209, 3) := by decide +kernel
theorem dz_S_lowestTerms_54 : decode zm_S_lowestTerms.2.1 54 = .ok (.lreturn, 1) := by decide +kernel
theorem dz_S_lowestTerms_55 : decode zm_S_lowestTerms.2.1 55 = .ok (.iload 4, 2) := by decide +kernel
theorem dz_S_lowestTerms_57 : decode zm_S_lowestTerms.2.1 57 = .ok (.ifCond .ne 7, 3) := by decide +kernel
theorem dz_S_lowestTerms_60 : decode zm_S_lowestTerms.2.1 60 = .ok (.lload_n 0, 1) := by decide +kernel
theorem dz_S_lowestTerms_61 : decode zm_S_lowestTerms.2.1 61 = .ok (.goto 4, 3) := by decide +kernel
theorem dz_S_lowestTerms_64 : decode zm_S_lowestTerms.2.1 64 = .ok (.lload_n 2, 1) := by decide +kernel
theorem dz_S_lowestTerms_65 : decode zm_S_lowestTerms.2.1 65 = .ok (.lload 5, 2) := by decide +kernel
theorem dz_S_lowestTerms_67 : decode zm_S_lowestTerms.2.1 67 = .ok (.ldiv, 1) := by decide +kernel
theorem dz_S_lowestTerms_68 : decode zm_S_lowestTerms.2.1 68 = .ok (.lreturn, 1) := by decide +kernel
theorem dz_JI_bitCount_0 : decode zm_JI_bitCount.2.1 0 = .ok (.iload_n 0, 1) := by decide +kernel
theorem dz_JI_bitCount_1 : decode zm_JI_bitCount.2.1 1 = .ok (.iload_n 0, 1) := by decide +kernel
theorem dz_JI_bitCount_2 : decode zm_JI_bitCount.2.1 2 = .ok (.iconst 1, 1) := by decide +kernel
theorem dz_JI_bitCount_3 : decode zm_JI_bitCount.2.1 3 = .ok (.iushr, 1) := by decide +kernel
theorem dz_JI_bitCount_4 : decode zm_JI_bitCount.2.1 4 = .ok (.ldc_w 265, 3) := by decide +kernel
theorem dz_JI_bitCount_7 : decode zm_JI_bitCount.2.1 7 = .ok (.iand, 1) := by decide +kernel
theorem dz_JI_bitCount_8 : decode zm_JI_bitCount.2.1 8 = .ok (.isub, 1) := by decide +kernel
theorem dz_JI_bitCount_9 : decode zm_JI_bitCount.2.1 9 = .ok (.istore_n 0, 1) := by decide +kernel
theorem dz_JI_bitCount_10 : decode zm_JI_bitCount.2.1 10 = .ok (.iload_n 0, 1) := by decide +kernel
theorem dz_JI_bitCount_11 : decode zm_JI_bitCount.2.1 11 = .ok (.ldc_w 266, 3) := by decide +kernel
theorem dz_JI_bitCount_14 : decode zm_JI_bitCount.2.1 14 = .ok (.iand, 1) := by decide +kernel
theorem dz_JI_bitCount_15 : decode zm_JI_bitCount.2.1 15 = .ok (.iload_n 0, 1) := by decide +kernel
theorem dz_JI_bitCount_16 : decode zm_JI_bitCount.2.1 16 = .ok (.iconst 2, 1) := by decide +kernel
theorem dz_JI_bitCount_17 : decode zm_JI_bitCount.2.1 17 = .ok (.iushr, 1) := by decide +kernel
theorem dz_JI_bitCount_18 : decode zm_JI_bitCount.2.1 18 = .ok (.ldc_w 266, 3) := by decide +kernel
theorem dz_JI_bitCount_21 : decode zm_JI_bitCount.2.1 21 = .ok (.iand, 1) := by decide +kernel
theorem dz_JI_bitCount_22 : decode zm_JI_bitCount.2.1 22 = .ok (.iadd, 1) := by decide +kernel
theorem dz_JI_bitCount_23 : decode zm_JI_bitCount.2.1 23 = .ok (.istore_n 0, 1) := by decide +kernel
theorem dz_JI_bitCount_24 : decode zm_JI_bitCount.2.1 24 = .ok (.iload_n 0, 1) := by decide +kernel
theorem dz_JI_bitCount_25 : decode zm_JI_bitCount.2.1 25 = .ok (.iload_n 0, 1) := by decide +kernel
theorem dz_JI_bitCount_26 : decode zm_JI_bitCount.2.1 26 = .ok (.iconst 4, 1) := by decide +kernel
theorem dz_JI_bitCount_27 : decode zm_JI_bitCount.2.1 27 = .ok (.iushr, 1) := by decide +kernel
theorem dz_JI_bitCount_28 : decode zm_JI_bitCount.2.1 28 = .ok (.iadd, 1) := by decide +kernel
theorem dz_JI_bitCount_29 : decode zm_JI_bitCount.2.1 29 = .ok (.ldc_w 267, 3) := by decide +kernel
theorem dz_JI_bitCount_32 : decode zm_JI_bitCount.2.1 32 = .ok (.iand, 1) := by decide +kernel
theorem dz_JI_bitCount_33 : decode zm_JI_bitCount.2.1 33 = .ok (.istore_n 0, 1) := by decide +kernel
theorem dz_JI_bitCount_34 : decode zm_JI_bitCount.2.1 34 = .ok (.iload_n 0, 1) := by decide +kernel
theorem dz_JI_bitCount_35 : decode zm_JI_bitCount.2.1 35 = .ok (.iload_n 0, 1) := by decide +kernel
theorem dz_JI_bitCount_36 : decode zm_JI_bitCount.2.1 36 = .ok (.bipush 8, 2) := by decide +kernel
theorem dz_JI_bitCount_38 : decode zm_JI_bitCount.2.1 38 = .ok (.iushr, 1) := by decide +kernel
theorem dz_JI_bitCount_39 : decode zm_JI_bitCount.2.1 39 = .ok (.iadd, 1) := by decide +kernel
theorem dz_JI_bitCount_40 : decode zm_JI_bitCount.2.1 40 = .ok (.istore_n 0, 1) := by decide +kernel
theorem dz_JI_bitCount_41 : decode zm_JI_bitCount.2.1 41 = .ok (.iload_n 0, 1) := by decide +kernel
theorem dz_JI_bitCount_42 : decode zm_JI_bitCount.2.1 42 = .ok (.iload_n 0, 1) := by decide +kernel
theorem dz_JI_bitCount_43 : decode zm_JI_bitCount.2.1 43 = .ok (.bipush 16, 2) := by decide +kernel
theorem dz_JI_bitCount_45 : decode zm_JI_bitCount.2.1 45 = .ok (.iushr, 1) := by decide +kernel
theorem dz_JI_bitCount_46 : decode zm_JI_bitCount.2.1 46 = .ok (.iadd, 1) := by decide +kernel
theorem dz_JI_bitCount_47 : decode zm_JI_bitCount.2.1 47 = .ok (.istore_n 0, 1) := by decide +kernel
theorem dz_JI_bitCount_48 : decode zm_JI_bitCount.2.1 48 = .ok (.iload_n 0, 1) := by decide +kernel
theorem dz_JI_bitCount_49 : decode zm_JI_bitCount.2.1 49 = .ok (.bipush 63, 2) := by decide +kernel
theorem dz_JI_bitCount_51 : decode zm_JI_bitCount.2.1 51 = .ok (.iand, 1) := by decide +kernel
theorem dz_JI_bitCount_52 : decode zm_JI_bitCount.2.1 52 = .ok (.ireturn, 1) := by decide +kernel
theorem dz_JM_max_0 : decode zm_JM_max.2.1 0 = .ok (.lload_n 0, 1) := by decide +kernel
theorem dz_JM_max_1 : decode zm_JM_max.2.1 1 = .ok (.lload_n 2, 1) := by decide +kernel
theorem dz_JM_max_2 : decode zm_JM_max.2.1 2 = .ok (.lcmp, 1) := by decide +kernel
theorem dz_JM_max_3 : decode zm_JM_max.2.1 3 = .ok (.ifCond .lt 7, 3) := by decide +kernel
theorem dz_JM_max_6 : decode zm_JM_max.2.1 6 = .ok (.lload_n 0, 1) := by decide +kernel
theorem dz_JM_max_7 : decode zm_JM_max.2.1 7 = .ok (.goto 4, 3) := by decide +kernel
theorem dz_JM_max_10 : decode zm_JM_max.2.1 10 = .ok (.lload_n 2, 1) := by decide +kernel
theorem dz_JM_max_11 : decode zm_JM_max.2.1 11 = .ok (.lreturn, 1) := by decide +kernel
theorem dz_JS_length_0 : decode zm_JS_length.2.1 0 = .ok (.aload_n 0, 1) := by decide +kernel
theorem dz_JS_length_1 : decode zm_JS_length.2.1 1 = .ok (.getfield 9, 3) := by decide +kernel
theorem dz_JS_length_4 : decode zm_JS_length.2.1 4 = .ok (.arraylength, 1) := by decide +kernel
theorem dz_JS_length_5 : decode zm_JS_length.2.1 5 = .ok (.aload_n 0, 1) := by decide +kernel
theorem dz_JS_length_6 : decode zm_JS_length.2.1 6 = .ok (.invokevirtual 335, 3) := by decide +kernel
theorem dz_JS_length_9 : decode zm_JS_length.2.1 9 = .ok (.ishr, 1) := by decide +kernel
theorem dz_JS_length_10 : decode zm_JS_length.2.1 10 = .ok (.ireturn, 1) := by decide +kernel
theorem dz_JS_charAt_0 : decode zm_JS_charAt.2.1 0 = .ok (.aload_n 0, 1) := by decide +kernel
theorem dz_JS_charAt_1 : decode zm_JS_charAt.2.1 1 = .ok (.invokevirtual 492, 3) := by decide +kernel
theorem dz_JS_charAt_4 : decode zm_JS_charAt.2.1 4 = .ok (.ifCond .eq 12, 3) := by decide +kernel
theorem dz_JS_charAt_7 : decode zm_JS_charAt.2.1 7 = .ok (.aload_n 0, 1) := by decide +kernel
theorem dz_JS_charAt_8 : decode zm_JS_charAt.2.1 8 = .ok (.getfield 9, 3) := by decide +kernel
theorem dz_JS_charAt_11 : decode zm_JS_charAt.2.1 11 = .ok (.iload_n 1, 1) := by decide +kernel
theorem dz_JS_charAt_12 : decode zm_JS_charAt.2.1 12 = .ok (.invokestatic 495, 3) := by decide +kernel
theorem dz_JS_charAt_15 : decode zm_JS_charAt.2.1 15 = .ok (.ireturn, 1) := by decide +kernel
theorem dz_JS_charAt_16 : decode zm_JS_charAt.2.1 16 = .ok (.aload_n 0, 1) := by decide +kernel
theorem dz_JS_charAt_17 : decode zm_JS_charAt.2.1 17 = .ok (.getfield 9, 3) := by decide +kernel
theorem dz_JS_charAt_20 : decode zm_JS_charAt.2.1 20 = .ok (.iload_n 1, 1) := by decide +kernel
theorem dz_JS_charAt_21 : decode zm_JS_charAt.2.1 21 = .ok (.invokestatic 498, 3) := by decide +kernel
theorem dz_JS_charAt_24 : decode zm_JS_charAt.2.1 24 = .ok (.ireturn, 1) := by decide +kernel
theorem dz_JS_coder_0 : decode zm_JS_coder.2.1 0 = .ok (.getstatic 38, 3) := by decide +kernel
theorem dz_JS_coder_3 : decode zm_JS_coder.2.1 3 = .ok (.ifCond .eq 10, 3) := by decide +kernel
theorem dz_JS_coder_6 : decode zm_JS_coder.2.1 6 = .ok (.aload_n 0, 1) := by decide +kernel
theorem dz_JS_coder_7 : decode zm_JS_coder.2.1 7 = .ok (.getfield 15, 3) := by decide +kernel
theorem dz_JS_coder_10 : decode zm_JS_coder.2.1 10 = .ok (.goto 4, 3) := by decide +kernel
theorem dz_JS_coder_13 : decode zm_JS_coder.2.1 13 = .ok (.iconst 1, 1) := by decide +kernel
theorem dz_JS_coder_14 : decode zm_JS_coder.2.1 14 = .ok (.ireturn, 1) := by decide +kernel
theorem dz_JS_isLatin1_0 : decode zm_JS_isLatin1.2.1 0 = .ok (.getstatic 38, 3) := by decide +kernel
theorem dz_JS_isLatin1_3 : decode zm_JS_isLatin1.2.1 3 = .ok (.ifCond .eq 14, 3) := by decide +kernel
theorem dz_JS_isLatin1_6 : decode zm_JS_isLatin1.2.1 6 = .ok (.aload_n 0, 1) := by decide +kernel
theorem dz_JS_isLatin1_7 : decode zm_JS_isLatin1.2.1 7 = .ok (.getfield 15, 3) := by decide +kernel
theorem dz_JS_isLatin1_10 : decode zm_JS_isLatin1.2.1 10 = .ok (.ifCond .ne 7, 3) := by decide +kernel
theorem dz_JS_isLatin1_13 : decode zm_JS_isLatin1.2.1 13 = .ok (.iconst 1, 1) := by decide +kernel
theorem dz_JS_isLatin1_14 : decode zm_JS_isLatin1.2.1 14 = .ok (.goto 4, 3) := by decide +kernel
theorem dz_JS_isLatin1_17 : decode zm_JS_isLatin1.2.1 17 = .ok (.iconst 0, 1) := by decide +kernel
theorem dz_JS_isLatin1_18 : decode zm_JS_isLatin1.2.1 18 = .ok (.ireturn, 1) := by decide +kernel
theorem dz_JS_checkIndex_0 : decode zm_JS_checkIndex.2.1 0 = .ok (.iload_n 0, 1) := by decide +kernel
theorem dz_JS_checkIndex_1 : decode zm_JS_checkIndex.2.1 1 = .ok (.iload_n 1, 1) := by decide +kernel
theorem dz_JS_checkIndex_2 : decode zm_JS_checkIndex.2.1 2 = .ok (.getstatic 1053, 3) := by decide +kernel
theorem dz_JS_checkIndex_5 : decode zm_JS_checkIndex.2.1 5 = .ok (.invokestatic 1059, 3) := by decide +kernel
theorem dz_JS_checkIndex_8 : decode zm_JS_checkIndex.2.1 8 = .ok (.pop, 1) := by decide +kernel
theorem dz_JS_checkIndex_9 : decode zm_JS_checkIndex.2.1 9 = .ok (.return_, 1) := by decide +kernel
theorem dz_JA_charAt_0 : decode zm_JA_charAt.2.1 0 = .ok (.iload_n 1, 1) := by decide +kernel
theorem dz_JA_charAt_1 : decode zm_JA_charAt.2.1 1 = .ok (.aload_n 0, 1) := by decide +kernel
theorem dz_JA_charAt_2 : decode zm_JA_charAt.2.1 2 = .ok (.arraylength, 1) := by decide +kernel
theorem dz_JA_charAt_3 : decode zm_JA_charAt.2.1 3 = .ok (.invokestatic 9, 3) := by decide +kernel
theorem dz_JA_charAt_6 : decode zm_JA_charAt.2.1 6 = .ok (.aload_n 0, 1) := by decide +kernel
theorem dz_JA_charAt_7 : decode zm_JA_charAt.2.1 7 = .ok (.iload_n 1, 1) := by decide +kernel
theorem dz_JA_charAt_8 : decode zm_JA_charAt.2.1 8 = .ok (.baload, 1) := by decide +kernel
theorem dz_JA_charAt_9 : decode zm_JA_charAt.2.1 9 = .ok (.sipush 255, 3) := by decide +kernel
theorem dz_JA_charAt_12 : decode zm_JA_charAt.2.1 12 = .ok (.iand, 1) := by decide +kernel
theorem dz_JA_charAt_13 : decode zm_JA_charAt.2.1 13 = .ok (.i2c, 1) := by decide +kernel
theorem dz_JA_charAt_14 : decode zm_JA_charAt.2.1 14 = .ok (.ireturn, 1) := by decide +kernel
theorem dz_JU_getChar_0 : decode zm_JU_getChar.2.1 0 = .ok (.getstatic 44, 3) := by decide +kernel
theorem dz_JU_getChar_3 : decode zm_JU_getChar.2.1 3 = .ok (.ifCond .ne 25, 3) := by decide +kernel
theorem dz_JU_getChar_6 : decode zm_JU_getChar.2.1 6 = .ok (.iload_n 1, 1) := by decide +kernel
theorem dz_JU_getChar_7 : decode zm_JU_getChar.2.1 7 = .ok (.ifCond .lt 11, 3) := by decide +kernel
theorem dz_JU_getChar_10 : decode zm_JU_getChar.2.1 10 = .ok (.iload_n 1, 1) := by decide +kernel
theorem dz_JU_getChar_11 : decode zm_JU_getChar.2.1 11 = .ok (.aload_n 0, 1) := by decide +kernel
theorem dz_JU_getChar_12 : decode zm_JU_getChar.2.1 12 = .ok (.invokestatic 48, 3) := by decide +kernel
theorem dz_JU_getChar_15 : decode zm_JU_getChar.2.1 15 = .ok (.if_icmp .lt 13, 3) := by decide +kernel
theorem dz_JU_getChar_18 : decode zm_JU_getChar.2.1 18 = .ok (.new 52, 3) := by decide +kernel
theorem dz_JU_getChar_21 : decode zm_JU_getChar.2.1 21 = .ok (.dup, 1) := by decide +kernel
theorem dz_JU_getChar_22 : decode zm_JU_getChar.2.1 22 = .ok (.ldc 54, 2) := by decide +kernel
theorem dz_JU_getChar_24 : decode zm_JU_getChar.2.1 24 = .ok (.invokespecial 56, 3) := by decide +kernel
theorem dz_JU_getChar_27 : decode zm_JU_getChar.2.1 27 = .ok (.athrow, 1) := by decide +kernel
theorem dz_JU_getChar_28 : decode zm_JU_getChar.2.1 28 = .ok (.iload_n 1, 1) := by decide +kernel
theorem dz_JU_getChar_29 : decode zm_JU_getChar.2.1 29 = .ok (.iconst 1, 1) := by decide +kernel
theorem dz_JU_getChar_30 : decode zm_JU_getChar.2.1 30 = .ok (.ishl, 1) := by decide +kernel
theorem dz_JU_getChar_31 : decode zm_JU_getChar.2.1 31 = .ok (.istore_n 1, 1) := by decide +kernel
theorem dz_JU_getChar_32 : decode zm_JU_getChar.2.1 32 = .ok (.aload_n 0, 1) := by decide +kernel
theorem dz_JU_getChar_33 : decode zm_JU_getChar.2.1 33 = .ok (.iload_n 1, 1) := by decide +kernel
theorem dz_JU_getChar_34 : decode zm_JU_getChar.2.1 34 = .ok (.iinc 1 1, 3) := by decide +kernel
theorem dz_JU_getChar_37 : decode zm_JU_getChar.2.1 37 = .ok (.baload, 1) := by decide +kernel
theorem dz_JU_getChar_38 : decode zm_JU_getChar.2.1 38 = .ok (.sipush 255, 3) := by decide +kernel
theorem dz_JU_getChar_41 : decode zm_JU_getChar.2.1 41 = .ok (.iand, 1) := by decide +kernel
theorem dz_JU_getChar_42 : decode zm_JU_getChar.2.1 42 = .ok (.getstatic 59, 3) := by decide +kernel
theorem dz_JU_getChar_45 : decode zm_JU_getChar.2.1 45 = .ok (.ishl, 1) := by decide +kernel
theorem dz_JU_getChar_46 : decode zm_JU_getChar.2.1 46 = .ok (.aload_n 0, 1) := by decide +kernel
theorem dz_JU_getChar_47 : decode zm_JU_getChar.2.1 47 = .ok (.iload_n 1, 1) := by decide +kernel
theorem dz_JU_getChar_48 : decode zm_JU_getChar.2.1 48 = .ok (.baload, 1) := by decide +kernel
theorem dz_JU_getChar_49 : decode zm_JU_getChar.2.1 49 = .ok (.sipush 255, 3) := by decide +kernel
theorem dz_JU_getChar_52 : decode zm_JU_getChar.2.1 52 = .ok (.iand, 1) := by decide +kernel
theorem dz_JU_getChar_53 : decode zm_JU_getChar.2.1 53 = .ok (.getstatic 63, 3) := by decide +kernel
theorem dz_JU_getChar_56 : decode zm_JU_getChar.2.1 56 = .ok (.ishl, 1) := by decide +kernel
theorem dz_JU_getChar_57 : decode zm_JU_getChar.2.1 57 = .ok (.ior, 1) := by decide +kernel
theorem dz_JU_getChar_58 : decode zm_JU_getChar.2.1 58 = .ok (.i2c, 1) := by decide +kernel
theorem dz_JU_getChar_59 : decode zm_JU_getChar.2.1 59 = .ok (.ireturn, 1) := by decide +kernel
theorem dz_JU_length_0 : decode zm_JU_length.2.1 0 = .ok (.aload_n 0, 1) := by decide +kernel
theorem dz_JU_length_1 : decode zm_JU_length.2.1 1 = .ok (.arraylength, 1) := by decide +kernel
theorem dz_JU_length_2 : decode zm_JU_length.2.1 2 = .ok (.iconst 1, 1) := by decide +kernel
theorem dz_JU_length_3 : decode zm_JU_length.2.1 3 = .ok (.ishr, 1) := by decide +kernel
theorem dz_JU_length_4 : decode zm_JU_length.2.1 4 = .ok (.ireturn, 1) := by decide +kernel
theorem dz_JU_charAt_0 : decode zm_JU_charAt.2.1 0 = .ok (.iload_n 1, 1) := by decide +kernel
theorem dz_JU_charAt_1 : decode zm_JU_charAt.2.1 1 = .ok (.aload_n 0, 1) := by decide +kernel
theorem dz_JU_charAt_2 : decode zm_JU_charAt.2.1 2 = .ok (.invokestatic 67, 3) := by decide +kernel
theorem dz_JU_charAt_5 : decode zm_JU_charAt.2.1 5 = .ok (.aload_n 0, 1) := by decide +kernel
theorem dz_JU_charAt_6 : decode zm_JU_charAt.2.1 6 = .ok (.iload_n 1, 1) := by decide +kernel
theorem dz_JU_charAt_7 : decode zm_JU_charAt.2.1 7 = .ok (.invokestatic 71, 3) := by decide +kernel
theorem dz_JU_charAt_10 : decode zm_JU_charAt.2.1 10 = .ok (.ireturn, 1) := by decide +kernel
theorem dz_JU_checkIndex_0 : decode zm_JU_checkIndex.2.1 0 = .ok (.iload_n 0, 1) := by decide +kernel
theorem dz_JU_checkIndex_1 : decode zm_JU_checkIndex.2.1 1 = .ok (.aload_n 1, 1) := by decide +kernel
theorem dz_JU_checkIndex_2 : decode zm_JU_checkIndex.2.1 2 = .ok (.invokestatic 48, 3) := by decide +kernel
theorem dz_JU_checkIndex_5 : decode zm_JU_checkIndex.2.1 5 = .ok (.invokestatic 414, 3) := by decide +kernel
theorem dz_JU_checkIndex_8 : decode zm_JU_checkIndex.2.1 8 = .ok (.return_, 1) := by decide +kernel
theorem dz_JP_checkIndex_0 : decode zm_JP_checkIndex.2.1 0 = .ok (.iload_n 0, 1) := by decide +kernel
theorem dz_JP_checkIndex_1 : decode zm_JP_checkIndex.2.1 1 = .ok (.ifCond .lt 8, 3) := by decide +kernel
theorem dz_JP_checkIndex_4 : decode zm_JP_checkIndex.2.1 4 = .ok (.iload_n 0, 1) := by decide +kernel
theorem dz_JP_checkIndex_5 : decode zm_JP_checkIndex.2.1 5 = .ok (.iload_n 1, 1) := by decide +kernel
theorem dz_JP_checkIndex_6 : decode zm_JP_checkIndex.2.1 6 = .ok (.if_icmp .lt 10, 3) := by decide +kernel
theorem dz_JP_checkIndex_9 : decode zm_JP_checkIndex.2.1 9 = .ok (.aload_n 2, 1) := by decide +kernel
theorem dz_JP_checkIndex_10 : decode zm_JP_checkIndex.2.1 10 = .ok (.iload_n 0, 1) := by decide +kernel
theorem dz_JP_checkIndex_11 : decode zm_JP_checkIndex.2.1 11 = .ok (.iload_n 1, 1) := by decide +kernel
theorem dz_JP_checkIndex_12 : decode zm_JP_checkIndex.2.1 12 = .ok (.invokestatic 95, 3) := by decide +kernel
theorem dz_JP_checkIndex_15 : decode zm_JP_checkIndex.2.1 15 = .ok (.athrow, 1) := by decide +kernel
theorem dz_JP_checkIndex_16 : decode zm_JP_checkIndex.2.1 16 = .ok (.iload_n 0, 1) := by decide +kernel
theorem dz_JP_checkIndex_17 : decode zm_JP_checkIndex.2.1 17 = .ok (.ireturn, 1) := by decide +kernel
