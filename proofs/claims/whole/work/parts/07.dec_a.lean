theorem dz_D_clear_0 : decode zm_D_clear.2.1 0 = .ok (.aload_n 0, 1) := by decide +kernel
theorem dz_D_clear_1 : decode zm_D_clear.2.1 1 = .ok (.iconst 0, 1) := by decide +kernel
theorem dz_D_clear_2 : decode zm_D_clear.2.1 2 = .ok (.putfield 45, 3) := by decide +kernel
theorem dz_D_clear_5 : decode zm_D_clear.2.1 5 = .ok (.aload_n 0, 1) := by decide +kernel
theorem dz_D_clear_6 : decode zm_D_clear.2.1 6 = .ok (.iconst 0, 1) := by decide +kernel
theorem dz_D_clear_7 : decode zm_D_clear.2.1 7 = .ok (.putfield 49, 3) := by decide +kernel
theorem dz_D_clear_10 : decode zm_D_clear.2.1 10 = .ok (.aload_n 0, 1) := by decide +kernel
theorem dz_D_clear_11 : decode zm_D_clear.2.1 11 = .ok (.iconst 0, 1) := by decide +kernel
theorem dz_D_clear_12 : decode zm_D_clear.2.1 12 = .ok (.putfield 52, 3) := by decide +kernel
theorem dz_D_clear_15 : decode zm_D_clear.2.1 15 = .ok (.iconst 0, 1) := by decide +kernel
theorem dz_D_clear_16 : decode zm_D_clear.2.1 16 = .ok (.istore_n 1, 1) := by decide +kernel
theorem dz_D_clear_17 : decode zm_D_clear.2.1 17 = .ok (.iload_n 1, 1) := by decide +kernel
theorem dz_D_clear_18 : decode zm_D_clear.2.1 18 = .ok (.bipush 6, 2) := by decide +kernel
theorem dz_D_clear_20 : decode zm_D_clear.2.1 20 = .ok (.if_icmp .ge 23, 3) := by decide +kernel
theorem dz_D_clear_23 : decode zm_D_clear.2.1 23 = .ok (.aload_n 0, 1) := by decide +kernel
theorem dz_D_clear_24 : decode zm_D_clear.2.1 24 = .ok (.getfield 18, 3) := by decide +kernel
theorem dz_D_clear_27 : decode zm_D_clear.2.1 27 = .ok (.iload_n 1, 1) := by decide +kernel
theorem dz_D_clear_28 : decode zm_D_clear.2.1 28 = .ok (.iconst 0, 1) := by decide +kernel
theorem dz_D_clear_29 : decode zm_D_clear.2.1 29 = .ok (.iastore, 1) := by decide +kernel
theorem dz_D_clear_30 : decode zm_D_clear.2.1 30 = .ok (.aload_n 0, 1) := by decide +kernel
theorem dz_D_clear_31 : decode zm_D_clear.2.1 31 = .ok (.getfield 21, 3) := by decide +kernel
theorem dz_D_clear_34 : decode zm_D_clear.2.1 34 = .ok (.iload_n 1, 1) := by decide +kernel
theorem dz_D_clear_35 : decode zm_D_clear.2.1 35 = .ok (.iconst 0, 1) := by decide +kernel
theorem dz_D_clear_36 : decode zm_D_clear.2.1 36 = .ok (.iastore, 1) := by decide +kernel
theorem dz_D_clear_37 : decode zm_D_clear.2.1 37 = .ok (.iinc 1 1, 3) := by decide +kernel
theorem dz_D_clear_40 : decode zm_D_clear.2.1 40 = .ok (.goto (-23), 3) := by decide +kernel
theorem dz_D_clear_43 : decode zm_D_clear.2.1 43 = .ok (.iconst 0, 1) := by decide +kernel
theorem dz_D_clear_44 : decode zm_D_clear.2.1 44 = .ok (.istore_n 1, 1) := by decide +kernel
theorem dz_D_clear_45 : decode zm_D_clear.2.1 45 = .ok (.iload_n 1, 1) := by decide +kernel
theorem dz_D_clear_46 : decode zm_D_clear.2.1 46 = .ok (.iconst 5, 1) := by decide +kernel
theorem dz_D_clear_47 : decode zm_D_clear.2.1 47 = .ok (.if_icmp .ge 16, 3) := by decide +kernel
theorem dz_D_clear_50 : decode zm_D_clear.2.1 50 = .ok (.aload_n 0, 1) := by decide +kernel
theorem dz_D_clear_51 : decode zm_D_clear.2.1 51 = .ok (.getfield 24, 3) := by decide +kernel
theorem dz_D_clear_54 : decode zm_D_clear.2.1 54 = .ok (.iload_n 1, 1) := by decide +kernel
theorem dz_D_clear_55 : decode zm_D_clear.2.1 55 = .ok (.iconst 5, 1) := by decide +kernel
theorem dz_D_clear_56 : decode zm_D_clear.2.1 56 = .ok (.iastore, 1) := by decide +kernel
theorem dz_D_clear_57 : decode zm_D_clear.2.1 57 = .ok (.iinc 1 1, 3) := by decide +kernel
theorem dz_D_clear_60 : decode zm_D_clear.2.1 60 = .ok (.goto (-15), 3) := by decide +kernel
theorem dz_D_clear_63 : decode zm_D_clear.2.1 63 = .ok (.return_, 1) := by decide +kernel
theorem dz_D_copyFrom_0 : decode zm_D_copyFrom.2.1 0 = .ok (.aload_n 1, 1) := by decide +kernel
theorem dz_D_copyFrom_1 : decode zm_D_copyFrom.2.1 1 = .ok (.ifnonnull 4, 3) := by decide +kernel
theorem dz_D_copyFrom_4 : decode zm_D_copyFrom.2.1 4 = .ok (.return_, 1) := by decide +kernel
theorem dz_D_copyFrom_5 : decode zm_D_copyFrom.2.1 5 = .ok (.aload_n 0, 1) := by decide +kernel
theorem dz_D_copyFrom_6 : decode zm_D_copyFrom.2.1 6 = .ok (.aload_n 1, 1) := by decide +kernel
theorem dz_D_copyFrom_7 : decode zm_D_copyFrom.2.1 7 = .ok (.getfield 45, 3) := by decide +kernel
theorem dz_D_copyFrom_10 : decode zm_D_copyFrom.2.1 10 = .ok (.putfield 45, 3) := by decide +kernel
theorem dz_D_copyFrom_13 : decode zm_D_copyFrom.2.1 13 = .ok (.aload_n 0, 1) := by decide +kernel
theorem dz_D_copyFrom_14 : decode zm_D_copyFrom.2.1 14 = .ok (.aload_n 1, 1) := by decide +kernel
theorem dz_D_copyFrom_15 : decode zm_D_copyFrom.2.1 15 = .ok (.getfield 49, 3) := by decide +kernel
theorem dz_D_copyFrom_18 : decode zm_D_copyFrom.2.1 18 = .ok (.putfield 49, 3) := by decide +kernel
theorem dz_D_copyFrom_21 : decode zm_D_copyFrom.2.1 21 = .ok (.aload_n 0, 1) := by decide +kernel
theorem dz_D_copyFrom_22 : decode zm_D_copyFrom.2.1 22 = .ok (.aload_n 1, 1) := by decide +kernel
theorem dz_D_copyFrom_23 : decode zm_D_copyFrom.2.1 23 = .ok (.getfield 52, 3) := by decide +kernel
theorem dz_D_copyFrom_26 : decode zm_D_copyFrom.2.1 26 = .ok (.putfield 52, 3) := by decide +kernel
theorem dz_D_copyFrom_29 : decode zm_D_copyFrom.2.1 29 = .ok (.iconst 0, 1) := by decide +kernel
theorem dz_D_copyFrom_30 : decode zm_D_copyFrom.2.1 30 = .ok (.istore_n 2, 1) := by decide +kernel
theorem dz_D_copyFrom_31 : decode zm_D_copyFrom.2.1 31 = .ok (.iload_n 2, 1) := by decide +kernel
theorem dz_D_copyFrom_32 : decode zm_D_copyFrom.2.1 32 = .ok (.bipush 6, 2) := by decide +kernel
theorem dz_D_copyFrom_34 : decode zm_D_copyFrom.2.1 34 = .ok (.if_icmp .ge 57, 3) := by decide +kernel
theorem dz_D_copyFrom_37 : decode zm_D_copyFrom.2.1 37 = .ok (.aload_n 0, 1) := by decide +kernel
theorem dz_D_copyFrom_38 : decode zm_D_copyFrom.2.1 38 = .ok (.getfield 9, 3) := by decide +kernel
theorem dz_D_copyFrom_41 : decode zm_D_copyFrom.2.1 41 = .ok (.iload_n 2, 1) := by decide +kernel
theorem dz_D_copyFrom_42 : decode zm_D_copyFrom.2.1 42 = .ok (.aload_n 1, 1) := by decide +kernel
theorem dz_D_copyFrom_43 : decode zm_D_copyFrom.2.1 43 = .ok (.getfield 9, 3) := by decide +kernel
theorem dz_D_copyFrom_46 : decode zm_D_copyFrom.2.1 46 = .ok (.iload_n 2, 1) := by decide +kernel
theorem dz_D_copyFrom_47 : decode zm_D_copyFrom.2.1 47 = .ok (.iaload, 1) := by decide +kernel
theorem dz_D_copyFrom_48 : decode zm_D_copyFrom.2.1 48 = .ok (.iastore, 1) := by decide +kernel
theorem dz_D_copyFrom_49 : decode zm_D_copyFrom.2.1 49 = .ok (.aload_n 0, 1) := by decide +kernel
theorem dz_D_copyFrom_50 : decode zm_D_copyFrom.2.1 50 = .ok (.getfield 15, 3) := by decide +kernel
theorem dz_D_copyFrom_53 : decode zm_D_copyFrom.2.1 53 = .ok (.iload_n 2, 1) := by decide +kernel
theorem dz_D_copyFrom_54 : decode zm_D_copyFrom.2.1 54 = .ok (.aload_n 1, 1) := by decide +kernel
theorem dz_D_copyFrom_55 : decode zm_D_copyFrom.2.1 55 = .ok (.getfield 15, 3) := by decide +kernel
theorem dz_D_copyFrom_58 : decode zm_D_copyFrom.2.1 58 = .ok (.iload_n 2, 1) := by decide +kernel
theorem dz_D_copyFrom_59 : decode zm_D_copyFrom.2.1 59 = .ok (.iaload, 1) := by decide +kernel
theorem dz_D_copyFrom_60 : decode zm_D_copyFrom.2.1 60 = .ok (.iastore, 1) := by decide +kernel
theorem dz_D_copyFrom_61 : decode zm_D_copyFrom.2.1 61 = .ok (.aload_n 0, 1) := by decide +kernel
theorem dz_D_copyFrom_62 : decode zm_D_copyFrom.2.1 62 = .ok (.getfield 18, 3) := by decide +kernel
theorem dz_D_copyFrom_65 : decode zm_D_copyFrom.2.1 65 = .ok (.iload_n 2, 1) := by decide +kernel
theorem dz_D_copyFrom_66 : decode zm_D_copyFrom.2.1 66 = .ok (.aload_n 1, 1) := by decide +kernel
theorem dz_D_copyFrom_67 : decode zm_D_copyFrom.2.1 67 = .ok (.getfield 18, 3) := by decide +kernel
theorem dz_D_copyFrom_70 : decode zm_D_copyFrom.2.1 70 = .ok (.iload_n 2, 1) := by decide +kernel
theorem dz_D_copyFrom_71 : decode zm_D_copyFrom.2.1 71 = .ok (.iaload, 1) := by decide +kernel
theorem dz_D_copyFrom_72 : decode zm_D_copyFrom.2.1 72 = .ok (.iastore, 1) := by decide +kernel
theorem dz_D_copyFrom_73 : decode zm_D_copyFrom.2.1 73 = .ok (.aload_n 0, 1) := by decide +kernel
theorem dz_D_copyFrom_74 : decode zm_D_copyFrom.2.1 74 = .ok (.getfield 21, 3) := by decide +kernel
theorem dz_D_copyFrom_77 : decode zm_D_copyFrom.2.1 77 = .ok (.iload_n 2, 1) := by decide +kernel
theorem dz_D_copyFrom_78 : decode zm_D_copyFrom.2.1 78 = .ok (.aload_n 1, 1) := by decide +kernel
theorem dz_D_copyFrom_79 : decode zm_D_copyFrom.2.1 79 = .ok (.getfield 21, 3) := by decide +kernel
theorem dz_D_copyFrom_82 : decode zm_D_copyFrom.2.1 82 = .ok (.iload_n 2, 1) := by decide +kernel
theorem dz_D_copyFrom_83 : decode zm_D_copyFrom.2.1 83 = .ok (.iaload, 1) := by decide +kernel
theorem dz_D_copyFrom_84 : decode zm_D_copyFrom.2.1 84 = .ok (.iastore, 1) := by decide +kernel
theorem dz_D_copyFrom_85 : decode zm_D_copyFrom.2.1 85 = .ok (.iinc 2 1, 3) := by decide +kernel
theorem dz_D_copyFrom_88 : decode zm_D_copyFrom.2.1 88 = .ok (.goto (-57), 3) := by decide +kernel
theorem dz_D_copyFrom_91 : decode zm_D_copyFrom.2.1 91 = .ok (.iconst 0, 1) := by decide +kernel
theorem dz_D_copyFrom_92 : decode zm_D_copyFrom.2.1 92 = .ok (.istore_n 2, 1) := by decide +kernel
theorem dz_D_copyFrom_93 : decode zm_D_copyFrom.2.1 93 = .ok (.iload_n 2, 1) := by decide +kernel
theorem dz_D_copyFrom_94 : decode zm_D_copyFrom.2.1 94 = .ok (.iconst 5, 1) := by decide +kernel
theorem dz_D_copyFrom_95 : decode zm_D_copyFrom.2.1 95 = .ok (.if_icmp .ge 21, 3) := by decide +kernel
theorem dz_D_copyFrom_98 : decode zm_D_copyFrom.2.1 98 = .ok (.aload_n 0, 1) := by decide +kernel
theorem dz_D_copyFrom_99 : decode zm_D_copyFrom.2.1 99 = .ok (.getfield 24, 3) := by decide +kernel
theorem dz_D_copyFrom_102 : decode zm_D_copyFrom.2.1 102 = .ok (.iload_n 2, 1) := by decide +kernel
theorem dz_D_copyFrom_103 : decode zm_D_copyFrom.2.1 103 = .ok (.aload_n 1, 1) := by decide +kernel
theorem dz_D_copyFrom_104 : decode zm_D_copyFrom.2.1 104 = .ok (.getfield 24, 3) := by decide +kernel
theorem dz_D_copyFrom_107 : decode zm_D_copyFrom.2.1 107 = .ok (.iload_n 2, 1) := by decide +kernel
theorem dz_D_copyFrom_108 : decode zm_D_copyFrom.2.1 108 = .ok (.iaload, 1) := by decide +kernel
theorem dz_D_copyFrom_109 : decode zm_D_copyFrom.2.1 109 = .ok (.iastore, 1) := by decide +kernel
theorem dz_D_copyFrom_110 : decode zm_D_copyFrom.2.1 110 = .ok (.iinc 2 1, 3) := by decide +kernel
theorem dz_D_copyFrom_113 : decode zm_D_copyFrom.2.1 113 = .ok (.goto (-20), 3) := by decide +kernel
theorem dz_D_copyFrom_116 : decode zm_D_copyFrom.2.1 116 = .ok (.iconst 0, 1) := by decide +kernel
theorem dz_D_copyFrom_117 : decode zm_D_copyFrom.2.1 117 = .ok (.istore_n 2, 1) := by decide +kernel
theorem dz_D_copyFrom_118 : decode zm_D_copyFrom.2.1 118 = .ok (.iload_n 2, 1) := by decide +kernel
theorem dz_D_copyFrom_119 : decode zm_D_copyFrom.2.1 119 = .ok (.iconst 5, 1) := by decide +kernel
theorem dz_D_copyFrom_120 : decode zm_D_copyFrom.2.1 120 = .ok (.if_icmp .ge 69, 3) := by decide +kernel
theorem dz_D_copyFrom_123 : decode zm_D_copyFrom.2.1 123 = .ok (.aload_n 0, 1) := by decide +kernel
theorem dz_D_copyFrom_124 : decode zm_D_copyFrom.2.1 124 = .ok (.getfield 27, 3) := by decide +kernel
theorem dz_D_copyFrom_127 : decode zm_D_copyFrom.2.1 127 = .ok (.iload_n 2, 1) := by decide +kernel
theorem dz_D_copyFrom_128 : decode zm_D_copyFrom.2.1 128 = .ok (.aload_n 1, 1) := by decide +kernel
theorem dz_D_copyFrom_129 : decode zm_D_copyFrom.2.1 129 = .ok (.getfield 27, 3) := by decide +kernel
theorem dz_D_copyFrom_132 : decode zm_D_copyFrom.2.1 132 = .ok (.iload_n 2, 1) := by decide +kernel
theorem dz_D_copyFrom_133 : decode zm_D_copyFrom.2.1 133 = .ok (.iaload, 1) := by decide +kernel
theorem dz_D_copyFrom_134 : decode zm_D_copyFrom.2.1 134 = .ok (.iastore, 1) := by decide +kernel
theorem dz_D_copyFrom_135 : decode zm_D_copyFrom.2.1 135 = .ok (.aload_n 0, 1) := by decide +kernel
theorem dz_D_copyFrom_136 : decode zm_D_copyFrom.2.1 136 = .ok (.getfield 30, 3) := by decide +kernel
theorem dz_D_copyFrom_139 : decode zm_D_copyFrom.2.1 139 = .ok (.iload_n 2, 1) := by decide +kernel
theorem dz_D_copyFrom_140 : decode zm_D_copyFrom.2.1 140 = .ok (.aload_n 1, 1) := by decide +kernel
theorem dz_D_copyFrom_141 : decode zm_D_copyFrom.2.1 141 = .ok (.getfield 30, 3) := by decide +kernel
theorem dz_D_copyFrom_144 : decode zm_D_copyFrom.2.1 144 = .ok (.iload_n 2, 1) := by decide +kernel
theorem dz_D_copyFrom_145 : decode zm_D_copyFrom.2.1 145 = .ok (.iaload, 1) := by decide +kernel
theorem dz_D_copyFrom_146 : decode zm_D_copyFrom.2.1 146 = .ok (.iastore, 1) := by decide +kernel
theorem dz_D_copyFrom_147 : decode zm_D_copyFrom.2.1 147 = .ok (.aload_n 0, 1) := by decide +kernel
theorem dz_D_copyFrom_148 : decode zm_D_copyFrom.2.1 148 = .ok (.getfield 33, 3) := by decide +kernel
theorem dz_D_copyFrom_151 : decode zm_D_copyFrom.2.1 151 = .ok (.iload_n 2, 1) := by decide +kernel
theorem dz_D_copyFrom_152 : decode zm_D_copyFrom.2.1 152 = .ok (.aload_n 1, 1) := by decide +kernel
theorem dz_D_copyFrom_153 : decode zm_D_copyFrom.2.1 153 = .ok (.getfield 33, 3) := by decide +kernel
theorem dz_D_copyFrom_156 : decode zm_D_copyFrom.2.1 156 = .ok (.iload_n 2, 1) := by decide +kernel
theorem dz_D_copyFrom_157 : decode zm_D_copyFrom.2.1 157 = .ok (.iaload, 1) := by decide +kernel
theorem dz_D_copyFrom_158 : decode zm_D_copyFrom.2.1 158 = .ok (.iastore, 1) := by decide +kernel
theorem dz_D_copyFrom_159 : decode zm_D_copyFrom.2.1 159 = .ok (.aload_n 0, 1) := by decide +kernel
theorem dz_D_copyFrom_160 : decode zm_D_copyFrom.2.1 160 = .ok (.getfield 36, 3) := by decide +kernel
theorem dz_D_copyFrom_163 : decode zm_D_copyFrom.2.1 163 = .ok (.iload_n 2, 1) := by decide +kernel
theorem dz_D_copyFrom_164 : decode zm_D_copyFrom.2.1 164 = .ok (.aload_n 1, 1) := by decide +kernel
theorem dz_D_copyFrom_165 : decode zm_D_copyFrom.2.1 165 = .ok (.getfield 36, 3) := by decide +kernel
theorem dz_D_copyFrom_168 : decode zm_D_copyFrom.2.1 168 = .ok (.iload_n 2, 1) := by decide +kernel
theorem dz_D_copyFrom_169 : decode zm_D_copyFrom.2.1 169 = .ok (.iaload, 1) := by decide +kernel
theorem dz_D_copyFrom_170 : decode zm_D_copyFrom.2.1 170 = .ok (.iastore, 1) := by decide +kernel
theorem dz_D_copyFrom_171 : decode zm_D_copyFrom.2.1 171 = .ok (.aload_n 0, 1) := by decide +kernel
theorem dz_D_copyFrom_172 : decode zm_D_copyFrom.2.1 172 = .ok (.getfield 39, 3) := by decide +kernel
theorem dz_D_copyFrom_175 : decode zm_D_copyFrom.2.1 175 = .ok (.iload_n 2, 1) := by decide +kernel
theorem dz_D_copyFrom_176 : decode zm_D_copyFrom.2.1 176 = .ok (.aload_n 1, 1) := by decide +kernel
theorem dz_D_copyFrom_177 : decode zm_D_copyFrom.2.1 177 = .ok (.getfield 39, 3) := by decide +kernel
theorem dz_D_copyFrom_180 : decode zm_D_copyFrom.2.1 180 = .ok (.iload_n 2, 1) := by decide +kernel
theorem dz_D_copyFrom_181 : decode zm_D_copyFrom.2.1 181 = .ok (.iaload, 1) := by decide +kernel
theorem dz_D_copyFrom_182 : decode zm_D_copyFrom.2.1 182 = .ok (.iastore, 1) := by decide +kernel
theorem dz_D_copyFrom_183 : decode zm_D_copyFrom.2.1 183 = .ok (.iinc 2 1, 3) := by decide +kernel
theorem dz_D_copyFrom_186 : decode zm_D_copyFrom.2.1 186 = .ok (.goto (-68), 3) := by decide +kernel
theorem dz_D_copyFrom_189 : decode zm_D_copyFrom.2.1 189 = .ok (.return_, 1) := by decide +kernel
theorem dz_D_addOne_0 : decode zm_D_addOne.2.1 0 = .ok (.aload_n 0, 1) := by decide +kernel
theorem dz_D_addOne_1 : decode zm_D_addOne.2.1 1 = .ok (.getfield 45, 3) := by decide +kernel
theorem dz_D_addOne_4 : decode zm_D_addOne.2.1 4 = .ok (.bipush 6, 2) := by decide +kernel
theorem dz_D_addOne_6 : decode zm_D_addOne.2.1 6 = .ok (.if_icmp .lt 4, 3) := by decide +kernel
theorem dz_D_addOne_9 : decode zm_D_addOne.2.1 9 = .ok (.return_, 1) := by decide +kernel
theorem dz_D_addOne_10 : decode zm_D_addOne.2.1 10 = .ok (.aload_n 0, 1) := by decide +kernel
theorem dz_D_addOne_11 : decode zm_D_addOne.2.1 11 = .ok (.getfield 9, 3) := by decide +kernel
theorem dz_D_addOne_14 : decode zm_D_addOne.2.1 14 = .ok (.aload_n 0, 1) := by decide +kernel
theorem dz_D_addOne_15 : decode zm_D_addOne.2.1 15 = .ok (.getfield 45, 3) := by decide +kernel
theorem dz_D_addOne_18 : decode zm_D_addOne.2.1 18 = .ok (.bipush (-4), 2) := by decide +kernel
theorem dz_D_addOne_20 : decode zm_D_addOne.2.1 20 = .ok (.iastore, 1) := by decide +kernel
theorem dz_D_addOne_21 : decode zm_D_addOne.2.1 21 = .ok (.aload_n 0, 1) := by decide +kernel
theorem dz_D_addOne_22 : decode zm_D_addOne.2.1 22 = .ok (.getfield 15, 3) := by decide +kernel
theorem dz_D_addOne_25 : decode zm_D_addOne.2.1 25 = .ok (.aload_n 0, 1) := by decide +kernel
theorem dz_D_addOne_26 : decode zm_D_addOne.2.1 26 = .ok (.getfield 45, 3) := by decide +kernel
theorem dz_D_addOne_29 : decode zm_D_addOne.2.1 29 = .ok (.iconst 0, 1) := by decide +kernel
theorem dz_D_addOne_30 : decode zm_D_addOne.2.1 30 = .ok (.iastore, 1) := by decide +kernel
theorem dz_D_addOne_31 : decode zm_D_addOne.2.1 31 = .ok (.aload_n 0, 1) := by decide +kernel
theorem dz_D_addOne_32 : decode zm_D_addOne.2.1 32 = .ok (.iload_n 1, 1) := by decide +kernel
theorem dz_D_addOne_33 : decode zm_D_addOne.2.1 33 = .ok (.invokevirtual 55, 3) := by decide +kernel
theorem dz_D_addOne_36 : decode zm_D_addOne.2.1 36 = .ok (.ifCond .eq 32, 3) := by decide +kernel
theorem dz_D_addOne_39 : decode zm_D_addOne.2.1 39 = .ok (.aload_n 0, 1) := by decide +kernel
theorem dz_D_addOne_40 : decode zm_D_addOne.2.1 40 = .ok (.getfield 9, 3) := by decide +kernel
theorem dz_D_addOne_43 : decode zm_D_addOne.2.1 43 = .ok (.aload_n 0, 1) := by decide +kernel
theorem dz_D_addOne_44 : decode zm_D_addOne.2.1 44 = .ok (.getfield 45, 3) := by decide +kernel
theorem dz_D_addOne_47 : decode zm_D_addOne.2.1 47 = .ok (.iload_n 1, 1) := by decide +kernel
theorem dz_D_addOne_48 : decode zm_D_addOne.2.1 48 = .ok (.iastore, 1) := by decide +kernel
theorem dz_D_addOne_49 : decode zm_D_addOne.2.1 49 = .ok (.aload_n 0, 1) := by decide +kernel
theorem dz_D_addOne_50 : decode zm_D_addOne.2.1 50 = .ok (.getfield 15, 3) := by decide +kernel
theorem dz_D_addOne_53 : decode zm_D_addOne.2.1 53 = .ok (.aload_n 0, 1) := by decide +kernel
theorem dz_D_addOne_54 : decode zm_D_addOne.2.1 54 = .ok (.getfield 45, 3) := by decide +kernel
theorem dz_D_addOne_57 : decode zm_D_addOne.2.1 57 = .ok (.aload_n 0, 1) := by decide +kernel
theorem dz_D_addOne_58 : decode zm_D_addOne.2.1 58 = .ok (.getfield 15, 3) := by decide +kernel
theorem dz_D_addOne_61 : decode zm_D_addOne.2.1 61 = .ok (.iload_n 1, 1) := by decide +kernel
theorem dz_D_addOne_62 : decode zm_D_addOne.2.1 62 = .ok (.iaload, 1) := by decide +kernel
theorem dz_D_addOne_63 : decode zm_D_addOne.2.1 63 = .ok (.iconst 1, 1) := by decide +kernel
theorem dz_D_addOne_64 : decode zm_D_addOne.2.1 64 = .ok (.iload_n 1, 1) := by decide +kernel
theorem dz_D_addOne_65 : decode zm_D_addOne.2.1 65 = .ok (.ishl, 1) := by decide +kernel
theorem dz_D_addOne_66 : decode zm_D_addOne.2.1 66 = .ok (.ior, 1) := by decide +kernel
theorem dz_D_addOne_67 : decode zm_D_addOne.2.1 67 = .ok (.iastore, 1) := by decide +kernel
theorem dz_D_addOne_68 : decode zm_D_addOne.2.1 68 = .ok (.aload_n 0, 1) := by decide +kernel
theorem dz_D_addOne_69 : decode zm_D_addOne.2.1 69 = .ok (.dup, 1) := by decide +kernel
theorem dz_D_addOne_70 : decode zm_D_addOne.2.1 70 = .ok (.getfield 45, 3) := by decide +kernel
theorem dz_D_addOne_73 : decode zm_D_addOne.2.1 73 = .ok (.iconst 1, 1) := by decide +kernel
theorem dz_D_addOne_74 : decode zm_D_addOne.2.1 74 = .ok (.iadd, 1) := by decide +kernel
theorem dz_D_addOne_75 : decode zm_D_addOne.2.1 75 = .ok (.putfield 45, 3) := by decide +kernel
theorem dz_D_addOne_78 : decode zm_D_addOne.2.1 78 = .ok (.return_, 1) := by decide +kernel
theorem dz_D_addRule_0 : decode zm_D_addRule.2.1 0 = .ok (.aload_n 0, 1) := by decide +kernel
theorem dz_D_addRule_1 : decode zm_D_addRule.2.1 1 = .ok (.getfield 52, 3) := by decide +kernel
theorem dz_D_addRule_4 : decode zm_D_addRule.2.1 4 = .ok (.iconst 5, 1) := by decide +kernel
theorem dz_D_addRule_5 : decode zm_D_addRule.2.1 5 = .ok (.if_icmp .lt 4, 3) := by decide +kernel
theorem dz_D_addRule_8 : decode zm_D_addRule.2.1 8 = .ok (.return_, 1) := by decide +kernel
theorem dz_D_addRule_9 : decode zm_D_addRule.2.1 9 = .ok (.aload_n 0, 1) := by decide +kernel
theorem dz_D_addRule_10 : decode zm_D_addRule.2.1 10 = .ok (.getfield 27, 3) := by decide +kernel
theorem dz_D_addRule_13 : decode zm_D_addRule.2.1 13 = .ok (.aload_n 0, 1) := by decide +kernel
theorem dz_D_addRule_14 : decode zm_D_addRule.2.1 14 = .ok (.getfield 52, 3) := by decide +kernel
theorem dz_D_addRule_17 : decode zm_D_addRule.2.1 17 = .ok (.iload_n 1, 1) := by decide +kernel
theorem dz_D_addRule_18 : decode zm_D_addRule.2.1 18 = .ok (.iastore, 1) := by decide +kernel
theorem dz_D_addRule_19 : decode zm_D_addRule.2.1 19 = .ok (.aload_n 0, 1) := by decide +kernel
theorem dz_D_addRule_20 : decode zm_D_addRule.2.1 20 = .ok (.getfield 30, 3) := by decide +kernel
theorem dz_D_addRule_23 : decode zm_D_addRule.2.1 23 = .ok (.aload_n 0, 1) := by decide +kernel
theorem dz_D_addRule_24 : decode zm_D_addRule.2.1 24 = .ok (.getfield 52, 3) := by decide +kernel
theorem dz_D_addRule_27 : decode zm_D_addRule.2.1 27 = .ok (.iload_n 2, 1) := by decide +kernel
theorem dz_D_addRule_28 : decode zm_D_addRule.2.1 28 = .ok (.iastore, 1) := by decide +kernel
theorem dz_D_addRule_29 : decode zm_D_addRule.2.1 29 = .ok (.aload_n 0, 1) := by decide +kernel
theorem dz_D_addRule_30 : decode zm_D_addRule.2.1 30 = .ok (.getfield 33, 3) := by decide +kernel
theorem dz_D_addRule_33 : decode zm_D_addRule.2.1 33 = .ok (.aload_n 0, 1) := by decide +kernel
theorem dz_D_addRule_34 : decode zm_D_addRule.2.1 34 = .ok (.getfield 52, 3) := by decide +kernel
theorem dz_D_addRule_37 : decode zm_D_addRule.2.1 37 = .ok (.iload_n 3, 1) := by decide +kernel
theorem dz_D_addRule_38 : decode zm_D_addRule.2.1 38 = .ok (.iastore, 1) := by decide +kernel
theorem dz_D_addRule_39 : decode zm_D_addRule.2.1 39 = .ok (.aload_n 0, 1) := by decide +kernel
theorem dz_D_addRule_40 : decode zm_D_addRule.2.1 40 = .ok (.getfield 36, 3) := by decide +kernel
theorem dz_D_addRule_43 : decode zm_D_addRule.2.1 43 = .ok (.aload_n 0, 1) := by decide +kernel
theorem dz_D_addRule_44 : decode zm_D_addRule.2.1 44 = .ok (.getfield 52, 3) := by decide +kernel
theorem dz_D_addRule_47 : decode zm_D_addRule.2.1 47 = .ok (.iload 4, 2) := by decide +kernel
theorem dz_D_addRule_49 : decode zm_D_addRule.2.1 49 = .ok (.iastore, 1) := by decide +kernel
theorem dz_D_addRule_50 : decode zm_D_addRule.2.1 50 = .ok (.aload_n 0, 1) := by decide +kernel
theorem dz_D_addRule_51 : decode zm_D_addRule.2.1 51 = .ok (.getfield 39, 3) := by decide +kernel
theorem dz_D_addRule_54 : decode zm_D_addRule.2.1 54 = .ok (.aload_n 0, 1) := by decide +kernel
theorem dz_D_addRule_55 : decode zm_D_addRule.2.1 55 = .ok (.getfield 52, 3) := by decide +kernel
theorem dz_D_addRule_58 : decode zm_D_addRule.2.1 58 = .ok (.iload 5, 2) := by decide +kernel
theorem dz_D_addRule_60 : decode zm_D_addRule.2.1 60 = .ok (.iastore, 1) := by decide +kernel
theorem dz_D_addRule_61 : decode zm_D_addRule.2.1 61 = .ok (.aload_n 0, 1) := by decide +kernel
theorem dz_D_addRule_62 : decode zm_D_addRule.2.1 62 = .ok (.dup, 1) := by decide +kernel
theorem dz_D_addRule_63 : decode zm_D_addRule.2.1 63 = .ok (.getfield 52, 3) := by decide +kernel
theorem dz_D_addRule_66 : decode zm_D_addRule.2.1 66 = .ok (.iconst 1, 1) := by decide +kernel
theorem dz_D_addRule_67 : decode zm_D_addRule.2.1 67 = .ok (.iadd, 1) := by decide +kernel
theorem dz_D_addRule_68 : decode zm_D_addRule.2.1 68 = .ok (.putfield 52, 3) := by decide +kernel
theorem dz_D_addRule_71 : decode zm_D_addRule.2.1 71 = .ok (.return_, 1) := by decide +kernel
theorem dz_D_isOne_0 : decode zm_D_isOne.2.1 0 = .ok (.iload_n 1, 1) := by decide +kernel
theorem dz_D_isOne_1 : decode zm_D_isOne.2.1 1 = .ok (.ifCond .lt 21, 3) := by decide +kernel
theorem dz_D_isOne_4 : decode zm_D_isOne.2.1 4 = .ok (.iload_n 1, 1) := by decide +kernel
theorem dz_D_isOne_5 : decode zm_D_isOne.2.1 5 = .ok (.aload_n 0, 1) := by decide +kernel
theorem dz_D_isOne_6 : decode zm_D_isOne.2.1 6 = .ok (.getfield 45, 3) := by decide +kernel
theorem dz_D_isOne_9 : decode zm_D_isOne.2.1 9 = .ok (.if_icmp .ge 13, 3) := by decide +kernel
theorem dz_D_isOne_12 : decode zm_D_isOne.2.1 12 = .ok (.iload_n 1, 1) := by decide +kernel
theorem dz_D_isOne_13 : decode zm_D_isOne.2.1 13 = .ok (.bipush 6, 2) := by decide +kernel
theorem dz_D_isOne_15 : decode zm_D_isOne.2.1 15 = .ok (.if_icmp .ge 7, 3) := by decide +kernel
theorem dz_D_isOne_18 : decode zm_D_isOne.2.1 18 = .ok (.iconst 1, 1) := by decide +kernel
theorem dz_D_isOne_19 : decode zm_D_isOne.2.1 19 = .ok (.goto 4, 3) := by decide +kernel
theorem dz_D_isOne_22 : decode zm_D_isOne.2.1 22 = .ok (.iconst 0, 1) := by decide +kernel
theorem dz_D_isOne_23 : decode zm_D_isOne.2.1 23 = .ok (.ireturn, 1) := by decide +kernel
theorem dz_D_isRule_0 : decode zm_D_isRule.2.1 0 = .ok (.iload_n 1, 1) := by decide +kernel
theorem dz_D_isRule_1 : decode zm_D_isRule.2.1 1 = .ok (.ifCond .lt 20, 3) := by decide +kernel
theorem dz_D_isRule_4 : decode zm_D_isRule.2.1 4 = .ok (.iload_n 1, 1) := by decide +kernel
theorem dz_D_isRule_5 : decode zm_D_isRule.2.1 5 = .ok (.aload_n 0, 1) := by decide +kernel
theorem dz_D_isRule_6 : decode zm_D_isRule.2.1 6 = .ok (.getfield 52, 3) := by decide +kernel
theorem dz_D_isRule_9 : decode zm_D_isRule.2.1 9 = .ok (.if_icmp .ge 12, 3) := by decide +kernel
theorem dz_D_isRule_12 : decode zm_D_isRule.2.1 12 = .ok (.iload_n 1, 1) := by decide +kernel
theorem dz_D_isRule_13 : decode zm_D_isRule.2.1 13 = .ok (.iconst 5, 1) := by decide +kernel
theorem dz_D_isRule_14 : decode zm_D_isRule.2.1 14 = .ok (.if_icmp .ge 7, 3) := by decide +kernel
theorem dz_D_isRule_17 : decode zm_D_isRule.2.1 17 = .ok (.iconst 1, 1) := by decide +kernel
theorem dz_D_isRule_18 : decode zm_D_isRule.2.1 18 = .ok (.goto 4, 3) := by decide +kernel
theorem dz_D_isRule_21 : decode zm_D_isRule.2.1 21 = .ok (.iconst 0, 1) := by decide +kernel
theorem dz_D_isRule_22 : decode zm_D_isRule.2.1 22 = .ok (.ireturn, 1) := by decide +kernel
theorem dz_D_isGone_0 : decode zm_D_isGone.2.1 0 = .ok (.aload_n 0, 1) := by decide +kernel
theorem dz_D_isGone_1 : decode zm_D_isGone.2.1 1 = .ok (.getfield 49, 3) := by decide +kernel
theorem dz_D_isGone_4 : decode zm_D_isGone.2.1 4 = .ok (.iload_n 1, 1) := by decide +kernel
theorem dz_D_isGone_5 : decode zm_D_isGone.2.1 5 = .ok (.ishr, 1) := by decide +kernel
theorem dz_D_isGone_6 : decode zm_D_isGone.2.1 6 = .ok (.iconst 1, 1) := by decide +kernel
theorem dz_D_isGone_7 : decode zm_D_isGone.2.1 7 = .ok (.iand, 1) := by decide +kernel
theorem dz_D_isGone_8 : decode zm_D_isGone.2.1 8 = .ok (.ifCond .eq 7, 3) := by decide +kernel
theorem dz_D_isGone_11 : decode zm_D_isGone.2.1 11 = .ok (.iconst 1, 1) := by decide +kernel
theorem dz_D_isGone_12 : decode zm_D_isGone.2.1 12 = .ok (.goto 4, 3) := by decide +kernel
theorem dz_D_isGone_15 : decode zm_D_isGone.2.1 15 = .ok (.iconst 0, 1) := by decide +kernel
theorem dz_D_isGone_16 : decode zm_D_isGone.2.1 16 = .ok (.ireturn, 1) := by decide +kernel
theorem dz_D_isKnown_0 : decode zm_D_isKnown.2.1 0 = .ok (.aload_n 0, 1) := by decide +kernel
theorem dz_D_isKnown_1 : decode zm_D_isKnown.2.1 1 = .ok (.iload_n 1, 1) := by decide +kernel
theorem dz_D_isKnown_2 : decode zm_D_isKnown.2.1 2 = .ok (.invokevirtual 55, 3) := by decide +kernel
theorem dz_D_isKnown_5 : decode zm_D_isKnown.2.1 5 = .ok (.ifCond .eq 20, 3) := by decide +kernel
theorem dz_D_isKnown_8 : decode zm_D_isKnown.2.1 8 = .ok (.aload_n 0, 1) := by decide +kernel
theorem dz_D_isKnown_9 : decode zm_D_isKnown.2.1 9 = .ok (.getfield 18, 3) := by decide +kernel
theorem dz_D_isKnown_12 : decode zm_D_isKnown.2.1 12 = .ok (.iload_n 1, 1) := by decide +kernel
theorem dz_D_isKnown_13 : decode zm_D_isKnown.2.1 13 = .ok (.iaload, 1) := by decide +kernel
theorem dz_D_isKnown_14 : decode zm_D_isKnown.2.1 14 = .ok (.iload_n 2, 1) := by decide +kernel
theorem dz_D_isKnown_15 : decode zm_D_isKnown.2.1 15 = .ok (.ishr, 1) := by decide +kernel
theorem dz_D_isKnown_16 : decode zm_D_isKnown.2.1 16 = .ok (.iconst 1, 1) := by decide +kernel
theorem dz_D_isKnown_17 : decode zm_D_isKnown.2.1 17 = .ok (.iand, 1) := by decide +kernel
theorem dz_D_isKnown_18 : decode zm_D_isKnown.2.1 18 = .ok (.ifCond .eq 7, 3) := by decide +kernel
theorem dz_D_isKnown_21 : decode zm_D_isKnown.2.1 21 = .ok (.iconst 1, 1) := by decide +kernel
theorem dz_D_isKnown_22 : decode zm_D_isKnown.2.1 22 = .ok (.goto 4, 3) := by decide +kernel
theorem dz_D_isKnown_25 : decode zm_D_isKnown.2.1 25 = .ok (.iconst 0, 1) := by decide +kernel
theorem dz_D_isKnown_26 : decode zm_D_isKnown.2.1 26 = .ok (.ireturn, 1) := by decide +kernel
theorem dz_D_everybody_0 : decode zm_D_everybody.2.1 0 = .ok (.iconst 1, 1) := by decide +kernel
theorem dz_D_everybody_1 : decode zm_D_everybody.2.1 1 = .ok (.aload_n 0, 1) := by decide +kernel
theorem dz_D_everybody_2 : decode zm_D_everybody.2.1 2 = .ok (.getfield 45, 3) := by decide +kernel
theorem dz_D_everybody_5 : decode zm_D_everybody.2.1 5 = .ok (.ishl, 1) := by decide +kernel
theorem dz_D_everybody_6 : decode zm_D_everybody.2.1 6 = .ok (.iconst 1, 1) := by decide +kernel
theorem dz_D_everybody_7 : decode zm_D_everybody.2.1 7 = .ok (.isub, 1) := by decide +kernel
theorem dz_D_everybody_8 : decode zm_D_everybody.2.1 8 = .ok (.ireturn, 1) := by decide +kernel
theorem dz_D_allRules_0 : decode zm_D_allRules.2.1 0 = .ok (.iconst 1, 1) := by decide +kernel
theorem dz_D_allRules_1 : decode zm_D_allRules.2.1 1 = .ok (.aload_n 0, 1) := by decide +kernel
theorem dz_D_allRules_2 : decode zm_D_allRules.2.1 2 = .ok (.getfield 52, 3) := by decide +kernel
theorem dz_D_allRules_5 : decode zm_D_allRules.2.1 5 = .ok (.ishl, 1) := by decide +kernel
theorem dz_D_allRules_6 : decode zm_D_allRules.2.1 6 = .ok (.iconst 1, 1) := by decide +kernel
theorem dz_D_allRules_7 : decode zm_D_allRules.2.1 7 = .ok (.isub, 1) := by decide +kernel
theorem dz_D_allRules_8 : decode zm_D_allRules.2.1 8 = .ok (.ireturn, 1) := by decide +kernel
theorem dz_D_cases_0 : decode zm_D_cases.2.1 0 = .ok (.iconst 1, 1) := by decide +kernel
theorem dz_D_cases_1 : decode zm_D_cases.2.1 1 = .ok (.aload_n 0, 1) := by decide +kernel
theorem dz_D_cases_2 : decode zm_D_cases.2.1 2 = .ok (.getfield 45, 3) := by decide +kernel
theorem dz_D_cases_5 : decode zm_D_cases.2.1 5 = .ok (.ishl, 1) := by decide +kernel
theorem dz_D_cases_6 : decode zm_D_cases.2.1 6 = .ok (.ireturn, 1) := by decide +kernel
theorem dz_D_placeAmongBorn_0 : decode zm_D_placeAmongBorn.2.1 0 = .ok (.iload_n 1, 1) := by decide +kernel
theorem dz_D_placeAmongBorn_1 : decode zm_D_placeAmongBorn.2.1 1 = .ok (.ifCond .lt 19, 3) := by decide +kernel
theorem dz_D_placeAmongBorn_4 : decode zm_D_placeAmongBorn.2.1 4 = .ok (.iload_n 1, 1) := by decide +kernel
theorem dz_D_placeAmongBorn_5 : decode zm_D_placeAmongBorn.2.1 5 = .ok (.aload_n 0, 1) := by decide +kernel
theorem dz_D_placeAmongBorn_6 : decode zm_D_placeAmongBorn.2.1 6 = .ok (.getfield 45, 3) := by decide +kernel
theorem dz_D_placeAmongBorn_9 : decode zm_D_placeAmongBorn.2.1 9 = .ok (.if_icmp .ge 11, 3) := by decide +kernel
theorem dz_D_placeAmongBorn_12 : decode zm_D_placeAmongBorn.2.1 12 = .ok (.iload_n 2, 1) := by decide +kernel
theorem dz_D_placeAmongBorn_13 : decode zm_D_placeAmongBorn.2.1 13 = .ok (.iload_n 1, 1) := by decide +kernel
theorem dz_D_placeAmongBorn_14 : decode zm_D_placeAmongBorn.2.1 14 = .ok (.ishr, 1) := by decide +kernel
theorem dz_D_placeAmongBorn_15 : decode zm_D_placeAmongBorn.2.1 15 = .ok (.iconst 1, 1) := by decide +kernel
theorem dz_D_placeAmongBorn_16 : decode zm_D_placeAmongBorn.2.1 16 = .ok (.iand, 1) := by decide +kernel
theorem dz_D_placeAmongBorn_17 : decode zm_D_placeAmongBorn.2.1 17 = .ok (.ifCond .eq 5, 3) := by decide +kernel
theorem dz_D_placeAmongBorn_20 : decode zm_D_placeAmongBorn.2.1 20 = .ok (.iconst 0, 1) := by decide +kernel
theorem dz_D_placeAmongBorn_21 : decode zm_D_placeAmongBorn.2.1 21 = .ok (.ireturn, 1) := by decide +kernel
theorem dz_D_placeAmongBorn_22 : decode zm_D_placeAmongBorn.2.1 22 = .ok (.iconst 0, 1) := by decide +kernel
theorem dz_D_placeAmongBorn_23 : decode zm_D_placeAmongBorn.2.1 23 = .ok (.istore_n 3, 1) := by decide +kernel
theorem dz_D_placeAmongBorn_24 : decode zm_D_placeAmongBorn.2.1 24 = .ok (.iconst 0, 1) := by decide +kernel
theorem dz_D_placeAmongBorn_25 : decode zm_D_placeAmongBorn.2.1 25 = .ok (.istore 4, 2) := by decide +kernel
theorem dz_D_placeAmongBorn_27 : decode zm_D_placeAmongBorn.2.1 27 = .ok (.iload 4, 2) := by decide +kernel
theorem dz_D_placeAmongBorn_29 : decode zm_D_placeAmongBorn.2.1 29 = .ok (.iload_n 1, 1) := by decide +kernel
theorem dz_D_placeAmongBorn_30 : decode zm_D_placeAmongBorn.2.1 30 = .ok (.if_icmp .gt 37, 3) := by decide +kernel
theorem dz_D_placeAmongBorn_33 : decode zm_D_placeAmongBorn.2.1 33 = .ok (.aload_n 0, 1) := by decide +kernel
theorem dz_D_placeAmongBorn_34 : decode zm_D_placeAmongBorn.2.1 34 = .ok (.getfield 9, 3) := by decide +kernel
theorem dz_D_placeAmongBorn_37 : decode zm_D_placeAmongBorn.2.1 37 = .ok (.iload 4, 2) := by decide +kernel
theorem dz_D_placeAmongBorn_39 : decode zm_D_placeAmongBorn.2.1 39 = .ok (.iaload, 1) := by decide +kernel
theorem dz_D_placeAmongBorn_40 : decode zm_D_placeAmongBorn.2.1 40 = .ok (.aload_n 0, 1) := by decide +kernel
theorem dz_D_placeAmongBorn_41 : decode zm_D_placeAmongBorn.2.1 41 = .ok (.getfield 9, 3) := by decide +kernel
theorem dz_D_placeAmongBorn_44 : decode zm_D_placeAmongBorn.2.1 44 = .ok (.iload_n 1, 1) := by decide +kernel
theorem dz_D_placeAmongBorn_45 : decode zm_D_placeAmongBorn.2.1 45 = .ok (.iaload, 1) := by decide +kernel
theorem dz_D_placeAmongBorn_46 : decode zm_D_placeAmongBorn.2.1 46 = .ok (.if_icmp .ne 15, 3) := by decide +kernel
theorem dz_D_placeAmongBorn_49 : decode zm_D_placeAmongBorn.2.1 49 = .ok (.iload_n 2, 1) := by decide +kernel
theorem dz_D_placeAmongBorn_50 : decode zm_D_placeAmongBorn.2.1 50 = .ok (.iload 4, 2) := by decide +kernel
theorem dz_D_placeAmongBorn_52 : decode zm_D_placeAmongBorn.2.1 52 = .ok (.ishr, 1) := by decide +kernel
theorem dz_D_placeAmongBorn_53 : decode zm_D_placeAmongBorn.2.1 53 = .ok (.iconst 1, 1) := by decide +kernel
theorem dz_D_placeAmongBorn_54 : decode zm_D_placeAmongBorn.2.1 54 = .ok (.iand, 1) := by decide +kernel
theorem dz_D_placeAmongBorn_55 : decode zm_D_placeAmongBorn.2.1 55 = .ok (.ifCond .ne 6, 3) := by decide +kernel
theorem dz_D_placeAmongBorn_58 : decode zm_D_placeAmongBorn.2.1 58 = .ok (.iinc 3 1, 3) := by decide +kernel
theorem dz_D_placeAmongBorn_61 : decode zm_D_placeAmongBorn.2.1 61 = .ok (.iinc 4 1, 3) := by decide +kernel
theorem dz_D_placeAmongBorn_64 : decode zm_D_placeAmongBorn.2.1 64 = .ok (.goto (-37), 3) := by decide +kernel
theorem dz_D_placeAmongBorn_67 : decode zm_D_placeAmongBorn.2.1 67 = .ok (.iload_n 3, 1) := by decide +kernel
theorem dz_D_placeAmongBorn_68 : decode zm_D_placeAmongBorn.2.1 68 = .ok (.ireturn, 1) := by decide +kernel
theorem dz_D_childrenLeft_0 : decode zm_D_childrenLeft.2.1 0 = .ok (.iconst 0, 1) := by decide +kernel
theorem dz_D_childrenLeft_1 : decode zm_D_childrenLeft.2.1 1 = .ok (.istore_n 3, 1) := by decide +kernel
theorem dz_D_childrenLeft_2 : decode zm_D_childrenLeft.2.1 2 = .ok (.iconst 0, 1) := by decide +kernel
theorem dz_D_childrenLeft_3 : decode zm_D_childrenLeft.2.1 3 = .ok (.istore 4, 2) := by decide +kernel
theorem dz_D_childrenLeft_5 : decode zm_D_childrenLeft.2.1 5 = .ok (.iload 4, 2) := by decide +kernel
theorem dz_D_childrenLeft_7 : decode zm_D_childrenLeft.2.1 7 = .ok (.aload_n 0, 1) := by decide +kernel
theorem dz_D_childrenLeft_8 : decode zm_D_childrenLeft.2.1 8 = .ok (.getfield 45, 3) := by decide +kernel
theorem dz_D_childrenLeft_11 : decode zm_D_childrenLeft.2.1 11 = .ok (.if_icmp .ge 32, 3) := by decide +kernel
theorem dz_D_childrenLeft_14 : decode zm_D_childrenLeft.2.1 14 = .ok (.aload_n 0, 1) := by decide +kernel
theorem dz_D_childrenLeft_15 : decode zm_D_childrenLeft.2.1 15 = .ok (.getfield 9, 3) := by decide +kernel
theorem dz_D_childrenLeft_18 : decode zm_D_childrenLeft.2.1 18 = .ok (.iload 4, 2) := by decide +kernel
theorem dz_D_childrenLeft_20 : decode zm_D_childrenLeft.2.1 20 = .ok (.iaload, 1) := by decide +kernel
theorem dz_D_childrenLeft_21 : decode zm_D_childrenLeft.2.1 21 = .ok (.iload_n 1, 1) := by decide +kernel
theorem dz_D_childrenLeft_22 : decode zm_D_childrenLeft.2.1 22 = .ok (.if_icmp .ne 15, 3) := by decide +kernel
theorem dz_D_childrenLeft_25 : decode zm_D_childrenLeft.2.1 25 = .ok (.iload_n 2, 1) := by decide +kernel
theorem dz_D_childrenLeft_26 : decode zm_D_childrenLeft.2.1 26 = .ok (.iload 4, 2) := by decide +kernel
theorem dz_D_childrenLeft_28 : decode zm_D_childrenLeft.2.1 28 = .ok (.ishr, 1) := by decide +kernel
theorem dz_D_childrenLeft_29 : decode zm_D_childrenLeft.2.1 29 = .ok (.iconst 1, 1) := by decide +kernel
theorem dz_D_childrenLeft_30 : decode zm_D_childrenLeft.2.1 30 = .ok (.iand, 1) := by decide +kernel
theorem dz_D_childrenLeft_31 : decode zm_D_childrenLeft.2.1 31 = .ok (.ifCond .ne 6, 3) := by decide +kernel
theorem dz_D_childrenLeft_34 : decode zm_D_childrenLeft.2.1 34 = .ok (.iinc 3 1, 3) := by decide +kernel
theorem dz_D_childrenLeft_37 : decode zm_D_childrenLeft.2.1 37 = .ok (.iinc 4 1, 3) := by decide +kernel
theorem dz_D_childrenLeft_40 : decode zm_D_childrenLeft.2.1 40 = .ok (.goto (-35), 3) := by decide +kernel
theorem dz_D_childrenLeft_43 : decode zm_D_childrenLeft.2.1 43 = .ok (.iload_n 3, 1) := by decide +kernel
theorem dz_D_childrenLeft_44 : decode zm_D_childrenLeft.2.1 44 = .ok (.ireturn, 1) := by decide +kernel
theorem dz_D_meets_0 : decode zm_D_meets.2.1 0 = .ok (.aload_n 0, 1) := by decide +kernel
theorem dz_D_meets_1 : decode zm_D_meets.2.1 1 = .ok (.iload_n 1, 1) := by decide +kernel
theorem dz_D_meets_2 : decode zm_D_meets.2.1 2 = .ok (.invokevirtual 55, 3) := by decide +kernel
theorem dz_D_meets_5 : decode zm_D_meets.2.1 5 = .ok (.ifCond .eq 19, 3) := by decide +kernel
theorem dz_D_meets_8 : decode zm_D_meets.2.1 8 = .ok (.aload_n 0, 1) := by decide +kernel
theorem dz_D_meets_9 : decode zm_D_meets.2.1 9 = .ok (.iload_n 2, 1) := by decide +kernel
theorem dz_D_meets_10 : decode zm_D_meets.2.1 10 = .ok (.invokevirtual 59, 3) := by decide +kernel
theorem dz_D_meets_13 : decode zm_D_meets.2.1 13 = .ok (.ifCond .eq 11, 3) := by decide +kernel
theorem dz_D_meets_16 : decode zm_D_meets.2.1 16 = .ok (.iload_n 3, 1) := by decide +kernel
theorem dz_D_meets_17 : decode zm_D_meets.2.1 17 = .ok (.iload_n 1, 1) := by decide +kernel
theorem dz_D_meets_18 : decode zm_D_meets.2.1 18 = .ok (.ishr, 1) := by decide +kernel
theorem dz_D_meets_19 : decode zm_D_meets.2.1 19 = .ok (.iconst 1, 1) := by decide +kernel
theorem dz_D_meets_20 : decode zm_D_meets.2.1 20 = .ok (.iand, 1) := by decide +kernel
theorem dz_D_meets_21 : decode zm_D_meets.2.1 21 = .ok (.ifCond .eq 5, 3) := by decide +kernel
theorem dz_D_meets_24 : decode zm_D_meets.2.1 24 = .ok (.iconst 0, 1) := by decide +kernel
theorem dz_D_meets_25 : decode zm_D_meets.2.1 25 = .ok (.ireturn, 1) := by decide +kernel
theorem dz_D_meets_26 : decode zm_D_meets.2.1 26 = .ok (.aload_n 0, 1) := by decide +kernel
theorem dz_D_meets_27 : decode zm_D_meets.2.1 27 = .ok (.getfield 36, 3) := by decide +kernel
theorem dz_D_meets_30 : decode zm_D_meets.2.1 30 = .ok (.iload_n 2, 1) := by decide +kernel
theorem dz_D_meets_31 : decode zm_D_meets.2.1 31 = .ok (.iaload, 1) := by decide +kernel
theorem dz_D_meets_32 : decode zm_D_meets.2.1 32 = .ok (.istore 4, 2) := by decide +kernel
theorem dz_D_meets_34 : decode zm_D_meets.2.1 34 = .ok (.aload_n 0, 1) := by decide +kernel
theorem dz_D_meets_35 : decode zm_D_meets.2.1 35 = .ok (.getfield 33, 3) := by decide +kernel
theorem dz_D_meets_38 : decode zm_D_meets.2.1 38 = .ok (.iload_n 2, 1) := by decide +kernel
theorem dz_D_meets_39 : decode zm_D_meets.2.1 39 = .ok (.iaload, 1) := by decide +kernel
theorem dz_D_meets_40 : decode zm_D_meets.2.1 40 = .ok (.tableswitch 112 0 4 #[36, 38, 55, 75, 92], 36) := by decide +kernel
theorem dz_D_meets_76 : decode zm_D_meets.2.1 76 = .ok (.iconst 1, 1) := by decide +kernel
theorem dz_D_meets_77 : decode zm_D_meets.2.1 77 = .ok (.ireturn, 1) := by decide +kernel
theorem dz_D_meets_78 : decode zm_D_meets.2.1 78 = .ok (.aload_n 0, 1) := by decide +kernel
theorem dz_D_meets_79 : decode zm_D_meets.2.1 79 = .ok (.iload_n 1, 1) := by decide +kernel
theorem dz_D_meets_80 : decode zm_D_meets.2.1 80 = .ok (.iload_n 3, 1) := by decide +kernel
theorem dz_D_meets_81 : decode zm_D_meets.2.1 81 = .ok (.invokevirtual 62, 3) := by decide +kernel
theorem dz_D_meets_84 : decode zm_D_meets.2.1 84 = .ok (.iload 4, 2) := by decide +kernel
theorem dz_D_meets_86 : decode zm_D_meets.2.1 86 = .ok (.if_icmp .ne 7, 3) := by decide +kernel
theorem dz_D_meets_89 : decode zm_D_meets.2.1 89 = .ok (.iconst 1, 1) := by decide +kernel
theorem dz_D_meets_90 : decode zm_D_meets.2.1 90 = .ok (.goto 4, 3) := by decide +kernel
theorem dz_D_meets_93 : decode zm_D_meets.2.1 93 = .ok (.iconst 0, 1) := by decide +kernel
theorem dz_D_meets_94 : decode zm_D_meets.2.1 94 = .ok (.ireturn, 1) := by decide +kernel
theorem dz_D_meets_95 : decode zm_D_meets.2.1 95 = .ok (.aload_n 0, 1) := by decide +kernel
theorem dz_D_meets_96 : decode zm_D_meets.2.1 96 = .ok (.getfield 18, 3) := by decide +kernel
theorem dz_D_meets_99 : decode zm_D_meets.2.1 99 = .ok (.iload_n 1, 1) := by decide +kernel
theorem dz_D_meets_100 : decode zm_D_meets.2.1 100 = .ok (.iaload, 1) := by decide +kernel
theorem dz_D_meets_101 : decode zm_D_meets.2.1 101 = .ok (.iload 4, 2) := by decide +kernel
theorem dz_D_meets_103 : decode zm_D_meets.2.1 103 = .ok (.ishr, 1) := by decide +kernel
theorem dz_D_meets_104 : decode zm_D_meets.2.1 104 = .ok (.iconst 1, 1) := by decide +kernel
theorem dz_D_meets_105 : decode zm_D_meets.2.1 105 = .ok (.iand, 1) := by decide +kernel
theorem dz_D_meets_106 : decode zm_D_meets.2.1 106 = .ok (.ifCond .eq 7, 3) := by decide +kernel
theorem dz_D_meets_109 : decode zm_D_meets.2.1 109 = .ok (.iconst 1, 1) := by decide +kernel
theorem dz_D_meets_110 : decode zm_D_meets.2.1 110 = .ok (.goto 4, 3) := by decide +kernel
theorem dz_D_meets_113 : decode zm_D_meets.2.1 113 = .ok (.iconst 0, 1) := by decide +kernel
theorem dz_D_meets_114 : decode zm_D_meets.2.1 114 = .ok (.ireturn, 1) := by decide +kernel
theorem dz_D_meets_115 : decode zm_D_meets.2.1 115 = .ok (.aload_n 0, 1) := by decide +kernel
theorem dz_D_meets_116 : decode zm_D_meets.2.1 116 = .ok (.getfield 21, 3) := by decide +kernel
theorem dz_D_meets_119 : decode zm_D_meets.2.1 119 = .ok (.iload_n 1, 1) := by decide +kernel
theorem dz_D_meets_120 : decode zm_D_meets.2.1 120 = .ok (.iaload, 1) := by decide +kernel
theorem dz_D_meets_121 : decode zm_D_meets.2.1 121 = .ok (.iload 4, 2) := by decide +kernel
theorem dz_D_meets_123 : decode zm_D_meets.2.1 123 = .ok (.if_icmp .lt 7, 3) := by decide +kernel
theorem dz_D_meets_126 : decode zm_D_meets.2.1 126 = .ok (.iconst 1, 1) := by decide +kernel
theorem dz_D_meets_127 : decode zm_D_meets.2.1 127 = .ok (.goto 4, 3) := by decide +kernel
theorem dz_D_meets_130 : decode zm_D_meets.2.1 130 = .ok (.iconst 0, 1) := by decide +kernel
theorem dz_D_meets_131 : decode zm_D_meets.2.1 131 = .ok (.ireturn, 1) := by decide +kernel
theorem dz_D_meets_132 : decode zm_D_meets.2.1 132 = .ok (.aload_n 0, 1) := by decide +kernel
theorem dz_D_meets_133 : decode zm_D_meets.2.1 133 = .ok (.getfield 15, 3) := by decide +kernel
theorem dz_D_meets_136 : decode zm_D_meets.2.1 136 = .ok (.iload_n 1, 1) := by decide +kernel
theorem dz_D_meets_137 : decode zm_D_meets.2.1 137 = .ok (.iaload, 1) := by decide +kernel
theorem dz_D_meets_138 : decode zm_D_meets.2.1 138 = .ok (.iload 4, 2) := by decide +kernel
theorem dz_D_meets_140 : decode zm_D_meets.2.1 140 = .ok (.ishr, 1) := by decide +kernel
theorem dz_D_meets_141 : decode zm_D_meets.2.1 141 = .ok (.iconst 1, 1) := by decide +kernel
theorem dz_D_meets_142 : decode zm_D_meets.2.1 142 = .ok (.iand, 1) := by decide +kernel
theorem dz_D_meets_143 : decode zm_D_meets.2.1 143 = .ok (.ifCond .eq 7, 3) := by decide +kernel
theorem dz_D_meets_146 : decode zm_D_meets.2.1 146 = .ok (.iconst 1, 1) := by decide +kernel
theorem dz_D_meets_147 : decode zm_D_meets.2.1 147 = .ok (.goto 4, 3) := by decide +kernel
theorem dz_D_meets_150 : decode zm_D_meets.2.1 150 = .ok (.iconst 0, 1) := by decide +kernel
theorem dz_D_meets_151 : decode zm_D_meets.2.1 151 = .ok (.ireturn, 1) := by decide +kernel
theorem dz_D_meets_152 : decode zm_D_meets.2.1 152 = .ok (.aload_n 0, 1) := by decide +kernel
theorem dz_D_meets_153 : decode zm_D_meets.2.1 153 = .ok (.iload_n 1, 1) := by decide +kernel
theorem dz_D_meets_154 : decode zm_D_meets.2.1 154 = .ok (.iload_n 3, 1) := by decide +kernel
theorem dz_D_meets_155 : decode zm_D_meets.2.1 155 = .ok (.invokevirtual 66, 3) := by decide +kernel
theorem dz_D_meets_158 : decode zm_D_meets.2.1 158 = .ok (.iload 4, 2) := by decide +kernel
theorem dz_D_meets_160 : decode zm_D_meets.2.1 160 = .ok (.if_icmp .ne 7, 3) := by decide +kernel
theorem dz_D_meets_163 : decode zm_D_meets.2.1 163 = .ok (.iconst 1, 1) := by decide +kernel
theorem dz_D_meets_164 : decode zm_D_meets.2.1 164 = .ok (.goto 4, 3) := by decide +kernel
theorem dz_D_meets_167 : decode zm_D_meets.2.1 167 = .ok (.iconst 0, 1) := by decide +kernel
theorem dz_D_meets_168 : decode zm_D_meets.2.1 168 = .ok (.ireturn, 1) := by decide +kernel
theorem dz_D_whoMeet_0 : decode zm_D_whoMeet.2.1 0 = .ok (.iconst 0, 1) := by decide +kernel
theorem dz_D_whoMeet_1 : decode zm_D_whoMeet.2.1 1 = .ok (.istore_n 3, 1) := by decide +kernel
theorem dz_D_whoMeet_2 : decode zm_D_whoMeet.2.1 2 = .ok (.iconst 0, 1) := by decide +kernel
theorem dz_D_whoMeet_3 : decode zm_D_whoMeet.2.1 3 = .ok (.istore 4, 2) := by decide +kernel
theorem dz_D_whoMeet_5 : decode zm_D_whoMeet.2.1 5 = .ok (.iload 4, 2) := by decide +kernel
theorem dz_D_whoMeet_7 : decode zm_D_whoMeet.2.1 7 = .ok (.aload_n 0, 1) := by decide +kernel
theorem dz_D_whoMeet_8 : decode zm_D_whoMeet.2.1 8 = .ok (.getfield 45, 3) := by decide +kernel
theorem dz_D_whoMeet_11 : decode zm_D_whoMeet.2.1 11 = .ok (.if_icmp .ge 27, 3) := by decide +kernel
theorem dz_D_whoMeet_14 : decode zm_D_whoMeet.2.1 14 = .ok (.aload_n 0, 1) := by decide +kernel
theorem dz_D_whoMeet_15 : decode zm_D_whoMeet.2.1 15 = .ok (.iload 4, 2) := by decide +kernel
theorem dz_D_whoMeet_17 : decode zm_D_whoMeet.2.1 17 = .ok (.iload_n 1, 1) := by decide +kernel
theorem dz_D_whoMeet_18 : decode zm_D_whoMeet.2.1 18 = .ok (.iload_n 2, 1) := by decide +kernel
theorem dz_D_whoMeet_19 : decode zm_D_whoMeet.2.1 19 = .ok (.invokevirtual 69, 3) := by decide +kernel
theorem dz_D_whoMeet_22 : decode zm_D_whoMeet.2.1 22 = .ok (.ifCond .eq 10, 3) := by decide +kernel
theorem dz_D_whoMeet_25 : decode zm_D_whoMeet.2.1 25 = .ok (.iload_n 3, 1) := by decide +kernel
theorem dz_D_whoMeet_26 : decode zm_D_whoMeet.2.1 26 = .ok (.iconst 1, 1) := by decide +kernel
theorem dz_D_whoMeet_27 : decode zm_D_whoMeet.2.1 27 = .ok (.iload 4, 2) := by decide +kernel
theorem dz_D_whoMeet_29 : decode zm_D_whoMeet.2.1 29 = .ok (.ishl, 1) := by decide +kernel
theorem dz_D_whoMeet_30 : decode zm_D_whoMeet.2.1 30 = .ok (.ior, 1) := by decide +kernel
theorem dz_D_whoMeet_31 : decode zm_D_whoMeet.2.1 31 = .ok (.istore_n 3, 1) := by decide +kernel
theorem dz_D_whoMeet_32 : decode zm_D_whoMeet.2.1 32 = .ok (.iinc 4 1, 3) := by decide +kernel
theorem dz_D_whoMeet_35 : decode zm_D_whoMeet.2.1 35 = .ok (.goto (-30), 3) := by decide +kernel
theorem dz_D_whoMeet_38 : decode zm_D_whoMeet.2.1 38 = .ok (.iload_n 3, 1) := by decide +kernel
theorem dz_D_whoMeet_39 : decode zm_D_whoMeet.2.1 39 = .ok (.ireturn, 1) := by decide +kernel
theorem dz_D_receiver_0 : decode zm_D_receiver.2.1 0 = .ok (.aload_n 0, 1) := by decide +kernel
theorem dz_D_receiver_1 : decode zm_D_receiver.2.1 1 = .ok (.iload_n 1, 1) := by decide +kernel
theorem dz_D_receiver_2 : decode zm_D_receiver.2.1 2 = .ok (.invokevirtual 59, 3) := by decide +kernel
theorem dz_D_receiver_5 : decode zm_D_receiver.2.1 5 = .ok (.ifCond .ne 6, 3) := by decide +kernel
theorem dz_D_receiver_8 : decode zm_D_receiver.2.1 8 = .ok (.bipush (-4), 2) := by decide +kernel
theorem dz_D_receiver_10 : decode zm_D_receiver.2.1 10 = .ok (.ireturn, 1) := by decide +kernel
theorem dz_D_receiver_11 : decode zm_D_receiver.2.1 11 = .ok (.aload_n 0, 1) := by decide +kernel
theorem dz_D_receiver_12 : decode zm_D_receiver.2.1 12 = .ok (.getfield 39, 3) := by decide +kernel
theorem dz_D_receiver_15 : decode zm_D_receiver.2.1 15 = .ok (.iload_n 1, 1) := by decide +kernel
theorem dz_D_receiver_16 : decode zm_D_receiver.2.1 16 = .ok (.iaload, 1) := by decide +kernel
theorem dz_D_receiver_17 : decode zm_D_receiver.2.1 17 = .ok (.iconst 1, 1) := by decide +kernel
theorem dz_D_receiver_18 : decode zm_D_receiver.2.1 18 = .ok (.if_icmp .ne 7, 3) := by decide +kernel
theorem dz_D_receiver_21 : decode zm_D_receiver.2.1 21 = .ok (.iconst 3, 1) := by decide +kernel
theorem dz_D_receiver_22 : decode zm_D_receiver.2.1 22 = .ok (.goto 4, 3) := by decide +kernel
theorem dz_D_receiver_25 : decode zm_D_receiver.2.1 25 = .ok (.iconst 1, 1) := by decide +kernel
theorem dz_D_receiver_26 : decode zm_D_receiver.2.1 26 = .ok (.istore_n 3, 1) := by decide +kernel
theorem dz_D_receiver_27 : decode zm_D_receiver.2.1 27 = .ok (.iconst 0, 1) := by decide +kernel
theorem dz_D_receiver_28 : decode zm_D_receiver.2.1 28 = .ok (.istore 4, 2) := by decide +kernel
theorem dz_D_receiver_30 : decode zm_D_receiver.2.1 30 = .ok (.iload 4, 2) := by decide +kernel
theorem dz_D_receiver_32 : decode zm_D_receiver.2.1 32 = .ok (.aload_n 0, 1) := by decide +kernel
theorem dz_D_receiver_33 : decode zm_D_receiver.2.1 33 = .ok (.getfield 45, 3) := by decide +kernel
theorem dz_D_receiver_36 : decode zm_D_receiver.2.1 36 = .ok (.if_icmp .ge 56, 3) := by decide +kernel
theorem dz_D_receiver_39 : decode zm_D_receiver.2.1 39 = .ok (.aload_n 0, 1) := by decide +kernel
theorem dz_D_receiver_40 : decode zm_D_receiver.2.1 40 = .ok (.getfield 39, 3) := by decide +kernel
theorem dz_D_receiver_43 : decode zm_D_receiver.2.1 43 = .ok (.iload_n 1, 1) := by decide +kernel
theorem dz_D_receiver_44 : decode zm_D_receiver.2.1 44 = .ok (.iaload, 1) := by decide +kernel
theorem dz_D_receiver_45 : decode zm_D_receiver.2.1 45 = .ok (.iconst 2, 1) := by decide +kernel
theorem dz_D_receiver_46 : decode zm_D_receiver.2.1 46 = .ok (.if_icmp .ne 15, 3) := by decide +kernel
theorem dz_D_receiver_49 : decode zm_D_receiver.2.1 49 = .ok (.aload_n 0, 1) := by decide +kernel
theorem dz_D_receiver_50 : decode zm_D_receiver.2.1 50 = .ok (.getfield 45, 3) := by decide +kernel
theorem dz_D_receiver_53 : decode zm_D_receiver.2.1 53 = .ok (.iconst 1, 1) := by decide +kernel
theorem dz_D_receiver_54 : decode zm_D_receiver.2.1 54 = .ok (.isub, 1) := by decide +kernel
theorem dz_D_receiver_55 : decode zm_D_receiver.2.1 55 = .ok (.iload 4, 2) := by decide +kernel
theorem dz_D_receiver_57 : decode zm_D_receiver.2.1 57 = .ok (.isub, 1) := by decide +kernel
theorem dz_D_receiver_58 : decode zm_D_receiver.2.1 58 = .ok (.goto 5, 3) := by decide +kernel
theorem dz_D_receiver_61 : decode zm_D_receiver.2.1 61 = .ok (.iload 4, 2) := by decide +kernel
theorem dz_D_receiver_63 : decode zm_D_receiver.2.1 63 = .ok (.istore 5, 2) := by decide +kernel
theorem dz_D_receiver_65 : decode zm_D_receiver.2.1 65 = .ok (.aload_n 0, 1) := by decide +kernel
theorem dz_D_receiver_66 : decode zm_D_receiver.2.1 66 = .ok (.iload 5, 2) := by decide +kernel
theorem dz_D_receiver_68 : decode zm_D_receiver.2.1 68 = .ok (.iload_n 1, 1) := by decide +kernel
theorem dz_D_receiver_69 : decode zm_D_receiver.2.1 69 = .ok (.iload_n 2, 1) := by decide +kernel
theorem dz_D_receiver_70 : decode zm_D_receiver.2.1 70 = .ok (.invokevirtual 69, 3) := by decide +kernel
theorem dz_D_receiver_73 : decode zm_D_receiver.2.1 73 = .ok (.ifCond .eq 13, 3) := by decide +kernel
theorem dz_D_receiver_76 : decode zm_D_receiver.2.1 76 = .ok (.iinc 3 (-1), 3) := by decide +kernel
theorem dz_D_receiver_79 : decode zm_D_receiver.2.1 79 = .ok (.iload_n 3, 1) := by decide +kernel
theorem dz_D_receiver_80 : decode zm_D_receiver.2.1 80 = .ok (.ifCond .ne 6, 3) := by decide +kernel
theorem dz_D_receiver_83 : decode zm_D_receiver.2.1 83 = .ok (.iload 5, 2) := by decide +kernel
theorem dz_D_receiver_85 : decode zm_D_receiver.2.1 85 = .ok (.ireturn, 1) := by decide +kernel
theorem dz_D_receiver_86 : decode zm_D_receiver.2.1 86 = .ok (.iinc 4 1, 3) := by decide +kernel
theorem dz_D_receiver_89 : decode zm_D_receiver.2.1 89 = .ok (.goto (-59), 3) := by decide +kernel
theorem dz_D_receiver_92 : decode zm_D_receiver.2.1 92 = .ok (.bipush (-4), 2) := by decide +kernel
theorem dz_D_receiver_94 : decode zm_D_receiver.2.1 94 = .ok (.ireturn, 1) := by decide +kernel
theorem dz_D_rightOn_0 : decode zm_D_rightOn.2.1 0 = .ok (.bipush (-4), 2) := by decide +kernel
theorem dz_D_rightOn_2 : decode zm_D_rightOn.2.1 2 = .ok (.istore 4, 2) := by decide +kernel
theorem dz_D_rightOn_4 : decode zm_D_rightOn.2.1 4 = .ok (.iconst 0, 1) := by decide +kernel
theorem dz_D_rightOn_5 : decode zm_D_rightOn.2.1 5 = .ok (.istore 5, 2) := by decide +kernel
theorem dz_D_rightOn_7 : decode zm_D_rightOn.2.1 7 = .ok (.iload 5, 2) := by decide +kernel
theorem dz_D_rightOn_9 : decode zm_D_rightOn.2.1 9 = .ok (.aload_n 0, 1) := by decide +kernel
theorem dz_D_rightOn_10 : decode zm_D_rightOn.2.1 10 = .ok (.getfield 52, 3) := by decide +kernel
theorem dz_D_rightOn_13 : decode zm_D_rightOn.2.1 13 = .ok (.if_icmp .ge 84, 3) := by decide +kernel
theorem dz_D_rightOn_16 : decode zm_D_rightOn.2.1 16 = .ok (.iload_n 3, 1) := by decide +kernel
theorem dz_D_rightOn_17 : decode zm_D_rightOn.2.1 17 = .ok (.iload 5, 2) := by decide +kernel
theorem dz_D_rightOn_19 : decode zm_D_rightOn.2.1 19 = .ok (.ishr, 1) := by decide +kernel
theorem dz_D_rightOn_20 : decode zm_D_rightOn.2.1 20 = .ok (.iconst 1, 1) := by decide +kernel
theorem dz_D_rightOn_21 : decode zm_D_rightOn.2.1 21 = .ok (.iand, 1) := by decide +kernel
theorem dz_D_rightOn_22 : decode zm_D_rightOn.2.1 22 = .ok (.ifCond .eq 69, 3) := by decide +kernel
theorem dz_D_rightOn_25 : decode zm_D_rightOn.2.1 25 = .ok (.aload_n 0, 1) := by decide +kernel
theorem dz_D_rightOn_26 : decode zm_D_rightOn.2.1 26 = .ok (.getfield 30, 3) := by decide +kernel
theorem dz_D_rightOn_29 : decode zm_D_rightOn.2.1 29 = .ok (.iload 5, 2) := by decide +kernel
theorem dz_D_rightOn_31 : decode zm_D_rightOn.2.1 31 = .ok (.iaload, 1) := by decide +kernel
theorem dz_D_rightOn_32 : decode zm_D_rightOn.2.1 32 = .ok (.iload_n 1, 1) := by decide +kernel
theorem dz_D_rightOn_33 : decode zm_D_rightOn.2.1 33 = .ok (.if_icmp .eq 6, 3) := by decide +kernel
theorem dz_D_rightOn_36 : decode zm_D_rightOn.2.1 36 = .ok (.goto 55, 3) := by decide +kernel
theorem dz_D_rightOn_39 : decode zm_D_rightOn.2.1 39 = .ok (.iload 4, 2) := by decide +kernel
theorem dz_D_rightOn_41 : decode zm_D_rightOn.2.1 41 = .ok (.bipush (-4), 2) := by decide +kernel
theorem dz_D_rightOn_43 : decode zm_D_rightOn.2.1 43 = .ok (.if_icmp .eq 20, 3) := by decide +kernel
theorem dz_D_rightOn_46 : decode zm_D_rightOn.2.1 46 = .ok (.aload_n 0, 1) := by decide +kernel
theorem dz_D_rightOn_47 : decode zm_D_rightOn.2.1 47 = .ok (.getfield 27, 3) := by decide +kernel
theorem dz_D_rightOn_50 : decode zm_D_rightOn.2.1 50 = .ok (.iload 5, 2) := by decide +kernel
theorem dz_D_rightOn_52 : decode zm_D_rightOn.2.1 52 = .ok (.iaload, 1) := by decide +kernel
theorem dz_D_rightOn_53 : decode zm_D_rightOn.2.1 53 = .ok (.aload_n 0, 1) := by decide +kernel
theorem dz_D_rightOn_54 : decode zm_D_rightOn.2.1 54 = .ok (.getfield 27, 3) := by decide +kernel
theorem dz_D_rightOn_57 : decode zm_D_rightOn.2.1 57 = .ok (.iload 4, 2) := by decide +kernel
theorem dz_D_rightOn_59 : decode zm_D_rightOn.2.1 59 = .ok (.iaload, 1) := by decide +kernel
theorem dz_D_rightOn_60 : decode zm_D_rightOn.2.1 60 = .ok (.if_icmp .ge 7, 3) := by decide +kernel
theorem dz_D_rightOn_63 : decode zm_D_rightOn.2.1 63 = .ok (.iconst 1, 1) := by decide +kernel
theorem dz_D_rightOn_64 : decode zm_D_rightOn.2.1 64 = .ok (.goto 4, 3) := by decide +kernel
theorem dz_D_rightOn_67 : decode zm_D_rightOn.2.1 67 = .ok (.iconst 0, 1) := by decide +kernel
theorem dz_D_rightOn_68 : decode zm_D_rightOn.2.1 68 = .ok (.istore 6, 2) := by decide +kernel
theorem dz_D_rightOn_70 : decode zm_D_rightOn.2.1 70 = .ok (.iload 6, 2) := by decide +kernel
theorem dz_D_rightOn_72 : decode zm_D_rightOn.2.1 72 = .ok (.ifCond .eq 19, 3) := by decide +kernel
theorem dz_D_rightOn_75 : decode zm_D_rightOn.2.1 75 = .ok (.aload_n 0, 1) := by decide +kernel
theorem dz_D_rightOn_76 : decode zm_D_rightOn.2.1 76 = .ok (.iload 5, 2) := by decide +kernel
theorem dz_D_rightOn_78 : decode zm_D_rightOn.2.1 78 = .ok (.iload_n 2, 1) := by decide +kernel
theorem dz_D_rightOn_79 : decode zm_D_rightOn.2.1 79 = .ok (.invokevirtual 73, 3) := by decide +kernel
theorem dz_D_rightOn_82 : decode zm_D_rightOn.2.1 82 = .ok (.bipush (-4), 2) := by decide +kernel
theorem dz_D_rightOn_84 : decode zm_D_rightOn.2.1 84 = .ok (.if_icmp .eq 7, 3) := by decide +kernel
theorem dz_D_rightOn_87 : decode zm_D_rightOn.2.1 87 = .ok (.iload 5, 2) := by decide +kernel
theorem dz_D_rightOn_89 : decode zm_D_rightOn.2.1 89 = .ok (.istore 4, 2) := by decide +kernel
theorem dz_D_rightOn_91 : decode zm_D_rightOn.2.1 91 = .ok (.iinc 5 1, 3) := by decide +kernel
theorem dz_D_rightOn_94 : decode zm_D_rightOn.2.1 94 = .ok (.goto (-87), 3) := by decide +kernel
theorem dz_D_rightOn_97 : decode zm_D_rightOn.2.1 97 = .ok (.iload 4, 2) := by decide +kernel
theorem dz_D_rightOn_99 : decode zm_D_rightOn.2.1 99 = .ok (.ireturn, 1) := by decide +kernel
theorem dz_D_ownerIn_0 : decode zm_D_ownerIn.2.1 0 = .ok (.aload_n 0, 1) := by decide +kernel
theorem dz_D_ownerIn_1 : decode zm_D_ownerIn.2.1 1 = .ok (.aload_n 0, 1) := by decide +kernel
theorem dz_D_ownerIn_2 : decode zm_D_ownerIn.2.1 2 = .ok (.iload_n 1, 1) := by decide +kernel
theorem dz_D_ownerIn_3 : decode zm_D_ownerIn.2.1 3 = .ok (.iload_n 2, 1) := by decide +kernel
theorem dz_D_ownerIn_4 : decode zm_D_ownerIn.2.1 4 = .ok (.iload_n 3, 1) := by decide +kernel
theorem dz_D_ownerIn_5 : decode zm_D_ownerIn.2.1 5 = .ok (.invokevirtual 76, 3) := by decide +kernel
theorem dz_D_ownerIn_8 : decode zm_D_ownerIn.2.1 8 = .ok (.iload_n 2, 1) := by decide +kernel
theorem dz_D_ownerIn_9 : decode zm_D_ownerIn.2.1 9 = .ok (.invokevirtual 73, 3) := by decide +kernel
theorem dz_D_ownerIn_12 : decode zm_D_ownerIn.2.1 12 = .ok (.ireturn, 1) := by decide +kernel
theorem dz_D_ownerNow_0 : decode zm_D_ownerNow.2.1 0 = .ok (.aload_n 0, 1) := by decide +kernel
theorem dz_D_ownerNow_1 : decode zm_D_ownerNow.2.1 1 = .ok (.iload_n 1, 1) := by decide +kernel
theorem dz_D_ownerNow_2 : decode zm_D_ownerNow.2.1 2 = .ok (.aload_n 0, 1) := by decide +kernel
theorem dz_D_ownerNow_3 : decode zm_D_ownerNow.2.1 3 = .ok (.getfield 49, 3) := by decide +kernel
theorem dz_D_ownerNow_6 : decode zm_D_ownerNow.2.1 6 = .ok (.bipush 31, 2) := by decide +kernel
theorem dz_D_ownerNow_8 : decode zm_D_ownerNow.2.1 8 = .ok (.invokevirtual 80, 3) := by decide +kernel
theorem dz_D_ownerNow_11 : decode zm_D_ownerNow.2.1 11 = .ok (.ireturn, 1) := by decide +kernel
theorem dz_D_thingsOf_0 : decode zm_D_thingsOf.2.1 0 = .ok (.iconst 0, 1) := by decide +kernel
theorem dz_D_thingsOf_1 : decode zm_D_thingsOf.2.1 1 = .ok (.istore_n 2, 1) := by decide +kernel
theorem dz_D_thingsOf_2 : decode zm_D_thingsOf.2.1 2 = .ok (.iconst 0, 1) := by decide +kernel
theorem dz_D_thingsOf_3 : decode zm_D_thingsOf.2.1 3 = .ok (.istore_n 3, 1) := by decide +kernel
theorem dz_D_thingsOf_4 : decode zm_D_thingsOf.2.1 4 = .ok (.iload_n 3, 1) := by decide +kernel
theorem dz_D_thingsOf_5 : decode zm_D_thingsOf.2.1 5 = .ok (.iconst 4, 1) := by decide +kernel
theorem dz_D_thingsOf_6 : decode zm_D_thingsOf.2.1 6 = .ok (.if_icmp .ge 24, 3) := by decide +kernel
theorem dz_D_thingsOf_9 : decode zm_D_thingsOf.2.1 9 = .ok (.aload_n 0, 1) := by decide +kernel
theorem dz_D_thingsOf_10 : decode zm_D_thingsOf.2.1 10 = .ok (.iload_n 3, 1) := by decide +kernel
theorem dz_D_thingsOf_11 : decode zm_D_thingsOf.2.1 11 = .ok (.invokevirtual 83, 3) := by decide +kernel
theorem dz_D_thingsOf_14 : decode zm_D_thingsOf.2.1 14 = .ok (.iload_n 1, 1) := by decide +kernel
theorem dz_D_thingsOf_15 : decode zm_D_thingsOf.2.1 15 = .ok (.if_icmp .ne 9, 3) := by decide +kernel
theorem dz_D_thingsOf_18 : decode zm_D_thingsOf.2.1 18 = .ok (.iload_n 2, 1) := by decide +kernel
theorem dz_D_thingsOf_19 : decode zm_D_thingsOf.2.1 19 = .ok (.iconst 1, 1) := by decide +kernel
theorem dz_D_thingsOf_20 : decode zm_D_thingsOf.2.1 20 = .ok (.iload_n 3, 1) := by decide +kernel
theorem dz_D_thingsOf_21 : decode zm_D_thingsOf.2.1 21 = .ok (.ishl, 1) := by decide +kernel
theorem dz_D_thingsOf_22 : decode zm_D_thingsOf.2.1 22 = .ok (.ior, 1) := by decide +kernel
theorem dz_D_thingsOf_23 : decode zm_D_thingsOf.2.1 23 = .ok (.istore_n 2, 1) := by decide +kernel
theorem dz_D_thingsOf_24 : decode zm_D_thingsOf.2.1 24 = .ok (.iinc 3 1, 3) := by decide +kernel
theorem dz_D_thingsOf_27 : decode zm_D_thingsOf.2.1 27 = .ok (.goto (-23), 3) := by decide +kernel
theorem dz_D_thingsOf_30 : decode zm_D_thingsOf.2.1 30 = .ok (.iload_n 2, 1) := by decide +kernel
theorem dz_D_thingsOf_31 : decode zm_D_thingsOf.2.1 31 = .ok (.ireturn, 1) := by decide +kernel
theorem dz_D_givingRules_0 : decode zm_D_givingRules.2.1 0 = .ok (.iconst 0, 1) := by decide +kernel
theorem dz_D_givingRules_1 : decode zm_D_givingRules.2.1 1 = .ok (.istore_n 2, 1) := by decide +kernel
theorem dz_D_givingRules_2 : decode zm_D_givingRules.2.1 2 = .ok (.iconst 0, 1) := by decide +kernel
theorem dz_D_givingRules_3 : decode zm_D_givingRules.2.1 3 = .ok (.istore_n 3, 1) := by decide +kernel
theorem dz_D_givingRules_4 : decode zm_D_givingRules.2.1 4 = .ok (.iload_n 3, 1) := by decide +kernel
theorem dz_D_givingRules_5 : decode zm_D_givingRules.2.1 5 = .ok (.aload_n 0, 1) := by decide +kernel
theorem dz_D_givingRules_6 : decode zm_D_givingRules.2.1 6 = .ok (.getfield 52, 3) := by decide +kernel
theorem dz_D_givingRules_9 : decode zm_D_givingRules.2.1 9 = .ok (.if_icmp .ge 26, 3) := by decide +kernel
theorem dz_D_givingRules_12 : decode zm_D_givingRules.2.1 12 = .ok (.aload_n 0, 1) := by decide +kernel
theorem dz_D_givingRules_13 : decode zm_D_givingRules.2.1 13 = .ok (.iload_n 3, 1) := by decide +kernel
theorem dz_D_givingRules_14 : decode zm_D_givingRules.2.1 14 = .ok (.iload_n 1, 1) := by decide +kernel
theorem dz_D_givingRules_15 : decode zm_D_givingRules.2.1 15 = .ok (.invokevirtual 73, 3) := by decide +kernel
theorem dz_D_givingRules_18 : decode zm_D_givingRules.2.1 18 = .ok (.bipush (-4), 2) := by decide +kernel
theorem dz_D_givingRules_20 : decode zm_D_givingRules.2.1 20 = .ok (.if_icmp .eq 9, 3) := by decide +kernel
theorem dz_D_givingRules_23 : decode zm_D_givingRules.2.1 23 = .ok (.iload_n 2, 1) := by decide +kernel
theorem dz_D_givingRules_24 : decode zm_D_givingRules.2.1 24 = .ok (.iconst 1, 1) := by decide +kernel
theorem dz_D_givingRules_25 : decode zm_D_givingRules.2.1 25 = .ok (.iload_n 3, 1) := by decide +kernel
theorem dz_D_givingRules_26 : decode zm_D_givingRules.2.1 26 = .ok (.ishl, 1) := by decide +kernel
theorem dz_D_givingRules_27 : decode zm_D_givingRules.2.1 27 = .ok (.ior, 1) := by decide +kernel
theorem dz_D_givingRules_28 : decode zm_D_givingRules.2.1 28 = .ok (.istore_n 2, 1) := by decide +kernel
theorem dz_D_givingRules_29 : decode zm_D_givingRules.2.1 29 = .ok (.iinc 3 1, 3) := by decide +kernel
theorem dz_D_givingRules_32 : decode zm_D_givingRules.2.1 32 = .ok (.goto (-28), 3) := by decide +kernel
theorem dz_D_givingRules_35 : decode zm_D_givingRules.2.1 35 = .ok (.iload_n 2, 1) := by decide +kernel
theorem dz_D_givingRules_36 : decode zm_D_givingRules.2.1 36 = .ok (.ireturn, 1) := by decide +kernel
theorem dz_D_act_0 : decode zm_D_act.2.1 0 = .ok (.iload_n 1, 1) := by decide +kernel
theorem dz_D_act_1 : decode zm_D_act.2.1 1 = .ok (.bipush 10, 2) := by decide +kernel
theorem dz_D_act_3 : decode zm_D_act.2.1 3 = .ok (.idiv, 1) := by decide +kernel
theorem dz_D_act_4 : decode zm_D_act.2.1 4 = .ok (.istore_n 2, 1) := by decide +kernel
theorem dz_D_act_5 : decode zm_D_act.2.1 5 = .ok (.iload_n 1, 1) := by decide +kernel
theorem dz_D_act_6 : decode zm_D_act.2.1 6 = .ok (.bipush 10, 2) := by decide +kernel
theorem dz_D_act_8 : decode zm_D_act.2.1 8 = .ok (.irem, 1) := by decide +kernel
theorem dz_D_act_9 : decode zm_D_act.2.1 9 = .ok (.istore_n 3, 1) := by decide +kernel
theorem dz_D_act_10 : decode zm_D_act.2.1 10 = .ok (.iload_n 1, 1) := by decide +kernel
theorem dz_D_act_11 : decode zm_D_act.2.1 11 = .ok (.ifCond .lt 17, 3) := by decide +kernel
theorem dz_D_act_14 : decode zm_D_act.2.1 14 = .ok (.aload_n 0, 1) := by decide +kernel
theorem dz_D_act_15 : decode zm_D_act.2.1 15 = .ok (.iload_n 2, 1) := by decide +kernel
theorem dz_D_act_16 : decode zm_D_act.2.1 16 = .ok (.invokevirtual 55, 3) := by decide +kernel
theorem dz_D_act_19 : decode zm_D_act.2.1 19 = .ok (.ifCond .eq 9, 3) := by decide +kernel
theorem dz_D_act_22 : decode zm_D_act.2.1 22 = .ok (.iload_n 3, 1) := by decide +kernel
theorem dz_D_act_23 : decode zm_D_act.2.1 23 = .ok (.bipush 7, 2) := by decide +kernel
theorem dz_D_act_25 : decode zm_D_act.2.1 25 = .ok (.if_icmp .lt 5, 3) := by decide +kernel
theorem dz_D_act_28 : decode zm_D_act.2.1 28 = .ok (.iconst (-1), 1) := by decide +kernel
theorem dz_D_act_29 : decode zm_D_act.2.1 29 = .ok (.ireturn, 1) := by decide +kernel
theorem dz_D_act_30 : decode zm_D_act.2.1 30 = .ok (.aload_n 0, 1) := by decide +kernel
theorem dz_D_act_31 : decode zm_D_act.2.1 31 = .ok (.iload_n 2, 1) := by decide +kernel
theorem dz_D_act_32 : decode zm_D_act.2.1 32 = .ok (.invokevirtual 87, 3) := by decide +kernel
theorem dz_D_act_35 : decode zm_D_act.2.1 35 = .ok (.ifCond .eq 6, 3) := by decide +kernel
theorem dz_D_act_38 : decode zm_D_act.2.1 38 = .ok (.bipush (-2), 2) := by decide +kernel
theorem dz_D_act_40 : decode zm_D_act.2.1 40 = .ok (.ireturn, 1) := by decide +kernel
theorem dz_D_act_41 : decode zm_D_act.2.1 41 = .ok (.iload_n 3, 1) := by decide +kernel
theorem dz_D_act_42 : decode zm_D_act.2.1 42 = .ok (.bipush 6, 2) := by decide +kernel
theorem dz_D_act_44 : decode zm_D_act.2.1 44 = .ok (.if_icmp .ne 22, 3) := by decide +kernel
theorem dz_D_act_47 : decode zm_D_act.2.1 47 = .ok (.aload_n 0, 1) := by decide +kernel
theorem dz_D_act_48 : decode zm_D_act.2.1 48 = .ok (.dup, 1) := by decide +kernel
theorem dz_D_act_49 : decode zm_D_act.2.1 49 = .ok (.getfield 49, 3) := by decide +kernel
theorem dz_D_act_52 : decode zm_D_act.2.1 52 = .ok (.iconst 1, 1) := by decide +kernel
theorem dz_D_act_53 : decode zm_D_act.2.1 53 = .ok (.iload_n 2, 1) := by decide +kernel
theorem dz_D_act_54 : decode zm_D_act.2.1 54 = .ok (.ishl, 1) := by decide +kernel
theorem dz_D_act_55 : decode zm_D_act.2.1 55 = .ok (.ior, 1) := by decide +kernel
theorem dz_D_act_56 : decode zm_D_act.2.1 56 = .ok (.putfield 49, 3) := by decide +kernel
theorem dz_D_act_59 : decode zm_D_act.2.1 59 = .ok (.aload_n 0, 1) := by decide +kernel
theorem dz_D_act_60 : decode zm_D_act.2.1 60 = .ok (.getfield 21, 3) := by decide +kernel
theorem dz_D_act_63 : decode zm_D_act.2.1 63 = .ok (.iload_n 2, 1) := by decide +kernel
theorem dz_D_act_64 : decode zm_D_act.2.1 64 = .ok (.iaload, 1) := by decide +kernel
theorem dz_D_act_65 : decode zm_D_act.2.1 65 = .ok (.ireturn, 1) := by decide +kernel
theorem dz_D_act_66 : decode zm_D_act.2.1 66 = .ok (.aload_n 0, 1) := by decide +kernel
theorem dz_D_act_67 : decode zm_D_act.2.1 67 = .ok (.getfield 21, 3) := by decide +kernel
theorem dz_D_act_70 : decode zm_D_act.2.1 70 = .ok (.iload_n 2, 1) := by decide +kernel
theorem dz_D_act_71 : decode zm_D_act.2.1 71 = .ok (.iaload, 1) := by decide +kernel
theorem dz_D_act_72 : decode zm_D_act.2.1 72 = .ok (.iconst 3, 1) := by decide +kernel
theorem dz_D_act_73 : decode zm_D_act.2.1 73 = .ok (.if_icmp .ge 19, 3) := by decide +kernel
theorem dz_D_act_76 : decode zm_D_act.2.1 76 = .ok (.iload_n 3, 1) := by decide +kernel
theorem dz_D_act_77 : decode zm_D_act.2.1 77 = .ok (.invokestatic 90, 3) := by decide +kernel
theorem dz_D_act_80 : decode zm_D_act.2.1 80 = .ok (.ifCond .eq 15, 3) := by decide +kernel
theorem dz_D_act_83 : decode zm_D_act.2.1 83 = .ok (.aload_n 0, 1) := by decide +kernel
theorem dz_D_act_84 : decode zm_D_act.2.1 84 = .ok (.iload_n 2, 1) := by decide +kernel
theorem dz_D_act_85 : decode zm_D_act.2.1 85 = .ok (.iload_n 3, 1) := by decide +kernel
theorem dz_D_act_86 : decode zm_D_act.2.1 86 = .ok (.invokevirtual 93, 3) := by decide +kernel
theorem dz_D_act_89 : decode zm_D_act.2.1 89 = .ok (.ifCond .eq 6, 3) := by decide +kernel
theorem dz_D_act_92 : decode zm_D_act.2.1 92 = .ok (.bipush (-2), 2) := by decide +kernel
theorem dz_D_act_94 : decode zm_D_act.2.1 94 = .ok (.ireturn, 1) := by decide +kernel
theorem dz_D_act_95 : decode zm_D_act.2.1 95 = .ok (.iload_n 3, 1) := by decide +kernel
theorem dz_D_act_96 : decode zm_D_act.2.1 96 = .ok (.invokestatic 90, 3) := by decide +kernel
theorem dz_D_act_99 : decode zm_D_act.2.1 99 = .ok (.ifCond .eq 15, 3) := by decide +kernel
theorem dz_D_act_102 : decode zm_D_act.2.1 102 = .ok (.aload_n 0, 1) := by decide +kernel
theorem dz_D_act_103 : decode zm_D_act.2.1 103 = .ok (.getfield 18, 3) := by decide +kernel
theorem dz_D_act_106 : decode zm_D_act.2.1 106 = .ok (.iload_n 2, 1) := by decide +kernel
theorem dz_D_act_107 : decode zm_D_act.2.1 107 = .ok (.dup2, 1) := by decide +kernel
theorem dz_D_act_108 : decode zm_D_act.2.1 108 = .ok (.iaload, 1) := by decide +kernel
theorem dz_D_act_109 : decode zm_D_act.2.1 109 = .ok (.iconst 1, 1) := by decide +kernel
theorem dz_D_act_110 : decode zm_D_act.2.1 110 = .ok (.iload_n 3, 1) := by decide +kernel
theorem dz_D_act_111 : decode zm_D_act.2.1 111 = .ok (.ishl, 1) := by decide +kernel
theorem dz_D_act_112 : decode zm_D_act.2.1 112 = .ok (.ior, 1) := by decide +kernel
theorem dz_D_act_113 : decode zm_D_act.2.1 113 = .ok (.iastore, 1) := by decide +kernel
theorem dz_D_act_114 : decode zm_D_act.2.1 114 = .ok (.aload_n 0, 1) := by decide +kernel
theorem dz_D_act_115 : decode zm_D_act.2.1 115 = .ok (.getfield 21, 3) := by decide +kernel
theorem dz_D_act_118 : decode zm_D_act.2.1 118 = .ok (.iload_n 2, 1) := by decide +kernel
theorem dz_D_act_119 : decode zm_D_act.2.1 119 = .ok (.dup2, 1) := by decide +kernel
theorem dz_D_act_120 : decode zm_D_act.2.1 120 = .ok (.iaload, 1) := by decide +kernel
theorem dz_D_act_121 : decode zm_D_act.2.1 121 = .ok (.iconst 1, 1) := by decide +kernel
theorem dz_D_act_122 : decode zm_D_act.2.1 122 = .ok (.iadd, 1) := by decide +kernel
theorem dz_D_act_123 : decode zm_D_act.2.1 123 = .ok (.iastore, 1) := by decide +kernel
theorem dz_D_act_124 : decode zm_D_act.2.1 124 = .ok (.aload_n 0, 1) := by decide +kernel
theorem dz_D_act_125 : decode zm_D_act.2.1 125 = .ok (.getfield 21, 3) := by decide +kernel
theorem dz_D_act_128 : decode zm_D_act.2.1 128 = .ok (.iload_n 2, 1) := by decide +kernel
theorem dz_D_act_129 : decode zm_D_act.2.1 129 = .ok (.iaload, 1) := by decide +kernel
theorem dz_D_act_130 : decode zm_D_act.2.1 130 = .ok (.ireturn, 1) := by decide +kernel
theorem dz_D_takeBack_0 : decode zm_D_takeBack.2.1 0 = .ok (.iload_n 1, 1) := by decide +kernel
theorem dz_D_takeBack_1 : decode zm_D_takeBack.2.1 1 = .ok (.bipush 10, 2) := by decide +kernel
theorem dz_D_takeBack_3 : decode zm_D_takeBack.2.1 3 = .ok (.idiv, 1) := by decide +kernel
theorem dz_D_takeBack_4 : decode zm_D_takeBack.2.1 4 = .ok (.istore_n 2, 1) := by decide +kernel
theorem dz_D_takeBack_5 : decode zm_D_takeBack.2.1 5 = .ok (.iload_n 1, 1) := by decide +kernel
theorem dz_D_takeBack_6 : decode zm_D_takeBack.2.1 6 = .ok (.bipush 10, 2) := by decide +kernel
theorem dz_D_takeBack_8 : decode zm_D_takeBack.2.1 8 = .ok (.irem, 1) := by decide +kernel
theorem dz_D_takeBack_9 : decode zm_D_takeBack.2.1 9 = .ok (.istore_n 3, 1) := by decide +kernel
theorem dz_D_takeBack_10 : decode zm_D_takeBack.2.1 10 = .ok (.aload_n 0, 1) := by decide +kernel
theorem dz_D_takeBack_11 : decode zm_D_takeBack.2.1 11 = .ok (.iload_n 2, 1) := by decide +kernel
theorem dz_D_takeBack_12 : decode zm_D_takeBack.2.1 12 = .ok (.invokevirtual 55, 3) := by decide +kernel
theorem dz_D_takeBack_15 : decode zm_D_takeBack.2.1 15 = .ok (.ifCond .ne 4, 3) := by decide +kernel
theorem dz_D_takeBack_18 : decode zm_D_takeBack.2.1 18 = .ok (.return_, 1) := by decide +kernel
theorem dz_D_takeBack_19 : decode zm_D_takeBack.2.1 19 = .ok (.iload_n 3, 1) := by decide +kernel
theorem dz_D_takeBack_20 : decode zm_D_takeBack.2.1 20 = .ok (.bipush 6, 2) := by decide +kernel
theorem dz_D_takeBack_22 : decode zm_D_takeBack.2.1 22 = .ok (.if_icmp .ne 18, 3) := by decide +kernel
theorem dz_D_takeBack_25 : decode zm_D_takeBack.2.1 25 = .ok (.aload_n 0, 1) := by decide +kernel
theorem dz_D_takeBack_26 : decode zm_D_takeBack.2.1 26 = .ok (.dup, 1) := by decide +kernel
theorem dz_D_takeBack_27 : decode zm_D_takeBack.2.1 27 = .ok (.getfield 49, 3) := by decide +kernel
theorem dz_D_takeBack_30 : decode zm_D_takeBack.2.1 30 = .ok (.iconst 1, 1) := by decide +kernel
theorem dz_D_takeBack_31 : decode zm_D_takeBack.2.1 31 = .ok (.iload_n 2, 1) := by decide +kernel
theorem dz_D_takeBack_32 : decode zm_D_takeBack.2.1 32 = .ok (.ishl, 1) := by decide +kernel
theorem dz_D_takeBack_33 : decode zm_D_takeBack.2.1 33 = .ok (.iconst (-1), 1) := by decide +kernel
theorem dz_D_takeBack_34 : decode zm_D_takeBack.2.1 34 = .ok (.ixor, 1) := by decide +kernel
theorem dz_D_takeBack_35 : decode zm_D_takeBack.2.1 35 = .ok (.iand, 1) := by decide +kernel
theorem dz_D_takeBack_36 : decode zm_D_takeBack.2.1 36 = .ok (.putfield 49, 3) := by decide +kernel
theorem dz_D_takeBack_39 : decode zm_D_takeBack.2.1 39 = .ok (.return_, 1) := by decide +kernel
theorem dz_D_takeBack_40 : decode zm_D_takeBack.2.1 40 = .ok (.iload_n 3, 1) := by decide +kernel
theorem dz_D_takeBack_41 : decode zm_D_takeBack.2.1 41 = .ok (.invokestatic 90, 3) := by decide +kernel
theorem dz_D_takeBack_44 : decode zm_D_takeBack.2.1 44 = .ok (.ifCond .eq 17, 3) := by decide +kernel
theorem dz_D_takeBack_47 : decode zm_D_takeBack.2.1 47 = .ok (.aload_n 0, 1) := by decide +kernel
theorem dz_D_takeBack_48 : decode zm_D_takeBack.2.1 48 = .ok (.getfield 18, 3) := by decide +kernel
theorem dz_D_takeBack_51 : decode zm_D_takeBack.2.1 51 = .ok (.iload_n 2, 1) := by decide +kernel
theorem dz_D_takeBack_52 : decode zm_D_takeBack.2.1 52 = .ok (.dup2, 1) := by decide +kernel
theorem dz_D_takeBack_53 : decode zm_D_takeBack.2.1 53 = .ok (.iaload, 1) := by decide +kernel
theorem dz_D_takeBack_54 : decode zm_D_takeBack.2.1 54 = .ok (.iconst 1, 1) := by decide +kernel
theorem dz_D_takeBack_55 : decode zm_D_takeBack.2.1 55 = .ok (.iload_n 3, 1) := by decide +kernel
theorem dz_D_takeBack_56 : decode zm_D_takeBack.2.1 56 = .ok (.ishl, 1) := by decide +kernel
theorem dz_D_takeBack_57 : decode zm_D_takeBack.2.1 57 = .ok (.iconst (-1), 1) := by decide +kernel
theorem dz_D_takeBack_58 : decode zm_D_takeBack.2.1 58 = .ok (.ixor, 1) := by decide +kernel
theorem dz_D_takeBack_59 : decode zm_D_takeBack.2.1 59 = .ok (.iand, 1) := by decide +kernel
theorem dz_D_takeBack_60 : decode zm_D_takeBack.2.1 60 = .ok (.iastore, 1) := by decide +kernel
theorem dz_D_takeBack_61 : decode zm_D_takeBack.2.1 61 = .ok (.aload_n 0, 1) := by decide +kernel
theorem dz_D_takeBack_62 : decode zm_D_takeBack.2.1 62 = .ok (.getfield 21, 3) := by decide +kernel
theorem dz_D_takeBack_65 : decode zm_D_takeBack.2.1 65 = .ok (.iload_n 2, 1) := by decide +kernel
theorem dz_D_takeBack_66 : decode zm_D_takeBack.2.1 66 = .ok (.dup2, 1) := by decide +kernel
theorem dz_D_takeBack_67 : decode zm_D_takeBack.2.1 67 = .ok (.iaload, 1) := by decide +kernel
theorem dz_D_takeBack_68 : decode zm_D_takeBack.2.1 68 = .ok (.iconst 1, 1) := by decide +kernel
theorem dz_D_takeBack_69 : decode zm_D_takeBack.2.1 69 = .ok (.isub, 1) := by decide +kernel
theorem dz_D_takeBack_70 : decode zm_D_takeBack.2.1 70 = .ok (.iastore, 1) := by decide +kernel
theorem dz_D_takeBack_71 : decode zm_D_takeBack.2.1 71 = .ok (.return_, 1) := by decide +kernel
theorem dz_D_hasEqualRanks_0 : decode zm_D_hasEqualRanks.2.1 0 = .ok (.iconst 0, 1) := by decide +kernel
theorem dz_D_hasEqualRanks_1 : decode zm_D_hasEqualRanks.2.1 1 = .ok (.istore_n 1, 1) := by decide +kernel
theorem dz_D_hasEqualRanks_2 : decode zm_D_hasEqualRanks.2.1 2 = .ok (.iload_n 1, 1) := by decide +kernel
theorem dz_D_hasEqualRanks_3 : decode zm_D_hasEqualRanks.2.1 3 = .ok (.aload_n 0, 1) := by decide +kernel
theorem dz_D_hasEqualRanks_4 : decode zm_D_hasEqualRanks.2.1 4 = .ok (.getfield 52, 3) := by decide +kernel
theorem dz_D_hasEqualRanks_7 : decode zm_D_hasEqualRanks.2.1 7 = .ok (.if_icmp .ge 54, 3) := by decide +kernel
theorem dz_D_hasEqualRanks_10 : decode zm_D_hasEqualRanks.2.1 10 = .ok (.iconst 0, 1) := by decide +kernel
theorem dz_D_hasEqualRanks_11 : decode zm_D_hasEqualRanks.2.1 11 = .ok (.istore_n 2, 1) := by decide +kernel
theorem dz_D_hasEqualRanks_12 : decode zm_D_hasEqualRanks.2.1 12 = .ok (.iload_n 2, 1) := by decide +kernel
theorem dz_D_hasEqualRanks_13 : decode zm_D_hasEqualRanks.2.1 13 = .ok (.iload_n 1, 1) := by decide +kernel
theorem dz_D_hasEqualRanks_14 : decode zm_D_hasEqualRanks.2.1 14 = .ok (.if_icmp .ge 41, 3) := by decide +kernel
theorem dz_D_hasEqualRanks_17 : decode zm_D_hasEqualRanks.2.1 17 = .ok (.aload_n 0, 1) := by decide +kernel
theorem dz_D_hasEqualRanks_18 : decode zm_D_hasEqualRanks.2.1 18 = .ok (.getfield 30, 3) := by decide +kernel
theorem dz_D_hasEqualRanks_21 : decode zm_D_hasEqualRanks.2.1 21 = .ok (.iload_n 2, 1) := by decide +kernel
theorem dz_D_hasEqualRanks_22 : decode zm_D_hasEqualRanks.2.1 22 = .ok (.iaload, 1) := by decide +kernel
theorem dz_D_hasEqualRanks_23 : decode zm_D_hasEqualRanks.2.1 23 = .ok (.aload_n 0, 1) := by decide +kernel
theorem dz_D_hasEqualRanks_24 : decode zm_D_hasEqualRanks.2.1 24 = .ok (.getfield 30, 3) := by decide +kernel
theorem dz_D_hasEqualRanks_27 : decode zm_D_hasEqualRanks.2.1 27 = .ok (.iload_n 1, 1) := by decide +kernel
theorem dz_D_hasEqualRanks_28 : decode zm_D_hasEqualRanks.2.1 28 = .ok (.iaload, 1) := by decide +kernel
theorem dz_D_hasEqualRanks_29 : decode zm_D_hasEqualRanks.2.1 29 = .ok (.if_icmp .ne 20, 3) := by decide +kernel
theorem dz_D_hasEqualRanks_32 : decode zm_D_hasEqualRanks.2.1 32 = .ok (.aload_n 0, 1) := by decide +kernel
theorem dz_D_hasEqualRanks_33 : decode zm_D_hasEqualRanks.2.1 33 = .ok (.getfield 27, 3) := by decide +kernel
theorem dz_D_hasEqualRanks_36 : decode zm_D_hasEqualRanks.2.1 36 = .ok (.iload_n 2, 1) := by decide +kernel
theorem dz_D_hasEqualRanks_37 : decode zm_D_hasEqualRanks.2.1 37 = .ok (.iaload, 1) := by decide +kernel
theorem dz_D_hasEqualRanks_38 : decode zm_D_hasEqualRanks.2.1 38 = .ok (.aload_n 0, 1) := by decide +kernel
theorem dz_D_hasEqualRanks_39 : decode zm_D_hasEqualRanks.2.1 39 = .ok (.getfield 27, 3) := by decide +kernel
theorem dz_D_hasEqualRanks_42 : decode zm_D_hasEqualRanks.2.1 42 = .ok (.iload_n 1, 1) := by decide +kernel
theorem dz_D_hasEqualRanks_43 : decode zm_D_hasEqualRanks.2.1 43 = .ok (.iaload, 1) := by decide +kernel
theorem dz_D_hasEqualRanks_44 : decode zm_D_hasEqualRanks.2.1 44 = .ok (.if_icmp .ne 5, 3) := by decide +kernel
theorem dz_D_hasEqualRanks_47 : decode zm_D_hasEqualRanks.2.1 47 = .ok (.iconst 1, 1) := by decide +kernel
theorem dz_D_hasEqualRanks_48 : decode zm_D_hasEqualRanks.2.1 48 = .ok (.ireturn, 1) := by decide +kernel
theorem dz_D_hasEqualRanks_49 : decode zm_D_hasEqualRanks.2.1 49 = .ok (.iinc 2 1, 3) := by decide +kernel
theorem dz_D_hasEqualRanks_52 : decode zm_D_hasEqualRanks.2.1 52 = .ok (.goto (-40), 3) := by decide +kernel
theorem dz_D_hasEqualRanks_55 : decode zm_D_hasEqualRanks.2.1 55 = .ok (.iinc 1 1, 3) := by decide +kernel
theorem dz_D_hasEqualRanks_58 : decode zm_D_hasEqualRanks.2.1 58 = .ok (.goto (-56), 3) := by decide +kernel
theorem dz_D_hasEqualRanks_61 : decode zm_D_hasEqualRanks.2.1 61 = .ok (.iconst 0, 1) := by decide +kernel
theorem dz_D_hasEqualRanks_62 : decode zm_D_hasEqualRanks.2.1 62 = .ok (.ireturn, 1) := by decide +kernel
theorem dz_D_ownedThings_0 : decode zm_D_ownedThings.2.1 0 = .ok (.iconst 0, 1) := by decide +kernel
theorem dz_D_ownedThings_1 : decode zm_D_ownedThings.2.1 1 = .ok (.istore_n 1, 1) := by decide +kernel
theorem dz_D_ownedThings_2 : decode zm_D_ownedThings.2.1 2 = .ok (.iconst 0, 1) := by decide +kernel
theorem dz_D_ownedThings_3 : decode zm_D_ownedThings.2.1 3 = .ok (.istore_n 2, 1) := by decide +kernel
theorem dz_D_ownedThings_4 : decode zm_D_ownedThings.2.1 4 = .ok (.iload_n 2, 1) := by decide +kernel
theorem dz_D_ownedThings_5 : decode zm_D_ownedThings.2.1 5 = .ok (.iconst 4, 1) := by decide +kernel
theorem dz_D_ownedThings_6 : decode zm_D_ownedThings.2.1 6 = .ok (.if_icmp .ge 22, 3) := by decide +kernel
theorem dz_D_ownedThings_9 : decode zm_D_ownedThings.2.1 9 = .ok (.aload_n 0, 1) := by decide +kernel
theorem dz_D_ownedThings_10 : decode zm_D_ownedThings.2.1 10 = .ok (.iload_n 2, 1) := by decide +kernel
theorem dz_D_ownedThings_11 : decode zm_D_ownedThings.2.1 11 = .ok (.invokevirtual 83, 3) := by decide +kernel
theorem dz_D_ownedThings_14 : decode zm_D_ownedThings.2.1 14 = .ok (.bipush (-4), 2) := by decide +kernel
theorem dz_D_ownedThings_16 : decode zm_D_ownedThings.2.1 16 = .ok (.if_icmp .eq 6, 3) := by decide +kernel
theorem dz_D_ownedThings_19 : decode zm_D_ownedThings.2.1 19 = .ok (.iinc 1 1, 3) := by decide +kernel
theorem dz_D_ownedThings_22 : decode zm_D_ownedThings.2.1 22 = .ok (.iinc 2 1, 3) := by decide +kernel
theorem dz_D_ownedThings_25 : decode zm_D_ownedThings.2.1 25 = .ok (.goto (-21), 3) := by decide +kernel
theorem dz_D_ownedThings_28 : decode zm_D_ownedThings.2.1 28 = .ok (.iload_n 1, 1) := by decide +kernel
theorem dz_D_ownedThings_29 : decode zm_D_ownedThings.2.1 29 = .ok (.ireturn, 1) := by decide +kernel
theorem dz_D_knownFacts_0 : decode zm_D_knownFacts.2.1 0 = .ok (.iconst 0, 1) := by decide +kernel
theorem dz_D_knownFacts_1 : decode zm_D_knownFacts.2.1 1 = .ok (.istore_n 1, 1) := by decide +kernel
theorem dz_D_knownFacts_2 : decode zm_D_knownFacts.2.1 2 = .ok (.iconst 0, 1) := by decide +kernel
theorem dz_D_knownFacts_3 : decode zm_D_knownFacts.2.1 3 = .ok (.istore_n 2, 1) := by decide +kernel
theorem dz_D_knownFacts_4 : decode zm_D_knownFacts.2.1 4 = .ok (.iload_n 2, 1) := by decide +kernel
theorem dz_D_knownFacts_5 : decode zm_D_knownFacts.2.1 5 = .ok (.aload_n 0, 1) := by decide +kernel
theorem dz_D_knownFacts_6 : decode zm_D_knownFacts.2.1 6 = .ok (.getfield 45, 3) := by decide +kernel
theorem dz_D_knownFacts_9 : decode zm_D_knownFacts.2.1 9 = .ok (.if_icmp .ge 21, 3) := by decide +kernel
theorem dz_D_knownFacts_12 : decode zm_D_knownFacts.2.1 12 = .ok (.iload_n 1, 1) := by decide +kernel
theorem dz_D_knownFacts_13 : decode zm_D_knownFacts.2.1 13 = .ok (.aload_n 0, 1) := by decide +kernel
theorem dz_D_knownFacts_14 : decode zm_D_knownFacts.2.1 14 = .ok (.getfield 18, 3) := by decide +kernel
theorem dz_D_knownFacts_17 : decode zm_D_knownFacts.2.1 17 = .ok (.iload_n 2, 1) := by decide +kernel
theorem dz_D_knownFacts_18 : decode zm_D_knownFacts.2.1 18 = .ok (.iaload, 1) := by decide +kernel
theorem dz_D_knownFacts_19 : decode zm_D_knownFacts.2.1 19 = .ok (.invokestatic 97, 3) := by decide +kernel
theorem dz_D_knownFacts_22 : decode zm_D_knownFacts.2.1 22 = .ok (.iadd, 1) := by decide +kernel
theorem dz_D_knownFacts_23 : decode zm_D_knownFacts.2.1 23 = .ok (.istore_n 1, 1) := by decide +kernel
theorem dz_D_knownFacts_24 : decode zm_D_knownFacts.2.1 24 = .ok (.iinc 2 1, 3) := by decide +kernel
theorem dz_D_knownFacts_27 : decode zm_D_knownFacts.2.1 27 = .ok (.goto (-23), 3) := by decide +kernel
theorem dz_D_knownFacts_30 : decode zm_D_knownFacts.2.1 30 = .ok (.iload_n 1, 1) := by decide +kernel
theorem dz_D_knownFacts_31 : decode zm_D_knownFacts.2.1 31 = .ok (.ireturn, 1) := by decide +kernel
theorem dz_D_allTries_0 : decode zm_D_allTries.2.1 0 = .ok (.iconst 0, 1) := by decide +kernel
theorem dz_D_allTries_1 : decode zm_D_allTries.2.1 1 = .ok (.istore_n 1, 1) := by decide +kernel
theorem dz_D_allTries_2 : decode zm_D_allTries.2.1 2 = .ok (.iconst 0, 1) := by decide +kernel
theorem dz_D_allTries_3 : decode zm_D_allTries.2.1 3 = .ok (.istore_n 2, 1) := by decide +kernel
theorem dz_D_allTries_4 : decode zm_D_allTries.2.1 4 = .ok (.iload_n 2, 1) := by decide +kernel
theorem dz_D_allTries_5 : decode zm_D_allTries.2.1 5 = .ok (.aload_n 0, 1) := by decide +kernel
theorem dz_D_allTries_6 : decode zm_D_allTries.2.1 6 = .ok (.getfield 45, 3) := by decide +kernel
theorem dz_D_allTries_9 : decode zm_D_allTries.2.1 9 = .ok (.if_icmp .ge 18, 3) := by decide +kernel
theorem dz_D_allTries_12 : decode zm_D_allTries.2.1 12 = .ok (.iload_n 1, 1) := by decide +kernel
theorem dz_D_allTries_13 : decode zm_D_allTries.2.1 13 = .ok (.aload_n 0, 1) := by decide +kernel
theorem dz_D_allTries_14 : decode zm_D_allTries.2.1 14 = .ok (.getfield 21, 3) := by decide +kernel
theorem dz_D_allTries_17 : decode zm_D_allTries.2.1 17 = .ok (.iload_n 2, 1) := by decide +kernel
theorem dz_D_allTries_18 : decode zm_D_allTries.2.1 18 = .ok (.iaload, 1) := by decide +kernel
theorem dz_D_allTries_19 : decode zm_D_allTries.2.1 19 = .ok (.iadd, 1) := by decide +kernel
theorem dz_D_allTries_20 : decode zm_D_allTries.2.1 20 = .ok (.istore_n 1, 1) := by decide +kernel
theorem dz_D_allTries_21 : decode zm_D_allTries.2.1 21 = .ok (.iinc 2 1, 3) := by decide +kernel
theorem dz_D_allTries_24 : decode zm_D_allTries.2.1 24 = .ok (.goto (-20), 3) := by decide +kernel
theorem dz_D_allTries_27 : decode zm_D_allTries.2.1 27 = .ok (.iload_n 1, 1) := by decide +kernel
theorem dz_D_allTries_28 : decode zm_D_allTries.2.1 28 = .ok (.ireturn, 1) := by decide +kernel
theorem dz_H_isSheet_0 : decode zm_H_isSheet.2.1 0 = .ok (.iload_n 1, 1) := by decide +kernel
theorem dz_H_isSheet_1 : decode zm_H_isSheet.2.1 1 = .ok (.ifCond .lt 12, 3) := by decide +kernel
theorem dz_H_isSheet_4 : decode zm_H_isSheet.2.1 4 = .ok (.iload_n 1, 1) := by decide +kernel
theorem dz_H_isSheet_5 : decode zm_H_isSheet.2.1 5 = .ok (.iconst 4, 1) := by decide +kernel
theorem dz_H_isSheet_6 : decode zm_H_isSheet.2.1 6 = .ok (.if_icmp .ge 7, 3) := by decide +kernel
theorem dz_H_isSheet_9 : decode zm_H_isSheet.2.1 9 = .ok (.iconst 1, 1) := by decide +kernel
theorem dz_H_isSheet_10 : decode zm_H_isSheet.2.1 10 = .ok (.goto 4, 3) := by decide +kernel
theorem dz_H_isSheet_13 : decode zm_H_isSheet.2.1 13 = .ok (.iconst 0, 1) := by decide +kernel
theorem dz_H_isSheet_14 : decode zm_H_isSheet.2.1 14 = .ok (.ireturn, 1) := by decide +kernel
theorem dz_H_isLane_0 : decode zm_H_isLane.2.1 0 = .ok (.iload_n 1, 1) := by decide +kernel
theorem dz_H_isLane_1 : decode zm_H_isLane.2.1 1 = .ok (.ifCond .lt 12, 3) := by decide +kernel
theorem dz_H_isLane_4 : decode zm_H_isLane.2.1 4 = .ok (.iload_n 1, 1) := by decide +kernel
theorem dz_H_isLane_5 : decode zm_H_isLane.2.1 5 = .ok (.iconst 2, 1) := by decide +kernel
theorem dz_H_isLane_6 : decode zm_H_isLane.2.1 6 = .ok (.if_icmp .gt 7, 3) := by decide +kernel
theorem dz_H_isLane_9 : decode zm_H_isLane.2.1 9 = .ok (.iconst 1, 1) := by decide +kernel
theorem dz_H_isLane_10 : decode zm_H_isLane.2.1 10 = .ok (.goto 4, 3) := by decide +kernel
theorem dz_H_isLane_13 : decode zm_H_isLane.2.1 13 = .ok (.iconst 0, 1) := by decide +kernel
theorem dz_H_isLane_14 : decode zm_H_isLane.2.1 14 = .ok (.ireturn, 1) := by decide +kernel
theorem dz_H_laneOf_0 : decode zm_H_laneOf.2.1 0 = .ok (.aload_n 0, 1) := by decide +kernel
theorem dz_H_laneOf_1 : decode zm_H_laneOf.2.1 1 = .ok (.iload_n 1, 1) := by decide +kernel
theorem dz_H_laneOf_2 : decode zm_H_laneOf.2.1 2 = .ok (.invokevirtual 23, 3) := by decide +kernel
theorem dz_H_laneOf_5 : decode zm_H_laneOf.2.1 5 = .ok (.ifCond .eq 12, 3) := by decide +kernel
theorem dz_H_laneOf_8 : decode zm_H_laneOf.2.1 8 = .ok (.aload_n 0, 1) := by decide +kernel
theorem dz_H_laneOf_9 : decode zm_H_laneOf.2.1 9 = .ok (.getfield 16, 3) := by decide +kernel
theorem dz_H_laneOf_12 : decode zm_H_laneOf.2.1 12 = .ok (.iload_n 1, 1) := by decide +kernel
theorem dz_H_laneOf_13 : decode zm_H_laneOf.2.1 13 = .ok (.iaload, 1) := by decide +kernel
theorem dz_H_laneOf_14 : decode zm_H_laneOf.2.1 14 = .ok (.goto 5, 3) := by decide +kernel
theorem dz_H_laneOf_17 : decode zm_H_laneOf.2.1 17 = .ok (.bipush (-4), 2) := by decide +kernel
theorem dz_H_laneOf_19 : decode zm_H_laneOf.2.1 19 = .ok (.ireturn, 1) := by decide +kernel
theorem dz_H_sizeOf_0 : decode zm_H_sizeOf.2.1 0 = .ok (.aload_n 0, 1) := by decide +kernel
theorem dz_H_sizeOf_1 : decode zm_H_sizeOf.2.1 1 = .ok (.iload_n 1, 1) := by decide +kernel
theorem dz_H_sizeOf_2 : decode zm_H_sizeOf.2.1 2 = .ok (.invokevirtual 27, 3) := by decide +kernel
theorem dz_H_sizeOf_5 : decode zm_H_sizeOf.2.1 5 = .ok (.bipush (-4), 2) := by decide +kernel
theorem dz_H_sizeOf_7 : decode zm_H_sizeOf.2.1 7 = .ok (.if_icmp .ne 8, 3) := by decide +kernel
theorem dz_H_sizeOf_10 : decode zm_H_sizeOf.2.1 10 = .ok (.bipush (-4), 2) := by decide +kernel
theorem dz_H_sizeOf_12 : decode zm_H_sizeOf.2.1 12 = .ok (.goto 9, 3) := by decide +kernel
theorem dz_H_sizeOf_15 : decode zm_H_sizeOf.2.1 15 = .ok (.aload_n 0, 1) := by decide +kernel
theorem dz_H_sizeOf_16 : decode zm_H_sizeOf.2.1 16 = .ok (.getfield 20, 3) := by decide +kernel
theorem dz_H_sizeOf_19 : decode zm_H_sizeOf.2.1 19 = .ok (.iload_n 1, 1) := by decide +kernel
theorem dz_H_sizeOf_20 : decode zm_H_sizeOf.2.1 20 = .ok (.iaload, 1) := by decide +kernel
theorem dz_H_sizeOf_21 : decode zm_H_sizeOf.2.1 21 = .ok (.ireturn, 1) := by decide +kernel
theorem dz_H_renew_0 : decode zm_H_renew.2.1 0 = .ok (.aload_n 0, 1) := by decide +kernel
theorem dz_H_renew_1 : decode zm_H_renew.2.1 1 = .ok (.iload_n 1, 1) := by decide +kernel
theorem dz_H_renew_2 : decode zm_H_renew.2.1 2 = .ok (.invokevirtual 23, 3) := by decide +kernel
theorem dz_H_renew_5 : decode zm_H_renew.2.1 5 = .ok (.ifCond .ne 4, 3) := by decide +kernel
theorem dz_H_renew_8 : decode zm_H_renew.2.1 8 = .ok (.return_, 1) := by decide +kernel
theorem dz_H_renew_9 : decode zm_H_renew.2.1 9 = .ok (.aload_n 0, 1) := by decide +kernel
theorem dz_H_renew_10 : decode zm_H_renew.2.1 10 = .ok (.getfield 16, 3) := by decide +kernel
theorem dz_H_renew_13 : decode zm_H_renew.2.1 13 = .ok (.iload_n 1, 1) := by decide +kernel
theorem dz_H_renew_14 : decode zm_H_renew.2.1 14 = .ok (.iload_n 2, 1) := by decide +kernel
theorem dz_H_renew_15 : decode zm_H_renew.2.1 15 = .ok (.iastore, 1) := by decide +kernel
theorem dz_H_renew_16 : decode zm_H_renew.2.1 16 = .ok (.aload_n 0, 1) := by decide +kernel
theorem dz_H_renew_17 : decode zm_H_renew.2.1 17 = .ok (.getfield 20, 3) := by decide +kernel
theorem dz_H_renew_20 : decode zm_H_renew.2.1 20 = .ok (.iload_n 1, 1) := by decide +kernel
theorem dz_H_renew_21 : decode zm_H_renew.2.1 21 = .ok (.iload_n 3, 1) := by decide +kernel
theorem dz_H_renew_22 : decode zm_H_renew.2.1 22 = .ok (.iastore, 1) := by decide +kernel
theorem dz_H_renew_23 : decode zm_H_renew.2.1 23 = .ok (.iconst 0, 1) := by decide +kernel
theorem dz_H_renew_24 : decode zm_H_renew.2.1 24 = .ok (.istore 4, 2) := by decide +kernel
theorem dz_H_renew_26 : decode zm_H_renew.2.1 26 = .ok (.iload 4, 2) := by decide +kernel
theorem dz_H_renew_28 : decode zm_H_renew.2.1 28 = .ok (.bipush 40, 2) := by decide +kernel
theorem dz_H_renew_30 : decode zm_H_renew.2.1 30 = .ok (.if_icmp .ge 19, 3) := by decide +kernel
theorem dz_H_renew_33 : decode zm_H_renew.2.1 33 = .ok (.aload_n 0, 1) := by decide +kernel
theorem dz_H_renew_34 : decode zm_H_renew.2.1 34 = .ok (.getfield 13, 3) := by decide +kernel
theorem dz_H_renew_37 : decode zm_H_renew.2.1 37 = .ok (.iload_n 1, 1) := by decide +kernel
theorem dz_H_renew_38 : decode zm_H_renew.2.1 38 = .ok (.aaload, 1) := by decide +kernel
theorem dz_H_renew_39 : decode zm_H_renew.2.1 39 = .ok (.iload 4, 2) := by decide +kernel
theorem dz_H_renew_41 : decode zm_H_renew.2.1 41 = .ok (.iconst 0, 1) := by decide +kernel
theorem dz_H_renew_42 : decode zm_H_renew.2.1 42 = .ok (.iastore, 1) := by decide +kernel
theorem dz_H_renew_43 : decode zm_H_renew.2.1 43 = .ok (.iinc 4 1, 3) := by decide +kernel
theorem dz_H_renew_46 : decode zm_H_renew.2.1 46 = .ok (.goto (-20), 3) := by decide +kernel
theorem dz_H_renew_49 : decode zm_H_renew.2.1 49 = .ok (.return_, 1) := by decide +kernel
theorem dz_H_faultAt_0 : decode zm_H_faultAt.2.1 0 = .ok (.aload_n 0, 1) := by decide +kernel
theorem dz_H_faultAt_1 : decode zm_H_faultAt.2.1 1 = .ok (.iload_n 1, 1) := by decide +kernel
theorem dz_H_faultAt_2 : decode zm_H_faultAt.2.1 2 = .ok (.invokevirtual 27, 3) := by decide +kernel
theorem dz_H_faultAt_5 : decode zm_H_faultAt.2.1 5 = .ok (.bipush (-4), 2) := by decide +kernel
theorem dz_H_faultAt_7 : decode zm_H_faultAt.2.1 7 = .ok (.if_icmp .ne 5, 3) := by decide +kernel
theorem dz_H_faultAt_10 : decode zm_H_faultAt.2.1 10 = .ok (.iconst 1, 1) := by decide +kernel
theorem dz_H_faultAt_11 : decode zm_H_faultAt.2.1 11 = .ok (.ireturn, 1) := by decide +kernel
theorem dz_H_faultAt_12 : decode zm_H_faultAt.2.1 12 = .ok (.aload_n 0, 1) := by decide +kernel
theorem dz_H_faultAt_13 : decode zm_H_faultAt.2.1 13 = .ok (.iload_n 1, 1) := by decide +kernel
theorem dz_H_faultAt_14 : decode zm_H_faultAt.2.1 14 = .ok (.invokevirtual 27, 3) := by decide +kernel
theorem dz_H_faultAt_17 : decode zm_H_faultAt.2.1 17 = .ok (.iload_n 2, 1) := by decide +kernel
theorem dz_H_faultAt_18 : decode zm_H_faultAt.2.1 18 = .ok (.if_icmp .eq 5, 3) := by decide +kernel
theorem dz_H_faultAt_21 : decode zm_H_faultAt.2.1 21 = .ok (.iconst 3, 1) := by decide +kernel
theorem dz_H_faultAt_22 : decode zm_H_faultAt.2.1 22 = .ok (.ireturn, 1) := by decide +kernel
theorem dz_H_faultAt_23 : decode zm_H_faultAt.2.1 23 = .ok (.aload_n 0, 1) := by decide +kernel
theorem dz_H_faultAt_24 : decode zm_H_faultAt.2.1 24 = .ok (.iload_n 1, 1) := by decide +kernel
theorem dz_H_faultAt_25 : decode zm_H_faultAt.2.1 25 = .ok (.iload_n 3, 1) := by decide +kernel
theorem dz_H_faultAt_26 : decode zm_H_faultAt.2.1 26 = .ok (.invokevirtual 31, 3) := by decide +kernel
theorem dz_H_faultAt_29 : decode zm_H_faultAt.2.1 29 = .ok (.ifCond .eq 7, 3) := by decide +kernel
theorem dz_H_faultAt_32 : decode zm_H_faultAt.2.1 32 = .ok (.iconst 0, 1) := by decide +kernel
theorem dz_H_faultAt_33 : decode zm_H_faultAt.2.1 33 = .ok (.goto 4, 3) := by decide +kernel
theorem dz_H_faultAt_36 : decode zm_H_faultAt.2.1 36 = .ok (.iconst 2, 1) := by decide +kernel
theorem dz_H_faultAt_37 : decode zm_H_faultAt.2.1 37 = .ok (.ireturn, 1) := by decide +kernel
theorem dz_H_put_0 : decode zm_H_put.2.1 0 = .ok (.aload_n 0, 1) := by decide +kernel
theorem dz_H_put_1 : decode zm_H_put.2.1 1 = .ok (.iload_n 1, 1) := by decide +kernel
theorem dz_H_put_2 : decode zm_H_put.2.1 2 = .ok (.iload_n 2, 1) := by decide +kernel
theorem dz_H_put_3 : decode zm_H_put.2.1 3 = .ok (.invokevirtual 31, 3) := by decide +kernel
theorem dz_H_put_6 : decode zm_H_put.2.1 6 = .ok (.ifCond .ne 4, 3) := by decide +kernel
theorem dz_H_put_9 : decode zm_H_put.2.1 9 = .ok (.return_, 1) := by decide +kernel
theorem dz_H_put_10 : decode zm_H_put.2.1 10 = .ok (.aload_n 0, 1) := by decide +kernel
theorem dz_H_put_11 : decode zm_H_put.2.1 11 = .ok (.iload_n 1, 1) := by decide +kernel
theorem dz_H_put_12 : decode zm_H_put.2.1 12 = .ok (.invokevirtual 27, 3) := by decide +kernel
theorem dz_H_put_15 : decode zm_H_put.2.1 15 = .ok (.lookupswitch 51 #[(0, 25), (1, 38)], 25) := by decide +kernel
theorem dz_H_put_40 : decode zm_H_put.2.1 40 = .ok (.aload_n 0, 1) := by decide +kernel
theorem dz_H_put_41 : decode zm_H_put.2.1 41 = .ok (.getfield 13, 3) := by decide +kernel
theorem dz_H_put_44 : decode zm_H_put.2.1 44 = .ok (.iload_n 1, 1) := by decide +kernel
theorem dz_H_put_45 : decode zm_H_put.2.1 45 = .ok (.aaload, 1) := by decide +kernel
theorem dz_H_put_46 : decode zm_H_put.2.1 46 = .ok (.iload_n 2, 1) := by decide +kernel
theorem dz_H_put_47 : decode zm_H_put.2.1 47 = .ok (.iload_n 3, 1) := by decide +kernel
theorem dz_H_put_48 : decode zm_H_put.2.1 48 = .ok (.i2b, 1) := by decide +kernel
theorem dz_H_put_49 : decode zm_H_put.2.1 49 = .ok (.iastore, 1) := by decide +kernel
theorem dz_H_put_50 : decode zm_H_put.2.1 50 = .ok (.goto 25, 3) := by decide +kernel
theorem dz_H_put_53 : decode zm_H_put.2.1 53 = .ok (.aload_n 0, 1) := by decide +kernel
theorem dz_H_put_54 : decode zm_H_put.2.1 54 = .ok (.getfield 13, 3) := by decide +kernel
theorem dz_H_put_57 : decode zm_H_put.2.1 57 = .ok (.iload_n 1, 1) := by decide +kernel
theorem dz_H_put_58 : decode zm_H_put.2.1 58 = .ok (.aaload, 1) := by decide +kernel
theorem dz_H_put_59 : decode zm_H_put.2.1 59 = .ok (.iload_n 2, 1) := by decide +kernel
theorem dz_H_put_60 : decode zm_H_put.2.1 60 = .ok (.iload_n 3, 1) := by decide +kernel
theorem dz_H_put_61 : decode zm_H_put.2.1 61 = .ok (.i2s, 1) := by decide +kernel
theorem dz_H_put_62 : decode zm_H_put.2.1 62 = .ok (.iastore, 1) := by decide +kernel
theorem dz_H_put_63 : decode zm_H_put.2.1 63 = .ok (.goto 12, 3) := by decide +kernel
theorem dz_H_put_66 : decode zm_H_put.2.1 66 = .ok (.aload_n 0, 1) := by decide +kernel
theorem dz_H_put_67 : decode zm_H_put.2.1 67 = .ok (.getfield 13, 3) := by decide +kernel
theorem dz_H_put_70 : decode zm_H_put.2.1 70 = .ok (.iload_n 1, 1) := by decide +kernel
theorem dz_H_put_71 : decode zm_H_put.2.1 71 = .ok (.aaload, 1) := by decide +kernel
theorem dz_H_put_72 : decode zm_H_put.2.1 72 = .ok (.iload_n 2, 1) := by decide +kernel
theorem dz_H_put_73 : decode zm_H_put.2.1 73 = .ok (.iload_n 3, 1) := by decide +kernel
theorem dz_H_put_74 : decode zm_H_put.2.1 74 = .ok (.iastore, 1) := by decide +kernel
theorem dz_H_put_75 : decode zm_H_put.2.1 75 = .ok (.return_, 1) := by decide +kernel
theorem dz_H_cell_0 : decode zm_H_cell.2.1 0 = .ok (.aload_n 0, 1) := by decide +kernel
theorem dz_H_cell_1 : decode zm_H_cell.2.1 1 = .ok (.iload_n 1, 1) := by decide +kernel
theorem dz_H_cell_2 : decode zm_H_cell.2.1 2 = .ok (.iload_n 2, 1) := by decide +kernel
theorem dz_H_cell_3 : decode zm_H_cell.2.1 3 = .ok (.invokevirtual 31, 3) := by decide +kernel
theorem dz_H_cell_6 : decode zm_H_cell.2.1 6 = .ok (.ifCond .eq 14, 3) := by decide +kernel
theorem dz_H_cell_9 : decode zm_H_cell.2.1 9 = .ok (.aload_n 0, 1) := by decide +kernel
theorem dz_H_cell_10 : decode zm_H_cell.2.1 10 = .ok (.getfield 13, 3) := by decide +kernel
theorem dz_H_cell_13 : decode zm_H_cell.2.1 13 = .ok (.iload_n 1, 1) := by decide +kernel
theorem dz_H_cell_14 : decode zm_H_cell.2.1 14 = .ok (.aaload, 1) := by decide +kernel
theorem dz_H_cell_15 : decode zm_H_cell.2.1 15 = .ok (.iload_n 2, 1) := by decide +kernel
theorem dz_H_cell_16 : decode zm_H_cell.2.1 16 = .ok (.iaload, 1) := by decide +kernel
theorem dz_H_cell_17 : decode zm_H_cell.2.1 17 = .ok (.goto 4, 3) := by decide +kernel
theorem dz_H_cell_20 : decode zm_H_cell.2.1 20 = .ok (.iconst 0, 1) := by decide +kernel
theorem dz_H_cell_21 : decode zm_H_cell.2.1 21 = .ok (.ireturn, 1) := by decide +kernel
theorem dz_H_isCell_0 : decode zm_H_isCell.2.1 0 = .ok (.iload_n 2, 1) := by decide +kernel
theorem dz_H_isCell_1 : decode zm_H_isCell.2.1 1 = .ok (.ifCond .lt 22, 3) := by decide +kernel
theorem dz_H_isCell_4 : decode zm_H_isCell.2.1 4 = .ok (.iload_n 2, 1) := by decide +kernel
theorem dz_H_isCell_5 : decode zm_H_isCell.2.1 5 = .ok (.aload_n 0, 1) := by decide +kernel
theorem dz_H_isCell_6 : decode zm_H_isCell.2.1 6 = .ok (.iload_n 1, 1) := by decide +kernel
theorem dz_H_isCell_7 : decode zm_H_isCell.2.1 7 = .ok (.invokevirtual 35, 3) := by decide +kernel
theorem dz_H_isCell_10 : decode zm_H_isCell.2.1 10 = .ok (.if_icmp .ge 13, 3) := by decide +kernel
theorem dz_H_isCell_13 : decode zm_H_isCell.2.1 13 = .ok (.iload_n 2, 1) := by decide +kernel
theorem dz_H_isCell_14 : decode zm_H_isCell.2.1 14 = .ok (.bipush 40, 2) := by decide +kernel
theorem dz_H_isCell_16 : decode zm_H_isCell.2.1 16 = .ok (.if_icmp .ge 7, 3) := by decide +kernel
theorem dz_H_isCell_19 : decode zm_H_isCell.2.1 19 = .ok (.iconst 1, 1) := by decide +kernel
theorem dz_H_isCell_20 : decode zm_H_isCell.2.1 20 = .ok (.goto 4, 3) := by decide +kernel
theorem dz_H_isCell_23 : decode zm_H_isCell.2.1 23 = .ok (.iconst 0, 1) := by decide +kernel
theorem dz_H_isCell_24 : decode zm_H_isCell.2.1 24 = .ok (.ireturn, 1) := by decide +kernel
theorem dz_P_append_0 : decode zm_P_append.2.1 0 = .ok (.aload_n 0, 1) := by decide +kernel
theorem dz_P_append_1 : decode zm_P_append.2.1 1 = .ok (.getfield 13, 3) := by decide +kernel
theorem dz_P_append_4 : decode zm_P_append.2.1 4 = .ok (.ifCond .lt 13, 3) := by decide +kernel
theorem dz_P_append_7 : decode zm_P_append.2.1 7 = .ok (.aload_n 0, 1) := by decide +kernel
theorem dz_P_append_8 : decode zm_P_append.2.1 8 = .ok (.getfield 13, 3) := by decide +kernel
theorem dz_P_append_11 : decode zm_P_append.2.1 11 = .ok (.sipush 160, 3) := by decide +kernel
theorem dz_P_append_14 : decode zm_P_append.2.1 14 = .ok (.if_icmp .lt 5, 3) := by decide +kernel
theorem dz_P_append_17 : decode zm_P_append.2.1 17 = .ok (.iconst 0, 1) := by decide +kernel
theorem dz_P_append_18 : decode zm_P_append.2.1 18 = .ok (.ireturn, 1) := by decide +kernel
theorem dz_P_append_19 : decode zm_P_append.2.1 19 = .ok (.aload_n 0, 1) := by decide +kernel
theorem dz_P_append_20 : decode zm_P_append.2.1 20 = .ok (.getfield 9, 3) := by decide +kernel
theorem dz_P_append_23 : decode zm_P_append.2.1 23 = .ok (.aload_n 0, 1) := by decide +kernel
theorem dz_P_append_24 : decode zm_P_append.2.1 24 = .ok (.getfield 13, 3) := by decide +kernel
theorem dz_P_append_27 : decode zm_P_append.2.1 27 = .ok (.iload_n 1, 1) := by decide +kernel
theorem dz_P_append_28 : decode zm_P_append.2.1 28 = .ok (.i2b, 1) := by decide +kernel
theorem dz_P_append_29 : decode zm_P_append.2.1 29 = .ok (.bastore, 1) := by decide +kernel
theorem dz_P_append_30 : decode zm_P_append.2.1 30 = .ok (.aload_n 0, 1) := by decide +kernel
theorem dz_P_append_31 : decode zm_P_append.2.1 31 = .ok (.dup, 1) := by decide +kernel
theorem dz_P_append_32 : decode zm_P_append.2.1 32 = .ok (.getfield 13, 3) := by decide +kernel
theorem dz_P_append_35 : decode zm_P_append.2.1 35 = .ok (.iconst 1, 1) := by decide +kernel
theorem dz_P_append_36 : decode zm_P_append.2.1 36 = .ok (.iadd, 1) := by decide +kernel
theorem dz_P_append_37 : decode zm_P_append.2.1 37 = .ok (.putfield 13, 3) := by decide +kernel
theorem dz_P_append_40 : decode zm_P_append.2.1 40 = .ok (.iconst 1, 1) := by decide +kernel
theorem dz_P_append_41 : decode zm_P_append.2.1 41 = .ok (.ireturn, 1) := by decide +kernel
theorem dz_P_rewind_0 : decode zm_P_rewind.2.1 0 = .ok (.aload_n 0, 1) := by decide +kernel
theorem dz_P_rewind_1 : decode zm_P_rewind.2.1 1 = .ok (.iconst 0, 1) := by decide +kernel
theorem dz_P_rewind_2 : decode zm_P_rewind.2.1 2 = .ok (.putfield 17, 3) := by decide +kernel
theorem dz_P_rewind_5 : decode zm_P_rewind.2.1 5 = .ok (.return_, 1) := by decide +kernel
theorem dz_P_advance_0 : decode zm_P_advance.2.1 0 = .ok (.aload_n 0, 1) := by decide +kernel
theorem dz_P_advance_1 : decode zm_P_advance.2.1 1 = .ok (.getfield 17, 3) := by decide +kernel
theorem dz_P_advance_4 : decode zm_P_advance.2.1 4 = .ok (.aload_n 0, 1) := by decide +kernel
theorem dz_P_advance_5 : decode zm_P_advance.2.1 5 = .ok (.getfield 13, 3) := by decide +kernel
theorem dz_P_advance_8 : decode zm_P_advance.2.1 8 = .ok (.if_icmp .ge 29, 3) := by decide +kernel
theorem dz_P_advance_11 : decode zm_P_advance.2.1 11 = .ok (.aload_n 0, 1) := by decide +kernel
theorem dz_P_advance_12 : decode zm_P_advance.2.1 12 = .ok (.aload_n 0, 1) := by decide +kernel
theorem dz_P_advance_13 : decode zm_P_advance.2.1 13 = .ok (.getfield 17, 3) := by decide +kernel
theorem dz_P_advance_16 : decode zm_P_advance.2.1 16 = .ok (.invokevirtual 20, 3) := by decide +kernel
theorem dz_P_advance_19 : decode zm_P_advance.2.1 19 = .ok (.bipush 32, 2) := by decide +kernel
theorem dz_P_advance_21 : decode zm_P_advance.2.1 21 = .ok (.if_icmp .ne 16, 3) := by decide +kernel
theorem dz_P_advance_24 : decode zm_P_advance.2.1 24 = .ok (.aload_n 0, 1) := by decide +kernel
theorem dz_P_advance_25 : decode zm_P_advance.2.1 25 = .ok (.dup, 1) := by decide +kernel
theorem dz_P_advance_26 : decode zm_P_advance.2.1 26 = .ok (.getfield 17, 3) := by decide +kernel
theorem dz_P_advance_29 : decode zm_P_advance.2.1 29 = .ok (.iconst 1, 1) := by decide +kernel
theorem dz_P_advance_30 : decode zm_P_advance.2.1 30 = .ok (.iadd, 1) := by decide +kernel
theorem dz_P_advance_31 : decode zm_P_advance.2.1 31 = .ok (.putfield 17, 3) := by decide +kernel
theorem dz_P_advance_34 : decode zm_P_advance.2.1 34 = .ok (.goto (-34), 3) := by decide +kernel
theorem dz_P_advance_37 : decode zm_P_advance.2.1 37 = .ok (.aload_n 0, 1) := by decide +kernel
theorem dz_P_advance_38 : decode zm_P_advance.2.1 38 = .ok (.aload_n 0, 1) := by decide +kernel
theorem dz_P_advance_39 : decode zm_P_advance.2.1 39 = .ok (.getfield 17, 3) := by decide +kernel
theorem dz_P_advance_42 : decode zm_P_advance.2.1 42 = .ok (.putfield 24, 3) := by decide +kernel
theorem dz_P_advance_45 : decode zm_P_advance.2.1 45 = .ok (.aload_n 0, 1) := by decide +kernel
theorem dz_P_advance_46 : decode zm_P_advance.2.1 46 = .ok (.aload_n 0, 1) := by decide +kernel
theorem dz_P_advance_47 : decode zm_P_advance.2.1 47 = .ok (.getfield 17, 3) := by decide +kernel
theorem dz_P_advance_50 : decode zm_P_advance.2.1 50 = .ok (.invokevirtual 20, 3) := by decide +kernel
theorem dz_P_advance_53 : decode zm_P_advance.2.1 53 = .ok (.istore_n 1, 1) := by decide +kernel
theorem dz_P_advance_54 : decode zm_P_advance.2.1 54 = .ok (.iload_n 1, 1) := by decide +kernel
theorem dz_P_advance_55 : decode zm_P_advance.2.1 55 = .ok (.ifCond .ge 11, 3) := by decide +kernel
theorem dz_P_advance_58 : decode zm_P_advance.2.1 58 = .ok (.aload_n 0, 1) := by decide +kernel
theorem dz_P_advance_59 : decode zm_P_advance.2.1 59 = .ok (.iconst 0, 1) := by decide +kernel
theorem dz_P_advance_60 : decode zm_P_advance.2.1 60 = .ok (.putfield 27, 3) := by decide +kernel
theorem dz_P_advance_63 : decode zm_P_advance.2.1 63 = .ok (.goto 56, 3) := by decide +kernel
theorem dz_P_advance_66 : decode zm_P_advance.2.1 66 = .ok (.iload_n 1, 1) := by decide +kernel
theorem dz_P_advance_67 : decode zm_P_advance.2.1 67 = .ok (.invokestatic 30, 3) := by decide +kernel
theorem dz_P_advance_70 : decode zm_P_advance.2.1 70 = .ok (.ifCond .eq 10, 3) := by decide +kernel
theorem dz_P_advance_73 : decode zm_P_advance.2.1 73 = .ok (.aload_n 0, 1) := by decide +kernel
theorem dz_P_advance_74 : decode zm_P_advance.2.1 74 = .ok (.invokevirtual 34, 3) := by decide +kernel
theorem dz_P_advance_77 : decode zm_P_advance.2.1 77 = .ok (.goto 42, 3) := by decide +kernel
theorem dz_P_advance_80 : decode zm_P_advance.2.1 80 = .ok (.iload_n 1, 1) := by decide +kernel
theorem dz_P_advance_81 : decode zm_P_advance.2.1 81 = .ok (.invokestatic 37, 3) := by decide +kernel
theorem dz_P_advance_84 : decode zm_P_advance.2.1 84 = .ok (.ifCond .eq 10, 3) := by decide +kernel
theorem dz_P_advance_87 : decode zm_P_advance.2.1 87 = .ok (.aload_n 0, 1) := by decide +kernel
theorem dz_P_advance_88 : decode zm_P_advance.2.1 88 = .ok (.invokevirtual 40, 3) := by decide +kernel
theorem dz_P_advance_91 : decode zm_P_advance.2.1 91 = .ok (.goto 28, 3) := by decide +kernel
theorem dz_P_advance_94 : decode zm_P_advance.2.1 94 = .ok (.aload_n 0, 1) := by decide +kernel
theorem dz_P_advance_95 : decode zm_P_advance.2.1 95 = .ok (.iload_n 1, 1) := by decide +kernel
theorem dz_P_advance_96 : decode zm_P_advance.2.1 96 = .ok (.bipush 59, 2) := by decide +kernel
theorem dz_P_advance_98 : decode zm_P_advance.2.1 98 = .ok (.if_icmp .ne 7, 3) := by decide +kernel
theorem dz_P_advance_101 : decode zm_P_advance.2.1 101 = .ok (.iconst 3, 1) := by decide +kernel
theorem dz_P_advance_102 : decode zm_P_advance.2.1 102 = .ok (.goto 4, 3) := by decide +kernel
theorem dz_P_advance_105 : decode zm_P_advance.2.1 105 = .ok (.iconst 4, 1) := by decide +kernel
theorem dz_P_advance_106 : decode zm_P_advance.2.1 106 = .ok (.putfield 27, 3) := by decide +kernel
theorem dz_P_advance_109 : decode zm_P_advance.2.1 109 = .ok (.aload_n 0, 1) := by decide +kernel
theorem dz_P_advance_110 : decode zm_P_advance.2.1 110 = .ok (.dup, 1) := by decide +kernel
theorem dz_P_advance_111 : decode zm_P_advance.2.1 111 = .ok (.getfield 17, 3) := by decide +kernel
theorem dz_P_advance_114 : decode zm_P_advance.2.1 114 = .ok (.iconst 1, 1) := by decide +kernel
theorem dz_P_advance_115 : decode zm_P_advance.2.1 115 = .ok (.iadd, 1) := by decide +kernel
theorem dz_P_advance_116 : decode zm_P_advance.2.1 116 = .ok (.putfield 17, 3) := by decide +kernel
theorem dz_P_advance_119 : decode zm_P_advance.2.1 119 = .ok (.return_, 1) := by decide +kernel
theorem dz_P_isWord_0 : decode zm_P_isWord.2.1 0 = .ok (.aload_n 0, 1) := by decide +kernel
theorem dz_P_isWord_1 : decode zm_P_isWord.2.1 1 = .ok (.getfield 27, 3) := by decide +kernel
theorem dz_P_isWord_4 : decode zm_P_isWord.2.1 4 = .ok (.iconst 1, 1) := by decide +kernel
theorem dz_P_isWord_5 : decode zm_P_isWord.2.1 5 = .ok (.if_icmp .ne 23, 3) := by decide +kernel
theorem dz_P_isWord_8 : decode zm_P_isWord.2.1 8 = .ok (.aload_n 1, 1) := by decide +kernel
theorem dz_P_isWord_9 : decode zm_P_isWord.2.1 9 = .ok (.ifnull 19, 3) := by decide +kernel
theorem dz_P_isWord_12 : decode zm_P_isWord.2.1 12 = .ok (.aload_n 0, 1) := by decide +kernel
theorem dz_P_isWord_13 : decode zm_P_isWord.2.1 13 = .ok (.getfield 17, 3) := by decide +kernel
theorem dz_P_isWord_16 : decode zm_P_isWord.2.1 16 = .ok (.aload_n 0, 1) := by decide +kernel
theorem dz_P_isWord_17 : decode zm_P_isWord.2.1 17 = .ok (.getfield 24, 3) := by decide +kernel
theorem dz_P_isWord_20 : decode zm_P_isWord.2.1 20 = .ok (.isub, 1) := by decide +kernel
theorem dz_P_isWord_21 : decode zm_P_isWord.2.1 21 = .ok (.aload_n 1, 1) := by decide +kernel
theorem dz_P_isWord_22 : decode zm_P_isWord.2.1 22 = .ok (.invokevirtual 43, 3) := by decide +kernel
theorem dz_P_isWord_25 : decode zm_P_isWord.2.1 25 = .ok (.if_icmp .eq 5, 3) := by decide +kernel
theorem dz_P_isWord_28 : decode zm_P_isWord.2.1 28 = .ok (.iconst 0, 1) := by decide +kernel
theorem dz_P_isWord_29 : decode zm_P_isWord.2.1 29 = .ok (.ireturn, 1) := by decide +kernel
theorem dz_P_isWord_30 : decode zm_P_isWord.2.1 30 = .ok (.iconst 0, 1) := by decide +kernel
theorem dz_P_isWord_31 : decode zm_P_isWord.2.1 31 = .ok (.istore_n 2, 1) := by decide +kernel
theorem dz_P_isWord_32 : decode zm_P_isWord.2.1 32 = .ok (.iload_n 2, 1) := by decide +kernel
theorem dz_P_isWord_33 : decode zm_P_isWord.2.1 33 = .ok (.aload_n 1, 1) := by decide +kernel
theorem dz_P_isWord_34 : decode zm_P_isWord.2.1 34 = .ok (.invokevirtual 43, 3) := by decide +kernel
theorem dz_P_isWord_37 : decode zm_P_isWord.2.1 37 = .ok (.if_icmp .ge 29, 3) := by decide +kernel
theorem dz_P_isWord_40 : decode zm_P_isWord.2.1 40 = .ok (.aload_n 0, 1) := by decide +kernel
theorem dz_P_isWord_41 : decode zm_P_isWord.2.1 41 = .ok (.aload_n 0, 1) := by decide +kernel
theorem dz_P_isWord_42 : decode zm_P_isWord.2.1 42 = .ok (.getfield 24, 3) := by decide +kernel
theorem dz_P_isWord_45 : decode zm_P_isWord.2.1 45 = .ok (.iload_n 2, 1) := by decide +kernel
theorem dz_P_isWord_46 : decode zm_P_isWord.2.1 46 = .ok (.iadd, 1) := by decide +kernel
theorem dz_P_isWord_47 : decode zm_P_isWord.2.1 47 = .ok (.invokevirtual 20, 3) := by decide +kernel
theorem dz_P_isWord_50 : decode zm_P_isWord.2.1 50 = .ok (.aload_n 1, 1) := by decide +kernel
theorem dz_P_isWord_51 : decode zm_P_isWord.2.1 51 = .ok (.iload_n 2, 1) := by decide +kernel
theorem dz_P_isWord_52 : decode zm_P_isWord.2.1 52 = .ok (.invokevirtual 48, 3) := by decide +kernel
theorem dz_P_isWord_55 : decode zm_P_isWord.2.1 55 = .ok (.if_icmp .eq 5, 3) := by decide +kernel
theorem dz_P_isWord_58 : decode zm_P_isWord.2.1 58 = .ok (.iconst 0, 1) := by decide +kernel
theorem dz_P_isWord_59 : decode zm_P_isWord.2.1 59 = .ok (.ireturn, 1) := by decide +kernel
theorem dz_P_isWord_60 : decode zm_P_isWord.2.1 60 = .ok (.iinc 2 1, 3) := by decide +kernel
theorem dz_P_isWord_63 : decode zm_P_isWord.2.1 63 = .ok (.goto (-31), 3) := by decide +kernel
theorem dz_P_isWord_66 : decode zm_P_isWord.2.1 66 = .ok (.iconst 1, 1) := by decide +kernel
theorem dz_P_isWord_67 : decode zm_P_isWord.2.1 67 = .ok (.ireturn, 1) := by decide +kernel
theorem dz_P_readName_0 : decode zm_P_readName.2.1 0 = .ok (.aload_n 0, 1) := by decide +kernel
theorem dz_P_readName_1 : decode zm_P_readName.2.1 1 = .ok (.iconst 1, 1) := by decide +kernel
theorem dz_P_readName_2 : decode zm_P_readName.2.1 2 = .ok (.putfield 27, 3) := by decide +kernel
theorem dz_P_readName_5 : decode zm_P_readName.2.1 5 = .ok (.aload_n 0, 1) := by decide +kernel
theorem dz_P_readName_6 : decode zm_P_readName.2.1 6 = .ok (.getfield 17, 3) := by decide +kernel
theorem dz_P_readName_9 : decode zm_P_readName.2.1 9 = .ok (.aload_n 0, 1) := by decide +kernel
theorem dz_P_readName_10 : decode zm_P_readName.2.1 10 = .ok (.getfield 13, 3) := by decide +kernel
theorem dz_P_readName_13 : decode zm_P_readName.2.1 13 = .ok (.if_icmp .ge 30, 3) := by decide +kernel
theorem dz_P_readName_16 : decode zm_P_readName.2.1 16 = .ok (.aload_n 0, 1) := by decide +kernel
theorem dz_P_readName_17 : decode zm_P_readName.2.1 17 = .ok (.aload_n 0, 1) := by decide +kernel
theorem dz_P_readName_18 : decode zm_P_readName.2.1 18 = .ok (.getfield 17, 3) := by decide +kernel
theorem dz_P_readName_21 : decode zm_P_readName.2.1 21 = .ok (.invokevirtual 20, 3) := by decide +kernel
theorem dz_P_readName_24 : decode zm_P_readName.2.1 24 = .ok (.invokestatic 30, 3) := by decide +kernel
theorem dz_P_readName_27 : decode zm_P_readName.2.1 27 = .ok (.ifCond .eq 16, 3) := by decide +kernel
theorem dz_P_readName_30 : decode zm_P_readName.2.1 30 = .ok (.aload_n 0, 1) := by decide +kernel
theorem dz_P_readName_31 : decode zm_P_readName.2.1 31 = .ok (.dup, 1) := by decide +kernel
theorem dz_P_readName_32 : decode zm_P_readName.2.1 32 = .ok (.getfield 17, 3) := by decide +kernel
theorem dz_P_readName_35 : decode zm_P_readName.2.1 35 = .ok (.iconst 1, 1) := by decide +kernel
theorem dz_P_readName_36 : decode zm_P_readName.2.1 36 = .ok (.iadd, 1) := by decide +kernel
theorem dz_P_readName_37 : decode zm_P_readName.2.1 37 = .ok (.putfield 17, 3) := by decide +kernel
theorem dz_P_readName_40 : decode zm_P_readName.2.1 40 = .ok (.goto (-35), 3) := by decide +kernel
theorem dz_P_readName_43 : decode zm_P_readName.2.1 43 = .ok (.return_, 1) := by decide +kernel
theorem dz_P_readNumber_0 : decode zm_P_readNumber.2.1 0 = .ok (.aload_n 0, 1) := by decide +kernel
theorem dz_P_readNumber_1 : decode zm_P_readNumber.2.1 1 = .ok (.iconst 0, 1) := by decide +kernel
theorem dz_P_readNumber_2 : decode zm_P_readNumber.2.1 2 = .ok (.putfield 52, 3) := by decide +kernel
theorem dz_P_readNumber_5 : decode zm_P_readNumber.2.1 5 = .ok (.aload_n 0, 1) := by decide +kernel
theorem dz_P_readNumber_6 : decode zm_P_readNumber.2.1 6 = .ok (.getfield 17, 3) := by decide +kernel
theorem dz_P_readNumber_9 : decode zm_P_readNumber.2.1 9 = .ok (.aload_n 0, 1) := by decide +kernel
theorem dz_P_readNumber_10 : decode zm_P_readNumber.2.1 10 = .ok (.getfield 13, 3) := by decide +kernel
theorem dz_P_readNumber_13 : decode zm_P_readNumber.2.1 13 = .ok (.if_icmp .ge 53, 3) := by decide +kernel
theorem dz_P_readNumber_16 : decode zm_P_readNumber.2.1 16 = .ok (.aload_n 0, 1) := by decide +kernel
theorem dz_P_readNumber_17 : decode zm_P_readNumber.2.1 17 = .ok (.aload_n 0, 1) := by decide +kernel
theorem dz_P_readNumber_18 : decode zm_P_readNumber.2.1 18 = .ok (.getfield 17, 3) := by decide +kernel
theorem dz_P_readNumber_21 : decode zm_P_readNumber.2.1 21 = .ok (.invokevirtual 20, 3) := by decide +kernel
theorem dz_P_readNumber_24 : decode zm_P_readNumber.2.1 24 = .ok (.invokestatic 37, 3) := by decide +kernel
theorem dz_P_readNumber_27 : decode zm_P_readNumber.2.1 27 = .ok (.ifCond .eq 39, 3) := by decide +kernel
theorem dz_P_readNumber_30 : decode zm_P_readNumber.2.1 30 = .ok (.aload_n 0, 1) := by decide +kernel
theorem dz_P_readNumber_31 : decode zm_P_readNumber.2.1 31 = .ok (.bipush 10, 2) := by decide +kernel
theorem dz_P_readNumber_33 : decode zm_P_readNumber.2.1 33 = .ok (.aload_n 0, 1) := by decide +kernel
theorem dz_P_readNumber_34 : decode zm_P_readNumber.2.1 34 = .ok (.getfield 52, 3) := by decide +kernel
theorem dz_P_readNumber_37 : decode zm_P_readNumber.2.1 37 = .ok (.imul, 1) := by decide +kernel
theorem dz_P_readNumber_38 : decode zm_P_readNumber.2.1 38 = .ok (.aload_n 0, 1) := by decide +kernel
theorem dz_P_readNumber_39 : decode zm_P_readNumber.2.1 39 = .ok (.aload_n 0, 1) := by decide +kernel
theorem dz_P_readNumber_40 : decode zm_P_readNumber.2.1 40 = .ok (.getfield 17, 3) := by decide +kernel
theorem dz_P_readNumber_43 : decode zm_P_readNumber.2.1 43 = .ok (.invokevirtual 20, 3) := by decide +kernel
theorem dz_P_readNumber_46 : decode zm_P_readNumber.2.1 46 = .ok (.iadd, 1) := by decide +kernel
theorem dz_P_readNumber_47 : decode zm_P_readNumber.2.1 47 = .ok (.bipush 48, 2) := by decide +kernel
theorem dz_P_readNumber_49 : decode zm_P_readNumber.2.1 49 = .ok (.isub, 1) := by decide +kernel
theorem dz_P_readNumber_50 : decode zm_P_readNumber.2.1 50 = .ok (.putfield 52, 3) := by decide +kernel
theorem dz_P_readNumber_53 : decode zm_P_readNumber.2.1 53 = .ok (.aload_n 0, 1) := by decide +kernel
theorem dz_P_readNumber_54 : decode zm_P_readNumber.2.1 54 = .ok (.dup, 1) := by decide +kernel
theorem dz_P_readNumber_55 : decode zm_P_readNumber.2.1 55 = .ok (.getfield 17, 3) := by decide +kernel
theorem dz_P_readNumber_58 : decode zm_P_readNumber.2.1 58 = .ok (.iconst 1, 1) := by decide +kernel
theorem dz_P_readNumber_59 : decode zm_P_readNumber.2.1 59 = .ok (.iadd, 1) := by decide +kernel
theorem dz_P_readNumber_60 : decode zm_P_readNumber.2.1 60 = .ok (.putfield 17, 3) := by decide +kernel
theorem dz_P_readNumber_63 : decode zm_P_readNumber.2.1 63 = .ok (.goto (-58), 3) := by decide +kernel
theorem dz_P_readNumber_66 : decode zm_P_readNumber.2.1 66 = .ok (.aload_n 0, 1) := by decide +kernel
theorem dz_P_readNumber_67 : decode zm_P_readNumber.2.1 67 = .ok (.aload_n 0, 1) := by decide +kernel
theorem dz_P_readNumber_68 : decode zm_P_readNumber.2.1 68 = .ok (.getfield 17, 3) := by decide +kernel
theorem dz_P_readNumber_71 : decode zm_P_readNumber.2.1 71 = .ok (.aload_n 0, 1) := by decide +kernel
theorem dz_P_readNumber_72 : decode zm_P_readNumber.2.1 72 = .ok (.getfield 24, 3) := by decide +kernel
theorem dz_P_readNumber_75 : decode zm_P_readNumber.2.1 75 = .ok (.isub, 1) := by decide +kernel
theorem dz_P_readNumber_76 : decode zm_P_readNumber.2.1 76 = .ok (.iconst 2, 1) := by decide +kernel
theorem dz_P_readNumber_77 : decode zm_P_readNumber.2.1 77 = .ok (.if_icmp .gt 7, 3) := by decide +kernel
theorem dz_P_readNumber_80 : decode zm_P_readNumber.2.1 80 = .ok (.iconst 2, 1) := by decide +kernel
theorem dz_P_readNumber_81 : decode zm_P_readNumber.2.1 81 = .ok (.goto 4, 3) := by decide +kernel
theorem dz_P_readNumber_84 : decode zm_P_readNumber.2.1 84 = .ok (.iconst 4, 1) := by decide +kernel
theorem dz_P_readNumber_85 : decode zm_P_readNumber.2.1 85 = .ok (.putfield 27, 3) := by decide +kernel
theorem dz_P_readNumber_88 : decode zm_P_readNumber.2.1 88 = .ok (.return_, 1) := by decide +kernel
theorem dz_P_byteAt_0 : decode zm_P_byteAt.2.1 0 = .ok (.iload_n 1, 1) := by decide +kernel
theorem dz_P_byteAt_1 : decode zm_P_byteAt.2.1 1 = .ok (.ifCond .lt 27, 3) := by decide +kernel
theorem dz_P_byteAt_4 : decode zm_P_byteAt.2.1 4 = .ok (.iload_n 1, 1) := by decide +kernel
theorem dz_P_byteAt_5 : decode zm_P_byteAt.2.1 5 = .ok (.aload_n 0, 1) := by decide +kernel
theorem dz_P_byteAt_6 : decode zm_P_byteAt.2.1 6 = .ok (.getfield 13, 3) := by decide +kernel
theorem dz_P_byteAt_9 : decode zm_P_byteAt.2.1 9 = .ok (.if_icmp .ge 19, 3) := by decide +kernel
theorem dz_P_byteAt_12 : decode zm_P_byteAt.2.1 12 = .ok (.iload_n 1, 1) := by decide +kernel
theorem dz_P_byteAt_13 : decode zm_P_byteAt.2.1 13 = .ok (.sipush 160, 3) := by decide +kernel
theorem dz_P_byteAt_16 : decode zm_P_byteAt.2.1 16 = .ok (.if_icmp .ge 12, 3) := by decide +kernel
theorem dz_P_byteAt_19 : decode zm_P_byteAt.2.1 19 = .ok (.aload_n 0, 1) := by decide +kernel
theorem dz_P_byteAt_20 : decode zm_P_byteAt.2.1 20 = .ok (.getfield 9, 3) := by decide +kernel
theorem dz_P_byteAt_23 : decode zm_P_byteAt.2.1 23 = .ok (.iload_n 1, 1) := by decide +kernel
theorem dz_P_byteAt_24 : decode zm_P_byteAt.2.1 24 = .ok (.baload, 1) := by decide +kernel
theorem dz_P_byteAt_25 : decode zm_P_byteAt.2.1 25 = .ok (.goto 4, 3) := by decide +kernel
theorem dz_P_byteAt_28 : decode zm_P_byteAt.2.1 28 = .ok (.iconst (-1), 1) := by decide +kernel
theorem dz_P_byteAt_29 : decode zm_P_byteAt.2.1 29 = .ok (.ireturn, 1) := by decide +kernel
theorem dz_P_isLetter_0 : decode zm_P_isLetter.2.1 0 = .ok (.iload_n 0, 1) := by decide +kernel
theorem dz_P_isLetter_1 : decode zm_P_isLetter.2.1 1 = .ok (.bipush 97, 2) := by decide +kernel
theorem dz_P_isLetter_3 : decode zm_P_isLetter.2.1 3 = .ok (.if_icmp .lt 13, 3) := by decide +kernel
theorem dz_P_isLetter_6 : decode zm_P_isLetter.2.1 6 = .ok (.iload_n 0, 1) := by decide +kernel
theorem dz_P_isLetter_7 : decode zm_P_isLetter.2.1 7 = .ok (.bipush 122, 2) := by decide +kernel
theorem dz_P_isLetter_9 : decode zm_P_isLetter.2.1 9 = .ok (.if_icmp .gt 7, 3) := by decide +kernel
theorem dz_P_isLetter_12 : decode zm_P_isLetter.2.1 12 = .ok (.iconst 1, 1) := by decide +kernel
theorem dz_P_isLetter_13 : decode zm_P_isLetter.2.1 13 = .ok (.goto 4, 3) := by decide +kernel
theorem dz_P_isLetter_16 : decode zm_P_isLetter.2.1 16 = .ok (.iconst 0, 1) := by decide +kernel
theorem dz_P_isLetter_17 : decode zm_P_isLetter.2.1 17 = .ok (.ireturn, 1) := by decide +kernel
theorem dz_P_isFigure_0 : decode zm_P_isFigure.2.1 0 = .ok (.iload_n 0, 1) := by decide +kernel
theorem dz_P_isFigure_1 : decode zm_P_isFigure.2.1 1 = .ok (.bipush 48, 2) := by decide +kernel
theorem dz_P_isFigure_3 : decode zm_P_isFigure.2.1 3 = .ok (.if_icmp .lt 13, 3) := by decide +kernel
theorem dz_P_isFigure_6 : decode zm_P_isFigure.2.1 6 = .ok (.iload_n 0, 1) := by decide +kernel
theorem dz_P_isFigure_7 : decode zm_P_isFigure.2.1 7 = .ok (.bipush 57, 2) := by decide +kernel
theorem dz_P_isFigure_9 : decode zm_P_isFigure.2.1 9 = .ok (.if_icmp .gt 7, 3) := by decide +kernel
theorem dz_P_isFigure_12 : decode zm_P_isFigure.2.1 12 = .ok (.iconst 1, 1) := by decide +kernel
theorem dz_P_isFigure_13 : decode zm_P_isFigure.2.1 13 = .ok (.goto 4, 3) := by decide +kernel
theorem dz_P_isFigure_16 : decode zm_P_isFigure.2.1 16 = .ok (.iconst 0, 1) := by decide +kernel
theorem dz_P_isFigure_17 : decode zm_P_isFigure.2.1 17 = .ok (.ireturn, 1) := by decide +kernel
theorem dz_E_tell_0 : decode zm_E_tell.2.1 0 = .ok (.aload_n 0, 1) := by decide +kernel
theorem dz_E_tell_1 : decode zm_E_tell.2.1 1 = .ok (.iconst 0, 1) := by decide +kernel
theorem dz_E_tell_2 : decode zm_E_tell.2.1 2 = .ok (.putfield 9, 3) := by decide +kernel
theorem dz_E_tell_5 : decode zm_E_tell.2.1 5 = .ok (.aload_n 0, 1) := by decide +kernel
theorem dz_E_tell_6 : decode zm_E_tell.2.1 6 = .ok (.iconst 0, 1) := by decide +kernel
theorem dz_E_tell_7 : decode zm_E_tell.2.1 7 = .ok (.putfield 15, 3) := by decide +kernel
theorem dz_E_tell_10 : decode zm_E_tell.2.1 10 = .ok (.aload_n 0, 1) := by decide +kernel
theorem dz_E_tell_11 : decode zm_E_tell.2.1 11 = .ok (.iconst 0, 1) := by decide +kernel
theorem dz_E_tell_12 : decode zm_E_tell.2.1 12 = .ok (.putfield 18, 3) := by decide +kernel
theorem dz_E_tell_15 : decode zm_E_tell.2.1 15 = .ok (.aload_n 0, 1) := by decide +kernel
theorem dz_E_tell_16 : decode zm_E_tell.2.1 16 = .ok (.iconst 0, 1) := by decide +kernel
theorem dz_E_tell_17 : decode zm_E_tell.2.1 17 = .ok (.putfield 21, 3) := by decide +kernel
theorem dz_E_tell_20 : decode zm_E_tell.2.1 20 = .ok (.aload_n 1, 1) := by decide +kernel
theorem dz_E_tell_21 : decode zm_E_tell.2.1 21 = .ok (.ifnull 7, 3) := by decide +kernel
theorem dz_E_tell_24 : decode zm_E_tell.2.1 24 = .ok (.aload_n 2, 1) := by decide +kernel
theorem dz_E_tell_25 : decode zm_E_tell.2.1 25 = .ok (.ifnonnull 5, 3) := by decide +kernel
theorem dz_E_tell_28 : decode zm_E_tell.2.1 28 = .ok (.iconst 0, 1) := by decide +kernel
theorem dz_E_tell_29 : decode zm_E_tell.2.1 29 = .ok (.ireturn, 1) := by decide +kernel
theorem dz_E_tell_30 : decode zm_E_tell.2.1 30 = .ok (.aload_n 2, 1) := by decide +kernel
theorem dz_E_tell_31 : decode zm_E_tell.2.1 31 = .ok (.invokevirtual 24, 3) := by decide +kernel
theorem dz_E_tell_34 : decode zm_E_tell.2.1 34 = .ok (.aload_n 1, 1) := by decide +kernel
theorem dz_E_tell_35 : decode zm_E_tell.2.1 35 = .ok (.invokevirtual 29, 3) := by decide +kernel
theorem dz_E_tell_38 : decode zm_E_tell.2.1 38 = .ok (.aload_n 1, 1) := by decide +kernel
theorem dz_E_tell_39 : decode zm_E_tell.2.1 39 = .ok (.invokevirtual 34, 3) := by decide +kernel
theorem dz_E_tell_42 : decode zm_E_tell.2.1 42 = .ok (.iconst 0, 1) := by decide +kernel
theorem dz_E_tell_43 : decode zm_E_tell.2.1 43 = .ok (.istore_n 3, 1) := by decide +kernel
theorem dz_E_tell_44 : decode zm_E_tell.2.1 44 = .ok (.iload_n 3, 1) := by decide +kernel
theorem dz_E_tell_45 : decode zm_E_tell.2.1 45 = .ok (.sipush 160, 3) := by decide +kernel
theorem dz_E_tell_48 : decode zm_E_tell.2.1 48 = .ok (.if_icmp .ge 31, 3) := by decide +kernel
theorem dz_E_tell_51 : decode zm_E_tell.2.1 51 = .ok (.aload_n 1, 1) := by decide +kernel
theorem dz_E_tell_52 : decode zm_E_tell.2.1 52 = .ok (.getfield 37, 3) := by decide +kernel
theorem dz_E_tell_55 : decode zm_E_tell.2.1 55 = .ok (.ifCond .eq 24, 3) := by decide +kernel
theorem dz_E_tell_58 : decode zm_E_tell.2.1 58 = .ok (.aload_n 0, 1) := by decide +kernel
theorem dz_E_tell_59 : decode zm_E_tell.2.1 59 = .ok (.aload_n 1, 1) := by decide +kernel
theorem dz_E_tell_60 : decode zm_E_tell.2.1 60 = .ok (.aload_n 2, 1) := by decide +kernel
theorem dz_E_tell_61 : decode zm_E_tell.2.1 61 = .ok (.invokevirtual 40, 3) := by decide +kernel
theorem dz_E_tell_64 : decode zm_E_tell.2.1 64 = .ok (.ifCond .ne 5, 3) := by decide +kernel
theorem dz_E_tell_67 : decode zm_E_tell.2.1 67 = .ok (.iload_n 3, 1) := by decide +kernel
theorem dz_E_tell_68 : decode zm_E_tell.2.1 68 = .ok (.ireturn, 1) := by decide +kernel
theorem dz_E_tell_69 : decode zm_E_tell.2.1 69 = .ok (.iinc 3 1, 3) := by decide +kernel
theorem dz_E_tell_72 : decode zm_E_tell.2.1 72 = .ok (.aload_n 1, 1) := by decide +kernel
theorem dz_E_tell_73 : decode zm_E_tell.2.1 73 = .ok (.invokevirtual 34, 3) := by decide +kernel
theorem dz_E_tell_76 : decode zm_E_tell.2.1 76 = .ok (.goto (-32), 3) := by decide +kernel
theorem dz_E_tell_79 : decode zm_E_tell.2.1 79 = .ok (.aload_n 0, 1) := by decide +kernel
theorem dz_E_tell_80 : decode zm_E_tell.2.1 80 = .ok (.aload_n 1, 1) := by decide +kernel
theorem dz_E_tell_81 : decode zm_E_tell.2.1 81 = .ok (.aload_n 2, 1) := by decide +kernel
theorem dz_E_tell_82 : decode zm_E_tell.2.1 82 = .ok (.invokevirtual 44, 3) := by decide +kernel
theorem dz_E_tell_85 : decode zm_E_tell.2.1 85 = .ok (.iload_n 3, 1) := by decide +kernel
theorem dz_E_tell_86 : decode zm_E_tell.2.1 86 = .ok (.ireturn, 1) := by decide +kernel
theorem dz_E_checkWhole_0 : decode zm_E_checkWhole.2.1 0 = .ok (.aload_n 0, 1) := by decide +kernel
theorem dz_E_checkWhole_1 : decode zm_E_checkWhole.2.1 1 = .ok (.getfield 18, 3) := by decide +kernel
theorem dz_E_checkWhole_4 : decode zm_E_checkWhole.2.1 4 = .ok (.aload_n 2, 1) := by decide +kernel
theorem dz_E_checkWhole_5 : decode zm_E_checkWhole.2.1 5 = .ok (.invokevirtual 48, 3) := by decide +kernel
theorem dz_E_checkWhole_8 : decode zm_E_checkWhole.2.1 8 = .ok (.iconst (-1), 1) := by decide +kernel
theorem dz_E_checkWhole_9 : decode zm_E_checkWhole.2.1 9 = .ok (.ixor, 1) := by decide +kernel
theorem dz_E_checkWhole_10 : decode zm_E_checkWhole.2.1 10 = .ok (.iand, 1) := by decide +kernel
theorem dz_E_checkWhole_11 : decode zm_E_checkWhole.2.1 11 = .ok (.ifCond .eq 17, 3) := by decide +kernel
theorem dz_E_checkWhole_14 : decode zm_E_checkWhole.2.1 14 = .ok (.aload_n 0, 1) := by decide +kernel
theorem dz_E_checkWhole_15 : decode zm_E_checkWhole.2.1 15 = .ok (.bipush 6, 2) := by decide +kernel
theorem dz_E_checkWhole_17 : decode zm_E_checkWhole.2.1 17 = .ok (.aload_n 1, 1) := by decide +kernel
theorem dz_E_checkWhole_18 : decode zm_E_checkWhole.2.1 18 = .ok (.getfield 52, 3) := by decide +kernel
theorem dz_E_checkWhole_21 : decode zm_E_checkWhole.2.1 21 = .ok (.invokevirtual 55, 3) := by decide +kernel
theorem dz_E_checkWhole_24 : decode zm_E_checkWhole.2.1 24 = .ok (.pop, 1) := by decide +kernel
theorem dz_E_checkWhole_25 : decode zm_E_checkWhole.2.1 25 = .ok (.goto 21, 3) := by decide +kernel
theorem dz_E_checkWhole_28 : decode zm_E_checkWhole.2.1 28 = .ok (.aload_n 2, 1) := by decide +kernel
theorem dz_E_checkWhole_29 : decode zm_E_checkWhole.2.1 29 = .ok (.invokevirtual 59, 3) := by decide +kernel
theorem dz_E_checkWhole_32 : decode zm_E_checkWhole.2.1 32 = .ok (.ifCond .eq 14, 3) := by decide +kernel
theorem dz_E_checkWhole_35 : decode zm_E_checkWhole.2.1 35 = .ok (.aload_n 0, 1) := by decide +kernel
theorem dz_E_checkWhole_36 : decode zm_E_checkWhole.2.1 36 = .ok (.bipush 7, 2) := by decide +kernel
theorem dz_E_checkWhole_38 : decode zm_E_checkWhole.2.1 38 = .ok (.aload_n 1, 1) := by decide +kernel
theorem dz_E_checkWhole_39 : decode zm_E_checkWhole.2.1 39 = .ok (.getfield 52, 3) := by decide +kernel
theorem dz_E_checkWhole_42 : decode zm_E_checkWhole.2.1 42 = .ok (.invokevirtual 55, 3) := by decide +kernel
theorem dz_E_checkWhole_45 : decode zm_E_checkWhole.2.1 45 = .ok (.pop, 1) := by decide +kernel
theorem dz_E_checkWhole_46 : decode zm_E_checkWhole.2.1 46 = .ok (.return_, 1) := by decide +kernel
theorem dz_E_tellLine_0 : decode zm_E_tellLine.2.1 0 = .ok (.aload_n 1, 1) := by decide +kernel
theorem dz_E_tellLine_1 : decode zm_E_tellLine.2.1 1 = .ok (.ldc 63, 2) := by decide +kernel
theorem dz_E_tellLine_3 : decode zm_E_tellLine.2.1 3 = .ok (.invokevirtual 65, 3) := by decide +kernel
theorem dz_E_tellLine_6 : decode zm_E_tellLine.2.1 6 = .ok (.ifCond .eq 10, 3) := by decide +kernel
theorem dz_E_tellLine_9 : decode zm_E_tellLine.2.1 9 = .ok (.aload_n 0, 1) := by decide +kernel
theorem dz_E_tellLine_10 : decode zm_E_tellLine.2.1 10 = .ok (.aload_n 1, 1) := by decide +kernel
theorem dz_E_tellLine_11 : decode zm_E_tellLine.2.1 11 = .ok (.aload_n 2, 1) := by decide +kernel
theorem dz_E_tellLine_12 : decode zm_E_tellLine.2.1 12 = .ok (.invokevirtual 69, 3) := by decide +kernel
theorem dz_E_tellLine_15 : decode zm_E_tellLine.2.1 15 = .ok (.ireturn, 1) := by decide +kernel
theorem dz_E_tellLine_16 : decode zm_E_tellLine.2.1 16 = .ok (.aload_n 1, 1) := by decide +kernel
theorem dz_E_tellLine_17 : decode zm_E_tellLine.2.1 17 = .ok (.ldc 72, 2) := by decide +kernel
theorem dz_E_tellLine_19 : decode zm_E_tellLine.2.1 19 = .ok (.invokevirtual 65, 3) := by decide +kernel
theorem dz_E_tellLine_22 : decode zm_E_tellLine.2.1 22 = .ok (.ifCond .eq 10, 3) := by decide +kernel
theorem dz_E_tellLine_25 : decode zm_E_tellLine.2.1 25 = .ok (.aload_n 0, 1) := by decide +kernel
theorem dz_E_tellLine_26 : decode zm_E_tellLine.2.1 26 = .ok (.aload_n 1, 1) := by decide +kernel
theorem dz_E_tellLine_27 : decode zm_E_tellLine.2.1 27 = .ok (.aload_n 2, 1) := by decide +kernel
theorem dz_E_tellLine_28 : decode zm_E_tellLine.2.1 28 = .ok (.invokevirtual 74, 3) := by decide +kernel
theorem dz_E_tellLine_31 : decode zm_E_tellLine.2.1 31 = .ok (.ireturn, 1) := by decide +kernel
theorem dz_E_tellLine_32 : decode zm_E_tellLine.2.1 32 = .ok (.aload_n 1, 1) := by decide +kernel
theorem dz_E_tellLine_33 : decode zm_E_tellLine.2.1 33 = .ok (.ldc 77, 2) := by decide +kernel
theorem dz_E_tellLine_35 : decode zm_E_tellLine.2.1 35 = .ok (.invokevirtual 65, 3) := by decide +kernel
theorem dz_E_tellLine_38 : decode zm_E_tellLine.2.1 38 = .ok (.ifCond .eq 10, 3) := by decide +kernel
theorem dz_E_tellLine_41 : decode zm_E_tellLine.2.1 41 = .ok (.aload_n 0, 1) := by decide +kernel
theorem dz_E_tellLine_42 : decode zm_E_tellLine.2.1 42 = .ok (.aload_n 1, 1) := by decide +kernel
theorem dz_E_tellLine_43 : decode zm_E_tellLine.2.1 43 = .ok (.aload_n 2, 1) := by decide +kernel
theorem dz_E_tellLine_44 : decode zm_E_tellLine.2.1 44 = .ok (.invokevirtual 79, 3) := by decide +kernel
theorem dz_E_tellLine_47 : decode zm_E_tellLine.2.1 47 = .ok (.ireturn, 1) := by decide +kernel
theorem dz_E_tellLine_48 : decode zm_E_tellLine.2.1 48 = .ok (.aload_n 1, 1) := by decide +kernel
theorem dz_E_tellLine_49 : decode zm_E_tellLine.2.1 49 = .ok (.ldc 82, 2) := by decide +kernel
theorem dz_E_tellLine_51 : decode zm_E_tellLine.2.1 51 = .ok (.invokevirtual 65, 3) := by decide +kernel
theorem dz_E_tellLine_54 : decode zm_E_tellLine.2.1 54 = .ok (.ifCond .eq 10, 3) := by decide +kernel
theorem dz_E_tellLine_57 : decode zm_E_tellLine.2.1 57 = .ok (.aload_n 0, 1) := by decide +kernel
theorem dz_E_tellLine_58 : decode zm_E_tellLine.2.1 58 = .ok (.aload_n 1, 1) := by decide +kernel
theorem dz_E_tellLine_59 : decode zm_E_tellLine.2.1 59 = .ok (.aload_n 2, 1) := by decide +kernel
theorem dz_E_tellLine_60 : decode zm_E_tellLine.2.1 60 = .ok (.invokevirtual 84, 3) := by decide +kernel
theorem dz_E_tellLine_63 : decode zm_E_tellLine.2.1 63 = .ok (.ireturn, 1) := by decide +kernel
theorem dz_E_tellLine_64 : decode zm_E_tellLine.2.1 64 = .ok (.aload_n 1, 1) := by decide +kernel
theorem dz_E_tellLine_65 : decode zm_E_tellLine.2.1 65 = .ok (.ldc 87, 2) := by decide +kernel
theorem dz_E_tellLine_67 : decode zm_E_tellLine.2.1 67 = .ok (.invokevirtual 65, 3) := by decide +kernel
theorem dz_E_tellLine_70 : decode zm_E_tellLine.2.1 70 = .ok (.ifCond .eq 10, 3) := by decide +kernel
theorem dz_E_tellLine_73 : decode zm_E_tellLine.2.1 73 = .ok (.aload_n 0, 1) := by decide +kernel
theorem dz_E_tellLine_74 : decode zm_E_tellLine.2.1 74 = .ok (.aload_n 1, 1) := by decide +kernel
theorem dz_E_tellLine_75 : decode zm_E_tellLine.2.1 75 = .ok (.aload_n 2, 1) := by decide +kernel
theorem dz_E_tellLine_76 : decode zm_E_tellLine.2.1 76 = .ok (.invokevirtual 89, 3) := by decide +kernel
theorem dz_E_tellLine_79 : decode zm_E_tellLine.2.1 79 = .ok (.ireturn, 1) := by decide +kernel
theorem dz_E_tellLine_80 : decode zm_E_tellLine.2.1 80 = .ok (.aload_n 0, 1) := by decide +kernel
theorem dz_E_tellLine_81 : decode zm_E_tellLine.2.1 81 = .ok (.aload_n 1, 1) := by decide +kernel
theorem dz_E_tellLine_82 : decode zm_E_tellLine.2.1 82 = .ok (.invokevirtual 92, 3) := by decide +kernel
theorem dz_E_tellLine_85 : decode zm_E_tellLine.2.1 85 = .ok (.ireturn, 1) := by decide +kernel
theorem dz_E_tellOne_0 : decode zm_E_tellOne.2.1 0 = .ok (.aload_n 2, 1) := by decide +kernel
theorem dz_E_tellOne_1 : decode zm_E_tellOne.2.1 1 = .ok (.getfield 96, 3) := by decide +kernel
theorem dz_E_tellOne_4 : decode zm_E_tellOne.2.1 4 = .ok (.bipush 6, 2) := by decide +kernel
theorem dz_E_tellOne_6 : decode zm_E_tellOne.2.1 6 = .ok (.if_icmp .lt 13, 3) := by decide +kernel
theorem dz_E_tellOne_9 : decode zm_E_tellOne.2.1 9 = .ok (.aload_n 0, 1) := by decide +kernel
theorem dz_E_tellOne_10 : decode zm_E_tellOne.2.1 10 = .ok (.iconst 5, 1) := by decide +kernel
theorem dz_E_tellOne_11 : decode zm_E_tellOne.2.1 11 = .ok (.aload_n 1, 1) := by decide +kernel
theorem dz_E_tellOne_12 : decode zm_E_tellOne.2.1 12 = .ok (.getfield 99, 3) := by decide +kernel
theorem dz_E_tellOne_15 : decode zm_E_tellOne.2.1 15 = .ok (.invokevirtual 55, 3) := by decide +kernel
theorem dz_E_tellOne_18 : decode zm_E_tellOne.2.1 18 = .ok (.ireturn, 1) := by decide +kernel
theorem dz_E_tellOne_19 : decode zm_E_tellOne.2.1 19 = .ok (.bipush (-4), 2) := by decide +kernel
theorem dz_E_tellOne_21 : decode zm_E_tellOne.2.1 21 = .ok (.istore_n 3, 1) := by decide +kernel
theorem dz_E_tellOne_22 : decode zm_E_tellOne.2.1 22 = .ok (.aload_n 1, 1) := by decide +kernel
theorem dz_E_tellOne_23 : decode zm_E_tellOne.2.1 23 = .ok (.invokevirtual 34, 3) := by decide +kernel
theorem dz_E_tellOne_26 : decode zm_E_tellOne.2.1 26 = .ok (.aload_n 1, 1) := by decide +kernel
theorem dz_E_tellOne_27 : decode zm_E_tellOne.2.1 27 = .ok (.getfield 37, 3) := by decide +kernel
theorem dz_E_tellOne_30 : decode zm_E_tellOne.2.1 30 = .ok (.iconst 2, 1) := by decide +kernel
theorem dz_E_tellOne_31 : decode zm_E_tellOne.2.1 31 = .ok (.if_icmp .ne 33, 3) := by decide +kernel
theorem dz_E_tellOne_34 : decode zm_E_tellOne.2.1 34 = .ok (.aload_n 2, 1) := by decide +kernel
theorem dz_E_tellOne_35 : decode zm_E_tellOne.2.1 35 = .ok (.aload_n 1, 1) := by decide +kernel
theorem dz_E_tellOne_36 : decode zm_E_tellOne.2.1 36 = .ok (.getfield 102, 3) := by decide +kernel
theorem dz_E_tellOne_39 : decode zm_E_tellOne.2.1 39 = .ok (.invokevirtual 105, 3) := by decide +kernel
theorem dz_E_tellOne_42 : decode zm_E_tellOne.2.1 42 = .ok (.ifCond .ne 13, 3) := by decide +kernel
theorem dz_E_tellOne_45 : decode zm_E_tellOne.2.1 45 = .ok (.aload_n 0, 1) := by decide +kernel
theorem dz_E_tellOne_46 : decode zm_E_tellOne.2.1 46 = .ok (.iconst 3, 1) := by decide +kernel
theorem dz_E_tellOne_47 : decode zm_E_tellOne.2.1 47 = .ok (.aload_n 1, 1) := by decide +kernel
theorem dz_E_tellOne_48 : decode zm_E_tellOne.2.1 48 = .ok (.getfield 99, 3) := by decide +kernel
theorem dz_E_tellOne_51 : decode zm_E_tellOne.2.1 51 = .ok (.invokevirtual 55, 3) := by decide +kernel
theorem dz_E_tellOne_54 : decode zm_E_tellOne.2.1 54 = .ok (.ireturn, 1) := by decide +kernel
theorem dz_E_tellOne_55 : decode zm_E_tellOne.2.1 55 = .ok (.aload_n 1, 1) := by decide +kernel
theorem dz_E_tellOne_56 : decode zm_E_tellOne.2.1 56 = .ok (.getfield 102, 3) := by decide +kernel
theorem dz_E_tellOne_59 : decode zm_E_tellOne.2.1 59 = .ok (.istore_n 3, 1) := by decide +kernel
theorem dz_E_tellOne_60 : decode zm_E_tellOne.2.1 60 = .ok (.aload_n 1, 1) := by decide +kernel
theorem dz_E_tellOne_61 : decode zm_E_tellOne.2.1 61 = .ok (.invokevirtual 34, 3) := by decide +kernel
theorem dz_E_tellOne_64 : decode zm_E_tellOne.2.1 64 = .ok (.aload_n 2, 1) := by decide +kernel
theorem dz_E_tellOne_65 : decode zm_E_tellOne.2.1 65 = .ok (.iload_n 3, 1) := by decide +kernel
theorem dz_E_tellOne_66 : decode zm_E_tellOne.2.1 66 = .ok (.invokevirtual 109, 3) := by decide +kernel
theorem dz_E_tellOne_69 : decode zm_E_tellOne.2.1 69 = .ok (.aload_n 1, 1) := by decide +kernel
theorem dz_E_tellOne_70 : decode zm_E_tellOne.2.1 70 = .ok (.getfield 37, 3) := by decide +kernel
theorem dz_E_tellOne_73 : decode zm_E_tellOne.2.1 73 = .ok (.iconst 3, 1) := by decide +kernel
theorem dz_E_tellOne_74 : decode zm_E_tellOne.2.1 74 = .ok (.if_icmp .eq 11, 3) := by decide +kernel
theorem dz_E_tellOne_77 : decode zm_E_tellOne.2.1 77 = .ok (.aload_n 0, 1) := by decide +kernel
theorem dz_E_tellOne_78 : decode zm_E_tellOne.2.1 78 = .ok (.aload_n 1, 1) := by decide +kernel
theorem dz_E_tellOne_79 : decode zm_E_tellOne.2.1 79 = .ok (.invokevirtual 92, 3) := by decide +kernel
theorem dz_E_tellOne_82 : decode zm_E_tellOne.2.1 82 = .ok (.ifCond .eq 7, 3) := by decide +kernel
theorem dz_E_tellOne_85 : decode zm_E_tellOne.2.1 85 = .ok (.iconst 1, 1) := by decide +kernel
theorem dz_E_tellOne_86 : decode zm_E_tellOne.2.1 86 = .ok (.goto 4, 3) := by decide +kernel
theorem dz_E_tellOne_89 : decode zm_E_tellOne.2.1 89 = .ok (.iconst 0, 1) := by decide +kernel
theorem dz_E_tellOne_90 : decode zm_E_tellOne.2.1 90 = .ok (.ireturn, 1) := by decide +kernel
theorem dz_E_tellFact_0 : decode zm_E_tellFact.2.1 0 = .ok (.aload_n 0, 1) := by decide +kernel
theorem dz_E_tellFact_1 : decode zm_E_tellFact.2.1 1 = .ok (.aload_n 1, 1) := by decide +kernel
theorem dz_E_tellFact_2 : decode zm_E_tellFact.2.1 2 = .ok (.iconst 0, 1) := by decide +kernel
theorem dz_E_tellFact_3 : decode zm_E_tellFact.2.1 3 = .ok (.iconst 5, 1) := by decide +kernel
theorem dz_E_tellFact_4 : decode zm_E_tellFact.2.1 4 = .ok (.invokevirtual 113, 3) := by decide +kernel
theorem dz_E_tellFact_7 : decode zm_E_tellFact.2.1 7 = .ok (.ifCond .ne 5, 3) := by decide +kernel
theorem dz_E_tellFact_10 : decode zm_E_tellFact.2.1 10 = .ok (.iconst 0, 1) := by decide +kernel
theorem dz_E_tellFact_11 : decode zm_E_tellFact.2.1 11 = .ok (.ireturn, 1) := by decide +kernel
theorem dz_E_tellFact_12 : decode zm_E_tellFact.2.1 12 = .ok (.aload_n 1, 1) := by decide +kernel
theorem dz_E_tellFact_13 : decode zm_E_tellFact.2.1 13 = .ok (.getfield 102, 3) := by decide +kernel
theorem dz_E_tellFact_16 : decode zm_E_tellFact.2.1 16 = .ok (.istore_n 3, 1) := by decide +kernel
theorem dz_E_tellFact_17 : decode zm_E_tellFact.2.1 17 = .ok (.aload_n 0, 1) := by decide +kernel
theorem dz_E_tellFact_18 : decode zm_E_tellFact.2.1 18 = .ok (.aload_n 1, 1) := by decide +kernel
theorem dz_E_tellFact_19 : decode zm_E_tellFact.2.1 19 = .ok (.iconst 0, 1) := by decide +kernel
theorem dz_E_tellFact_20 : decode zm_E_tellFact.2.1 20 = .ok (.iconst 4, 1) := by decide +kernel
theorem dz_E_tellFact_21 : decode zm_E_tellFact.2.1 21 = .ok (.invokevirtual 113, 3) := by decide +kernel
theorem dz_E_tellFact_24 : decode zm_E_tellFact.2.1 24 = .ok (.ifCond .ne 5, 3) := by decide +kernel
theorem dz_E_tellFact_27 : decode zm_E_tellFact.2.1 27 = .ok (.iconst 0, 1) := by decide +kernel
theorem dz_E_tellFact_28 : decode zm_E_tellFact.2.1 28 = .ok (.ireturn, 1) := by decide +kernel
theorem dz_E_tellFact_29 : decode zm_E_tellFact.2.1 29 = .ok (.iload_n 3, 1) := by decide +kernel
theorem dz_E_tellFact_30 : decode zm_E_tellFact.2.1 30 = .ok (.ifCond .lt 25, 3) := by decide +kernel
theorem dz_E_tellFact_33 : decode zm_E_tellFact.2.1 33 = .ok (.iload_n 3, 1) := by decide +kernel
theorem dz_E_tellFact_34 : decode zm_E_tellFact.2.1 34 = .ok (.bipush 6, 2) := by decide +kernel
theorem dz_E_tellFact_36 : decode zm_E_tellFact.2.1 36 = .ok (.if_icmp .ge 19, 3) := by decide +kernel
theorem dz_E_tellFact_39 : decode zm_E_tellFact.2.1 39 = .ok (.aload_n 2, 1) := by decide +kernel
theorem dz_E_tellFact_40 : decode zm_E_tellFact.2.1 40 = .ok (.getfield 117, 3) := by decide +kernel
theorem dz_E_tellFact_43 : decode zm_E_tellFact.2.1 43 = .ok (.iload_n 3, 1) := by decide +kernel
theorem dz_E_tellFact_44 : decode zm_E_tellFact.2.1 44 = .ok (.iaload, 1) := by decide +kernel
theorem dz_E_tellFact_45 : decode zm_E_tellFact.2.1 45 = .ok (.aload_n 1, 1) := by decide +kernel
theorem dz_E_tellFact_46 : decode zm_E_tellFact.2.1 46 = .ok (.getfield 102, 3) := by decide +kernel
theorem dz_E_tellFact_49 : decode zm_E_tellFact.2.1 49 = .ok (.ishr, 1) := by decide +kernel
theorem dz_E_tellFact_50 : decode zm_E_tellFact.2.1 50 = .ok (.iconst 1, 1) := by decide +kernel
theorem dz_E_tellFact_51 : decode zm_E_tellFact.2.1 51 = .ok (.iand, 1) := by decide +kernel
theorem dz_E_tellFact_52 : decode zm_E_tellFact.2.1 52 = .ok (.ifCond .eq 13, 3) := by decide +kernel
theorem dz_E_tellFact_55 : decode zm_E_tellFact.2.1 55 = .ok (.aload_n 0, 1) := by decide +kernel
theorem dz_E_tellFact_56 : decode zm_E_tellFact.2.1 56 = .ok (.iconst 4, 1) := by decide +kernel
theorem dz_E_tellFact_57 : decode zm_E_tellFact.2.1 57 = .ok (.aload_n 1, 1) := by decide +kernel
theorem dz_E_tellFact_58 : decode zm_E_tellFact.2.1 58 = .ok (.getfield 99, 3) := by decide +kernel
theorem dz_E_tellFact_61 : decode zm_E_tellFact.2.1 61 = .ok (.invokevirtual 55, 3) := by decide +kernel
theorem dz_E_tellFact_64 : decode zm_E_tellFact.2.1 64 = .ok (.ireturn, 1) := by decide +kernel
theorem dz_E_tellFact_65 : decode zm_E_tellFact.2.1 65 = .ok (.aload_n 2, 1) := by decide +kernel
theorem dz_E_tellFact_66 : decode zm_E_tellFact.2.1 66 = .ok (.getfield 117, 3) := by decide +kernel
theorem dz_E_tellFact_69 : decode zm_E_tellFact.2.1 69 = .ok (.iload_n 3, 1) := by decide +kernel
theorem dz_E_tellFact_70 : decode zm_E_tellFact.2.1 70 = .ok (.dup2, 1) := by decide +kernel
theorem dz_E_tellFact_71 : decode zm_E_tellFact.2.1 71 = .ok (.iaload, 1) := by decide +kernel
theorem dz_E_tellFact_72 : decode zm_E_tellFact.2.1 72 = .ok (.iconst 1, 1) := by decide +kernel
theorem dz_E_tellFact_73 : decode zm_E_tellFact.2.1 73 = .ok (.aload_n 1, 1) := by decide +kernel
theorem dz_E_tellFact_74 : decode zm_E_tellFact.2.1 74 = .ok (.getfield 102, 3) := by decide +kernel
theorem dz_E_tellFact_77 : decode zm_E_tellFact.2.1 77 = .ok (.ishl, 1) := by decide +kernel
theorem dz_E_tellFact_78 : decode zm_E_tellFact.2.1 78 = .ok (.ior, 1) := by decide +kernel
theorem dz_E_tellFact_79 : decode zm_E_tellFact.2.1 79 = .ok (.iastore, 1) := by decide +kernel
theorem dz_E_tellFact_80 : decode zm_E_tellFact.2.1 80 = .ok (.aload_n 0, 1) := by decide +kernel
theorem dz_E_tellFact_81 : decode zm_E_tellFact.2.1 81 = .ok (.dup, 1) := by decide +kernel
theorem dz_E_tellFact_82 : decode zm_E_tellFact.2.1 82 = .ok (.getfield 18, 3) := by decide +kernel
theorem dz_E_tellFact_85 : decode zm_E_tellFact.2.1 85 = .ok (.iconst 1, 1) := by decide +kernel
theorem dz_E_tellFact_86 : decode zm_E_tellFact.2.1 86 = .ok (.iload_n 3, 1) := by decide +kernel
theorem dz_E_tellFact_87 : decode zm_E_tellFact.2.1 87 = .ok (.ishl, 1) := by decide +kernel
theorem dz_E_tellFact_88 : decode zm_E_tellFact.2.1 88 = .ok (.ior, 1) := by decide +kernel
theorem dz_E_tellFact_89 : decode zm_E_tellFact.2.1 89 = .ok (.putfield 18, 3) := by decide +kernel
theorem dz_E_tellFact_92 : decode zm_E_tellFact.2.1 92 = .ok (.aload_n 0, 1) := by decide +kernel
theorem dz_E_tellFact_93 : decode zm_E_tellFact.2.1 93 = .ok (.aload_n 1, 1) := by decide +kernel
theorem dz_E_tellFact_94 : decode zm_E_tellFact.2.1 94 = .ok (.invokevirtual 121, 3) := by decide +kernel
theorem dz_E_tellFact_97 : decode zm_E_tellFact.2.1 97 = .ok (.ireturn, 1) := by decide +kernel
theorem dz_E_tellGone_0 : decode zm_E_tellGone.2.1 0 = .ok (.aload_n 0, 1) := by decide +kernel
theorem dz_E_tellGone_1 : decode zm_E_tellGone.2.1 1 = .ok (.aload_n 1, 1) := by decide +kernel
theorem dz_E_tellGone_2 : decode zm_E_tellGone.2.1 2 = .ok (.iconst 0, 1) := by decide +kernel
theorem dz_E_tellGone_3 : decode zm_E_tellGone.2.1 3 = .ok (.iconst 5, 1) := by decide +kernel
theorem dz_E_tellGone_4 : decode zm_E_tellGone.2.1 4 = .ok (.invokevirtual 113, 3) := by decide +kernel
theorem dz_E_tellGone_7 : decode zm_E_tellGone.2.1 7 = .ok (.ifCond .ne 5, 3) := by decide +kernel
theorem dz_E_tellGone_10 : decode zm_E_tellGone.2.1 10 = .ok (.iconst 0, 1) := by decide +kernel
theorem dz_E_tellGone_11 : decode zm_E_tellGone.2.1 11 = .ok (.ireturn, 1) := by decide +kernel
theorem dz_E_tellGone_12 : decode zm_E_tellGone.2.1 12 = .ok (.aload_n 2, 1) := by decide +kernel
theorem dz_E_tellGone_13 : decode zm_E_tellGone.2.1 13 = .ok (.aload_n 1, 1) := by decide +kernel
theorem dz_E_tellGone_14 : decode zm_E_tellGone.2.1 14 = .ok (.getfield 102, 3) := by decide +kernel
theorem dz_E_tellGone_17 : decode zm_E_tellGone.2.1 17 = .ok (.invokevirtual 124, 3) := by decide +kernel
theorem dz_E_tellGone_20 : decode zm_E_tellGone.2.1 20 = .ok (.ifCond .eq 13, 3) := by decide +kernel
theorem dz_E_tellGone_23 : decode zm_E_tellGone.2.1 23 = .ok (.aload_n 0, 1) := by decide +kernel
theorem dz_E_tellGone_24 : decode zm_E_tellGone.2.1 24 = .ok (.iconst 4, 1) := by decide +kernel
theorem dz_E_tellGone_25 : decode zm_E_tellGone.2.1 25 = .ok (.aload_n 1, 1) := by decide +kernel
theorem dz_E_tellGone_26 : decode zm_E_tellGone.2.1 26 = .ok (.getfield 99, 3) := by decide +kernel
theorem dz_E_tellGone_29 : decode zm_E_tellGone.2.1 29 = .ok (.invokevirtual 55, 3) := by decide +kernel
theorem dz_E_tellGone_32 : decode zm_E_tellGone.2.1 32 = .ok (.ireturn, 1) := by decide +kernel
theorem dz_E_tellGone_33 : decode zm_E_tellGone.2.1 33 = .ok (.aload_n 2, 1) := by decide +kernel
theorem dz_E_tellGone_34 : decode zm_E_tellGone.2.1 34 = .ok (.dup, 1) := by decide +kernel
theorem dz_E_tellGone_35 : decode zm_E_tellGone.2.1 35 = .ok (.getfield 127, 3) := by decide +kernel
theorem dz_E_tellGone_38 : decode zm_E_tellGone.2.1 38 = .ok (.iconst 1, 1) := by decide +kernel
theorem dz_E_tellGone_39 : decode zm_E_tellGone.2.1 39 = .ok (.aload_n 1, 1) := by decide +kernel
theorem dz_E_tellGone_40 : decode zm_E_tellGone.2.1 40 = .ok (.getfield 102, 3) := by decide +kernel
theorem dz_E_tellGone_43 : decode zm_E_tellGone.2.1 43 = .ok (.ishl, 1) := by decide +kernel
theorem dz_E_tellGone_44 : decode zm_E_tellGone.2.1 44 = .ok (.ior, 1) := by decide +kernel
theorem dz_E_tellGone_45 : decode zm_E_tellGone.2.1 45 = .ok (.putfield 127, 3) := by decide +kernel
theorem dz_E_tellGone_48 : decode zm_E_tellGone.2.1 48 = .ok (.aload_n 0, 1) := by decide +kernel
theorem dz_E_tellGone_49 : decode zm_E_tellGone.2.1 49 = .ok (.dup, 1) := by decide +kernel
theorem dz_E_tellGone_50 : decode zm_E_tellGone.2.1 50 = .ok (.getfield 18, 3) := by decide +kernel
theorem dz_E_tellGone_53 : decode zm_E_tellGone.2.1 53 = .ok (.iconst 1, 1) := by decide +kernel
theorem dz_E_tellGone_54 : decode zm_E_tellGone.2.1 54 = .ok (.aload_n 1, 1) := by decide +kernel
theorem dz_E_tellGone_55 : decode zm_E_tellGone.2.1 55 = .ok (.getfield 102, 3) := by decide +kernel
theorem dz_E_tellGone_58 : decode zm_E_tellGone.2.1 58 = .ok (.ishl, 1) := by decide +kernel
theorem dz_E_tellGone_59 : decode zm_E_tellGone.2.1 59 = .ok (.ior, 1) := by decide +kernel
theorem dz_E_tellGone_60 : decode zm_E_tellGone.2.1 60 = .ok (.putfield 18, 3) := by decide +kernel
theorem dz_E_tellGone_63 : decode zm_E_tellGone.2.1 63 = .ok (.aload_n 0, 1) := by decide +kernel
theorem dz_E_tellGone_64 : decode zm_E_tellGone.2.1 64 = .ok (.aload_n 1, 1) := by decide +kernel
theorem dz_E_tellGone_65 : decode zm_E_tellGone.2.1 65 = .ok (.invokevirtual 121, 3) := by decide +kernel
theorem dz_E_tellGone_68 : decode zm_E_tellGone.2.1 68 = .ok (.ireturn, 1) := by decide +kernel
theorem dz_E_tellOdds_0 : decode zm_E_tellOdds.2.1 0 = .ok (.aload_n 0, 1) := by decide +kernel
theorem dz_E_tellOdds_1 : decode zm_E_tellOdds.2.1 1 = .ok (.aload_n 1, 1) := by decide +kernel
theorem dz_E_tellOdds_2 : decode zm_E_tellOdds.2.1 2 = .ok (.iconst 0, 1) := by decide +kernel
theorem dz_E_tellOdds_3 : decode zm_E_tellOdds.2.1 3 = .ok (.iconst 4, 1) := by decide +kernel
theorem dz_E_tellOdds_4 : decode zm_E_tellOdds.2.1 4 = .ok (.invokevirtual 113, 3) := by decide +kernel
theorem dz_E_tellOdds_7 : decode zm_E_tellOdds.2.1 7 = .ok (.ifCond .ne 5, 3) := by decide +kernel
theorem dz_E_tellOdds_10 : decode zm_E_tellOdds.2.1 10 = .ok (.iconst 0, 1) := by decide +kernel
theorem dz_E_tellOdds_11 : decode zm_E_tellOdds.2.1 11 = .ok (.ireturn, 1) := by decide +kernel
theorem dz_E_tellOdds_12 : decode zm_E_tellOdds.2.1 12 = .ok (.aload_n 1, 1) := by decide +kernel
theorem dz_E_tellOdds_13 : decode zm_E_tellOdds.2.1 13 = .ok (.getfield 102, 3) := by decide +kernel
theorem dz_E_tellOdds_16 : decode zm_E_tellOdds.2.1 16 = .ok (.istore_n 3, 1) := by decide +kernel
theorem dz_E_tellOdds_17 : decode zm_E_tellOdds.2.1 17 = .ok (.aload_n 0, 1) := by decide +kernel
theorem dz_E_tellOdds_18 : decode zm_E_tellOdds.2.1 18 = .ok (.getfield 21, 3) := by decide +kernel
theorem dz_E_tellOdds_21 : decode zm_E_tellOdds.2.1 21 = .ok (.iload_n 3, 1) := by decide +kernel
theorem dz_E_tellOdds_22 : decode zm_E_tellOdds.2.1 22 = .ok (.ishr, 1) := by decide +kernel
theorem dz_E_tellOdds_23 : decode zm_E_tellOdds.2.1 23 = .ok (.iconst 1, 1) := by decide +kernel
theorem dz_E_tellOdds_24 : decode zm_E_tellOdds.2.1 24 = .ok (.iand, 1) := by decide +kernel
theorem dz_E_tellOdds_25 : decode zm_E_tellOdds.2.1 25 = .ok (.ifCond .eq 13, 3) := by decide +kernel
theorem dz_E_tellOdds_28 : decode zm_E_tellOdds.2.1 28 = .ok (.aload_n 0, 1) := by decide +kernel
theorem dz_E_tellOdds_29 : decode zm_E_tellOdds.2.1 29 = .ok (.iconst 4, 1) := by decide +kernel
theorem dz_E_tellOdds_30 : decode zm_E_tellOdds.2.1 30 = .ok (.aload_n 1, 1) := by decide +kernel
theorem dz_E_tellOdds_31 : decode zm_E_tellOdds.2.1 31 = .ok (.getfield 99, 3) := by decide +kernel
theorem dz_E_tellOdds_34 : decode zm_E_tellOdds.2.1 34 = .ok (.invokevirtual 55, 3) := by decide +kernel
theorem dz_E_tellOdds_37 : decode zm_E_tellOdds.2.1 37 = .ok (.ireturn, 1) := by decide +kernel
theorem dz_E_tellOdds_38 : decode zm_E_tellOdds.2.1 38 = .ok (.aload_n 0, 1) := by decide +kernel
theorem dz_E_tellOdds_39 : decode zm_E_tellOdds.2.1 39 = .ok (.aload_n 1, 1) := by decide +kernel
theorem dz_E_tellOdds_40 : decode zm_E_tellOdds.2.1 40 = .ok (.iconst 0, 1) := by decide +kernel
theorem dz_E_tellOdds_41 : decode zm_E_tellOdds.2.1 41 = .ok (.bipush 10, 2) := by decide +kernel
theorem dz_E_tellOdds_43 : decode zm_E_tellOdds.2.1 43 = .ok (.invokevirtual 113, 3) := by decide +kernel
theorem dz_E_tellOdds_46 : decode zm_E_tellOdds.2.1 46 = .ok (.ifCond .ne 5, 3) := by decide +kernel
theorem dz_E_tellOdds_49 : decode zm_E_tellOdds.2.1 49 = .ok (.iconst 0, 1) := by decide +kernel
theorem dz_E_tellOdds_50 : decode zm_E_tellOdds.2.1 50 = .ok (.ireturn, 1) := by decide +kernel
theorem dz_E_tellOdds_51 : decode zm_E_tellOdds.2.1 51 = .ok (.iload_n 3, 1) := by decide +kernel
theorem dz_E_tellOdds_52 : decode zm_E_tellOdds.2.1 52 = .ok (.invokestatic 129, 3) := by decide +kernel
theorem dz_E_tellOdds_55 : decode zm_E_tellOdds.2.1 55 = .ok (.ifCond .eq 13, 3) := by decide +kernel
theorem dz_E_tellOdds_58 : decode zm_E_tellOdds.2.1 58 = .ok (.aload_n 2, 1) := by decide +kernel
theorem dz_E_tellOdds_59 : decode zm_E_tellOdds.2.1 59 = .ok (.getfield 132, 3) := by decide +kernel
theorem dz_E_tellOdds_62 : decode zm_E_tellOdds.2.1 62 = .ok (.iload_n 3, 1) := by decide +kernel
theorem dz_E_tellOdds_63 : decode zm_E_tellOdds.2.1 63 = .ok (.aload_n 1, 1) := by decide +kernel
theorem dz_E_tellOdds_64 : decode zm_E_tellOdds.2.1 64 = .ok (.getfield 102, 3) := by decide +kernel
theorem dz_E_tellOdds_67 : decode zm_E_tellOdds.2.1 67 = .ok (.iastore, 1) := by decide +kernel
theorem dz_E_tellOdds_68 : decode zm_E_tellOdds.2.1 68 = .ok (.aload_n 0, 1) := by decide +kernel
theorem dz_E_tellOdds_69 : decode zm_E_tellOdds.2.1 69 = .ok (.dup, 1) := by decide +kernel
theorem dz_E_tellOdds_70 : decode zm_E_tellOdds.2.1 70 = .ok (.getfield 21, 3) := by decide +kernel
theorem dz_E_tellOdds_73 : decode zm_E_tellOdds.2.1 73 = .ok (.iconst 1, 1) := by decide +kernel
theorem dz_E_tellOdds_74 : decode zm_E_tellOdds.2.1 74 = .ok (.iload_n 3, 1) := by decide +kernel
theorem dz_E_tellOdds_75 : decode zm_E_tellOdds.2.1 75 = .ok (.ishl, 1) := by decide +kernel
theorem dz_E_tellOdds_76 : decode zm_E_tellOdds.2.1 76 = .ok (.ior, 1) := by decide +kernel
theorem dz_E_tellOdds_77 : decode zm_E_tellOdds.2.1 77 = .ok (.putfield 21, 3) := by decide +kernel
theorem dz_E_tellOdds_80 : decode zm_E_tellOdds.2.1 80 = .ok (.aload_n 0, 1) := by decide +kernel
theorem dz_E_tellOdds_81 : decode zm_E_tellOdds.2.1 81 = .ok (.aload_n 1, 1) := by decide +kernel
theorem dz_E_tellOdds_82 : decode zm_E_tellOdds.2.1 82 = .ok (.invokevirtual 121, 3) := by decide +kernel
theorem dz_E_tellOdds_85 : decode zm_E_tellOdds.2.1 85 = .ok (.ireturn, 1) := by decide +kernel
theorem dz_E_tellRule_0 : decode zm_E_tellRule.2.1 0 = .ok (.aload_n 2, 1) := by decide +kernel
theorem dz_E_tellRule_1 : decode zm_E_tellRule.2.1 1 = .ok (.getfield 134, 3) := by decide +kernel
theorem dz_E_tellRule_4 : decode zm_E_tellRule.2.1 4 = .ok (.iconst 5, 1) := by decide +kernel
theorem dz_E_tellRule_5 : decode zm_E_tellRule.2.1 5 = .ok (.if_icmp .lt 13, 3) := by decide +kernel
theorem dz_E_tellRule_8 : decode zm_E_tellRule.2.1 8 = .ok (.aload_n 0, 1) := by decide +kernel
theorem dz_E_tellRule_9 : decode zm_E_tellRule.2.1 9 = .ok (.iconst 5, 1) := by decide +kernel
theorem dz_E_tellRule_10 : decode zm_E_tellRule.2.1 10 = .ok (.aload_n 1, 1) := by decide +kernel
theorem dz_E_tellRule_11 : decode zm_E_tellRule.2.1 11 = .ok (.getfield 99, 3) := by decide +kernel
theorem dz_E_tellRule_14 : decode zm_E_tellRule.2.1 14 = .ok (.invokevirtual 55, 3) := by decide +kernel
theorem dz_E_tellRule_17 : decode zm_E_tellRule.2.1 17 = .ok (.ireturn, 1) := by decide +kernel
theorem dz_E_tellRule_18 : decode zm_E_tellRule.2.1 18 = .ok (.aload_n 0, 1) := by decide +kernel
theorem dz_E_tellRule_19 : decode zm_E_tellRule.2.1 19 = .ok (.aload_n 1, 1) := by decide +kernel
theorem dz_E_tellRule_20 : decode zm_E_tellRule.2.1 20 = .ok (.iconst 1, 1) := by decide +kernel
theorem dz_E_tellRule_21 : decode zm_E_tellRule.2.1 21 = .ok (.bipush 9, 2) := by decide +kernel
theorem dz_E_tellRule_23 : decode zm_E_tellRule.2.1 23 = .ok (.invokevirtual 113, 3) := by decide +kernel
theorem dz_E_tellRule_26 : decode zm_E_tellRule.2.1 26 = .ok (.ifCond .ne 5, 3) := by decide +kernel
theorem dz_E_tellRule_29 : decode zm_E_tellRule.2.1 29 = .ok (.iconst 0, 1) := by decide +kernel
theorem dz_E_tellRule_30 : decode zm_E_tellRule.2.1 30 = .ok (.ireturn, 1) := by decide +kernel
theorem dz_E_tellRule_31 : decode zm_E_tellRule.2.1 31 = .ok (.aload_n 1, 1) := by decide +kernel
theorem dz_E_tellRule_32 : decode zm_E_tellRule.2.1 32 = .ok (.getfield 102, 3) := by decide +kernel
theorem dz_E_tellRule_35 : decode zm_E_tellRule.2.1 35 = .ok (.istore_n 3, 1) := by decide +kernel
theorem dz_E_tellRule_36 : decode zm_E_tellRule.2.1 36 = .ok (.aload_n 0, 1) := by decide +kernel
theorem dz_E_tellRule_37 : decode zm_E_tellRule.2.1 37 = .ok (.aload_n 1, 1) := by decide +kernel
theorem dz_E_tellRule_38 : decode zm_E_tellRule.2.1 38 = .ok (.iconst 0, 1) := by decide +kernel
theorem dz_E_tellRule_39 : decode zm_E_tellRule.2.1 39 = .ok (.iconst 3, 1) := by decide +kernel
theorem dz_E_tellRule_40 : decode zm_E_tellRule.2.1 40 = .ok (.invokevirtual 113, 3) := by decide +kernel
theorem dz_E_tellRule_43 : decode zm_E_tellRule.2.1 43 = .ok (.ifCond .ne 5, 3) := by decide +kernel
theorem dz_E_tellRule_46 : decode zm_E_tellRule.2.1 46 = .ok (.iconst 0, 1) := by decide +kernel
theorem dz_E_tellRule_47 : decode zm_E_tellRule.2.1 47 = .ok (.ireturn, 1) := by decide +kernel
theorem dz_E_tellRule_48 : decode zm_E_tellRule.2.1 48 = .ok (.aload_n 1, 1) := by decide +kernel
theorem dz_E_tellRule_49 : decode zm_E_tellRule.2.1 49 = .ok (.getfield 102, 3) := by decide +kernel
theorem dz_E_tellRule_52 : decode zm_E_tellRule.2.1 52 = .ok (.istore 4, 2) := by decide +kernel
theorem dz_E_tellRule_54 : decode zm_E_tellRule.2.1 54 = .ok (.aload_n 1, 1) := by decide +kernel
theorem dz_E_tellRule_55 : decode zm_E_tellRule.2.1 55 = .ok (.invokevirtual 34, 3) := by decide +kernel
theorem dz_E_tellRule_58 : decode zm_E_tellRule.2.1 58 = .ok (.aload_n 1, 1) := by decide +kernel
theorem dz_E_tellRule_59 : decode zm_E_tellRule.2.1 59 = .ok (.invokestatic 137, 3) := by decide +kernel
theorem dz_E_tellRule_62 : decode zm_E_tellRule.2.1 62 = .ok (.istore 5, 2) := by decide +kernel
theorem dz_E_tellRule_64 : decode zm_E_tellRule.2.1 64 = .ok (.iload 5, 2) := by decide +kernel
theorem dz_E_tellRule_66 : decode zm_E_tellRule.2.1 66 = .ok (.bipush (-4), 2) := by decide +kernel
theorem dz_E_tellRule_68 : decode zm_E_tellRule.2.1 68 = .ok (.if_icmp .ne 9, 3) := by decide +kernel
theorem dz_E_tellRule_71 : decode zm_E_tellRule.2.1 71 = .ok (.aload_n 0, 1) := by decide +kernel
theorem dz_E_tellRule_72 : decode zm_E_tellRule.2.1 72 = .ok (.aload_n 1, 1) := by decide +kernel
theorem dz_E_tellRule_73 : decode zm_E_tellRule.2.1 73 = .ok (.invokevirtual 92, 3) := by decide +kernel
theorem dz_E_tellRule_76 : decode zm_E_tellRule.2.1 76 = .ok (.ireturn, 1) := by decide +kernel
theorem dz_E_tellRule_77 : decode zm_E_tellRule.2.1 77 = .ok (.aload_n 0, 1) := by decide +kernel
theorem dz_E_tellRule_78 : decode zm_E_tellRule.2.1 78 = .ok (.aload_n 1, 1) := by decide +kernel
theorem dz_E_tellRule_79 : decode zm_E_tellRule.2.1 79 = .ok (.iload 5, 2) := by decide +kernel
theorem dz_E_tellRule_81 : decode zm_E_tellRule.2.1 81 = .ok (.iconst 1, 1) := by decide +kernel
theorem dz_E_tellRule_82 : decode zm_E_tellRule.2.1 82 = .ok (.if_icmp .ne 7, 3) := by decide +kernel
theorem dz_E_tellRule_85 : decode zm_E_tellRule.2.1 85 = .ok (.iconst 1, 1) := by decide +kernel
theorem dz_E_tellRule_86 : decode zm_E_tellRule.2.1 86 = .ok (.goto 4, 3) := by decide +kernel
theorem dz_E_tellRule_89 : decode zm_E_tellRule.2.1 89 = .ok (.iconst 0, 1) := by decide +kernel
theorem dz_E_tellRule_90 : decode zm_E_tellRule.2.1 90 = .ok (.iload 5, 2) := by decide +kernel
theorem dz_E_tellRule_92 : decode zm_E_tellRule.2.1 92 = .ok (.invokestatic 141, 3) := by decide +kernel
theorem dz_E_tellRule_95 : decode zm_E_tellRule.2.1 95 = .ok (.invokevirtual 113, 3) := by decide +kernel
theorem dz_E_tellRule_98 : decode zm_E_tellRule.2.1 98 = .ok (.ifCond .ne 5, 3) := by decide +kernel
theorem dz_E_tellRule_101 : decode zm_E_tellRule.2.1 101 = .ok (.iconst 0, 1) := by decide +kernel
theorem dz_E_tellRule_102 : decode zm_E_tellRule.2.1 102 = .ok (.ireturn, 1) := by decide +kernel
theorem dz_E_tellRule_103 : decode zm_E_tellRule.2.1 103 = .ok (.aload_n 1, 1) := by decide +kernel
theorem dz_E_tellRule_104 : decode zm_E_tellRule.2.1 104 = .ok (.getfield 102, 3) := by decide +kernel
theorem dz_E_tellRule_107 : decode zm_E_tellRule.2.1 107 = .ok (.istore 6, 2) := by decide +kernel
theorem dz_E_tellRule_109 : decode zm_E_tellRule.2.1 109 = .ok (.aload_n 1, 1) := by decide +kernel
theorem dz_E_tellRule_110 : decode zm_E_tellRule.2.1 110 = .ok (.invokevirtual 34, 3) := by decide +kernel
theorem dz_E_tellRule_113 : decode zm_E_tellRule.2.1 113 = .ok (.aload_n 1, 1) := by decide +kernel
theorem dz_E_tellRule_114 : decode zm_E_tellRule.2.1 114 = .ok (.invokestatic 145, 3) := by decide +kernel
theorem dz_E_tellRule_117 : decode zm_E_tellRule.2.1 117 = .ok (.istore 7, 2) := by decide +kernel
theorem dz_E_tellRule_119 : decode zm_E_tellRule.2.1 119 = .ok (.iload 7, 2) := by decide +kernel
theorem dz_E_tellRule_121 : decode zm_E_tellRule.2.1 121 = .ok (.bipush (-4), 2) := by decide +kernel
theorem dz_E_tellRule_123 : decode zm_E_tellRule.2.1 123 = .ok (.if_icmp .ne 9, 3) := by decide +kernel
theorem dz_E_tellRule_126 : decode zm_E_tellRule.2.1 126 = .ok (.aload_n 0, 1) := by decide +kernel
theorem dz_E_tellRule_127 : decode zm_E_tellRule.2.1 127 = .ok (.aload_n 1, 1) := by decide +kernel
theorem dz_E_tellRule_128 : decode zm_E_tellRule.2.1 128 = .ok (.invokevirtual 92, 3) := by decide +kernel
theorem dz_E_tellRule_131 : decode zm_E_tellRule.2.1 131 = .ok (.ireturn, 1) := by decide +kernel
theorem dz_E_tellRule_132 : decode zm_E_tellRule.2.1 132 = .ok (.aload_n 2, 1) := by decide +kernel
theorem dz_E_tellRule_133 : decode zm_E_tellRule.2.1 133 = .ok (.iload_n 3, 1) := by decide +kernel
theorem dz_E_tellRule_134 : decode zm_E_tellRule.2.1 134 = .ok (.iload 4, 2) := by decide +kernel
theorem dz_E_tellRule_136 : decode zm_E_tellRule.2.1 136 = .ok (.iload 5, 2) := by decide +kernel
theorem dz_E_tellRule_138 : decode zm_E_tellRule.2.1 138 = .ok (.iload 6, 2) := by decide +kernel
theorem dz_E_tellRule_140 : decode zm_E_tellRule.2.1 140 = .ok (.iload 7, 2) := by decide +kernel
theorem dz_E_tellRule_142 : decode zm_E_tellRule.2.1 142 = .ok (.invokevirtual 148, 3) := by decide +kernel
theorem dz_E_tellRule_145 : decode zm_E_tellRule.2.1 145 = .ok (.iload 5, 2) := by decide +kernel
theorem dz_E_tellRule_147 : decode zm_E_tellRule.2.1 147 = .ok (.iconst 4, 1) := by decide +kernel
theorem dz_E_tellRule_148 : decode zm_E_tellRule.2.1 148 = .ok (.if_icmp .ne 16, 3) := by decide +kernel
theorem dz_E_tellRule_151 : decode zm_E_tellRule.2.1 151 = .ok (.aload_n 0, 1) := by decide +kernel
theorem dz_E_tellRule_152 : decode zm_E_tellRule.2.1 152 = .ok (.dup, 1) := by decide +kernel
theorem dz_E_tellRule_153 : decode zm_E_tellRule.2.1 153 = .ok (.getfield 18, 3) := by decide +kernel
theorem dz_E_tellRule_156 : decode zm_E_tellRule.2.1 156 = .ok (.iconst 1, 1) := by decide +kernel
theorem dz_E_tellRule_157 : decode zm_E_tellRule.2.1 157 = .ok (.iload 6, 2) := by decide +kernel
theorem dz_E_tellRule_159 : decode zm_E_tellRule.2.1 159 = .ok (.ishl, 1) := by decide +kernel
theorem dz_E_tellRule_160 : decode zm_E_tellRule.2.1 160 = .ok (.ior, 1) := by decide +kernel
theorem dz_E_tellRule_161 : decode zm_E_tellRule.2.1 161 = .ok (.putfield 18, 3) := by decide +kernel
theorem dz_E_tellRule_164 : decode zm_E_tellRule.2.1 164 = .ok (.aload_n 0, 1) := by decide +kernel
theorem dz_E_tellRule_165 : decode zm_E_tellRule.2.1 165 = .ok (.aload_n 1, 1) := by decide +kernel
theorem dz_E_tellRule_166 : decode zm_E_tellRule.2.1 166 = .ok (.invokevirtual 121, 3) := by decide +kernel
theorem dz_E_tellRule_169 : decode zm_E_tellRule.2.1 169 = .ok (.ireturn, 1) := by decide +kernel
theorem dz_E_claimNamed_0 : decode zm_E_claimNamed.2.1 0 = .ok (.aload_n 0, 1) := by decide +kernel
theorem dz_E_claimNamed_1 : decode zm_E_claimNamed.2.1 1 = .ok (.ldc 152, 2) := by decide +kernel
theorem dz_E_claimNamed_3 : decode zm_E_claimNamed.2.1 3 = .ok (.invokevirtual 65, 3) := by decide +kernel
theorem dz_E_claimNamed_6 : decode zm_E_claimNamed.2.1 6 = .ok (.ifCond .eq 5, 3) := by decide +kernel
theorem dz_E_claimNamed_9 : decode zm_E_claimNamed.2.1 9 = .ok (.iconst 0, 1) := by decide +kernel
theorem dz_E_claimNamed_10 : decode zm_E_claimNamed.2.1 10 = .ok (.ireturn, 1) := by decide +kernel
theorem dz_E_claimNamed_11 : decode zm_E_claimNamed.2.1 11 = .ok (.aload_n 0, 1) := by decide +kernel
theorem dz_E_claimNamed_12 : decode zm_E_claimNamed.2.1 12 = .ok (.ldc 154, 2) := by decide +kernel
theorem dz_E_claimNamed_14 : decode zm_E_claimNamed.2.1 14 = .ok (.invokevirtual 65, 3) := by decide +kernel
theorem dz_E_claimNamed_17 : decode zm_E_claimNamed.2.1 17 = .ok (.ifCond .eq 5, 3) := by decide +kernel
theorem dz_E_claimNamed_20 : decode zm_E_claimNamed.2.1 20 = .ok (.iconst 1, 1) := by decide +kernel
theorem dz_E_claimNamed_21 : decode zm_E_claimNamed.2.1 21 = .ok (.ireturn, 1) := by decide +kernel
theorem dz_E_claimNamed_22 : decode zm_E_claimNamed.2.1 22 = .ok (.aload_n 0, 1) := by decide +kernel
theorem dz_E_claimNamed_23 : decode zm_E_claimNamed.2.1 23 = .ok (.ldc 72, 2) := by decide +kernel
theorem dz_E_claimNamed_25 : decode zm_E_claimNamed.2.1 25 = .ok (.invokevirtual 65, 3) := by decide +kernel
theorem dz_E_claimNamed_28 : decode zm_E_claimNamed.2.1 28 = .ok (.ifCond .eq 5, 3) := by decide +kernel
theorem dz_E_claimNamed_31 : decode zm_E_claimNamed.2.1 31 = .ok (.iconst 2, 1) := by decide +kernel
theorem dz_E_claimNamed_32 : decode zm_E_claimNamed.2.1 32 = .ok (.ireturn, 1) := by decide +kernel
theorem dz_E_claimNamed_33 : decode zm_E_claimNamed.2.1 33 = .ok (.aload_n 0, 1) := by decide +kernel
theorem dz_E_claimNamed_34 : decode zm_E_claimNamed.2.1 34 = .ok (.ldc 156, 2) := by decide +kernel
theorem dz_E_claimNamed_36 : decode zm_E_claimNamed.2.1 36 = .ok (.invokevirtual 65, 3) := by decide +kernel
theorem dz_E_claimNamed_39 : decode zm_E_claimNamed.2.1 39 = .ok (.ifCond .eq 5, 3) := by decide +kernel
theorem dz_E_claimNamed_42 : decode zm_E_claimNamed.2.1 42 = .ok (.iconst 3, 1) := by decide +kernel
theorem dz_E_claimNamed_43 : decode zm_E_claimNamed.2.1 43 = .ok (.ireturn, 1) := by decide +kernel
theorem dz_E_claimNamed_44 : decode zm_E_claimNamed.2.1 44 = .ok (.aload_n 0, 1) := by decide +kernel
theorem dz_E_claimNamed_45 : decode zm_E_claimNamed.2.1 45 = .ok (.ldc 158, 2) := by decide +kernel
theorem dz_E_claimNamed_47 : decode zm_E_claimNamed.2.1 47 = .ok (.invokevirtual 65, 3) := by decide +kernel
theorem dz_E_claimNamed_50 : decode zm_E_claimNamed.2.1 50 = .ok (.ifCond .eq 5, 3) := by decide +kernel
theorem dz_E_claimNamed_53 : decode zm_E_claimNamed.2.1 53 = .ok (.iconst 4, 1) := by decide +kernel
theorem dz_E_claimNamed_54 : decode zm_E_claimNamed.2.1 54 = .ok (.ireturn, 1) := by decide +kernel
theorem dz_E_claimNamed_55 : decode zm_E_claimNamed.2.1 55 = .ok (.aload_n 0, 1) := by decide +kernel
theorem dz_E_claimNamed_56 : decode zm_E_claimNamed.2.1 56 = .ok (.ldc 160, 2) := by decide +kernel
theorem dz_E_claimNamed_58 : decode zm_E_claimNamed.2.1 58 = .ok (.invokevirtual 65, 3) := by decide +kernel
theorem dz_E_claimNamed_61 : decode zm_E_claimNamed.2.1 61 = .ok (.ifCond .eq 7, 3) := by decide +kernel
theorem dz_E_claimNamed_64 : decode zm_E_claimNamed.2.1 64 = .ok (.iconst 5, 1) := by decide +kernel
theorem dz_E_claimNamed_65 : decode zm_E_claimNamed.2.1 65 = .ok (.goto 5, 3) := by decide +kernel
theorem dz_E_claimNamed_68 : decode zm_E_claimNamed.2.1 68 = .ok (.bipush (-4), 2) := by decide +kernel
theorem dz_E_claimNamed_70 : decode zm_E_claimNamed.2.1 70 = .ok (.ireturn, 1) := by decide +kernel
theorem dz_E_mostOf_0 : decode zm_E_mostOf.2.1 0 = .ok (.iload_n 0, 1) := by decide +kernel
theorem dz_E_mostOf_1 : decode zm_E_mostOf.2.1 1 = .ok (.tableswitch 41 0 3 #[31, 34, 37, 39], 31) := by decide +kernel
theorem dz_E_mostOf_32 : decode zm_E_mostOf.2.1 32 = .ok (.bipush 9, 2) := by decide +kernel
theorem dz_E_mostOf_34 : decode zm_E_mostOf.2.1 34 = .ok (.ireturn, 1) := by decide +kernel
theorem dz_E_mostOf_35 : decode zm_E_mostOf.2.1 35 = .ok (.bipush 6, 2) := by decide +kernel
theorem dz_E_mostOf_37 : decode zm_E_mostOf.2.1 37 = .ok (.ireturn, 1) := by decide +kernel
theorem dz_E_mostOf_38 : decode zm_E_mostOf.2.1 38 = .ok (.iconst 4, 1) := by decide +kernel
theorem dz_E_mostOf_39 : decode zm_E_mostOf.2.1 39 = .ok (.ireturn, 1) := by decide +kernel
theorem dz_E_mostOf_40 : decode zm_E_mostOf.2.1 40 = .ok (.iconst 3, 1) := by decide +kernel
theorem dz_E_mostOf_41 : decode zm_E_mostOf.2.1 41 = .ok (.ireturn, 1) := by decide +kernel
theorem dz_E_mostOf_42 : decode zm_E_mostOf.2.1 42 = .ok (.iconst 5, 1) := by decide +kernel
theorem dz_E_mostOf_43 : decode zm_E_mostOf.2.1 43 = .ok (.ireturn, 1) := by decide +kernel
theorem dz_E_pickNamed_0 : decode zm_E_pickNamed.2.1 0 = .ok (.aload_n 0, 1) := by decide +kernel
theorem dz_E_pickNamed_1 : decode zm_E_pickNamed.2.1 1 = .ok (.ldc 162, 2) := by decide +kernel
theorem dz_E_pickNamed_3 : decode zm_E_pickNamed.2.1 3 = .ok (.invokevirtual 65, 3) := by decide +kernel
theorem dz_E_pickNamed_6 : decode zm_E_pickNamed.2.1 6 = .ok (.ifCond .eq 5, 3) := by decide +kernel
theorem dz_E_pickNamed_9 : decode zm_E_pickNamed.2.1 9 = .ok (.iconst 0, 1) := by decide +kernel
theorem dz_E_pickNamed_10 : decode zm_E_pickNamed.2.1 10 = .ok (.ireturn, 1) := by decide +kernel
theorem dz_E_pickNamed_11 : decode zm_E_pickNamed.2.1 11 = .ok (.aload_n 0, 1) := by decide +kernel
theorem dz_E_pickNamed_12 : decode zm_E_pickNamed.2.1 12 = .ok (.ldc 164, 2) := by decide +kernel
theorem dz_E_pickNamed_14 : decode zm_E_pickNamed.2.1 14 = .ok (.invokevirtual 65, 3) := by decide +kernel
theorem dz_E_pickNamed_17 : decode zm_E_pickNamed.2.1 17 = .ok (.ifCond .eq 5, 3) := by decide +kernel
theorem dz_E_pickNamed_20 : decode zm_E_pickNamed.2.1 20 = .ok (.iconst 1, 1) := by decide +kernel
theorem dz_E_pickNamed_21 : decode zm_E_pickNamed.2.1 21 = .ok (.ireturn, 1) := by decide +kernel
theorem dz_E_pickNamed_22 : decode zm_E_pickNamed.2.1 22 = .ok (.aload_n 0, 1) := by decide +kernel
theorem dz_E_pickNamed_23 : decode zm_E_pickNamed.2.1 23 = .ok (.ldc 166, 2) := by decide +kernel
theorem dz_E_pickNamed_25 : decode zm_E_pickNamed.2.1 25 = .ok (.invokevirtual 65, 3) := by decide +kernel
theorem dz_E_pickNamed_28 : decode zm_E_pickNamed.2.1 28 = .ok (.ifCond .eq 7, 3) := by decide +kernel
theorem dz_E_pickNamed_31 : decode zm_E_pickNamed.2.1 31 = .ok (.iconst 2, 1) := by decide +kernel
theorem dz_E_pickNamed_32 : decode zm_E_pickNamed.2.1 32 = .ok (.goto 5, 3) := by decide +kernel
theorem dz_E_pickNamed_35 : decode zm_E_pickNamed.2.1 35 = .ok (.bipush (-4), 2) := by decide +kernel
theorem dz_E_pickNamed_37 : decode zm_E_pickNamed.2.1 37 = .ok (.ireturn, 1) := by decide +kernel
theorem dz_E_number_0 : decode zm_E_number.2.1 0 = .ok (.aload_n 1, 1) := by decide +kernel
theorem dz_E_number_1 : decode zm_E_number.2.1 1 = .ok (.invokevirtual 34, 3) := by decide +kernel
theorem dz_E_number_4 : decode zm_E_number.2.1 4 = .ok (.aload_n 1, 1) := by decide +kernel
theorem dz_E_number_5 : decode zm_E_number.2.1 5 = .ok (.getfield 37, 3) := by decide +kernel
theorem dz_E_number_8 : decode zm_E_number.2.1 8 = .ok (.iconst 2, 1) := by decide +kernel
theorem dz_E_number_9 : decode zm_E_number.2.1 9 = .ok (.if_icmp .eq 9, 3) := by decide +kernel
theorem dz_E_number_12 : decode zm_E_number.2.1 12 = .ok (.aload_n 0, 1) := by decide +kernel
theorem dz_E_number_13 : decode zm_E_number.2.1 13 = .ok (.aload_n 1, 1) := by decide +kernel
theorem dz_E_number_14 : decode zm_E_number.2.1 14 = .ok (.invokevirtual 92, 3) := by decide +kernel
theorem dz_E_number_17 : decode zm_E_number.2.1 17 = .ok (.ireturn, 1) := by decide +kernel
theorem dz_E_number_18 : decode zm_E_number.2.1 18 = .ok (.aload_n 1, 1) := by decide +kernel
theorem dz_E_number_19 : decode zm_E_number.2.1 19 = .ok (.getfield 102, 3) := by decide +kernel
theorem dz_E_number_22 : decode zm_E_number.2.1 22 = .ok (.iload_n 2, 1) := by decide +kernel
theorem dz_E_number_23 : decode zm_E_number.2.1 23 = .ok (.if_icmp .lt 11, 3) := by decide +kernel
theorem dz_E_number_26 : decode zm_E_number.2.1 26 = .ok (.aload_n 1, 1) := by decide +kernel
theorem dz_E_number_27 : decode zm_E_number.2.1 27 = .ok (.getfield 102, 3) := by decide +kernel
theorem dz_E_number_30 : decode zm_E_number.2.1 30 = .ok (.iload_n 3, 1) := by decide +kernel
theorem dz_E_number_31 : decode zm_E_number.2.1 31 = .ok (.if_icmp .le 15, 3) := by decide +kernel
theorem dz_E_number_34 : decode zm_E_number.2.1 34 = .ok (.aload_n 0, 1) := by decide +kernel
theorem dz_E_number_35 : decode zm_E_number.2.1 35 = .ok (.iconst 3, 1) := by decide +kernel
theorem dz_E_number_36 : decode zm_E_number.2.1 36 = .ok (.aload_n 1, 1) := by decide +kernel
theorem dz_E_number_37 : decode zm_E_number.2.1 37 = .ok (.getfield 99, 3) := by decide +kernel
theorem dz_E_number_40 : decode zm_E_number.2.1 40 = .ok (.invokevirtual 55, 3) := by decide +kernel
theorem dz_E_number_43 : decode zm_E_number.2.1 43 = .ok (.ifCond .eq 7, 3) := by decide +kernel
theorem dz_E_number_46 : decode zm_E_number.2.1 46 = .ok (.iconst 1, 1) := by decide +kernel
theorem dz_E_number_47 : decode zm_E_number.2.1 47 = .ok (.goto 4, 3) := by decide +kernel
theorem dz_E_number_50 : decode zm_E_number.2.1 50 = .ok (.iconst 0, 1) := by decide +kernel
theorem dz_E_number_51 : decode zm_E_number.2.1 51 = .ok (.ireturn, 1) := by decide +kernel
theorem dz_E_stop_0 : decode zm_E_stop.2.1 0 = .ok (.aload_n 1, 1) := by decide +kernel
theorem dz_E_stop_1 : decode zm_E_stop.2.1 1 = .ok (.invokevirtual 34, 3) := by decide +kernel
theorem dz_E_stop_4 : decode zm_E_stop.2.1 4 = .ok (.aload_n 1, 1) := by decide +kernel
theorem dz_E_stop_5 : decode zm_E_stop.2.1 5 = .ok (.getfield 37, 3) := by decide +kernel
theorem dz_E_stop_8 : decode zm_E_stop.2.1 8 = .ok (.iconst 3, 1) := by decide +kernel
theorem dz_E_stop_9 : decode zm_E_stop.2.1 9 = .ok (.if_icmp .eq 11, 3) := by decide +kernel
theorem dz_E_stop_12 : decode zm_E_stop.2.1 12 = .ok (.aload_n 0, 1) := by decide +kernel
theorem dz_E_stop_13 : decode zm_E_stop.2.1 13 = .ok (.aload_n 1, 1) := by decide +kernel
theorem dz_E_stop_14 : decode zm_E_stop.2.1 14 = .ok (.invokevirtual 92, 3) := by decide +kernel
theorem dz_E_stop_17 : decode zm_E_stop.2.1 17 = .ok (.ifCond .eq 7, 3) := by decide +kernel
theorem dz_E_stop_20 : decode zm_E_stop.2.1 20 = .ok (.iconst 1, 1) := by decide +kernel
theorem dz_E_stop_21 : decode zm_E_stop.2.1 21 = .ok (.goto 4, 3) := by decide +kernel
theorem dz_E_stop_24 : decode zm_E_stop.2.1 24 = .ok (.iconst 0, 1) := by decide +kernel
theorem dz_E_stop_25 : decode zm_E_stop.2.1 25 = .ok (.ireturn, 1) := by decide +kernel
theorem dz_E_misplaced_0 : decode zm_E_misplaced.2.1 0 = .ok (.aload_n 0, 1) := by decide +kernel
theorem dz_E_misplaced_1 : decode zm_E_misplaced.2.1 1 = .ok (.aload_n 1, 1) := by decide +kernel
theorem dz_E_misplaced_2 : decode zm_E_misplaced.2.1 2 = .ok (.getfield 37, 3) := by decide +kernel
theorem dz_E_misplaced_5 : decode zm_E_misplaced.2.1 5 = .ok (.iconst 4, 1) := by decide +kernel
theorem dz_E_misplaced_6 : decode zm_E_misplaced.2.1 6 = .ok (.if_icmp .ne 7, 3) := by decide +kernel
theorem dz_E_misplaced_9 : decode zm_E_misplaced.2.1 9 = .ok (.iconst 1, 1) := by decide +kernel
theorem dz_E_misplaced_10 : decode zm_E_misplaced.2.1 10 = .ok (.goto 4, 3) := by decide +kernel
theorem dz_E_misplaced_13 : decode zm_E_misplaced.2.1 13 = .ok (.iconst 2, 1) := by decide +kernel
theorem dz_E_misplaced_14 : decode zm_E_misplaced.2.1 14 = .ok (.aload_n 1, 1) := by decide +kernel
theorem dz_E_misplaced_15 : decode zm_E_misplaced.2.1 15 = .ok (.getfield 99, 3) := by decide +kernel
theorem dz_E_misplaced_18 : decode zm_E_misplaced.2.1 18 = .ok (.invokevirtual 55, 3) := by decide +kernel
theorem dz_E_misplaced_21 : decode zm_E_misplaced.2.1 21 = .ok (.ireturn, 1) := by decide +kernel
theorem dz_E_fail_0 : decode zm_E_fail.2.1 0 = .ok (.aload_n 0, 1) := by decide +kernel
theorem dz_E_fail_1 : decode zm_E_fail.2.1 1 = .ok (.iload_n 1, 1) := by decide +kernel
theorem dz_E_fail_2 : decode zm_E_fail.2.1 2 = .ok (.putfield 9, 3) := by decide +kernel
theorem dz_E_fail_5 : decode zm_E_fail.2.1 5 = .ok (.aload_n 0, 1) := by decide +kernel
theorem dz_E_fail_6 : decode zm_E_fail.2.1 6 = .ok (.iload_n 2, 1) := by decide +kernel
theorem dz_E_fail_7 : decode zm_E_fail.2.1 7 = .ok (.putfield 15, 3) := by decide +kernel
theorem dz_E_fail_10 : decode zm_E_fail.2.1 10 = .ok (.iconst 0, 1) := by decide +kernel
theorem dz_E_fail_11 : decode zm_E_fail.2.1 11 = .ok (.ireturn, 1) := by decide +kernel
