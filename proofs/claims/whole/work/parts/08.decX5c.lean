theorem dX5_days_100 : decode cX5_days 100 = .ok (.iload_n 2, 1) := by decide +kernel
theorem dX5_days_101 : decode cX5_days 101 = .ok (.iconst 0, 1) := by decide +kernel
theorem dX5_days_102 : decode cX5_days 102 = .ok (.aload_n 0, 1) := by decide +kernel
theorem dX5_days_103 : decode cX5_days 103 = .ok (.iload 4, 2) := by decide +kernel
theorem dX5_days_105 : decode cX5_days 105 = .ok (.iload 5, 2) := by decide +kernel
theorem dX5_days_107 : decode cX5_days 107 = .ok (.invokevirtual 86, 3) := by decide +kernel
theorem dX5_days_110 : decode cX5_days 110 = .ok (.invokestatic 147, 3) := by decide +kernel
theorem dX5_days_113 : decode cX5_days 113 = .ok (.iadd, 1) := by decide +kernel
theorem dX5_days_114 : decode cX5_days 114 = .ok (.istore_n 2, 1) := by decide +kernel
theorem dX5_days_115 : decode cX5_days 115 = .ok (.iload_n 2, 1) := by decide +kernel
theorem dX5_days_116 : decode cX5_days 116 = .ok (.aload_n 0, 1) := by decide +kernel
theorem dX5_days_117 : decode cX5_days 117 = .ok (.aload_n 0, 1) := by decide +kernel
theorem dX5_days_118 : decode cX5_days 118 = .ok (.bipush 8, 2) := by decide +kernel
theorem dX5_days_120 : decode cX5_days 120 = .ok (.invokevirtual 232, 3) := by decide +kernel
theorem dX5_days_123 : decode cX5_days 123 = .ok (.invokevirtual 170, 3) := by decide +kernel
theorem dX5_days_126 : decode cX5_days 126 = .ok (.iadd, 1) := by decide +kernel
theorem dX5_days_127 : decode cX5_days 127 = .ok (.istore_n 2, 1) := by decide +kernel
theorem dX5_days_128 : decode cX5_days 128 = .ok (.iinc 3 1, 3) := by decide +kernel
theorem dX5_days_131 : decode cX5_days 131 = .ok (.goto (-83), 3) := by decide +kernel
theorem dX5_days_134 : decode cX5_days 134 = .ok (.iload_n 2, 1) := by decide +kernel
theorem dX5_days_135 : decode cX5_days 135 = .ok (.ifCond .ge 7, 3) := by decide +kernel
theorem dX5_days_138 : decode cX5_days 138 = .ok (.iload_n 2, 1) := by decide +kernel
theorem dX5_days_139 : decode cX5_days 139 = .ok (.goto 13, 3) := by decide +kernel
theorem dX5_days_142 : decode cX5_days 142 = .ok (.aload_n 0, 1) := by decide +kernel
theorem dX5_days_143 : decode cX5_days 143 = .ok (.aload_n 0, 1) := by decide +kernel
theorem dX5_days_144 : decode cX5_days 144 = .ok (.iconst 2, 1) := by decide +kernel
theorem dX5_days_145 : decode cX5_days 145 = .ok (.invokevirtual 141, 3) := by decide +kernel
theorem dX5_days_148 : decode cX5_days 148 = .ok (.iconst 3, 1) := by decide +kernel
theorem dX5_days_149 : decode cX5_days 149 = .ok (.invokevirtual 144, 3) := by decide +kernel
theorem dX5_days_152 : decode cX5_days 152 = .ok (.ireturn, 1) := by decide +kernel
theorem dX5_seed_0 : decode cX5_seed 0 = .ok (.aload_n 0, 1) := by decide +kernel
theorem dX5_seed_1 : decode cX5_seed 1 = .ok (.iconst 5, 1) := by decide +kernel
theorem dX5_seed_2 : decode cX5_seed 2 = .ok (.iload_n 1, 1) := by decide +kernel
theorem dX5_seed_3 : decode cX5_seed 3 = .ok (.invokevirtual 129, 3) := by decide +kernel
theorem dX5_seed_6 : decode cX5_seed 6 = .ok (.ireturn, 1) := by decide +kernel
theorem dX5_feed_0 : decode cX5_feed 0 = .ok (.iload_n 2, 1) := by decide +kernel
theorem dX5_feed_1 : decode cX5_feed 1 = .ok (.iconst 1, 1) := by decide +kernel
theorem dX5_feed_2 : decode cX5_feed 2 = .ok (.iconst 4, 1) := by decide +kernel
theorem dX5_feed_3 : decode cX5_feed 3 = .ok (.invokestatic 78, 3) := by decide +kernel
theorem dX5_feed_6 : decode cX5_feed 6 = .ok (.ifCond .ne 10, 3) := by decide +kernel
theorem dX5_feed_9 : decode cX5_feed 9 = .ok (.aload_n 0, 1) := by decide +kernel
theorem dX5_feed_10 : decode cX5_feed 10 = .ok (.ldc 73, 2) := by decide +kernel
theorem dX5_feed_12 : decode cX5_feed 12 = .ok (.invokevirtual 93, 3) := by decide +kernel
theorem dX5_feed_15 : decode cX5_feed 15 = .ok (.ireturn, 1) := by decide +kernel
theorem dX5_feed_16 : decode cX5_feed 16 = .ok (.aload_n 0, 1) := by decide +kernel
theorem dX5_feed_17 : decode cX5_feed 17 = .ok (.getfield 235, 3) := by decide +kernel
theorem dX5_feed_20 : decode cX5_feed 20 = .ok (.iload_n 2, 1) := by decide +kernel
theorem dX5_feed_21 : decode cX5_feed 21 = .ok (.iadd, 1) := by decide +kernel
theorem dX5_feed_22 : decode cX5_feed 22 = .ok (.bipush 120, 2) := by decide +kernel
theorem dX5_feed_24 : decode cX5_feed 24 = .ok (.if_icmp .le 10, 3) := by decide +kernel
theorem dX5_feed_27 : decode cX5_feed 27 = .ok (.aload_n 0, 1) := by decide +kernel
theorem dX5_feed_28 : decode cX5_feed 28 = .ok (.ldc 97, 2) := by decide +kernel
theorem dX5_feed_30 : decode cX5_feed 30 = .ok (.invokevirtual 93, 3) := by decide +kernel
theorem dX5_feed_33 : decode cX5_feed 33 = .ok (.ireturn, 1) := by decide +kernel
theorem dX5_feed_34 : decode cX5_feed 34 = .ok (.iload_n 2, 1) := by decide +kernel
theorem dX5_feed_35 : decode cX5_feed 35 = .ok (.iconst 1, 1) := by decide +kernel
theorem dX5_feed_36 : decode cX5_feed 36 = .ok (.isub, 1) := by decide +kernel
theorem dX5_feed_37 : decode cX5_feed 37 = .ok (.istore_n 3, 1) := by decide +kernel
theorem dX5_feed_38 : decode cX5_feed 38 = .ok (.iload_n 3, 1) := by decide +kernel
theorem dX5_feed_39 : decode cX5_feed 39 = .ok (.ifCond .lt 38, 3) := by decide +kernel
theorem dX5_feed_42 : decode cX5_feed 42 = .ok (.aload_n 0, 1) := by decide +kernel
theorem dX5_feed_43 : decode cX5_feed 43 = .ok (.getfield 32, 3) := by decide +kernel
theorem dX5_feed_46 : decode cX5_feed 46 = .ok (.aload_n 0, 1) := by decide +kernel
theorem dX5_feed_47 : decode cX5_feed 47 = .ok (.getfield 235, 3) := by decide +kernel
theorem dX5_feed_50 : decode cX5_feed 50 = .ok (.iload_n 1, 1) := by decide +kernel
theorem dX5_feed_51 : decode cX5_feed 51 = .ok (.bipush 8, 2) := by decide +kernel
theorem dX5_feed_53 : decode cX5_feed 53 = .ok (.iload_n 3, 1) := by decide +kernel
theorem dX5_feed_54 : decode cX5_feed 54 = .ok (.imul, 1) := by decide +kernel
theorem dX5_feed_55 : decode cX5_feed 55 = .ok (.ishr, 1) := by decide +kernel
theorem dX5_feed_56 : decode cX5_feed 56 = .ok (.sipush 255, 3) := by decide +kernel
theorem dX5_feed_59 : decode cX5_feed 59 = .ok (.iand, 1) := by decide +kernel
theorem dX5_feed_60 : decode cX5_feed 60 = .ok (.iastore, 1) := by decide +kernel
theorem dX5_feed_61 : decode cX5_feed 61 = .ok (.aload_n 0, 1) := by decide +kernel
theorem dX5_feed_62 : decode cX5_feed 62 = .ok (.dup, 1) := by decide +kernel
theorem dX5_feed_63 : decode cX5_feed 63 = .ok (.getfield 235, 3) := by decide +kernel
theorem dX5_feed_66 : decode cX5_feed 66 = .ok (.iconst 1, 1) := by decide +kernel
theorem dX5_feed_67 : decode cX5_feed 67 = .ok (.iadd, 1) := by decide +kernel
theorem dX5_feed_68 : decode cX5_feed 68 = .ok (.putfield 235, 3) := by decide +kernel
theorem dX5_feed_71 : decode cX5_feed 71 = .ok (.iinc 3 (-1), 3) := by decide +kernel
theorem dX5_feed_74 : decode cX5_feed 74 = .ok (.goto (-36), 3) := by decide +kernel
theorem dX5_feed_77 : decode cX5_feed 77 = .ok (.aload_n 0, 1) := by decide +kernel
theorem dX5_feed_78 : decode cX5_feed 78 = .ok (.getfield 235, 3) := by decide +kernel
theorem dX5_feed_81 : decode cX5_feed 81 = .ok (.ireturn, 1) := by decide +kernel
theorem dX5_wipe_0 : decode cX5_wipe 0 = .ok (.aload_n 0, 1) := by decide +kernel
theorem dX5_wipe_1 : decode cX5_wipe 1 = .ok (.getfield 235, 3) := by decide +kernel
theorem dX5_wipe_4 : decode cX5_wipe 4 = .ok (.istore_n 1, 1) := by decide +kernel
theorem dX5_wipe_5 : decode cX5_wipe 5 = .ok (.aload_n 0, 1) := by decide +kernel
theorem dX5_wipe_6 : decode cX5_wipe 6 = .ok (.iconst 0, 1) := by decide +kernel
theorem dX5_wipe_7 : decode cX5_wipe 7 = .ok (.putfield 235, 3) := by decide +kernel
theorem dX5_wipe_10 : decode cX5_wipe 10 = .ok (.iload_n 1, 1) := by decide +kernel
theorem dX5_wipe_11 : decode cX5_wipe 11 = .ok (.ireturn, 1) := by decide +kernel
theorem dX5_byteAt_0 : decode cX5_byteAt 0 = .ok (.iload_n 1, 1) := by decide +kernel
theorem dX5_byteAt_1 : decode cX5_byteAt 1 = .ok (.aload_n 0, 1) := by decide +kernel
theorem dX5_byteAt_2 : decode cX5_byteAt 2 = .ok (.getfield 235, 3) := by decide +kernel
theorem dX5_byteAt_5 : decode cX5_byteAt 5 = .ok (.if_icmp .ge 12, 3) := by decide +kernel
theorem dX5_byteAt_8 : decode cX5_byteAt 8 = .ok (.aload_n 0, 1) := by decide +kernel
theorem dX5_byteAt_9 : decode cX5_byteAt 9 = .ok (.getfield 32, 3) := by decide +kernel
theorem dX5_byteAt_12 : decode cX5_byteAt 12 = .ok (.iload_n 1, 1) := by decide +kernel
theorem dX5_byteAt_13 : decode cX5_byteAt 13 = .ok (.iaload, 1) := by decide +kernel
theorem dX5_byteAt_14 : decode cX5_byteAt 14 = .ok (.goto 4, 3) := by decide +kernel
theorem dX5_byteAt_17 : decode cX5_byteAt 17 = .ok (.iconst (-1), 1) := by decide +kernel
theorem dX5_byteAt_18 : decode cX5_byteAt 18 = .ok (.ireturn, 1) := by decide +kernel
theorem dX5_next_0 : decode cX5_next 0 = .ok (.aload_n 0, 1) := by decide +kernel
theorem dX5_next_1 : decode cX5_next 1 = .ok (.aload_n 0, 1) := by decide +kernel
theorem dX5_next_2 : decode cX5_next 2 = .ok (.getfield 238, 3) := by decide +kernel
theorem dX5_next_5 : decode cX5_next 5 = .ok (.putfield 241, 3) := by decide +kernel
theorem dX5_next_8 : decode cX5_next 8 = .ok (.aload_n 0, 1) := by decide +kernel
theorem dX5_next_9 : decode cX5_next 9 = .ok (.aload_n 0, 1) := by decide +kernel
theorem dX5_next_10 : decode cX5_next 10 = .ok (.getfield 241, 3) := by decide +kernel
theorem dX5_next_13 : decode cX5_next 13 = .ok (.invokevirtual 244, 3) := by decide +kernel
theorem dX5_next_16 : decode cX5_next 16 = .ok (.bipush 32, 2) := by decide +kernel
theorem dX5_next_18 : decode cX5_next 18 = .ok (.if_icmp .ne 16, 3) := by decide +kernel
theorem dX5_next_21 : decode cX5_next 21 = .ok (.aload_n 0, 1) := by decide +kernel
theorem dX5_next_22 : decode cX5_next 22 = .ok (.dup, 1) := by decide +kernel
theorem dX5_next_23 : decode cX5_next 23 = .ok (.getfield 241, 3) := by decide +kernel
theorem dX5_next_26 : decode cX5_next 26 = .ok (.iconst 1, 1) := by decide +kernel
theorem dX5_next_27 : decode cX5_next 27 = .ok (.iadd, 1) := by decide +kernel
theorem dX5_next_28 : decode cX5_next 28 = .ok (.putfield 241, 3) := by decide +kernel
theorem dX5_next_31 : decode cX5_next 31 = .ok (.goto (-23), 3) := by decide +kernel
theorem dX5_next_34 : decode cX5_next 34 = .ok (.aload_n 0, 1) := by decide +kernel
theorem dX5_next_35 : decode cX5_next 35 = .ok (.aload_n 0, 1) := by decide +kernel
theorem dX5_next_36 : decode cX5_next 36 = .ok (.getfield 241, 3) := by decide +kernel
theorem dX5_next_39 : decode cX5_next 39 = .ok (.invokevirtual 244, 3) := by decide +kernel
theorem dX5_next_42 : decode cX5_next 42 = .ok (.istore_n 1, 1) := by decide +kernel
theorem dX5_next_43 : decode cX5_next 43 = .ok (.aload_n 0, 1) := by decide +kernel
theorem dX5_next_44 : decode cX5_next 44 = .ok (.aload_n 0, 1) := by decide +kernel
theorem dX5_next_45 : decode cX5_next 45 = .ok (.getfield 241, 3) := by decide +kernel
theorem dX5_next_48 : decode cX5_next 48 = .ok (.putfield 238, 3) := by decide +kernel
theorem dX5_next_51 : decode cX5_next 51 = .ok (.aload_n 0, 1) := by decide +kernel
theorem dX5_next_52 : decode cX5_next 52 = .ok (.iconst 0, 1) := by decide +kernel
theorem dX5_next_53 : decode cX5_next 53 = .ok (.putfield 247, 3) := by decide +kernel
theorem dX5_next_56 : decode cX5_next 56 = .ok (.iload_n 1, 1) := by decide +kernel
theorem dX5_next_57 : decode cX5_next 57 = .ok (.ifCond .ge 11, 3) := by decide +kernel
theorem dX5_next_60 : decode cX5_next 60 = .ok (.aload_n 0, 1) := by decide +kernel
theorem dX5_next_61 : decode cX5_next 61 = .ok (.iconst 0, 1) := by decide +kernel
theorem dX5_next_62 : decode cX5_next 62 = .ok (.putfield 250, 3) := by decide +kernel
theorem dX5_next_65 : decode cX5_next 65 = .ok (.goto 141, 3) := by decide +kernel
theorem dX5_next_68 : decode cX5_next 68 = .ok (.iload_n 1, 1) := by decide +kernel
theorem dX5_next_69 : decode cX5_next 69 = .ok (.bipush 97, 2) := by decide +kernel
theorem dX5_next_71 : decode cX5_next 71 = .ok (.bipush 122, 2) := by decide +kernel
theorem dX5_next_73 : decode cX5_next 73 = .ok (.invokestatic 78, 3) := by decide +kernel
theorem dX5_next_76 : decode cX5_next 76 = .ok (.ifCond .eq 39, 3) := by decide +kernel
theorem dX5_next_79 : decode cX5_next 79 = .ok (.aload_n 0, 1) := by decide +kernel
theorem dX5_next_80 : decode cX5_next 80 = .ok (.iconst 1, 1) := by decide +kernel
theorem dX5_next_81 : decode cX5_next 81 = .ok (.putfield 250, 3) := by decide +kernel
theorem dX5_next_84 : decode cX5_next 84 = .ok (.aload_n 0, 1) := by decide +kernel
theorem dX5_next_85 : decode cX5_next 85 = .ok (.aload_n 0, 1) := by decide +kernel
theorem dX5_next_86 : decode cX5_next 86 = .ok (.getfield 238, 3) := by decide +kernel
theorem dX5_next_89 : decode cX5_next 89 = .ok (.invokevirtual 244, 3) := by decide +kernel
theorem dX5_next_92 : decode cX5_next 92 = .ok (.bipush 97, 2) := by decide +kernel
theorem dX5_next_94 : decode cX5_next 94 = .ok (.bipush 122, 2) := by decide +kernel
theorem dX5_next_96 : decode cX5_next 96 = .ok (.invokestatic 78, 3) := by decide +kernel
theorem dX5_next_99 : decode cX5_next 99 = .ok (.ifCond .eq 107, 3) := by decide +kernel
theorem dX5_next_102 : decode cX5_next 102 = .ok (.aload_n 0, 1) := by decide +kernel
theorem dX5_next_103 : decode cX5_next 103 = .ok (.dup, 1) := by decide +kernel
theorem dX5_next_104 : decode cX5_next 104 = .ok (.getfield 238, 3) := by decide +kernel
theorem dX5_next_107 : decode cX5_next 107 = .ok (.iconst 1, 1) := by decide +kernel
theorem dX5_next_108 : decode cX5_next 108 = .ok (.iadd, 1) := by decide +kernel
theorem dX5_next_109 : decode cX5_next 109 = .ok (.putfield 238, 3) := by decide +kernel
theorem dX5_next_112 : decode cX5_next 112 = .ok (.goto (-28), 3) := by decide +kernel
theorem dX5_next_115 : decode cX5_next 115 = .ok (.iload_n 1, 1) := by decide +kernel
theorem dX5_next_116 : decode cX5_next 116 = .ok (.bipush 48, 2) := by decide +kernel
theorem dX5_next_118 : decode cX5_next 118 = .ok (.bipush 57, 2) := by decide +kernel
theorem dX5_next_120 : decode cX5_next 120 = .ok (.invokestatic 78, 3) := by decide +kernel
theorem dX5_next_123 : decode cX5_next 123 = .ok (.ifCond .eq 68, 3) := by decide +kernel
theorem dX5_next_126 : decode cX5_next 126 = .ok (.aload_n 0, 1) := by decide +kernel
theorem dX5_next_127 : decode cX5_next 127 = .ok (.iconst 2, 1) := by decide +kernel
theorem dX5_next_128 : decode cX5_next 128 = .ok (.putfield 250, 3) := by decide +kernel
theorem dX5_next_131 : decode cX5_next 131 = .ok (.aload_n 0, 1) := by decide +kernel
theorem dX5_next_132 : decode cX5_next 132 = .ok (.aload_n 0, 1) := by decide +kernel
theorem dX5_next_133 : decode cX5_next 133 = .ok (.getfield 238, 3) := by decide +kernel
theorem dX5_next_136 : decode cX5_next 136 = .ok (.invokevirtual 244, 3) := by decide +kernel
theorem dX5_next_139 : decode cX5_next 139 = .ok (.bipush 48, 2) := by decide +kernel
theorem dX5_next_141 : decode cX5_next 141 = .ok (.bipush 57, 2) := by decide +kernel
theorem dX5_next_143 : decode cX5_next 143 = .ok (.invokestatic 78, 3) := by decide +kernel
theorem dX5_next_146 : decode cX5_next 146 = .ok (.ifCond .eq 60, 3) := by decide +kernel
theorem dX5_next_149 : decode cX5_next 149 = .ok (.aload_n 0, 1) := by decide +kernel
theorem dX5_next_150 : decode cX5_next 150 = .ok (.sipush 1000, 3) := by decide +kernel
theorem dX5_next_153 : decode cX5_next 153 = .ok (.bipush 10, 2) := by decide +kernel
theorem dX5_next_155 : decode cX5_next 155 = .ok (.aload_n 0, 1) := by decide +kernel
theorem dX5_next_156 : decode cX5_next 156 = .ok (.getfield 247, 3) := by decide +kernel
theorem dX5_next_159 : decode cX5_next 159 = .ok (.imul, 1) := by decide +kernel
theorem dX5_next_160 : decode cX5_next 160 = .ok (.aload_n 0, 1) := by decide +kernel
theorem dX5_next_161 : decode cX5_next 161 = .ok (.aload_n 0, 1) := by decide +kernel
theorem dX5_next_162 : decode cX5_next 162 = .ok (.getfield 238, 3) := by decide +kernel
theorem dX5_next_165 : decode cX5_next 165 = .ok (.invokevirtual 244, 3) := by decide +kernel
theorem dX5_next_168 : decode cX5_next 168 = .ok (.iadd, 1) := by decide +kernel
theorem dX5_next_169 : decode cX5_next 169 = .ok (.bipush 48, 2) := by decide +kernel
theorem dX5_next_171 : decode cX5_next 171 = .ok (.isub, 1) := by decide +kernel
theorem dX5_next_172 : decode cX5_next 172 = .ok (.invokestatic 147, 3) := by decide +kernel
theorem dX5_next_175 : decode cX5_next 175 = .ok (.putfield 247, 3) := by decide +kernel
theorem dX5_next_178 : decode cX5_next 178 = .ok (.aload_n 0, 1) := by decide +kernel
theorem dX5_next_179 : decode cX5_next 179 = .ok (.dup, 1) := by decide +kernel
theorem dX5_next_180 : decode cX5_next 180 = .ok (.getfield 238, 3) := by decide +kernel
theorem dX5_next_183 : decode cX5_next 183 = .ok (.iconst 1, 1) := by decide +kernel
theorem dX5_next_184 : decode cX5_next 184 = .ok (.iadd, 1) := by decide +kernel
theorem dX5_next_185 : decode cX5_next 185 = .ok (.putfield 238, 3) := by decide +kernel
theorem dX5_next_188 : decode cX5_next 188 = .ok (.goto (-57), 3) := by decide +kernel
theorem dX5_next_191 : decode cX5_next 191 = .ok (.aload_n 0, 1) := by decide +kernel
theorem dX5_next_192 : decode cX5_next 192 = .ok (.iconst 3, 1) := by decide +kernel
theorem dX5_next_193 : decode cX5_next 193 = .ok (.putfield 250, 3) := by decide +kernel
theorem dX5_next_196 : decode cX5_next 196 = .ok (.aload_n 0, 1) := by decide +kernel
theorem dX5_next_197 : decode cX5_next 197 = .ok (.dup, 1) := by decide +kernel
theorem dX5_next_198 : decode cX5_next 198 = .ok (.getfield 238, 3) := by decide +kernel
theorem dX5_next_201 : decode cX5_next 201 = .ok (.iconst 1, 1) := by decide +kernel
theorem dX5_next_202 : decode cX5_next 202 = .ok (.iadd, 1) := by decide +kernel
theorem dX5_next_203 : decode cX5_next 203 = .ok (.putfield 238, 3) := by decide +kernel
theorem dX5_next_206 : decode cX5_next 206 = .ok (.return_, 1) := by decide +kernel
theorem dX5_isWord_0 : decode cX5_isWord 0 = .ok (.aload_n 0, 1) := by decide +kernel
theorem dX5_isWord_1 : decode cX5_isWord 1 = .ok (.getfield 250, 3) := by decide +kernel
theorem dX5_isWord_4 : decode cX5_isWord 4 = .ok (.iconst 1, 1) := by decide +kernel
theorem dX5_isWord_5 : decode cX5_isWord 5 = .ok (.if_icmp .ne 23, 3) := by decide +kernel
theorem dX5_isWord_8 : decode cX5_isWord 8 = .ok (.aload_n 0, 1) := by decide +kernel
theorem dX5_isWord_9 : decode cX5_isWord 9 = .ok (.getfield 238, 3) := by decide +kernel
theorem dX5_isWord_12 : decode cX5_isWord 12 = .ok (.aload_n 0, 1) := by decide +kernel
theorem dX5_isWord_13 : decode cX5_isWord 13 = .ok (.getfield 241, 3) := by decide +kernel
theorem dX5_isWord_16 : decode cX5_isWord 16 = .ok (.isub, 1) := by decide +kernel
theorem dX5_isWord_17 : decode cX5_isWord 17 = .ok (.aload_n 1, 1) := by decide +kernel
theorem dX5_isWord_18 : decode cX5_isWord 18 = .ok (.invokevirtual 253, 3) := by decide +kernel
theorem dX5_isWord_21 : decode cX5_isWord 21 = .ok (.if_icmp .ne 7, 3) := by decide +kernel
theorem dX5_isWord_24 : decode cX5_isWord 24 = .ok (.iconst 1, 1) := by decide +kernel
theorem dX5_isWord_25 : decode cX5_isWord 25 = .ok (.goto 4, 3) := by decide +kernel
theorem dX5_isWord_28 : decode cX5_isWord 28 = .ok (.iconst 0, 1) := by decide +kernel
theorem dX5_isWord_29 : decode cX5_isWord 29 = .ok (.istore_n 2, 1) := by decide +kernel
theorem dX5_isWord_30 : decode cX5_isWord 30 = .ok (.iconst 0, 1) := by decide +kernel
theorem dX5_isWord_31 : decode cX5_isWord 31 = .ok (.istore_n 3, 1) := by decide +kernel
theorem dX5_isWord_32 : decode cX5_isWord 32 = .ok (.iload_n 3, 1) := by decide +kernel
theorem dX5_isWord_33 : decode cX5_isWord 33 = .ok (.aload_n 1, 1) := by decide +kernel
theorem dX5_isWord_34 : decode cX5_isWord 34 = .ok (.invokevirtual 253, 3) := by decide +kernel
theorem dX5_isWord_37 : decode cX5_isWord 37 = .ok (.if_icmp .ge 38, 3) := by decide +kernel
theorem dX5_isWord_40 : decode cX5_isWord 40 = .ok (.iload_n 2, 1) := by decide +kernel
theorem dX5_isWord_41 : decode cX5_isWord 41 = .ok (.ifCond .eq 34, 3) := by decide +kernel
theorem dX5_isWord_44 : decode cX5_isWord 44 = .ok (.aload_n 0, 1) := by decide +kernel
theorem dX5_isWord_45 : decode cX5_isWord 45 = .ok (.getfield 32, 3) := by decide +kernel
theorem dX5_isWord_48 : decode cX5_isWord 48 = .ok (.aload_n 0, 1) := by decide +kernel
theorem dX5_isWord_49 : decode cX5_isWord 49 = .ok (.getfield 241, 3) := by decide +kernel
theorem dX5_isWord_52 : decode cX5_isWord 52 = .ok (.iload_n 3, 1) := by decide +kernel
theorem dX5_isWord_53 : decode cX5_isWord 53 = .ok (.iadd, 1) := by decide +kernel
theorem dX5_isWord_54 : decode cX5_isWord 54 = .ok (.iaload, 1) := by decide +kernel
theorem dX5_isWord_55 : decode cX5_isWord 55 = .ok (.aload_n 1, 1) := by decide +kernel
theorem dX5_isWord_56 : decode cX5_isWord 56 = .ok (.iload_n 3, 1) := by decide +kernel
theorem dX5_isWord_57 : decode cX5_isWord 57 = .ok (.invokevirtual 256, 3) := by decide +kernel
theorem dX5_isWord_60 : decode cX5_isWord 60 = .ok (.if_icmp .ne 7, 3) := by decide +kernel
theorem dX5_isWord_63 : decode cX5_isWord 63 = .ok (.iconst 1, 1) := by decide +kernel
theorem dX5_isWord_64 : decode cX5_isWord 64 = .ok (.goto 4, 3) := by decide +kernel
theorem dX5_isWord_67 : decode cX5_isWord 67 = .ok (.iconst 0, 1) := by decide +kernel
theorem dX5_isWord_68 : decode cX5_isWord 68 = .ok (.istore_n 2, 1) := by decide +kernel
theorem dX5_isWord_69 : decode cX5_isWord 69 = .ok (.iinc 3 1, 3) := by decide +kernel
theorem dX5_isWord_72 : decode cX5_isWord 72 = .ok (.goto (-40), 3) := by decide +kernel
theorem dX5_isWord_75 : decode cX5_isWord 75 = .ok (.iload_n 2, 1) := by decide +kernel
theorem dX5_isWord_76 : decode cX5_isWord 76 = .ok (.ireturn, 1) := by decide +kernel
theorem dX5_must_0 : decode cX5_must 0 = .ok (.aload_n 0, 1) := by decide +kernel
theorem dX5_must_1 : decode cX5_must 1 = .ok (.aload_n 0, 1) := by decide +kernel
theorem dX5_must_2 : decode cX5_must 2 = .ok (.getfield 260, 3) := by decide +kernel
theorem dX5_must_5 : decode cX5_must 5 = .ok (.ifCond .ne 7, 3) := by decide +kernel
theorem dX5_must_8 : decode cX5_must 8 = .ok (.iload_n 1, 1) := by decide +kernel
theorem dX5_must_9 : decode cX5_must 9 = .ok (.ifCond .ne 7, 3) := by decide +kernel
theorem dX5_must_12 : decode cX5_must 12 = .ok (.iconst 1, 1) := by decide +kernel
theorem dX5_must_13 : decode cX5_must 13 = .ok (.goto 4, 3) := by decide +kernel
theorem dX5_must_16 : decode cX5_must 16 = .ok (.iconst 0, 1) := by decide +kernel
theorem dX5_must_17 : decode cX5_must 17 = .ok (.putfield 260, 3) := by decide +kernel
theorem dX5_must_20 : decode cX5_must 20 = .ok (.aload_n 0, 1) := by decide +kernel
theorem dX5_must_21 : decode cX5_must 21 = .ok (.getfield 260, 3) := by decide +kernel
theorem dX5_must_24 : decode cX5_must 24 = .ok (.ifCond .ne 7, 3) := by decide +kernel
theorem dX5_must_27 : decode cX5_must 27 = .ok (.aload_n 0, 1) := by decide +kernel
theorem dX5_must_28 : decode cX5_must 28 = .ok (.invokevirtual 264, 3) := by decide +kernel
theorem dX5_must_31 : decode cX5_must 31 = .ok (.return_, 1) := by decide +kernel
theorem dX5_number_0 : decode cX5_number 0 = .ok (.aload_n 0, 1) := by decide +kernel
theorem dX5_number_1 : decode cX5_number 1 = .ok (.getfield 247, 3) := by decide +kernel
theorem dX5_number_4 : decode cX5_number 4 = .ok (.istore_n 3, 1) := by decide +kernel
theorem dX5_number_5 : decode cX5_number 5 = .ok (.aload_n 0, 1) := by decide +kernel
theorem dX5_number_6 : decode cX5_number 6 = .ok (.aload_n 0, 1) := by decide +kernel
theorem dX5_number_7 : decode cX5_number 7 = .ok (.getfield 250, 3) := by decide +kernel
theorem dX5_number_10 : decode cX5_number 10 = .ok (.iconst 2, 1) := by decide +kernel
theorem dX5_number_11 : decode cX5_number 11 = .ok (.if_icmp .ne 16, 3) := by decide +kernel
theorem dX5_number_14 : decode cX5_number 14 = .ok (.iload_n 3, 1) := by decide +kernel
theorem dX5_number_15 : decode cX5_number 15 = .ok (.iload_n 1, 1) := by decide +kernel
theorem dX5_number_16 : decode cX5_number 16 = .ok (.iload_n 2, 1) := by decide +kernel
theorem dX5_number_17 : decode cX5_number 17 = .ok (.invokestatic 78, 3) := by decide +kernel
theorem dX5_number_20 : decode cX5_number 20 = .ok (.ifCond .eq 7, 3) := by decide +kernel
theorem dX5_number_23 : decode cX5_number 23 = .ok (.iconst 1, 1) := by decide +kernel
theorem dX5_number_24 : decode cX5_number 24 = .ok (.goto 4, 3) := by decide +kernel
theorem dX5_number_27 : decode cX5_number 27 = .ok (.iconst 0, 1) := by decide +kernel
theorem dX5_number_28 : decode cX5_number 28 = .ok (.invokevirtual 267, 3) := by decide +kernel
theorem dX5_number_31 : decode cX5_number 31 = .ok (.iload_n 3, 1) := by decide +kernel
theorem dX5_number_32 : decode cX5_number 32 = .ok (.ireturn, 1) := by decide +kernel
theorem dX5_item_0 : decode cX5_item 0 = .ok (.iconst 5, 1) := by decide +kernel
theorem dX5_item_1 : decode cX5_item 1 = .ok (.aload_n 0, 1) := by decide +kernel
theorem dX5_item_2 : decode cX5_item 2 = .ok (.getfield 271, 3) := by decide +kernel
theorem dX5_item_5 : decode cX5_item 5 = .ok (.imul, 1) := by decide +kernel
theorem dX5_item_6 : decode cX5_item 6 = .ok (.istore 6, 2) := by decide +kernel
theorem dX5_item_8 : decode cX5_item 8 = .ok (.aload_n 0, 1) := by decide +kernel
theorem dX5_item_9 : decode cX5_item 9 = .ok (.getfield 58, 3) := by decide +kernel
theorem dX5_item_12 : decode cX5_item 12 = .ok (.iload 6, 2) := by decide +kernel
theorem dX5_item_14 : decode cX5_item 14 = .ok (.iload_n 1, 1) := by decide +kernel
theorem dX5_item_15 : decode cX5_item 15 = .ok (.iastore, 1) := by decide +kernel
theorem dX5_item_16 : decode cX5_item 16 = .ok (.aload_n 0, 1) := by decide +kernel
theorem dX5_item_17 : decode cX5_item 17 = .ok (.getfield 58, 3) := by decide +kernel
theorem dX5_item_20 : decode cX5_item 20 = .ok (.iload 6, 2) := by decide +kernel
theorem dX5_item_22 : decode cX5_item 22 = .ok (.iconst 1, 1) := by decide +kernel
theorem dX5_item_23 : decode cX5_item 23 = .ok (.iadd, 1) := by decide +kernel
theorem dX5_item_24 : decode cX5_item 24 = .ok (.iload_n 2, 1) := by decide +kernel
theorem dX5_item_25 : decode cX5_item 25 = .ok (.iastore, 1) := by decide +kernel
theorem dX5_item_26 : decode cX5_item 26 = .ok (.aload_n 0, 1) := by decide +kernel
theorem dX5_item_27 : decode cX5_item 27 = .ok (.getfield 58, 3) := by decide +kernel
theorem dX5_item_30 : decode cX5_item 30 = .ok (.iload 6, 2) := by decide +kernel
theorem dX5_item_32 : decode cX5_item 32 = .ok (.iconst 2, 1) := by decide +kernel
theorem dX5_item_33 : decode cX5_item 33 = .ok (.iadd, 1) := by decide +kernel
theorem dX5_item_34 : decode cX5_item 34 = .ok (.iload_n 3, 1) := by decide +kernel
theorem dX5_item_35 : decode cX5_item 35 = .ok (.iastore, 1) := by decide +kernel
theorem dX5_item_36 : decode cX5_item 36 = .ok (.aload_n 0, 1) := by decide +kernel
theorem dX5_item_37 : decode cX5_item 37 = .ok (.getfield 58, 3) := by decide +kernel
theorem dX5_item_40 : decode cX5_item 40 = .ok (.iload 6, 2) := by decide +kernel
theorem dX5_item_42 : decode cX5_item 42 = .ok (.iconst 3, 1) := by decide +kernel
theorem dX5_item_43 : decode cX5_item 43 = .ok (.iadd, 1) := by decide +kernel
theorem dX5_item_44 : decode cX5_item 44 = .ok (.iload 4, 2) := by decide +kernel
theorem dX5_item_46 : decode cX5_item 46 = .ok (.iastore, 1) := by decide +kernel
theorem dX5_item_47 : decode cX5_item 47 = .ok (.aload_n 0, 1) := by decide +kernel
theorem dX5_item_48 : decode cX5_item 48 = .ok (.getfield 58, 3) := by decide +kernel
theorem dX5_item_51 : decode cX5_item 51 = .ok (.iload 6, 2) := by decide +kernel
theorem dX5_item_53 : decode cX5_item 53 = .ok (.iconst 4, 1) := by decide +kernel
theorem dX5_item_54 : decode cX5_item 54 = .ok (.iadd, 1) := by decide +kernel
theorem dX5_item_55 : decode cX5_item 55 = .ok (.iload 5, 2) := by decide +kernel
theorem dX5_item_57 : decode cX5_item 57 = .ok (.iastore, 1) := by decide +kernel
theorem dX5_item_58 : decode cX5_item 58 = .ok (.aload_n 0, 1) := by decide +kernel
theorem dX5_item_59 : decode cX5_item 59 = .ok (.dup, 1) := by decide +kernel
theorem dX5_item_60 : decode cX5_item 60 = .ok (.getfield 271, 3) := by decide +kernel
theorem dX5_item_63 : decode cX5_item 63 = .ok (.iconst 1, 1) := by decide +kernel
theorem dX5_item_64 : decode cX5_item 64 = .ok (.iadd, 1) := by decide +kernel
theorem dX5_item_65 : decode cX5_item 65 = .ok (.putfield 271, 3) := by decide +kernel
theorem dX5_item_68 : decode cX5_item 68 = .ok (.return_, 1) := by decide +kernel
theorem dX5_kindTold_0 : decode cX5_kindTold 0 = .ok (.iconst (-1), 1) := by decide +kernel
theorem dX5_kindTold_1 : decode cX5_kindTold 1 = .ok (.istore_n 1, 1) := by decide +kernel
theorem dX5_kindTold_2 : decode cX5_kindTold 2 = .ok (.iconst 0, 1) := by decide +kernel
theorem dX5_kindTold_3 : decode cX5_kindTold 3 = .ok (.istore_n 2, 1) := by decide +kernel
theorem dX5_kindTold_4 : decode cX5_kindTold 4 = .ok (.iload_n 2, 1) := by decide +kernel
theorem dX5_kindTold_5 : decode cX5_kindTold 5 = .ok (.aload_n 0, 1) := by decide +kernel
theorem dX5_kindTold_6 : decode cX5_kindTold 6 = .ok (.getfield 51, 3) := by decide +kernel
theorem dX5_kindTold_9 : decode cX5_kindTold 9 = .ok (.arraylength, 1) := by decide +kernel
theorem dX5_kindTold_10 : decode cX5_kindTold 10 = .ok (.if_icmp .ge 33, 3) := by decide +kernel
theorem dX5_kindTold_13 : decode cX5_kindTold 13 = .ok (.aload_n 0, 1) := by decide +kernel
theorem dX5_kindTold_14 : decode cX5_kindTold 14 = .ok (.aload_n 0, 1) := by decide +kernel
theorem dX5_kindTold_15 : decode cX5_kindTold 15 = .ok (.getfield 51, 3) := by decide +kernel
theorem dX5_kindTold_18 : decode cX5_kindTold 18 = .ok (.iload_n 2, 1) := by decide +kernel
theorem dX5_kindTold_19 : decode cX5_kindTold 19 = .ok (.aaload, 1) := by decide +kernel
theorem dX5_kindTold_20 : decode cX5_kindTold 20 = .ok (.invokevirtual 274, 3) := by decide +kernel
theorem dX5_kindTold_23 : decode cX5_kindTold 23 = .ok (.ifCond .eq 12, 3) := by decide +kernel
theorem dX5_kindTold_26 : decode cX5_kindTold 26 = .ok (.aload_n 0, 1) := by decide +kernel
theorem dX5_kindTold_27 : decode cX5_kindTold 27 = .ok (.getfield 55, 3) := by decide +kernel
theorem dX5_kindTold_30 : decode cX5_kindTold 30 = .ok (.iload_n 2, 1) := by decide +kernel
theorem dX5_kindTold_31 : decode cX5_kindTold 31 = .ok (.iaload, 1) := by decide +kernel
theorem dX5_kindTold_32 : decode cX5_kindTold 32 = .ok (.goto 4, 3) := by decide +kernel
theorem dX5_kindTold_35 : decode cX5_kindTold 35 = .ok (.iload_n 1, 1) := by decide +kernel
theorem dX5_kindTold_36 : decode cX5_kindTold 36 = .ok (.istore_n 1, 1) := by decide +kernel
theorem dX5_kindTold_37 : decode cX5_kindTold 37 = .ok (.iinc 2 1, 3) := by decide +kernel
theorem dX5_kindTold_40 : decode cX5_kindTold 40 = .ok (.goto (-36), 3) := by decide +kernel
theorem dX5_kindTold_43 : decode cX5_kindTold 43 = .ok (.iload_n 1, 1) := by decide +kernel
theorem dX5_kindTold_44 : decode cX5_kindTold 44 = .ok (.ireturn, 1) := by decide +kernel
theorem dX5_isNext_0 : decode cX5_isNext 0 = .ok (.aload_n 0, 1) := by decide +kernel
theorem dX5_isNext_1 : decode cX5_isNext 1 = .ok (.getfield 260, 3) := by decide +kernel
theorem dX5_isNext_4 : decode cX5_isNext 4 = .ok (.ifCond .ne 15, 3) := by decide +kernel
theorem dX5_isNext_7 : decode cX5_isNext 7 = .ok (.aload_n 0, 1) := by decide +kernel
theorem dX5_isNext_8 : decode cX5_isNext 8 = .ok (.aload_n 1, 1) := by decide +kernel
theorem dX5_isNext_9 : decode cX5_isNext 9 = .ok (.invokevirtual 274, 3) := by decide +kernel
theorem dX5_isNext_12 : decode cX5_isNext 12 = .ok (.ifCond .eq 7, 3) := by decide +kernel
theorem dX5_isNext_15 : decode cX5_isNext 15 = .ok (.iconst 1, 1) := by decide +kernel
theorem dX5_isNext_16 : decode cX5_isNext 16 = .ok (.goto 4, 3) := by decide +kernel
theorem dX5_isNext_19 : decode cX5_isNext 19 = .ok (.iconst 0, 1) := by decide +kernel
theorem dX5_isNext_20 : decode cX5_isNext 20 = .ok (.istore_n 2, 1) := by decide +kernel
theorem dX5_isNext_21 : decode cX5_isNext 21 = .ok (.iload_n 2, 1) := by decide +kernel
theorem dX5_isNext_22 : decode cX5_isNext 22 = .ok (.ifCond .eq 8, 3) := by decide +kernel
theorem dX5_isNext_25 : decode cX5_isNext 25 = .ok (.aload_n 0, 1) := by decide +kernel
theorem dX5_isNext_26 : decode cX5_isNext 26 = .ok (.iconst 1, 1) := by decide +kernel
theorem dX5_isNext_27 : decode cX5_isNext 27 = .ok (.invokevirtual 267, 3) := by decide +kernel
theorem dX5_isNext_30 : decode cX5_isNext 30 = .ok (.iload_n 2, 1) := by decide +kernel
theorem dX5_isNext_31 : decode cX5_isNext 31 = .ok (.ireturn, 1) := by decide +kernel
theorem dX5_readItem_0 : decode cX5_readItem 0 = .ok (.aload_n 0, 1) := by decide +kernel
theorem dX5_readItem_1 : decode cX5_readItem 1 = .ok (.invokevirtual 278, 3) := by decide +kernel
theorem dX5_readItem_4 : decode cX5_readItem 4 = .ok (.istore_n 1, 1) := by decide +kernel
theorem dX5_readItem_5 : decode cX5_readItem 5 = .ok (.iload_n 1, 1) := by decide +kernel
theorem dX5_readItem_6 : decode cX5_readItem 6 = .ok (.ifCond .lt 128, 3) := by decide +kernel
theorem dX5_readItem_9 : decode cX5_readItem 9 = .ok (.aload_n 0, 1) := by decide +kernel
theorem dX5_readItem_10 : decode cX5_readItem 10 = .ok (.aload_n 0, 1) := by decide +kernel
theorem dX5_readItem_11 : decode cX5_readItem 11 = .ok (.getfield 281, 3) := by decide +kernel
theorem dX5_readItem_14 : decode cX5_readItem 14 = .ok (.bipush 10, 2) := by decide +kernel
theorem dX5_readItem_16 : decode cX5_readItem 16 = .ok (.if_icmp .ge 7, 3) := by decide +kernel
theorem dX5_readItem_19 : decode cX5_readItem 19 = .ok (.iconst 1, 1) := by decide +kernel
theorem dX5_readItem_20 : decode cX5_readItem 20 = .ok (.goto 4, 3) := by decide +kernel
theorem dX5_readItem_23 : decode cX5_readItem 23 = .ok (.iconst 0, 1) := by decide +kernel
theorem dX5_readItem_24 : decode cX5_readItem 24 = .ok (.invokevirtual 267, 3) := by decide +kernel
theorem dX5_readItem_27 : decode cX5_readItem 27 = .ok (.aload_n 0, 1) := by decide +kernel
theorem dX5_readItem_28 : decode cX5_readItem 28 = .ok (.dup, 1) := by decide +kernel
theorem dX5_readItem_29 : decode cX5_readItem 29 = .ok (.getfield 281, 3) := by decide +kernel
theorem dX5_readItem_32 : decode cX5_readItem 32 = .ok (.iconst 1, 1) := by decide +kernel
theorem dX5_readItem_33 : decode cX5_readItem 33 = .ok (.iadd, 1) := by decide +kernel
theorem dX5_readItem_34 : decode cX5_readItem 34 = .ok (.putfield 281, 3) := by decide +kernel
theorem dX5_readItem_37 : decode cX5_readItem 37 = .ok (.aload_n 0, 1) := by decide +kernel
theorem dX5_readItem_38 : decode cX5_readItem 38 = .ok (.ldc_w 284, 3) := by decide +kernel
theorem dX5_readItem_41 : decode cX5_readItem 41 = .ok (.invokevirtual 286, 3) := by decide +kernel
theorem dX5_readItem_44 : decode cX5_readItem 44 = .ok (.ifCond .eq 13, 3) := by decide +kernel
theorem dX5_readItem_47 : decode cX5_readItem 47 = .ok (.aload_n 0, 1) := by decide +kernel
theorem dX5_readItem_48 : decode cX5_readItem 48 = .ok (.iconst 1, 1) := by decide +kernel
theorem dX5_readItem_49 : decode cX5_readItem 49 = .ok (.bipush 40, 2) := by decide +kernel
theorem dX5_readItem_51 : decode cX5_readItem 51 = .ok (.invokevirtual 289, 3) := by decide +kernel
theorem dX5_readItem_54 : decode cX5_readItem 54 = .ok (.goto 5, 3) := by decide +kernel
theorem dX5_readItem_57 : decode cX5_readItem 57 = .ok (.bipush 8, 2) := by decide +kernel
theorem dX5_readItem_59 : decode cX5_readItem 59 = .ok (.istore_n 2, 1) := by decide +kernel
theorem dX5_readItem_60 : decode cX5_readItem 60 = .ok (.aload_n 0, 1) := by decide +kernel
theorem dX5_readItem_61 : decode cX5_readItem 61 = .ok (.ldc_w 292, 3) := by decide +kernel
theorem dX5_readItem_64 : decode cX5_readItem 64 = .ok (.invokevirtual 286, 3) := by decide +kernel
theorem dX5_readItem_67 : decode cX5_readItem 67 = .ok (.ifCond .eq 13, 3) := by decide +kernel
theorem dX5_readItem_70 : decode cX5_readItem 70 = .ok (.aload_n 0, 1) := by decide +kernel
theorem dX5_readItem_71 : decode cX5_readItem 71 = .ok (.iconst 1, 1) := by decide +kernel
theorem dX5_readItem_72 : decode cX5_readItem 72 = .ok (.bipush 50, 2) := by decide +kernel
theorem dX5_readItem_74 : decode cX5_readItem 74 = .ok (.invokevirtual 289, 3) := by decide +kernel
theorem dX5_readItem_77 : decode cX5_readItem 77 = .ok (.goto 4, 3) := by decide +kernel
theorem dX5_readItem_80 : decode cX5_readItem 80 = .ok (.iconst 5, 1) := by decide +kernel
theorem dX5_readItem_81 : decode cX5_readItem 81 = .ok (.istore_n 3, 1) := by decide +kernel
theorem dX5_readItem_82 : decode cX5_readItem 82 = .ok (.aload_n 0, 1) := by decide +kernel
theorem dX5_readItem_83 : decode cX5_readItem 83 = .ok (.ldc_w 294, 3) := by decide +kernel
theorem dX5_readItem_86 : decode cX5_readItem 86 = .ok (.invokevirtual 286, 3) := by decide +kernel
theorem dX5_readItem_89 : decode cX5_readItem 89 = .ok (.ifCond .eq 14, 3) := by decide +kernel
theorem dX5_readItem_92 : decode cX5_readItem 92 = .ok (.aload_n 0, 1) := by decide +kernel
theorem dX5_readItem_93 : decode cX5_readItem 93 = .ok (.iconst 0, 1) := by decide +kernel
theorem dX5_readItem_94 : decode cX5_readItem 94 = .ok (.sipush 240, 3) := by decide +kernel
theorem dX5_readItem_97 : decode cX5_readItem 97 = .ok (.invokevirtual 289, 3) := by decide +kernel
theorem dX5_readItem_100 : decode cX5_readItem 100 = .ok (.goto 5, 3) := by decide +kernel
theorem dX5_readItem_103 : decode cX5_readItem 103 = .ok (.bipush 6, 2) := by decide +kernel
theorem dX5_readItem_105 : decode cX5_readItem 105 = .ok (.istore 4, 2) := by decide +kernel
theorem dX5_readItem_107 : decode cX5_readItem 107 = .ok (.aload_n 0, 1) := by decide +kernel
theorem dX5_readItem_108 : decode cX5_readItem 108 = .ok (.iload_n 1, 1) := by decide +kernel
theorem dX5_readItem_109 : decode cX5_readItem 109 = .ok (.iload_n 2, 1) := by decide +kernel
theorem dX5_readItem_110 : decode cX5_readItem 110 = .ok (.iload_n 3, 1) := by decide +kernel
theorem dX5_readItem_111 : decode cX5_readItem 111 = .ok (.iload 4, 2) := by decide +kernel
theorem dX5_readItem_113 : decode cX5_readItem 113 = .ok (.aload_n 0, 1) := by decide +kernel
theorem dX5_readItem_114 : decode cX5_readItem 114 = .ok (.ldc_w 296, 3) := by decide +kernel
theorem dX5_readItem_117 : decode cX5_readItem 117 = .ok (.invokevirtual 286, 3) := by decide +kernel
theorem dX5_readItem_120 : decode cX5_readItem 120 = .ok (.ifCond .eq 7, 3) := by decide +kernel
theorem dX5_readItem_123 : decode cX5_readItem 123 = .ok (.iconst 3, 1) := by decide +kernel
theorem dX5_readItem_124 : decode cX5_readItem 124 = .ok (.goto 4, 3) := by decide +kernel
theorem dX5_readItem_127 : decode cX5_readItem 127 = .ok (.iconst 0, 1) := by decide +kernel
theorem dX5_readItem_128 : decode cX5_readItem 128 = .ok (.invokevirtual 298, 3) := by decide +kernel
theorem dX5_readItem_131 : decode cX5_readItem 131 = .ok (.goto 78, 3) := by decide +kernel
theorem dX5_readItem_134 : decode cX5_readItem 134 = .ok (.aload_n 0, 1) := by decide +kernel
theorem dX5_readItem_135 : decode cX5_readItem 135 = .ok (.ldc_w 302, 3) := by decide +kernel
theorem dX5_readItem_138 : decode cX5_readItem 138 = .ok (.invokevirtual 286, 3) := by decide +kernel
theorem dX5_readItem_141 : decode cX5_readItem 141 = .ok (.ifCond .eq 22, 3) := by decide +kernel
theorem dX5_readItem_144 : decode cX5_readItem 144 = .ok (.aload_n 0, 1) := by decide +kernel
theorem dX5_readItem_145 : decode cX5_readItem 145 = .ok (.bipush 10, 2) := by decide +kernel
theorem dX5_readItem_147 : decode cX5_readItem 147 = .ok (.aload_n 0, 1) := by decide +kernel
theorem dX5_readItem_148 : decode cX5_readItem 148 = .ok (.iconst 0, 1) := by decide +kernel
theorem dX5_readItem_149 : decode cX5_readItem 149 = .ok (.bipush 99, 2) := by decide +kernel
theorem dX5_readItem_151 : decode cX5_readItem 151 = .ok (.invokevirtual 289, 3) := by decide +kernel
theorem dX5_readItem_154 : decode cX5_readItem 154 = .ok (.iconst 0, 1) := by decide +kernel
theorem dX5_readItem_155 : decode cX5_readItem 155 = .ok (.iconst 0, 1) := by decide +kernel
theorem dX5_readItem_156 : decode cX5_readItem 156 = .ok (.iconst 0, 1) := by decide +kernel
theorem dX5_readItem_157 : decode cX5_readItem 157 = .ok (.invokevirtual 298, 3) := by decide +kernel
theorem dX5_readItem_160 : decode cX5_readItem 160 = .ok (.goto 49, 3) := by decide +kernel
theorem dX5_readItem_163 : decode cX5_readItem 163 = .ok (.aload_n 0, 1) := by decide +kernel
theorem dX5_readItem_164 : decode cX5_readItem 164 = .ok (.aload_n 0, 1) := by decide +kernel
theorem dX5_readItem_165 : decode cX5_readItem 165 = .ok (.ldc_w 304, 3) := by decide +kernel
theorem dX5_readItem_168 : decode cX5_readItem 168 = .ok (.invokevirtual 274, 3) := by decide +kernel
theorem dX5_readItem_171 : decode cX5_readItem 171 = .ok (.invokevirtual 267, 3) := by decide +kernel
theorem dX5_readItem_174 : decode cX5_readItem 174 = .ok (.aload_n 0, 1) := by decide +kernel
theorem dX5_readItem_175 : decode cX5_readItem 175 = .ok (.iconst 0, 1) := by decide +kernel
theorem dX5_readItem_176 : decode cX5_readItem 176 = .ok (.bipush 99, 2) := by decide +kernel
theorem dX5_readItem_178 : decode cX5_readItem 178 = .ok (.invokevirtual 289, 3) := by decide +kernel
theorem dX5_readItem_181 : decode cX5_readItem 181 = .ok (.istore_n 2, 1) := by decide +kernel
theorem dX5_readItem_182 : decode cX5_readItem 182 = .ok (.aload_n 0, 1) := by decide +kernel
theorem dX5_readItem_183 : decode cX5_readItem 183 = .ok (.aload_n 0, 1) := by decide +kernel
theorem dX5_readItem_184 : decode cX5_readItem 184 = .ok (.ldc_w 306, 3) := by decide +kernel
theorem dX5_readItem_187 : decode cX5_readItem 187 = .ok (.invokevirtual 274, 3) := by decide +kernel
theorem dX5_readItem_190 : decode cX5_readItem 190 = .ok (.invokevirtual 267, 3) := by decide +kernel
theorem dX5_readItem_193 : decode cX5_readItem 193 = .ok (.aload_n 0, 1) := by decide +kernel
theorem dX5_readItem_194 : decode cX5_readItem 194 = .ok (.bipush 11, 2) := by decide +kernel
theorem dX5_readItem_196 : decode cX5_readItem 196 = .ok (.iload_n 2, 1) := by decide +kernel
theorem dX5_readItem_197 : decode cX5_readItem 197 = .ok (.aload_n 0, 1) := by decide +kernel
theorem dX5_readItem_198 : decode cX5_readItem 198 = .ok (.iconst 0, 1) := by decide +kernel
theorem dX5_readItem_199 : decode cX5_readItem 199 = .ok (.bipush 7, 2) := by decide +kernel
theorem dX5_readItem_201 : decode cX5_readItem 201 = .ok (.invokevirtual 289, 3) := by decide +kernel
theorem dX5_readItem_204 : decode cX5_readItem 204 = .ok (.iconst 0, 1) := by decide +kernel
theorem dX5_readItem_205 : decode cX5_readItem 205 = .ok (.iconst 0, 1) := by decide +kernel
theorem dX5_readItem_206 : decode cX5_readItem 206 = .ok (.invokevirtual 298, 3) := by decide +kernel
theorem dX5_readItem_209 : decode cX5_readItem 209 = .ok (.return_, 1) := by decide +kernel
theorem dX5_isSo_0 : decode cX5_isSo 0 = .ok (.aload_n 0, 1) := by decide +kernel
theorem dX5_isSo_1 : decode cX5_isSo 1 = .ok (.getfield 58, 3) := by decide +kernel
theorem dX5_isSo_4 : decode cX5_isSo 4 = .ok (.iload_n 1, 1) := by decide +kernel
theorem dX5_isSo_5 : decode cX5_isSo 5 = .ok (.iconst 1, 1) := by decide +kernel
theorem dX5_isSo_6 : decode cX5_isSo 6 = .ok (.iadd, 1) := by decide +kernel
theorem dX5_isSo_7 : decode cX5_isSo 7 = .ok (.iaload, 1) := by decide +kernel
theorem dX5_isSo_8 : decode cX5_isSo 8 = .ok (.istore_n 2, 1) := by decide +kernel
theorem dX5_isSo_9 : decode cX5_isSo 9 = .ok (.aload_n 0, 1) := by decide +kernel
theorem dX5_isSo_10 : decode cX5_isSo 10 = .ok (.getfield 58, 3) := by decide +kernel
theorem dX5_isSo_13 : decode cX5_isSo 13 = .ok (.iload_n 1, 1) := by decide +kernel
theorem dX5_isSo_14 : decode cX5_isSo 14 = .ok (.iconst 2, 1) := by decide +kernel
theorem dX5_isSo_15 : decode cX5_isSo 15 = .ok (.iadd, 1) := by decide +kernel
theorem dX5_isSo_16 : decode cX5_isSo 16 = .ok (.iaload, 1) := by decide +kernel
theorem dX5_isSo_17 : decode cX5_isSo 17 = .ok (.istore_n 3, 1) := by decide +kernel
theorem dX5_isSo_18 : decode cX5_isSo 18 = .ok (.aload_n 0, 1) := by decide +kernel
theorem dX5_isSo_19 : decode cX5_isSo 19 = .ok (.getfield 58, 3) := by decide +kernel
theorem dX5_isSo_22 : decode cX5_isSo 22 = .ok (.iload_n 1, 1) := by decide +kernel
theorem dX5_isSo_23 : decode cX5_isSo 23 = .ok (.iaload, 1) := by decide +kernel
theorem dX5_isSo_24 : decode cX5_isSo 24 = .ok (.lookupswitch 51 #[(10, 28), (11, 35)], 28) := by decide +kernel
theorem dX5_isSo_52 : decode cX5_isSo 52 = .ok (.aload_n 0, 1) := by decide +kernel
theorem dX5_isSo_53 : decode cX5_isSo 53 = .ok (.iconst 1, 1) := by decide +kernel
theorem dX5_isSo_54 : decode cX5_isSo 54 = .ok (.iload_n 2, 1) := by decide +kernel
theorem dX5_isSo_55 : decode cX5_isSo 55 = .ok (.invokevirtual 129, 3) := by decide +kernel
theorem dX5_isSo_58 : decode cX5_isSo 58 = .ok (.ireturn, 1) := by decide +kernel
theorem dX5_isSo_59 : decode cX5_isSo 59 = .ok (.aload_n 0, 1) := by decide +kernel
theorem dX5_isSo_60 : decode cX5_isSo 60 = .ok (.iconst 2, 1) := by decide +kernel
theorem dX5_isSo_61 : decode cX5_isSo 61 = .ok (.iload_n 2, 1) := by decide +kernel
theorem dX5_isSo_62 : decode cX5_isSo 62 = .ok (.invokevirtual 129, 3) := by decide +kernel
theorem dX5_isSo_65 : decode cX5_isSo 65 = .ok (.aload_n 0, 1) := by decide +kernel
theorem dX5_isSo_66 : decode cX5_isSo 66 = .ok (.iconst 3, 1) := by decide +kernel
theorem dX5_isSo_67 : decode cX5_isSo 67 = .ok (.iload_n 3, 1) := by decide +kernel
theorem dX5_isSo_68 : decode cX5_isSo 68 = .ok (.invokevirtual 129, 3) := by decide +kernel
theorem dX5_isSo_71 : decode cX5_isSo 71 = .ok (.invokestatic 147, 3) := by decide +kernel
theorem dX5_isSo_74 : decode cX5_isSo 74 = .ok (.ireturn, 1) := by decide +kernel
theorem dX5_isSo_75 : decode cX5_isSo 75 = .ok (.aload_n 0, 1) := by decide +kernel
theorem dX5_isSo_76 : decode cX5_isSo 76 = .ok (.aload_n 0, 1) := by decide +kernel
theorem dX5_isSo_77 : decode cX5_isSo 77 = .ok (.getfield 58, 3) := by decide +kernel
theorem dX5_isSo_80 : decode cX5_isSo 80 = .ok (.iload_n 1, 1) := by decide +kernel
theorem dX5_isSo_81 : decode cX5_isSo 81 = .ok (.iaload, 1) := by decide +kernel
theorem dX5_isSo_82 : decode cX5_isSo 82 = .ok (.iload_n 2, 1) := by decide +kernel
theorem dX5_isSo_83 : decode cX5_isSo 83 = .ok (.iload_n 3, 1) := by decide +kernel
theorem dX5_isSo_84 : decode cX5_isSo 84 = .ok (.aload_n 0, 1) := by decide +kernel
theorem dX5_isSo_85 : decode cX5_isSo 85 = .ok (.getfield 58, 3) := by decide +kernel
theorem dX5_isSo_88 : decode cX5_isSo 88 = .ok (.iload_n 1, 1) := by decide +kernel
theorem dX5_isSo_89 : decode cX5_isSo 89 = .ok (.iconst 3, 1) := by decide +kernel
theorem dX5_isSo_90 : decode cX5_isSo 90 = .ok (.iadd, 1) := by decide +kernel
theorem dX5_isSo_91 : decode cX5_isSo 91 = .ok (.iaload, 1) := by decide +kernel
theorem dX5_isSo_92 : decode cX5_isSo 92 = .ok (.aload_n 0, 1) := by decide +kernel
theorem dX5_isSo_93 : decode cX5_isSo 93 = .ok (.getfield 58, 3) := by decide +kernel
theorem dX5_isSo_96 : decode cX5_isSo 96 = .ok (.iload_n 1, 1) := by decide +kernel
theorem dX5_isSo_97 : decode cX5_isSo 97 = .ok (.iconst 4, 1) := by decide +kernel
theorem dX5_isSo_98 : decode cX5_isSo 98 = .ok (.iadd, 1) := by decide +kernel
theorem dX5_isSo_99 : decode cX5_isSo 99 = .ok (.iaload, 1) := by decide +kernel
theorem dX5_isSo_100 : decode cX5_isSo 100 = .ok (.invokevirtual 98, 3) := by decide +kernel
theorem dX5_isSo_103 : decode cX5_isSo 103 = .ok (.ireturn, 1) := by decide +kernel
theorem dX5_text_0 : decode cX5_text 0 = .ok (.aload_n 0, 1) := by decide +kernel
theorem dX5_text_1 : decode cX5_text 1 = .ok (.iconst 0, 1) := by decide +kernel
theorem dX5_text_2 : decode cX5_text 2 = .ok (.putfield 238, 3) := by decide +kernel
theorem dX5_text_5 : decode cX5_text 5 = .ok (.aload_n 0, 1) := by decide +kernel
theorem dX5_text_6 : decode cX5_text 6 = .ok (.iconst 0, 1) := by decide +kernel
theorem dX5_text_7 : decode cX5_text 7 = .ok (.putfield 260, 3) := by decide +kernel
theorem dX5_text_10 : decode cX5_text 10 = .ok (.aload_n 0, 1) := by decide +kernel
theorem dX5_text_11 : decode cX5_text 11 = .ok (.iconst 0, 1) := by decide +kernel
theorem dX5_text_12 : decode cX5_text 12 = .ok (.putfield 271, 3) := by decide +kernel
theorem dX5_text_15 : decode cX5_text 15 = .ok (.aload_n 0, 1) := by decide +kernel
theorem dX5_text_16 : decode cX5_text 16 = .ok (.aload_n 0, 1) := by decide +kernel
theorem dX5_text_17 : decode cX5_text 17 = .ok (.getfield 9, 3) := by decide +kernel
theorem dX5_text_20 : decode cX5_text 20 = .ok (.iconst 4, 1) := by decide +kernel
theorem dX5_text_21 : decode cX5_text 21 = .ok (.iaload, 1) := by decide +kernel
theorem dX5_text_22 : decode cX5_text 22 = .ok (.putfield 281, 3) := by decide +kernel
theorem dX5_text_25 : decode cX5_text 25 = .ok (.aload_n 0, 1) := by decide +kernel
theorem dX5_text_26 : decode cX5_text 26 = .ok (.invokevirtual 264, 3) := by decide +kernel
theorem dX5_text_29 : decode cX5_text 29 = .ok (.aload_n 0, 1) := by decide +kernel
theorem dX5_text_30 : decode cX5_text 30 = .ok (.invokevirtual 307, 3) := by decide +kernel
theorem dX5_text_33 : decode cX5_text 33 = .ok (.aload_n 0, 1) := by decide +kernel
theorem dX5_text_34 : decode cX5_text 34 = .ok (.getfield 260, 3) := by decide +kernel
theorem dX5_text_37 : decode cX5_text 37 = .ok (.ifCond .ne 37, 3) := by decide +kernel
theorem dX5_text_40 : decode cX5_text 40 = .ok (.aload_n 0, 1) := by decide +kernel
theorem dX5_text_41 : decode cX5_text 41 = .ok (.getfield 250, 3) := by decide +kernel
theorem dX5_text_44 : decode cX5_text 44 = .ok (.iconst 3, 1) := by decide +kernel
theorem dX5_text_45 : decode cX5_text 45 = .ok (.if_icmp .ne 29, 3) := by decide +kernel
theorem dX5_text_48 : decode cX5_text 48 = .ok (.aload_n 0, 1) := by decide +kernel
theorem dX5_text_49 : decode cX5_text 49 = .ok (.getfield 32, 3) := by decide +kernel
theorem dX5_text_52 : decode cX5_text 52 = .ok (.aload_n 0, 1) := by decide +kernel
theorem dX5_text_53 : decode cX5_text 53 = .ok (.getfield 241, 3) := by decide +kernel
theorem dX5_text_56 : decode cX5_text 56 = .ok (.iaload, 1) := by decide +kernel
theorem dX5_text_57 : decode cX5_text 57 = .ok (.bipush 59, 2) := by decide +kernel
theorem dX5_text_59 : decode cX5_text 59 = .ok (.if_icmp .ne 15, 3) := by decide +kernel
theorem dX5_text_62 : decode cX5_text 62 = .ok (.aload_n 0, 1) := by decide +kernel
theorem dX5_text_63 : decode cX5_text 63 = .ok (.iconst 1, 1) := by decide +kernel
theorem dX5_text_64 : decode cX5_text 64 = .ok (.invokevirtual 267, 3) := by decide +kernel
theorem dX5_text_67 : decode cX5_text 67 = .ok (.aload_n 0, 1) := by decide +kernel
theorem dX5_text_68 : decode cX5_text 68 = .ok (.invokevirtual 307, 3) := by decide +kernel
theorem dX5_text_71 : decode cX5_text 71 = .ok (.goto (-38), 3) := by decide +kernel
theorem dX5_text_74 : decode cX5_text 74 = .ok (.aload_n 0, 1) := by decide +kernel
theorem dX5_text_75 : decode cX5_text 75 = .ok (.aload_n 0, 1) := by decide +kernel
theorem dX5_text_76 : decode cX5_text 76 = .ok (.getfield 250, 3) := by decide +kernel
theorem dX5_text_79 : decode cX5_text 79 = .ok (.ifCond .ne 7, 3) := by decide +kernel
theorem dX5_text_82 : decode cX5_text 82 = .ok (.iconst 1, 1) := by decide +kernel
theorem dX5_text_83 : decode cX5_text 83 = .ok (.goto 4, 3) := by decide +kernel
theorem dX5_text_86 : decode cX5_text 86 = .ok (.iconst 0, 1) := by decide +kernel
theorem dX5_text_87 : decode cX5_text 87 = .ok (.invokevirtual 267, 3) := by decide +kernel
theorem dX5_text_90 : decode cX5_text 90 = .ok (.aload_n 0, 1) := by decide +kernel
theorem dX5_text_91 : decode cX5_text 91 = .ok (.iconst 0, 1) := by decide +kernel
theorem dX5_text_92 : decode cX5_text 92 = .ok (.putfield 235, 3) := by decide +kernel
theorem dX5_text_95 : decode cX5_text 95 = .ok (.aload_n 0, 1) := by decide +kernel
theorem dX5_text_96 : decode cX5_text 96 = .ok (.getfield 260, 3) := by decide +kernel
theorem dX5_text_99 : decode cX5_text 99 = .ok (.ifCond .eq 10, 3) := by decide +kernel
theorem dX5_text_102 : decode cX5_text 102 = .ok (.iconst (-1), 1) := by decide +kernel
theorem dX5_text_103 : decode cX5_text 103 = .ok (.aload_n 0, 1) := by decide +kernel
theorem dX5_text_104 : decode cX5_text 104 = .ok (.getfield 241, 3) := by decide +kernel
theorem dX5_text_107 : decode cX5_text 107 = .ok (.isub, 1) := by decide +kernel
theorem dX5_text_108 : decode cX5_text 108 = .ok (.ireturn, 1) := by decide +kernel
theorem dX5_text_109 : decode cX5_text 109 = .ok (.iconst 0, 1) := by decide +kernel
theorem dX5_text_110 : decode cX5_text 110 = .ok (.istore_n 1, 1) := by decide +kernel
theorem dX5_text_111 : decode cX5_text 111 = .ok (.iconst 0, 1) := by decide +kernel
theorem dX5_text_112 : decode cX5_text 112 = .ok (.istore_n 2, 1) := by decide +kernel
theorem dX5_text_113 : decode cX5_text 113 = .ok (.iload_n 2, 1) := by decide +kernel
theorem dX5_text_114 : decode cX5_text 114 = .ok (.aload_n 0, 1) := by decide +kernel
theorem dX5_text_115 : decode cX5_text 115 = .ok (.getfield 271, 3) := by decide +kernel
theorem dX5_text_118 : decode cX5_text 118 = .ok (.if_icmp .ge 27, 3) := by decide +kernel
theorem dX5_text_121 : decode cX5_text 121 = .ok (.iload_n 1, 1) := by decide +kernel
theorem dX5_text_122 : decode cX5_text 122 = .ok (.aload_n 0, 1) := by decide +kernel
theorem dX5_text_123 : decode cX5_text 123 = .ok (.iconst 5, 1) := by decide +kernel
theorem dX5_text_124 : decode cX5_text 124 = .ok (.iload_n 2, 1) := by decide +kernel
theorem dX5_text_125 : decode cX5_text 125 = .ok (.imul, 1) := by decide +kernel
theorem dX5_text_126 : decode cX5_text 126 = .ok (.invokevirtual 310, 3) := by decide +kernel
theorem dX5_text_129 : decode cX5_text 129 = .ok (.ifCond .ge 7, 3) := by decide +kernel
theorem dX5_text_132 : decode cX5_text 132 = .ok (.iconst 0, 1) := by decide +kernel
theorem dX5_text_133 : decode cX5_text 133 = .ok (.goto 4, 3) := by decide +kernel
theorem dX5_text_136 : decode cX5_text 136 = .ok (.iconst 1, 1) := by decide +kernel
theorem dX5_text_137 : decode cX5_text 137 = .ok (.iadd, 1) := by decide +kernel
theorem dX5_text_138 : decode cX5_text 138 = .ok (.istore_n 1, 1) := by decide +kernel
theorem dX5_text_139 : decode cX5_text 139 = .ok (.iinc 2 1, 3) := by decide +kernel
theorem dX5_text_142 : decode cX5_text 142 = .ok (.goto (-29), 3) := by decide +kernel
theorem dX5_text_145 : decode cX5_text 145 = .ok (.iload_n 1, 1) := by decide +kernel
theorem dX5_text_146 : decode cX5_text 146 = .ok (.ireturn, 1) := by decide +kernel
theorem dX5_isSpot_0 : decode cX5_isSpot 0 = .ok (.iload_n 0, 1) := by decide +kernel
theorem dX5_isSpot_1 : decode cX5_isSpot 1 = .ok (.iconst 0, 1) := by decide +kernel
theorem dX5_isSpot_2 : decode cX5_isSpot 2 = .ok (.bipush 9, 2) := by decide +kernel
theorem dX5_isSpot_4 : decode cX5_isSpot 4 = .ok (.invokestatic 78, 3) := by decide +kernel
theorem dX5_isSpot_7 : decode cX5_isSpot 7 = .ok (.ireturn, 1) := by decide +kernel
theorem dX5_hold_0 : decode cX5_hold 0 = .ok (.iload_n 1, 1) := by decide +kernel
theorem dX5_hold_1 : decode cX5_hold 1 = .ok (.invokestatic 313, 3) := by decide +kernel
theorem dX5_hold_4 : decode cX5_hold 4 = .ok (.ifCond .eq 16, 3) := by decide +kernel
theorem dX5_hold_7 : decode cX5_hold 7 = .ok (.iload_n 2, 1) := by decide +kernel
theorem dX5_hold_8 : decode cX5_hold 8 = .ok (.iconst (-1), 1) := by decide +kernel
theorem dX5_hold_9 : decode cX5_hold 9 = .ok (.if_icmp .eq 18, 3) := by decide +kernel
theorem dX5_hold_12 : decode cX5_hold 12 = .ok (.aload_n 0, 1) := by decide +kernel
theorem dX5_hold_13 : decode cX5_hold 13 = .ok (.iload_n 2, 1) := by decide +kernel
theorem dX5_hold_14 : decode cX5_hold 14 = .ok (.invokevirtual 120, 3) := by decide +kernel
theorem dX5_hold_17 : decode cX5_hold 17 = .ok (.ifCond .ne 10, 3) := by decide +kernel
theorem dX5_hold_20 : decode cX5_hold 20 = .ok (.aload_n 0, 1) := by decide +kernel
theorem dX5_hold_21 : decode cX5_hold 21 = .ok (.ldc 73, 2) := by decide +kernel
theorem dX5_hold_23 : decode cX5_hold 23 = .ok (.invokevirtual 93, 3) := by decide +kernel
theorem dX5_hold_26 : decode cX5_hold 26 = .ok (.ireturn, 1) := by decide +kernel
theorem dX5_hold_27 : decode cX5_hold 27 = .ok (.aload_n 0, 1) := by decide +kernel
theorem dX5_hold_28 : decode cX5_hold 28 = .ok (.getfield 9, 3) := by decide +kernel
theorem dX5_hold_31 : decode cX5_hold 31 = .ok (.bipush 6, 2) := by decide +kernel
theorem dX5_hold_33 : decode cX5_hold 33 = .ok (.iload_n 1, 1) := by decide +kernel
theorem dX5_hold_34 : decode cX5_hold 34 = .ok (.iadd, 1) := by decide +kernel
theorem dX5_hold_35 : decode cX5_hold 35 = .ok (.iload_n 2, 1) := by decide +kernel
theorem dX5_hold_36 : decode cX5_hold 36 = .ok (.iastore, 1) := by decide +kernel
theorem dX5_hold_37 : decode cX5_hold 37 = .ok (.iconst 1, 1) := by decide +kernel
theorem dX5_hold_38 : decode cX5_hold 38 = .ok (.ireturn, 1) := by decide +kernel
theorem dX5_as_0 : decode cX5_as 0 = .ok (.iload_n 1, 1) := by decide +kernel
theorem dX5_as_1 : decode cX5_as 1 = .ok (.invokestatic 313, 3) := by decide +kernel
theorem dX5_as_4 : decode cX5_as 4 = .ok (.ifCond .eq 10, 3) := by decide +kernel
theorem dX5_as_7 : decode cX5_as 7 = .ok (.iload_n 2, 1) := by decide +kernel
theorem dX5_as_8 : decode cX5_as 8 = .ok (.invokestatic 89, 3) := by decide +kernel
theorem dX5_as_11 : decode cX5_as 11 = .ok (.ifCond .ne 10, 3) := by decide +kernel
theorem dX5_as_14 : decode cX5_as 14 = .ok (.aload_n 0, 1) := by decide +kernel
theorem dX5_as_15 : decode cX5_as 15 = .ok (.ldc 73, 2) := by decide +kernel
theorem dX5_as_17 : decode cX5_as 17 = .ok (.invokevirtual 93, 3) := by decide +kernel
theorem dX5_as_20 : decode cX5_as 20 = .ok (.ireturn, 1) := by decide +kernel
theorem dX5_as_21 : decode cX5_as 21 = .ok (.aload_n 0, 1) := by decide +kernel
theorem dX5_as_22 : decode cX5_as 22 = .ok (.getfield 9, 3) := by decide +kernel
theorem dX5_as_25 : decode cX5_as 25 = .ok (.bipush 6, 2) := by decide +kernel
theorem dX5_as_27 : decode cX5_as 27 = .ok (.iload_n 1, 1) := by decide +kernel
theorem dX5_as_28 : decode cX5_as 28 = .ok (.iadd, 1) := by decide +kernel
theorem dX5_as_29 : decode cX5_as 29 = .ok (.iaload, 1) := by decide +kernel
theorem dX5_as_30 : decode cX5_as 30 = .ok (.istore_n 3, 1) := by decide +kernel
theorem dX5_as_31 : decode cX5_as 31 = .ok (.iload_n 3, 1) := by decide +kernel
theorem dX5_as_32 : decode cX5_as 32 = .ok (.ifCond .ge 11, 3) := by decide +kernel
theorem dX5_as_35 : decode cX5_as 35 = .ok (.aload_n 0, 1) := by decide +kernel
theorem dX5_as_36 : decode cX5_as 36 = .ok (.ldc_w 316, 3) := by decide +kernel
theorem dX5_as_39 : decode cX5_as 39 = .ok (.invokevirtual 93, 3) := by decide +kernel
theorem dX5_as_42 : decode cX5_as 42 = .ok (.ireturn, 1) := by decide +kernel
theorem dX5_as_43 : decode cX5_as 43 = .ok (.aload_n 0, 1) := by decide +kernel
theorem dX5_as_44 : decode cX5_as 44 = .ok (.iload_n 3, 1) := by decide +kernel
theorem dX5_as_45 : decode cX5_as 45 = .ok (.iconst 0, 1) := by decide +kernel
theorem dX5_as_46 : decode cX5_as 46 = .ok (.invokevirtual 105, 3) := by decide +kernel
theorem dX5_as_49 : decode cX5_as 49 = .ok (.iload_n 2, 1) := by decide +kernel
theorem dX5_as_50 : decode cX5_as 50 = .ok (.invokestatic 108, 3) := by decide +kernel
theorem dX5_as_53 : decode cX5_as 53 = .ok (.ifCond .eq 7, 3) := by decide +kernel
theorem dX5_as_56 : decode cX5_as 56 = .ok (.iload_n 3, 1) := by decide +kernel
theorem dX5_as_57 : decode cX5_as 57 = .ok (.goto 10, 3) := by decide +kernel
theorem dX5_as_60 : decode cX5_as 60 = .ok (.aload_n 0, 1) := by decide +kernel
theorem dX5_as_61 : decode cX5_as 61 = .ok (.ldc_w 317, 3) := by decide +kernel
theorem dX5_as_64 : decode cX5_as 64 = .ok (.invokevirtual 93, 3) := by decide +kernel
theorem dX5_as_67 : decode cX5_as 67 = .ok (.ireturn, 1) := by decide +kernel
theorem dX5_isSheet_0 : decode cX5_isSheet 0 = .ok (.iload_n 0, 1) := by decide +kernel
theorem dX5_isSheet_1 : decode cX5_isSheet 1 = .ok (.iconst 0, 1) := by decide +kernel
theorem dX5_isSheet_2 : decode cX5_isSheet 2 = .ok (.iconst 3, 1) := by decide +kernel
theorem dX5_isSheet_3 : decode cX5_isSheet 3 = .ok (.invokestatic 78, 3) := by decide +kernel
theorem dX5_isSheet_6 : decode cX5_isSheet 6 = .ok (.ireturn, 1) := by decide +kernel
theorem dX5_cutTo_0 : decode cX5_cutTo 0 = .ok (.iload_n 1, 1) := by decide +kernel
theorem dX5_cutTo_1 : decode cX5_cutTo 1 = .ok (.bipush 8, 2) := by decide +kernel
theorem dX5_cutTo_3 : decode cX5_cutTo 3 = .ok (.if_icmp .ne 8, 3) := by decide +kernel
theorem dX5_cutTo_6 : decode cX5_cutTo 6 = .ok (.iload_n 0, 1) := by decide +kernel
theorem dX5_cutTo_7 : decode cX5_cutTo 7 = .ok (.i2b, 1) := by decide +kernel
theorem dX5_cutTo_8 : decode cX5_cutTo 8 = .ok (.goto 15, 3) := by decide +kernel
theorem dX5_cutTo_11 : decode cX5_cutTo 11 = .ok (.iload_n 1, 1) := by decide +kernel
theorem dX5_cutTo_12 : decode cX5_cutTo 12 = .ok (.bipush 16, 2) := by decide +kernel
theorem dX5_cutTo_14 : decode cX5_cutTo 14 = .ok (.if_icmp .ne 8, 3) := by decide +kernel
theorem dX5_cutTo_17 : decode cX5_cutTo 17 = .ok (.iload_n 0, 1) := by decide +kernel
theorem dX5_cutTo_18 : decode cX5_cutTo 18 = .ok (.i2s, 1) := by decide +kernel
theorem dX5_cutTo_19 : decode cX5_cutTo 19 = .ok (.goto 4, 3) := by decide +kernel
theorem dX5_cutTo_22 : decode cX5_cutTo 22 = .ok (.iload_n 0, 1) := by decide +kernel
theorem dX5_cutTo_23 : decode cX5_cutTo 23 = .ok (.ireturn, 1) := by decide +kernel
theorem dX5_sheet_0 : decode cX5_sheet 0 = .ok (.iload_n 1, 1) := by decide +kernel
theorem dX5_sheet_1 : decode cX5_sheet 1 = .ok (.invokestatic 318, 3) := by decide +kernel
theorem dX5_sheet_4 : decode cX5_sheet 4 = .ok (.ifCond .eq 25, 3) := by decide +kernel
theorem dX5_sheet_7 : decode cX5_sheet 7 = .ok (.iload_n 2, 1) := by decide +kernel
theorem dX5_sheet_8 : decode cX5_sheet 8 = .ok (.ifCond .eq 28, 3) := by decide +kernel
theorem dX5_sheet_11 : decode cX5_sheet 11 = .ok (.iload_n 2, 1) := by decide +kernel
theorem dX5_sheet_12 : decode cX5_sheet 12 = .ok (.bipush 8, 2) := by decide +kernel
theorem dX5_sheet_14 : decode cX5_sheet 14 = .ok (.if_icmp .eq 22, 3) := by decide +kernel
theorem dX5_sheet_17 : decode cX5_sheet 17 = .ok (.iload_n 2, 1) := by decide +kernel
theorem dX5_sheet_18 : decode cX5_sheet 18 = .ok (.bipush 16, 2) := by decide +kernel
theorem dX5_sheet_20 : decode cX5_sheet 20 = .ok (.if_icmp .eq 16, 3) := by decide +kernel
theorem dX5_sheet_23 : decode cX5_sheet 23 = .ok (.iload_n 2, 1) := by decide +kernel
theorem dX5_sheet_24 : decode cX5_sheet 24 = .ok (.bipush 32, 2) := by decide +kernel
theorem dX5_sheet_26 : decode cX5_sheet 26 = .ok (.if_icmp .eq 10, 3) := by decide +kernel
theorem dX5_sheet_29 : decode cX5_sheet 29 = .ok (.aload_n 0, 1) := by decide +kernel
theorem dX5_sheet_30 : decode cX5_sheet 30 = .ok (.ldc 73, 2) := by decide +kernel
theorem dX5_sheet_32 : decode cX5_sheet 32 = .ok (.invokevirtual 93, 3) := by decide +kernel
theorem dX5_sheet_35 : decode cX5_sheet 35 = .ok (.ireturn, 1) := by decide +kernel
theorem dX5_sheet_36 : decode cX5_sheet 36 = .ok (.iload_n 3, 1) := by decide +kernel
theorem dX5_sheet_37 : decode cX5_sheet 37 = .ok (.ifCond .ge 11, 3) := by decide +kernel
theorem dX5_sheet_40 : decode cX5_sheet 40 = .ok (.aload_n 0, 1) := by decide +kernel
theorem dX5_sheet_41 : decode cX5_sheet 41 = .ok (.ldc_w 321, 3) := by decide +kernel
theorem dX5_sheet_44 : decode cX5_sheet 44 = .ok (.invokevirtual 93, 3) := by decide +kernel
theorem dX5_sheet_47 : decode cX5_sheet 47 = .ok (.ireturn, 1) := by decide +kernel
theorem dX5_sheet_48 : decode cX5_sheet 48 = .ok (.iload_n 3, 1) := by decide +kernel
theorem dX5_sheet_49 : decode cX5_sheet 49 = .ok (.bipush 40, 2) := by decide +kernel
theorem dX5_sheet_51 : decode cX5_sheet 51 = .ok (.if_icmp .le 10, 3) := by decide +kernel
theorem dX5_sheet_54 : decode cX5_sheet 54 = .ok (.aload_n 0, 1) := by decide +kernel
theorem dX5_sheet_55 : decode cX5_sheet 55 = .ok (.ldc 73, 2) := by decide +kernel
theorem dX5_sheet_57 : decode cX5_sheet 57 = .ok (.invokevirtual 93, 3) := by decide +kernel
theorem dX5_sheet_60 : decode cX5_sheet 60 = .ok (.ireturn, 1) := by decide +kernel
theorem dX5_sheet_61 : decode cX5_sheet 61 = .ok (.aload_n 0, 1) := by decide +kernel
theorem dX5_sheet_62 : decode cX5_sheet 62 = .ok (.getfield 61, 3) := by decide +kernel
theorem dX5_sheet_65 : decode cX5_sheet 65 = .ok (.iload_n 1, 1) := by decide +kernel
theorem dX5_sheet_66 : decode cX5_sheet 66 = .ok (.iload_n 2, 1) := by decide +kernel
theorem dX5_sheet_67 : decode cX5_sheet 67 = .ok (.iastore, 1) := by decide +kernel
theorem dX5_sheet_68 : decode cX5_sheet 68 = .ok (.aload_n 0, 1) := by decide +kernel
theorem dX5_sheet_69 : decode cX5_sheet 69 = .ok (.getfield 64, 3) := by decide +kernel
theorem dX5_sheet_72 : decode cX5_sheet 72 = .ok (.iload_n 1, 1) := by decide +kernel
theorem dX5_sheet_73 : decode cX5_sheet 73 = .ok (.iload_n 2, 1) := by decide +kernel
theorem dX5_sheet_74 : decode cX5_sheet 74 = .ok (.ifCond .ne 7, 3) := by decide +kernel
theorem dX5_sheet_77 : decode cX5_sheet 77 = .ok (.iconst 0, 1) := by decide +kernel
theorem dX5_sheet_78 : decode cX5_sheet 78 = .ok (.goto 4, 3) := by decide +kernel
theorem dX5_sheet_81 : decode cX5_sheet 81 = .ok (.iload_n 3, 1) := by decide +kernel
theorem dX5_sheet_82 : decode cX5_sheet 82 = .ok (.iastore, 1) := by decide +kernel
theorem dX5_sheet_83 : decode cX5_sheet 83 = .ok (.iconst 0, 1) := by decide +kernel
theorem dX5_sheet_84 : decode cX5_sheet 84 = .ok (.istore 4, 2) := by decide +kernel
theorem dX5_sheet_86 : decode cX5_sheet 86 = .ok (.iload 4, 2) := by decide +kernel
theorem dX5_sheet_88 : decode cX5_sheet 88 = .ok (.bipush 40, 2) := by decide +kernel
theorem dX5_sheet_90 : decode cX5_sheet 90 = .ok (.if_icmp .ge 22, 3) := by decide +kernel
theorem dX5_sheet_93 : decode cX5_sheet 93 = .ok (.aload_n 0, 1) := by decide +kernel
theorem dX5_sheet_94 : decode cX5_sheet 94 = .ok (.getfield 67, 3) := by decide +kernel
theorem dX5_sheet_97 : decode cX5_sheet 97 = .ok (.bipush 40, 2) := by decide +kernel
theorem dX5_sheet_99 : decode cX5_sheet 99 = .ok (.iload_n 1, 1) := by decide +kernel
theorem dX5_sheet_100 : decode cX5_sheet 100 = .ok (.imul, 1) := by decide +kernel
theorem dX5_sheet_101 : decode cX5_sheet 101 = .ok (.iload 4, 2) := by decide +kernel
theorem dX5_sheet_103 : decode cX5_sheet 103 = .ok (.iadd, 1) := by decide +kernel
theorem dX5_sheet_104 : decode cX5_sheet 104 = .ok (.iconst 0, 1) := by decide +kernel
theorem dX5_sheet_105 : decode cX5_sheet 105 = .ok (.iastore, 1) := by decide +kernel
theorem dX5_sheet_106 : decode cX5_sheet 106 = .ok (.iinc 4 1, 3) := by decide +kernel
theorem dX5_sheet_109 : decode cX5_sheet 109 = .ok (.goto (-23), 3) := by decide +kernel
theorem dX5_sheet_112 : decode cX5_sheet 112 = .ok (.aload_n 0, 1) := by decide +kernel
theorem dX5_sheet_113 : decode cX5_sheet 113 = .ok (.getfield 64, 3) := by decide +kernel
theorem dX5_sheet_116 : decode cX5_sheet 116 = .ok (.iload_n 1, 1) := by decide +kernel
theorem dX5_sheet_117 : decode cX5_sheet 117 = .ok (.iaload, 1) := by decide +kernel
theorem dX5_sheet_118 : decode cX5_sheet 118 = .ok (.ireturn, 1) := by decide +kernel
theorem dX5_write_0 : decode cX5_write 0 = .ok (.iload_n 1, 1) := by decide +kernel
theorem dX5_write_1 : decode cX5_write 1 = .ok (.invokestatic 318, 3) := by decide +kernel
theorem dX5_write_4 : decode cX5_write 4 = .ok (.ifCond .ne 10, 3) := by decide +kernel
theorem dX5_write_7 : decode cX5_write 7 = .ok (.aload_n 0, 1) := by decide +kernel
theorem dX5_write_8 : decode cX5_write 8 = .ok (.ldc 73, 2) := by decide +kernel
theorem dX5_write_10 : decode cX5_write 10 = .ok (.invokevirtual 93, 3) := by decide +kernel
theorem dX5_write_13 : decode cX5_write 13 = .ok (.ireturn, 1) := by decide +kernel
theorem dX5_write_14 : decode cX5_write 14 = .ok (.aload_n 0, 1) := by decide +kernel
theorem dX5_write_15 : decode cX5_write 15 = .ok (.getfield 61, 3) := by decide +kernel
theorem dX5_write_18 : decode cX5_write 18 = .ok (.iload_n 1, 1) := by decide +kernel
theorem dX5_write_19 : decode cX5_write 19 = .ok (.iaload, 1) := by decide +kernel
theorem dX5_write_20 : decode cX5_write 20 = .ok (.ifCond .ne 11, 3) := by decide +kernel
theorem dX5_write_23 : decode cX5_write 23 = .ok (.aload_n 0, 1) := by decide +kernel
theorem dX5_write_24 : decode cX5_write 24 = .ok (.ldc_w 316, 3) := by decide +kernel
theorem dX5_write_27 : decode cX5_write 27 = .ok (.invokevirtual 93, 3) := by decide +kernel
theorem dX5_write_30 : decode cX5_write 30 = .ok (.ireturn, 1) := by decide +kernel
theorem dX5_write_31 : decode cX5_write 31 = .ok (.iload_n 2, 1) := by decide +kernel
theorem dX5_write_32 : decode cX5_write 32 = .ok (.iconst 0, 1) := by decide +kernel
theorem dX5_write_33 : decode cX5_write 33 = .ok (.aload_n 0, 1) := by decide +kernel
theorem dX5_write_34 : decode cX5_write 34 = .ok (.getfield 64, 3) := by decide +kernel
theorem dX5_write_37 : decode cX5_write 37 = .ok (.iload_n 1, 1) := by decide +kernel
theorem dX5_write_38 : decode cX5_write 38 = .ok (.iaload, 1) := by decide +kernel
theorem dX5_write_39 : decode cX5_write 39 = .ok (.iconst 1, 1) := by decide +kernel
theorem dX5_write_40 : decode cX5_write 40 = .ok (.isub, 1) := by decide +kernel
theorem dX5_write_41 : decode cX5_write 41 = .ok (.invokestatic 78, 3) := by decide +kernel
theorem dX5_write_44 : decode cX5_write 44 = .ok (.ifCond .ne 10, 3) := by decide +kernel
theorem dX5_write_47 : decode cX5_write 47 = .ok (.aload_n 0, 1) := by decide +kernel
theorem dX5_write_48 : decode cX5_write 48 = .ok (.ldc 73, 2) := by decide +kernel
theorem dX5_write_50 : decode cX5_write 50 = .ok (.invokevirtual 93, 3) := by decide +kernel
theorem dX5_write_53 : decode cX5_write 53 = .ok (.ireturn, 1) := by decide +kernel
theorem dX5_write_54 : decode cX5_write 54 = .ok (.aload_n 0, 1) := by decide +kernel
theorem dX5_write_55 : decode cX5_write 55 = .ok (.getfield 67, 3) := by decide +kernel
theorem dX5_write_58 : decode cX5_write 58 = .ok (.bipush 40, 2) := by decide +kernel
theorem dX5_write_60 : decode cX5_write 60 = .ok (.iload_n 1, 1) := by decide +kernel
theorem dX5_write_61 : decode cX5_write 61 = .ok (.imul, 1) := by decide +kernel
theorem dX5_write_62 : decode cX5_write 62 = .ok (.iload_n 2, 1) := by decide +kernel
theorem dX5_write_63 : decode cX5_write 63 = .ok (.iadd, 1) := by decide +kernel
theorem dX5_write_64 : decode cX5_write 64 = .ok (.iload_n 3, 1) := by decide +kernel
theorem dX5_write_65 : decode cX5_write 65 = .ok (.aload_n 0, 1) := by decide +kernel
theorem dX5_write_66 : decode cX5_write 66 = .ok (.getfield 61, 3) := by decide +kernel
theorem dX5_write_69 : decode cX5_write 69 = .ok (.iload_n 1, 1) := by decide +kernel
theorem dX5_write_70 : decode cX5_write 70 = .ok (.iaload, 1) := by decide +kernel
theorem dX5_write_71 : decode cX5_write 71 = .ok (.invokestatic 322, 3) := by decide +kernel
theorem dX5_write_74 : decode cX5_write 74 = .ok (.iastore, 1) := by decide +kernel
theorem dX5_write_75 : decode cX5_write 75 = .ok (.iconst 1, 1) := by decide +kernel
theorem dX5_write_76 : decode cX5_write 76 = .ok (.ireturn, 1) := by decide +kernel
theorem dX5_copy_0 : decode cX5_copy 0 = .ok (.iload_n 1, 1) := by decide +kernel
theorem dX5_copy_1 : decode cX5_copy 1 = .ok (.invokestatic 318, 3) := by decide +kernel
theorem dX5_copy_4 : decode cX5_copy 4 = .ok (.ifCond .eq 10, 3) := by decide +kernel
theorem dX5_copy_7 : decode cX5_copy 7 = .ok (.iload_n 3, 1) := by decide +kernel
theorem dX5_copy_8 : decode cX5_copy 8 = .ok (.invokestatic 318, 3) := by decide +kernel
theorem dX5_copy_11 : decode cX5_copy 11 = .ok (.ifCond .ne 10, 3) := by decide +kernel
theorem dX5_copy_14 : decode cX5_copy 14 = .ok (.aload_n 0, 1) := by decide +kernel
theorem dX5_copy_15 : decode cX5_copy 15 = .ok (.ldc 73, 2) := by decide +kernel
theorem dX5_copy_17 : decode cX5_copy 17 = .ok (.invokevirtual 93, 3) := by decide +kernel
theorem dX5_copy_20 : decode cX5_copy 20 = .ok (.ireturn, 1) := by decide +kernel
theorem dX5_copy_21 : decode cX5_copy 21 = .ok (.aload_n 0, 1) := by decide +kernel
theorem dX5_copy_22 : decode cX5_copy 22 = .ok (.getfield 61, 3) := by decide +kernel
theorem dX5_copy_25 : decode cX5_copy 25 = .ok (.iload_n 1, 1) := by decide +kernel
theorem dX5_copy_26 : decode cX5_copy 26 = .ok (.iaload, 1) := by decide +kernel
theorem dX5_copy_27 : decode cX5_copy 27 = .ok (.ifCond .eq 12, 3) := by decide +kernel
theorem dX5_copy_30 : decode cX5_copy 30 = .ok (.aload_n 0, 1) := by decide +kernel
theorem dX5_copy_31 : decode cX5_copy 31 = .ok (.getfield 61, 3) := by decide +kernel
theorem dX5_copy_34 : decode cX5_copy 34 = .ok (.iload_n 3, 1) := by decide +kernel
theorem dX5_copy_35 : decode cX5_copy 35 = .ok (.iaload, 1) := by decide +kernel
theorem dX5_copy_36 : decode cX5_copy 36 = .ok (.ifCond .ne 11, 3) := by decide +kernel
theorem dX5_copy_39 : decode cX5_copy 39 = .ok (.aload_n 0, 1) := by decide +kernel
theorem dX5_copy_40 : decode cX5_copy 40 = .ok (.ldc_w 316, 3) := by decide +kernel
theorem dX5_copy_43 : decode cX5_copy 43 = .ok (.invokevirtual 93, 3) := by decide +kernel
theorem dX5_copy_46 : decode cX5_copy 46 = .ok (.ireturn, 1) := by decide +kernel
theorem dX5_copy_47 : decode cX5_copy 47 = .ok (.aload_n 0, 1) := by decide +kernel
theorem dX5_copy_48 : decode cX5_copy 48 = .ok (.getfield 61, 3) := by decide +kernel
theorem dX5_copy_51 : decode cX5_copy 51 = .ok (.iload_n 1, 1) := by decide +kernel
theorem dX5_copy_52 : decode cX5_copy 52 = .ok (.iaload, 1) := by decide +kernel
theorem dX5_copy_53 : decode cX5_copy 53 = .ok (.aload_n 0, 1) := by decide +kernel
theorem dX5_copy_54 : decode cX5_copy 54 = .ok (.getfield 61, 3) := by decide +kernel
theorem dX5_copy_57 : decode cX5_copy 57 = .ok (.iload_n 3, 1) := by decide +kernel
theorem dX5_copy_58 : decode cX5_copy 58 = .ok (.iaload, 1) := by decide +kernel
theorem dX5_copy_59 : decode cX5_copy 59 = .ok (.if_icmp .eq 11, 3) := by decide +kernel
theorem dX5_copy_62 : decode cX5_copy 62 = .ok (.aload_n 0, 1) := by decide +kernel
theorem dX5_copy_63 : decode cX5_copy 63 = .ok (.ldc_w 317, 3) := by decide +kernel
theorem dX5_copy_66 : decode cX5_copy 66 = .ok (.invokevirtual 93, 3) := by decide +kernel
theorem dX5_copy_69 : decode cX5_copy 69 = .ok (.ireturn, 1) := by decide +kernel
theorem dX5_copy_70 : decode cX5_copy 70 = .ok (.iload_n 2, 1) := by decide +kernel
theorem dX5_copy_71 : decode cX5_copy 71 = .ok (.ifCond .lt 48, 3) := by decide +kernel
theorem dX5_copy_74 : decode cX5_copy 74 = .ok (.iload 4, 2) := by decide +kernel
theorem dX5_copy_76 : decode cX5_copy 76 = .ok (.ifCond .lt 43, 3) := by decide +kernel
theorem dX5_copy_79 : decode cX5_copy 79 = .ok (.iload 5, 2) := by decide +kernel
theorem dX5_copy_81 : decode cX5_copy 81 = .ok (.ifCond .lt 38, 3) := by decide +kernel
theorem dX5_copy_84 : decode cX5_copy 84 = .ok (.iload_n 2, 1) := by decide +kernel
theorem dX5_copy_85 : decode cX5_copy 85 = .ok (.i2l, 1) := by decide +kernel
theorem dX5_copy_86 : decode cX5_copy 86 = .ok (.iload 5, 2) := by decide +kernel
theorem dX5_copy_88 : decode cX5_copy 88 = .ok (.i2l, 1) := by decide +kernel
theorem dX5_copy_89 : decode cX5_copy 89 = .ok (.ladd, 1) := by decide +kernel
theorem dX5_copy_90 : decode cX5_copy 90 = .ok (.aload_n 0, 1) := by decide +kernel
theorem dX5_copy_91 : decode cX5_copy 91 = .ok (.getfield 64, 3) := by decide +kernel
theorem dX5_copy_94 : decode cX5_copy 94 = .ok (.iload_n 1, 1) := by decide +kernel
theorem dX5_copy_95 : decode cX5_copy 95 = .ok (.iaload, 1) := by decide +kernel
theorem dX5_copy_96 : decode cX5_copy 96 = .ok (.i2l, 1) := by decide +kernel
theorem dX5_copy_97 : decode cX5_copy 97 = .ok (.lcmp, 1) := by decide +kernel
theorem dX5_copy_98 : decode cX5_copy 98 = .ok (.ifCond .gt 21, 3) := by decide +kernel
theorem dX5_copy_101 : decode cX5_copy 101 = .ok (.iload 4, 2) := by decide +kernel
theorem dX5_copy_103 : decode cX5_copy 103 = .ok (.i2l, 1) := by decide +kernel
theorem dX5_copy_104 : decode cX5_copy 104 = .ok (.iload 5, 2) := by decide +kernel
theorem dX5_copy_106 : decode cX5_copy 106 = .ok (.i2l, 1) := by decide +kernel
theorem dX5_copy_107 : decode cX5_copy 107 = .ok (.ladd, 1) := by decide +kernel
theorem dX5_copy_108 : decode cX5_copy 108 = .ok (.aload_n 0, 1) := by decide +kernel
theorem dX5_copy_109 : decode cX5_copy 109 = .ok (.getfield 64, 3) := by decide +kernel
theorem dX5_copy_112 : decode cX5_copy 112 = .ok (.iload_n 3, 1) := by decide +kernel
theorem dX5_copy_113 : decode cX5_copy 113 = .ok (.iaload, 1) := by decide +kernel
theorem dX5_copy_114 : decode cX5_copy 114 = .ok (.i2l, 1) := by decide +kernel
theorem dX5_copy_115 : decode cX5_copy 115 = .ok (.lcmp, 1) := by decide +kernel
theorem dX5_copy_116 : decode cX5_copy 116 = .ok (.ifCond .le 10, 3) := by decide +kernel
theorem dX5_copy_119 : decode cX5_copy 119 = .ok (.aload_n 0, 1) := by decide +kernel
theorem dX5_copy_120 : decode cX5_copy 120 = .ok (.ldc 73, 2) := by decide +kernel
theorem dX5_copy_122 : decode cX5_copy 122 = .ok (.invokevirtual 93, 3) := by decide +kernel
theorem dX5_copy_125 : decode cX5_copy 125 = .ok (.ireturn, 1) := by decide +kernel
theorem dX5_copy_126 : decode cX5_copy 126 = .ok (.iconst 0, 1) := by decide +kernel
theorem dX5_copy_127 : decode cX5_copy 127 = .ok (.istore 6, 2) := by decide +kernel
theorem dX5_copy_129 : decode cX5_copy 129 = .ok (.iload 6, 2) := by decide +kernel
theorem dX5_copy_131 : decode cX5_copy 131 = .ok (.iload 5, 2) := by decide +kernel
theorem dX5_copy_133 : decode cX5_copy 133 = .ok (.if_icmp .ge 30, 3) := by decide +kernel
theorem dX5_copy_136 : decode cX5_copy 136 = .ok (.aload_n 0, 1) := by decide +kernel
theorem dX5_copy_137 : decode cX5_copy 137 = .ok (.getfield 70, 3) := by decide +kernel
theorem dX5_copy_140 : decode cX5_copy 140 = .ok (.iload 6, 2) := by decide +kernel
theorem dX5_copy_142 : decode cX5_copy 142 = .ok (.aload_n 0, 1) := by decide +kernel
theorem dX5_copy_143 : decode cX5_copy 143 = .ok (.getfield 67, 3) := by decide +kernel
theorem dX5_copy_146 : decode cX5_copy 146 = .ok (.bipush 40, 2) := by decide +kernel
theorem dX5_copy_148 : decode cX5_copy 148 = .ok (.iload_n 1, 1) := by decide +kernel
theorem dX5_copy_149 : decode cX5_copy 149 = .ok (.imul, 1) := by decide +kernel
theorem dX5_copy_150 : decode cX5_copy 150 = .ok (.iload_n 2, 1) := by decide +kernel
theorem dX5_copy_151 : decode cX5_copy 151 = .ok (.iadd, 1) := by decide +kernel
theorem dX5_copy_152 : decode cX5_copy 152 = .ok (.iload 6, 2) := by decide +kernel
theorem dX5_copy_154 : decode cX5_copy 154 = .ok (.iadd, 1) := by decide +kernel
theorem dX5_copy_155 : decode cX5_copy 155 = .ok (.iaload, 1) := by decide +kernel
theorem dX5_copy_156 : decode cX5_copy 156 = .ok (.iastore, 1) := by decide +kernel
theorem dX5_copy_157 : decode cX5_copy 157 = .ok (.iinc 6 1, 3) := by decide +kernel
theorem dX5_copy_160 : decode cX5_copy 160 = .ok (.goto (-31), 3) := by decide +kernel
theorem dX5_copy_163 : decode cX5_copy 163 = .ok (.iconst 0, 1) := by decide +kernel
theorem dX5_copy_164 : decode cX5_copy 164 = .ok (.istore 6, 2) := by decide +kernel
theorem dX5_copy_166 : decode cX5_copy 166 = .ok (.iload 6, 2) := by decide +kernel
theorem dX5_copy_168 : decode cX5_copy 168 = .ok (.iload 5, 2) := by decide +kernel
theorem dX5_copy_170 : decode cX5_copy 170 = .ok (.if_icmp .ge 31, 3) := by decide +kernel
theorem dX5_copy_173 : decode cX5_copy 173 = .ok (.aload_n 0, 1) := by decide +kernel
theorem dX5_copy_174 : decode cX5_copy 174 = .ok (.getfield 67, 3) := by decide +kernel
theorem dX5_copy_177 : decode cX5_copy 177 = .ok (.bipush 40, 2) := by decide +kernel
theorem dX5_copy_179 : decode cX5_copy 179 = .ok (.iload_n 3, 1) := by decide +kernel
theorem dX5_copy_180 : decode cX5_copy 180 = .ok (.imul, 1) := by decide +kernel
theorem dX5_copy_181 : decode cX5_copy 181 = .ok (.iload 4, 2) := by decide +kernel
theorem dX5_copy_183 : decode cX5_copy 183 = .ok (.iadd, 1) := by decide +kernel
theorem dX5_copy_184 : decode cX5_copy 184 = .ok (.iload 6, 2) := by decide +kernel
theorem dX5_copy_186 : decode cX5_copy 186 = .ok (.iadd, 1) := by decide +kernel
theorem dX5_copy_187 : decode cX5_copy 187 = .ok (.aload_n 0, 1) := by decide +kernel
theorem dX5_copy_188 : decode cX5_copy 188 = .ok (.getfield 70, 3) := by decide +kernel
theorem dX5_copy_191 : decode cX5_copy 191 = .ok (.iload 6, 2) := by decide +kernel
theorem dX5_copy_193 : decode cX5_copy 193 = .ok (.iaload, 1) := by decide +kernel
theorem dX5_copy_194 : decode cX5_copy 194 = .ok (.iastore, 1) := by decide +kernel
theorem dX5_copy_195 : decode cX5_copy 195 = .ok (.iinc 6 1, 3) := by decide +kernel
theorem dX5_copy_198 : decode cX5_copy 198 = .ok (.goto (-32), 3) := by decide +kernel
theorem dX5_copy_201 : decode cX5_copy 201 = .ok (.iload 5, 2) := by decide +kernel
theorem dX5_copy_203 : decode cX5_copy 203 = .ok (.ireturn, 1) := by decide +kernel
theorem dX5_load_0 : decode cX5_load 0 = .ok (.iload_n 1, 1) := by decide +kernel
theorem dX5_load_1 : decode cX5_load 1 = .ok (.invokestatic 318, 3) := by decide +kernel
theorem dX5_load_4 : decode cX5_load 4 = .ok (.ifCond .ne 10, 3) := by decide +kernel
theorem dX5_load_7 : decode cX5_load 7 = .ok (.aload_n 0, 1) := by decide +kernel
theorem dX5_load_8 : decode cX5_load 8 = .ok (.ldc 73, 2) := by decide +kernel
theorem dX5_load_10 : decode cX5_load 10 = .ok (.invokevirtual 93, 3) := by decide +kernel
theorem dX5_load_13 : decode cX5_load 13 = .ok (.ireturn, 1) := by decide +kernel
theorem dX5_load_14 : decode cX5_load 14 = .ok (.aload_n 0, 1) := by decide +kernel
theorem dX5_load_15 : decode cX5_load 15 = .ok (.getfield 61, 3) := by decide +kernel
theorem dX5_load_18 : decode cX5_load 18 = .ok (.iload_n 1, 1) := by decide +kernel
theorem dX5_load_19 : decode cX5_load 19 = .ok (.iaload, 1) := by decide +kernel
theorem dX5_load_20 : decode cX5_load 20 = .ok (.ifCond .ne 11, 3) := by decide +kernel
theorem dX5_load_23 : decode cX5_load 23 = .ok (.aload_n 0, 1) := by decide +kernel
theorem dX5_load_24 : decode cX5_load 24 = .ok (.ldc_w 316, 3) := by decide +kernel
theorem dX5_load_27 : decode cX5_load 27 = .ok (.invokevirtual 93, 3) := by decide +kernel
theorem dX5_load_30 : decode cX5_load 30 = .ok (.ireturn, 1) := by decide +kernel
theorem dX5_load_31 : decode cX5_load 31 = .ok (.iconst 0, 1) := by decide +kernel
theorem dX5_load_32 : decode cX5_load 32 = .ok (.istore_n 2, 1) := by decide +kernel
theorem dX5_load_33 : decode cX5_load 33 = .ok (.iload_n 2, 1) := by decide +kernel
theorem dX5_load_34 : decode cX5_load 34 = .ok (.aload_n 0, 1) := by decide +kernel
theorem dX5_load_35 : decode cX5_load 35 = .ok (.getfield 64, 3) := by decide +kernel
theorem dX5_load_38 : decode cX5_load 38 = .ok (.iload_n 1, 1) := by decide +kernel
theorem dX5_load_39 : decode cX5_load 39 = .ok (.iaload, 1) := by decide +kernel
theorem dX5_load_40 : decode cX5_load 40 = .ok (.if_icmp .ge 58, 3) := by decide +kernel
theorem dX5_load_43 : decode cX5_load 43 = .ok (.aload_n 0, 1) := by decide +kernel
theorem dX5_load_44 : decode cX5_load 44 = .ok (.iload_n 2, 1) := by decide +kernel
theorem dX5_load_45 : decode cX5_load 45 = .ok (.invokevirtual 120, 3) := by decide +kernel
theorem dX5_load_48 : decode cX5_load 48 = .ok (.ifCond .eq 50, 3) := by decide +kernel
theorem dX5_load_51 : decode cX5_load 51 = .ok (.aload_n 0, 1) := by decide +kernel
theorem dX5_load_52 : decode cX5_load 52 = .ok (.getfield 67, 3) := by decide +kernel
theorem dX5_load_55 : decode cX5_load 55 = .ok (.bipush 40, 2) := by decide +kernel
theorem dX5_load_57 : decode cX5_load 57 = .ok (.iload_n 1, 1) := by decide +kernel
theorem dX5_load_58 : decode cX5_load 58 = .ok (.imul, 1) := by decide +kernel
theorem dX5_load_59 : decode cX5_load 59 = .ok (.iload_n 2, 1) := by decide +kernel
theorem dX5_load_60 : decode cX5_load 60 = .ok (.iadd, 1) := by decide +kernel
theorem dX5_load_61 : decode cX5_load 61 = .ok (.iaload, 1) := by decide +kernel
theorem dX5_load_62 : decode cX5_load 62 = .ok (.iconst 1, 1) := by decide +kernel
theorem dX5_load_63 : decode cX5_load 63 = .ok (.bipush 40, 2) := by decide +kernel
theorem dX5_load_65 : decode cX5_load 65 = .ok (.invokestatic 78, 3) := by decide +kernel
theorem dX5_load_68 : decode cX5_load 68 = .ok (.ifCond .eq 30, 3) := by decide +kernel
theorem dX5_load_71 : decode cX5_load 71 = .ok (.aload_n 0, 1) := by decide +kernel
theorem dX5_load_72 : decode cX5_load 72 = .ok (.getfield 9, 3) := by decide +kernel
theorem dX5_load_75 : decode cX5_load 75 = .ok (.iload_n 2, 1) := by decide +kernel
theorem dX5_load_76 : decode cX5_load 76 = .ok (.iconst 1, 1) := by decide +kernel
theorem dX5_load_77 : decode cX5_load 77 = .ok (.invokestatic 82, 3) := by decide +kernel
theorem dX5_load_80 : decode cX5_load 80 = .ok (.aload_n 0, 1) := by decide +kernel
theorem dX5_load_81 : decode cX5_load 81 = .ok (.getfield 67, 3) := by decide +kernel
theorem dX5_load_84 : decode cX5_load 84 = .ok (.bipush 40, 2) := by decide +kernel
theorem dX5_load_86 : decode cX5_load 86 = .ok (.iload_n 1, 1) := by decide +kernel
theorem dX5_load_87 : decode cX5_load 87 = .ok (.imul, 1) := by decide +kernel
theorem dX5_load_88 : decode cX5_load 88 = .ok (.iload_n 2, 1) := by decide +kernel
theorem dX5_load_89 : decode cX5_load 89 = .ok (.iadd, 1) := by decide +kernel
theorem dX5_load_90 : decode cX5_load 90 = .ok (.iaload, 1) := by decide +kernel
theorem dX5_load_91 : decode cX5_load 91 = .ok (.iastore, 1) := by decide +kernel
theorem dX5_load_92 : decode cX5_load 92 = .ok (.iinc 2 1, 3) := by decide +kernel
theorem dX5_load_95 : decode cX5_load 95 = .ok (.goto (-62), 3) := by decide +kernel
theorem dX5_load_98 : decode cX5_load 98 = .ok (.iload_n 2, 1) := by decide +kernel
theorem dX5_load_99 : decode cX5_load 99 = .ok (.ireturn, 1) := by decide +kernel
theorem dX5_judge_0 : decode cX5_judge 0 = .ok (.iload_n 1, 1) := by decide +kernel
theorem dX5_judge_1 : decode cX5_judge 1 = .ok (.invokestatic 318, 3) := by decide +kernel
theorem dX5_judge_4 : decode cX5_judge 4 = .ok (.ifCond .ne 10, 3) := by decide +kernel
theorem dX5_judge_7 : decode cX5_judge 7 = .ok (.aload_n 0, 1) := by decide +kernel
theorem dX5_judge_8 : decode cX5_judge 8 = .ok (.ldc 73, 2) := by decide +kernel
theorem dX5_judge_10 : decode cX5_judge 10 = .ok (.invokevirtual 93, 3) := by decide +kernel
theorem dX5_judge_13 : decode cX5_judge 13 = .ok (.ireturn, 1) := by decide +kernel
theorem dX5_judge_14 : decode cX5_judge 14 = .ok (.aload_n 0, 1) := by decide +kernel
theorem dX5_judge_15 : decode cX5_judge 15 = .ok (.getfield 61, 3) := by decide +kernel
theorem dX5_judge_18 : decode cX5_judge 18 = .ok (.iload_n 1, 1) := by decide +kernel
theorem dX5_judge_19 : decode cX5_judge 19 = .ok (.iaload, 1) := by decide +kernel
theorem dX5_judge_20 : decode cX5_judge 20 = .ok (.ifCond .ne 11, 3) := by decide +kernel
theorem dX5_judge_23 : decode cX5_judge 23 = .ok (.aload_n 0, 1) := by decide +kernel
theorem dX5_judge_24 : decode cX5_judge 24 = .ok (.ldc_w 316, 3) := by decide +kernel
theorem dX5_judge_27 : decode cX5_judge 27 = .ok (.invokevirtual 93, 3) := by decide +kernel
theorem dX5_judge_30 : decode cX5_judge 30 = .ok (.ireturn, 1) := by decide +kernel
theorem dX5_judge_31 : decode cX5_judge 31 = .ok (.aload_n 0, 1) := by decide +kernel
theorem dX5_judge_32 : decode cX5_judge 32 = .ok (.iload_n 2, 1) := by decide +kernel
theorem dX5_judge_33 : decode cX5_judge 33 = .ok (.invokevirtual 120, 3) := by decide +kernel
theorem dX5_judge_36 : decode cX5_judge 36 = .ok (.ifCond .ne 10, 3) := by decide +kernel
theorem dX5_judge_39 : decode cX5_judge 39 = .ok (.aload_n 0, 1) := by decide +kernel
theorem dX5_judge_40 : decode cX5_judge 40 = .ok (.ldc 73, 2) := by decide +kernel
theorem dX5_judge_42 : decode cX5_judge 42 = .ok (.invokevirtual 93, 3) := by decide +kernel
theorem dX5_judge_45 : decode cX5_judge 45 = .ok (.ireturn, 1) := by decide +kernel
theorem dX5_judge_46 : decode cX5_judge 46 = .ok (.aload_n 0, 1) := by decide +kernel
theorem dX5_judge_47 : decode cX5_judge 47 = .ok (.aload_n 0, 1) := by decide +kernel
theorem dX5_judge_48 : decode cX5_judge 48 = .ok (.getfield 64, 3) := by decide +kernel
theorem dX5_judge_51 : decode cX5_judge 51 = .ok (.iload_n 1, 1) := by decide +kernel
theorem dX5_judge_52 : decode cX5_judge 52 = .ok (.iaload, 1) := by decide +kernel
theorem dX5_judge_53 : decode cX5_judge 53 = .ok (.invokevirtual 166, 3) := by decide +kernel
theorem dX5_judge_56 : decode cX5_judge 56 = .ok (.ifCond .eq 10, 3) := by decide +kernel
theorem dX5_judge_59 : decode cX5_judge 59 = .ok (.aload_n 0, 1) := by decide +kernel
theorem dX5_judge_60 : decode cX5_judge 60 = .ok (.ldc 169, 2) := by decide +kernel
theorem dX5_judge_62 : decode cX5_judge 62 = .ok (.invokevirtual 93, 3) := by decide +kernel
theorem dX5_judge_65 : decode cX5_judge 65 = .ok (.ireturn, 1) := by decide +kernel
theorem dX5_judge_66 : decode cX5_judge 66 = .ok (.aload_n 0, 1) := by decide +kernel
theorem dX5_judge_67 : decode cX5_judge 67 = .ok (.getfield 9, 3) := by decide +kernel
theorem dX5_judge_70 : decode cX5_judge 70 = .ok (.aload_n 0, 1) := by decide +kernel
theorem dX5_judge_71 : decode cX5_judge 71 = .ok (.getfield 16, 3) := by decide +kernel
theorem dX5_judge_74 : decode cX5_judge 74 = .ok (.invokestatic 74, 3) := by decide +kernel
theorem dX5_judge_77 : decode cX5_judge 77 = .ok (.iconst 0, 1) := by decide +kernel
theorem dX5_judge_78 : decode cX5_judge 78 = .ok (.istore_n 3, 1) := by decide +kernel
theorem dX5_judge_79 : decode cX5_judge 79 = .ok (.iload_n 3, 1) := by decide +kernel
theorem dX5_judge_80 : decode cX5_judge 80 = .ok (.aload_n 0, 1) := by decide +kernel
theorem dX5_judge_81 : decode cX5_judge 81 = .ok (.getfield 64, 3) := by decide +kernel
theorem dX5_judge_84 : decode cX5_judge 84 = .ok (.iload_n 1, 1) := by decide +kernel
theorem dX5_judge_85 : decode cX5_judge 85 = .ok (.iaload, 1) := by decide +kernel
theorem dX5_judge_86 : decode cX5_judge 86 = .ok (.if_icmp .ge 37, 3) := by decide +kernel
theorem dX5_judge_89 : decode cX5_judge 89 = .ok (.aload_n 0, 1) := by decide +kernel
theorem dX5_judge_90 : decode cX5_judge 90 = .ok (.iconst 1, 1) := by decide +kernel
theorem dX5_judge_91 : decode cX5_judge 91 = .ok (.invokevirtual 170, 3) := by decide +kernel
theorem dX5_judge_94 : decode cX5_judge 94 = .ok (.ifCond .lt 29, 3) := by decide +kernel
theorem dX5_judge_97 : decode cX5_judge 97 = .ok (.aload_n 0, 1) := by decide +kernel
theorem dX5_judge_98 : decode cX5_judge 98 = .ok (.iload_n 2, 1) := by decide +kernel
theorem dX5_judge_99 : decode cX5_judge 99 = .ok (.iconst 4, 1) := by decide +kernel
theorem dX5_judge_100 : decode cX5_judge 100 = .ok (.invokevirtual 105, 3) := by decide +kernel
theorem dX5_judge_103 : decode cX5_judge 103 = .ok (.aload_n 0, 1) := by decide +kernel
theorem dX5_judge_104 : decode cX5_judge 104 = .ok (.getfield 67, 3) := by decide +kernel
theorem dX5_judge_107 : decode cX5_judge 107 = .ok (.bipush 40, 2) := by decide +kernel
theorem dX5_judge_109 : decode cX5_judge 109 = .ok (.iload_n 1, 1) := by decide +kernel
theorem dX5_judge_110 : decode cX5_judge 110 = .ok (.imul, 1) := by decide +kernel
theorem dX5_judge_111 : decode cX5_judge 111 = .ok (.iload_n 3, 1) := by decide +kernel
theorem dX5_judge_112 : decode cX5_judge 112 = .ok (.iadd, 1) := by decide +kernel
theorem dX5_judge_113 : decode cX5_judge 113 = .ok (.iaload, 1) := by decide +kernel
theorem dX5_judge_114 : decode cX5_judge 114 = .ok (.if_icmp .ne 9, 3) := by decide +kernel
theorem dX5_judge_117 : decode cX5_judge 117 = .ok (.iinc 3 1, 3) := by decide +kernel
theorem dX5_judge_120 : decode cX5_judge 120 = .ok (.goto (-41), 3) := by decide +kernel
theorem dX5_judge_123 : decode cX5_judge 123 = .ok (.aload_n 0, 1) := by decide +kernel
theorem dX5_judge_124 : decode cX5_judge 124 = .ok (.iload_n 3, 1) := by decide +kernel
theorem dX5_judge_125 : decode cX5_judge 125 = .ok (.aload_n 0, 1) := by decide +kernel
theorem dX5_judge_126 : decode cX5_judge 126 = .ok (.getfield 64, 3) := by decide +kernel
theorem dX5_judge_129 : decode cX5_judge 129 = .ok (.iload_n 1, 1) := by decide +kernel
theorem dX5_judge_130 : decode cX5_judge 130 = .ok (.iaload, 1) := by decide +kernel
theorem dX5_judge_131 : decode cX5_judge 131 = .ok (.if_icmp .ne 7, 3) := by decide +kernel
theorem dX5_judge_134 : decode cX5_judge 134 = .ok (.iconst 0, 1) := by decide +kernel
theorem dX5_judge_135 : decode cX5_judge 135 = .ok (.goto 6, 3) := by decide +kernel
theorem dX5_judge_138 : decode cX5_judge 138 = .ok (.iconst 1, 1) := by decide +kernel
theorem dX5_judge_139 : decode cX5_judge 139 = .ok (.iload_n 3, 1) := by decide +kernel
theorem dX5_judge_140 : decode cX5_judge 140 = .ok (.iadd, 1) := by decide +kernel
theorem dX5_judge_141 : decode cX5_judge 141 = .ok (.invokevirtual 177, 3) := by decide +kernel
theorem dX5_judge_144 : decode cX5_judge 144 = .ok (.ireturn, 1) := by decide +kernel
theorem dX5_image_0 : decode cX5_image 0 = .ok (.aload_n 0, 1) := by decide +kernel
theorem dX5_image_1 : decode cX5_image 1 = .ok (.getfield 9, 3) := by decide +kernel
theorem dX5_image_4 : decode cX5_image 4 = .ok (.aload_n 0, 1) := by decide +kernel
theorem dX5_image_5 : decode cX5_image 5 = .ok (.getfield 13, 3) := by decide +kernel
theorem dX5_image_8 : decode cX5_image 8 = .ok (.invokestatic 74, 3) := by decide +kernel
theorem dX5_image_11 : decode cX5_image 11 = .ok (.aload_n 0, 1) := by decide +kernel
theorem dX5_image_12 : decode cX5_image 12 = .ok (.iconst 1, 1) := by decide +kernel
theorem dX5_image_13 : decode cX5_image 13 = .ok (.putfield 325, 3) := by decide +kernel
theorem dX5_image_16 : decode cX5_image 16 = .ok (.iconst 1, 1) := by decide +kernel
theorem dX5_image_17 : decode cX5_image 17 = .ok (.ireturn, 1) := by decide +kernel
theorem dX5_undo_0 : decode cX5_undo 0 = .ok (.aload_n 0, 1) := by decide +kernel
theorem dX5_undo_1 : decode cX5_undo 1 = .ok (.getfield 325, 3) := by decide +kernel
theorem dX5_undo_4 : decode cX5_undo 4 = .ok (.ifCond .ne 10, 3) := by decide +kernel
theorem dX5_undo_7 : decode cX5_undo 7 = .ok (.aload_n 0, 1) := by decide +kernel
theorem dX5_undo_8 : decode cX5_undo 8 = .ok (.ldc 188, 2) := by decide +kernel
theorem dX5_undo_10 : decode cX5_undo 10 = .ok (.invokevirtual 93, 3) := by decide +kernel
theorem dX5_undo_13 : decode cX5_undo 13 = .ok (.ireturn, 1) := by decide +kernel
theorem dX5_undo_14 : decode cX5_undo 14 = .ok (.aload_n 0, 1) := by decide +kernel
theorem dX5_undo_15 : decode cX5_undo 15 = .ok (.getfield 13, 3) := by decide +kernel
theorem dX5_undo_18 : decode cX5_undo 18 = .ok (.aload_n 0, 1) := by decide +kernel
theorem dX5_undo_19 : decode cX5_undo 19 = .ok (.getfield 9, 3) := by decide +kernel
theorem dX5_undo_22 : decode cX5_undo 22 = .ok (.invokestatic 74, 3) := by decide +kernel
theorem dX5_undo_25 : decode cX5_undo 25 = .ok (.aload_n 0, 1) := by decide +kernel
theorem dX5_undo_26 : decode cX5_undo 26 = .ok (.getfield 9, 3) := by decide +kernel
theorem dX5_undo_29 : decode cX5_undo 29 = .ok (.iconst 0, 1) := by decide +kernel
theorem dX5_undo_30 : decode cX5_undo 30 = .ok (.iaload, 1) := by decide +kernel
theorem dX5_undo_31 : decode cX5_undo 31 = .ok (.ireturn, 1) := by decide +kernel
theorem dX5_tear_0 : decode cX5_tear 0 = .ok (.aload_n 0, 1) := by decide +kernel
theorem dX5_tear_1 : decode cX5_tear 1 = .ok (.getfield 325, 3) := by decide +kernel
theorem dX5_tear_4 : decode cX5_tear 4 = .ok (.ifCond .eq 7, 3) := by decide +kernel
theorem dX5_tear_7 : decode cX5_tear 7 = .ok (.iconst 1, 1) := by decide +kernel
theorem dX5_tear_8 : decode cX5_tear 8 = .ok (.goto 4, 3) := by decide +kernel
theorem dX5_tear_11 : decode cX5_tear 11 = .ok (.iconst 0, 1) := by decide +kernel
theorem dX5_tear_12 : decode cX5_tear 12 = .ok (.istore_n 1, 1) := by decide +kernel
theorem dX5_tear_13 : decode cX5_tear 13 = .ok (.aload_n 0, 1) := by decide +kernel
theorem dX5_tear_14 : decode cX5_tear 14 = .ok (.iconst 0, 1) := by decide +kernel
theorem dX5_tear_15 : decode cX5_tear 15 = .ok (.putfield 325, 3) := by decide +kernel
theorem dX5_tear_18 : decode cX5_tear 18 = .ok (.iload_n 1, 1) := by decide +kernel
theorem dX5_tear_19 : decode cX5_tear 19 = .ok (.ireturn, 1) := by decide +kernel
theorem dX5_count_0 : decode cX5_count 0 = .ok (.iconst 0, 1) := by decide +kernel
theorem dX5_count_1 : decode cX5_count 1 = .ok (.istore_n 2, 1) := by decide +kernel
theorem dX5_count_2 : decode cX5_count 2 = .ok (.iload_n 1, 1) := by decide +kernel
theorem dX5_count_3 : decode cX5_count 3 = .ok (.tableswitch 126 0 7 #[45, 52, 59, 66, 73, 78, 83, 90], 45) := by decide +kernel
theorem dX5_count_48 : decode cX5_count 48 = .ok (.aload_n 0, 1) := by decide +kernel
theorem dX5_count_49 : decode cX5_count 49 = .ok (.getfield 9, 3) := by decide +kernel
theorem dX5_count_52 : decode cX5_count 52 = .ok (.iconst 0, 1) := by decide +kernel
theorem dX5_count_53 : decode cX5_count 53 = .ok (.iaload, 1) := by decide +kernel
theorem dX5_count_54 : decode cX5_count 54 = .ok (.ireturn, 1) := by decide +kernel
theorem dX5_count_55 : decode cX5_count 55 = .ok (.aload_n 0, 1) := by decide +kernel
theorem dX5_count_56 : decode cX5_count 56 = .ok (.getfield 9, 3) := by decide +kernel
theorem dX5_count_59 : decode cX5_count 59 = .ok (.iconst 4, 1) := by decide +kernel
theorem dX5_count_60 : decode cX5_count 60 = .ok (.iaload, 1) := by decide +kernel
theorem dX5_count_61 : decode cX5_count 61 = .ok (.ireturn, 1) := by decide +kernel
theorem dX5_count_62 : decode cX5_count 62 = .ok (.aload_n 0, 1) := by decide +kernel
theorem dX5_count_63 : decode cX5_count 63 = .ok (.getfield 9, 3) := by decide +kernel
theorem dX5_count_66 : decode cX5_count 66 = .ok (.iconst 1, 1) := by decide +kernel
theorem dX5_count_67 : decode cX5_count 67 = .ok (.iaload, 1) := by decide +kernel
theorem dX5_count_68 : decode cX5_count 68 = .ok (.ireturn, 1) := by decide +kernel
theorem dX5_count_69 : decode cX5_count 69 = .ok (.aload_n 0, 1) := by decide +kernel
theorem dX5_count_70 : decode cX5_count 70 = .ok (.iconst (-1), 1) := by decide +kernel
theorem dX5_count_71 : decode cX5_count 71 = .ok (.iconst 3, 1) := by decide +kernel
theorem dX5_count_72 : decode cX5_count 72 = .ok (.invokevirtual 144, 3) := by decide +kernel
theorem dX5_count_75 : decode cX5_count 75 = .ok (.ireturn, 1) := by decide +kernel
theorem dX5_count_76 : decode cX5_count 76 = .ok (.aload_n 0, 1) := by decide +kernel
theorem dX5_count_77 : decode cX5_count 77 = .ok (.invokevirtual 173, 3) := by decide +kernel
theorem dX5_count_80 : decode cX5_count 80 = .ok (.ireturn, 1) := by decide +kernel
theorem dX5_count_81 : decode cX5_count 81 = .ok (.aload_n 0, 1) := by decide +kernel
theorem dX5_count_82 : decode cX5_count 82 = .ok (.getfield 235, 3) := by decide +kernel
theorem dX5_count_85 : decode cX5_count 85 = .ok (.ireturn, 1) := by decide +kernel
theorem dX5_count_86 : decode cX5_count 86 = .ok (.aload_n 0, 1) := by decide +kernel
theorem dX5_count_87 : decode cX5_count 87 = .ok (.getfield 9, 3) := by decide +kernel
theorem dX5_count_90 : decode cX5_count 90 = .ok (.iconst 5, 1) := by decide +kernel
theorem dX5_count_91 : decode cX5_count 91 = .ok (.iaload, 1) := by decide +kernel
theorem dX5_count_92 : decode cX5_count 92 = .ok (.ireturn, 1) := by decide +kernel
theorem dX5_count_93 : decode cX5_count 93 = .ok (.iconst 0, 1) := by decide +kernel
theorem dX5_count_94 : decode cX5_count 94 = .ok (.istore_n 3, 1) := by decide +kernel
theorem dX5_count_95 : decode cX5_count 95 = .ok (.iload_n 3, 1) := by decide +kernel
theorem dX5_count_96 : decode cX5_count 96 = .ok (.bipush 10, 2) := by decide +kernel
theorem dX5_count_98 : decode cX5_count 98 = .ok (.if_icmp .ge 29, 3) := by decide +kernel
theorem dX5_count_101 : decode cX5_count 101 = .ok (.iload_n 2, 1) := by decide +kernel
theorem dX5_count_102 : decode cX5_count 102 = .ok (.aload_n 0, 1) := by decide +kernel
theorem dX5_count_103 : decode cX5_count 103 = .ok (.getfield 9, 3) := by decide +kernel
theorem dX5_count_106 : decode cX5_count 106 = .ok (.bipush 6, 2) := by decide +kernel
theorem dX5_count_108 : decode cX5_count 108 = .ok (.iload_n 3, 1) := by decide +kernel
theorem dX5_count_109 : decode cX5_count 109 = .ok (.iadd, 1) := by decide +kernel
theorem dX5_count_110 : decode cX5_count 110 = .ok (.iaload, 1) := by decide +kernel
theorem dX5_count_111 : decode cX5_count 111 = .ok (.ifCond .ge 7, 3) := by decide +kernel
theorem dX5_count_114 : decode cX5_count 114 = .ok (.iconst 0, 1) := by decide +kernel
theorem dX5_count_115 : decode cX5_count 115 = .ok (.goto 4, 3) := by decide +kernel
theorem dX5_count_118 : decode cX5_count 118 = .ok (.iconst 1, 1) := by decide +kernel
theorem dX5_count_119 : decode cX5_count 119 = .ok (.iadd, 1) := by decide +kernel
theorem dX5_count_120 : decode cX5_count 120 = .ok (.istore_n 2, 1) := by decide +kernel
theorem dX5_count_121 : decode cX5_count 121 = .ok (.iinc 3 1, 3) := by decide +kernel
theorem dX5_count_124 : decode cX5_count 124 = .ok (.goto (-29), 3) := by decide +kernel
theorem dX5_count_127 : decode cX5_count 127 = .ok (.iload_n 2, 1) := by decide +kernel
theorem dX5_count_128 : decode cX5_count 128 = .ok (.ireturn, 1) := by decide +kernel
theorem dX5_count_129 : decode cX5_count 129 = .ok (.aload_n 0, 1) := by decide +kernel
theorem dX5_count_130 : decode cX5_count 130 = .ok (.ldc 73, 2) := by decide +kernel
theorem dX5_count_132 : decode cX5_count 132 = .ok (.invokevirtual 93, 3) := by decide +kernel
theorem dX5_count_135 : decode cX5_count 135 = .ok (.ireturn, 1) := by decide +kernel
theorem dX5_status_0 : decode cX5_status 0 = .ok (.iload_n 1, 1) := by decide +kernel
theorem dX5_status_1 : decode cX5_status 1 = .ok (.iconst (-1), 1) := by decide +kernel
theorem dX5_status_2 : decode cX5_status 2 = .ok (.bipush 6, 2) := by decide +kernel
theorem dX5_status_4 : decode cX5_status 4 = .ok (.invokestatic 78, 3) := by decide +kernel
theorem dX5_status_7 : decode cX5_status 7 = .ok (.ifCond .eq 14, 3) := by decide +kernel
theorem dX5_status_10 : decode cX5_status 10 = .ok (.aload_n 0, 1) := by decide +kernel
theorem dX5_status_11 : decode cX5_status 11 = .ok (.getfield 19, 3) := by decide +kernel
theorem dX5_status_14 : decode cX5_status 14 = .ok (.iload_n 1, 1) := by decide +kernel
theorem dX5_status_15 : decode cX5_status 15 = .ok (.iconst 1, 1) := by decide +kernel
theorem dX5_status_16 : decode cX5_status 16 = .ok (.iadd, 1) := by decide +kernel
theorem dX5_status_17 : decode cX5_status 17 = .ok (.iaload, 1) := by decide +kernel
theorem dX5_status_18 : decode cX5_status 18 = .ok (.goto 9, 3) := by decide +kernel
theorem dX5_status_21 : decode cX5_status 21 = .ok (.aload_n 0, 1) := by decide +kernel
theorem dX5_status_22 : decode cX5_status 22 = .ok (.ldc 73, 2) := by decide +kernel
theorem dX5_status_24 : decode cX5_status 24 = .ok (.invokevirtual 93, 3) := by decide +kernel
theorem dX5_status_27 : decode cX5_status 27 = .ok (.ireturn, 1) := by decide +kernel
