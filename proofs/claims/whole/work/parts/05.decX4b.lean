theorem dX4_lining_63 : decode cX4_lining 63 = .ok (.iload_n 2, 1) := by decide +kernel
theorem dX4_lining_64 : decode cX4_lining 64 = .ok (.iconst (-1), 1) := by decide +kernel
theorem dX4_lining_65 : decode cX4_lining 65 = .ok (.ixor, 1) := by decide +kernel
theorem dX4_lining_66 : decode cX4_lining 66 = .ok (.iand, 1) := by decide +kernel
theorem dX4_lining_67 : decode cX4_lining 67 = .ok (.ifCond .ne 19, 3) := by decide +kernel
theorem dX4_lining_70 : decode cX4_lining 70 = .ok (.aload_n 0, 1) := by decide +kernel
theorem dX4_lining_71 : decode cX4_lining 71 = .ok (.getfield 10, 3) := by decide +kernel
theorem dX4_lining_74 : decode cX4_lining 74 = .ok (.iload 4, 2) := by decide +kernel
theorem dX4_lining_76 : decode cX4_lining 76 = .ok (.invokevirtual 132, 3) := by decide +kernel
theorem dX4_lining_79 : decode cX4_lining 79 = .ok (.iload_n 1, 1) := by decide +kernel
theorem dX4_lining_80 : decode cX4_lining 80 = .ok (.if_icmp .ne 6, 3) := by decide +kernel
theorem dX4_lining_83 : decode cX4_lining 83 = .ok (.iinc 3 1, 3) := by decide +kernel
theorem dX4_lining_86 : decode cX4_lining 86 = .ok (.iinc 4 1, 3) := by decide +kernel
theorem dX4_lining_89 : decode cX4_lining 89 = .ok (.goto (-40), 3) := by decide +kernel
theorem dX4_lining_92 : decode cX4_lining 92 = .ok (.iload_n 3, 1) := by decide +kernel
theorem dX4_lining_93 : decode cX4_lining 93 = .ok (.ireturn, 1) := by decide +kernel
theorem dX4_back_0 : decode cX4_back 0 = .ok (.aload_n 0, 1) := by decide +kernel
theorem dX4_back_1 : decode cX4_back 1 = .ok (.getfield 10, 3) := by decide +kernel
theorem dX4_back_4 : decode cX4_back 4 = .ok (.iload_n 1, 1) := by decide +kernel
theorem dX4_back_5 : decode cX4_back 5 = .ok (.invokevirtual 67, 3) := by decide +kernel
theorem dX4_back_8 : decode cX4_back 8 = .ok (.ifCond .eq 13, 3) := by decide +kernel
theorem dX4_back_11 : decode cX4_back 11 = .ok (.iload_n 2, 1) := by decide +kernel
theorem dX4_back_12 : decode cX4_back 12 = .ok (.iconst 1, 1) := by decide +kernel
theorem dX4_back_13 : decode cX4_back 13 = .ok (.bipush 100, 2) := by decide +kernel
theorem dX4_back_15 : decode cX4_back 15 = .ok (.invokestatic 51, 3) := by decide +kernel
theorem dX4_back_18 : decode cX4_back 18 = .ok (.ifCond .ne 9, 3) := by decide +kernel
theorem dX4_back_21 : decode cX4_back 21 = .ok (.aload_n 0, 1) := by decide +kernel
theorem dX4_back_22 : decode cX4_back 22 = .ok (.iconst 0, 1) := by decide +kernel
theorem dX4_back_23 : decode cX4_back 23 = .ok (.invokevirtual 55, 3) := by decide +kernel
theorem dX4_back_26 : decode cX4_back 26 = .ok (.ireturn, 1) := by decide +kernel
theorem dX4_back_27 : decode cX4_back 27 = .ok (.aload_n 0, 1) := by decide +kernel
theorem dX4_back_28 : decode cX4_back 28 = .ok (.getfield 10, 3) := by decide +kernel
theorem dX4_back_31 : decode cX4_back 31 = .ok (.iload_n 1, 1) := by decide +kernel
theorem dX4_back_32 : decode cX4_back 32 = .ok (.invokevirtual 193, 3) := by decide +kernel
theorem dX4_back_35 : decode cX4_back 35 = .ok (.ifCond .eq 15, 3) := by decide +kernel
theorem dX4_back_38 : decode cX4_back 38 = .ok (.aload_n 0, 1) := by decide +kernel
theorem dX4_back_39 : decode cX4_back 39 = .ok (.getfield 10, 3) := by decide +kernel
theorem dX4_back_42 : decode cX4_back 42 = .ok (.iload_n 1, 1) := by decide +kernel
theorem dX4_back_43 : decode cX4_back 43 = .ok (.iload_n 2, 1) := by decide +kernel
theorem dX4_back_44 : decode cX4_back 44 = .ok (.invokevirtual 196, 3) := by decide +kernel
theorem dX4_back_47 : decode cX4_back 47 = .ok (.goto 8, 3) := by decide +kernel
theorem dX4_back_50 : decode cX4_back 50 = .ok (.aload_n 0, 1) := by decide +kernel
theorem dX4_back_51 : decode cX4_back 51 = .ok (.iconst 4, 1) := by decide +kernel
theorem dX4_back_52 : decode cX4_back 52 = .ok (.invokevirtual 55, 3) := by decide +kernel
theorem dX4_back_55 : decode cX4_back 55 = .ok (.ireturn, 1) := by decide +kernel
theorem dX4_richest_0 : decode cX4_richest 0 = .ok (.iload_n 1, 1) := by decide +kernel
theorem dX4_richest_1 : decode cX4_richest 1 = .ok (.iconst 1, 1) := by decide +kernel
theorem dX4_richest_2 : decode cX4_richest 2 = .ok (.bipush 100, 2) := by decide +kernel
theorem dX4_richest_4 : decode cX4_richest 4 = .ok (.invokestatic 51, 3) := by decide +kernel
theorem dX4_richest_7 : decode cX4_richest 7 = .ok (.ifCond .ne 9, 3) := by decide +kernel
theorem dX4_richest_10 : decode cX4_richest 10 = .ok (.aload_n 0, 1) := by decide +kernel
theorem dX4_richest_11 : decode cX4_richest 11 = .ok (.iconst 0, 1) := by decide +kernel
theorem dX4_richest_12 : decode cX4_richest 12 = .ok (.invokevirtual 55, 3) := by decide +kernel
theorem dX4_richest_15 : decode cX4_richest 15 = .ok (.ireturn, 1) := by decide +kernel
theorem dX4_richest_16 : decode cX4_richest 16 = .ok (.iconst 0, 1) := by decide +kernel
theorem dX4_richest_17 : decode cX4_richest 17 = .ok (.istore_n 2, 1) := by decide +kernel
theorem dX4_richest_18 : decode cX4_richest 18 = .ok (.iload_n 2, 1) := by decide +kernel
theorem dX4_richest_19 : decode cX4_richest 19 = .ok (.bipush 30, 2) := by decide +kernel
theorem dX4_richest_21 : decode cX4_richest 21 = .ok (.if_icmp .ge 16, 3) := by decide +kernel
theorem dX4_richest_24 : decode cX4_richest 24 = .ok (.aload_n 0, 1) := by decide +kernel
theorem dX4_richest_25 : decode cX4_richest 25 = .ok (.getfield 47, 3) := by decide +kernel
theorem dX4_richest_28 : decode cX4_richest 28 = .ok (.iload_n 2, 1) := by decide +kernel
theorem dX4_richest_29 : decode cX4_richest 29 = .ok (.iconst (-1), 1) := by decide +kernel
theorem dX4_richest_30 : decode cX4_richest 30 = .ok (.iastore, 1) := by decide +kernel
theorem dX4_richest_31 : decode cX4_richest 31 = .ok (.iinc 2 1, 3) := by decide +kernel
theorem dX4_richest_34 : decode cX4_richest 34 = .ok (.goto (-16), 3) := by decide +kernel
theorem dX4_richest_37 : decode cX4_richest 37 = .ok (.iconst 0, 1) := by decide +kernel
theorem dX4_richest_38 : decode cX4_richest 38 = .ok (.istore_n 2, 1) := by decide +kernel
theorem dX4_richest_39 : decode cX4_richest 39 = .ok (.iload_n 2, 1) := by decide +kernel
theorem dX4_richest_40 : decode cX4_richest 40 = .ok (.aload_n 0, 1) := by decide +kernel
theorem dX4_richest_41 : decode cX4_richest 41 = .ok (.getfield 10, 3) := by decide +kernel
theorem dX4_richest_44 : decode cX4_richest 44 = .ok (.getfield 59, 3) := by decide +kernel
theorem dX4_richest_47 : decode cX4_richest 47 = .ok (.if_icmp .ge 74, 3) := by decide +kernel
theorem dX4_richest_50 : decode cX4_richest 50 = .ok (.aload_n 0, 1) := by decide +kernel
theorem dX4_richest_51 : decode cX4_richest 51 = .ok (.getfield 10, 3) := by decide +kernel
theorem dX4_richest_54 : decode cX4_richest 54 = .ok (.iload_n 2, 1) := by decide +kernel
theorem dX4_richest_55 : decode cX4_richest 55 = .ok (.invokevirtual 193, 3) := by decide +kernel
theorem dX4_richest_58 : decode cX4_richest 58 = .ok (.ifCond .eq 15, 3) := by decide +kernel
theorem dX4_richest_61 : decode cX4_richest 61 = .ok (.aload_n 0, 1) := by decide +kernel
theorem dX4_richest_62 : decode cX4_richest 62 = .ok (.getfield 10, 3) := by decide +kernel
theorem dX4_richest_65 : decode cX4_richest 65 = .ok (.iload_n 2, 1) := by decide +kernel
theorem dX4_richest_66 : decode cX4_richest 66 = .ok (.iload_n 1, 1) := by decide +kernel
theorem dX4_richest_67 : decode cX4_richest 67 = .ok (.invokevirtual 196, 3) := by decide +kernel
theorem dX4_richest_70 : decode cX4_richest 70 = .ok (.goto 5, 3) := by decide +kernel
theorem dX4_richest_73 : decode cX4_richest 73 = .ok (.bipush 30, 2) := by decide +kernel
theorem dX4_richest_75 : decode cX4_richest 75 = .ok (.istore_n 3, 1) := by decide +kernel
theorem dX4_richest_76 : decode cX4_richest 76 = .ok (.iload_n 3, 1) := by decide +kernel
theorem dX4_richest_77 : decode cX4_richest 77 = .ok (.iconst 0, 1) := by decide +kernel
theorem dX4_richest_78 : decode cX4_richest 78 = .ok (.bipush 29, 2) := by decide +kernel
theorem dX4_richest_80 : decode cX4_richest 80 = .ok (.invokestatic 51, 3) := by decide +kernel
theorem dX4_richest_83 : decode cX4_richest 83 = .ok (.ifCond .eq 32, 3) := by decide +kernel
theorem dX4_richest_86 : decode cX4_richest 86 = .ok (.aload_n 0, 1) := by decide +kernel
theorem dX4_richest_87 : decode cX4_richest 87 = .ok (.getfield 47, 3) := by decide +kernel
theorem dX4_richest_90 : decode cX4_richest 90 = .ok (.iload_n 3, 1) := by decide +kernel
theorem dX4_richest_91 : decode cX4_richest 91 = .ok (.aload_n 0, 1) := by decide +kernel
theorem dX4_richest_92 : decode cX4_richest 92 = .ok (.getfield 47, 3) := by decide +kernel
theorem dX4_richest_95 : decode cX4_richest 95 = .ok (.iload_n 3, 1) := by decide +kernel
theorem dX4_richest_96 : decode cX4_richest 96 = .ok (.iaload, 1) := by decide +kernel
theorem dX4_richest_97 : decode cX4_richest 97 = .ok (.iconst 0, 1) := by decide +kernel
theorem dX4_richest_98 : decode cX4_richest 98 = .ok (.invokestatic 199, 3) := by decide +kernel
theorem dX4_richest_101 : decode cX4_richest 101 = .ok (.aload_n 0, 1) := by decide +kernel
theorem dX4_richest_102 : decode cX4_richest 102 = .ok (.getfield 10, 3) := by decide +kernel
theorem dX4_richest_105 : decode cX4_richest 105 = .ok (.getfield 71, 3) := by decide +kernel
theorem dX4_richest_108 : decode cX4_richest 108 = .ok (.iload_n 2, 1) := by decide +kernel
theorem dX4_richest_109 : decode cX4_richest 109 = .ok (.aaload, 1) := by decide +kernel
theorem dX4_richest_110 : decode cX4_richest 110 = .ok (.getfield 182, 3) := by decide +kernel
theorem dX4_richest_113 : decode cX4_richest 113 = .ok (.iadd, 1) := by decide +kernel
theorem dX4_richest_114 : decode cX4_richest 114 = .ok (.iastore, 1) := by decide +kernel
theorem dX4_richest_115 : decode cX4_richest 115 = .ok (.iinc 2 1, 3) := by decide +kernel
theorem dX4_richest_118 : decode cX4_richest 118 = .ok (.goto (-79), 3) := by decide +kernel
theorem dX4_richest_121 : decode cX4_richest 121 = .ok (.iconst 0, 1) := by decide +kernel
theorem dX4_richest_122 : decode cX4_richest 122 = .ok (.istore_n 2, 1) := by decide +kernel
theorem dX4_richest_123 : decode cX4_richest 123 = .ok (.iconst 1, 1) := by decide +kernel
theorem dX4_richest_124 : decode cX4_richest 124 = .ok (.istore_n 3, 1) := by decide +kernel
theorem dX4_richest_125 : decode cX4_richest 125 = .ok (.iload_n 3, 1) := by decide +kernel
theorem dX4_richest_126 : decode cX4_richest 126 = .ok (.bipush 30, 2) := by decide +kernel
theorem dX4_richest_128 : decode cX4_richest 128 = .ok (.if_icmp .ge 26, 3) := by decide +kernel
theorem dX4_richest_131 : decode cX4_richest 131 = .ok (.aload_n 0, 1) := by decide +kernel
theorem dX4_richest_132 : decode cX4_richest 132 = .ok (.getfield 47, 3) := by decide +kernel
theorem dX4_richest_135 : decode cX4_richest 135 = .ok (.iload_n 3, 1) := by decide +kernel
theorem dX4_richest_136 : decode cX4_richest 136 = .ok (.iaload, 1) := by decide +kernel
theorem dX4_richest_137 : decode cX4_richest 137 = .ok (.aload_n 0, 1) := by decide +kernel
theorem dX4_richest_138 : decode cX4_richest 138 = .ok (.getfield 47, 3) := by decide +kernel
theorem dX4_richest_141 : decode cX4_richest 141 = .ok (.iload_n 2, 1) := by decide +kernel
theorem dX4_richest_142 : decode cX4_richest 142 = .ok (.iaload, 1) := by decide +kernel
theorem dX4_richest_143 : decode cX4_richest 143 = .ok (.if_icmp .le 5, 3) := by decide +kernel
theorem dX4_richest_146 : decode cX4_richest 146 = .ok (.iload_n 3, 1) := by decide +kernel
theorem dX4_richest_147 : decode cX4_richest 147 = .ok (.istore_n 2, 1) := by decide +kernel
theorem dX4_richest_148 : decode cX4_richest 148 = .ok (.iinc 3 1, 3) := by decide +kernel
theorem dX4_richest_151 : decode cX4_richest 151 = .ok (.goto (-26), 3) := by decide +kernel
theorem dX4_richest_154 : decode cX4_richest 154 = .ok (.aload_n 0, 1) := by decide +kernel
theorem dX4_richest_155 : decode cX4_richest 155 = .ok (.getfield 47, 3) := by decide +kernel
theorem dX4_richest_158 : decode cX4_richest 158 = .ok (.iload_n 2, 1) := by decide +kernel
theorem dX4_richest_159 : decode cX4_richest 159 = .ok (.iaload, 1) := by decide +kernel
theorem dX4_richest_160 : decode cX4_richest 160 = .ok (.iconst (-1), 1) := by decide +kernel
theorem dX4_richest_161 : decode cX4_richest 161 = .ok (.if_icmp .ne 11, 3) := by decide +kernel
theorem dX4_richest_164 : decode cX4_richest 164 = .ok (.aload_n 0, 1) := by decide +kernel
theorem dX4_richest_165 : decode cX4_richest 165 = .ok (.iconst 3, 1) := by decide +kernel
theorem dX4_richest_166 : decode cX4_richest 166 = .ok (.invokevirtual 55, 3) := by decide +kernel
theorem dX4_richest_169 : decode cX4_richest 169 = .ok (.goto 4, 3) := by decide +kernel
theorem dX4_richest_172 : decode cX4_richest 172 = .ok (.iload_n 2, 1) := by decide +kernel
theorem dX4_richest_173 : decode cX4_richest 173 = .ok (.ireturn, 1) := by decide +kernel
theorem dX4_days_0 : decode cX4_days 0 = .ok (.iload_n 1, 1) := by decide +kernel
theorem dX4_days_1 : decode cX4_days 1 = .ok (.iconst 1, 1) := by decide +kernel
theorem dX4_days_2 : decode cX4_days 2 = .ok (.bipush 12, 2) := by decide +kernel
theorem dX4_days_4 : decode cX4_days 4 = .ok (.invokestatic 51, 3) := by decide +kernel
theorem dX4_days_7 : decode cX4_days 7 = .ok (.ifCond .ne 9, 3) := by decide +kernel
theorem dX4_days_10 : decode cX4_days 10 = .ok (.aload_n 0, 1) := by decide +kernel
theorem dX4_days_11 : decode cX4_days 11 = .ok (.iconst 0, 1) := by decide +kernel
theorem dX4_days_12 : decode cX4_days 12 = .ok (.invokevirtual 55, 3) := by decide +kernel
theorem dX4_days_15 : decode cX4_days 15 = .ok (.ireturn, 1) := by decide +kernel
theorem dX4_days_16 : decode cX4_days 16 = .ok (.aload_n 0, 1) := by decide +kernel
theorem dX4_days_17 : decode cX4_days 17 = .ok (.bipush 7, 2) := by decide +kernel
theorem dX4_days_19 : decode cX4_days 19 = .ok (.iload_n 1, 1) := by decide +kernel
theorem dX4_days_20 : decode cX4_days 20 = .ok (.imul, 1) := by decide +kernel
theorem dX4_days_21 : decode cX4_days 21 = .ok (.invokevirtual 114, 3) := by decide +kernel
theorem dX4_days_24 : decode cX4_days 24 = .ok (.ifCond .ne 13, 3) := by decide +kernel
theorem dX4_days_27 : decode cX4_days 27 = .ok (.aload_n 0, 1) := by decide +kernel
theorem dX4_days_28 : decode cX4_days 28 = .ok (.getfield 10, 3) := by decide +kernel
theorem dX4_days_31 : decode cX4_days 31 = .ok (.getfield 59, 3) := by decide +kernel
theorem dX4_days_34 : decode cX4_days 34 = .ok (.ifCond .ne 9, 3) := by decide +kernel
theorem dX4_days_37 : decode cX4_days 37 = .ok (.aload_n 0, 1) := by decide +kernel
theorem dX4_days_38 : decode cX4_days 38 = .ok (.iconst 4, 1) := by decide +kernel
theorem dX4_days_39 : decode cX4_days 39 = .ok (.invokevirtual 55, 3) := by decide +kernel
theorem dX4_days_42 : decode cX4_days 42 = .ok (.ireturn, 1) := by decide +kernel
theorem dX4_days_43 : decode cX4_days 43 = .ok (.iconst 0, 1) := by decide +kernel
theorem dX4_days_44 : decode cX4_days 44 = .ok (.istore_n 2, 1) := by decide +kernel
theorem dX4_days_45 : decode cX4_days 45 = .ok (.iload_n 2, 1) := by decide +kernel
theorem dX4_days_46 : decode cX4_days 46 = .ok (.iload_n 1, 1) := by decide +kernel
theorem dX4_days_47 : decode cX4_days 47 = .ok (.if_icmp .ge 90, 3) := by decide +kernel
theorem dX4_days_50 : decode cX4_days 50 = .ok (.aload_n 0, 1) := by decide +kernel
theorem dX4_days_51 : decode cX4_days 51 = .ok (.getfield 10, 3) := by decide +kernel
theorem dX4_days_54 : decode cX4_days 54 = .ok (.getfield 71, 3) := by decide +kernel
theorem dX4_days_57 : decode cX4_days 57 = .ok (.aload_n 0, 1) := by decide +kernel
theorem dX4_days_58 : decode cX4_days 58 = .ok (.getfield 10, 3) := by decide +kernel
theorem dX4_days_61 : decode cX4_days 61 = .ok (.invokevirtual 204, 3) := by decide +kernel
theorem dX4_days_64 : decode cX4_days 64 = .ok (.aload_n 0, 1) := by decide +kernel
theorem dX4_days_65 : decode cX4_days 65 = .ok (.getfield 10, 3) := by decide +kernel
theorem dX4_days_68 : decode cX4_days 68 = .ok (.getfield 59, 3) := by decide +kernel
theorem dX4_days_71 : decode cX4_days 71 = .ok (.irem, 1) := by decide +kernel
theorem dX4_days_72 : decode cX4_days 72 = .ok (.aaload, 1) := by decide +kernel
theorem dX4_days_73 : decode cX4_days 73 = .ok (.astore_n 3, 1) := by decide +kernel
theorem dX4_days_74 : decode cX4_days 74 = .ok (.aload_n 0, 1) := by decide +kernel
theorem dX4_days_75 : decode cX4_days 75 = .ok (.getfield 10, 3) := by decide +kernel
theorem dX4_days_78 : decode cX4_days 78 = .ok (.invokevirtual 204, 3) := by decide +kernel
theorem dX4_days_81 : decode cX4_days 81 = .ok (.iconst 2, 1) := by decide +kernel
theorem dX4_days_82 : decode cX4_days 82 = .ok (.irem, 1) := by decide +kernel
theorem dX4_days_83 : decode cX4_days 83 = .ok (.ifCond .ne 7, 3) := by decide +kernel
theorem dX4_days_86 : decode cX4_days 86 = .ok (.iconst 0, 1) := by decide +kernel
theorem dX4_days_87 : decode cX4_days 87 = .ok (.goto 4, 3) := by decide +kernel
theorem dX4_days_90 : decode cX4_days 90 = .ok (.iconst 3, 1) := by decide +kernel
theorem dX4_days_91 : decode cX4_days 91 = .ok (.istore 4, 2) := by decide +kernel
theorem dX4_days_93 : decode cX4_days 93 = .ok (.aload_n 3, 1) := by decide +kernel
theorem dX4_days_94 : decode cX4_days 94 = .ok (.getfield 95, 3) := by decide +kernel
theorem dX4_days_97 : decode cX4_days 97 = .ok (.ifCond .eq 11, 3) := by decide +kernel
theorem dX4_days_100 : decode cX4_days 100 = .ok (.aload_n 3, 1) := by decide +kernel
theorem dX4_days_101 : decode cX4_days 101 = .ok (.getfield 95, 3) := by decide +kernel
theorem dX4_days_104 : decode cX4_days 104 = .ok (.iconst 3, 1) := by decide +kernel
theorem dX4_days_105 : decode cX4_days 105 = .ok (.if_icmp .ne 9, 3) := by decide +kernel
theorem dX4_days_108 : decode cX4_days 108 = .ok (.aload_n 3, 1) := by decide +kernel
theorem dX4_days_109 : decode cX4_days 109 = .ok (.iload 4, 2) := by decide +kernel
theorem dX4_days_111 : decode cX4_days 111 = .ok (.invokevirtual 98, 3) := by decide +kernel
theorem dX4_days_114 : decode cX4_days 114 = .ok (.aload_n 0, 1) := by decide +kernel
theorem dX4_days_115 : decode cX4_days 115 = .ok (.getfield 10, 3) := by decide +kernel
theorem dX4_days_118 : decode cX4_days 118 = .ok (.aload_n 0, 1) := by decide +kernel
theorem dX4_days_119 : decode cX4_days 119 = .ok (.getfield 10, 3) := by decide +kernel
theorem dX4_days_122 : decode cX4_days 122 = .ok (.invokevirtual 204, 3) := by decide +kernel
theorem dX4_days_125 : decode cX4_days 125 = .ok (.bipush 8, 2) := by decide +kernel
theorem dX4_days_127 : decode cX4_days 127 = .ok (.irem, 1) := by decide +kernel
theorem dX4_days_128 : decode cX4_days 128 = .ok (.invokevirtual 117, 3) := by decide +kernel
theorem dX4_days_131 : decode cX4_days 131 = .ok (.iinc 2 1, 3) := by decide +kernel
theorem dX4_days_134 : decode cX4_days 134 = .ok (.goto (-89), 3) := by decide +kernel
theorem dX4_days_137 : decode cX4_days 137 = .ok (.aload_n 0, 1) := by decide +kernel
theorem dX4_days_138 : decode cX4_days 138 = .ok (.getfield 10, 3) := by decide +kernel
theorem dX4_days_141 : decode cX4_days 141 = .ok (.iconst 2, 1) := by decide +kernel
theorem dX4_days_142 : decode cX4_days 142 = .ok (.invokevirtual 111, 3) := by decide +kernel
theorem dX4_days_145 : decode cX4_days 145 = .ok (.ireturn, 1) := by decide +kernel
theorem dX4_seed_0 : decode cX4_seed 0 = .ok (.aload_n 0, 1) := by decide +kernel
theorem dX4_seed_1 : decode cX4_seed 1 = .ok (.getfield 10, 3) := by decide +kernel
theorem dX4_seed_4 : decode cX4_seed 4 = .ok (.getfield 207, 3) := by decide +kernel
theorem dX4_seed_7 : decode cX4_seed 7 = .ok (.istore_n 2, 1) := by decide +kernel
theorem dX4_seed_8 : decode cX4_seed 8 = .ok (.aload_n 0, 1) := by decide +kernel
theorem dX4_seed_9 : decode cX4_seed 9 = .ok (.getfield 10, 3) := by decide +kernel
theorem dX4_seed_12 : decode cX4_seed 12 = .ok (.iload_n 1, 1) := by decide +kernel
theorem dX4_seed_13 : decode cX4_seed 13 = .ok (.putfield 207, 3) := by decide +kernel
theorem dX4_seed_16 : decode cX4_seed 16 = .ok (.iload_n 2, 1) := by decide +kernel
theorem dX4_seed_17 : decode cX4_seed 17 = .ok (.ireturn, 1) := by decide +kernel
theorem dX4_feed_0 : decode cX4_feed 0 = .ok (.iload_n 2, 1) := by decide +kernel
theorem dX4_feed_1 : decode cX4_feed 1 = .ok (.iconst 1, 1) := by decide +kernel
theorem dX4_feed_2 : decode cX4_feed 2 = .ok (.iconst 4, 1) := by decide +kernel
theorem dX4_feed_3 : decode cX4_feed 3 = .ok (.invokestatic 51, 3) := by decide +kernel
theorem dX4_feed_6 : decode cX4_feed 6 = .ok (.ifCond .ne 9, 3) := by decide +kernel
theorem dX4_feed_9 : decode cX4_feed 9 = .ok (.aload_n 0, 1) := by decide +kernel
theorem dX4_feed_10 : decode cX4_feed 10 = .ok (.iconst 0, 1) := by decide +kernel
theorem dX4_feed_11 : decode cX4_feed 11 = .ok (.invokevirtual 55, 3) := by decide +kernel
theorem dX4_feed_14 : decode cX4_feed 14 = .ok (.ireturn, 1) := by decide +kernel
theorem dX4_feed_15 : decode cX4_feed 15 = .ok (.aload_n 0, 1) := by decide +kernel
theorem dX4_feed_16 : decode cX4_feed 16 = .ok (.getfield 29, 3) := by decide +kernel
theorem dX4_feed_19 : decode cX4_feed 19 = .ok (.getfield 210, 3) := by decide +kernel
theorem dX4_feed_22 : decode cX4_feed 22 = .ok (.iload_n 2, 1) := by decide +kernel
theorem dX4_feed_23 : decode cX4_feed 23 = .ok (.iadd, 1) := by decide +kernel
theorem dX4_feed_24 : decode cX4_feed 24 = .ok (.bipush 120, 2) := by decide +kernel
theorem dX4_feed_26 : decode cX4_feed 26 = .ok (.if_icmp .le 9, 3) := by decide +kernel
theorem dX4_feed_29 : decode cX4_feed 29 = .ok (.aload_n 0, 1) := by decide +kernel
theorem dX4_feed_30 : decode cX4_feed 30 = .ok (.iconst 1, 1) := by decide +kernel
theorem dX4_feed_31 : decode cX4_feed 31 = .ok (.invokevirtual 55, 3) := by decide +kernel
theorem dX4_feed_34 : decode cX4_feed 34 = .ok (.ireturn, 1) := by decide +kernel
theorem dX4_feed_35 : decode cX4_feed 35 = .ok (.iload_n 2, 1) := by decide +kernel
theorem dX4_feed_36 : decode cX4_feed 36 = .ok (.iconst 1, 1) := by decide +kernel
theorem dX4_feed_37 : decode cX4_feed 37 = .ok (.isub, 1) := by decide +kernel
theorem dX4_feed_38 : decode cX4_feed 38 = .ok (.istore_n 3, 1) := by decide +kernel
theorem dX4_feed_39 : decode cX4_feed 39 = .ok (.iload_n 3, 1) := by decide +kernel
theorem dX4_feed_40 : decode cX4_feed 40 = .ok (.ifCond .lt 26, 3) := by decide +kernel
theorem dX4_feed_43 : decode cX4_feed 43 = .ok (.aload_n 0, 1) := by decide +kernel
theorem dX4_feed_44 : decode cX4_feed 44 = .ok (.getfield 29, 3) := by decide +kernel
theorem dX4_feed_47 : decode cX4_feed 47 = .ok (.iload_n 1, 1) := by decide +kernel
theorem dX4_feed_48 : decode cX4_feed 48 = .ok (.bipush 8, 2) := by decide +kernel
theorem dX4_feed_50 : decode cX4_feed 50 = .ok (.iload_n 3, 1) := by decide +kernel
theorem dX4_feed_51 : decode cX4_feed 51 = .ok (.imul, 1) := by decide +kernel
theorem dX4_feed_52 : decode cX4_feed 52 = .ok (.iushr, 1) := by decide +kernel
theorem dX4_feed_53 : decode cX4_feed 53 = .ok (.sipush 255, 3) := by decide +kernel
theorem dX4_feed_56 : decode cX4_feed 56 = .ok (.iand, 1) := by decide +kernel
theorem dX4_feed_57 : decode cX4_feed 57 = .ok (.invokevirtual 213, 3) := by decide +kernel
theorem dX4_feed_60 : decode cX4_feed 60 = .ok (.iinc 3 (-1), 3) := by decide +kernel
theorem dX4_feed_63 : decode cX4_feed 63 = .ok (.goto (-24), 3) := by decide +kernel
theorem dX4_feed_66 : decode cX4_feed 66 = .ok (.aload_n 0, 1) := by decide +kernel
theorem dX4_feed_67 : decode cX4_feed 67 = .ok (.getfield 29, 3) := by decide +kernel
theorem dX4_feed_70 : decode cX4_feed 70 = .ok (.getfield 210, 3) := by decide +kernel
theorem dX4_feed_73 : decode cX4_feed 73 = .ok (.ireturn, 1) := by decide +kernel
theorem dX4_wipe_0 : decode cX4_wipe 0 = .ok (.aload_n 0, 1) := by decide +kernel
theorem dX4_wipe_1 : decode cX4_wipe 1 = .ok (.getfield 29, 3) := by decide +kernel
theorem dX4_wipe_4 : decode cX4_wipe 4 = .ok (.getfield 210, 3) := by decide +kernel
theorem dX4_wipe_7 : decode cX4_wipe 7 = .ok (.istore_n 1, 1) := by decide +kernel
theorem dX4_wipe_8 : decode cX4_wipe 8 = .ok (.aload_n 0, 1) := by decide +kernel
theorem dX4_wipe_9 : decode cX4_wipe 9 = .ok (.getfield 29, 3) := by decide +kernel
theorem dX4_wipe_12 : decode cX4_wipe 12 = .ok (.iconst 0, 1) := by decide +kernel
theorem dX4_wipe_13 : decode cX4_wipe 13 = .ok (.putfield 210, 3) := by decide +kernel
theorem dX4_wipe_16 : decode cX4_wipe 16 = .ok (.iload_n 1, 1) := by decide +kernel
theorem dX4_wipe_17 : decode cX4_wipe 17 = .ok (.ireturn, 1) := by decide +kernel
theorem dX4_text_0 : decode cX4_text 0 = .ok (.aload_n 0, 1) := by decide +kernel
theorem dX4_text_1 : decode cX4_text 1 = .ok (.getfield 16, 3) := by decide +kernel
theorem dX4_text_4 : decode cX4_text 4 = .ok (.aload_n 0, 1) := by decide +kernel
theorem dX4_text_5 : decode cX4_text 5 = .ok (.getfield 10, 3) := by decide +kernel
theorem dX4_text_8 : decode cX4_text 8 = .ok (.invokevirtual 135, 3) := by decide +kernel
theorem dX4_text_11 : decode cX4_text 11 = .ok (.aload_n 0, 1) := by decide +kernel
theorem dX4_text_12 : decode cX4_text 12 = .ok (.getfield 29, 3) := by decide +kernel
theorem dX4_text_15 : decode cX4_text 15 = .ok (.aload_n 0, 1) := by decide +kernel
theorem dX4_text_16 : decode cX4_text 16 = .ok (.getfield 16, 3) := by decide +kernel
theorem dX4_text_19 : decode cX4_text 19 = .ok (.invokevirtual 216, 3) := by decide +kernel
theorem dX4_text_22 : decode cX4_text 22 = .ok (.istore_n 1, 1) := by decide +kernel
theorem dX4_text_23 : decode cX4_text 23 = .ok (.aload_n 0, 1) := by decide +kernel
theorem dX4_text_24 : decode cX4_text 24 = .ok (.getfield 29, 3) := by decide +kernel
theorem dX4_text_27 : decode cX4_text 27 = .ok (.iconst 0, 1) := by decide +kernel
theorem dX4_text_28 : decode cX4_text 28 = .ok (.putfield 210, 3) := by decide +kernel
theorem dX4_text_31 : decode cX4_text 31 = .ok (.iload_n 1, 1) := by decide +kernel
theorem dX4_text_32 : decode cX4_text 32 = .ok (.ifCond .lt 14, 3) := by decide +kernel
theorem dX4_text_35 : decode cX4_text 35 = .ok (.aload_n 0, 1) := by decide +kernel
theorem dX4_text_36 : decode cX4_text 36 = .ok (.getfield 10, 3) := by decide +kernel
theorem dX4_text_39 : decode cX4_text 39 = .ok (.aload_n 0, 1) := by decide +kernel
theorem dX4_text_40 : decode cX4_text 40 = .ok (.getfield 16, 3) := by decide +kernel
theorem dX4_text_43 : decode cX4_text 43 = .ok (.invokevirtual 135, 3) := by decide +kernel
theorem dX4_text_46 : decode cX4_text 46 = .ok (.iload_n 1, 1) := by decide +kernel
theorem dX4_text_47 : decode cX4_text 47 = .ok (.ireturn, 1) := by decide +kernel
theorem dX4_hold_0 : decode cX4_hold 0 = .ok (.iload_n 1, 1) := by decide +kernel
theorem dX4_hold_1 : decode cX4_hold 1 = .ok (.iconst 0, 1) := by decide +kernel
theorem dX4_hold_2 : decode cX4_hold 2 = .ok (.bipush 9, 2) := by decide +kernel
theorem dX4_hold_4 : decode cX4_hold 4 = .ok (.invokestatic 51, 3) := by decide +kernel
theorem dX4_hold_7 : decode cX4_hold 7 = .ok (.ifCond .eq 19, 3) := by decide +kernel
theorem dX4_hold_10 : decode cX4_hold 10 = .ok (.iload_n 2, 1) := by decide +kernel
theorem dX4_hold_11 : decode cX4_hold 11 = .ok (.iconst (-1), 1) := by decide +kernel
theorem dX4_hold_12 : decode cX4_hold 12 = .ok (.if_icmp .eq 20, 3) := by decide +kernel
theorem dX4_hold_15 : decode cX4_hold 15 = .ok (.aload_n 0, 1) := by decide +kernel
theorem dX4_hold_16 : decode cX4_hold 16 = .ok (.getfield 10, 3) := by decide +kernel
theorem dX4_hold_19 : decode cX4_hold 19 = .ok (.iload_n 2, 1) := by decide +kernel
theorem dX4_hold_20 : decode cX4_hold 20 = .ok (.invokevirtual 67, 3) := by decide +kernel
theorem dX4_hold_23 : decode cX4_hold 23 = .ok (.ifCond .ne 9, 3) := by decide +kernel
theorem dX4_hold_26 : decode cX4_hold 26 = .ok (.aload_n 0, 1) := by decide +kernel
theorem dX4_hold_27 : decode cX4_hold 27 = .ok (.iconst 0, 1) := by decide +kernel
theorem dX4_hold_28 : decode cX4_hold 28 = .ok (.invokevirtual 55, 3) := by decide +kernel
theorem dX4_hold_31 : decode cX4_hold 31 = .ok (.ireturn, 1) := by decide +kernel
theorem dX4_hold_32 : decode cX4_hold 32 = .ok (.aload_n 0, 1) := by decide +kernel
theorem dX4_hold_33 : decode cX4_hold 33 = .ok (.getfield 10, 3) := by decide +kernel
theorem dX4_hold_36 : decode cX4_hold 36 = .ok (.getfield 220, 3) := by decide +kernel
theorem dX4_hold_39 : decode cX4_hold 39 = .ok (.iload_n 1, 1) := by decide +kernel
theorem dX4_hold_40 : decode cX4_hold 40 = .ok (.iload_n 2, 1) := by decide +kernel
theorem dX4_hold_41 : decode cX4_hold 41 = .ok (.iastore, 1) := by decide +kernel
theorem dX4_hold_42 : decode cX4_hold 42 = .ok (.iconst 1, 1) := by decide +kernel
theorem dX4_hold_43 : decode cX4_hold 43 = .ok (.ireturn, 1) := by decide +kernel
theorem dX4_as_0 : decode cX4_as 0 = .ok (.iload_n 1, 1) := by decide +kernel
theorem dX4_as_1 : decode cX4_as 1 = .ok (.iconst 0, 1) := by decide +kernel
theorem dX4_as_2 : decode cX4_as 2 = .ok (.bipush 9, 2) := by decide +kernel
theorem dX4_as_4 : decode cX4_as 4 = .ok (.invokestatic 51, 3) := by decide +kernel
theorem dX4_as_7 : decode cX4_as 7 = .ok (.ifCond .eq 13, 3) := by decide +kernel
theorem dX4_as_10 : decode cX4_as 10 = .ok (.iload_n 2, 1) := by decide +kernel
theorem dX4_as_11 : decode cX4_as 11 = .ok (.iconst 0, 1) := by decide +kernel
theorem dX4_as_12 : decode cX4_as 12 = .ok (.bipush 6, 2) := by decide +kernel
theorem dX4_as_14 : decode cX4_as 14 = .ok (.invokestatic 51, 3) := by decide +kernel
theorem dX4_as_17 : decode cX4_as 17 = .ok (.ifCond .ne 9, 3) := by decide +kernel
theorem dX4_as_20 : decode cX4_as 20 = .ok (.aload_n 0, 1) := by decide +kernel
theorem dX4_as_21 : decode cX4_as 21 = .ok (.iconst 0, 1) := by decide +kernel
theorem dX4_as_22 : decode cX4_as 22 = .ok (.invokevirtual 55, 3) := by decide +kernel
theorem dX4_as_25 : decode cX4_as 25 = .ok (.ireturn, 1) := by decide +kernel
theorem dX4_as_26 : decode cX4_as 26 = .ok (.aload_n 0, 1) := by decide +kernel
theorem dX4_as_27 : decode cX4_as 27 = .ok (.getfield 10, 3) := by decide +kernel
theorem dX4_as_30 : decode cX4_as 30 = .ok (.getfield 220, 3) := by decide +kernel
theorem dX4_as_33 : decode cX4_as 33 = .ok (.iload_n 1, 1) := by decide +kernel
theorem dX4_as_34 : decode cX4_as 34 = .ok (.iaload, 1) := by decide +kernel
theorem dX4_as_35 : decode cX4_as 35 = .ok (.istore_n 3, 1) := by decide +kernel
theorem dX4_as_36 : decode cX4_as 36 = .ok (.aload_n 0, 1) := by decide +kernel
theorem dX4_as_37 : decode cX4_as 37 = .ok (.getfield 10, 3) := by decide +kernel
theorem dX4_as_40 : decode cX4_as 40 = .ok (.iload_n 3, 1) := by decide +kernel
theorem dX4_as_41 : decode cX4_as 41 = .ok (.invokevirtual 67, 3) := by decide +kernel
theorem dX4_as_44 : decode cX4_as 44 = .ok (.ifCond .ne 9, 3) := by decide +kernel
theorem dX4_as_47 : decode cX4_as 47 = .ok (.aload_n 0, 1) := by decide +kernel
theorem dX4_as_48 : decode cX4_as 48 = .ok (.iconst 5, 1) := by decide +kernel
theorem dX4_as_49 : decode cX4_as 49 = .ok (.invokevirtual 55, 3) := by decide +kernel
theorem dX4_as_52 : decode cX4_as 52 = .ok (.ireturn, 1) := by decide +kernel
theorem dX4_as_53 : decode cX4_as 53 = .ok (.aload_n 0, 1) := by decide +kernel
theorem dX4_as_54 : decode cX4_as 54 = .ok (.getfield 10, 3) := by decide +kernel
theorem dX4_as_57 : decode cX4_as 57 = .ok (.getfield 71, 3) := by decide +kernel
theorem dX4_as_60 : decode cX4_as 60 = .ok (.iload_n 3, 1) := by decide +kernel
theorem dX4_as_61 : decode cX4_as 61 = .ok (.aaload, 1) := by decide +kernel
theorem dX4_as_62 : decode cX4_as 62 = .ok (.iload_n 2, 1) := by decide +kernel
theorem dX4_as_63 : decode cX4_as 63 = .ok (.invokevirtual 223, 3) := by decide +kernel
theorem dX4_as_66 : decode cX4_as 66 = .ok (.ifCond .eq 7, 3) := by decide +kernel
theorem dX4_as_69 : decode cX4_as 69 = .ok (.iload_n 3, 1) := by decide +kernel
theorem dX4_as_70 : decode cX4_as 70 = .ok (.goto 8, 3) := by decide +kernel
theorem dX4_as_73 : decode cX4_as 73 = .ok (.aload_n 0, 1) := by decide +kernel
theorem dX4_as_74 : decode cX4_as 74 = .ok (.iconst 2, 1) := by decide +kernel
theorem dX4_as_75 : decode cX4_as 75 = .ok (.invokevirtual 55, 3) := by decide +kernel
theorem dX4_as_78 : decode cX4_as 78 = .ok (.ireturn, 1) := by decide +kernel
theorem dX4_sheet_0 : decode cX4_sheet 0 = .ok (.iload_n 1, 1) := by decide +kernel
theorem dX4_sheet_1 : decode cX4_sheet 1 = .ok (.invokestatic 226, 3) := by decide +kernel
theorem dX4_sheet_4 : decode cX4_sheet 4 = .ok (.ifCond .eq 25, 3) := by decide +kernel
theorem dX4_sheet_7 : decode cX4_sheet 7 = .ok (.iload_n 2, 1) := by decide +kernel
theorem dX4_sheet_8 : decode cX4_sheet 8 = .ok (.ifCond .eq 27, 3) := by decide +kernel
theorem dX4_sheet_11 : decode cX4_sheet 11 = .ok (.iload_n 2, 1) := by decide +kernel
theorem dX4_sheet_12 : decode cX4_sheet 12 = .ok (.bipush 8, 2) := by decide +kernel
theorem dX4_sheet_14 : decode cX4_sheet 14 = .ok (.if_icmp .eq 21, 3) := by decide +kernel
theorem dX4_sheet_17 : decode cX4_sheet 17 = .ok (.iload_n 2, 1) := by decide +kernel
theorem dX4_sheet_18 : decode cX4_sheet 18 = .ok (.bipush 16, 2) := by decide +kernel
theorem dX4_sheet_20 : decode cX4_sheet 20 = .ok (.if_icmp .eq 15, 3) := by decide +kernel
theorem dX4_sheet_23 : decode cX4_sheet 23 = .ok (.iload_n 2, 1) := by decide +kernel
theorem dX4_sheet_24 : decode cX4_sheet 24 = .ok (.bipush 32, 2) := by decide +kernel
theorem dX4_sheet_26 : decode cX4_sheet 26 = .ok (.if_icmp .eq 9, 3) := by decide +kernel
theorem dX4_sheet_29 : decode cX4_sheet 29 = .ok (.aload_n 0, 1) := by decide +kernel
theorem dX4_sheet_30 : decode cX4_sheet 30 = .ok (.iconst 0, 1) := by decide +kernel
theorem dX4_sheet_31 : decode cX4_sheet 31 = .ok (.invokevirtual 55, 3) := by decide +kernel
theorem dX4_sheet_34 : decode cX4_sheet 34 = .ok (.ireturn, 1) := by decide +kernel
theorem dX4_sheet_35 : decode cX4_sheet 35 = .ok (.iload_n 3, 1) := by decide +kernel
theorem dX4_sheet_36 : decode cX4_sheet 36 = .ok (.ifCond .ge 10, 3) := by decide +kernel
theorem dX4_sheet_39 : decode cX4_sheet 39 = .ok (.aload_n 0, 1) := by decide +kernel
theorem dX4_sheet_40 : decode cX4_sheet 40 = .ok (.bipush 6, 2) := by decide +kernel
theorem dX4_sheet_42 : decode cX4_sheet 42 = .ok (.invokevirtual 55, 3) := by decide +kernel
theorem dX4_sheet_45 : decode cX4_sheet 45 = .ok (.ireturn, 1) := by decide +kernel
theorem dX4_sheet_46 : decode cX4_sheet 46 = .ok (.iload_n 3, 1) := by decide +kernel
theorem dX4_sheet_47 : decode cX4_sheet 47 = .ok (.bipush 40, 2) := by decide +kernel
theorem dX4_sheet_49 : decode cX4_sheet 49 = .ok (.if_icmp .le 9, 3) := by decide +kernel
theorem dX4_sheet_52 : decode cX4_sheet 52 = .ok (.aload_n 0, 1) := by decide +kernel
theorem dX4_sheet_53 : decode cX4_sheet 53 = .ok (.iconst 0, 1) := by decide +kernel
theorem dX4_sheet_54 : decode cX4_sheet 54 = .ok (.invokevirtual 55, 3) := by decide +kernel
theorem dX4_sheet_57 : decode cX4_sheet 57 = .ok (.ireturn, 1) := by decide +kernel
theorem dX4_sheet_58 : decode cX4_sheet 58 = .ok (.aload_n 0, 1) := by decide +kernel
theorem dX4_sheet_59 : decode cX4_sheet 59 = .ok (.getfield 35, 3) := by decide +kernel
theorem dX4_sheet_62 : decode cX4_sheet 62 = .ok (.iload_n 1, 1) := by decide +kernel
theorem dX4_sheet_63 : decode cX4_sheet 63 = .ok (.aaload, 1) := by decide +kernel
theorem dX4_sheet_64 : decode cX4_sheet 64 = .ok (.iload_n 2, 1) := by decide +kernel
theorem dX4_sheet_65 : decode cX4_sheet 65 = .ok (.iload_n 3, 1) := by decide +kernel
theorem dX4_sheet_66 : decode cX4_sheet 66 = .ok (.invokevirtual 229, 3) := by decide +kernel
theorem dX4_sheet_69 : decode cX4_sheet 69 = .ok (.aload_n 0, 1) := by decide +kernel
theorem dX4_sheet_70 : decode cX4_sheet 70 = .ok (.getfield 35, 3) := by decide +kernel
theorem dX4_sheet_73 : decode cX4_sheet 73 = .ok (.iload_n 1, 1) := by decide +kernel
theorem dX4_sheet_74 : decode cX4_sheet 74 = .ok (.aaload, 1) := by decide +kernel
theorem dX4_sheet_75 : decode cX4_sheet 75 = .ok (.getfield 232, 3) := by decide +kernel
theorem dX4_sheet_78 : decode cX4_sheet 78 = .ok (.ireturn, 1) := by decide +kernel
theorem dX4_write_0 : decode cX4_write 0 = .ok (.iload_n 1, 1) := by decide +kernel
theorem dX4_write_1 : decode cX4_write 1 = .ok (.invokestatic 226, 3) := by decide +kernel
theorem dX4_write_4 : decode cX4_write 4 = .ok (.ifCond .ne 9, 3) := by decide +kernel
theorem dX4_write_7 : decode cX4_write 7 = .ok (.aload_n 0, 1) := by decide +kernel
theorem dX4_write_8 : decode cX4_write 8 = .ok (.iconst 0, 1) := by decide +kernel
theorem dX4_write_9 : decode cX4_write 9 = .ok (.invokevirtual 55, 3) := by decide +kernel
theorem dX4_write_12 : decode cX4_write 12 = .ok (.ireturn, 1) := by decide +kernel
theorem dX4_write_13 : decode cX4_write 13 = .ok (.aload_n 0, 1) := by decide +kernel
theorem dX4_write_14 : decode cX4_write 14 = .ok (.getfield 35, 3) := by decide +kernel
theorem dX4_write_17 : decode cX4_write 17 = .ok (.iload_n 1, 1) := by decide +kernel
theorem dX4_write_18 : decode cX4_write 18 = .ok (.aaload, 1) := by decide +kernel
theorem dX4_write_19 : decode cX4_write 19 = .ok (.invokevirtual 233, 3) := by decide +kernel
theorem dX4_write_22 : decode cX4_write 22 = .ok (.ifCond .eq 9, 3) := by decide +kernel
theorem dX4_write_25 : decode cX4_write 25 = .ok (.aload_n 0, 1) := by decide +kernel
theorem dX4_write_26 : decode cX4_write 26 = .ok (.iconst 5, 1) := by decide +kernel
theorem dX4_write_27 : decode cX4_write 27 = .ok (.invokevirtual 55, 3) := by decide +kernel
theorem dX4_write_30 : decode cX4_write 30 = .ok (.ireturn, 1) := by decide +kernel
theorem dX4_write_31 : decode cX4_write 31 = .ok (.iload_n 2, 1) := by decide +kernel
theorem dX4_write_32 : decode cX4_write 32 = .ok (.iconst 0, 1) := by decide +kernel
theorem dX4_write_33 : decode cX4_write 33 = .ok (.aload_n 0, 1) := by decide +kernel
theorem dX4_write_34 : decode cX4_write 34 = .ok (.getfield 35, 3) := by decide +kernel
theorem dX4_write_37 : decode cX4_write 37 = .ok (.iload_n 1, 1) := by decide +kernel
theorem dX4_write_38 : decode cX4_write 38 = .ok (.aaload, 1) := by decide +kernel
theorem dX4_write_39 : decode cX4_write 39 = .ok (.getfield 232, 3) := by decide +kernel
theorem dX4_write_42 : decode cX4_write 42 = .ok (.iconst 1, 1) := by decide +kernel
theorem dX4_write_43 : decode cX4_write 43 = .ok (.isub, 1) := by decide +kernel
theorem dX4_write_44 : decode cX4_write 44 = .ok (.invokestatic 51, 3) := by decide +kernel
theorem dX4_write_47 : decode cX4_write 47 = .ok (.ifCond .ne 9, 3) := by decide +kernel
theorem dX4_write_50 : decode cX4_write 50 = .ok (.aload_n 0, 1) := by decide +kernel
theorem dX4_write_51 : decode cX4_write 51 = .ok (.iconst 0, 1) := by decide +kernel
theorem dX4_write_52 : decode cX4_write 52 = .ok (.invokevirtual 55, 3) := by decide +kernel
theorem dX4_write_55 : decode cX4_write 55 = .ok (.ireturn, 1) := by decide +kernel
theorem dX4_write_56 : decode cX4_write 56 = .ok (.aload_n 0, 1) := by decide +kernel
theorem dX4_write_57 : decode cX4_write 57 = .ok (.getfield 35, 3) := by decide +kernel
theorem dX4_write_60 : decode cX4_write 60 = .ok (.iload_n 1, 1) := by decide +kernel
theorem dX4_write_61 : decode cX4_write 61 = .ok (.aaload, 1) := by decide +kernel
theorem dX4_write_62 : decode cX4_write 62 = .ok (.iload_n 2, 1) := by decide +kernel
theorem dX4_write_63 : decode cX4_write 63 = .ok (.iload_n 3, 1) := by decide +kernel
theorem dX4_write_64 : decode cX4_write 64 = .ok (.invokevirtual 236, 3) := by decide +kernel
theorem dX4_write_67 : decode cX4_write 67 = .ok (.iconst 1, 1) := by decide +kernel
theorem dX4_write_68 : decode cX4_write 68 = .ok (.ireturn, 1) := by decide +kernel
theorem dX4_copy_0 : decode cX4_copy 0 = .ok (.iload_n 1, 1) := by decide +kernel
theorem dX4_copy_1 : decode cX4_copy 1 = .ok (.invokestatic 226, 3) := by decide +kernel
theorem dX4_copy_4 : decode cX4_copy 4 = .ok (.ifCond .eq 10, 3) := by decide +kernel
theorem dX4_copy_7 : decode cX4_copy 7 = .ok (.iload_n 3, 1) := by decide +kernel
theorem dX4_copy_8 : decode cX4_copy 8 = .ok (.invokestatic 226, 3) := by decide +kernel
theorem dX4_copy_11 : decode cX4_copy 11 = .ok (.ifCond .ne 9, 3) := by decide +kernel
theorem dX4_copy_14 : decode cX4_copy 14 = .ok (.aload_n 0, 1) := by decide +kernel
theorem dX4_copy_15 : decode cX4_copy 15 = .ok (.iconst 0, 1) := by decide +kernel
theorem dX4_copy_16 : decode cX4_copy 16 = .ok (.invokevirtual 55, 3) := by decide +kernel
theorem dX4_copy_19 : decode cX4_copy 19 = .ok (.ireturn, 1) := by decide +kernel
theorem dX4_copy_20 : decode cX4_copy 20 = .ok (.aload_n 0, 1) := by decide +kernel
theorem dX4_copy_21 : decode cX4_copy 21 = .ok (.getfield 35, 3) := by decide +kernel
theorem dX4_copy_24 : decode cX4_copy 24 = .ok (.iload_n 1, 1) := by decide +kernel
theorem dX4_copy_25 : decode cX4_copy 25 = .ok (.aaload, 1) := by decide +kernel
theorem dX4_copy_26 : decode cX4_copy 26 = .ok (.astore 6, 2) := by decide +kernel
theorem dX4_copy_28 : decode cX4_copy 28 = .ok (.aload_n 0, 1) := by decide +kernel
theorem dX4_copy_29 : decode cX4_copy 29 = .ok (.getfield 35, 3) := by decide +kernel
theorem dX4_copy_32 : decode cX4_copy 32 = .ok (.iload_n 3, 1) := by decide +kernel
theorem dX4_copy_33 : decode cX4_copy 33 = .ok (.aaload, 1) := by decide +kernel
theorem dX4_copy_34 : decode cX4_copy 34 = .ok (.astore 7, 2) := by decide +kernel
theorem dX4_copy_36 : decode cX4_copy 36 = .ok (.aload 6, 2) := by decide +kernel
theorem dX4_copy_38 : decode cX4_copy 38 = .ok (.invokevirtual 233, 3) := by decide +kernel
theorem dX4_copy_41 : decode cX4_copy 41 = .ok (.ifCond .ne 11, 3) := by decide +kernel
theorem dX4_copy_44 : decode cX4_copy 44 = .ok (.aload 7, 2) := by decide +kernel
theorem dX4_copy_46 : decode cX4_copy 46 = .ok (.invokevirtual 233, 3) := by decide +kernel
theorem dX4_copy_49 : decode cX4_copy 49 = .ok (.ifCond .eq 9, 3) := by decide +kernel
theorem dX4_copy_52 : decode cX4_copy 52 = .ok (.aload_n 0, 1) := by decide +kernel
theorem dX4_copy_53 : decode cX4_copy 53 = .ok (.iconst 5, 1) := by decide +kernel
theorem dX4_copy_54 : decode cX4_copy 54 = .ok (.invokevirtual 55, 3) := by decide +kernel
theorem dX4_copy_57 : decode cX4_copy 57 = .ok (.ireturn, 1) := by decide +kernel
theorem dX4_copy_58 : decode cX4_copy 58 = .ok (.aload 6, 2) := by decide +kernel
theorem dX4_copy_60 : decode cX4_copy 60 = .ok (.getfield 237, 3) := by decide +kernel
theorem dX4_copy_63 : decode cX4_copy 63 = .ok (.aload 7, 2) := by decide +kernel
theorem dX4_copy_65 : decode cX4_copy 65 = .ok (.getfield 237, 3) := by decide +kernel
theorem dX4_copy_68 : decode cX4_copy 68 = .ok (.if_icmp .eq 9, 3) := by decide +kernel
theorem dX4_copy_71 : decode cX4_copy 71 = .ok (.aload_n 0, 1) := by decide +kernel
theorem dX4_copy_72 : decode cX4_copy 72 = .ok (.iconst 2, 1) := by decide +kernel
theorem dX4_copy_73 : decode cX4_copy 73 = .ok (.invokevirtual 55, 3) := by decide +kernel
theorem dX4_copy_76 : decode cX4_copy 76 = .ok (.ireturn, 1) := by decide +kernel
theorem dX4_copy_77 : decode cX4_copy 77 = .ok (.aload 6, 2) := by decide +kernel
theorem dX4_copy_79 : decode cX4_copy 79 = .ok (.iload_n 2, 1) := by decide +kernel
theorem dX4_copy_80 : decode cX4_copy 80 = .ok (.iload 5, 2) := by decide +kernel
theorem dX4_copy_82 : decode cX4_copy 82 = .ok (.invokevirtual 240, 3) := by decide +kernel
theorem dX4_copy_85 : decode cX4_copy 85 = .ok (.ifCond .eq 15, 3) := by decide +kernel
theorem dX4_copy_88 : decode cX4_copy 88 = .ok (.aload 7, 2) := by decide +kernel
theorem dX4_copy_90 : decode cX4_copy 90 = .ok (.iload 4, 2) := by decide +kernel
theorem dX4_copy_92 : decode cX4_copy 92 = .ok (.iload 5, 2) := by decide +kernel
theorem dX4_copy_94 : decode cX4_copy 94 = .ok (.invokevirtual 240, 3) := by decide +kernel
theorem dX4_copy_97 : decode cX4_copy 97 = .ok (.ifCond .ne 9, 3) := by decide +kernel
theorem dX4_copy_100 : decode cX4_copy 100 = .ok (.aload_n 0, 1) := by decide +kernel
theorem dX4_copy_101 : decode cX4_copy 101 = .ok (.iconst 0, 1) := by decide +kernel
theorem dX4_copy_102 : decode cX4_copy 102 = .ok (.invokevirtual 55, 3) := by decide +kernel
theorem dX4_copy_105 : decode cX4_copy 105 = .ok (.ireturn, 1) := by decide +kernel
theorem dX4_copy_106 : decode cX4_copy 106 = .ok (.aload 6, 2) := by decide +kernel
theorem dX4_copy_108 : decode cX4_copy 108 = .ok (.getfield 243, 3) := by decide +kernel
theorem dX4_copy_111 : decode cX4_copy 111 = .ok (.iload_n 2, 1) := by decide +kernel
theorem dX4_copy_112 : decode cX4_copy 112 = .ok (.aload 7, 2) := by decide +kernel
theorem dX4_copy_114 : decode cX4_copy 114 = .ok (.getfield 243, 3) := by decide +kernel
theorem dX4_copy_117 : decode cX4_copy 117 = .ok (.iload 4, 2) := by decide +kernel
theorem dX4_copy_119 : decode cX4_copy 119 = .ok (.iload 5, 2) := by decide +kernel
theorem dX4_copy_121 : decode cX4_copy 121 = .ok (.invokestatic 246, 3) := by decide +kernel
theorem dX4_copy_124 : decode cX4_copy 124 = .ok (.iload 5, 2) := by decide +kernel
theorem dX4_copy_126 : decode cX4_copy 126 = .ok (.ireturn, 1) := by decide +kernel
theorem dX4_load_0 : decode cX4_load 0 = .ok (.iload_n 1, 1) := by decide +kernel
theorem dX4_load_1 : decode cX4_load 1 = .ok (.invokestatic 226, 3) := by decide +kernel
theorem dX4_load_4 : decode cX4_load 4 = .ok (.ifCond .ne 9, 3) := by decide +kernel
theorem dX4_load_7 : decode cX4_load 7 = .ok (.aload_n 0, 1) := by decide +kernel
theorem dX4_load_8 : decode cX4_load 8 = .ok (.iconst 0, 1) := by decide +kernel
theorem dX4_load_9 : decode cX4_load 9 = .ok (.invokevirtual 55, 3) := by decide +kernel
theorem dX4_load_12 : decode cX4_load 12 = .ok (.ireturn, 1) := by decide +kernel
theorem dX4_load_13 : decode cX4_load 13 = .ok (.aload_n 0, 1) := by decide +kernel
theorem dX4_load_14 : decode cX4_load 14 = .ok (.getfield 35, 3) := by decide +kernel
theorem dX4_load_17 : decode cX4_load 17 = .ok (.iload_n 1, 1) := by decide +kernel
theorem dX4_load_18 : decode cX4_load 18 = .ok (.aaload, 1) := by decide +kernel
theorem dX4_load_19 : decode cX4_load 19 = .ok (.astore_n 2, 1) := by decide +kernel
theorem dX4_load_20 : decode cX4_load 20 = .ok (.aload_n 2, 1) := by decide +kernel
theorem dX4_load_21 : decode cX4_load 21 = .ok (.invokevirtual 233, 3) := by decide +kernel
theorem dX4_load_24 : decode cX4_load 24 = .ok (.ifCond .eq 9, 3) := by decide +kernel
theorem dX4_load_27 : decode cX4_load 27 = .ok (.aload_n 0, 1) := by decide +kernel
theorem dX4_load_28 : decode cX4_load 28 = .ok (.iconst 5, 1) := by decide +kernel
theorem dX4_load_29 : decode cX4_load 29 = .ok (.invokevirtual 55, 3) := by decide +kernel
theorem dX4_load_32 : decode cX4_load 32 = .ok (.ireturn, 1) := by decide +kernel
theorem dX4_load_33 : decode cX4_load 33 = .ok (.iconst 0, 1) := by decide +kernel
theorem dX4_load_34 : decode cX4_load 34 = .ok (.istore_n 3, 1) := by decide +kernel
theorem dX4_load_35 : decode cX4_load 35 = .ok (.iload_n 3, 1) := by decide +kernel
theorem dX4_load_36 : decode cX4_load 36 = .ok (.aload_n 2, 1) := by decide +kernel
theorem dX4_load_37 : decode cX4_load 37 = .ok (.getfield 232, 3) := by decide +kernel
theorem dX4_load_40 : decode cX4_load 40 = .ok (.if_icmp .ge 51, 3) := by decide +kernel
theorem dX4_load_43 : decode cX4_load 43 = .ok (.aload_n 0, 1) := by decide +kernel
theorem dX4_load_44 : decode cX4_load 44 = .ok (.getfield 10, 3) := by decide +kernel
theorem dX4_load_47 : decode cX4_load 47 = .ok (.iload_n 3, 1) := by decide +kernel
theorem dX4_load_48 : decode cX4_load 48 = .ok (.invokevirtual 67, 3) := by decide +kernel
theorem dX4_load_51 : decode cX4_load 51 = .ok (.ifCond .eq 40, 3) := by decide +kernel
theorem dX4_load_54 : decode cX4_load 54 = .ok (.iconst 1, 1) := by decide +kernel
theorem dX4_load_55 : decode cX4_load 55 = .ok (.aload_n 2, 1) := by decide +kernel
theorem dX4_load_56 : decode cX4_load 56 = .ok (.getfield 243, 3) := by decide +kernel
theorem dX4_load_59 : decode cX4_load 59 = .ok (.iload_n 3, 1) := by decide +kernel
theorem dX4_load_60 : decode cX4_load 60 = .ok (.iaload, 1) := by decide +kernel
theorem dX4_load_61 : decode cX4_load 61 = .ok (.invokestatic 84, 3) := by decide +kernel
theorem dX4_load_64 : decode cX4_load 64 = .ok (.ifCond .eq 27, 3) := by decide +kernel
theorem dX4_load_67 : decode cX4_load 67 = .ok (.aload_n 0, 1) := by decide +kernel
theorem dX4_load_68 : decode cX4_load 68 = .ok (.getfield 10, 3) := by decide +kernel
theorem dX4_load_71 : decode cX4_load 71 = .ok (.getfield 71, 3) := by decide +kernel
theorem dX4_load_74 : decode cX4_load 74 = .ok (.iload_n 3, 1) := by decide +kernel
theorem dX4_load_75 : decode cX4_load 75 = .ok (.aaload, 1) := by decide +kernel
theorem dX4_load_76 : decode cX4_load 76 = .ok (.aload_n 2, 1) := by decide +kernel
theorem dX4_load_77 : decode cX4_load 77 = .ok (.getfield 243, 3) := by decide +kernel
theorem dX4_load_80 : decode cX4_load 80 = .ok (.iload_n 3, 1) := by decide +kernel
theorem dX4_load_81 : decode cX4_load 81 = .ok (.iaload, 1) := by decide +kernel
theorem dX4_load_82 : decode cX4_load 82 = .ok (.putfield 252, 3) := by decide +kernel
theorem dX4_load_85 : decode cX4_load 85 = .ok (.iinc 3 1, 3) := by decide +kernel
theorem dX4_load_88 : decode cX4_load 88 = .ok (.goto (-53), 3) := by decide +kernel
theorem dX4_load_91 : decode cX4_load 91 = .ok (.iload_n 3, 1) := by decide +kernel
theorem dX4_load_92 : decode cX4_load 92 = .ok (.ireturn, 1) := by decide +kernel
theorem dX4_judge_0 : decode cX4_judge 0 = .ok (.iload_n 1, 1) := by decide +kernel
theorem dX4_judge_1 : decode cX4_judge 1 = .ok (.invokestatic 226, 3) := by decide +kernel
theorem dX4_judge_4 : decode cX4_judge 4 = .ok (.ifCond .ne 9, 3) := by decide +kernel
theorem dX4_judge_7 : decode cX4_judge 7 = .ok (.aload_n 0, 1) := by decide +kernel
theorem dX4_judge_8 : decode cX4_judge 8 = .ok (.iconst 0, 1) := by decide +kernel
theorem dX4_judge_9 : decode cX4_judge 9 = .ok (.invokevirtual 55, 3) := by decide +kernel
theorem dX4_judge_12 : decode cX4_judge 12 = .ok (.ireturn, 1) := by decide +kernel
theorem dX4_judge_13 : decode cX4_judge 13 = .ok (.aload_n 0, 1) := by decide +kernel
theorem dX4_judge_14 : decode cX4_judge 14 = .ok (.getfield 35, 3) := by decide +kernel
theorem dX4_judge_17 : decode cX4_judge 17 = .ok (.iload_n 1, 1) := by decide +kernel
theorem dX4_judge_18 : decode cX4_judge 18 = .ok (.aaload, 1) := by decide +kernel
theorem dX4_judge_19 : decode cX4_judge 19 = .ok (.astore_n 3, 1) := by decide +kernel
theorem dX4_judge_20 : decode cX4_judge 20 = .ok (.aload_n 3, 1) := by decide +kernel
theorem dX4_judge_21 : decode cX4_judge 21 = .ok (.invokevirtual 233, 3) := by decide +kernel
theorem dX4_judge_24 : decode cX4_judge 24 = .ok (.ifCond .eq 9, 3) := by decide +kernel
theorem dX4_judge_27 : decode cX4_judge 27 = .ok (.aload_n 0, 1) := by decide +kernel
theorem dX4_judge_28 : decode cX4_judge 28 = .ok (.iconst 5, 1) := by decide +kernel
theorem dX4_judge_29 : decode cX4_judge 29 = .ok (.invokevirtual 55, 3) := by decide +kernel
theorem dX4_judge_32 : decode cX4_judge 32 = .ok (.ireturn, 1) := by decide +kernel
theorem dX4_judge_33 : decode cX4_judge 33 = .ok (.aload_n 0, 1) := by decide +kernel
theorem dX4_judge_34 : decode cX4_judge 34 = .ok (.getfield 10, 3) := by decide +kernel
theorem dX4_judge_37 : decode cX4_judge 37 = .ok (.iload_n 2, 1) := by decide +kernel
theorem dX4_judge_38 : decode cX4_judge 38 = .ok (.invokevirtual 67, 3) := by decide +kernel
theorem dX4_judge_41 : decode cX4_judge 41 = .ok (.ifCond .ne 9, 3) := by decide +kernel
theorem dX4_judge_44 : decode cX4_judge 44 = .ok (.aload_n 0, 1) := by decide +kernel
theorem dX4_judge_45 : decode cX4_judge 45 = .ok (.iconst 0, 1) := by decide +kernel
theorem dX4_judge_46 : decode cX4_judge 46 = .ok (.invokevirtual 55, 3) := by decide +kernel
theorem dX4_judge_49 : decode cX4_judge 49 = .ok (.ireturn, 1) := by decide +kernel
theorem dX4_judge_50 : decode cX4_judge 50 = .ok (.aload_n 0, 1) := by decide +kernel
theorem dX4_judge_51 : decode cX4_judge 51 = .ok (.aload_n 3, 1) := by decide +kernel
theorem dX4_judge_52 : decode cX4_judge 52 = .ok (.getfield 232, 3) := by decide +kernel
theorem dX4_judge_55 : decode cX4_judge 55 = .ok (.invokevirtual 114, 3) := by decide +kernel
theorem dX4_judge_58 : decode cX4_judge 58 = .ok (.ifCond .eq 9, 3) := by decide +kernel
theorem dX4_judge_61 : decode cX4_judge 61 = .ok (.aload_n 0, 1) := by decide +kernel
theorem dX4_judge_62 : decode cX4_judge 62 = .ok (.iconst 4, 1) := by decide +kernel
theorem dX4_judge_63 : decode cX4_judge 63 = .ok (.invokevirtual 55, 3) := by decide +kernel
theorem dX4_judge_66 : decode cX4_judge 66 = .ok (.ireturn, 1) := by decide +kernel
theorem dX4_judge_67 : decode cX4_judge 67 = .ok (.aload_n 0, 1) := by decide +kernel
theorem dX4_judge_68 : decode cX4_judge 68 = .ok (.getfield 16, 3) := by decide +kernel
theorem dX4_judge_71 : decode cX4_judge 71 = .ok (.aload_n 0, 1) := by decide +kernel
theorem dX4_judge_72 : decode cX4_judge 72 = .ok (.getfield 10, 3) := by decide +kernel
theorem dX4_judge_75 : decode cX4_judge 75 = .ok (.invokevirtual 135, 3) := by decide +kernel
theorem dX4_judge_78 : decode cX4_judge 78 = .ok (.iconst 0, 1) := by decide +kernel
theorem dX4_judge_79 : decode cX4_judge 79 = .ok (.istore 4, 2) := by decide +kernel
theorem dX4_judge_81 : decode cX4_judge 81 = .ok (.iload 4, 2) := by decide +kernel
theorem dX4_judge_83 : decode cX4_judge 83 = .ok (.aload_n 3, 1) := by decide +kernel
theorem dX4_judge_84 : decode cX4_judge 84 = .ok (.getfield 232, 3) := by decide +kernel
theorem dX4_judge_87 : decode cX4_judge 87 = .ok (.if_icmp .ge 44, 3) := by decide +kernel
theorem dX4_judge_90 : decode cX4_judge 90 = .ok (.aload_n 0, 1) := by decide +kernel
theorem dX4_judge_91 : decode cX4_judge 91 = .ok (.getfield 16, 3) := by decide +kernel
theorem dX4_judge_94 : decode cX4_judge 94 = .ok (.iconst 1, 1) := by decide +kernel
theorem dX4_judge_95 : decode cX4_judge 95 = .ok (.invokevirtual 117, 3) := by decide +kernel
theorem dX4_judge_98 : decode cX4_judge 98 = .ok (.aload_n 0, 1) := by decide +kernel
theorem dX4_judge_99 : decode cX4_judge 99 = .ok (.getfield 16, 3) := by decide +kernel
theorem dX4_judge_102 : decode cX4_judge 102 = .ok (.getfield 71, 3) := by decide +kernel
theorem dX4_judge_105 : decode cX4_judge 105 = .ok (.iload_n 2, 1) := by decide +kernel
theorem dX4_judge_106 : decode cX4_judge 106 = .ok (.aaload, 1) := by decide +kernel
theorem dX4_judge_107 : decode cX4_judge 107 = .ok (.getfield 95, 3) := by decide +kernel
theorem dX4_judge_110 : decode cX4_judge 110 = .ok (.aload_n 3, 1) := by decide +kernel
theorem dX4_judge_111 : decode cX4_judge 111 = .ok (.getfield 243, 3) := by decide +kernel
theorem dX4_judge_114 : decode cX4_judge 114 = .ok (.iload 4, 2) := by decide +kernel
theorem dX4_judge_116 : decode cX4_judge 116 = .ok (.iaload, 1) := by decide +kernel
theorem dX4_judge_117 : decode cX4_judge 117 = .ok (.if_icmp .eq 8, 3) := by decide +kernel
theorem dX4_judge_120 : decode cX4_judge 120 = .ok (.iconst 1, 1) := by decide +kernel
theorem dX4_judge_121 : decode cX4_judge 121 = .ok (.iload 4, 2) := by decide +kernel
theorem dX4_judge_123 : decode cX4_judge 123 = .ok (.iadd, 1) := by decide +kernel
theorem dX4_judge_124 : decode cX4_judge 124 = .ok (.ireturn, 1) := by decide +kernel
theorem dX4_judge_125 : decode cX4_judge 125 = .ok (.iinc 4 1, 3) := by decide +kernel
theorem dX4_judge_128 : decode cX4_judge 128 = .ok (.goto (-47), 3) := by decide +kernel
theorem dX4_judge_131 : decode cX4_judge 131 = .ok (.iconst 0, 1) := by decide +kernel
theorem dX4_judge_132 : decode cX4_judge 132 = .ok (.ireturn, 1) := by decide +kernel
theorem dX4_image_0 : decode cX4_image 0 = .ok (.aload_n 0, 1) := by decide +kernel
theorem dX4_image_1 : decode cX4_image 1 = .ok (.getfield 19, 3) := by decide +kernel
theorem dX4_image_4 : decode cX4_image 4 = .ok (.aload_n 0, 1) := by decide +kernel
theorem dX4_image_5 : decode cX4_image 5 = .ok (.getfield 10, 3) := by decide +kernel
theorem dX4_image_8 : decode cX4_image 8 = .ok (.invokevirtual 135, 3) := by decide +kernel
theorem dX4_image_11 : decode cX4_image 11 = .ok (.aload_n 0, 1) := by decide +kernel
theorem dX4_image_12 : decode cX4_image 12 = .ok (.iconst 1, 1) := by decide +kernel
theorem dX4_image_13 : decode cX4_image 13 = .ok (.putfield 22, 3) := by decide +kernel
theorem dX4_image_16 : decode cX4_image 16 = .ok (.iconst 1, 1) := by decide +kernel
theorem dX4_image_17 : decode cX4_image 17 = .ok (.ireturn, 1) := by decide +kernel
theorem dX4_undo_0 : decode cX4_undo 0 = .ok (.aload_n 0, 1) := by decide +kernel
theorem dX4_undo_1 : decode cX4_undo 1 = .ok (.getfield 22, 3) := by decide +kernel
theorem dX4_undo_4 : decode cX4_undo 4 = .ok (.ifCond .ne 9, 3) := by decide +kernel
theorem dX4_undo_7 : decode cX4_undo 7 = .ok (.aload_n 0, 1) := by decide +kernel
theorem dX4_undo_8 : decode cX4_undo 8 = .ok (.iconst 3, 1) := by decide +kernel
theorem dX4_undo_9 : decode cX4_undo 9 = .ok (.invokevirtual 55, 3) := by decide +kernel
theorem dX4_undo_12 : decode cX4_undo 12 = .ok (.ireturn, 1) := by decide +kernel
theorem dX4_undo_13 : decode cX4_undo 13 = .ok (.aload_n 0, 1) := by decide +kernel
theorem dX4_undo_14 : decode cX4_undo 14 = .ok (.getfield 10, 3) := by decide +kernel
theorem dX4_undo_17 : decode cX4_undo 17 = .ok (.aload_n 0, 1) := by decide +kernel
theorem dX4_undo_18 : decode cX4_undo 18 = .ok (.getfield 19, 3) := by decide +kernel
theorem dX4_undo_21 : decode cX4_undo 21 = .ok (.invokevirtual 135, 3) := by decide +kernel
theorem dX4_undo_24 : decode cX4_undo 24 = .ok (.aload_n 0, 1) := by decide +kernel
theorem dX4_undo_25 : decode cX4_undo 25 = .ok (.getfield 10, 3) := by decide +kernel
theorem dX4_undo_28 : decode cX4_undo 28 = .ok (.getfield 125, 3) := by decide +kernel
theorem dX4_undo_31 : decode cX4_undo 31 = .ok (.ireturn, 1) := by decide +kernel
theorem dX4_tear_0 : decode cX4_tear 0 = .ok (.aload_n 0, 1) := by decide +kernel
theorem dX4_tear_1 : decode cX4_tear 1 = .ok (.getfield 22, 3) := by decide +kernel
theorem dX4_tear_4 : decode cX4_tear 4 = .ok (.ifCond .eq 7, 3) := by decide +kernel
theorem dX4_tear_7 : decode cX4_tear 7 = .ok (.iconst 1, 1) := by decide +kernel
theorem dX4_tear_8 : decode cX4_tear 8 = .ok (.goto 4, 3) := by decide +kernel
theorem dX4_tear_11 : decode cX4_tear 11 = .ok (.iconst 0, 1) := by decide +kernel
theorem dX4_tear_12 : decode cX4_tear 12 = .ok (.istore_n 1, 1) := by decide +kernel
theorem dX4_tear_13 : decode cX4_tear 13 = .ok (.aload_n 0, 1) := by decide +kernel
theorem dX4_tear_14 : decode cX4_tear 14 = .ok (.iconst 0, 1) := by decide +kernel
theorem dX4_tear_15 : decode cX4_tear 15 = .ok (.putfield 22, 3) := by decide +kernel
theorem dX4_tear_18 : decode cX4_tear 18 = .ok (.iload_n 1, 1) := by decide +kernel
theorem dX4_tear_19 : decode cX4_tear 19 = .ok (.ireturn, 1) := by decide +kernel
theorem dX4_count_0 : decode cX4_count 0 = .ok (.iload_n 1, 1) := by decide +kernel
theorem dX4_count_1 : decode cX4_count 1 = .ok (.tableswitch 120 0 7 #[47, 55, 63, 71, 88, 96, 104, 112], 47) := by decide +kernel
theorem dX4_count_48 : decode cX4_count 48 = .ok (.aload_n 0, 1) := by decide +kernel
theorem dX4_count_49 : decode cX4_count 49 = .ok (.getfield 10, 3) := by decide +kernel
theorem dX4_count_52 : decode cX4_count 52 = .ok (.getfield 125, 3) := by decide +kernel
theorem dX4_count_55 : decode cX4_count 55 = .ok (.ireturn, 1) := by decide +kernel
theorem dX4_count_56 : decode cX4_count 56 = .ok (.aload_n 0, 1) := by decide +kernel
theorem dX4_count_57 : decode cX4_count 57 = .ok (.getfield 10, 3) := by decide +kernel
theorem dX4_count_60 : decode cX4_count 60 = .ok (.getfield 59, 3) := by decide +kernel
theorem dX4_count_63 : decode cX4_count 63 = .ok (.ireturn, 1) := by decide +kernel
theorem dX4_count_64 : decode cX4_count 64 = .ok (.aload_n 0, 1) := by decide +kernel
theorem dX4_count_65 : decode cX4_count 65 = .ok (.getfield 10, 3) := by decide +kernel
theorem dX4_count_68 : decode cX4_count 68 = .ok (.getfield 75, 3) := by decide +kernel
theorem dX4_count_71 : decode cX4_count 71 = .ok (.ireturn, 1) := by decide +kernel
theorem dX4_count_72 : decode cX4_count 72 = .ok (.aload_n 0, 1) := by decide +kernel
theorem dX4_count_73 : decode cX4_count 73 = .ok (.getfield 10, 3) := by decide +kernel
theorem dX4_count_76 : decode cX4_count 76 = .ok (.aload_n 0, 1) := by decide +kernel
theorem dX4_count_77 : decode cX4_count 77 = .ok (.getfield 10, 3) := by decide +kernel
theorem dX4_count_80 : decode cX4_count 80 = .ok (.invokevirtual 173, 3) := by decide +kernel
theorem dX4_count_83 : decode cX4_count 83 = .ok (.iconst 1, 1) := by decide +kernel
theorem dX4_count_84 : decode cX4_count 84 = .ok (.isub, 1) := by decide +kernel
theorem dX4_count_85 : decode cX4_count 85 = .ok (.invokevirtual 167, 3) := by decide +kernel
theorem dX4_count_88 : decode cX4_count 88 = .ok (.ireturn, 1) := by decide +kernel
theorem dX4_count_89 : decode cX4_count 89 = .ok (.aload_n 0, 1) := by decide +kernel
theorem dX4_count_90 : decode cX4_count 90 = .ok (.getfield 10, 3) := by decide +kernel
theorem dX4_count_93 : decode cX4_count 93 = .ok (.invokevirtual 128, 3) := by decide +kernel
theorem dX4_count_96 : decode cX4_count 96 = .ok (.ireturn, 1) := by decide +kernel
theorem dX4_count_97 : decode cX4_count 97 = .ok (.aload_n 0, 1) := by decide +kernel
theorem dX4_count_98 : decode cX4_count 98 = .ok (.getfield 29, 3) := by decide +kernel
theorem dX4_count_101 : decode cX4_count 101 = .ok (.getfield 210, 3) := by decide +kernel
theorem dX4_count_104 : decode cX4_count 104 = .ok (.ireturn, 1) := by decide +kernel
theorem dX4_count_105 : decode cX4_count 105 = .ok (.aload_n 0, 1) := by decide +kernel
theorem dX4_count_106 : decode cX4_count 106 = .ok (.getfield 10, 3) := by decide +kernel
theorem dX4_count_109 : decode cX4_count 109 = .ok (.getfield 207, 3) := by decide +kernel
theorem dX4_count_112 : decode cX4_count 112 = .ok (.ireturn, 1) := by decide +kernel
theorem dX4_count_113 : decode cX4_count 113 = .ok (.aload_n 0, 1) := by decide +kernel
theorem dX4_count_114 : decode cX4_count 114 = .ok (.getfield 10, 3) := by decide +kernel
theorem dX4_count_117 : decode cX4_count 117 = .ok (.invokevirtual 255, 3) := by decide +kernel
theorem dX4_count_120 : decode cX4_count 120 = .ok (.ireturn, 1) := by decide +kernel
theorem dX4_count_121 : decode cX4_count 121 = .ok (.aload_n 0, 1) := by decide +kernel
theorem dX4_count_122 : decode cX4_count 122 = .ok (.iconst 0, 1) := by decide +kernel
theorem dX4_count_123 : decode cX4_count 123 = .ok (.invokevirtual 55, 3) := by decide +kernel
theorem dX4_count_126 : decode cX4_count 126 = .ok (.ireturn, 1) := by decide +kernel
theorem dX4_status_0 : decode cX4_status 0 = .ok (.iload_n 1, 1) := by decide +kernel
theorem dX4_status_1 : decode cX4_status 1 = .ok (.iconst (-1), 1) := by decide +kernel
theorem dX4_status_2 : decode cX4_status 2 = .ok (.bipush 6, 2) := by decide +kernel
theorem dX4_status_4 : decode cX4_status 4 = .ok (.invokestatic 51, 3) := by decide +kernel
theorem dX4_status_7 : decode cX4_status 7 = .ok (.ifCond .ne 9, 3) := by decide +kernel
theorem dX4_status_10 : decode cX4_status 10 = .ok (.aload_n 0, 1) := by decide +kernel
theorem dX4_status_11 : decode cX4_status 11 = .ok (.iconst 0, 1) := by decide +kernel
theorem dX4_status_12 : decode cX4_status 12 = .ok (.invokevirtual 55, 3) := by decide +kernel
theorem dX4_status_15 : decode cX4_status 15 = .ok (.ireturn, 1) := by decide +kernel
theorem dX4_status_16 : decode cX4_status 16 = .ok (.iload_n 1, 1) := by decide +kernel
theorem dX4_status_17 : decode cX4_status 17 = .ok (.ifCond .lt 10, 3) := by decide +kernel
theorem dX4_status_20 : decode cX4_status 20 = .ok (.aload_n 0, 1) := by decide +kernel
theorem dX4_status_21 : decode cX4_status 21 = .ok (.getfield 39, 3) := by decide +kernel
theorem dX4_status_24 : decode cX4_status 24 = .ok (.iload_n 1, 1) := by decide +kernel
theorem dX4_status_25 : decode cX4_status 25 = .ok (.iaload, 1) := by decide +kernel
theorem dX4_status_26 : decode cX4_status 26 = .ok (.ireturn, 1) := by decide +kernel
theorem dX4_status_27 : decode cX4_status 27 = .ok (.iconst 0, 1) := by decide +kernel
theorem dX4_status_28 : decode cX4_status 28 = .ok (.istore_n 2, 1) := by decide +kernel
theorem dX4_status_29 : decode cX4_status 29 = .ok (.iconst 0, 1) := by decide +kernel
theorem dX4_status_30 : decode cX4_status 30 = .ok (.istore_n 3, 1) := by decide +kernel
theorem dX4_status_31 : decode cX4_status 31 = .ok (.iload_n 3, 1) := by decide +kernel
theorem dX4_status_32 : decode cX4_status 32 = .ok (.bipush 7, 2) := by decide +kernel
theorem dX4_status_34 : decode cX4_status 34 = .ok (.if_icmp .ge 18, 3) := by decide +kernel
theorem dX4_status_37 : decode cX4_status 37 = .ok (.iload_n 2, 1) := by decide +kernel
theorem dX4_status_38 : decode cX4_status 38 = .ok (.aload_n 0, 1) := by decide +kernel
theorem dX4_status_39 : decode cX4_status 39 = .ok (.getfield 39, 3) := by decide +kernel
theorem dX4_status_42 : decode cX4_status 42 = .ok (.iload_n 3, 1) := by decide +kernel
theorem dX4_status_43 : decode cX4_status 43 = .ok (.iaload, 1) := by decide +kernel
theorem dX4_status_44 : decode cX4_status 44 = .ok (.iadd, 1) := by decide +kernel
theorem dX4_status_45 : decode cX4_status 45 = .ok (.istore_n 2, 1) := by decide +kernel
theorem dX4_status_46 : decode cX4_status 46 = .ok (.iinc 3 1, 3) := by decide +kernel
theorem dX4_status_49 : decode cX4_status 49 = .ok (.goto (-18), 3) := by decide +kernel
theorem dX4_status_52 : decode cX4_status 52 = .ok (.iload_n 2, 1) := by decide +kernel
theorem dX4_status_53 : decode cX4_status 53 = .ok (.ireturn, 1) := by decide +kernel
theorem dX4_finding_0 : decode cX4_finding 0 = .ok (.aload_n 0, 1) := by decide +kernel
theorem dX4_finding_1 : decode cX4_finding 1 = .ok (.getfield 39, 3) := by decide +kernel
theorem dX4_finding_4 : decode cX4_finding 4 = .ok (.iload_n 1, 1) := by decide +kernel
theorem dX4_finding_5 : decode cX4_finding 5 = .ok (.dup2, 1) := by decide +kernel
theorem dX4_finding_6 : decode cX4_finding 6 = .ok (.iaload, 1) := by decide +kernel
theorem dX4_finding_7 : decode cX4_finding 7 = .ok (.iconst 1, 1) := by decide +kernel
theorem dX4_finding_8 : decode cX4_finding 8 = .ok (.iadd, 1) := by decide +kernel
theorem dX4_finding_9 : decode cX4_finding 9 = .ok (.iastore, 1) := by decide +kernel
theorem dX4_finding_10 : decode cX4_finding 10 = .ok (.ldc_w 258, 3) := by decide +kernel
theorem dX4_finding_13 : decode cX4_finding 13 = .ok (.iload_n 1, 1) := by decide +kernel
theorem dX4_finding_14 : decode cX4_finding 14 = .ok (.isub, 1) := by decide +kernel
theorem dX4_finding_15 : decode cX4_finding 15 = .ok (.ireturn, 1) := by decide +kernel
theorem dX4_isWithin_0 : decode cX4_isWithin 0 = .ok (.iload_n 0, 1) := by decide +kernel
theorem dX4_isWithin_1 : decode cX4_isWithin 1 = .ok (.iload_n 1, 1) := by decide +kernel
theorem dX4_isWithin_2 : decode cX4_isWithin 2 = .ok (.if_icmp .lt 12, 3) := by decide +kernel
theorem dX4_isWithin_5 : decode cX4_isWithin 5 = .ok (.iload_n 0, 1) := by decide +kernel
theorem dX4_isWithin_6 : decode cX4_isWithin 6 = .ok (.iload_n 2, 1) := by decide +kernel
theorem dX4_isWithin_7 : decode cX4_isWithin 7 = .ok (.if_icmp .gt 7, 3) := by decide +kernel
theorem dX4_isWithin_10 : decode cX4_isWithin 10 = .ok (.iconst 1, 1) := by decide +kernel
theorem dX4_isWithin_11 : decode cX4_isWithin 11 = .ok (.goto 4, 3) := by decide +kernel
theorem dX4_isWithin_14 : decode cX4_isWithin 14 = .ok (.iconst 0, 1) := by decide +kernel
theorem dX4_isWithin_15 : decode cX4_isWithin 15 = .ok (.ireturn, 1) := by decide +kernel
theorem dX4_isPlace_0 : decode cX4_isPlace 0 = .ok (.iload_n 0, 1) := by decide +kernel
theorem dX4_isPlace_1 : decode cX4_isPlace 1 = .ok (.iconst 0, 1) := by decide +kernel
theorem dX4_isPlace_2 : decode cX4_isPlace 2 = .ok (.iconst 4, 1) := by decide +kernel
theorem dX4_isPlace_3 : decode cX4_isPlace 3 = .ok (.invokestatic 51, 3) := by decide +kernel
theorem dX4_isPlace_6 : decode cX4_isPlace 6 = .ok (.ireturn, 1) := by decide +kernel
theorem dX4_isSheet_0 : decode cX4_isSheet 0 = .ok (.iload_n 0, 1) := by decide +kernel
theorem dX4_isSheet_1 : decode cX4_isSheet 1 = .ok (.iconst 0, 1) := by decide +kernel
theorem dX4_isSheet_2 : decode cX4_isSheet 2 = .ok (.iconst 3, 1) := by decide +kernel
theorem dX4_isSheet_3 : decode cX4_isSheet 3 = .ok (.invokestatic 51, 3) := by decide +kernel
theorem dX4_isSheet_6 : decode cX4_isSheet 6 = .ok (.ireturn, 1) := by decide +kernel
theorem dX4_mayBecome_0 : decode cX4_mayBecome 0 = .ok (.iload_n 0, 1) := by decide +kernel
theorem dX4_mayBecome_1 : decode cX4_mayBecome 1 = .ok (.tableswitch 92 0 6 #[43, 51, 59, 67, 92, 76, 84], 43) := by decide +kernel
theorem dX4_mayBecome_44 : decode cX4_mayBecome 44 = .ok (.iload_n 1, 1) := by decide +kernel
theorem dX4_mayBecome_45 : decode cX4_mayBecome 45 = .ok (.iconst 0, 1) := by decide +kernel
theorem dX4_mayBecome_46 : decode cX4_mayBecome 46 = .ok (.bipush 6, 2) := by decide +kernel
theorem dX4_mayBecome_48 : decode cX4_mayBecome 48 = .ok (.invokestatic 51, 3) := by decide +kernel
theorem dX4_mayBecome_51 : decode cX4_mayBecome 51 = .ok (.ireturn, 1) := by decide +kernel
theorem dX4_mayBecome_52 : decode cX4_mayBecome 52 = .ok (.iload_n 1, 1) := by decide +kernel
theorem dX4_mayBecome_53 : decode cX4_mayBecome 53 = .ok (.iconst 1, 1) := by decide +kernel
theorem dX4_mayBecome_54 : decode cX4_mayBecome 54 = .ok (.bipush 40, 2) := by decide +kernel
theorem dX4_mayBecome_56 : decode cX4_mayBecome 56 = .ok (.invokestatic 51, 3) := by decide +kernel
theorem dX4_mayBecome_59 : decode cX4_mayBecome 59 = .ok (.ireturn, 1) := by decide +kernel
theorem dX4_mayBecome_60 : decode cX4_mayBecome 60 = .ok (.iload_n 1, 1) := by decide +kernel
theorem dX4_mayBecome_61 : decode cX4_mayBecome 61 = .ok (.iconst 1, 1) := by decide +kernel
theorem dX4_mayBecome_62 : decode cX4_mayBecome 62 = .ok (.bipush 50, 2) := by decide +kernel
theorem dX4_mayBecome_64 : decode cX4_mayBecome 64 = .ok (.invokestatic 51, 3) := by decide +kernel
theorem dX4_mayBecome_67 : decode cX4_mayBecome 67 = .ok (.ireturn, 1) := by decide +kernel
theorem dX4_mayBecome_68 : decode cX4_mayBecome 68 = .ok (.iload_n 1, 1) := by decide +kernel
theorem dX4_mayBecome_69 : decode cX4_mayBecome 69 = .ok (.iconst 0, 1) := by decide +kernel
theorem dX4_mayBecome_70 : decode cX4_mayBecome 70 = .ok (.sipush 240, 3) := by decide +kernel
theorem dX4_mayBecome_73 : decode cX4_mayBecome 73 = .ok (.invokestatic 51, 3) := by decide +kernel
theorem dX4_mayBecome_76 : decode cX4_mayBecome 76 = .ok (.ireturn, 1) := by decide +kernel
theorem dX4_mayBecome_77 : decode cX4_mayBecome 77 = .ok (.iload_n 1, 1) := by decide +kernel
theorem dX4_mayBecome_78 : decode cX4_mayBecome 78 = .ok (.iconst 0, 1) := by decide +kernel
theorem dX4_mayBecome_79 : decode cX4_mayBecome 79 = .ok (.bipush 9, 2) := by decide +kernel
theorem dX4_mayBecome_81 : decode cX4_mayBecome 81 = .ok (.invokestatic 51, 3) := by decide +kernel
theorem dX4_mayBecome_84 : decode cX4_mayBecome 84 = .ok (.ireturn, 1) := by decide +kernel
theorem dX4_mayBecome_85 : decode cX4_mayBecome 85 = .ok (.iload_n 1, 1) := by decide +kernel
theorem dX4_mayBecome_86 : decode cX4_mayBecome 86 = .ok (.iconst 0, 1) := by decide +kernel
theorem dX4_mayBecome_87 : decode cX4_mayBecome 87 = .ok (.bipush 7, 2) := by decide +kernel
theorem dX4_mayBecome_89 : decode cX4_mayBecome 89 = .ok (.invokestatic 51, 3) := by decide +kernel
theorem dX4_mayBecome_92 : decode cX4_mayBecome 92 = .ok (.ireturn, 1) := by decide +kernel
theorem dX4_mayBecome_93 : decode cX4_mayBecome 93 = .ok (.iconst 0, 1) := by decide +kernel
theorem dX4_mayBecome_94 : decode cX4_mayBecome 94 = .ok (.ireturn, 1) := by decide +kernel
theorem dX4_leastOf_0 : decode cX4_leastOf 0 = .ok (.iconst 0, 1) := by decide +kernel
theorem dX4_leastOf_1 : decode cX4_leastOf 1 = .ok (.istore_n 1, 1) := by decide +kernel
theorem dX4_leastOf_2 : decode cX4_leastOf 2 = .ok (.iload_n 1, 1) := by decide +kernel
theorem dX4_leastOf_3 : decode cX4_leastOf 3 = .ok (.bipush 9, 2) := by decide +kernel
theorem dX4_leastOf_5 : decode cX4_leastOf 5 = .ok (.if_icmp .ge 17, 3) := by decide +kernel
theorem dX4_leastOf_8 : decode cX4_leastOf 8 = .ok (.iload_n 0, 1) := by decide +kernel
theorem dX4_leastOf_9 : decode cX4_leastOf 9 = .ok (.iload_n 1, 1) := by decide +kernel
theorem dX4_leastOf_10 : decode cX4_leastOf 10 = .ok (.ishr, 1) := by decide +kernel
theorem dX4_leastOf_11 : decode cX4_leastOf 11 = .ok (.iconst 1, 1) := by decide +kernel
theorem dX4_leastOf_12 : decode cX4_leastOf 12 = .ok (.iand, 1) := by decide +kernel
theorem dX4_leastOf_13 : decode cX4_leastOf 13 = .ok (.ifCond .ne 9, 3) := by decide +kernel
theorem dX4_leastOf_16 : decode cX4_leastOf 16 = .ok (.iinc 1 1, 3) := by decide +kernel
theorem dX4_leastOf_19 : decode cX4_leastOf 19 = .ok (.goto (-17), 3) := by decide +kernel
theorem dX4_leastOf_22 : decode cX4_leastOf 22 = .ok (.iload_n 1, 1) := by decide +kernel
theorem dX4_leastOf_23 : decode cX4_leastOf 23 = .ok (.ireturn, 1) := by decide +kernel
theorem dX4_isTooFar_0 : decode cX4_isTooFar 0 = .ok (.aload_n 0, 1) := by decide +kernel
theorem dX4_isTooFar_1 : decode cX4_isTooFar 1 = .ok (.getfield 10, 3) := by decide +kernel
theorem dX4_isTooFar_4 : decode cX4_isTooFar 4 = .ok (.getfield 125, 3) := by decide +kernel
theorem dX4_isTooFar_7 : decode cX4_isTooFar 7 = .ok (.iload_n 1, 1) := by decide +kernel
theorem dX4_isTooFar_8 : decode cX4_isTooFar 8 = .ok (.iadd, 1) := by decide +kernel
theorem dX4_isTooFar_9 : decode cX4_isTooFar 9 = .ok (.sipush 9999, 3) := by decide +kernel
theorem dX4_isTooFar_12 : decode cX4_isTooFar 12 = .ok (.if_icmp .le 7, 3) := by decide +kernel
theorem dX4_isTooFar_15 : decode cX4_isTooFar 15 = .ok (.iconst 1, 1) := by decide +kernel
theorem dX4_isTooFar_16 : decode cX4_isTooFar 16 = .ok (.goto 4, 3) := by decide +kernel
theorem dX4_isTooFar_19 : decode cX4_isTooFar 19 = .ok (.iconst 0, 1) := by decide +kernel
theorem dX4_isTooFar_20 : decode cX4_isTooFar 20 = .ok (.ireturn, 1) := by decide +kernel
theorem dX4_goneInTrial_0 : decode cX4_goneInTrial 0 = .ok (.aload_n 0, 1) := by decide +kernel
theorem dX4_goneInTrial_1 : decode cX4_goneInTrial 1 = .ok (.getfield 10, 3) := by decide +kernel
theorem dX4_goneInTrial_4 : decode cX4_goneInTrial 4 = .ok (.iconst 0, 1) := by decide +kernel
theorem dX4_goneInTrial_5 : decode cX4_goneInTrial 5 = .ok (.invokevirtual 108, 3) := by decide +kernel
theorem dX4_goneInTrial_8 : decode cX4_goneInTrial 8 = .ok (.aload_n 0, 1) := by decide +kernel
theorem dX4_goneInTrial_9 : decode cX4_goneInTrial 9 = .ok (.getfield 16, 3) := by decide +kernel
theorem dX4_goneInTrial_12 : decode cX4_goneInTrial 12 = .ok (.iconst 0, 1) := by decide +kernel
theorem dX4_goneInTrial_13 : decode cX4_goneInTrial 13 = .ok (.invokevirtual 108, 3) := by decide +kernel
theorem dX4_goneInTrial_16 : decode cX4_goneInTrial 16 = .ok (.iconst (-1), 1) := by decide +kernel
theorem dX4_goneInTrial_17 : decode cX4_goneInTrial 17 = .ok (.ixor, 1) := by decide +kernel
theorem dX4_goneInTrial_18 : decode cX4_goneInTrial 18 = .ok (.iand, 1) := by decide +kernel
theorem dX4_goneInTrial_19 : decode cX4_goneInTrial 19 = .ok (.ireturn, 1) := by decide +kernel
theorem dX4_lostInTrial_0 : decode cX4_lostInTrial 0 = .ok (.aload_n 0, 1) := by decide +kernel
theorem dX4_lostInTrial_1 : decode cX4_lostInTrial 1 = .ok (.getfield 16, 3) := by decide +kernel
theorem dX4_lostInTrial_4 : decode cX4_lostInTrial 4 = .ok (.iconst 2, 1) := by decide +kernel
theorem dX4_lostInTrial_5 : decode cX4_lostInTrial 5 = .ok (.invokevirtual 108, 3) := by decide +kernel
theorem dX4_lostInTrial_8 : decode cX4_lostInTrial 8 = .ok (.aload_n 0, 1) := by decide +kernel
theorem dX4_lostInTrial_9 : decode cX4_lostInTrial 9 = .ok (.getfield 10, 3) := by decide +kernel
theorem dX4_lostInTrial_12 : decode cX4_lostInTrial 12 = .ok (.iconst 2, 1) := by decide +kernel
theorem dX4_lostInTrial_13 : decode cX4_lostInTrial 13 = .ok (.invokevirtual 108, 3) := by decide +kernel
theorem dX4_lostInTrial_16 : decode cX4_lostInTrial 16 = .ok (.iconst (-1), 1) := by decide +kernel
theorem dX4_lostInTrial_17 : decode cX4_lostInTrial 17 = .ok (.ixor, 1) := by decide +kernel
theorem dX4_lostInTrial_18 : decode cX4_lostInTrial 18 = .ok (.iand, 1) := by decide +kernel
theorem dX4_lostInTrial_19 : decode cX4_lostInTrial 19 = .ok (.ireturn, 1) := by decide +kernel
theorem dX4_stayInTrial_0 : decode cX4_stayInTrial 0 = .ok (.iconst 1, 1) := by decide +kernel
theorem dX4_stayInTrial_1 : decode cX4_stayInTrial 1 = .ok (.istore_n 2, 1) := by decide +kernel
theorem dX4_stayInTrial_2 : decode cX4_stayInTrial 2 = .ok (.iconst 0, 1) := by decide +kernel
theorem dX4_stayInTrial_3 : decode cX4_stayInTrial 3 = .ok (.istore_n 3, 1) := by decide +kernel
theorem dX4_stayInTrial_4 : decode cX4_stayInTrial 4 = .ok (.iload_n 3, 1) := by decide +kernel
theorem dX4_stayInTrial_5 : decode cX4_stayInTrial 5 = .ok (.bipush 100, 2) := by decide +kernel
theorem dX4_stayInTrial_7 : decode cX4_stayInTrial 7 = .ok (.if_icmp .gt 38, 3) := by decide +kernel
theorem dX4_stayInTrial_10 : decode cX4_stayInTrial 10 = .ok (.iload_n 2, 1) := by decide +kernel
theorem dX4_stayInTrial_11 : decode cX4_stayInTrial 11 = .ok (.ifCond .eq 34, 3) := by decide +kernel
theorem dX4_stayInTrial_14 : decode cX4_stayInTrial 14 = .ok (.aload_n 0, 1) := by decide +kernel
theorem dX4_stayInTrial_15 : decode cX4_stayInTrial 15 = .ok (.getfield 16, 3) := by decide +kernel
theorem dX4_stayInTrial_18 : decode cX4_stayInTrial 18 = .ok (.getfield 71, 3) := by decide +kernel
theorem dX4_stayInTrial_21 : decode cX4_stayInTrial 21 = .ok (.iload_n 1, 1) := by decide +kernel
theorem dX4_stayInTrial_22 : decode cX4_stayInTrial 22 = .ok (.aaload, 1) := by decide +kernel
theorem dX4_stayInTrial_23 : decode cX4_stayInTrial 23 = .ok (.getfield 95, 3) := by decide +kernel
theorem dX4_stayInTrial_26 : decode cX4_stayInTrial 26 = .ok (.ifCond .eq 5, 3) := by decide +kernel
theorem dX4_stayInTrial_29 : decode cX4_stayInTrial 29 = .ok (.iload_n 3, 1) := by decide +kernel
theorem dX4_stayInTrial_30 : decode cX4_stayInTrial 30 = .ok (.ireturn, 1) := by decide +kernel
theorem dX4_stayInTrial_31 : decode cX4_stayInTrial 31 = .ok (.aload_n 0, 1) := by decide +kernel
theorem dX4_stayInTrial_32 : decode cX4_stayInTrial 32 = .ok (.getfield 16, 3) := by decide +kernel
theorem dX4_stayInTrial_35 : decode cX4_stayInTrial 35 = .ok (.invokevirtual 148, 3) := by decide +kernel
theorem dX4_stayInTrial_38 : decode cX4_stayInTrial 38 = .ok (.istore_n 2, 1) := by decide +kernel
theorem dX4_stayInTrial_39 : decode cX4_stayInTrial 39 = .ok (.iinc 3 1, 3) := by decide +kernel
theorem dX4_stayInTrial_42 : decode cX4_stayInTrial 42 = .ok (.goto (-38), 3) := by decide +kernel
theorem dX4_stayInTrial_45 : decode cX4_stayInTrial 45 = .ok (.bipush 101, 2) := by decide +kernel
theorem dX4_stayInTrial_47 : decode cX4_stayInTrial 47 = .ok (.ireturn, 1) := by decide +kernel
theorem dX4_goneWithHole_0 : decode cX4_goneWithHole 0 = .ok (.aload_n 0, 1) := by decide +kernel
theorem dX4_goneWithHole_1 : decode cX4_goneWithHole 1 = .ok (.getfield 16, 3) := by decide +kernel
theorem dX4_goneWithHole_4 : decode cX4_goneWithHole 4 = .ok (.aload_n 0, 1) := by decide +kernel
theorem dX4_goneWithHole_5 : decode cX4_goneWithHole 5 = .ok (.getfield 10, 3) := by decide +kernel
theorem dX4_goneWithHole_8 : decode cX4_goneWithHole 8 = .ok (.invokevirtual 135, 3) := by decide +kernel
theorem dX4_goneWithHole_11 : decode cX4_goneWithHole 11 = .ok (.aload_n 0, 1) := by decide +kernel
theorem dX4_goneWithHole_12 : decode cX4_goneWithHole 12 = .ok (.getfield 16, 3) := by decide +kernel
theorem dX4_goneWithHole_15 : decode cX4_goneWithHole 15 = .ok (.iload_n 1, 1) := by decide +kernel
theorem dX4_goneWithHole_16 : decode cX4_goneWithHole 16 = .ok (.putfield 75, 3) := by decide +kernel
theorem dX4_goneWithHole_19 : decode cX4_goneWithHole 19 = .ok (.iconst 1, 1) := by decide +kernel
theorem dX4_goneWithHole_20 : decode cX4_goneWithHole 20 = .ok (.istore_n 3, 1) := by decide +kernel
theorem dX4_goneWithHole_21 : decode cX4_goneWithHole 21 = .ok (.iconst 0, 1) := by decide +kernel
theorem dX4_goneWithHole_22 : decode cX4_goneWithHole 22 = .ok (.istore 4, 2) := by decide +kernel
theorem dX4_goneWithHole_24 : decode cX4_goneWithHole 24 = .ok (.iload 4, 2) := by decide +kernel
theorem dX4_goneWithHole_26 : decode cX4_goneWithHole 26 = .ok (.iload_n 2, 1) := by decide +kernel
theorem dX4_goneWithHole_27 : decode cX4_goneWithHole 27 = .ok (.if_icmp .ge 21, 3) := by decide +kernel
theorem dX4_goneWithHole_30 : decode cX4_goneWithHole 30 = .ok (.iload_n 3, 1) := by decide +kernel
theorem dX4_goneWithHole_31 : decode cX4_goneWithHole 31 = .ok (.ifCond .eq 17, 3) := by decide +kernel
theorem dX4_goneWithHole_34 : decode cX4_goneWithHole 34 = .ok (.aload_n 0, 1) := by decide +kernel
theorem dX4_goneWithHole_35 : decode cX4_goneWithHole 35 = .ok (.getfield 16, 3) := by decide +kernel
theorem dX4_goneWithHole_38 : decode cX4_goneWithHole 38 = .ok (.invokevirtual 148, 3) := by decide +kernel
theorem dX4_goneWithHole_41 : decode cX4_goneWithHole 41 = .ok (.istore_n 3, 1) := by decide +kernel
theorem dX4_goneWithHole_42 : decode cX4_goneWithHole 42 = .ok (.iinc 4 1, 3) := by decide +kernel
theorem dX4_goneWithHole_45 : decode cX4_goneWithHole 45 = .ok (.goto (-21), 3) := by decide +kernel
theorem dX4_goneWithHole_48 : decode cX4_goneWithHole 48 = .ok (.aload_n 0, 1) := by decide +kernel
theorem dX4_goneWithHole_49 : decode cX4_goneWithHole 49 = .ok (.invokevirtual 139, 3) := by decide +kernel
theorem dX4_goneWithHole_52 : decode cX4_goneWithHole 52 = .ok (.ireturn, 1) := by decide +kernel
theorem dX4_lostBehind_0 : decode cX4_lostBehind 0 = .ok (.aload_n 0, 1) := by decide +kernel
theorem dX4_lostBehind_1 : decode cX4_lostBehind 1 = .ok (.getfield 16, 3) := by decide +kernel
theorem dX4_lostBehind_4 : decode cX4_lostBehind 4 = .ok (.iload_n 1, 1) := by decide +kernel
theorem dX4_lostBehind_5 : decode cX4_lostBehind 5 = .ok (.invokevirtual 117, 3) := by decide +kernel
theorem dX4_lostBehind_8 : decode cX4_lostBehind 8 = .ok (.aload_n 0, 1) := by decide +kernel
theorem dX4_lostBehind_9 : decode cX4_lostBehind 9 = .ok (.getfield 16, 3) := by decide +kernel
theorem dX4_lostBehind_12 : decode cX4_lostBehind 12 = .ok (.aload_n 0, 1) := by decide +kernel
theorem dX4_lostBehind_13 : decode cX4_lostBehind 13 = .ok (.invokevirtual 142, 3) := by decide +kernel
theorem dX4_lostBehind_16 : decode cX4_lostBehind 16 = .ok (.invokevirtual 167, 3) := by decide +kernel
theorem dX4_lostBehind_19 : decode cX4_lostBehind 19 = .ok (.ireturn, 1) := by decide +kernel
theorem dX4_richestStaying_0 : decode cX4_richestStaying 0 = .ok (.aload_n 0, 1) := by decide +kernel
theorem dX4_richestStaying_1 : decode cX4_richestStaying 1 = .ok (.getfield 10, 3) := by decide +kernel
theorem dX4_richestStaying_4 : decode cX4_richestStaying 4 = .ok (.iconst 0, 1) := by decide +kernel
theorem dX4_richestStaying_5 : decode cX4_richestStaying 5 = .ok (.invokevirtual 108, 3) := by decide +kernel
theorem dX4_richestStaying_8 : decode cX4_richestStaying 8 = .ok (.aload_n 0, 1) := by decide +kernel
theorem dX4_richestStaying_9 : decode cX4_richestStaying 9 = .ok (.getfield 10, 3) := by decide +kernel
theorem dX4_richestStaying_12 : decode cX4_richestStaying 12 = .ok (.iconst 3, 1) := by decide +kernel
theorem dX4_richestStaying_13 : decode cX4_richestStaying 13 = .ok (.invokevirtual 108, 3) := by decide +kernel
theorem dX4_richestStaying_16 : decode cX4_richestStaying 16 = .ok (.ior, 1) := by decide +kernel
theorem dX4_richestStaying_17 : decode cX4_richestStaying 17 = .ok (.istore_n 2, 1) := by decide +kernel
theorem dX4_richestStaying_18 : decode cX4_richestStaying 18 = .ok (.iconst 0, 1) := by decide +kernel
theorem dX4_richestStaying_19 : decode cX4_richestStaying 19 = .ok (.istore_n 3, 1) := by decide +kernel
theorem dX4_richestStaying_20 : decode cX4_richestStaying 20 = .ok (.iconst 0, 1) := by decide +kernel
theorem dX4_richestStaying_21 : decode cX4_richestStaying 21 = .ok (.istore 4, 2) := by decide +kernel
theorem dX4_richestStaying_23 : decode cX4_richestStaying 23 = .ok (.iconst 1, 1) := by decide +kernel
theorem dX4_richestStaying_24 : decode cX4_richestStaying 24 = .ok (.istore 5, 2) := by decide +kernel
theorem dX4_richestStaying_26 : decode cX4_richestStaying 26 = .ok (.iload 5, 2) := by decide +kernel
theorem dX4_richestStaying_28 : decode cX4_richestStaying 28 = .ok (.aload_n 0, 1) := by decide +kernel
theorem dX4_richestStaying_29 : decode cX4_richestStaying 29 = .ok (.getfield 10, 3) := by decide +kernel
theorem dX4_richestStaying_32 : decode cX4_richestStaying 32 = .ok (.invokevirtual 173, 3) := by decide +kernel
theorem dX4_richestStaying_35 : decode cX4_richestStaying 35 = .ok (.if_icmp .ge 54, 3) := by decide +kernel
theorem dX4_richestStaying_38 : decode cX4_richestStaying 38 = .ok (.iload 5, 2) := by decide +kernel
theorem dX4_richestStaying_40 : decode cX4_richestStaying 40 = .ok (.iload_n 2, 1) := by decide +kernel
theorem dX4_richestStaying_41 : decode cX4_richestStaying 41 = .ok (.iconst (-1), 1) := by decide +kernel
theorem dX4_richestStaying_42 : decode cX4_richestStaying 42 = .ok (.ixor, 1) := by decide +kernel
theorem dX4_richestStaying_43 : decode cX4_richestStaying 43 = .ok (.iand, 1) := by decide +kernel
theorem dX4_richestStaying_44 : decode cX4_richestStaying 44 = .ok (.ifCond .ne 39, 3) := by decide +kernel
theorem dX4_richestStaying_47 : decode cX4_richestStaying 47 = .ok (.aload_n 0, 1) := by decide +kernel
theorem dX4_richestStaying_48 : decode cX4_richestStaying 48 = .ok (.getfield 10, 3) := by decide +kernel
theorem dX4_richestStaying_51 : decode cX4_richestStaying 51 = .ok (.iload 5, 2) := by decide +kernel
theorem dX4_richestStaying_53 : decode cX4_richestStaying 53 = .ok (.invokevirtual 167, 3) := by decide +kernel
theorem dX4_richestStaying_56 : decode cX4_richestStaying 56 = .ok (.istore 6, 2) := by decide +kernel
theorem dX4_richestStaying_58 : decode cX4_richestStaying 58 = .ok (.iload 6, 2) := by decide +kernel
theorem dX4_richestStaying_60 : decode cX4_richestStaying 60 = .ok (.iload 4, 2) := by decide +kernel
theorem dX4_richestStaying_62 : decode cX4_richestStaying 62 = .ok (.if_icmp .le 21, 3) := by decide +kernel
theorem dX4_richestStaying_65 : decode cX4_richestStaying 65 = .ok (.aload_n 0, 1) := by decide +kernel
theorem dX4_richestStaying_66 : decode cX4_richestStaying 66 = .ok (.iload 5, 2) := by decide +kernel
theorem dX4_richestStaying_68 : decode cX4_richestStaying 68 = .ok (.iload_n 2, 1) := by decide +kernel
theorem dX4_richestStaying_69 : decode cX4_richestStaying 69 = .ok (.iload_n 1, 1) := by decide +kernel
theorem dX4_richestStaying_70 : decode cX4_richestStaying 70 = .ok (.invokevirtual 259, 3) := by decide +kernel
theorem dX4_richestStaying_73 : decode cX4_richestStaying 73 = .ok (.ifCond .eq 10, 3) := by decide +kernel
theorem dX4_richestStaying_76 : decode cX4_richestStaying 76 = .ok (.iload 5, 2) := by decide +kernel
theorem dX4_richestStaying_78 : decode cX4_richestStaying 78 = .ok (.istore_n 3, 1) := by decide +kernel
theorem dX4_richestStaying_79 : decode cX4_richestStaying 79 = .ok (.iload 6, 2) := by decide +kernel
theorem dX4_richestStaying_81 : decode cX4_richestStaying 81 = .ok (.istore 4, 2) := by decide +kernel
theorem dX4_richestStaying_83 : decode cX4_richestStaying 83 = .ok (.iinc 5 1, 3) := by decide +kernel
theorem dX4_richestStaying_86 : decode cX4_richestStaying 86 = .ok (.goto (-60), 3) := by decide +kernel
theorem dX4_richestStaying_89 : decode cX4_richestStaying 89 = .ok (.iload_n 3, 1) := by decide +kernel
theorem dX4_richestStaying_90 : decode cX4_richestStaying 90 = .ok (.ireturn, 1) := by decide +kernel
theorem dX4_stays_0 : decode cX4_stays 0 = .ok (.aload_n 0, 1) := by decide +kernel
theorem dX4_stays_1 : decode cX4_stays 1 = .ok (.getfield 16, 3) := by decide +kernel
theorem dX4_stays_4 : decode cX4_stays 4 = .ok (.aload_n 0, 1) := by decide +kernel
theorem dX4_stays_5 : decode cX4_stays 5 = .ok (.getfield 10, 3) := by decide +kernel
theorem dX4_stays_8 : decode cX4_stays 8 = .ok (.invokevirtual 135, 3) := by decide +kernel
theorem dX4_stays_11 : decode cX4_stays 11 = .ok (.iconst 0, 1) := by decide +kernel
theorem dX4_stays_12 : decode cX4_stays 12 = .ok (.istore 4, 2) := by decide +kernel
theorem dX4_stays_14 : decode cX4_stays 14 = .ok (.iload 4, 2) := by decide +kernel
theorem dX4_stays_16 : decode cX4_stays 16 = .ok (.aload_n 0, 1) := by decide +kernel
theorem dX4_stays_17 : decode cX4_stays 17 = .ok (.getfield 16, 3) := by decide +kernel
theorem dX4_stays_20 : decode cX4_stays 20 = .ok (.getfield 59, 3) := by decide +kernel
theorem dX4_stays_23 : decode cX4_stays 23 = .ok (.if_icmp .ge 47, 3) := by decide +kernel
theorem dX4_stays_26 : decode cX4_stays 26 = .ok (.iload_n 2, 1) := by decide +kernel
theorem dX4_stays_27 : decode cX4_stays 27 = .ok (.iload 4, 2) := by decide +kernel
theorem dX4_stays_29 : decode cX4_stays 29 = .ok (.ishr, 1) := by decide +kernel
theorem dX4_stays_30 : decode cX4_stays 30 = .ok (.iconst 1, 1) := by decide +kernel
theorem dX4_stays_31 : decode cX4_stays 31 = .ok (.iand, 1) := by decide +kernel
theorem dX4_stays_32 : decode cX4_stays 32 = .ok (.iconst 1, 1) := by decide +kernel
theorem dX4_stays_33 : decode cX4_stays 33 = .ok (.if_icmp .ne 31, 3) := by decide +kernel
theorem dX4_stays_36 : decode cX4_stays 36 = .ok (.aload_n 0, 1) := by decide +kernel
theorem dX4_stays_37 : decode cX4_stays 37 = .ok (.getfield 16, 3) := by decide +kernel
theorem dX4_stays_40 : decode cX4_stays 40 = .ok (.getfield 71, 3) := by decide +kernel
theorem dX4_stays_43 : decode cX4_stays 43 = .ok (.iload 4, 2) := by decide +kernel
theorem dX4_stays_45 : decode cX4_stays 45 = .ok (.aaload, 1) := by decide +kernel
theorem dX4_stays_46 : decode cX4_stays 46 = .ok (.iload_n 1, 1) := by decide +kernel
theorem dX4_stays_47 : decode cX4_stays 47 = .ok (.iload 4, 2) := by decide +kernel
theorem dX4_stays_49 : decode cX4_stays 49 = .ok (.ishr, 1) := by decide +kernel
theorem dX4_stays_50 : decode cX4_stays 50 = .ok (.iconst 1, 1) := by decide +kernel
theorem dX4_stays_51 : decode cX4_stays 51 = .ok (.iand, 1) := by decide +kernel
theorem dX4_stays_52 : decode cX4_stays 52 = .ok (.iconst 1, 1) := by decide +kernel
theorem dX4_stays_53 : decode cX4_stays 53 = .ok (.if_icmp .ne 7, 3) := by decide +kernel
theorem dX4_stays_56 : decode cX4_stays 56 = .ok (.iconst 0, 1) := by decide +kernel
theorem dX4_stays_57 : decode cX4_stays 57 = .ok (.goto 4, 3) := by decide +kernel
theorem dX4_stays_60 : decode cX4_stays 60 = .ok (.iconst 3, 1) := by decide +kernel
theorem dX4_stays_61 : decode cX4_stays 61 = .ok (.invokevirtual 98, 3) := by decide +kernel
theorem dX4_stays_64 : decode cX4_stays 64 = .ok (.iinc 4 1, 3) := by decide +kernel
theorem dX4_stays_67 : decode cX4_stays 67 = .ok (.goto (-53), 3) := by decide +kernel
theorem dX4_stays_70 : decode cX4_stays 70 = .ok (.iconst 1, 1) := by decide +kernel
theorem dX4_stays_71 : decode cX4_stays 71 = .ok (.istore 4, 2) := by decide +kernel
theorem dX4_stays_73 : decode cX4_stays 73 = .ok (.iconst 0, 1) := by decide +kernel
theorem dX4_stays_74 : decode cX4_stays 74 = .ok (.istore 5, 2) := by decide +kernel
theorem dX4_stays_76 : decode cX4_stays 76 = .ok (.iload 5, 2) := by decide +kernel
theorem dX4_stays_78 : decode cX4_stays 78 = .ok (.iload_n 3, 1) := by decide +kernel
theorem dX4_stays_79 : decode cX4_stays 79 = .ok (.if_icmp .ge 37, 3) := by decide +kernel
theorem dX4_stays_82 : decode cX4_stays 82 = .ok (.iload 4, 2) := by decide +kernel
theorem dX4_stays_84 : decode cX4_stays 84 = .ok (.ifCond .eq 32, 3) := by decide +kernel
theorem dX4_stays_87 : decode cX4_stays 87 = .ok (.aload_n 0, 1) := by decide +kernel
theorem dX4_stays_88 : decode cX4_stays 88 = .ok (.getfield 16, 3) := by decide +kernel
theorem dX4_stays_91 : decode cX4_stays 91 = .ok (.invokevirtual 148, 3) := by decide +kernel
theorem dX4_stays_94 : decode cX4_stays 94 = .ok (.istore 4, 2) := by decide +kernel
theorem dX4_stays_96 : decode cX4_stays 96 = .ok (.aload_n 0, 1) := by decide +kernel
theorem dX4_stays_97 : decode cX4_stays 97 = .ok (.getfield 16, 3) := by decide +kernel
theorem dX4_stays_100 : decode cX4_stays 100 = .ok (.iconst 0, 1) := by decide +kernel
theorem dX4_stays_101 : decode cX4_stays 101 = .ok (.invokevirtual 108, 3) := by decide +kernel
theorem dX4_stays_104 : decode cX4_stays 104 = .ok (.iload_n 1, 1) := by decide +kernel
theorem dX4_stays_105 : decode cX4_stays 105 = .ok (.if_icmp .eq 5, 3) := by decide +kernel
theorem dX4_stays_108 : decode cX4_stays 108 = .ok (.iconst 0, 1) := by decide +kernel
theorem dX4_stays_109 : decode cX4_stays 109 = .ok (.ireturn, 1) := by decide +kernel
theorem dX4_stays_110 : decode cX4_stays 110 = .ok (.iinc 5 1, 3) := by decide +kernel
theorem dX4_stays_113 : decode cX4_stays 113 = .ok (.goto (-37), 3) := by decide +kernel
theorem dX4_stays_116 : decode cX4_stays 116 = .ok (.iconst 1, 1) := by decide +kernel
theorem dX4_stays_117 : decode cX4_stays 117 = .ok (.ireturn, 1) := by decide +kernel
theorem dX4_markSumsWith_0 : decode cX4_markSumsWith 0 = .ok (.iload_n 1, 1) := by decide +kernel
theorem dX4_markSumsWith_1 : decode cX4_markSumsWith 1 = .ok (.bipush 6, 2) := by decide +kernel
theorem dX4_markSumsWith_3 : decode cX4_markSumsWith 3 = .ok (.ishr, 1) := by decide +kernel
theorem dX4_markSumsWith_4 : decode cX4_markSumsWith 4 = .ok (.istore_n 2, 1) := by decide +kernel
theorem dX4_markSumsWith_5 : decode cX4_markSumsWith 5 = .ok (.iload_n 1, 1) := by decide +kernel
theorem dX4_markSumsWith_6 : decode cX4_markSumsWith 6 = .ok (.bipush 63, 2) := by decide +kernel
theorem dX4_markSumsWith_8 : decode cX4_markSumsWith 8 = .ok (.iand, 1) := by decide +kernel
theorem dX4_markSumsWith_9 : decode cX4_markSumsWith 9 = .ok (.istore_n 3, 1) := by decide +kernel
theorem dX4_markSumsWith_10 : decode cX4_markSumsWith 10 = .ok (.bipush 37, 2) := by decide +kernel
theorem dX4_markSumsWith_12 : decode cX4_markSumsWith 12 = .ok (.istore 4, 2) := by decide +kernel
theorem dX4_markSumsWith_14 : decode cX4_markSumsWith 14 = .ok (.iload 4, 2) := by decide +kernel
theorem dX4_markSumsWith_16 : decode cX4_markSumsWith 16 = .ok (.iload_n 2, 1) := by decide +kernel
theorem dX4_markSumsWith_17 : decode cX4_markSumsWith 17 = .ok (.if_icmp .lt 65, 3) := by decide +kernel
theorem dX4_markSumsWith_20 : decode cX4_markSumsWith 20 = .ok (.aload_n 0, 1) := by decide +kernel
theorem dX4_markSumsWith_21 : decode cX4_markSumsWith 21 = .ok (.getfield 43, 3) := by decide +kernel
theorem dX4_markSumsWith_24 : decode cX4_markSumsWith 24 = .ok (.iload 4, 2) := by decide +kernel
theorem dX4_markSumsWith_26 : decode cX4_markSumsWith 26 = .ok (.iload_n 2, 1) := by decide +kernel
theorem dX4_markSumsWith_27 : decode cX4_markSumsWith 27 = .ok (.isub, 1) := by decide +kernel
theorem dX4_markSumsWith_28 : decode cX4_markSumsWith 28 = .ok (.laload, 1) := by decide +kernel
theorem dX4_markSumsWith_29 : decode cX4_markSumsWith 29 = .ok (.iload_n 3, 1) := by decide +kernel
theorem dX4_markSumsWith_30 : decode cX4_markSumsWith 30 = .ok (.lshl, 1) := by decide +kernel
theorem dX4_markSumsWith_31 : decode cX4_markSumsWith 31 = .ok (.lstore 5, 2) := by decide +kernel
theorem dX4_markSumsWith_33 : decode cX4_markSumsWith 33 = .ok (.iload_n 3, 1) := by decide +kernel
theorem dX4_markSumsWith_34 : decode cX4_markSumsWith 34 = .ok (.ifCond .le 30, 3) := by decide +kernel
theorem dX4_markSumsWith_37 : decode cX4_markSumsWith 37 = .ok (.iload 4, 2) := by decide +kernel
theorem dX4_markSumsWith_39 : decode cX4_markSumsWith 39 = .ok (.iload_n 2, 1) := by decide +kernel
theorem dX4_markSumsWith_40 : decode cX4_markSumsWith 40 = .ok (.if_icmp .le 24, 3) := by decide +kernel
theorem dX4_markSumsWith_43 : decode cX4_markSumsWith 43 = .ok (.lload 5, 2) := by decide +kernel
theorem dX4_markSumsWith_45 : decode cX4_markSumsWith 45 = .ok (.aload_n 0, 1) := by decide +kernel
theorem dX4_markSumsWith_46 : decode cX4_markSumsWith 46 = .ok (.getfield 43, 3) := by decide +kernel
theorem dX4_markSumsWith_49 : decode cX4_markSumsWith 49 = .ok (.iload 4, 2) := by decide +kernel
theorem dX4_markSumsWith_51 : decode cX4_markSumsWith 51 = .ok (.iload_n 2, 1) := by decide +kernel
theorem dX4_markSumsWith_52 : decode cX4_markSumsWith 52 = .ok (.isub, 1) := by decide +kernel
theorem dX4_markSumsWith_53 : decode cX4_markSumsWith 53 = .ok (.iconst 1, 1) := by decide +kernel
theorem dX4_markSumsWith_54 : decode cX4_markSumsWith 54 = .ok (.isub, 1) := by decide +kernel
theorem dX4_markSumsWith_55 : decode cX4_markSumsWith 55 = .ok (.laload, 1) := by decide +kernel
theorem dX4_markSumsWith_56 : decode cX4_markSumsWith 56 = .ok (.bipush 64, 2) := by decide +kernel
theorem dX4_markSumsWith_58 : decode cX4_markSumsWith 58 = .ok (.iload_n 3, 1) := by decide +kernel
theorem dX4_markSumsWith_59 : decode cX4_markSumsWith 59 = .ok (.isub, 1) := by decide +kernel
theorem dX4_markSumsWith_60 : decode cX4_markSumsWith 60 = .ok (.lushr, 1) := by decide +kernel
theorem dX4_markSumsWith_61 : decode cX4_markSumsWith 61 = .ok (.lor, 1) := by decide +kernel
theorem dX4_markSumsWith_62 : decode cX4_markSumsWith 62 = .ok (.lstore 5, 2) := by decide +kernel
theorem dX4_markSumsWith_64 : decode cX4_markSumsWith 64 = .ok (.aload_n 0, 1) := by decide +kernel
theorem dX4_markSumsWith_65 : decode cX4_markSumsWith 65 = .ok (.getfield 43, 3) := by decide +kernel
theorem dX4_markSumsWith_68 : decode cX4_markSumsWith 68 = .ok (.iload 4, 2) := by decide +kernel
theorem dX4_markSumsWith_70 : decode cX4_markSumsWith 70 = .ok (.dup2, 1) := by decide +kernel
theorem dX4_markSumsWith_71 : decode cX4_markSumsWith 71 = .ok (.laload, 1) := by decide +kernel
theorem dX4_markSumsWith_72 : decode cX4_markSumsWith 72 = .ok (.lload 5, 2) := by decide +kernel
theorem dX4_markSumsWith_74 : decode cX4_markSumsWith 74 = .ok (.lor, 1) := by decide +kernel
theorem dX4_markSumsWith_75 : decode cX4_markSumsWith 75 = .ok (.lastore, 1) := by decide +kernel
theorem dX4_markSumsWith_76 : decode cX4_markSumsWith 76 = .ok (.iinc 4 (-1), 3) := by decide +kernel
theorem dX4_markSumsWith_79 : decode cX4_markSumsWith 79 = .ok (.goto (-65), 3) := by decide +kernel
theorem dX4_markSumsWith_82 : decode cX4_markSumsWith 82 = .ok (.return_, 1) := by decide +kernel
