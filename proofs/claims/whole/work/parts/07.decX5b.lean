theorem dX5_first_37 : decode cX5_first 37 = .ok (.ifCond .eq 12, 3) := by decide +kernel
theorem dX5_first_40 : decode cX5_first 40 = .ok (.aload_n 0, 1) := by decide +kernel
theorem dX5_first_41 : decode cX5_first 41 = .ok (.iload_n 3, 1) := by decide +kernel
theorem dX5_first_42 : decode cX5_first 42 = .ok (.iconst 0, 1) := by decide +kernel
theorem dX5_first_43 : decode cX5_first 43 = .ok (.invokevirtual 184, 3) := by decide +kernel
theorem dX5_first_46 : decode cX5_first 46 = .ok (.goto 5, 3) := by decide +kernel
theorem dX5_first_49 : decode cX5_first 49 = .ok (.bipush 101, 2) := by decide +kernel
theorem dX5_first_51 : decode cX5_first 51 = .ok (.istore 4, 2) := by decide +kernel
theorem dX5_first_53 : decode cX5_first 53 = .ok (.iload 4, 2) := by decide +kernel
theorem dX5_first_55 : decode cX5_first 55 = .ok (.iload_n 2, 1) := by decide +kernel
theorem dX5_first_56 : decode cX5_first 56 = .ok (.if_icmp .ge 7, 3) := by decide +kernel
theorem dX5_first_59 : decode cX5_first 59 = .ok (.iload_n 3, 1) := by decide +kernel
theorem dX5_first_60 : decode cX5_first 60 = .ok (.goto 4, 3) := by decide +kernel
theorem dX5_first_63 : decode cX5_first 63 = .ok (.iload_n 1, 1) := by decide +kernel
theorem dX5_first_64 : decode cX5_first 64 = .ok (.istore_n 1, 1) := by decide +kernel
theorem dX5_first_65 : decode cX5_first 65 = .ok (.iload_n 2, 1) := by decide +kernel
theorem dX5_first_66 : decode cX5_first 66 = .ok (.iload 4, 2) := by decide +kernel
theorem dX5_first_68 : decode cX5_first 68 = .ok (.invokestatic 147, 3) := by decide +kernel
theorem dX5_first_71 : decode cX5_first 71 = .ok (.istore_n 2, 1) := by decide +kernel
theorem dX5_first_72 : decode cX5_first 72 = .ok (.iinc 3 1, 3) := by decide +kernel
theorem dX5_first_75 : decode cX5_first 75 = .ok (.goto (-54), 3) := by decide +kernel
theorem dX5_first_78 : decode cX5_first 78 = .ok (.iload_n 1, 1) := by decide +kernel
theorem dX5_first_79 : decode cX5_first 79 = .ok (.ifCond .ge 12, 3) := by decide +kernel
theorem dX5_first_82 : decode cX5_first 82 = .ok (.aload_n 0, 1) := by decide +kernel
theorem dX5_first_83 : decode cX5_first 83 = .ok (.ldc 188, 2) := by decide +kernel
theorem dX5_first_85 : decode cX5_first 85 = .ok (.invokevirtual 93, 3) := by decide +kernel
theorem dX5_first_88 : decode cX5_first 88 = .ok (.goto 4, 3) := by decide +kernel
theorem dX5_first_91 : decode cX5_first 91 = .ok (.iload_n 1, 1) := by decide +kernel
theorem dX5_first_92 : decode cX5_first 92 = .ok (.ireturn, 1) := by decide +kernel
theorem dX5_cell_0 : decode cX5_cell 0 = .ok (.aload_n 0, 1) := by decide +kernel
theorem dX5_cell_1 : decode cX5_cell 1 = .ok (.iload_n 1, 1) := by decide +kernel
theorem dX5_cell_2 : decode cX5_cell 2 = .ok (.invokevirtual 120, 3) := by decide +kernel
theorem dX5_cell_5 : decode cX5_cell 5 = .ok (.ifCond .eq 13, 3) := by decide +kernel
theorem dX5_cell_8 : decode cX5_cell 8 = .ok (.iload_n 2, 1) := by decide +kernel
theorem dX5_cell_9 : decode cX5_cell 9 = .ok (.iconst 0, 1) := by decide +kernel
theorem dX5_cell_10 : decode cX5_cell 10 = .ok (.bipush 100, 2) := by decide +kernel
theorem dX5_cell_12 : decode cX5_cell 12 = .ok (.invokestatic 78, 3) := by decide +kernel
theorem dX5_cell_15 : decode cX5_cell 15 = .ok (.ifCond .ne 10, 3) := by decide +kernel
theorem dX5_cell_18 : decode cX5_cell 18 = .ok (.aload_n 0, 1) := by decide +kernel
theorem dX5_cell_19 : decode cX5_cell 19 = .ok (.ldc 73, 2) := by decide +kernel
theorem dX5_cell_21 : decode cX5_cell 21 = .ok (.invokevirtual 93, 3) := by decide +kernel
theorem dX5_cell_24 : decode cX5_cell 24 = .ok (.ireturn, 1) := by decide +kernel
theorem dX5_cell_25 : decode cX5_cell 25 = .ok (.aload_n 0, 1) := by decide +kernel
theorem dX5_cell_26 : decode cX5_cell 26 = .ok (.iload_n 2, 1) := by decide +kernel
theorem dX5_cell_27 : decode cX5_cell 27 = .ok (.invokevirtual 166, 3) := by decide +kernel
theorem dX5_cell_30 : decode cX5_cell 30 = .ok (.ifCond .eq 10, 3) := by decide +kernel
theorem dX5_cell_33 : decode cX5_cell 33 = .ok (.aload_n 0, 1) := by decide +kernel
theorem dX5_cell_34 : decode cX5_cell 34 = .ok (.ldc 169, 2) := by decide +kernel
theorem dX5_cell_36 : decode cX5_cell 36 = .ok (.invokevirtual 93, 3) := by decide +kernel
theorem dX5_cell_39 : decode cX5_cell 39 = .ok (.ireturn, 1) := by decide +kernel
theorem dX5_cell_40 : decode cX5_cell 40 = .ok (.aload_n 0, 1) := by decide +kernel
theorem dX5_cell_41 : decode cX5_cell 41 = .ok (.getfield 9, 3) := by decide +kernel
theorem dX5_cell_44 : decode cX5_cell 44 = .ok (.aload_n 0, 1) := by decide +kernel
theorem dX5_cell_45 : decode cX5_cell 45 = .ok (.getfield 16, 3) := by decide +kernel
theorem dX5_cell_48 : decode cX5_cell 48 = .ok (.invokestatic 74, 3) := by decide +kernel
theorem dX5_cell_51 : decode cX5_cell 51 = .ok (.aload_n 0, 1) := by decide +kernel
theorem dX5_cell_52 : decode cX5_cell 52 = .ok (.iload_n 2, 1) := by decide +kernel
theorem dX5_cell_53 : decode cX5_cell 53 = .ok (.invokevirtual 170, 3) := by decide +kernel
theorem dX5_cell_56 : decode cX5_cell 56 = .ok (.istore_n 3, 1) := by decide +kernel
theorem dX5_cell_57 : decode cX5_cell 57 = .ok (.aload_n 0, 1) := by decide +kernel
theorem dX5_cell_58 : decode cX5_cell 58 = .ok (.iload_n 3, 1) := by decide +kernel
theorem dX5_cell_59 : decode cX5_cell 59 = .ok (.ifCond .lt 22, 3) := by decide +kernel
theorem dX5_cell_62 : decode cX5_cell 62 = .ok (.aload_n 0, 1) := by decide +kernel
theorem dX5_cell_63 : decode cX5_cell 63 = .ok (.iload_n 1, 1) := by decide +kernel
theorem dX5_cell_64 : decode cX5_cell 64 = .ok (.iconst 1, 1) := by decide +kernel
theorem dX5_cell_65 : decode cX5_cell 65 = .ok (.invokevirtual 135, 3) := by decide +kernel
theorem dX5_cell_68 : decode cX5_cell 68 = .ok (.ifCond .eq 13, 3) := by decide +kernel
theorem dX5_cell_71 : decode cX5_cell 71 = .ok (.aload_n 0, 1) := by decide +kernel
theorem dX5_cell_72 : decode cX5_cell 72 = .ok (.iload_n 1, 1) := by decide +kernel
theorem dX5_cell_73 : decode cX5_cell 73 = .ok (.bipush 6, 2) := by decide +kernel
theorem dX5_cell_75 : decode cX5_cell 75 = .ok (.invokevirtual 105, 3) := by decide +kernel
theorem dX5_cell_78 : decode cX5_cell 78 = .ok (.goto 4, 3) := by decide +kernel
theorem dX5_cell_81 : decode cX5_cell 81 = .ok (.iconst (-1), 1) := by decide +kernel
theorem dX5_cell_82 : decode cX5_cell 82 = .ok (.invokevirtual 177, 3) := by decide +kernel
theorem dX5_cell_85 : decode cX5_cell 85 = .ok (.istore 4, 2) := by decide +kernel
theorem dX5_cell_87 : decode cX5_cell 87 = .ok (.iload 4, 2) := by decide +kernel
theorem dX5_cell_89 : decode cX5_cell 89 = .ok (.ifCond .ge 12, 3) := by decide +kernel
theorem dX5_cell_92 : decode cX5_cell 92 = .ok (.aload_n 0, 1) := by decide +kernel
theorem dX5_cell_93 : decode cX5_cell 93 = .ok (.ldc 188, 2) := by decide +kernel
theorem dX5_cell_95 : decode cX5_cell 95 = .ok (.invokevirtual 93, 3) := by decide +kernel
theorem dX5_cell_98 : decode cX5_cell 98 = .ok (.goto 5, 3) := by decide +kernel
theorem dX5_cell_101 : decode cX5_cell 101 = .ok (.iload 4, 2) := by decide +kernel
theorem dX5_cell_103 : decode cX5_cell 103 = .ok (.ireturn, 1) := by decide +kernel
theorem dX5_refuses_0 : decode cX5_refuses 0 = .ok (.iload_n 1, 1) := by decide +kernel
theorem dX5_refuses_1 : decode cX5_refuses 1 = .ok (.ifCond .eq 12, 3) := by decide +kernel
theorem dX5_refuses_4 : decode cX5_refuses 4 = .ok (.iload_n 2, 1) := by decide +kernel
theorem dX5_refuses_5 : decode cX5_refuses 5 = .ok (.iconst 1, 1) := by decide +kernel
theorem dX5_refuses_6 : decode cX5_refuses 6 = .ok (.iload_n 3, 1) := by decide +kernel
theorem dX5_refuses_7 : decode cX5_refuses 7 = .ok (.invokestatic 78, 3) := by decide +kernel
theorem dX5_refuses_10 : decode cX5_refuses 10 = .ok (.ifCond .ne 8, 3) := by decide +kernel
theorem dX5_refuses_13 : decode cX5_refuses 13 = .ok (.ldc 73, 2) := by decide +kernel
theorem dX5_refuses_15 : decode cX5_refuses 15 = .ok (.goto 17, 3) := by decide +kernel
theorem dX5_refuses_18 : decode cX5_refuses 18 = .ok (.aload_n 0, 1) := by decide +kernel
theorem dX5_refuses_19 : decode cX5_refuses 19 = .ok (.iload_n 2, 1) := by decide +kernel
theorem dX5_refuses_20 : decode cX5_refuses 20 = .ok (.invokevirtual 166, 3) := by decide +kernel
theorem dX5_refuses_23 : decode cX5_refuses 23 = .ok (.ifCond .eq 8, 3) := by decide +kernel
theorem dX5_refuses_26 : decode cX5_refuses 26 = .ok (.ldc 169, 2) := by decide +kernel
theorem dX5_refuses_28 : decode cX5_refuses 28 = .ok (.goto 4, 3) := by decide +kernel
theorem dX5_refuses_31 : decode cX5_refuses 31 = .ok (.iconst 0, 1) := by decide +kernel
theorem dX5_refuses_32 : decode cX5_refuses 32 = .ok (.ireturn, 1) := by decide +kernel
theorem dX5_bears_0 : decode cX5_bears 0 = .ok (.aload_n 0, 1) := by decide +kernel
theorem dX5_bears_1 : decode cX5_bears 1 = .ok (.iload_n 1, 1) := by decide +kernel
theorem dX5_bears_2 : decode cX5_bears 2 = .ok (.invokevirtual 120, 3) := by decide +kernel
theorem dX5_bears_5 : decode cX5_bears 5 = .ok (.ifCond .eq 13, 3) := by decide +kernel
theorem dX5_bears_8 : decode cX5_bears 8 = .ok (.iload_n 2, 1) := by decide +kernel
theorem dX5_bears_9 : decode cX5_bears 9 = .ok (.iconst 1, 1) := by decide +kernel
theorem dX5_bears_10 : decode cX5_bears 10 = .ok (.bipush 100, 2) := by decide +kernel
theorem dX5_bears_12 : decode cX5_bears 12 = .ok (.invokestatic 78, 3) := by decide +kernel
theorem dX5_bears_15 : decode cX5_bears 15 = .ok (.ifCond .ne 10, 3) := by decide +kernel
theorem dX5_bears_18 : decode cX5_bears 18 = .ok (.aload_n 0, 1) := by decide +kernel
theorem dX5_bears_19 : decode cX5_bears 19 = .ok (.ldc 73, 2) := by decide +kernel
theorem dX5_bears_21 : decode cX5_bears 21 = .ok (.invokevirtual 93, 3) := by decide +kernel
theorem dX5_bears_24 : decode cX5_bears 24 = .ok (.ireturn, 1) := by decide +kernel
theorem dX5_bears_25 : decode cX5_bears 25 = .ok (.aload_n 0, 1) := by decide +kernel
theorem dX5_bears_26 : decode cX5_bears 26 = .ok (.iload_n 1, 1) := by decide +kernel
theorem dX5_bears_27 : decode cX5_bears 27 = .ok (.iconst 0, 1) := by decide +kernel
theorem dX5_bears_28 : decode cX5_bears 28 = .ok (.invokevirtual 135, 3) := by decide +kernel
theorem dX5_bears_31 : decode cX5_bears 31 = .ok (.ifCond .eq 11, 3) := by decide +kernel
theorem dX5_bears_34 : decode cX5_bears 34 = .ok (.aload_n 0, 1) := by decide +kernel
theorem dX5_bears_35 : decode cX5_bears 35 = .ok (.iload_n 2, 1) := by decide +kernel
theorem dX5_bears_36 : decode cX5_bears 36 = .ok (.invokevirtual 166, 3) := by decide +kernel
theorem dX5_bears_39 : decode cX5_bears 39 = .ok (.ifCond .eq 10, 3) := by decide +kernel
theorem dX5_bears_42 : decode cX5_bears 42 = .ok (.aload_n 0, 1) := by decide +kernel
theorem dX5_bears_43 : decode cX5_bears 43 = .ok (.ldc 169, 2) := by decide +kernel
theorem dX5_bears_45 : decode cX5_bears 45 = .ok (.invokevirtual 93, 3) := by decide +kernel
theorem dX5_bears_48 : decode cX5_bears 48 = .ok (.ireturn, 1) := by decide +kernel
theorem dX5_bears_49 : decode cX5_bears 49 = .ok (.aload_n 0, 1) := by decide +kernel
theorem dX5_bears_50 : decode cX5_bears 50 = .ok (.getfield 9, 3) := by decide +kernel
theorem dX5_bears_53 : decode cX5_bears 53 = .ok (.aload_n 0, 1) := by decide +kernel
theorem dX5_bears_54 : decode cX5_bears 54 = .ok (.getfield 16, 3) := by decide +kernel
theorem dX5_bears_57 : decode cX5_bears 57 = .ok (.invokestatic 74, 3) := by decide +kernel
theorem dX5_bears_60 : decode cX5_bears 60 = .ok (.iconst (-1), 1) := by decide +kernel
theorem dX5_bears_61 : decode cX5_bears 61 = .ok (.istore_n 3, 1) := by decide +kernel
theorem dX5_bears_62 : decode cX5_bears 62 = .ok (.bipush 99, 2) := by decide +kernel
theorem dX5_bears_64 : decode cX5_bears 64 = .ok (.istore 4, 2) := by decide +kernel
theorem dX5_bears_66 : decode cX5_bears 66 = .ok (.iload 4, 2) := by decide +kernel
theorem dX5_bears_68 : decode cX5_bears 68 = .ok (.ifCond .lt 60, 3) := by decide +kernel
theorem dX5_bears_71 : decode cX5_bears 71 = .ok (.iload_n 3, 1) := by decide +kernel
theorem dX5_bears_72 : decode cX5_bears 72 = .ok (.ifCond .ge 56, 3) := by decide +kernel
theorem dX5_bears_75 : decode cX5_bears 75 = .ok (.aload_n 0, 1) := by decide +kernel
theorem dX5_bears_76 : decode cX5_bears 76 = .ok (.getfield 9, 3) := by decide +kernel
theorem dX5_bears_79 : decode cX5_bears 79 = .ok (.iconst 1, 1) := by decide +kernel
theorem dX5_bears_80 : decode cX5_bears 80 = .ok (.iload 4, 2) := by decide +kernel
theorem dX5_bears_82 : decode cX5_bears 82 = .ok (.iastore, 1) := by decide +kernel
theorem dX5_bears_83 : decode cX5_bears 83 = .ok (.aload_n 0, 1) := by decide +kernel
theorem dX5_bears_84 : decode cX5_bears 84 = .ok (.iload_n 2, 1) := by decide +kernel
theorem dX5_bears_85 : decode cX5_bears 85 = .ok (.invokevirtual 170, 3) := by decide +kernel
theorem dX5_bears_88 : decode cX5_bears 88 = .ok (.istore 5, 2) := by decide +kernel
theorem dX5_bears_90 : decode cX5_bears 90 = .ok (.iload 5, 2) := by decide +kernel
theorem dX5_bears_92 : decode cX5_bears 92 = .ok (.ifCond .lt 17, 3) := by decide +kernel
theorem dX5_bears_95 : decode cX5_bears 95 = .ok (.aload_n 0, 1) := by decide +kernel
theorem dX5_bears_96 : decode cX5_bears 96 = .ok (.iload_n 1, 1) := by decide +kernel
theorem dX5_bears_97 : decode cX5_bears 97 = .ok (.iconst 0, 1) := by decide +kernel
theorem dX5_bears_98 : decode cX5_bears 98 = .ok (.invokevirtual 135, 3) := by decide +kernel
theorem dX5_bears_101 : decode cX5_bears 101 = .ok (.ifCond .eq 8, 3) := by decide +kernel
theorem dX5_bears_104 : decode cX5_bears 104 = .ok (.iload 4, 2) := by decide +kernel
theorem dX5_bears_106 : decode cX5_bears 106 = .ok (.goto 4, 3) := by decide +kernel
theorem dX5_bears_109 : decode cX5_bears 109 = .ok (.iconst (-1), 1) := by decide +kernel
theorem dX5_bears_110 : decode cX5_bears 110 = .ok (.istore_n 3, 1) := by decide +kernel
theorem dX5_bears_111 : decode cX5_bears 111 = .ok (.aload_n 0, 1) := by decide +kernel
theorem dX5_bears_112 : decode cX5_bears 112 = .ok (.getfield 16, 3) := by decide +kernel
theorem dX5_bears_115 : decode cX5_bears 115 = .ok (.aload_n 0, 1) := by decide +kernel
theorem dX5_bears_116 : decode cX5_bears 116 = .ok (.getfield 9, 3) := by decide +kernel
theorem dX5_bears_119 : decode cX5_bears 119 = .ok (.invokestatic 74, 3) := by decide +kernel
theorem dX5_bears_122 : decode cX5_bears 122 = .ok (.iinc 4 (-1), 3) := by decide +kernel
theorem dX5_bears_125 : decode cX5_bears 125 = .ok (.goto (-59), 3) := by decide +kernel
theorem dX5_bears_128 : decode cX5_bears 128 = .ok (.iload_n 3, 1) := by decide +kernel
theorem dX5_bears_129 : decode cX5_bears 129 = .ok (.ifCond .ge 12, 3) := by decide +kernel
theorem dX5_bears_132 : decode cX5_bears 132 = .ok (.aload_n 0, 1) := by decide +kernel
theorem dX5_bears_133 : decode cX5_bears 133 = .ok (.ldc 188, 2) := by decide +kernel
theorem dX5_bears_135 : decode cX5_bears 135 = .ok (.invokevirtual 93, 3) := by decide +kernel
theorem dX5_bears_138 : decode cX5_bears 138 = .ok (.goto 4, 3) := by decide +kernel
theorem dX5_bears_141 : decode cX5_bears 141 = .ok (.iload_n 3, 1) := by decide +kernel
theorem dX5_bears_142 : decode cX5_bears 142 = .ok (.ireturn, 1) := by decide +kernel
theorem dX5_lostThen_0 : decode cX5_lostThen 0 = .ok (.aload_n 0, 1) := by decide +kernel
theorem dX5_lostThen_1 : decode cX5_lostThen 1 = .ok (.iload_n 1, 1) := by decide +kernel
theorem dX5_lostThen_2 : decode cX5_lostThen 2 = .ok (.invokevirtual 170, 3) := by decide +kernel
theorem dX5_lostThen_5 : decode cX5_lostThen 5 = .ok (.istore_n 3, 1) := by decide +kernel
theorem dX5_lostThen_6 : decode cX5_lostThen 6 = .ok (.iload_n 3, 1) := by decide +kernel
theorem dX5_lostThen_7 : decode cX5_lostThen 7 = .ok (.ifCond .ge 7, 3) := by decide +kernel
theorem dX5_lostThen_10 : decode cX5_lostThen 10 = .ok (.iconst 0, 1) := by decide +kernel
theorem dX5_lostThen_11 : decode cX5_lostThen 11 = .ok (.goto 17, 3) := by decide +kernel
theorem dX5_lostThen_14 : decode cX5_lostThen 14 = .ok (.aload_n 0, 1) := by decide +kernel
theorem dX5_lostThen_15 : decode cX5_lostThen 15 = .ok (.aload_n 0, 1) := by decide +kernel
theorem dX5_lostThen_16 : decode cX5_lostThen 16 = .ok (.iconst 2, 1) := by decide +kernel
theorem dX5_lostThen_17 : decode cX5_lostThen 17 = .ok (.invokevirtual 141, 3) := by decide +kernel
theorem dX5_lostThen_20 : decode cX5_lostThen 20 = .ok (.iload_n 2, 1) := by decide +kernel
theorem dX5_lostThen_21 : decode cX5_lostThen 21 = .ok (.iconst (-1), 1) := by decide +kernel
theorem dX5_lostThen_22 : decode cX5_lostThen 22 = .ok (.ixor, 1) := by decide +kernel
theorem dX5_lostThen_23 : decode cX5_lostThen 23 = .ok (.iand, 1) := by decide +kernel
theorem dX5_lostThen_24 : decode cX5_lostThen 24 = .ok (.iconst 3, 1) := by decide +kernel
theorem dX5_lostThen_25 : decode cX5_lostThen 25 = .ok (.invokevirtual 144, 3) := by decide +kernel
theorem dX5_lostThen_28 : decode cX5_lostThen 28 = .ok (.istore 4, 2) := by decide +kernel
theorem dX5_lostThen_30 : decode cX5_lostThen 30 = .ok (.aload_n 0, 1) := by decide +kernel
theorem dX5_lostThen_31 : decode cX5_lostThen 31 = .ok (.getfield 16, 3) := by decide +kernel
theorem dX5_lostThen_34 : decode cX5_lostThen 34 = .ok (.aload_n 0, 1) := by decide +kernel
theorem dX5_lostThen_35 : decode cX5_lostThen 35 = .ok (.getfield 9, 3) := by decide +kernel
theorem dX5_lostThen_38 : decode cX5_lostThen 38 = .ok (.invokestatic 74, 3) := by decide +kernel
theorem dX5_lostThen_41 : decode cX5_lostThen 41 = .ok (.iload 4, 2) := by decide +kernel
theorem dX5_lostThen_43 : decode cX5_lostThen 43 = .ok (.ireturn, 1) := by decide +kernel
theorem dX5_latest_0 : decode cX5_latest 0 = .ok (.aload_n 0, 1) := by decide +kernel
theorem dX5_latest_1 : decode cX5_latest 1 = .ok (.iload_n 2, 1) := by decide +kernel
theorem dX5_latest_2 : decode cX5_latest 2 = .ok (.iconst 0, 1) := by decide +kernel
theorem dX5_latest_3 : decode cX5_latest 3 = .ok (.sipush 9999, 3) := by decide +kernel
theorem dX5_latest_6 : decode cX5_latest 6 = .ok (.invokestatic 78, 3) := by decide +kernel
theorem dX5_latest_9 : decode cX5_latest 9 = .ok (.iload_n 1, 1) := by decide +kernel
theorem dX5_latest_10 : decode cX5_latest 10 = .ok (.bipush 100, 2) := by decide +kernel
theorem dX5_latest_12 : decode cX5_latest 12 = .ok (.invokevirtual 192, 3) := by decide +kernel
theorem dX5_latest_15 : decode cX5_latest 15 = .ok (.istore_n 3, 1) := by decide +kernel
theorem dX5_latest_16 : decode cX5_latest 16 = .ok (.iload_n 3, 1) := by decide +kernel
theorem dX5_latest_17 : decode cX5_latest 17 = .ok (.ifCond .eq 9, 3) := by decide +kernel
theorem dX5_latest_20 : decode cX5_latest 20 = .ok (.aload_n 0, 1) := by decide +kernel
theorem dX5_latest_21 : decode cX5_latest 21 = .ok (.iload_n 3, 1) := by decide +kernel
theorem dX5_latest_22 : decode cX5_latest 22 = .ok (.invokevirtual 93, 3) := by decide +kernel
theorem dX5_latest_25 : decode cX5_latest 25 = .ok (.ireturn, 1) := by decide +kernel
theorem dX5_latest_26 : decode cX5_latest 26 = .ok (.aload_n 0, 1) := by decide +kernel
theorem dX5_latest_27 : decode cX5_latest 27 = .ok (.getfield 9, 3) := by decide +kernel
theorem dX5_latest_30 : decode cX5_latest 30 = .ok (.aload_n 0, 1) := by decide +kernel
theorem dX5_latest_31 : decode cX5_latest 31 = .ok (.getfield 16, 3) := by decide +kernel
theorem dX5_latest_34 : decode cX5_latest 34 = .ok (.invokestatic 74, 3) := by decide +kernel
theorem dX5_latest_37 : decode cX5_latest 37 = .ok (.aload_n 0, 1) := by decide +kernel
theorem dX5_latest_38 : decode cX5_latest 38 = .ok (.iconst 2, 1) := by decide +kernel
theorem dX5_latest_39 : decode cX5_latest 39 = .ok (.invokevirtual 141, 3) := by decide +kernel
theorem dX5_latest_42 : decode cX5_latest 42 = .ok (.istore 4, 2) := by decide +kernel
theorem dX5_latest_44 : decode cX5_latest 44 = .ok (.iconst (-1), 1) := by decide +kernel
theorem dX5_latest_45 : decode cX5_latest 45 = .ok (.istore 5, 2) := by decide +kernel
theorem dX5_latest_47 : decode cX5_latest 47 = .ok (.iload_n 1, 1) := by decide +kernel
theorem dX5_latest_48 : decode cX5_latest 48 = .ok (.istore 6, 2) := by decide +kernel
theorem dX5_latest_50 : decode cX5_latest 50 = .ok (.iload 6, 2) := by decide +kernel
theorem dX5_latest_52 : decode cX5_latest 52 = .ok (.ifCond .lt 56, 3) := by decide +kernel
theorem dX5_latest_55 : decode cX5_latest 55 = .ok (.iload 5, 2) := by decide +kernel
theorem dX5_latest_57 : decode cX5_latest 57 = .ok (.ifCond .ge 51, 3) := by decide +kernel
theorem dX5_latest_60 : decode cX5_latest 60 = .ok (.aload_n 0, 1) := by decide +kernel
theorem dX5_latest_61 : decode cX5_latest 61 = .ok (.iload 6, 2) := by decide +kernel
theorem dX5_latest_63 : decode cX5_latest 63 = .ok (.invokevirtual 170, 3) := by decide +kernel
theorem dX5_latest_66 : decode cX5_latest 66 = .ok (.istore 7, 2) := by decide +kernel
theorem dX5_latest_68 : decode cX5_latest 68 = .ok (.aload_n 0, 1) := by decide +kernel
theorem dX5_latest_69 : decode cX5_latest 69 = .ok (.getfield 9, 3) := by decide +kernel
theorem dX5_latest_72 : decode cX5_latest 72 = .ok (.iconst 1, 1) := by decide +kernel
theorem dX5_latest_73 : decode cX5_latest 73 = .ok (.iconst 0, 1) := by decide +kernel
theorem dX5_latest_74 : decode cX5_latest 74 = .ok (.iastore, 1) := by decide +kernel
theorem dX5_latest_75 : decode cX5_latest 75 = .ok (.iload 7, 2) := by decide +kernel
theorem dX5_latest_77 : decode cX5_latest 77 = .ok (.ifCond .lt 22, 3) := by decide +kernel
theorem dX5_latest_80 : decode cX5_latest 80 = .ok (.aload_n 0, 1) := by decide +kernel
theorem dX5_latest_81 : decode cX5_latest 81 = .ok (.iload_n 1, 1) := by decide +kernel
theorem dX5_latest_82 : decode cX5_latest 82 = .ok (.iload 6, 2) := by decide +kernel
theorem dX5_latest_84 : decode cX5_latest 84 = .ok (.isub, 1) := by decide +kernel
theorem dX5_latest_85 : decode cX5_latest 85 = .ok (.iload 4, 2) := by decide +kernel
theorem dX5_latest_87 : decode cX5_latest 87 = .ok (.invokevirtual 196, 3) := by decide +kernel
theorem dX5_latest_90 : decode cX5_latest 90 = .ok (.iload_n 2, 1) := by decide +kernel
theorem dX5_latest_91 : decode cX5_latest 91 = .ok (.if_icmp .gt 8, 3) := by decide +kernel
theorem dX5_latest_94 : decode cX5_latest 94 = .ok (.iload 6, 2) := by decide +kernel
theorem dX5_latest_96 : decode cX5_latest 96 = .ok (.goto 4, 3) := by decide +kernel
theorem dX5_latest_99 : decode cX5_latest 99 = .ok (.iconst (-1), 1) := by decide +kernel
theorem dX5_latest_100 : decode cX5_latest 100 = .ok (.istore 5, 2) := by decide +kernel
theorem dX5_latest_102 : decode cX5_latest 102 = .ok (.iinc 6 (-1), 3) := by decide +kernel
theorem dX5_latest_105 : decode cX5_latest 105 = .ok (.goto (-55), 3) := by decide +kernel
theorem dX5_latest_108 : decode cX5_latest 108 = .ok (.iload 5, 2) := by decide +kernel
theorem dX5_latest_110 : decode cX5_latest 110 = .ok (.ifCond .ge 12, 3) := by decide +kernel
theorem dX5_latest_113 : decode cX5_latest 113 = .ok (.aload_n 0, 1) := by decide +kernel
theorem dX5_latest_114 : decode cX5_latest 114 = .ok (.ldc 188, 2) := by decide +kernel
theorem dX5_latest_116 : decode cX5_latest 116 = .ok (.invokevirtual 93, 3) := by decide +kernel
theorem dX5_latest_119 : decode cX5_latest 119 = .ok (.goto 5, 3) := by decide +kernel
theorem dX5_latest_122 : decode cX5_latest 122 = .ok (.iload 5, 2) := by decide +kernel
theorem dX5_latest_124 : decode cX5_latest 124 = .ok (.ireturn, 1) := by decide +kernel
theorem dX5_findCarry_0 : decode cX5_findCarry 0 = .ok (.aload_n 0, 1) := by decide +kernel
theorem dX5_findCarry_1 : decode cX5_findCarry 1 = .ok (.getfield 9, 3) := by decide +kernel
theorem dX5_findCarry_4 : decode cX5_findCarry 4 = .ok (.aload_n 0, 1) := by decide +kernel
theorem dX5_findCarry_5 : decode cX5_findCarry 5 = .ok (.getfield 16, 3) := by decide +kernel
theorem dX5_findCarry_8 : decode cX5_findCarry 8 = .ok (.invokestatic 74, 3) := by decide +kernel
theorem dX5_findCarry_11 : decode cX5_findCarry 11 = .ok (.aload_n 0, 1) := by decide +kernel
theorem dX5_findCarry_12 : decode cX5_findCarry 12 = .ok (.iconst 0, 1) := by decide +kernel
theorem dX5_findCarry_13 : decode cX5_findCarry 13 = .ok (.invokevirtual 141, 3) := by decide +kernel
theorem dX5_findCarry_16 : decode cX5_findCarry 16 = .ok (.aload_n 0, 1) := by decide +kernel
theorem dX5_findCarry_17 : decode cX5_findCarry 17 = .ok (.iconst 3, 1) := by decide +kernel
theorem dX5_findCarry_18 : decode cX5_findCarry 18 = .ok (.invokevirtual 141, 3) := by decide +kernel
theorem dX5_findCarry_21 : decode cX5_findCarry 21 = .ok (.ior, 1) := by decide +kernel
theorem dX5_findCarry_22 : decode cX5_findCarry 22 = .ok (.istore_n 2, 1) := by decide +kernel
theorem dX5_findCarry_23 : decode cX5_findCarry 23 = .ok (.aload_n 0, 1) := by decide +kernel
theorem dX5_findCarry_24 : decode cX5_findCarry 24 = .ok (.iconst 0, 1) := by decide +kernel
theorem dX5_findCarry_25 : decode cX5_findCarry 25 = .ok (.putfield 199, 3) := by decide +kernel
theorem dX5_findCarry_28 : decode cX5_findCarry 28 = .ok (.aload_n 0, 1) := by decide +kernel
theorem dX5_findCarry_29 : decode cX5_findCarry 29 = .ok (.iconst 0, 1) := by decide +kernel
theorem dX5_findCarry_30 : decode cX5_findCarry 30 = .ok (.putfield 203, 3) := by decide +kernel
theorem dX5_findCarry_33 : decode cX5_findCarry 33 = .ok (.iconst 0, 1) := by decide +kernel
theorem dX5_findCarry_34 : decode cX5_findCarry 34 = .ok (.istore_n 3, 1) := by decide +kernel
theorem dX5_findCarry_35 : decode cX5_findCarry 35 = .ok (.iload_n 3, 1) := by decide +kernel
theorem dX5_findCarry_36 : decode cX5_findCarry 36 = .ok (.iconst 1, 1) := by decide +kernel
theorem dX5_findCarry_37 : decode cX5_findCarry 37 = .ok (.aload_n 0, 1) := by decide +kernel
theorem dX5_findCarry_38 : decode cX5_findCarry 38 = .ok (.getfield 9, 3) := by decide +kernel
theorem dX5_findCarry_41 : decode cX5_findCarry 41 = .ok (.iconst 4, 1) := by decide +kernel
theorem dX5_findCarry_42 : decode cX5_findCarry 42 = .ok (.iaload, 1) := by decide +kernel
theorem dX5_findCarry_43 : decode cX5_findCarry 43 = .ok (.ishl, 1) := by decide +kernel
theorem dX5_findCarry_44 : decode cX5_findCarry 44 = .ok (.if_icmp .ge 187, 3) := by decide +kernel
theorem dX5_findCarry_47 : decode cX5_findCarry 47 = .ok (.iload_n 3, 1) := by decide +kernel
theorem dX5_findCarry_48 : decode cX5_findCarry 48 = .ok (.iload_n 2, 1) := by decide +kernel
theorem dX5_findCarry_49 : decode cX5_findCarry 49 = .ok (.iconst (-1), 1) := by decide +kernel
theorem dX5_findCarry_50 : decode cX5_findCarry 50 = .ok (.ixor, 1) := by decide +kernel
theorem dX5_findCarry_51 : decode cX5_findCarry 51 = .ok (.iand, 1) := by decide +kernel
theorem dX5_findCarry_52 : decode cX5_findCarry 52 = .ok (.ifCond .ne 12, 3) := by decide +kernel
theorem dX5_findCarry_55 : decode cX5_findCarry 55 = .ok (.aload_n 0, 1) := by decide +kernel
theorem dX5_findCarry_56 : decode cX5_findCarry 56 = .ok (.iload_n 3, 1) := by decide +kernel
theorem dX5_findCarry_57 : decode cX5_findCarry 57 = .ok (.iconst 3, 1) := by decide +kernel
theorem dX5_findCarry_58 : decode cX5_findCarry 58 = .ok (.invokevirtual 144, 3) := by decide +kernel
theorem dX5_findCarry_61 : decode cX5_findCarry 61 = .ok (.goto 4, 3) := by decide +kernel
theorem dX5_findCarry_64 : decode cX5_findCarry 64 = .ok (.iconst 0, 1) := by decide +kernel
theorem dX5_findCarry_65 : decode cX5_findCarry 65 = .ok (.istore 4, 2) := by decide +kernel
theorem dX5_findCarry_67 : decode cX5_findCarry 67 = .ok (.iload 4, 2) := by decide +kernel
theorem dX5_findCarry_69 : decode cX5_findCarry 69 = .ok (.aload_n 0, 1) := by decide +kernel
theorem dX5_findCarry_70 : decode cX5_findCarry 70 = .ok (.getfield 203, 3) := by decide +kernel
theorem dX5_findCarry_73 : decode cX5_findCarry 73 = .ok (.if_icmp .le 152, 3) := by decide +kernel
theorem dX5_findCarry_76 : decode cX5_findCarry 76 = .ok (.iconst 0, 1) := by decide +kernel
theorem dX5_findCarry_77 : decode cX5_findCarry 77 = .ok (.istore 5, 2) := by decide +kernel
theorem dX5_findCarry_79 : decode cX5_findCarry 79 = .ok (.iload 5, 2) := by decide +kernel
theorem dX5_findCarry_81 : decode cX5_findCarry 81 = .ok (.aload_n 0, 1) := by decide +kernel
theorem dX5_findCarry_82 : decode cX5_findCarry 82 = .ok (.getfield 9, 3) := by decide +kernel
theorem dX5_findCarry_85 : decode cX5_findCarry 85 = .ok (.iconst 4, 1) := by decide +kernel
theorem dX5_findCarry_86 : decode cX5_findCarry 86 = .ok (.iaload, 1) := by decide +kernel
theorem dX5_findCarry_87 : decode cX5_findCarry 87 = .ok (.if_icmp .ge 61, 3) := by decide +kernel
theorem dX5_findCarry_90 : decode cX5_findCarry 90 = .ok (.iload_n 2, 1) := by decide +kernel
theorem dX5_findCarry_91 : decode cX5_findCarry 91 = .ok (.iload 5, 2) := by decide +kernel
theorem dX5_findCarry_93 : decode cX5_findCarry 93 = .ok (.invokestatic 138, 3) := by decide +kernel
theorem dX5_findCarry_96 : decode cX5_findCarry 96 = .ok (.ifCond .eq 26, 3) := by decide +kernel
theorem dX5_findCarry_99 : decode cX5_findCarry 99 = .ok (.aload_n 0, 1) := by decide +kernel
theorem dX5_findCarry_100 : decode cX5_findCarry 100 = .ok (.iload 5, 2) := by decide +kernel
theorem dX5_findCarry_102 : decode cX5_findCarry 102 = .ok (.iload_n 3, 1) := by decide +kernel
theorem dX5_findCarry_103 : decode cX5_findCarry 103 = .ok (.iload 5, 2) := by decide +kernel
theorem dX5_findCarry_105 : decode cX5_findCarry 105 = .ok (.invokestatic 138, 3) := by decide +kernel
theorem dX5_findCarry_108 : decode cX5_findCarry 108 = .ok (.ifCond .eq 7, 3) := by decide +kernel
theorem dX5_findCarry_111 : decode cX5_findCarry 111 = .ok (.iconst 0, 1) := by decide +kernel
theorem dX5_findCarry_112 : decode cX5_findCarry 112 = .ok (.goto 4, 3) := by decide +kernel
theorem dX5_findCarry_115 : decode cX5_findCarry 115 = .ok (.iconst 3, 1) := by decide +kernel
theorem dX5_findCarry_116 : decode cX5_findCarry 116 = .ok (.invokevirtual 86, 3) := by decide +kernel
theorem dX5_findCarry_119 : decode cX5_findCarry 119 = .ok (.goto 4, 3) := by decide +kernel
theorem dX5_findCarry_122 : decode cX5_findCarry 122 = .ok (.iconst 0, 1) := by decide +kernel
theorem dX5_findCarry_123 : decode cX5_findCarry 123 = .ok (.istore 6, 2) := by decide +kernel
theorem dX5_findCarry_125 : decode cX5_findCarry 125 = .ok (.aload_n 0, 1) := by decide +kernel
theorem dX5_findCarry_126 : decode cX5_findCarry 126 = .ok (.iload 6, 2) := by decide +kernel
theorem dX5_findCarry_128 : decode cX5_findCarry 128 = .ok (.ifCond .ge 7, 3) := by decide +kernel
theorem dX5_findCarry_131 : decode cX5_findCarry 131 = .ok (.iconst 0, 1) := by decide +kernel
theorem dX5_findCarry_132 : decode cX5_findCarry 132 = .ok (.goto 7, 3) := by decide +kernel
theorem dX5_findCarry_135 : decode cX5_findCarry 135 = .ok (.aload_n 0, 1) := by decide +kernel
theorem dX5_findCarry_136 : decode cX5_findCarry 136 = .ok (.getfield 199, 3) := by decide +kernel
theorem dX5_findCarry_139 : decode cX5_findCarry 139 = .ok (.putfield 199, 3) := by decide +kernel
theorem dX5_findCarry_142 : decode cX5_findCarry 142 = .ok (.iinc 5 1, 3) := by decide +kernel
theorem dX5_findCarry_145 : decode cX5_findCarry 145 = .ok (.goto (-66), 3) := by decide +kernel
theorem dX5_findCarry_148 : decode cX5_findCarry 148 = .ok (.aload_n 0, 1) := by decide +kernel
theorem dX5_findCarry_149 : decode cX5_findCarry 149 = .ok (.iload_n 1, 1) := by decide +kernel
theorem dX5_findCarry_150 : decode cX5_findCarry 150 = .ok (.invokevirtual 170, 3) := by decide +kernel
theorem dX5_findCarry_153 : decode cX5_findCarry 153 = .ok (.istore 5, 2) := by decide +kernel
theorem dX5_findCarry_155 : decode cX5_findCarry 155 = .ok (.iload 5, 2) := by decide +kernel
theorem dX5_findCarry_157 : decode cX5_findCarry 157 = .ok (.ifCond .lt 19, 3) := by decide +kernel
theorem dX5_findCarry_160 : decode cX5_findCarry 160 = .ok (.iload_n 3, 1) := by decide +kernel
theorem dX5_findCarry_161 : decode cX5_findCarry 161 = .ok (.aload_n 0, 1) := by decide +kernel
theorem dX5_findCarry_162 : decode cX5_findCarry 162 = .ok (.iconst 0, 1) := by decide +kernel
theorem dX5_findCarry_163 : decode cX5_findCarry 163 = .ok (.invokevirtual 141, 3) := by decide +kernel
theorem dX5_findCarry_166 : decode cX5_findCarry 166 = .ok (.iconst (-1), 1) := by decide +kernel
theorem dX5_findCarry_167 : decode cX5_findCarry 167 = .ok (.ixor, 1) := by decide +kernel
theorem dX5_findCarry_168 : decode cX5_findCarry 168 = .ok (.iand, 1) := by decide +kernel
theorem dX5_findCarry_169 : decode cX5_findCarry 169 = .ok (.ifCond .ne 7, 3) := by decide +kernel
theorem dX5_findCarry_172 : decode cX5_findCarry 172 = .ok (.iconst 1, 1) := by decide +kernel
theorem dX5_findCarry_173 : decode cX5_findCarry 173 = .ok (.goto 4, 3) := by decide +kernel
theorem dX5_findCarry_176 : decode cX5_findCarry 176 = .ok (.iconst 0, 1) := by decide +kernel
theorem dX5_findCarry_177 : decode cX5_findCarry 177 = .ok (.istore 6, 2) := by decide +kernel
theorem dX5_findCarry_179 : decode cX5_findCarry 179 = .ok (.aload_n 0, 1) := by decide +kernel
theorem dX5_findCarry_180 : decode cX5_findCarry 180 = .ok (.iload 6, 2) := by decide +kernel
theorem dX5_findCarry_182 : decode cX5_findCarry 182 = .ok (.ifCond .eq 7, 3) := by decide +kernel
theorem dX5_findCarry_185 : decode cX5_findCarry 185 = .ok (.iload_n 3, 1) := by decide +kernel
theorem dX5_findCarry_186 : decode cX5_findCarry 186 = .ok (.goto 7, 3) := by decide +kernel
theorem dX5_findCarry_189 : decode cX5_findCarry 189 = .ok (.aload_n 0, 1) := by decide +kernel
theorem dX5_findCarry_190 : decode cX5_findCarry 190 = .ok (.getfield 199, 3) := by decide +kernel
theorem dX5_findCarry_193 : decode cX5_findCarry 193 = .ok (.putfield 199, 3) := by decide +kernel
theorem dX5_findCarry_196 : decode cX5_findCarry 196 = .ok (.aload_n 0, 1) := by decide +kernel
theorem dX5_findCarry_197 : decode cX5_findCarry 197 = .ok (.iload 6, 2) := by decide +kernel
theorem dX5_findCarry_199 : decode cX5_findCarry 199 = .ok (.ifCond .eq 8, 3) := by decide +kernel
theorem dX5_findCarry_202 : decode cX5_findCarry 202 = .ok (.iload 4, 2) := by decide +kernel
theorem dX5_findCarry_204 : decode cX5_findCarry 204 = .ok (.goto 7, 3) := by decide +kernel
theorem dX5_findCarry_207 : decode cX5_findCarry 207 = .ok (.aload_n 0, 1) := by decide +kernel
theorem dX5_findCarry_208 : decode cX5_findCarry 208 = .ok (.getfield 203, 3) := by decide +kernel
theorem dX5_findCarry_211 : decode cX5_findCarry 211 = .ok (.putfield 203, 3) := by decide +kernel
theorem dX5_findCarry_214 : decode cX5_findCarry 214 = .ok (.aload_n 0, 1) := by decide +kernel
theorem dX5_findCarry_215 : decode cX5_findCarry 215 = .ok (.getfield 16, 3) := by decide +kernel
theorem dX5_findCarry_218 : decode cX5_findCarry 218 = .ok (.aload_n 0, 1) := by decide +kernel
theorem dX5_findCarry_219 : decode cX5_findCarry 219 = .ok (.getfield 9, 3) := by decide +kernel
theorem dX5_findCarry_222 : decode cX5_findCarry 222 = .ok (.invokestatic 74, 3) := by decide +kernel
theorem dX5_findCarry_225 : decode cX5_findCarry 225 = .ok (.iinc 3 1, 3) := by decide +kernel
theorem dX5_findCarry_228 : decode cX5_findCarry 228 = .ok (.goto (-193), 3) := by decide +kernel
theorem dX5_findCarry_231 : decode cX5_findCarry 231 = .ok (.return_, 1) := by decide +kernel
theorem dX5_carry_0 : decode cX5_carry 0 = .ok (.aload_n 0, 1) := by decide +kernel
theorem dX5_carry_1 : decode cX5_carry 1 = .ok (.iconst 1, 1) := by decide +kernel
theorem dX5_carry_2 : decode cX5_carry 2 = .ok (.iload_n 1, 1) := by decide +kernel
theorem dX5_carry_3 : decode cX5_carry 3 = .ok (.bipush 100, 2) := by decide +kernel
theorem dX5_carry_5 : decode cX5_carry 5 = .ok (.invokevirtual 192, 3) := by decide +kernel
theorem dX5_carry_8 : decode cX5_carry 8 = .ok (.istore_n 2, 1) := by decide +kernel
theorem dX5_carry_9 : decode cX5_carry 9 = .ok (.iload_n 2, 1) := by decide +kernel
theorem dX5_carry_10 : decode cX5_carry 10 = .ok (.ifCond .eq 9, 3) := by decide +kernel
theorem dX5_carry_13 : decode cX5_carry 13 = .ok (.aload_n 0, 1) := by decide +kernel
theorem dX5_carry_14 : decode cX5_carry 14 = .ok (.iload_n 2, 1) := by decide +kernel
theorem dX5_carry_15 : decode cX5_carry 15 = .ok (.invokevirtual 93, 3) := by decide +kernel
theorem dX5_carry_18 : decode cX5_carry 18 = .ok (.ireturn, 1) := by decide +kernel
theorem dX5_carry_19 : decode cX5_carry 19 = .ok (.aload_n 0, 1) := by decide +kernel
theorem dX5_carry_20 : decode cX5_carry 20 = .ok (.iload_n 1, 1) := by decide +kernel
theorem dX5_carry_21 : decode cX5_carry 21 = .ok (.invokevirtual 206, 3) := by decide +kernel
theorem dX5_carry_24 : decode cX5_carry 24 = .ok (.aload_n 0, 1) := by decide +kernel
theorem dX5_carry_25 : decode cX5_carry 25 = .ok (.getfield 199, 3) := by decide +kernel
theorem dX5_carry_28 : decode cX5_carry 28 = .ok (.ireturn, 1) := by decide +kernel
theorem dX5_carried_0 : decode cX5_carried 0 = .ok (.aload_n 0, 1) := by decide +kernel
theorem dX5_carried_1 : decode cX5_carried 1 = .ok (.iconst 1, 1) := by decide +kernel
theorem dX5_carried_2 : decode cX5_carried 2 = .ok (.iload_n 1, 1) := by decide +kernel
theorem dX5_carried_3 : decode cX5_carried 3 = .ok (.bipush 100, 2) := by decide +kernel
theorem dX5_carried_5 : decode cX5_carried 5 = .ok (.invokevirtual 192, 3) := by decide +kernel
theorem dX5_carried_8 : decode cX5_carried 8 = .ok (.istore_n 2, 1) := by decide +kernel
theorem dX5_carried_9 : decode cX5_carried 9 = .ok (.iload_n 2, 1) := by decide +kernel
theorem dX5_carried_10 : decode cX5_carried 10 = .ok (.ifCond .eq 9, 3) := by decide +kernel
theorem dX5_carried_13 : decode cX5_carried 13 = .ok (.aload_n 0, 1) := by decide +kernel
theorem dX5_carried_14 : decode cX5_carried 14 = .ok (.iload_n 2, 1) := by decide +kernel
theorem dX5_carried_15 : decode cX5_carried 15 = .ok (.invokevirtual 93, 3) := by decide +kernel
theorem dX5_carried_18 : decode cX5_carried 18 = .ok (.ireturn, 1) := by decide +kernel
theorem dX5_carried_19 : decode cX5_carried 19 = .ok (.aload_n 0, 1) := by decide +kernel
theorem dX5_carried_20 : decode cX5_carried 20 = .ok (.iload_n 1, 1) := by decide +kernel
theorem dX5_carried_21 : decode cX5_carried 21 = .ok (.invokevirtual 206, 3) := by decide +kernel
theorem dX5_carried_24 : decode cX5_carried 24 = .ok (.aload_n 0, 1) := by decide +kernel
theorem dX5_carried_25 : decode cX5_carried 25 = .ok (.getfield 203, 3) := by decide +kernel
theorem dX5_carried_28 : decode cX5_carried 28 = .ok (.ireturn, 1) := by decide +kernel
theorem dX5_kindFor_0 : decode cX5_kindFor 0 = .ok (.aload_n 0, 1) := by decide +kernel
theorem dX5_kindFor_1 : decode cX5_kindFor 1 = .ok (.iload_n 1, 1) := by decide +kernel
theorem dX5_kindFor_2 : decode cX5_kindFor 2 = .ok (.invokevirtual 120, 3) := by decide +kernel
theorem dX5_kindFor_5 : decode cX5_kindFor 5 = .ok (.ifCond .ne 10, 3) := by decide +kernel
theorem dX5_kindFor_8 : decode cX5_kindFor 8 = .ok (.aload_n 0, 1) := by decide +kernel
theorem dX5_kindFor_9 : decode cX5_kindFor 9 = .ok (.ldc 73, 2) := by decide +kernel
theorem dX5_kindFor_11 : decode cX5_kindFor 11 = .ok (.invokevirtual 93, 3) := by decide +kernel
theorem dX5_kindFor_14 : decode cX5_kindFor 14 = .ok (.ireturn, 1) := by decide +kernel
theorem dX5_kindFor_15 : decode cX5_kindFor 15 = .ok (.aload_n 0, 1) := by decide +kernel
theorem dX5_kindFor_16 : decode cX5_kindFor 16 = .ok (.iload_n 1, 1) := by decide +kernel
theorem dX5_kindFor_17 : decode cX5_kindFor 17 = .ok (.iconst 0, 1) := by decide +kernel
theorem dX5_kindFor_18 : decode cX5_kindFor 18 = .ok (.invokevirtual 135, 3) := by decide +kernel
theorem dX5_kindFor_21 : decode cX5_kindFor 21 = .ok (.ifCond .eq 10, 3) := by decide +kernel
theorem dX5_kindFor_24 : decode cX5_kindFor 24 = .ok (.aload_n 0, 1) := by decide +kernel
theorem dX5_kindFor_25 : decode cX5_kindFor 25 = .ok (.invokevirtual 180, 3) := by decide +kernel
theorem dX5_kindFor_28 : decode cX5_kindFor 28 = .ok (.ifCond .eq 10, 3) := by decide +kernel
theorem dX5_kindFor_31 : decode cX5_kindFor 31 = .ok (.aload_n 0, 1) := by decide +kernel
theorem dX5_kindFor_32 : decode cX5_kindFor 32 = .ok (.ldc 169, 2) := by decide +kernel
theorem dX5_kindFor_34 : decode cX5_kindFor 34 = .ok (.invokevirtual 93, 3) := by decide +kernel
theorem dX5_kindFor_37 : decode cX5_kindFor 37 = .ok (.ireturn, 1) := by decide +kernel
theorem dX5_kindFor_38 : decode cX5_kindFor 38 = .ok (.aload_n 0, 1) := by decide +kernel
theorem dX5_kindFor_39 : decode cX5_kindFor 39 = .ok (.iload_n 1, 1) := by decide +kernel
theorem dX5_kindFor_40 : decode cX5_kindFor 40 = .ok (.iconst 0, 1) := by decide +kernel
theorem dX5_kindFor_41 : decode cX5_kindFor 41 = .ok (.invokevirtual 105, 3) := by decide +kernel
theorem dX5_kindFor_44 : decode cX5_kindFor 44 = .ok (.istore_n 2, 1) := by decide +kernel
theorem dX5_kindFor_45 : decode cX5_kindFor 45 = .ok (.iconst (-1), 1) := by decide +kernel
theorem dX5_kindFor_46 : decode cX5_kindFor 46 = .ok (.istore_n 3, 1) := by decide +kernel
theorem dX5_kindFor_47 : decode cX5_kindFor 47 = .ok (.iconst (-1), 1) := by decide +kernel
theorem dX5_kindFor_48 : decode cX5_kindFor 48 = .ok (.istore 4, 2) := by decide +kernel
theorem dX5_kindFor_50 : decode cX5_kindFor 50 = .ok (.iconst 0, 1) := by decide +kernel
theorem dX5_kindFor_51 : decode cX5_kindFor 51 = .ok (.istore 5, 2) := by decide +kernel
theorem dX5_kindFor_53 : decode cX5_kindFor 53 = .ok (.iload 5, 2) := by decide +kernel
theorem dX5_kindFor_55 : decode cX5_kindFor 55 = .ok (.bipush 6, 2) := by decide +kernel
theorem dX5_kindFor_57 : decode cX5_kindFor 57 = .ok (.if_icmp .gt 52, 3) := by decide +kernel
theorem dX5_kindFor_60 : decode cX5_kindFor 60 = .ok (.aload_n 0, 1) := by decide +kernel
theorem dX5_kindFor_61 : decode cX5_kindFor 61 = .ok (.getfield 9, 3) := by decide +kernel
theorem dX5_kindFor_64 : decode cX5_kindFor 64 = .ok (.iload_n 1, 1) := by decide +kernel
theorem dX5_kindFor_65 : decode cX5_kindFor 65 = .ok (.iconst 0, 1) := by decide +kernel
theorem dX5_kindFor_66 : decode cX5_kindFor 66 = .ok (.invokestatic 82, 3) := by decide +kernel
theorem dX5_kindFor_69 : decode cX5_kindFor 69 = .ok (.iload 5, 2) := by decide +kernel
theorem dX5_kindFor_71 : decode cX5_kindFor 71 = .ok (.iastore, 1) := by decide +kernel
theorem dX5_kindFor_72 : decode cX5_kindFor 72 = .ok (.aload_n 0, 1) := by decide +kernel
theorem dX5_kindFor_73 : decode cX5_kindFor 73 = .ok (.iload_n 1, 1) := by decide +kernel
theorem dX5_kindFor_74 : decode cX5_kindFor 74 = .ok (.iconst 0, 1) := by decide +kernel
theorem dX5_kindFor_75 : decode cX5_kindFor 75 = .ok (.invokevirtual 184, 3) := by decide +kernel
theorem dX5_kindFor_78 : decode cX5_kindFor 78 = .ok (.istore 6, 2) := by decide +kernel
theorem dX5_kindFor_80 : decode cX5_kindFor 80 = .ok (.iload 6, 2) := by decide +kernel
theorem dX5_kindFor_82 : decode cX5_kindFor 82 = .ok (.iload 4, 2) := by decide +kernel
theorem dX5_kindFor_84 : decode cX5_kindFor 84 = .ok (.if_icmp .le 8, 3) := by decide +kernel
theorem dX5_kindFor_87 : decode cX5_kindFor 87 = .ok (.iload 5, 2) := by decide +kernel
theorem dX5_kindFor_89 : decode cX5_kindFor 89 = .ok (.goto 4, 3) := by decide +kernel
theorem dX5_kindFor_92 : decode cX5_kindFor 92 = .ok (.iload_n 3, 1) := by decide +kernel
theorem dX5_kindFor_93 : decode cX5_kindFor 93 = .ok (.istore_n 3, 1) := by decide +kernel
theorem dX5_kindFor_94 : decode cX5_kindFor 94 = .ok (.iload 4, 2) := by decide +kernel
theorem dX5_kindFor_96 : decode cX5_kindFor 96 = .ok (.iload 6, 2) := by decide +kernel
theorem dX5_kindFor_98 : decode cX5_kindFor 98 = .ok (.invokestatic 112, 3) := by decide +kernel
theorem dX5_kindFor_101 : decode cX5_kindFor 101 = .ok (.istore 4, 2) := by decide +kernel
theorem dX5_kindFor_103 : decode cX5_kindFor 103 = .ok (.iinc 5 1, 3) := by decide +kernel
theorem dX5_kindFor_106 : decode cX5_kindFor 106 = .ok (.goto (-53), 3) := by decide +kernel
theorem dX5_kindFor_109 : decode cX5_kindFor 109 = .ok (.aload_n 0, 1) := by decide +kernel
theorem dX5_kindFor_110 : decode cX5_kindFor 110 = .ok (.getfield 9, 3) := by decide +kernel
theorem dX5_kindFor_113 : decode cX5_kindFor 113 = .ok (.iload_n 1, 1) := by decide +kernel
theorem dX5_kindFor_114 : decode cX5_kindFor 114 = .ok (.iconst 0, 1) := by decide +kernel
theorem dX5_kindFor_115 : decode cX5_kindFor 115 = .ok (.invokestatic 82, 3) := by decide +kernel
theorem dX5_kindFor_118 : decode cX5_kindFor 118 = .ok (.iload_n 2, 1) := by decide +kernel
theorem dX5_kindFor_119 : decode cX5_kindFor 119 = .ok (.iastore, 1) := by decide +kernel
theorem dX5_kindFor_120 : decode cX5_kindFor 120 = .ok (.iload_n 3, 1) := by decide +kernel
theorem dX5_kindFor_121 : decode cX5_kindFor 121 = .ok (.ireturn, 1) := by decide +kernel
theorem dX5_worst_0 : decode cX5_worst 0 = .ok (.aload_n 0, 1) := by decide +kernel
theorem dX5_worst_1 : decode cX5_worst 1 = .ok (.iconst 1, 1) := by decide +kernel
theorem dX5_worst_2 : decode cX5_worst 2 = .ok (.iload_n 1, 1) := by decide +kernel
theorem dX5_worst_3 : decode cX5_worst 3 = .ok (.bipush 100, 2) := by decide +kernel
theorem dX5_worst_5 : decode cX5_worst 5 = .ok (.invokevirtual 192, 3) := by decide +kernel
theorem dX5_worst_8 : decode cX5_worst 8 = .ok (.istore_n 2, 1) := by decide +kernel
theorem dX5_worst_9 : decode cX5_worst 9 = .ok (.iload_n 2, 1) := by decide +kernel
theorem dX5_worst_10 : decode cX5_worst 10 = .ok (.ifCond .eq 9, 3) := by decide +kernel
theorem dX5_worst_13 : decode cX5_worst 13 = .ok (.aload_n 0, 1) := by decide +kernel
theorem dX5_worst_14 : decode cX5_worst 14 = .ok (.iload_n 2, 1) := by decide +kernel
theorem dX5_worst_15 : decode cX5_worst 15 = .ok (.invokevirtual 93, 3) := by decide +kernel
theorem dX5_worst_18 : decode cX5_worst 18 = .ok (.ireturn, 1) := by decide +kernel
theorem dX5_worst_19 : decode cX5_worst 19 = .ok (.aload_n 0, 1) := by decide +kernel
theorem dX5_worst_20 : decode cX5_worst 20 = .ok (.getfield 9, 3) := by decide +kernel
theorem dX5_worst_23 : decode cX5_worst 23 = .ok (.aload_n 0, 1) := by decide +kernel
theorem dX5_worst_24 : decode cX5_worst 24 = .ok (.getfield 16, 3) := by decide +kernel
theorem dX5_worst_27 : decode cX5_worst 27 = .ok (.invokestatic 74, 3) := by decide +kernel
theorem dX5_worst_30 : decode cX5_worst 30 = .ok (.aload_n 0, 1) := by decide +kernel
theorem dX5_worst_31 : decode cX5_worst 31 = .ok (.iconst 2, 1) := by decide +kernel
theorem dX5_worst_32 : decode cX5_worst 32 = .ok (.invokevirtual 141, 3) := by decide +kernel
theorem dX5_worst_35 : decode cX5_worst 35 = .ok (.istore_n 3, 1) := by decide +kernel
theorem dX5_worst_36 : decode cX5_worst 36 = .ok (.iconst (-1), 1) := by decide +kernel
theorem dX5_worst_37 : decode cX5_worst 37 = .ok (.istore 4, 2) := by decide +kernel
theorem dX5_worst_39 : decode cX5_worst 39 = .ok (.iconst 0, 1) := by decide +kernel
theorem dX5_worst_40 : decode cX5_worst 40 = .ok (.istore 5, 2) := by decide +kernel
theorem dX5_worst_42 : decode cX5_worst 42 = .ok (.iconst 0, 1) := by decide +kernel
theorem dX5_worst_43 : decode cX5_worst 43 = .ok (.istore 6, 2) := by decide +kernel
theorem dX5_worst_45 : decode cX5_worst 45 = .ok (.iload 6, 2) := by decide +kernel
theorem dX5_worst_47 : decode cX5_worst 47 = .ok (.aload_n 0, 1) := by decide +kernel
theorem dX5_worst_48 : decode cX5_worst 48 = .ok (.getfield 9, 3) := by decide +kernel
theorem dX5_worst_51 : decode cX5_worst 51 = .ok (.iconst 4, 1) := by decide +kernel
theorem dX5_worst_52 : decode cX5_worst 52 = .ok (.iaload, 1) := by decide +kernel
theorem dX5_worst_53 : decode cX5_worst 53 = .ok (.if_icmp .ge 61, 3) := by decide +kernel
theorem dX5_worst_56 : decode cX5_worst 56 = .ok (.aload_n 0, 1) := by decide +kernel
theorem dX5_worst_57 : decode cX5_worst 57 = .ok (.iload 6, 2) := by decide +kernel
theorem dX5_worst_59 : decode cX5_worst 59 = .ok (.iconst 0, 1) := by decide +kernel
theorem dX5_worst_60 : decode cX5_worst 60 = .ok (.invokevirtual 135, 3) := by decide +kernel
theorem dX5_worst_63 : decode cX5_worst 63 = .ok (.ifCond .eq 45, 3) := by decide +kernel
theorem dX5_worst_66 : decode cX5_worst 66 = .ok (.aload_n 0, 1) := by decide +kernel
theorem dX5_worst_67 : decode cX5_worst 67 = .ok (.iload 6, 2) := by decide +kernel
theorem dX5_worst_69 : decode cX5_worst 69 = .ok (.iconst 3, 1) := by decide +kernel
theorem dX5_worst_70 : decode cX5_worst 70 = .ok (.invokevirtual 86, 3) := by decide +kernel
theorem dX5_worst_73 : decode cX5_worst 73 = .ok (.istore 7, 2) := by decide +kernel
theorem dX5_worst_75 : decode cX5_worst 75 = .ok (.aload_n 0, 1) := by decide +kernel
theorem dX5_worst_76 : decode cX5_worst 76 = .ok (.iload_n 1, 1) := by decide +kernel
theorem dX5_worst_77 : decode cX5_worst 77 = .ok (.iload_n 3, 1) := by decide +kernel
theorem dX5_worst_78 : decode cX5_worst 78 = .ok (.invokevirtual 196, 3) := by decide +kernel
theorem dX5_worst_81 : decode cX5_worst 81 = .ok (.istore 8, 2) := by decide +kernel
theorem dX5_worst_83 : decode cX5_worst 83 = .ok (.iload 7, 2) := by decide +kernel
theorem dX5_worst_85 : decode cX5_worst 85 = .ok (.ifCond .ne 23, 3) := by decide +kernel
theorem dX5_worst_88 : decode cX5_worst 88 = .ok (.iload 4, 2) := by decide +kernel
theorem dX5_worst_90 : decode cX5_worst 90 = .ok (.ifCond .lt 10, 3) := by decide +kernel
theorem dX5_worst_93 : decode cX5_worst 93 = .ok (.iload 8, 2) := by decide +kernel
theorem dX5_worst_95 : decode cX5_worst 95 = .ok (.iload 5, 2) := by decide +kernel
theorem dX5_worst_97 : decode cX5_worst 97 = .ok (.if_icmp .ge 11, 3) := by decide +kernel
theorem dX5_worst_100 : decode cX5_worst 100 = .ok (.iload 6, 2) := by decide +kernel
theorem dX5_worst_102 : decode cX5_worst 102 = .ok (.istore 4, 2) := by decide +kernel
theorem dX5_worst_104 : decode cX5_worst 104 = .ok (.iload 8, 2) := by decide +kernel
theorem dX5_worst_106 : decode cX5_worst 106 = .ok (.istore 5, 2) := by decide +kernel
theorem dX5_worst_108 : decode cX5_worst 108 = .ok (.iinc 6 1, 3) := by decide +kernel
theorem dX5_worst_111 : decode cX5_worst 111 = .ok (.goto (-66), 3) := by decide +kernel
theorem dX5_worst_114 : decode cX5_worst 114 = .ok (.iload 4, 2) := by decide +kernel
theorem dX5_worst_116 : decode cX5_worst 116 = .ok (.ifCond .ge 12, 3) := by decide +kernel
theorem dX5_worst_119 : decode cX5_worst 119 = .ok (.aload_n 0, 1) := by decide +kernel
theorem dX5_worst_120 : decode cX5_worst 120 = .ok (.ldc 188, 2) := by decide +kernel
theorem dX5_worst_122 : decode cX5_worst 122 = .ok (.invokevirtual 93, 3) := by decide +kernel
theorem dX5_worst_125 : decode cX5_worst 125 = .ok (.goto 5, 3) := by decide +kernel
theorem dX5_worst_128 : decode cX5_worst 128 = .ok (.iload 4, 2) := by decide +kernel
theorem dX5_worst_130 : decode cX5_worst 130 = .ok (.ireturn, 1) := by decide +kernel
theorem dX5_hem_0 : decode cX5_hem 0 = .ok (.aload_n 0, 1) := by decide +kernel
theorem dX5_hem_1 : decode cX5_hem 1 = .ok (.iconst 1, 1) := by decide +kernel
theorem dX5_hem_2 : decode cX5_hem 2 = .ok (.iload_n 1, 1) := by decide +kernel
theorem dX5_hem_3 : decode cX5_hem 3 = .ok (.bipush 100, 2) := by decide +kernel
theorem dX5_hem_5 : decode cX5_hem 5 = .ok (.invokevirtual 192, 3) := by decide +kernel
theorem dX5_hem_8 : decode cX5_hem 8 = .ok (.istore_n 2, 1) := by decide +kernel
theorem dX5_hem_9 : decode cX5_hem 9 = .ok (.iload_n 2, 1) := by decide +kernel
theorem dX5_hem_10 : decode cX5_hem 10 = .ok (.ifCond .eq 9, 3) := by decide +kernel
theorem dX5_hem_13 : decode cX5_hem 13 = .ok (.aload_n 0, 1) := by decide +kernel
theorem dX5_hem_14 : decode cX5_hem 14 = .ok (.iload_n 2, 1) := by decide +kernel
theorem dX5_hem_15 : decode cX5_hem 15 = .ok (.invokevirtual 93, 3) := by decide +kernel
theorem dX5_hem_18 : decode cX5_hem 18 = .ok (.ireturn, 1) := by decide +kernel
theorem dX5_hem_19 : decode cX5_hem 19 = .ok (.aload_n 0, 1) := by decide +kernel
theorem dX5_hem_20 : decode cX5_hem 20 = .ok (.getfield 9, 3) := by decide +kernel
theorem dX5_hem_23 : decode cX5_hem 23 = .ok (.aload_n 0, 1) := by decide +kernel
theorem dX5_hem_24 : decode cX5_hem 24 = .ok (.getfield 16, 3) := by decide +kernel
theorem dX5_hem_27 : decode cX5_hem 27 = .ok (.invokestatic 74, 3) := by decide +kernel
theorem dX5_hem_30 : decode cX5_hem 30 = .ok (.aload_n 0, 1) := by decide +kernel
theorem dX5_hem_31 : decode cX5_hem 31 = .ok (.iconst 2, 1) := by decide +kernel
theorem dX5_hem_32 : decode cX5_hem 32 = .ok (.invokevirtual 141, 3) := by decide +kernel
theorem dX5_hem_35 : decode cX5_hem 35 = .ok (.istore_n 3, 1) := by decide +kernel
theorem dX5_hem_36 : decode cX5_hem 36 = .ok (.iconst (-1), 1) := by decide +kernel
theorem dX5_hem_37 : decode cX5_hem 37 = .ok (.istore 4, 2) := by decide +kernel
theorem dX5_hem_39 : decode cX5_hem 39 = .ok (.iconst 0, 1) := by decide +kernel
theorem dX5_hem_40 : decode cX5_hem 40 = .ok (.istore 5, 2) := by decide +kernel
theorem dX5_hem_42 : decode cX5_hem 42 = .ok (.iconst 0, 1) := by decide +kernel
theorem dX5_hem_43 : decode cX5_hem 43 = .ok (.istore 6, 2) := by decide +kernel
theorem dX5_hem_45 : decode cX5_hem 45 = .ok (.iload 6, 2) := by decide +kernel
theorem dX5_hem_47 : decode cX5_hem 47 = .ok (.bipush 8, 2) := by decide +kernel
theorem dX5_hem_49 : decode cX5_hem 49 = .ok (.if_icmp .ge 45, 3) := by decide +kernel
theorem dX5_hem_52 : decode cX5_hem 52 = .ok (.aload_n 0, 1) := by decide +kernel
theorem dX5_hem_53 : decode cX5_hem 53 = .ok (.getfield 9, 3) := by decide +kernel
theorem dX5_hem_56 : decode cX5_hem 56 = .ok (.iconst 3, 1) := by decide +kernel
theorem dX5_hem_57 : decode cX5_hem 57 = .ok (.iload 6, 2) := by decide +kernel
theorem dX5_hem_59 : decode cX5_hem 59 = .ok (.iastore, 1) := by decide +kernel
theorem dX5_hem_60 : decode cX5_hem 60 = .ok (.aload_n 0, 1) := by decide +kernel
theorem dX5_hem_61 : decode cX5_hem 61 = .ok (.iload_n 1, 1) := by decide +kernel
theorem dX5_hem_62 : decode cX5_hem 62 = .ok (.iload_n 3, 1) := by decide +kernel
theorem dX5_hem_63 : decode cX5_hem 63 = .ok (.invokevirtual 196, 3) := by decide +kernel
theorem dX5_hem_66 : decode cX5_hem 66 = .ok (.istore 7, 2) := by decide +kernel
theorem dX5_hem_68 : decode cX5_hem 68 = .ok (.iload 4, 2) := by decide +kernel
theorem dX5_hem_70 : decode cX5_hem 70 = .ok (.ifCond .lt 10, 3) := by decide +kernel
theorem dX5_hem_73 : decode cX5_hem 73 = .ok (.iload 7, 2) := by decide +kernel
theorem dX5_hem_75 : decode cX5_hem 75 = .ok (.iload 5, 2) := by decide +kernel
theorem dX5_hem_77 : decode cX5_hem 77 = .ok (.if_icmp .ge 11, 3) := by decide +kernel
theorem dX5_hem_80 : decode cX5_hem 80 = .ok (.iload 6, 2) := by decide +kernel
theorem dX5_hem_82 : decode cX5_hem 82 = .ok (.istore 4, 2) := by decide +kernel
theorem dX5_hem_84 : decode cX5_hem 84 = .ok (.iload 7, 2) := by decide +kernel
theorem dX5_hem_86 : decode cX5_hem 86 = .ok (.istore 5, 2) := by decide +kernel
theorem dX5_hem_88 : decode cX5_hem 88 = .ok (.iinc 6 1, 3) := by decide +kernel
theorem dX5_hem_91 : decode cX5_hem 91 = .ok (.goto (-46), 3) := by decide +kernel
theorem dX5_hem_94 : decode cX5_hem 94 = .ok (.iload 4, 2) := by decide +kernel
theorem dX5_hem_96 : decode cX5_hem 96 = .ok (.ireturn, 1) := by decide +kernel
theorem dX5_thin_0 : decode cX5_thin 0 = .ok (.iconst 0, 1) := by decide +kernel
theorem dX5_thin_1 : decode cX5_thin 1 = .ok (.istore_n 1, 1) := by decide +kernel
theorem dX5_thin_2 : decode cX5_thin 2 = .ok (.iconst 0, 1) := by decide +kernel
theorem dX5_thin_3 : decode cX5_thin 3 = .ok (.istore_n 2, 1) := by decide +kernel
theorem dX5_thin_4 : decode cX5_thin 4 = .ok (.iload_n 2, 1) := by decide +kernel
theorem dX5_thin_5 : decode cX5_thin 5 = .ok (.aload_n 0, 1) := by decide +kernel
theorem dX5_thin_6 : decode cX5_thin 6 = .ok (.getfield 9, 3) := by decide +kernel
theorem dX5_thin_9 : decode cX5_thin 9 = .ok (.iconst 4, 1) := by decide +kernel
theorem dX5_thin_10 : decode cX5_thin 10 = .ok (.iaload, 1) := by decide +kernel
theorem dX5_thin_11 : decode cX5_thin 11 = .ok (.if_icmp .ge 33, 3) := by decide +kernel
theorem dX5_thin_14 : decode cX5_thin 14 = .ok (.iload_n 1, 1) := by decide +kernel
theorem dX5_thin_15 : decode cX5_thin 15 = .ok (.aload_n 0, 1) := by decide +kernel
theorem dX5_thin_16 : decode cX5_thin 16 = .ok (.iload_n 2, 1) := by decide +kernel
theorem dX5_thin_17 : decode cX5_thin 17 = .ok (.invokevirtual 117, 3) := by decide +kernel
theorem dX5_thin_20 : decode cX5_thin 20 = .ok (.aload_n 0, 1) := by decide +kernel
theorem dX5_thin_21 : decode cX5_thin 21 = .ok (.getfield 9, 3) := by decide +kernel
theorem dX5_thin_24 : decode cX5_thin 24 = .ok (.iconst 1, 1) := by decide +kernel
theorem dX5_thin_25 : decode cX5_thin 25 = .ok (.iaload, 1) := by decide +kernel
theorem dX5_thin_26 : decode cX5_thin 26 = .ok (.if_icmp .gt 9, 3) := by decide +kernel
theorem dX5_thin_29 : decode cX5_thin 29 = .ok (.iconst 1, 1) := by decide +kernel
theorem dX5_thin_30 : decode cX5_thin 30 = .ok (.iload_n 2, 1) := by decide +kernel
theorem dX5_thin_31 : decode cX5_thin 31 = .ok (.ishl, 1) := by decide +kernel
theorem dX5_thin_32 : decode cX5_thin 32 = .ok (.goto 4, 3) := by decide +kernel
theorem dX5_thin_35 : decode cX5_thin 35 = .ok (.iconst 0, 1) := by decide +kernel
theorem dX5_thin_36 : decode cX5_thin 36 = .ok (.ior, 1) := by decide +kernel
theorem dX5_thin_37 : decode cX5_thin 37 = .ok (.istore_n 1, 1) := by decide +kernel
theorem dX5_thin_38 : decode cX5_thin 38 = .ok (.iinc 2 1, 3) := by decide +kernel
theorem dX5_thin_41 : decode cX5_thin 41 = .ok (.goto (-37), 3) := by decide +kernel
theorem dX5_thin_44 : decode cX5_thin 44 = .ok (.iload_n 1, 1) := by decide +kernel
theorem dX5_thin_45 : decode cX5_thin 45 = .ok (.ireturn, 1) := by decide +kernel
theorem dX5_payWith_0 : decode cX5_payWith 0 = .ok (.aload_n 0, 1) := by decide +kernel
theorem dX5_payWith_1 : decode cX5_payWith 1 = .ok (.iconst 0, 1) := by decide +kernel
theorem dX5_payWith_2 : decode cX5_payWith 2 = .ok (.invokevirtual 141, 3) := by decide +kernel
theorem dX5_payWith_5 : decode cX5_payWith 5 = .ok (.istore 4, 2) := by decide +kernel
theorem dX5_payWith_7 : decode cX5_payWith 7 = .ok (.iconst (-1), 1) := by decide +kernel
theorem dX5_payWith_8 : decode cX5_payWith 8 = .ok (.istore 5, 2) := by decide +kernel
theorem dX5_payWith_10 : decode cX5_payWith 10 = .ok (.iconst 0, 1) := by decide +kernel
theorem dX5_payWith_11 : decode cX5_payWith 11 = .ok (.istore 6, 2) := by decide +kernel
theorem dX5_payWith_13 : decode cX5_payWith 13 = .ok (.iconst 0, 1) := by decide +kernel
theorem dX5_payWith_14 : decode cX5_payWith 14 = .ok (.istore 7, 2) := by decide +kernel
theorem dX5_payWith_16 : decode cX5_payWith 16 = .ok (.iload 7, 2) := by decide +kernel
theorem dX5_payWith_18 : decode cX5_payWith 18 = .ok (.iconst 1, 1) := by decide +kernel
theorem dX5_payWith_19 : decode cX5_payWith 19 = .ok (.aload_n 0, 1) := by decide +kernel
theorem dX5_payWith_20 : decode cX5_payWith 20 = .ok (.getfield 9, 3) := by decide +kernel
theorem dX5_payWith_23 : decode cX5_payWith 23 = .ok (.iconst 4, 1) := by decide +kernel
theorem dX5_payWith_24 : decode cX5_payWith 24 = .ok (.iaload, 1) := by decide +kernel
theorem dX5_payWith_25 : decode cX5_payWith 25 = .ok (.ishl, 1) := by decide +kernel
theorem dX5_payWith_26 : decode cX5_payWith 26 = .ok (.if_icmp .ge 73, 3) := by decide +kernel
theorem dX5_payWith_29 : decode cX5_payWith 29 = .ok (.iload 7, 2) := by decide +kernel
theorem dX5_payWith_31 : decode cX5_payWith 31 = .ok (.iload 4, 2) := by decide +kernel
theorem dX5_payWith_33 : decode cX5_payWith 33 = .ok (.iconst (-1), 1) := by decide +kernel
theorem dX5_payWith_34 : decode cX5_payWith 34 = .ok (.ixor, 1) := by decide +kernel
theorem dX5_payWith_35 : decode cX5_payWith 35 = .ok (.iand, 1) := by decide +kernel
theorem dX5_payWith_36 : decode cX5_payWith 36 = .ok (.ifCond .ne 57, 3) := by decide +kernel
theorem dX5_payWith_39 : decode cX5_payWith 39 = .ok (.aload_n 0, 1) := by decide +kernel
theorem dX5_payWith_40 : decode cX5_payWith 40 = .ok (.iload 7, 2) := by decide +kernel
theorem dX5_payWith_42 : decode cX5_payWith 42 = .ok (.iconst 3, 1) := by decide +kernel
theorem dX5_payWith_43 : decode cX5_payWith 43 = .ok (.invokevirtual 144, 3) := by decide +kernel
theorem dX5_payWith_46 : decode cX5_payWith 46 = .ok (.iload_n 1, 1) := by decide +kernel
theorem dX5_payWith_47 : decode cX5_payWith 47 = .ok (.if_icmp .ne 46, 3) := by decide +kernel
theorem dX5_payWith_50 : decode cX5_payWith 50 = .ok (.iload 7, 2) := by decide +kernel
theorem dX5_payWith_52 : decode cX5_payWith 52 = .ok (.iload_n 2, 1) := by decide +kernel
theorem dX5_payWith_53 : decode cX5_payWith 53 = .ok (.iand, 1) := by decide +kernel
theorem dX5_payWith_54 : decode cX5_payWith 54 = .ok (.invokestatic 157, 3) := by decide +kernel
theorem dX5_payWith_57 : decode cX5_payWith 57 = .ok (.istore 8, 2) := by decide +kernel
theorem dX5_payWith_59 : decode cX5_payWith 59 = .ok (.iload 5, 2) := by decide +kernel
theorem dX5_payWith_61 : decode cX5_payWith 61 = .ok (.ifCond .lt 24, 3) := by decide +kernel
theorem dX5_payWith_64 : decode cX5_payWith 64 = .ok (.iload_n 3, 1) := by decide +kernel
theorem dX5_payWith_65 : decode cX5_payWith 65 = .ok (.ifCond .eq 13, 3) := by decide +kernel
theorem dX5_payWith_68 : decode cX5_payWith 68 = .ok (.iload 8, 2) := by decide +kernel
theorem dX5_payWith_70 : decode cX5_payWith 70 = .ok (.iload 6, 2) := by decide +kernel
theorem dX5_payWith_72 : decode cX5_payWith 72 = .ok (.if_icmp .ge 21, 3) := by decide +kernel
theorem dX5_payWith_75 : decode cX5_payWith 75 = .ok (.goto 10, 3) := by decide +kernel
theorem dX5_payWith_78 : decode cX5_payWith 78 = .ok (.iload 8, 2) := by decide +kernel
theorem dX5_payWith_80 : decode cX5_payWith 80 = .ok (.iload 6, 2) := by decide +kernel
theorem dX5_payWith_82 : decode cX5_payWith 82 = .ok (.if_icmp .le 11, 3) := by decide +kernel
theorem dX5_payWith_85 : decode cX5_payWith 85 = .ok (.iload 7, 2) := by decide +kernel
theorem dX5_payWith_87 : decode cX5_payWith 87 = .ok (.istore 5, 2) := by decide +kernel
theorem dX5_payWith_89 : decode cX5_payWith 89 = .ok (.iload 8, 2) := by decide +kernel
theorem dX5_payWith_91 : decode cX5_payWith 91 = .ok (.istore 6, 2) := by decide +kernel
theorem dX5_payWith_93 : decode cX5_payWith 93 = .ok (.iinc 7 1, 3) := by decide +kernel
theorem dX5_payWith_96 : decode cX5_payWith 96 = .ok (.goto (-80), 3) := by decide +kernel
theorem dX5_payWith_99 : decode cX5_payWith 99 = .ok (.iload 5, 2) := by decide +kernel
theorem dX5_payWith_101 : decode cX5_payWith 101 = .ok (.ireturn, 1) := by decide +kernel
theorem dX5_pay_0 : decode cX5_pay 0 = .ok (.iload_n 1, 1) := by decide +kernel
theorem dX5_pay_1 : decode cX5_pay 1 = .ok (.iconst 0, 1) := by decide +kernel
theorem dX5_pay_2 : decode cX5_pay 2 = .ok (.sipush 9999, 3) := by decide +kernel
theorem dX5_pay_5 : decode cX5_pay 5 = .ok (.invokestatic 78, 3) := by decide +kernel
theorem dX5_pay_8 : decode cX5_pay 8 = .ok (.ifCond .ne 10, 3) := by decide +kernel
theorem dX5_pay_11 : decode cX5_pay 11 = .ok (.aload_n 0, 1) := by decide +kernel
theorem dX5_pay_12 : decode cX5_pay 12 = .ok (.ldc 73, 2) := by decide +kernel
theorem dX5_pay_14 : decode cX5_pay 14 = .ok (.invokevirtual 93, 3) := by decide +kernel
theorem dX5_pay_17 : decode cX5_pay 17 = .ok (.ireturn, 1) := by decide +kernel
theorem dX5_pay_18 : decode cX5_pay 18 = .ok (.aload_n 0, 1) := by decide +kernel
theorem dX5_pay_19 : decode cX5_pay 19 = .ok (.iload_n 1, 1) := by decide +kernel
theorem dX5_pay_20 : decode cX5_pay 20 = .ok (.iconst (-1), 1) := by decide +kernel
theorem dX5_pay_21 : decode cX5_pay 21 = .ok (.iconst 1, 1) := by decide +kernel
theorem dX5_pay_22 : decode cX5_pay 22 = .ok (.invokevirtual 209, 3) := by decide +kernel
theorem dX5_pay_25 : decode cX5_pay 25 = .ok (.istore_n 2, 1) := by decide +kernel
theorem dX5_pay_26 : decode cX5_pay 26 = .ok (.iload_n 2, 1) := by decide +kernel
theorem dX5_pay_27 : decode cX5_pay 27 = .ok (.ifCond .ge 12, 3) := by decide +kernel
theorem dX5_pay_30 : decode cX5_pay 30 = .ok (.aload_n 0, 1) := by decide +kernel
theorem dX5_pay_31 : decode cX5_pay 31 = .ok (.ldc 188, 2) := by decide +kernel
theorem dX5_pay_33 : decode cX5_pay 33 = .ok (.invokevirtual 93, 3) := by decide +kernel
theorem dX5_pay_36 : decode cX5_pay 36 = .ok (.goto 4, 3) := by decide +kernel
theorem dX5_pay_39 : decode cX5_pay 39 = .ok (.iload_n 2, 1) := by decide +kernel
theorem dX5_pay_40 : decode cX5_pay 40 = .ok (.ireturn, 1) := by decide +kernel
theorem dX5_small_0 : decode cX5_small 0 = .ok (.iload_n 1, 1) := by decide +kernel
theorem dX5_small_1 : decode cX5_small 1 = .ok (.iconst 0, 1) := by decide +kernel
theorem dX5_small_2 : decode cX5_small 2 = .ok (.sipush 9999, 3) := by decide +kernel
theorem dX5_small_5 : decode cX5_small 5 = .ok (.invokestatic 78, 3) := by decide +kernel
theorem dX5_small_8 : decode cX5_small 8 = .ok (.ifCond .ne 10, 3) := by decide +kernel
theorem dX5_small_11 : decode cX5_small 11 = .ok (.aload_n 0, 1) := by decide +kernel
theorem dX5_small_12 : decode cX5_small 12 = .ok (.ldc 73, 2) := by decide +kernel
theorem dX5_small_14 : decode cX5_small 14 = .ok (.invokevirtual 93, 3) := by decide +kernel
theorem dX5_small_17 : decode cX5_small 17 = .ok (.ireturn, 1) := by decide +kernel
theorem dX5_small_18 : decode cX5_small 18 = .ok (.aload_n 0, 1) := by decide +kernel
theorem dX5_small_19 : decode cX5_small 19 = .ok (.iload_n 1, 1) := by decide +kernel
theorem dX5_small_20 : decode cX5_small 20 = .ok (.aload_n 0, 1) := by decide +kernel
theorem dX5_small_21 : decode cX5_small 21 = .ok (.invokevirtual 213, 3) := by decide +kernel
theorem dX5_small_24 : decode cX5_small 24 = .ok (.iconst 0, 1) := by decide +kernel
theorem dX5_small_25 : decode cX5_small 25 = .ok (.invokevirtual 209, 3) := by decide +kernel
theorem dX5_small_28 : decode cX5_small 28 = .ok (.istore_n 2, 1) := by decide +kernel
theorem dX5_small_29 : decode cX5_small 29 = .ok (.iload_n 2, 1) := by decide +kernel
theorem dX5_small_30 : decode cX5_small 30 = .ok (.ifCond .ge 12, 3) := by decide +kernel
theorem dX5_small_33 : decode cX5_small 33 = .ok (.aload_n 0, 1) := by decide +kernel
theorem dX5_small_34 : decode cX5_small 34 = .ok (.ldc 188, 2) := by decide +kernel
theorem dX5_small_36 : decode cX5_small 36 = .ok (.invokevirtual 93, 3) := by decide +kernel
theorem dX5_small_39 : decode cX5_small 39 = .ok (.goto 4, 3) := by decide +kernel
theorem dX5_small_42 : decode cX5_small 42 = .ok (.iload_n 2, 1) := by decide +kernel
theorem dX5_small_43 : decode cX5_small 43 = .ok (.ireturn, 1) := by decide +kernel
theorem dX5_isSet_0 : decode cX5_isSet 0 = .ok (.iload_n 1, 1) := by decide +kernel
theorem dX5_isSet_1 : decode cX5_isSet 1 = .ok (.iconst 0, 1) := by decide +kernel
theorem dX5_isSet_2 : decode cX5_isSet 2 = .ok (.iconst 1, 1) := by decide +kernel
theorem dX5_isSet_3 : decode cX5_isSet 3 = .ok (.aload_n 0, 1) := by decide +kernel
theorem dX5_isSet_4 : decode cX5_isSet 4 = .ok (.getfield 9, 3) := by decide +kernel
theorem dX5_isSet_7 : decode cX5_isSet 7 = .ok (.iconst 4, 1) := by decide +kernel
theorem dX5_isSet_8 : decode cX5_isSet 8 = .ok (.iaload, 1) := by decide +kernel
theorem dX5_isSet_9 : decode cX5_isSet 9 = .ok (.ishl, 1) := by decide +kernel
theorem dX5_isSet_10 : decode cX5_isSet 10 = .ok (.iconst 1, 1) := by decide +kernel
theorem dX5_isSet_11 : decode cX5_isSet 11 = .ok (.isub, 1) := by decide +kernel
theorem dX5_isSet_12 : decode cX5_isSet 12 = .ok (.invokestatic 78, 3) := by decide +kernel
theorem dX5_isSet_15 : decode cX5_isSet 15 = .ok (.ireturn, 1) := by decide +kernel
theorem dX5_paid_0 : decode cX5_paid 0 = .ok (.aload_n 0, 1) := by decide +kernel
theorem dX5_paid_1 : decode cX5_paid 1 = .ok (.iload_n 1, 1) := by decide +kernel
theorem dX5_paid_2 : decode cX5_paid 2 = .ok (.invokevirtual 216, 3) := by decide +kernel
theorem dX5_paid_5 : decode cX5_paid 5 = .ok (.ifCond .ne 10, 3) := by decide +kernel
theorem dX5_paid_8 : decode cX5_paid 8 = .ok (.aload_n 0, 1) := by decide +kernel
theorem dX5_paid_9 : decode cX5_paid 9 = .ok (.ldc 73, 2) := by decide +kernel
theorem dX5_paid_11 : decode cX5_paid 11 = .ok (.invokevirtual 93, 3) := by decide +kernel
theorem dX5_paid_14 : decode cX5_paid 14 = .ok (.ireturn, 1) := by decide +kernel
theorem dX5_paid_15 : decode cX5_paid 15 = .ok (.iload_n 1, 1) := by decide +kernel
theorem dX5_paid_16 : decode cX5_paid 16 = .ok (.aload_n 0, 1) := by decide +kernel
theorem dX5_paid_17 : decode cX5_paid 17 = .ok (.iconst 0, 1) := by decide +kernel
theorem dX5_paid_18 : decode cX5_paid 18 = .ok (.invokevirtual 141, 3) := by decide +kernel
theorem dX5_paid_21 : decode cX5_paid 21 = .ok (.iconst (-1), 1) := by decide +kernel
theorem dX5_paid_22 : decode cX5_paid 22 = .ok (.ixor, 1) := by decide +kernel
theorem dX5_paid_23 : decode cX5_paid 23 = .ok (.iand, 1) := by decide +kernel
theorem dX5_paid_24 : decode cX5_paid 24 = .ok (.ifCond .eq 10, 3) := by decide +kernel
theorem dX5_paid_27 : decode cX5_paid 27 = .ok (.aload_n 0, 1) := by decide +kernel
theorem dX5_paid_28 : decode cX5_paid 28 = .ok (.ldc 169, 2) := by decide +kernel
theorem dX5_paid_30 : decode cX5_paid 30 = .ok (.invokevirtual 93, 3) := by decide +kernel
theorem dX5_paid_33 : decode cX5_paid 33 = .ok (.ireturn, 1) := by decide +kernel
theorem dX5_paid_34 : decode cX5_paid 34 = .ok (.iconst 0, 1) := by decide +kernel
theorem dX5_paid_35 : decode cX5_paid 35 = .ok (.istore_n 2, 1) := by decide +kernel
theorem dX5_paid_36 : decode cX5_paid 36 = .ok (.iload_n 2, 1) := by decide +kernel
theorem dX5_paid_37 : decode cX5_paid 37 = .ok (.aload_n 0, 1) := by decide +kernel
theorem dX5_paid_38 : decode cX5_paid 38 = .ok (.getfield 9, 3) := by decide +kernel
theorem dX5_paid_41 : decode cX5_paid 41 = .ok (.iconst 4, 1) := by decide +kernel
theorem dX5_paid_42 : decode cX5_paid 42 = .ok (.iaload, 1) := by decide +kernel
theorem dX5_paid_43 : decode cX5_paid 43 = .ok (.if_icmp .ge 24, 3) := by decide +kernel
theorem dX5_paid_46 : decode cX5_paid 46 = .ok (.iload_n 1, 1) := by decide +kernel
theorem dX5_paid_47 : decode cX5_paid 47 = .ok (.iload_n 2, 1) := by decide +kernel
theorem dX5_paid_48 : decode cX5_paid 48 = .ok (.invokestatic 138, 3) := by decide +kernel
theorem dX5_paid_51 : decode cX5_paid 51 = .ok (.ifCond .eq 10, 3) := by decide +kernel
theorem dX5_paid_54 : decode cX5_paid 54 = .ok (.aload_n 0, 1) := by decide +kernel
theorem dX5_paid_55 : decode cX5_paid 55 = .ok (.iload_n 2, 1) := by decide +kernel
theorem dX5_paid_56 : decode cX5_paid 56 = .ok (.iconst 4, 1) := by decide +kernel
theorem dX5_paid_57 : decode cX5_paid 57 = .ok (.invokevirtual 86, 3) := by decide +kernel
theorem dX5_paid_60 : decode cX5_paid 60 = .ok (.istore_n 3, 1) := by decide +kernel
theorem dX5_paid_61 : decode cX5_paid 61 = .ok (.iinc 2 1, 3) := by decide +kernel
theorem dX5_paid_64 : decode cX5_paid 64 = .ok (.goto (-28), 3) := by decide +kernel
theorem dX5_paid_67 : decode cX5_paid 67 = .ok (.aload_n 0, 1) := by decide +kernel
theorem dX5_paid_68 : decode cX5_paid 68 = .ok (.iload_n 1, 1) := by decide +kernel
theorem dX5_paid_69 : decode cX5_paid 69 = .ok (.iconst 3, 1) := by decide +kernel
theorem dX5_paid_70 : decode cX5_paid 70 = .ok (.invokevirtual 144, 3) := by decide +kernel
theorem dX5_paid_73 : decode cX5_paid 73 = .ok (.ireturn, 1) := by decide +kernel
theorem dX5_sums_0 : decode cX5_sums 0 = .ok (.iconst 0, 1) := by decide +kernel
theorem dX5_sums_1 : decode cX5_sums 1 = .ok (.istore_n 1, 1) := by decide +kernel
theorem dX5_sums_2 : decode cX5_sums 2 = .ok (.iload_n 1, 1) := by decide +kernel
theorem dX5_sums_3 : decode cX5_sums 3 = .ok (.sipush 2400, 3) := by decide +kernel
theorem dX5_sums_6 : decode cX5_sums 6 = .ok (.if_icmp .gt 24, 3) := by decide +kernel
theorem dX5_sums_9 : decode cX5_sums 9 = .ok (.aload_n 0, 1) := by decide +kernel
theorem dX5_sums_10 : decode cX5_sums 10 = .ok (.getfield 28, 3) := by decide +kernel
theorem dX5_sums_13 : decode cX5_sums 13 = .ok (.iload_n 1, 1) := by decide +kernel
theorem dX5_sums_14 : decode cX5_sums 14 = .ok (.iload_n 1, 1) := by decide +kernel
theorem dX5_sums_15 : decode cX5_sums 15 = .ok (.ifCond .ne 7, 3) := by decide +kernel
theorem dX5_sums_18 : decode cX5_sums 18 = .ok (.iconst 1, 1) := by decide +kernel
theorem dX5_sums_19 : decode cX5_sums 19 = .ok (.goto 4, 3) := by decide +kernel
theorem dX5_sums_22 : decode cX5_sums 22 = .ok (.iconst 0, 1) := by decide +kernel
theorem dX5_sums_23 : decode cX5_sums 23 = .ok (.bastore, 1) := by decide +kernel
theorem dX5_sums_24 : decode cX5_sums 24 = .ok (.iinc 1 1, 3) := by decide +kernel
theorem dX5_sums_27 : decode cX5_sums 27 = .ok (.goto (-25), 3) := by decide +kernel
theorem dX5_sums_30 : decode cX5_sums 30 = .ok (.iconst 0, 1) := by decide +kernel
theorem dX5_sums_31 : decode cX5_sums 31 = .ok (.istore_n 1, 1) := by decide +kernel
theorem dX5_sums_32 : decode cX5_sums 32 = .ok (.iload_n 1, 1) := by decide +kernel
theorem dX5_sums_33 : decode cX5_sums 33 = .ok (.aload_n 0, 1) := by decide +kernel
theorem dX5_sums_34 : decode cX5_sums 34 = .ok (.getfield 9, 3) := by decide +kernel
theorem dX5_sums_37 : decode cX5_sums 37 = .ok (.iconst 4, 1) := by decide +kernel
theorem dX5_sums_38 : decode cX5_sums 38 = .ok (.iaload, 1) := by decide +kernel
theorem dX5_sums_39 : decode cX5_sums 39 = .ok (.if_icmp .ge 71, 3) := by decide +kernel
theorem dX5_sums_42 : decode cX5_sums 42 = .ok (.aload_n 0, 1) := by decide +kernel
theorem dX5_sums_43 : decode cX5_sums 43 = .ok (.iload_n 1, 1) := by decide +kernel
theorem dX5_sums_44 : decode cX5_sums 44 = .ok (.iconst 3, 1) := by decide +kernel
theorem dX5_sums_45 : decode cX5_sums 45 = .ok (.invokevirtual 105, 3) := by decide +kernel
theorem dX5_sums_48 : decode cX5_sums 48 = .ok (.istore_n 2, 1) := by decide +kernel
theorem dX5_sums_49 : decode cX5_sums 49 = .ok (.sipush 2400, 3) := by decide +kernel
theorem dX5_sums_52 : decode cX5_sums 52 = .ok (.istore_n 3, 1) := by decide +kernel
theorem dX5_sums_53 : decode cX5_sums 53 = .ok (.iload_n 3, 1) := by decide +kernel
theorem dX5_sums_54 : decode cX5_sums 54 = .ok (.iload_n 2, 1) := by decide +kernel
theorem dX5_sums_55 : decode cX5_sums 55 = .ok (.if_icmp .lt 49, 3) := by decide +kernel
theorem dX5_sums_58 : decode cX5_sums 58 = .ok (.aload_n 0, 1) := by decide +kernel
theorem dX5_sums_59 : decode cX5_sums 59 = .ok (.iload_n 1, 1) := by decide +kernel
theorem dX5_sums_60 : decode cX5_sums 60 = .ok (.iconst 0, 1) := by decide +kernel
theorem dX5_sums_61 : decode cX5_sums 61 = .ok (.invokevirtual 135, 3) := by decide +kernel
theorem dX5_sums_64 : decode cX5_sums 64 = .ok (.ifCond .eq 40, 3) := by decide +kernel
theorem dX5_sums_67 : decode cX5_sums 67 = .ok (.aload_n 0, 1) := by decide +kernel
theorem dX5_sums_68 : decode cX5_sums 68 = .ok (.getfield 28, 3) := by decide +kernel
theorem dX5_sums_71 : decode cX5_sums 71 = .ok (.iload_n 3, 1) := by decide +kernel
theorem dX5_sums_72 : decode cX5_sums 72 = .ok (.aload_n 0, 1) := by decide +kernel
theorem dX5_sums_73 : decode cX5_sums 73 = .ok (.getfield 28, 3) := by decide +kernel
theorem dX5_sums_76 : decode cX5_sums 76 = .ok (.iload_n 3, 1) := by decide +kernel
theorem dX5_sums_77 : decode cX5_sums 77 = .ok (.baload, 1) := by decide +kernel
theorem dX5_sums_78 : decode cX5_sums 78 = .ok (.ifCond .ne 14, 3) := by decide +kernel
theorem dX5_sums_81 : decode cX5_sums 81 = .ok (.aload_n 0, 1) := by decide +kernel
theorem dX5_sums_82 : decode cX5_sums 82 = .ok (.getfield 28, 3) := by decide +kernel
theorem dX5_sums_85 : decode cX5_sums 85 = .ok (.iload_n 3, 1) := by decide +kernel
theorem dX5_sums_86 : decode cX5_sums 86 = .ok (.iload_n 2, 1) := by decide +kernel
theorem dX5_sums_87 : decode cX5_sums 87 = .ok (.isub, 1) := by decide +kernel
theorem dX5_sums_88 : decode cX5_sums 88 = .ok (.baload, 1) := by decide +kernel
theorem dX5_sums_89 : decode cX5_sums 89 = .ok (.ifCond .eq 7, 3) := by decide +kernel
theorem dX5_sums_92 : decode cX5_sums 92 = .ok (.iconst 1, 1) := by decide +kernel
theorem dX5_sums_93 : decode cX5_sums 93 = .ok (.goto 4, 3) := by decide +kernel
theorem dX5_sums_96 : decode cX5_sums 96 = .ok (.iconst 0, 1) := by decide +kernel
theorem dX5_sums_97 : decode cX5_sums 97 = .ok (.bastore, 1) := by decide +kernel
theorem dX5_sums_98 : decode cX5_sums 98 = .ok (.iinc 3 (-1), 3) := by decide +kernel
theorem dX5_sums_101 : decode cX5_sums 101 = .ok (.goto (-48), 3) := by decide +kernel
theorem dX5_sums_104 : decode cX5_sums 104 = .ok (.iinc 1 1, 3) := by decide +kernel
theorem dX5_sums_107 : decode cX5_sums 107 = .ok (.goto (-75), 3) := by decide +kernel
theorem dX5_sums_110 : decode cX5_sums 110 = .ok (.iconst 0, 1) := by decide +kernel
theorem dX5_sums_111 : decode cX5_sums 111 = .ok (.istore_n 1, 1) := by decide +kernel
theorem dX5_sums_112 : decode cX5_sums 112 = .ok (.iconst 0, 1) := by decide +kernel
theorem dX5_sums_113 : decode cX5_sums 113 = .ok (.istore_n 2, 1) := by decide +kernel
theorem dX5_sums_114 : decode cX5_sums 114 = .ok (.iload_n 2, 1) := by decide +kernel
theorem dX5_sums_115 : decode cX5_sums 115 = .ok (.sipush 2400, 3) := by decide +kernel
theorem dX5_sums_118 : decode cX5_sums 118 = .ok (.if_icmp .gt 26, 3) := by decide +kernel
theorem dX5_sums_121 : decode cX5_sums 121 = .ok (.iload_n 1, 1) := by decide +kernel
theorem dX5_sums_122 : decode cX5_sums 122 = .ok (.aload_n 0, 1) := by decide +kernel
theorem dX5_sums_123 : decode cX5_sums 123 = .ok (.getfield 28, 3) := by decide +kernel
theorem dX5_sums_126 : decode cX5_sums 126 = .ok (.iload_n 2, 1) := by decide +kernel
theorem dX5_sums_127 : decode cX5_sums 127 = .ok (.baload, 1) := by decide +kernel
theorem dX5_sums_128 : decode cX5_sums 128 = .ok (.ifCond .eq 7, 3) := by decide +kernel
theorem dX5_sums_131 : decode cX5_sums 131 = .ok (.iconst 1, 1) := by decide +kernel
theorem dX5_sums_132 : decode cX5_sums 132 = .ok (.goto 4, 3) := by decide +kernel
theorem dX5_sums_135 : decode cX5_sums 135 = .ok (.iconst 0, 1) := by decide +kernel
theorem dX5_sums_136 : decode cX5_sums 136 = .ok (.iadd, 1) := by decide +kernel
theorem dX5_sums_137 : decode cX5_sums 137 = .ok (.istore_n 1, 1) := by decide +kernel
theorem dX5_sums_138 : decode cX5_sums 138 = .ok (.iinc 2 1, 3) := by decide +kernel
theorem dX5_sums_141 : decode cX5_sums 141 = .ok (.goto (-27), 3) := by decide +kernel
theorem dX5_sums_144 : decode cX5_sums 144 = .ok (.iload_n 1, 1) := by decide +kernel
theorem dX5_sums_145 : decode cX5_sums 145 = .ok (.ireturn, 1) := by decide +kernel
theorem dX5_holesFor_0 : decode cX5_holesFor 0 = .ok (.aload_n 0, 1) := by decide +kernel
theorem dX5_holesFor_1 : decode cX5_holesFor 1 = .ok (.getfield 9, 3) := by decide +kernel
theorem dX5_holesFor_4 : decode cX5_holesFor 4 = .ok (.aload_n 0, 1) := by decide +kernel
theorem dX5_holesFor_5 : decode cX5_holesFor 5 = .ok (.getfield 16, 3) := by decide +kernel
theorem dX5_holesFor_8 : decode cX5_holesFor 8 = .ok (.invokestatic 74, 3) := by decide +kernel
theorem dX5_holesFor_11 : decode cX5_holesFor 11 = .ok (.aload_n 0, 1) := by decide +kernel
theorem dX5_holesFor_12 : decode cX5_holesFor 12 = .ok (.iconst 0, 1) := by decide +kernel
theorem dX5_holesFor_13 : decode cX5_holesFor 13 = .ok (.invokevirtual 141, 3) := by decide +kernel
theorem dX5_holesFor_16 : decode cX5_holesFor 16 = .ok (.istore_n 3, 1) := by decide +kernel
theorem dX5_holesFor_17 : decode cX5_holesFor 17 = .ok (.aload_n 0, 1) := by decide +kernel
theorem dX5_holesFor_18 : decode cX5_holesFor 18 = .ok (.iconst (-1), 1) := by decide +kernel
theorem dX5_holesFor_19 : decode cX5_holesFor 19 = .ok (.putfield 219, 3) := by decide +kernel
theorem dX5_holesFor_22 : decode cX5_holesFor 22 = .ok (.iconst 0, 1) := by decide +kernel
theorem dX5_holesFor_23 : decode cX5_holesFor 23 = .ok (.istore 4, 2) := by decide +kernel
theorem dX5_holesFor_25 : decode cX5_holesFor 25 = .ok (.bipush 99, 2) := by decide +kernel
theorem dX5_holesFor_27 : decode cX5_holesFor 27 = .ok (.istore 5, 2) := by decide +kernel
theorem dX5_holesFor_29 : decode cX5_holesFor 29 = .ok (.iload 5, 2) := by decide +kernel
theorem dX5_holesFor_31 : decode cX5_holesFor 31 = .ok (.ifCond .lt 62, 3) := by decide +kernel
theorem dX5_holesFor_34 : decode cX5_holesFor 34 = .ok (.aload_n 0, 1) := by decide +kernel
theorem dX5_holesFor_35 : decode cX5_holesFor 35 = .ok (.getfield 9, 3) := by decide +kernel
theorem dX5_holesFor_38 : decode cX5_holesFor 38 = .ok (.iconst 1, 1) := by decide +kernel
theorem dX5_holesFor_39 : decode cX5_holesFor 39 = .ok (.iload 5, 2) := by decide +kernel
theorem dX5_holesFor_41 : decode cX5_holesFor 41 = .ok (.iastore, 1) := by decide +kernel
theorem dX5_holesFor_42 : decode cX5_holesFor 42 = .ok (.aload_n 0, 1) := by decide +kernel
theorem dX5_holesFor_43 : decode cX5_holesFor 43 = .ok (.iload_n 2, 1) := by decide +kernel
theorem dX5_holesFor_44 : decode cX5_holesFor 44 = .ok (.invokevirtual 170, 3) := by decide +kernel
theorem dX5_holesFor_47 : decode cX5_holesFor 47 = .ok (.istore 6, 2) := by decide +kernel
theorem dX5_holesFor_49 : decode cX5_holesFor 49 = .ok (.iload 6, 2) := by decide +kernel
theorem dX5_holesFor_51 : decode cX5_holesFor 51 = .ok (.ifCond .lt 25, 3) := by decide +kernel
theorem dX5_holesFor_54 : decode cX5_holesFor 54 = .ok (.iload_n 3, 1) := by decide +kernel
theorem dX5_holesFor_55 : decode cX5_holesFor 55 = .ok (.aload_n 0, 1) := by decide +kernel
theorem dX5_holesFor_56 : decode cX5_holesFor 56 = .ok (.iconst 0, 1) := by decide +kernel
theorem dX5_holesFor_57 : decode cX5_holesFor 57 = .ok (.invokevirtual 141, 3) := by decide +kernel
theorem dX5_holesFor_60 : decode cX5_holesFor 60 = .ok (.iconst (-1), 1) := by decide +kernel
theorem dX5_holesFor_61 : decode cX5_holesFor 61 = .ok (.ixor, 1) := by decide +kernel
theorem dX5_holesFor_62 : decode cX5_holesFor 62 = .ok (.iand, 1) := by decide +kernel
theorem dX5_holesFor_63 : decode cX5_holesFor 63 = .ok (.iload_n 1, 1) := by decide +kernel
theorem dX5_holesFor_64 : decode cX5_holesFor 64 = .ok (.if_icmp .ne 12, 3) := by decide +kernel
theorem dX5_holesFor_67 : decode cX5_holesFor 67 = .ok (.iinc 4 1, 3) := by decide +kernel
theorem dX5_holesFor_70 : decode cX5_holesFor 70 = .ok (.aload_n 0, 1) := by decide +kernel
theorem dX5_holesFor_71 : decode cX5_holesFor 71 = .ok (.iload 5, 2) := by decide +kernel
theorem dX5_holesFor_73 : decode cX5_holesFor 73 = .ok (.putfield 219, 3) := by decide +kernel
theorem dX5_holesFor_76 : decode cX5_holesFor 76 = .ok (.aload_n 0, 1) := by decide +kernel
theorem dX5_holesFor_77 : decode cX5_holesFor 77 = .ok (.getfield 16, 3) := by decide +kernel
theorem dX5_holesFor_80 : decode cX5_holesFor 80 = .ok (.aload_n 0, 1) := by decide +kernel
theorem dX5_holesFor_81 : decode cX5_holesFor 81 = .ok (.getfield 9, 3) := by decide +kernel
theorem dX5_holesFor_84 : decode cX5_holesFor 84 = .ok (.invokestatic 74, 3) := by decide +kernel
theorem dX5_holesFor_87 : decode cX5_holesFor 87 = .ok (.iinc 5 (-1), 3) := by decide +kernel
theorem dX5_holesFor_90 : decode cX5_holesFor 90 = .ok (.goto (-61), 3) := by decide +kernel
theorem dX5_holesFor_93 : decode cX5_holesFor 93 = .ok (.iload 4, 2) := by decide +kernel
theorem dX5_holesFor_95 : decode cX5_holesFor 95 = .ok (.ireturn, 1) := by decide +kernel
theorem dX5_fits_0 : decode cX5_fits 0 = .ok (.aload_n 0, 1) := by decide +kernel
theorem dX5_fits_1 : decode cX5_fits 1 = .ok (.aload_n 0, 1) := by decide +kernel
theorem dX5_fits_2 : decode cX5_fits 2 = .ok (.iload_n 1, 1) := by decide +kernel
theorem dX5_fits_3 : decode cX5_fits 3 = .ok (.invokevirtual 216, 3) := by decide +kernel
theorem dX5_fits_6 : decode cX5_fits 6 = .ok (.iload_n 2, 1) := by decide +kernel
theorem dX5_fits_7 : decode cX5_fits 7 = .ok (.bipush 60, 2) := by decide +kernel
theorem dX5_fits_9 : decode cX5_fits 9 = .ok (.invokevirtual 192, 3) := by decide +kernel
theorem dX5_fits_12 : decode cX5_fits 12 = .ok (.istore_n 3, 1) := by decide +kernel
theorem dX5_fits_13 : decode cX5_fits 13 = .ok (.iload_n 3, 1) := by decide +kernel
theorem dX5_fits_14 : decode cX5_fits 14 = .ok (.ifCond .eq 11, 3) := by decide +kernel
theorem dX5_fits_17 : decode cX5_fits 17 = .ok (.aload_n 0, 1) := by decide +kernel
theorem dX5_fits_18 : decode cX5_fits 18 = .ok (.iload_n 3, 1) := by decide +kernel
theorem dX5_fits_19 : decode cX5_fits 19 = .ok (.invokevirtual 93, 3) := by decide +kernel
theorem dX5_fits_22 : decode cX5_fits 22 = .ok (.goto 9, 3) := by decide +kernel
theorem dX5_fits_25 : decode cX5_fits 25 = .ok (.aload_n 0, 1) := by decide +kernel
theorem dX5_fits_26 : decode cX5_fits 26 = .ok (.iload_n 1, 1) := by decide +kernel
theorem dX5_fits_27 : decode cX5_fits 27 = .ok (.iload_n 2, 1) := by decide +kernel
theorem dX5_fits_28 : decode cX5_fits 28 = .ok (.invokevirtual 222, 3) := by decide +kernel
theorem dX5_fits_31 : decode cX5_fits 31 = .ok (.ireturn, 1) := by decide +kernel
theorem dX5_size_0 : decode cX5_size 0 = .ok (.aload_n 0, 1) := by decide +kernel
theorem dX5_size_1 : decode cX5_size 1 = .ok (.aload_n 0, 1) := by decide +kernel
theorem dX5_size_2 : decode cX5_size 2 = .ok (.iload_n 1, 1) := by decide +kernel
theorem dX5_size_3 : decode cX5_size 3 = .ok (.invokevirtual 216, 3) := by decide +kernel
theorem dX5_size_6 : decode cX5_size 6 = .ok (.iload_n 2, 1) := by decide +kernel
theorem dX5_size_7 : decode cX5_size 7 = .ok (.bipush 60, 2) := by decide +kernel
theorem dX5_size_9 : decode cX5_size 9 = .ok (.invokevirtual 192, 3) := by decide +kernel
theorem dX5_size_12 : decode cX5_size 12 = .ok (.istore_n 3, 1) := by decide +kernel
theorem dX5_size_13 : decode cX5_size 13 = .ok (.iload_n 3, 1) := by decide +kernel
theorem dX5_size_14 : decode cX5_size 14 = .ok (.ifCond .eq 9, 3) := by decide +kernel
theorem dX5_size_17 : decode cX5_size 17 = .ok (.aload_n 0, 1) := by decide +kernel
theorem dX5_size_18 : decode cX5_size 18 = .ok (.iload_n 3, 1) := by decide +kernel
theorem dX5_size_19 : decode cX5_size 19 = .ok (.invokevirtual 93, 3) := by decide +kernel
theorem dX5_size_22 : decode cX5_size 22 = .ok (.ireturn, 1) := by decide +kernel
theorem dX5_size_23 : decode cX5_size 23 = .ok (.aload_n 0, 1) := by decide +kernel
theorem dX5_size_24 : decode cX5_size 24 = .ok (.iload_n 1, 1) := by decide +kernel
theorem dX5_size_25 : decode cX5_size 25 = .ok (.iload_n 2, 1) := by decide +kernel
theorem dX5_size_26 : decode cX5_size 26 = .ok (.invokevirtual 222, 3) := by decide +kernel
theorem dX5_size_29 : decode cX5_size 29 = .ok (.ifCond .ne 12, 3) := by decide +kernel
theorem dX5_size_32 : decode cX5_size 32 = .ok (.aload_n 0, 1) := by decide +kernel
theorem dX5_size_33 : decode cX5_size 33 = .ok (.ldc 188, 2) := by decide +kernel
theorem dX5_size_35 : decode cX5_size 35 = .ok (.invokevirtual 93, 3) := by decide +kernel
theorem dX5_size_38 : decode cX5_size 38 = .ok (.goto 7, 3) := by decide +kernel
theorem dX5_size_41 : decode cX5_size 41 = .ok (.aload_n 0, 1) := by decide +kernel
theorem dX5_size_42 : decode cX5_size 42 = .ok (.getfield 219, 3) := by decide +kernel
theorem dX5_size_45 : decode cX5_size 45 = .ok (.ireturn, 1) := by decide +kernel
theorem dX5_began_0 : decode cX5_began 0 = .ok (.aload_n 0, 1) := by decide +kernel
theorem dX5_began_1 : decode cX5_began 1 = .ok (.iload_n 1, 1) := by decide +kernel
theorem dX5_began_2 : decode cX5_began 2 = .ok (.invokevirtual 216, 3) := by decide +kernel
theorem dX5_began_5 : decode cX5_began 5 = .ok (.ifCond .ne 10, 3) := by decide +kernel
theorem dX5_began_8 : decode cX5_began 8 = .ok (.aload_n 0, 1) := by decide +kernel
theorem dX5_began_9 : decode cX5_began 9 = .ok (.ldc 73, 2) := by decide +kernel
theorem dX5_began_11 : decode cX5_began 11 = .ok (.invokevirtual 93, 3) := by decide +kernel
theorem dX5_began_14 : decode cX5_began 14 = .ok (.ireturn, 1) := by decide +kernel
theorem dX5_began_15 : decode cX5_began 15 = .ok (.aload_n 0, 1) := by decide +kernel
theorem dX5_began_16 : decode cX5_began 16 = .ok (.bipush 30, 2) := by decide +kernel
theorem dX5_began_18 : decode cX5_began 18 = .ok (.invokevirtual 166, 3) := by decide +kernel
theorem dX5_began_21 : decode cX5_began 21 = .ok (.ifCond .eq 10, 3) := by decide +kernel
theorem dX5_began_24 : decode cX5_began 24 = .ok (.aload_n 0, 1) := by decide +kernel
theorem dX5_began_25 : decode cX5_began 25 = .ok (.ldc 169, 2) := by decide +kernel
theorem dX5_began_27 : decode cX5_began 27 = .ok (.invokevirtual 93, 3) := by decide +kernel
theorem dX5_began_30 : decode cX5_began 30 = .ok (.ireturn, 1) := by decide +kernel
theorem dX5_began_31 : decode cX5_began 31 = .ok (.aload_n 0, 1) := by decide +kernel
theorem dX5_began_32 : decode cX5_began 32 = .ok (.getfield 9, 3) := by decide +kernel
theorem dX5_began_35 : decode cX5_began 35 = .ok (.aload_n 0, 1) := by decide +kernel
theorem dX5_began_36 : decode cX5_began 36 = .ok (.getfield 16, 3) := by decide +kernel
theorem dX5_began_39 : decode cX5_began 39 = .ok (.invokestatic 74, 3) := by decide +kernel
theorem dX5_began_42 : decode cX5_began 42 = .ok (.aload_n 0, 1) := by decide +kernel
theorem dX5_began_43 : decode cX5_began 43 = .ok (.iconst 0, 1) := by decide +kernel
theorem dX5_began_44 : decode cX5_began 44 = .ok (.invokevirtual 141, 3) := by decide +kernel
theorem dX5_began_47 : decode cX5_began 47 = .ok (.istore_n 2, 1) := by decide +kernel
theorem dX5_began_48 : decode cX5_began 48 = .ok (.iconst 0, 1) := by decide +kernel
theorem dX5_began_49 : decode cX5_began 49 = .ok (.istore_n 3, 1) := by decide +kernel
theorem dX5_began_50 : decode cX5_began 50 = .ok (.iconst 1, 1) := by decide +kernel
theorem dX5_began_51 : decode cX5_began 51 = .ok (.istore 4, 2) := by decide +kernel
theorem dX5_began_53 : decode cX5_began 53 = .ok (.iload 4, 2) := by decide +kernel
theorem dX5_began_55 : decode cX5_began 55 = .ok (.bipush 30, 2) := by decide +kernel
theorem dX5_began_57 : decode cX5_began 57 = .ok (.if_icmp .gt 45, 3) := by decide +kernel
theorem dX5_began_60 : decode cX5_began 60 = .ok (.aload_n 0, 1) := by decide +kernel
theorem dX5_began_61 : decode cX5_began 61 = .ok (.iconst 1, 1) := by decide +kernel
theorem dX5_began_62 : decode cX5_began 62 = .ok (.invokevirtual 170, 3) := by decide +kernel
theorem dX5_began_65 : decode cX5_began 65 = .ok (.istore 5, 2) := by decide +kernel
theorem dX5_began_67 : decode cX5_began 67 = .ok (.iload_n 3, 1) := by decide +kernel
theorem dX5_began_68 : decode cX5_began 68 = .ok (.iload 5, 2) := by decide +kernel
theorem dX5_began_70 : decode cX5_began 70 = .ok (.ifCond .lt 23, 3) := by decide +kernel
theorem dX5_began_73 : decode cX5_began 73 = .ok (.iload_n 2, 1) := by decide +kernel
theorem dX5_began_74 : decode cX5_began 74 = .ok (.aload_n 0, 1) := by decide +kernel
theorem dX5_began_75 : decode cX5_began 75 = .ok (.iconst 0, 1) := by decide +kernel
theorem dX5_began_76 : decode cX5_began 76 = .ok (.invokevirtual 141, 3) := by decide +kernel
theorem dX5_began_79 : decode cX5_began 79 = .ok (.iconst (-1), 1) := by decide +kernel
theorem dX5_began_80 : decode cX5_began 80 = .ok (.ixor, 1) := by decide +kernel
theorem dX5_began_81 : decode cX5_began 81 = .ok (.iand, 1) := by decide +kernel
theorem dX5_began_82 : decode cX5_began 82 = .ok (.iload_n 1, 1) := by decide +kernel
theorem dX5_began_83 : decode cX5_began 83 = .ok (.if_icmp .ne 10, 3) := by decide +kernel
theorem dX5_began_86 : decode cX5_began 86 = .ok (.iconst 1, 1) := by decide +kernel
theorem dX5_began_87 : decode cX5_began 87 = .ok (.iload 4, 2) := by decide +kernel
theorem dX5_began_89 : decode cX5_began 89 = .ok (.ishl, 1) := by decide +kernel
theorem dX5_began_90 : decode cX5_began 90 = .ok (.goto 4, 3) := by decide +kernel
theorem dX5_began_93 : decode cX5_began 93 = .ok (.iconst 0, 1) := by decide +kernel
theorem dX5_began_94 : decode cX5_began 94 = .ok (.ior, 1) := by decide +kernel
theorem dX5_began_95 : decode cX5_began 95 = .ok (.istore_n 3, 1) := by decide +kernel
theorem dX5_began_96 : decode cX5_began 96 = .ok (.iinc 4 1, 3) := by decide +kernel
theorem dX5_began_99 : decode cX5_began 99 = .ok (.goto (-46), 3) := by decide +kernel
theorem dX5_began_102 : decode cX5_began 102 = .ok (.aload_n 0, 1) := by decide +kernel
theorem dX5_began_103 : decode cX5_began 103 = .ok (.iload_n 3, 1) := by decide +kernel
theorem dX5_began_104 : decode cX5_began 104 = .ok (.invokevirtual 177, 3) := by decide +kernel
theorem dX5_began_107 : decode cX5_began 107 = .ok (.ireturn, 1) := by decide +kernel
theorem dX5_boy_0 : decode cX5_boy 0 = .ok (.aload_n 0, 1) := by decide +kernel
theorem dX5_boy_1 : decode cX5_boy 1 = .ok (.aload_n 0, 1) := by decide +kernel
theorem dX5_boy_2 : decode cX5_boy 2 = .ok (.iload_n 1, 1) := by decide +kernel
theorem dX5_boy_3 : decode cX5_boy 3 = .ok (.invokevirtual 216, 3) := by decide +kernel
theorem dX5_boy_6 : decode cX5_boy 6 = .ok (.iload_n 2, 1) := by decide +kernel
theorem dX5_boy_7 : decode cX5_boy 7 = .ok (.bipush 60, 2) := by decide +kernel
theorem dX5_boy_9 : decode cX5_boy 9 = .ok (.invokevirtual 192, 3) := by decide +kernel
theorem dX5_boy_12 : decode cX5_boy 12 = .ok (.istore_n 3, 1) := by decide +kernel
theorem dX5_boy_13 : decode cX5_boy 13 = .ok (.iload_n 3, 1) := by decide +kernel
theorem dX5_boy_14 : decode cX5_boy 14 = .ok (.ifCond .eq 9, 3) := by decide +kernel
theorem dX5_boy_17 : decode cX5_boy 17 = .ok (.aload_n 0, 1) := by decide +kernel
theorem dX5_boy_18 : decode cX5_boy 18 = .ok (.iload_n 3, 1) := by decide +kernel
theorem dX5_boy_19 : decode cX5_boy 19 = .ok (.invokevirtual 93, 3) := by decide +kernel
theorem dX5_boy_22 : decode cX5_boy 22 = .ok (.ireturn, 1) := by decide +kernel
theorem dX5_boy_23 : decode cX5_boy 23 = .ok (.aload_n 0, 1) := by decide +kernel
theorem dX5_boy_24 : decode cX5_boy 24 = .ok (.iload_n 1, 1) := by decide +kernel
theorem dX5_boy_25 : decode cX5_boy 25 = .ok (.iload_n 2, 1) := by decide +kernel
theorem dX5_boy_26 : decode cX5_boy 26 = .ok (.invokevirtual 222, 3) := by decide +kernel
theorem dX5_boy_29 : decode cX5_boy 29 = .ok (.ifCond .le 5, 3) := by decide +kernel
theorem dX5_boy_32 : decode cX5_boy 32 = .ok (.iconst 1, 1) := by decide +kernel
theorem dX5_boy_33 : decode cX5_boy 33 = .ok (.ireturn, 1) := by decide +kernel
theorem dX5_boy_34 : decode cX5_boy 34 = .ok (.iconst 0, 1) := by decide +kernel
theorem dX5_boy_35 : decode cX5_boy 35 = .ok (.istore 4, 2) := by decide +kernel
theorem dX5_boy_37 : decode cX5_boy 37 = .ok (.iconst 0, 1) := by decide +kernel
theorem dX5_boy_38 : decode cX5_boy 38 = .ok (.istore 5, 2) := by decide +kernel
theorem dX5_boy_40 : decode cX5_boy 40 = .ok (.iload 5, 2) := by decide +kernel
theorem dX5_boy_42 : decode cX5_boy 42 = .ok (.aload_n 0, 1) := by decide +kernel
theorem dX5_boy_43 : decode cX5_boy 43 = .ok (.getfield 9, 3) := by decide +kernel
theorem dX5_boy_46 : decode cX5_boy 46 = .ok (.iconst 4, 1) := by decide +kernel
theorem dX5_boy_47 : decode cX5_boy 47 = .ok (.iaload, 1) := by decide +kernel
theorem dX5_boy_48 : decode cX5_boy 48 = .ok (.if_icmp .ge 31, 3) := by decide +kernel
theorem dX5_boy_51 : decode cX5_boy 51 = .ok (.aload_n 0, 1) := by decide +kernel
theorem dX5_boy_52 : decode cX5_boy 52 = .ok (.iload_n 1, 1) := by decide +kernel
theorem dX5_boy_53 : decode cX5_boy 53 = .ok (.iconst 1, 1) := by decide +kernel
theorem dX5_boy_54 : decode cX5_boy 54 = .ok (.iload 5, 2) := by decide +kernel
theorem dX5_boy_56 : decode cX5_boy 56 = .ok (.ishl, 1) := by decide +kernel
theorem dX5_boy_57 : decode cX5_boy 57 = .ok (.ixor, 1) := by decide +kernel
theorem dX5_boy_58 : decode cX5_boy 58 = .ok (.iload_n 2, 1) := by decide +kernel
theorem dX5_boy_59 : decode cX5_boy 59 = .ok (.invokevirtual 222, 3) := by decide +kernel
theorem dX5_boy_62 : decode cX5_boy 62 = .ok (.ifCond .le 7, 3) := by decide +kernel
theorem dX5_boy_65 : decode cX5_boy 65 = .ok (.iconst 2, 1) := by decide +kernel
theorem dX5_boy_66 : decode cX5_boy 66 = .ok (.goto 5, 3) := by decide +kernel
theorem dX5_boy_69 : decode cX5_boy 69 = .ok (.iload 4, 2) := by decide +kernel
theorem dX5_boy_71 : decode cX5_boy 71 = .ok (.istore 4, 2) := by decide +kernel
theorem dX5_boy_73 : decode cX5_boy 73 = .ok (.iinc 5 1, 3) := by decide +kernel
theorem dX5_boy_76 : decode cX5_boy 76 = .ok (.goto (-36), 3) := by decide +kernel
theorem dX5_boy_79 : decode cX5_boy 79 = .ok (.iload 4, 2) := by decide +kernel
theorem dX5_boy_81 : decode cX5_boy 81 = .ok (.ireturn, 1) := by decide +kernel
theorem dX5_lining_0 : decode cX5_lining 0 = .ok (.iload_n 1, 1) := by decide +kernel
theorem dX5_lining_1 : decode cX5_lining 1 = .ok (.iconst 0, 1) := by decide +kernel
theorem dX5_lining_2 : decode cX5_lining 2 = .ok (.sipush 500, 3) := by decide +kernel
theorem dX5_lining_5 : decode cX5_lining 5 = .ok (.invokestatic 78, 3) := by decide +kernel
theorem dX5_lining_8 : decode cX5_lining 8 = .ok (.ifCond .ne 10, 3) := by decide +kernel
theorem dX5_lining_11 : decode cX5_lining 11 = .ok (.aload_n 0, 1) := by decide +kernel
theorem dX5_lining_12 : decode cX5_lining 12 = .ok (.ldc 73, 2) := by decide +kernel
theorem dX5_lining_14 : decode cX5_lining 14 = .ok (.invokevirtual 93, 3) := by decide +kernel
theorem dX5_lining_17 : decode cX5_lining 17 = .ok (.ireturn, 1) := by decide +kernel
theorem dX5_lining_18 : decode cX5_lining 18 = .ok (.aload_n 0, 1) := by decide +kernel
theorem dX5_lining_19 : decode cX5_lining 19 = .ok (.iconst 0, 1) := by decide +kernel
theorem dX5_lining_20 : decode cX5_lining 20 = .ok (.invokevirtual 141, 3) := by decide +kernel
theorem dX5_lining_23 : decode cX5_lining 23 = .ok (.aload_n 0, 1) := by decide +kernel
theorem dX5_lining_24 : decode cX5_lining 24 = .ok (.iconst 1, 1) := by decide +kernel
theorem dX5_lining_25 : decode cX5_lining 25 = .ok (.invokevirtual 141, 3) := by decide +kernel
theorem dX5_lining_28 : decode cX5_lining 28 = .ok (.ior, 1) := by decide +kernel
theorem dX5_lining_29 : decode cX5_lining 29 = .ok (.aload_n 0, 1) := by decide +kernel
theorem dX5_lining_30 : decode cX5_lining 30 = .ok (.iconst 3, 1) := by decide +kernel
theorem dX5_lining_31 : decode cX5_lining 31 = .ok (.invokevirtual 141, 3) := by decide +kernel
theorem dX5_lining_34 : decode cX5_lining 34 = .ok (.ior, 1) := by decide +kernel
theorem dX5_lining_35 : decode cX5_lining 35 = .ok (.istore_n 2, 1) := by decide +kernel
theorem dX5_lining_36 : decode cX5_lining 36 = .ok (.iconst 0, 1) := by decide +kernel
theorem dX5_lining_37 : decode cX5_lining 37 = .ok (.istore_n 3, 1) := by decide +kernel
theorem dX5_lining_38 : decode cX5_lining 38 = .ok (.iconst 0, 1) := by decide +kernel
theorem dX5_lining_39 : decode cX5_lining 39 = .ok (.istore 4, 2) := by decide +kernel
theorem dX5_lining_41 : decode cX5_lining 41 = .ok (.iload 4, 2) := by decide +kernel
theorem dX5_lining_43 : decode cX5_lining 43 = .ok (.iconst 1, 1) := by decide +kernel
theorem dX5_lining_44 : decode cX5_lining 44 = .ok (.aload_n 0, 1) := by decide +kernel
theorem dX5_lining_45 : decode cX5_lining 45 = .ok (.getfield 9, 3) := by decide +kernel
theorem dX5_lining_48 : decode cX5_lining 48 = .ok (.iconst 4, 1) := by decide +kernel
theorem dX5_lining_49 : decode cX5_lining 49 = .ok (.iaload, 1) := by decide +kernel
theorem dX5_lining_50 : decode cX5_lining 50 = .ok (.ishl, 1) := by decide +kernel
theorem dX5_lining_51 : decode cX5_lining 51 = .ok (.if_icmp .ge 37, 3) := by decide +kernel
theorem dX5_lining_54 : decode cX5_lining 54 = .ok (.iload_n 3, 1) := by decide +kernel
theorem dX5_lining_55 : decode cX5_lining 55 = .ok (.iload 4, 2) := by decide +kernel
theorem dX5_lining_57 : decode cX5_lining 57 = .ok (.iload_n 2, 1) := by decide +kernel
theorem dX5_lining_58 : decode cX5_lining 58 = .ok (.iconst (-1), 1) := by decide +kernel
theorem dX5_lining_59 : decode cX5_lining 59 = .ok (.ixor, 1) := by decide +kernel
theorem dX5_lining_60 : decode cX5_lining 60 = .ok (.iand, 1) := by decide +kernel
theorem dX5_lining_61 : decode cX5_lining 61 = .ok (.ifCond .ne 18, 3) := by decide +kernel
theorem dX5_lining_64 : decode cX5_lining 64 = .ok (.aload_n 0, 1) := by decide +kernel
theorem dX5_lining_65 : decode cX5_lining 65 = .ok (.iload 4, 2) := by decide +kernel
theorem dX5_lining_67 : decode cX5_lining 67 = .ok (.iconst 2, 1) := by decide +kernel
theorem dX5_lining_68 : decode cX5_lining 68 = .ok (.invokevirtual 144, 3) := by decide +kernel
theorem dX5_lining_71 : decode cX5_lining 71 = .ok (.iload_n 1, 1) := by decide +kernel
theorem dX5_lining_72 : decode cX5_lining 72 = .ok (.if_icmp .ne 7, 3) := by decide +kernel
theorem dX5_lining_75 : decode cX5_lining 75 = .ok (.iconst 1, 1) := by decide +kernel
theorem dX5_lining_76 : decode cX5_lining 76 = .ok (.goto 4, 3) := by decide +kernel
theorem dX5_lining_79 : decode cX5_lining 79 = .ok (.iconst 0, 1) := by decide +kernel
theorem dX5_lining_80 : decode cX5_lining 80 = .ok (.iadd, 1) := by decide +kernel
theorem dX5_lining_81 : decode cX5_lining 81 = .ok (.istore_n 3, 1) := by decide +kernel
theorem dX5_lining_82 : decode cX5_lining 82 = .ok (.iinc 4 1, 3) := by decide +kernel
theorem dX5_lining_85 : decode cX5_lining 85 = .ok (.goto (-44), 3) := by decide +kernel
theorem dX5_lining_88 : decode cX5_lining 88 = .ok (.iload_n 3, 1) := by decide +kernel
theorem dX5_lining_89 : decode cX5_lining 89 = .ok (.ireturn, 1) := by decide +kernel
theorem dX5_hasFallen_0 : decode cX5_hasFallen 0 = .ok (.aload_n 0, 1) := by decide +kernel
theorem dX5_hasFallen_1 : decode cX5_hasFallen 1 = .ok (.iload_n 1, 1) := by decide +kernel
theorem dX5_hasFallen_2 : decode cX5_hasFallen 2 = .ok (.iconst 2, 1) := by decide +kernel
theorem dX5_hasFallen_3 : decode cX5_hasFallen 3 = .ok (.invokevirtual 135, 3) := by decide +kernel
theorem dX5_hasFallen_6 : decode cX5_hasFallen 6 = .ok (.ifCond .eq 17, 3) := by decide +kernel
theorem dX5_hasFallen_9 : decode cX5_hasFallen 9 = .ok (.aload_n 0, 1) := by decide +kernel
theorem dX5_hasFallen_10 : decode cX5_hasFallen 10 = .ok (.iload_n 1, 1) := by decide +kernel
theorem dX5_hasFallen_11 : decode cX5_hasFallen 11 = .ok (.bipush 7, 2) := by decide +kernel
theorem dX5_hasFallen_13 : decode cX5_hasFallen 13 = .ok (.invokevirtual 105, 3) := by decide +kernel
theorem dX5_hasFallen_16 : decode cX5_hasFallen 16 = .ok (.ifCond .lt 7, 3) := by decide +kernel
theorem dX5_hasFallen_19 : decode cX5_hasFallen 19 = .ok (.iconst 1, 1) := by decide +kernel
theorem dX5_hasFallen_20 : decode cX5_hasFallen 20 = .ok (.goto 4, 3) := by decide +kernel
theorem dX5_hasFallen_23 : decode cX5_hasFallen 23 = .ok (.iconst 0, 1) := by decide +kernel
theorem dX5_hasFallen_24 : decode cX5_hasFallen 24 = .ok (.ireturn, 1) := by decide +kernel
theorem dX5_backCell_0 : decode cX5_backCell 0 = .ok (.aload_n 0, 1) := by decide +kernel
theorem dX5_backCell_1 : decode cX5_backCell 1 = .ok (.getfield 9, 3) := by decide +kernel
theorem dX5_backCell_4 : decode cX5_backCell 4 = .ok (.iconst 0, 1) := by decide +kernel
theorem dX5_backCell_5 : decode cX5_backCell 5 = .ok (.iaload, 1) := by decide +kernel
theorem dX5_backCell_6 : decode cX5_backCell 6 = .ok (.iconst 1, 1) := by decide +kernel
theorem dX5_backCell_7 : decode cX5_backCell 7 = .ok (.isub, 1) := by decide +kernel
theorem dX5_backCell_8 : decode cX5_backCell 8 = .ok (.aload_n 0, 1) := by decide +kernel
theorem dX5_backCell_9 : decode cX5_backCell 9 = .ok (.iload_n 1, 1) := by decide +kernel
theorem dX5_backCell_10 : decode cX5_backCell 10 = .ok (.bipush 7, 2) := by decide +kernel
theorem dX5_backCell_12 : decode cX5_backCell 12 = .ok (.invokevirtual 105, 3) := by decide +kernel
theorem dX5_backCell_15 : decode cX5_backCell 15 = .ok (.isub, 1) := by decide +kernel
theorem dX5_backCell_16 : decode cX5_backCell 16 = .ok (.iload_n 2, 1) := by decide +kernel
theorem dX5_backCell_17 : decode cX5_backCell 17 = .ok (.idiv, 1) := by decide +kernel
theorem dX5_backCell_18 : decode cX5_backCell 18 = .ok (.ireturn, 1) := by decide +kernel
theorem dX5_back_0 : decode cX5_back 0 = .ok (.aload_n 0, 1) := by decide +kernel
theorem dX5_back_1 : decode cX5_back 1 = .ok (.iload_n 1, 1) := by decide +kernel
theorem dX5_back_2 : decode cX5_back 2 = .ok (.invokevirtual 120, 3) := by decide +kernel
theorem dX5_back_5 : decode cX5_back 5 = .ok (.ifCond .eq 13, 3) := by decide +kernel
theorem dX5_back_8 : decode cX5_back 8 = .ok (.iload_n 2, 1) := by decide +kernel
theorem dX5_back_9 : decode cX5_back 9 = .ok (.iconst 1, 1) := by decide +kernel
theorem dX5_back_10 : decode cX5_back 10 = .ok (.bipush 100, 2) := by decide +kernel
theorem dX5_back_12 : decode cX5_back 12 = .ok (.invokestatic 78, 3) := by decide +kernel
theorem dX5_back_15 : decode cX5_back 15 = .ok (.ifCond .ne 10, 3) := by decide +kernel
theorem dX5_back_18 : decode cX5_back 18 = .ok (.aload_n 0, 1) := by decide +kernel
theorem dX5_back_19 : decode cX5_back 19 = .ok (.ldc 73, 2) := by decide +kernel
theorem dX5_back_21 : decode cX5_back 21 = .ok (.invokevirtual 93, 3) := by decide +kernel
theorem dX5_back_24 : decode cX5_back 24 = .ok (.ireturn, 1) := by decide +kernel
theorem dX5_back_25 : decode cX5_back 25 = .ok (.aload_n 0, 1) := by decide +kernel
theorem dX5_back_26 : decode cX5_back 26 = .ok (.iload_n 1, 1) := by decide +kernel
theorem dX5_back_27 : decode cX5_back 27 = .ok (.invokevirtual 225, 3) := by decide +kernel
theorem dX5_back_30 : decode cX5_back 30 = .ok (.ifCond .eq 12, 3) := by decide +kernel
theorem dX5_back_33 : decode cX5_back 33 = .ok (.aload_n 0, 1) := by decide +kernel
theorem dX5_back_34 : decode cX5_back 34 = .ok (.iload_n 1, 1) := by decide +kernel
theorem dX5_back_35 : decode cX5_back 35 = .ok (.iload_n 2, 1) := by decide +kernel
theorem dX5_back_36 : decode cX5_back 36 = .ok (.invokevirtual 228, 3) := by decide +kernel
theorem dX5_back_39 : decode cX5_back 39 = .ok (.goto 9, 3) := by decide +kernel
theorem dX5_back_42 : decode cX5_back 42 = .ok (.aload_n 0, 1) := by decide +kernel
theorem dX5_back_43 : decode cX5_back 43 = .ok (.ldc 169, 2) := by decide +kernel
theorem dX5_back_45 : decode cX5_back 45 = .ok (.invokevirtual 93, 3) := by decide +kernel
theorem dX5_back_48 : decode cX5_back 48 = .ok (.ireturn, 1) := by decide +kernel
theorem dX5_richest_0 : decode cX5_richest 0 = .ok (.iload_n 1, 1) := by decide +kernel
theorem dX5_richest_1 : decode cX5_richest 1 = .ok (.iconst 1, 1) := by decide +kernel
theorem dX5_richest_2 : decode cX5_richest 2 = .ok (.bipush 100, 2) := by decide +kernel
theorem dX5_richest_4 : decode cX5_richest 4 = .ok (.invokestatic 78, 3) := by decide +kernel
theorem dX5_richest_7 : decode cX5_richest 7 = .ok (.ifCond .ne 10, 3) := by decide +kernel
theorem dX5_richest_10 : decode cX5_richest 10 = .ok (.aload_n 0, 1) := by decide +kernel
theorem dX5_richest_11 : decode cX5_richest 11 = .ok (.ldc 73, 2) := by decide +kernel
theorem dX5_richest_13 : decode cX5_richest 13 = .ok (.invokevirtual 93, 3) := by decide +kernel
theorem dX5_richest_16 : decode cX5_richest 16 = .ok (.ireturn, 1) := by decide +kernel
theorem dX5_richest_17 : decode cX5_richest 17 = .ok (.iconst (-1), 1) := by decide +kernel
theorem dX5_richest_18 : decode cX5_richest 18 = .ok (.istore_n 2, 1) := by decide +kernel
theorem dX5_richest_19 : decode cX5_richest 19 = .ok (.iconst 0, 1) := by decide +kernel
theorem dX5_richest_20 : decode cX5_richest 20 = .ok (.istore_n 3, 1) := by decide +kernel
theorem dX5_richest_21 : decode cX5_richest 21 = .ok (.iconst 0, 1) := by decide +kernel
theorem dX5_richest_22 : decode cX5_richest 22 = .ok (.istore 4, 2) := by decide +kernel
theorem dX5_richest_24 : decode cX5_richest 24 = .ok (.iload 4, 2) := by decide +kernel
theorem dX5_richest_26 : decode cX5_richest 26 = .ok (.bipush 30, 2) := by decide +kernel
theorem dX5_richest_28 : decode cX5_richest 28 = .ok (.if_icmp .ge 96, 3) := by decide +kernel
theorem dX5_richest_31 : decode cX5_richest 31 = .ok (.iconst 0, 1) := by decide +kernel
theorem dX5_richest_32 : decode cX5_richest 32 = .ok (.istore 5, 2) := by decide +kernel
theorem dX5_richest_34 : decode cX5_richest 34 = .ok (.iconst 0, 1) := by decide +kernel
theorem dX5_richest_35 : decode cX5_richest 35 = .ok (.istore 6, 2) := by decide +kernel
theorem dX5_richest_37 : decode cX5_richest 37 = .ok (.iload 6, 2) := by decide +kernel
theorem dX5_richest_39 : decode cX5_richest 39 = .ok (.aload_n 0, 1) := by decide +kernel
theorem dX5_richest_40 : decode cX5_richest 40 = .ok (.getfield 9, 3) := by decide +kernel
theorem dX5_richest_43 : decode cX5_richest 43 = .ok (.iconst 4, 1) := by decide +kernel
theorem dX5_richest_44 : decode cX5_richest 44 = .ok (.iaload, 1) := by decide +kernel
theorem dX5_richest_45 : decode cX5_richest 45 = .ok (.if_icmp .ge 43, 3) := by decide +kernel
theorem dX5_richest_48 : decode cX5_richest 48 = .ok (.iload 5, 2) := by decide +kernel
theorem dX5_richest_50 : decode cX5_richest 50 = .ok (.aload_n 0, 1) := by decide +kernel
theorem dX5_richest_51 : decode cX5_richest 51 = .ok (.iload 6, 2) := by decide +kernel
theorem dX5_richest_53 : decode cX5_richest 53 = .ok (.invokevirtual 225, 3) := by decide +kernel
theorem dX5_richest_56 : decode cX5_richest 56 = .ok (.ifCond .eq 22, 3) := by decide +kernel
theorem dX5_richest_59 : decode cX5_richest 59 = .ok (.aload_n 0, 1) := by decide +kernel
theorem dX5_richest_60 : decode cX5_richest 60 = .ok (.iload 6, 2) := by decide +kernel
theorem dX5_richest_62 : decode cX5_richest 62 = .ok (.iload_n 1, 1) := by decide +kernel
theorem dX5_richest_63 : decode cX5_richest 63 = .ok (.invokevirtual 228, 3) := by decide +kernel
theorem dX5_richest_66 : decode cX5_richest 66 = .ok (.iload 4, 2) := by decide +kernel
theorem dX5_richest_68 : decode cX5_richest 68 = .ok (.if_icmp .ne 10, 3) := by decide +kernel
theorem dX5_richest_71 : decode cX5_richest 71 = .ok (.iconst 1, 1) := by decide +kernel
theorem dX5_richest_72 : decode cX5_richest 72 = .ok (.iload 6, 2) := by decide +kernel
theorem dX5_richest_74 : decode cX5_richest 74 = .ok (.ishl, 1) := by decide +kernel
theorem dX5_richest_75 : decode cX5_richest 75 = .ok (.goto 4, 3) := by decide +kernel
theorem dX5_richest_78 : decode cX5_richest 78 = .ok (.iconst 0, 1) := by decide +kernel
theorem dX5_richest_79 : decode cX5_richest 79 = .ok (.ior, 1) := by decide +kernel
theorem dX5_richest_80 : decode cX5_richest 80 = .ok (.istore 5, 2) := by decide +kernel
theorem dX5_richest_82 : decode cX5_richest 82 = .ok (.iinc 6 1, 3) := by decide +kernel
theorem dX5_richest_85 : decode cX5_richest 85 = .ok (.goto (-48), 3) := by decide +kernel
theorem dX5_richest_88 : decode cX5_richest 88 = .ok (.aload_n 0, 1) := by decide +kernel
theorem dX5_richest_89 : decode cX5_richest 89 = .ok (.iload 5, 2) := by decide +kernel
theorem dX5_richest_91 : decode cX5_richest 91 = .ok (.iconst 3, 1) := by decide +kernel
theorem dX5_richest_92 : decode cX5_richest 92 = .ok (.invokevirtual 144, 3) := by decide +kernel
theorem dX5_richest_95 : decode cX5_richest 95 = .ok (.istore 6, 2) := by decide +kernel
theorem dX5_richest_97 : decode cX5_richest 97 = .ok (.iload 5, 2) := by decide +kernel
theorem dX5_richest_99 : decode cX5_richest 99 = .ok (.ifCond .eq 19, 3) := by decide +kernel
theorem dX5_richest_102 : decode cX5_richest 102 = .ok (.iload_n 2, 1) := by decide +kernel
theorem dX5_richest_103 : decode cX5_richest 103 = .ok (.ifCond .lt 9, 3) := by decide +kernel
theorem dX5_richest_106 : decode cX5_richest 106 = .ok (.iload 6, 2) := by decide +kernel
theorem dX5_richest_108 : decode cX5_richest 108 = .ok (.iload_n 3, 1) := by decide +kernel
theorem dX5_richest_109 : decode cX5_richest 109 = .ok (.if_icmp .le 9, 3) := by decide +kernel
theorem dX5_richest_112 : decode cX5_richest 112 = .ok (.iload 4, 2) := by decide +kernel
theorem dX5_richest_114 : decode cX5_richest 114 = .ok (.istore_n 2, 1) := by decide +kernel
theorem dX5_richest_115 : decode cX5_richest 115 = .ok (.iload 6, 2) := by decide +kernel
theorem dX5_richest_117 : decode cX5_richest 117 = .ok (.istore_n 3, 1) := by decide +kernel
theorem dX5_richest_118 : decode cX5_richest 118 = .ok (.iinc 4 1, 3) := by decide +kernel
theorem dX5_richest_121 : decode cX5_richest 121 = .ok (.goto (-97), 3) := by decide +kernel
theorem dX5_richest_124 : decode cX5_richest 124 = .ok (.iload_n 2, 1) := by decide +kernel
theorem dX5_richest_125 : decode cX5_richest 125 = .ok (.ifCond .ge 12, 3) := by decide +kernel
theorem dX5_richest_128 : decode cX5_richest 128 = .ok (.aload_n 0, 1) := by decide +kernel
theorem dX5_richest_129 : decode cX5_richest 129 = .ok (.ldc 188, 2) := by decide +kernel
theorem dX5_richest_131 : decode cX5_richest 131 = .ok (.invokevirtual 93, 3) := by decide +kernel
theorem dX5_richest_134 : decode cX5_richest 134 = .ok (.goto 4, 3) := by decide +kernel
theorem dX5_richest_137 : decode cX5_richest 137 = .ok (.iload_n 2, 1) := by decide +kernel
theorem dX5_richest_138 : decode cX5_richest 138 = .ok (.ireturn, 1) := by decide +kernel
theorem dX5_drawn_0 : decode cX5_drawn 0 = .ok (.aload_n 0, 1) := by decide +kernel
theorem dX5_drawn_1 : decode cX5_drawn 1 = .ok (.getfield 9, 3) := by decide +kernel
theorem dX5_drawn_4 : decode cX5_drawn 4 = .ok (.iconst 5, 1) := by decide +kernel
theorem dX5_drawn_5 : decode cX5_drawn 5 = .ok (.aload_n 0, 1) := by decide +kernel
theorem dX5_drawn_6 : decode cX5_drawn 6 = .ok (.getfield 9, 3) := by decide +kernel
theorem dX5_drawn_9 : decode cX5_drawn 9 = .ok (.iconst 5, 1) := by decide +kernel
theorem dX5_drawn_10 : decode cX5_drawn 10 = .ok (.iaload, 1) := by decide +kernel
theorem dX5_drawn_11 : decode cX5_drawn 11 = .ok (.ldc 231, 2) := by decide +kernel
theorem dX5_drawn_13 : decode cX5_drawn 13 = .ok (.imul, 1) := by decide +kernel
theorem dX5_drawn_14 : decode cX5_drawn 14 = .ok (.sipush 12345, 3) := by decide +kernel
theorem dX5_drawn_17 : decode cX5_drawn 17 = .ok (.iadd, 1) := by decide +kernel
theorem dX5_drawn_18 : decode cX5_drawn 18 = .ok (.iastore, 1) := by decide +kernel
theorem dX5_drawn_19 : decode cX5_drawn 19 = .ok (.aload_n 0, 1) := by decide +kernel
theorem dX5_drawn_20 : decode cX5_drawn 20 = .ok (.getfield 9, 3) := by decide +kernel
theorem dX5_drawn_23 : decode cX5_drawn 23 = .ok (.iconst 5, 1) := by decide +kernel
theorem dX5_drawn_24 : decode cX5_drawn 24 = .ok (.iaload, 1) := by decide +kernel
theorem dX5_drawn_25 : decode cX5_drawn 25 = .ok (.bipush 8, 2) := by decide +kernel
theorem dX5_drawn_27 : decode cX5_drawn 27 = .ok (.iushr, 1) := by decide +kernel
theorem dX5_drawn_28 : decode cX5_drawn 28 = .ok (.iload_n 1, 1) := by decide +kernel
theorem dX5_drawn_29 : decode cX5_drawn 29 = .ok (.irem, 1) := by decide +kernel
theorem dX5_drawn_30 : decode cX5_drawn 30 = .ok (.ireturn, 1) := by decide +kernel
theorem dX5_days_0 : decode cX5_days 0 = .ok (.iload_n 1, 1) := by decide +kernel
theorem dX5_days_1 : decode cX5_days 1 = .ok (.iconst 1, 1) := by decide +kernel
theorem dX5_days_2 : decode cX5_days 2 = .ok (.bipush 12, 2) := by decide +kernel
theorem dX5_days_4 : decode cX5_days 4 = .ok (.invokestatic 78, 3) := by decide +kernel
theorem dX5_days_7 : decode cX5_days 7 = .ok (.ifCond .ne 10, 3) := by decide +kernel
theorem dX5_days_10 : decode cX5_days 10 = .ok (.aload_n 0, 1) := by decide +kernel
theorem dX5_days_11 : decode cX5_days 11 = .ok (.ldc 73, 2) := by decide +kernel
theorem dX5_days_13 : decode cX5_days 13 = .ok (.invokevirtual 93, 3) := by decide +kernel
theorem dX5_days_16 : decode cX5_days 16 = .ok (.ireturn, 1) := by decide +kernel
theorem dX5_days_17 : decode cX5_days 17 = .ok (.aload_n 0, 1) := by decide +kernel
theorem dX5_days_18 : decode cX5_days 18 = .ok (.bipush 7, 2) := by decide +kernel
theorem dX5_days_20 : decode cX5_days 20 = .ok (.iload_n 1, 1) := by decide +kernel
theorem dX5_days_21 : decode cX5_days 21 = .ok (.imul, 1) := by decide +kernel
theorem dX5_days_22 : decode cX5_days 22 = .ok (.invokevirtual 166, 3) := by decide +kernel
theorem dX5_days_25 : decode cX5_days 25 = .ok (.ifCond .ne 12, 3) := by decide +kernel
theorem dX5_days_28 : decode cX5_days 28 = .ok (.aload_n 0, 1) := by decide +kernel
theorem dX5_days_29 : decode cX5_days 29 = .ok (.getfield 9, 3) := by decide +kernel
theorem dX5_days_32 : decode cX5_days 32 = .ok (.iconst 4, 1) := by decide +kernel
theorem dX5_days_33 : decode cX5_days 33 = .ok (.iaload, 1) := by decide +kernel
theorem dX5_days_34 : decode cX5_days 34 = .ok (.ifCond .ne 10, 3) := by decide +kernel
theorem dX5_days_37 : decode cX5_days 37 = .ok (.aload_n 0, 1) := by decide +kernel
theorem dX5_days_38 : decode cX5_days 38 = .ok (.ldc 169, 2) := by decide +kernel
theorem dX5_days_40 : decode cX5_days 40 = .ok (.invokevirtual 93, 3) := by decide +kernel
theorem dX5_days_43 : decode cX5_days 43 = .ok (.ireturn, 1) := by decide +kernel
theorem dX5_days_44 : decode cX5_days 44 = .ok (.iconst 0, 1) := by decide +kernel
theorem dX5_days_45 : decode cX5_days 45 = .ok (.istore_n 2, 1) := by decide +kernel
theorem dX5_days_46 : decode cX5_days 46 = .ok (.iconst 0, 1) := by decide +kernel
theorem dX5_days_47 : decode cX5_days 47 = .ok (.istore_n 3, 1) := by decide +kernel
theorem dX5_days_48 : decode cX5_days 48 = .ok (.iload_n 3, 1) := by decide +kernel
theorem dX5_days_49 : decode cX5_days 49 = .ok (.iload_n 1, 1) := by decide +kernel
theorem dX5_days_50 : decode cX5_days 50 = .ok (.if_icmp .ge 84, 3) := by decide +kernel
theorem dX5_days_53 : decode cX5_days 53 = .ok (.aload_n 0, 1) := by decide +kernel
theorem dX5_days_54 : decode cX5_days 54 = .ok (.aload_n 0, 1) := by decide +kernel
theorem dX5_days_55 : decode cX5_days 55 = .ok (.getfield 9, 3) := by decide +kernel
theorem dX5_days_58 : decode cX5_days 58 = .ok (.iconst 4, 1) := by decide +kernel
theorem dX5_days_59 : decode cX5_days 59 = .ok (.iaload, 1) := by decide +kernel
theorem dX5_days_60 : decode cX5_days 60 = .ok (.invokevirtual 232, 3) := by decide +kernel
theorem dX5_days_63 : decode cX5_days 63 = .ok (.istore 4, 2) := by decide +kernel
theorem dX5_days_65 : decode cX5_days 65 = .ok (.aload_n 0, 1) := by decide +kernel
theorem dX5_days_66 : decode cX5_days 66 = .ok (.iconst 2, 1) := by decide +kernel
theorem dX5_days_67 : decode cX5_days 67 = .ok (.invokevirtual 232, 3) := by decide +kernel
theorem dX5_days_70 : decode cX5_days 70 = .ok (.ifCond .ne 7, 3) := by decide +kernel
theorem dX5_days_73 : decode cX5_days 73 = .ok (.iconst 0, 1) := by decide +kernel
theorem dX5_days_74 : decode cX5_days 74 = .ok (.goto 4, 3) := by decide +kernel
theorem dX5_days_77 : decode cX5_days 77 = .ok (.iconst 3, 1) := by decide +kernel
theorem dX5_days_78 : decode cX5_days 78 = .ok (.istore 5, 2) := by decide +kernel
theorem dX5_days_80 : decode cX5_days 80 = .ok (.aload_n 0, 1) := by decide +kernel
theorem dX5_days_81 : decode cX5_days 81 = .ok (.iload 4, 2) := by decide +kernel
theorem dX5_days_83 : decode cX5_days 83 = .ok (.iconst 0, 1) := by decide +kernel
theorem dX5_days_84 : decode cX5_days 84 = .ok (.invokevirtual 135, 3) := by decide +kernel
theorem dX5_days_87 : decode cX5_days 87 = .ok (.ifCond .ne 13, 3) := by decide +kernel
theorem dX5_days_90 : decode cX5_days 90 = .ok (.aload_n 0, 1) := by decide +kernel
theorem dX5_days_91 : decode cX5_days 91 = .ok (.iload 4, 2) := by decide +kernel
theorem dX5_days_93 : decode cX5_days 93 = .ok (.iconst 3, 1) := by decide +kernel
theorem dX5_days_94 : decode cX5_days 94 = .ok (.invokevirtual 135, 3) := by decide +kernel
theorem dX5_days_97 : decode cX5_days 97 = .ok (.ifCond .eq 18, 3) := by decide +kernel
