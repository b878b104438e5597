theorem dX4_init_0 : decode cX4_init 0 = .ok (.aload_n 0, 1) := by decide +kernel
theorem dX4_init_1 : decode cX4_init 1 = .ok (.invokespecial 1, 3) := by decide +kernel
theorem dX4_init_4 : decode cX4_init 4 = .ok (.aload_n 0, 1) := by decide +kernel
theorem dX4_init_5 : decode cX4_init 5 = .ok (.new 7, 3) := by decide +kernel
theorem dX4_init_8 : decode cX4_init 8 = .ok (.dup, 1) := by decide +kernel
theorem dX4_init_9 : decode cX4_init 9 = .ok (.invokespecial 9, 3) := by decide +kernel
theorem dX4_init_12 : decode cX4_init 12 = .ok (.putfield 10, 3) := by decide +kernel
theorem dX4_init_15 : decode cX4_init 15 = .ok (.aload_n 0, 1) := by decide +kernel
theorem dX4_init_16 : decode cX4_init 16 = .ok (.new 7, 3) := by decide +kernel
theorem dX4_init_19 : decode cX4_init 19 = .ok (.dup, 1) := by decide +kernel
theorem dX4_init_20 : decode cX4_init 20 = .ok (.invokespecial 9, 3) := by decide +kernel
theorem dX4_init_23 : decode cX4_init 23 = .ok (.putfield 16, 3) := by decide +kernel
theorem dX4_init_26 : decode cX4_init 26 = .ok (.aload_n 0, 1) := by decide +kernel
theorem dX4_init_27 : decode cX4_init 27 = .ok (.new 7, 3) := by decide +kernel
theorem dX4_init_30 : decode cX4_init 30 = .ok (.dup, 1) := by decide +kernel
theorem dX4_init_31 : decode cX4_init 31 = .ok (.invokespecial 9, 3) := by decide +kernel
theorem dX4_init_34 : decode cX4_init 34 = .ok (.putfield 19, 3) := by decide +kernel
theorem dX4_init_37 : decode cX4_init 37 = .ok (.aload_n 0, 1) := by decide +kernel
theorem dX4_init_38 : decode cX4_init 38 = .ok (.iconst 0, 1) := by decide +kernel
theorem dX4_init_39 : decode cX4_init 39 = .ok (.putfield 22, 3) := by decide +kernel
theorem dX4_init_42 : decode cX4_init 42 = .ok (.aload_n 0, 1) := by decide +kernel
theorem dX4_init_43 : decode cX4_init 43 = .ok (.new 26, 3) := by decide +kernel
theorem dX4_init_46 : decode cX4_init 46 = .ok (.dup, 1) := by decide +kernel
theorem dX4_init_47 : decode cX4_init 47 = .ok (.invokespecial 28, 3) := by decide +kernel
theorem dX4_init_50 : decode cX4_init 50 = .ok (.putfield 29, 3) := by decide +kernel
theorem dX4_init_53 : decode cX4_init 53 = .ok (.aload_n 0, 1) := by decide +kernel
theorem dX4_init_54 : decode cX4_init 54 = .ok (.iconst 4, 1) := by decide +kernel
theorem dX4_init_55 : decode cX4_init 55 = .ok (.anewarray 33, 3) := by decide +kernel
theorem dX4_init_58 : decode cX4_init 58 = .ok (.putfield 35, 3) := by decide +kernel
theorem dX4_init_61 : decode cX4_init 61 = .ok (.aload_n 0, 1) := by decide +kernel
theorem dX4_init_62 : decode cX4_init 62 = .ok (.bipush 7, 2) := by decide +kernel
theorem dX4_init_64 : decode cX4_init 64 = .ok (.newarray .int, 2) := by decide +kernel
theorem dX4_init_66 : decode cX4_init 66 = .ok (.putfield 39, 3) := by decide +kernel
theorem dX4_init_69 : decode cX4_init 69 = .ok (.aload_n 0, 1) := by decide +kernel
theorem dX4_init_70 : decode cX4_init 70 = .ok (.bipush 38, 2) := by decide +kernel
theorem dX4_init_72 : decode cX4_init 72 = .ok (.newarray .long, 2) := by decide +kernel
theorem dX4_init_74 : decode cX4_init 74 = .ok (.putfield 43, 3) := by decide +kernel
theorem dX4_init_77 : decode cX4_init 77 = .ok (.aload_n 0, 1) := by decide +kernel
theorem dX4_init_78 : decode cX4_init 78 = .ok (.bipush 30, 2) := by decide +kernel
theorem dX4_init_80 : decode cX4_init 80 = .ok (.newarray .int, 2) := by decide +kernel
theorem dX4_init_82 : decode cX4_init 82 = .ok (.putfield 47, 3) := by decide +kernel
theorem dX4_init_85 : decode cX4_init 85 = .ok (.iconst 0, 1) := by decide +kernel
theorem dX4_init_86 : decode cX4_init 86 = .ok (.istore_n 1, 1) := by decide +kernel
theorem dX4_init_87 : decode cX4_init 87 = .ok (.iload_n 1, 1) := by decide +kernel
theorem dX4_init_88 : decode cX4_init 88 = .ok (.iconst 4, 1) := by decide +kernel
theorem dX4_init_89 : decode cX4_init 89 = .ok (.if_icmp .ge 22, 3) := by decide +kernel
theorem dX4_init_92 : decode cX4_init 92 = .ok (.aload_n 0, 1) := by decide +kernel
theorem dX4_init_93 : decode cX4_init 93 = .ok (.getfield 35, 3) := by decide +kernel
theorem dX4_init_96 : decode cX4_init 96 = .ok (.iload_n 1, 1) := by decide +kernel
theorem dX4_init_97 : decode cX4_init 97 = .ok (.new 33, 3) := by decide +kernel
theorem dX4_init_100 : decode cX4_init 100 = .ok (.dup, 1) := by decide +kernel
theorem dX4_init_101 : decode cX4_init 101 = .ok (.invokespecial 50, 3) := by decide +kernel
theorem dX4_init_104 : decode cX4_init 104 = .ok (.aastore, 1) := by decide +kernel
theorem dX4_init_105 : decode cX4_init 105 = .ok (.iinc 1 1, 3) := by decide +kernel
theorem dX4_init_108 : decode cX4_init 108 = .ok (.goto (-21), 3) := by decide +kernel
theorem dX4_init_111 : decode cX4_init 111 = .ok (.return_, 1) := by decide +kernel
theorem dX4_coin_0 : decode cX4_coin 0 = .ok (.iload_n 1, 1) := by decide +kernel
theorem dX4_coin_1 : decode cX4_coin 1 = .ok (.iconst 0, 1) := by decide +kernel
theorem dX4_coin_2 : decode cX4_coin 2 = .ok (.bipush 6, 2) := by decide +kernel
theorem dX4_coin_4 : decode cX4_coin 4 = .ok (.invokestatic 51, 3) := by decide +kernel
theorem dX4_coin_7 : decode cX4_coin 7 = .ok (.ifCond .ne 9, 3) := by decide +kernel
theorem dX4_coin_10 : decode cX4_coin 10 = .ok (.aload_n 0, 1) := by decide +kernel
theorem dX4_coin_11 : decode cX4_coin 11 = .ok (.iconst 0, 1) := by decide +kernel
theorem dX4_coin_12 : decode cX4_coin 12 = .ok (.invokevirtual 55, 3) := by decide +kernel
theorem dX4_coin_15 : decode cX4_coin 15 = .ok (.ireturn, 1) := by decide +kernel
theorem dX4_coin_16 : decode cX4_coin 16 = .ok (.aload_n 0, 1) := by decide +kernel
theorem dX4_coin_17 : decode cX4_coin 17 = .ok (.getfield 10, 3) := by decide +kernel
theorem dX4_coin_20 : decode cX4_coin 20 = .ok (.getfield 59, 3) := by decide +kernel
theorem dX4_coin_23 : decode cX4_coin 23 = .ok (.bipush 10, 2) := by decide +kernel
theorem dX4_coin_25 : decode cX4_coin 25 = .ok (.if_icmp .lt 9, 3) := by decide +kernel
theorem dX4_coin_28 : decode cX4_coin 28 = .ok (.aload_n 0, 1) := by decide +kernel
theorem dX4_coin_29 : decode cX4_coin 29 = .ok (.iconst 1, 1) := by decide +kernel
theorem dX4_coin_30 : decode cX4_coin 30 = .ok (.invokevirtual 55, 3) := by decide +kernel
theorem dX4_coin_33 : decode cX4_coin 33 = .ok (.ireturn, 1) := by decide +kernel
theorem dX4_coin_34 : decode cX4_coin 34 = .ok (.aload_n 0, 1) := by decide +kernel
theorem dX4_coin_35 : decode cX4_coin 35 = .ok (.getfield 10, 3) := by decide +kernel
theorem dX4_coin_38 : decode cX4_coin 38 = .ok (.iload_n 1, 1) := by decide +kernel
theorem dX4_coin_39 : decode cX4_coin 39 = .ok (.invokevirtual 63, 3) := by decide +kernel
theorem dX4_coin_42 : decode cX4_coin 42 = .ok (.pop, 1) := by decide +kernel
theorem dX4_coin_43 : decode cX4_coin 43 = .ok (.aload_n 0, 1) := by decide +kernel
theorem dX4_coin_44 : decode cX4_coin 44 = .ok (.getfield 10, 3) := by decide +kernel
theorem dX4_coin_47 : decode cX4_coin 47 = .ok (.getfield 59, 3) := by decide +kernel
theorem dX4_coin_50 : decode cX4_coin 50 = .ok (.iconst 1, 1) := by decide +kernel
theorem dX4_coin_51 : decode cX4_coin 51 = .ok (.isub, 1) := by decide +kernel
theorem dX4_coin_52 : decode cX4_coin 52 = .ok (.ireturn, 1) := by decide +kernel
theorem dX4_of_0 : decode cX4_of 0 = .ok (.aload_n 0, 1) := by decide +kernel
theorem dX4_of_1 : decode cX4_of 1 = .ok (.getfield 10, 3) := by decide +kernel
theorem dX4_of_4 : decode cX4_of 4 = .ok (.iload_n 1, 1) := by decide +kernel
theorem dX4_of_5 : decode cX4_of 5 = .ok (.invokevirtual 67, 3) := by decide +kernel
theorem dX4_of_8 : decode cX4_of 8 = .ok (.ifCond .eq 13, 3) := by decide +kernel
theorem dX4_of_11 : decode cX4_of 11 = .ok (.iload_n 2, 1) := by decide +kernel
theorem dX4_of_12 : decode cX4_of 12 = .ok (.iconst 0, 1) := by decide +kernel
theorem dX4_of_13 : decode cX4_of 13 = .ok (.bipush 10, 2) := by decide +kernel
theorem dX4_of_15 : decode cX4_of 15 = .ok (.invokestatic 51, 3) := by decide +kernel
theorem dX4_of_18 : decode cX4_of 18 = .ok (.ifCond .ne 9, 3) := by decide +kernel
theorem dX4_of_21 : decode cX4_of 21 = .ok (.aload_n 0, 1) := by decide +kernel
theorem dX4_of_22 : decode cX4_of 22 = .ok (.iconst 0, 1) := by decide +kernel
theorem dX4_of_23 : decode cX4_of 23 = .ok (.invokevirtual 55, 3) := by decide +kernel
theorem dX4_of_26 : decode cX4_of 26 = .ok (.ireturn, 1) := by decide +kernel
theorem dX4_of_27 : decode cX4_of 27 = .ok (.aload_n 0, 1) := by decide +kernel
theorem dX4_of_28 : decode cX4_of 28 = .ok (.getfield 10, 3) := by decide +kernel
theorem dX4_of_31 : decode cX4_of 31 = .ok (.getfield 71, 3) := by decide +kernel
theorem dX4_of_34 : decode cX4_of 34 = .ok (.iload_n 1, 1) := by decide +kernel
theorem dX4_of_35 : decode cX4_of 35 = .ok (.aaload, 1) := by decide +kernel
theorem dX4_of_36 : decode cX4_of 36 = .ok (.iload_n 2, 1) := by decide +kernel
theorem dX4_of_37 : decode cX4_of 37 = .ok (.aload_n 0, 1) := by decide +kernel
theorem dX4_of_38 : decode cX4_of 38 = .ok (.getfield 10, 3) := by decide +kernel
theorem dX4_of_41 : decode cX4_of 41 = .ok (.getfield 75, 3) := by decide +kernel
theorem dX4_of_44 : decode cX4_of 44 = .ok (.invokevirtual 78, 3) := by decide +kernel
theorem dX4_of_47 : decode cX4_of 47 = .ok (.ireturn, 1) := by decide +kernel
theorem dX4_change_0 : decode cX4_change 0 = .ok (.aload_n 0, 1) := by decide +kernel
theorem dX4_change_1 : decode cX4_change 1 = .ok (.getfield 10, 3) := by decide +kernel
theorem dX4_change_4 : decode cX4_change 4 = .ok (.iload_n 1, 1) := by decide +kernel
theorem dX4_change_5 : decode cX4_change 5 = .ok (.invokevirtual 67, 3) := by decide +kernel
theorem dX4_change_8 : decode cX4_change 8 = .ok (.ifCond .eq 11, 3) := by decide +kernel
theorem dX4_change_11 : decode cX4_change 11 = .ok (.iload_n 2, 1) := by decide +kernel
theorem dX4_change_12 : decode cX4_change 12 = .ok (.iload_n 3, 1) := by decide +kernel
theorem dX4_change_13 : decode cX4_change 13 = .ok (.invokestatic 84, 3) := by decide +kernel
theorem dX4_change_16 : decode cX4_change 16 = .ok (.ifCond .ne 9, 3) := by decide +kernel
theorem dX4_change_19 : decode cX4_change 19 = .ok (.aload_n 0, 1) := by decide +kernel
theorem dX4_change_20 : decode cX4_change 20 = .ok (.iconst 0, 1) := by decide +kernel
theorem dX4_change_21 : decode cX4_change 21 = .ok (.invokevirtual 55, 3) := by decide +kernel
theorem dX4_change_24 : decode cX4_change 24 = .ok (.ireturn, 1) := by decide +kernel
theorem dX4_change_25 : decode cX4_change 25 = .ok (.aload_n 0, 1) := by decide +kernel
theorem dX4_change_26 : decode cX4_change 26 = .ok (.getfield 10, 3) := by decide +kernel
theorem dX4_change_29 : decode cX4_change 29 = .ok (.getfield 71, 3) := by decide +kernel
theorem dX4_change_32 : decode cX4_change 32 = .ok (.iload_n 1, 1) := by decide +kernel
theorem dX4_change_33 : decode cX4_change 33 = .ok (.aaload, 1) := by decide +kernel
theorem dX4_change_34 : decode cX4_change 34 = .ok (.astore 4, 2) := by decide +kernel
theorem dX4_change_36 : decode cX4_change 36 = .ok (.aload 4, 2) := by decide +kernel
theorem dX4_change_38 : decode cX4_change 38 = .ok (.iload_n 2, 1) := by decide +kernel
theorem dX4_change_39 : decode cX4_change 39 = .ok (.aload_n 0, 1) := by decide +kernel
theorem dX4_change_40 : decode cX4_change 40 = .ok (.getfield 10, 3) := by decide +kernel
theorem dX4_change_43 : decode cX4_change 43 = .ok (.getfield 75, 3) := by decide +kernel
theorem dX4_change_46 : decode cX4_change 46 = .ok (.invokevirtual 78, 3) := by decide +kernel
theorem dX4_change_49 : decode cX4_change 49 = .ok (.istore 5, 2) := by decide +kernel
theorem dX4_change_51 : decode cX4_change 51 = .ok (.aload 4, 2) := by decide +kernel
theorem dX4_change_53 : decode cX4_change 53 = .ok (.iload_n 2, 1) := by decide +kernel
theorem dX4_change_54 : decode cX4_change 54 = .ok (.iload_n 3, 1) := by decide +kernel
theorem dX4_change_55 : decode cX4_change 55 = .ok (.invokevirtual 88, 3) := by decide +kernel
theorem dX4_change_58 : decode cX4_change 58 = .ok (.iload 5, 2) := by decide +kernel
theorem dX4_change_60 : decode cX4_change 60 = .ok (.ireturn, 1) := by decide +kernel
theorem dX4_put_0 : decode cX4_put 0 = .ok (.aload_n 0, 1) := by decide +kernel
theorem dX4_put_1 : decode cX4_put 1 = .ok (.getfield 10, 3) := by decide +kernel
theorem dX4_put_4 : decode cX4_put 4 = .ok (.iload_n 1, 1) := by decide +kernel
theorem dX4_put_5 : decode cX4_put 5 = .ok (.invokevirtual 67, 3) := by decide +kernel
theorem dX4_put_8 : decode cX4_put 8 = .ok (.ifCond .eq 10, 3) := by decide +kernel
theorem dX4_put_11 : decode cX4_put 11 = .ok (.iload_n 2, 1) := by decide +kernel
theorem dX4_put_12 : decode cX4_put 12 = .ok (.invokestatic 92, 3) := by decide +kernel
theorem dX4_put_15 : decode cX4_put 15 = .ok (.ifCond .ne 9, 3) := by decide +kernel
theorem dX4_put_18 : decode cX4_put 18 = .ok (.aload_n 0, 1) := by decide +kernel
theorem dX4_put_19 : decode cX4_put 19 = .ok (.iconst 0, 1) := by decide +kernel
theorem dX4_put_20 : decode cX4_put 20 = .ok (.invokevirtual 55, 3) := by decide +kernel
theorem dX4_put_23 : decode cX4_put 23 = .ok (.ireturn, 1) := by decide +kernel
theorem dX4_put_24 : decode cX4_put 24 = .ok (.aload_n 0, 1) := by decide +kernel
theorem dX4_put_25 : decode cX4_put 25 = .ok (.getfield 10, 3) := by decide +kernel
theorem dX4_put_28 : decode cX4_put 28 = .ok (.getfield 71, 3) := by decide +kernel
theorem dX4_put_31 : decode cX4_put 31 = .ok (.iload_n 1, 1) := by decide +kernel
theorem dX4_put_32 : decode cX4_put 32 = .ok (.aaload, 1) := by decide +kernel
theorem dX4_put_33 : decode cX4_put 33 = .ok (.getfield 95, 3) := by decide +kernel
theorem dX4_put_36 : decode cX4_put 36 = .ok (.istore_n 3, 1) := by decide +kernel
theorem dX4_put_37 : decode cX4_put 37 = .ok (.aload_n 0, 1) := by decide +kernel
theorem dX4_put_38 : decode cX4_put 38 = .ok (.getfield 10, 3) := by decide +kernel
theorem dX4_put_41 : decode cX4_put 41 = .ok (.getfield 71, 3) := by decide +kernel
theorem dX4_put_44 : decode cX4_put 44 = .ok (.iload_n 1, 1) := by decide +kernel
theorem dX4_put_45 : decode cX4_put 45 = .ok (.aaload, 1) := by decide +kernel
theorem dX4_put_46 : decode cX4_put 46 = .ok (.iload_n 2, 1) := by decide +kernel
theorem dX4_put_47 : decode cX4_put 47 = .ok (.invokevirtual 98, 3) := by decide +kernel
theorem dX4_put_50 : decode cX4_put 50 = .ok (.iload_n 3, 1) := by decide +kernel
theorem dX4_put_51 : decode cX4_put 51 = .ok (.ireturn, 1) := by decide +kernel
theorem dX4_rule_0 : decode cX4_rule 0 = .ok (.iload_n 1, 1) := by decide +kernel
theorem dX4_rule_1 : decode cX4_rule 1 = .ok (.iconst 0, 1) := by decide +kernel
theorem dX4_rule_2 : decode cX4_rule 2 = .ok (.iconst 2, 1) := by decide +kernel
theorem dX4_rule_3 : decode cX4_rule 3 = .ok (.invokestatic 51, 3) := by decide +kernel
theorem dX4_rule_6 : decode cX4_rule 6 = .ok (.ifCond .eq 23, 3) := by decide +kernel
theorem dX4_rule_9 : decode cX4_rule 9 = .ok (.iload_n 2, 1) := by decide +kernel
theorem dX4_rule_10 : decode cX4_rule 10 = .ok (.iconst 0, 1) := by decide +kernel
theorem dX4_rule_11 : decode cX4_rule 11 = .ok (.iload_n 1, 1) := by decide +kernel
theorem dX4_rule_12 : decode cX4_rule 12 = .ok (.iconst 2, 1) := by decide +kernel
theorem dX4_rule_13 : decode cX4_rule 13 = .ok (.if_icmp .ne 8, 3) := by decide +kernel
theorem dX4_rule_16 : decode cX4_rule 16 = .ok (.bipush 7, 2) := by decide +kernel
theorem dX4_rule_18 : decode cX4_rule 18 = .ok (.goto 5, 3) := by decide +kernel
theorem dX4_rule_21 : decode cX4_rule 21 = .ok (.bipush 99, 2) := by decide +kernel
theorem dX4_rule_23 : decode cX4_rule 23 = .ok (.invokestatic 51, 3) := by decide +kernel
theorem dX4_rule_26 : decode cX4_rule 26 = .ok (.ifCond .ne 9, 3) := by decide +kernel
theorem dX4_rule_29 : decode cX4_rule 29 = .ok (.aload_n 0, 1) := by decide +kernel
theorem dX4_rule_30 : decode cX4_rule 30 = .ok (.iconst 0, 1) := by decide +kernel
theorem dX4_rule_31 : decode cX4_rule 31 = .ok (.invokevirtual 55, 3) := by decide +kernel
theorem dX4_rule_34 : decode cX4_rule 34 = .ok (.ireturn, 1) := by decide +kernel
theorem dX4_rule_35 : decode cX4_rule 35 = .ok (.iload_n 1, 1) := by decide +kernel
theorem dX4_rule_36 : decode cX4_rule 36 = .ok (.ifCond .ne 22, 3) := by decide +kernel
theorem dX4_rule_39 : decode cX4_rule 39 = .ok (.aload_n 0, 1) := by decide +kernel
theorem dX4_rule_40 : decode cX4_rule 40 = .ok (.getfield 10, 3) := by decide +kernel
theorem dX4_rule_43 : decode cX4_rule 43 = .ok (.getfield 75, 3) := by decide +kernel
theorem dX4_rule_46 : decode cX4_rule 46 = .ok (.istore_n 3, 1) := by decide +kernel
theorem dX4_rule_47 : decode cX4_rule 47 = .ok (.aload_n 0, 1) := by decide +kernel
theorem dX4_rule_48 : decode cX4_rule 48 = .ok (.getfield 10, 3) := by decide +kernel
theorem dX4_rule_51 : decode cX4_rule 51 = .ok (.iload_n 2, 1) := by decide +kernel
theorem dX4_rule_52 : decode cX4_rule 52 = .ok (.putfield 75, 3) := by decide +kernel
theorem dX4_rule_55 : decode cX4_rule 55 = .ok (.goto 43, 3) := by decide +kernel
theorem dX4_rule_58 : decode cX4_rule 58 = .ok (.iload_n 1, 1) := by decide +kernel
theorem dX4_rule_59 : decode cX4_rule 59 = .ok (.iconst 1, 1) := by decide +kernel
theorem dX4_rule_60 : decode cX4_rule 60 = .ok (.if_icmp .ne 22, 3) := by decide +kernel
theorem dX4_rule_63 : decode cX4_rule 63 = .ok (.aload_n 0, 1) := by decide +kernel
theorem dX4_rule_64 : decode cX4_rule 64 = .ok (.getfield 10, 3) := by decide +kernel
theorem dX4_rule_67 : decode cX4_rule 67 = .ok (.getfield 102, 3) := by decide +kernel
theorem dX4_rule_70 : decode cX4_rule 70 = .ok (.istore_n 3, 1) := by decide +kernel
theorem dX4_rule_71 : decode cX4_rule 71 = .ok (.aload_n 0, 1) := by decide +kernel
theorem dX4_rule_72 : decode cX4_rule 72 = .ok (.getfield 10, 3) := by decide +kernel
theorem dX4_rule_75 : decode cX4_rule 75 = .ok (.iload_n 2, 1) := by decide +kernel
theorem dX4_rule_76 : decode cX4_rule 76 = .ok (.putfield 102, 3) := by decide +kernel
theorem dX4_rule_79 : decode cX4_rule 79 = .ok (.goto 19, 3) := by decide +kernel
theorem dX4_rule_82 : decode cX4_rule 82 = .ok (.aload_n 0, 1) := by decide +kernel
theorem dX4_rule_83 : decode cX4_rule 83 = .ok (.getfield 10, 3) := by decide +kernel
theorem dX4_rule_86 : decode cX4_rule 86 = .ok (.getfield 105, 3) := by decide +kernel
theorem dX4_rule_89 : decode cX4_rule 89 = .ok (.istore_n 3, 1) := by decide +kernel
theorem dX4_rule_90 : decode cX4_rule 90 = .ok (.aload_n 0, 1) := by decide +kernel
theorem dX4_rule_91 : decode cX4_rule 91 = .ok (.getfield 10, 3) := by decide +kernel
theorem dX4_rule_94 : decode cX4_rule 94 = .ok (.iload_n 2, 1) := by decide +kernel
theorem dX4_rule_95 : decode cX4_rule 95 = .ok (.putfield 105, 3) := by decide +kernel
theorem dX4_rule_98 : decode cX4_rule 98 = .ok (.iload_n 3, 1) := by decide +kernel
theorem dX4_rule_99 : decode cX4_rule 99 = .ok (.ireturn, 1) := by decide +kernel
theorem dX4_sew_0 : decode cX4_sew 0 = .ok (.aload_n 0, 1) := by decide +kernel
theorem dX4_sew_1 : decode cX4_sew 1 = .ok (.getfield 10, 3) := by decide +kernel
theorem dX4_sew_4 : decode cX4_sew 4 = .ok (.getfield 75, 3) := by decide +kernel
theorem dX4_sew_7 : decode cX4_sew 7 = .ok (.istore_n 1, 1) := by decide +kernel
theorem dX4_sew_8 : decode cX4_sew 8 = .ok (.aload_n 0, 1) := by decide +kernel
theorem dX4_sew_9 : decode cX4_sew 9 = .ok (.getfield 10, 3) := by decide +kernel
theorem dX4_sew_12 : decode cX4_sew 12 = .ok (.iconst 0, 1) := by decide +kernel
theorem dX4_sew_13 : decode cX4_sew 13 = .ok (.putfield 75, 3) := by decide +kernel
theorem dX4_sew_16 : decode cX4_sew 16 = .ok (.iload_n 1, 1) := by decide +kernel
theorem dX4_sew_17 : decode cX4_sew 17 = .ok (.ireturn, 1) := by decide +kernel
theorem dX4_lie_0 : decode cX4_lie 0 = .ok (.iload_n 1, 1) := by decide +kernel
theorem dX4_lie_1 : decode cX4_lie 1 = .ok (.invokestatic 92, 3) := by decide +kernel
theorem dX4_lie_4 : decode cX4_lie 4 = .ok (.ifCond .eq 14, 3) := by decide +kernel
theorem dX4_lie_7 : decode cX4_lie 7 = .ok (.aload_n 0, 1) := by decide +kernel
theorem dX4_lie_8 : decode cX4_lie 8 = .ok (.getfield 10, 3) := by decide +kernel
theorem dX4_lie_11 : decode cX4_lie 11 = .ok (.iload_n 1, 1) := by decide +kernel
theorem dX4_lie_12 : decode cX4_lie 12 = .ok (.invokevirtual 108, 3) := by decide +kernel
theorem dX4_lie_15 : decode cX4_lie 15 = .ok (.goto 8, 3) := by decide +kernel
theorem dX4_lie_18 : decode cX4_lie 18 = .ok (.aload_n 0, 1) := by decide +kernel
theorem dX4_lie_19 : decode cX4_lie 19 = .ok (.iconst 0, 1) := by decide +kernel
theorem dX4_lie_20 : decode cX4_lie 20 = .ok (.invokevirtual 55, 3) := by decide +kernel
theorem dX4_lie_23 : decode cX4_lie 23 = .ok (.ireturn, 1) := by decide +kernel
theorem dX4_pence_0 : decode cX4_pence 0 = .ok (.iload_n 1, 1) := by decide +kernel
theorem dX4_pence_1 : decode cX4_pence 1 = .ok (.invokestatic 92, 3) := by decide +kernel
theorem dX4_pence_4 : decode cX4_pence 4 = .ok (.ifCond .eq 14, 3) := by decide +kernel
theorem dX4_pence_7 : decode cX4_pence 7 = .ok (.aload_n 0, 1) := by decide +kernel
theorem dX4_pence_8 : decode cX4_pence 8 = .ok (.getfield 10, 3) := by decide +kernel
theorem dX4_pence_11 : decode cX4_pence 11 = .ok (.iload_n 1, 1) := by decide +kernel
theorem dX4_pence_12 : decode cX4_pence 12 = .ok (.invokevirtual 111, 3) := by decide +kernel
theorem dX4_pence_15 : decode cX4_pence 15 = .ok (.goto 8, 3) := by decide +kernel
theorem dX4_pence_18 : decode cX4_pence 18 = .ok (.aload_n 0, 1) := by decide +kernel
theorem dX4_pence_19 : decode cX4_pence 19 = .ok (.iconst 0, 1) := by decide +kernel
theorem dX4_pence_20 : decode cX4_pence 20 = .ok (.invokevirtual 55, 3) := by decide +kernel
theorem dX4_pence_23 : decode cX4_pence 23 = .ok (.ireturn, 1) := by decide +kernel
theorem dX4_steps_0 : decode cX4_steps 0 = .ok (.iload_n 1, 1) := by decide +kernel
theorem dX4_steps_1 : decode cX4_steps 1 = .ok (.iconst 1, 1) := by decide +kernel
theorem dX4_steps_2 : decode cX4_steps 2 = .ok (.bipush 100, 2) := by decide +kernel
theorem dX4_steps_4 : decode cX4_steps 4 = .ok (.invokestatic 51, 3) := by decide +kernel
theorem dX4_steps_7 : decode cX4_steps 7 = .ok (.ifCond .ne 9, 3) := by decide +kernel
theorem dX4_steps_10 : decode cX4_steps 10 = .ok (.aload_n 0, 1) := by decide +kernel
theorem dX4_steps_11 : decode cX4_steps 11 = .ok (.iconst 0, 1) := by decide +kernel
theorem dX4_steps_12 : decode cX4_steps 12 = .ok (.invokevirtual 55, 3) := by decide +kernel
theorem dX4_steps_15 : decode cX4_steps 15 = .ok (.ireturn, 1) := by decide +kernel
theorem dX4_steps_16 : decode cX4_steps 16 = .ok (.aload_n 0, 1) := by decide +kernel
theorem dX4_steps_17 : decode cX4_steps 17 = .ok (.iload_n 1, 1) := by decide +kernel
theorem dX4_steps_18 : decode cX4_steps 18 = .ok (.invokevirtual 114, 3) := by decide +kernel
theorem dX4_steps_21 : decode cX4_steps 21 = .ok (.ifCond .eq 9, 3) := by decide +kernel
theorem dX4_steps_24 : decode cX4_steps 24 = .ok (.aload_n 0, 1) := by decide +kernel
theorem dX4_steps_25 : decode cX4_steps 25 = .ok (.iconst 4, 1) := by decide +kernel
theorem dX4_steps_26 : decode cX4_steps 26 = .ok (.invokevirtual 55, 3) := by decide +kernel
theorem dX4_steps_29 : decode cX4_steps 29 = .ok (.ireturn, 1) := by decide +kernel
theorem dX4_steps_30 : decode cX4_steps 30 = .ok (.aload_n 0, 1) := by decide +kernel
theorem dX4_steps_31 : decode cX4_steps 31 = .ok (.getfield 10, 3) := by decide +kernel
theorem dX4_steps_34 : decode cX4_steps 34 = .ok (.iconst 2, 1) := by decide +kernel
theorem dX4_steps_35 : decode cX4_steps 35 = .ok (.invokevirtual 108, 3) := by decide +kernel
theorem dX4_steps_38 : decode cX4_steps 38 = .ok (.istore_n 2, 1) := by decide +kernel
theorem dX4_steps_39 : decode cX4_steps 39 = .ok (.aload_n 0, 1) := by decide +kernel
theorem dX4_steps_40 : decode cX4_steps 40 = .ok (.getfield 10, 3) := by decide +kernel
theorem dX4_steps_43 : decode cX4_steps 43 = .ok (.iload_n 1, 1) := by decide +kernel
theorem dX4_steps_44 : decode cX4_steps 44 = .ok (.invokevirtual 117, 3) := by decide +kernel
theorem dX4_steps_47 : decode cX4_steps 47 = .ok (.aload_n 0, 1) := by decide +kernel
theorem dX4_steps_48 : decode cX4_steps 48 = .ok (.getfield 10, 3) := by decide +kernel
theorem dX4_steps_51 : decode cX4_steps 51 = .ok (.iconst 2, 1) := by decide +kernel
theorem dX4_steps_52 : decode cX4_steps 52 = .ok (.invokevirtual 108, 3) := by decide +kernel
theorem dX4_steps_55 : decode cX4_steps 55 = .ok (.iload_n 2, 1) := by decide +kernel
theorem dX4_steps_56 : decode cX4_steps 56 = .ok (.iconst (-1), 1) := by decide +kernel
theorem dX4_steps_57 : decode cX4_steps 57 = .ok (.ixor, 1) := by decide +kernel
theorem dX4_steps_58 : decode cX4_steps 58 = .ok (.iand, 1) := by decide +kernel
theorem dX4_steps_59 : decode cX4_steps 59 = .ok (.invokestatic 120, 3) := by decide +kernel
theorem dX4_steps_62 : decode cX4_steps 62 = .ok (.ireturn, 1) := by decide +kernel
theorem dX4_now_0 : decode cX4_now 0 = .ok (.iload_n 1, 1) := by decide +kernel
theorem dX4_now_1 : decode cX4_now 1 = .ok (.tableswitch 124 0 6 #[43, 51, 59, 67, 75, 83, 108], 43) := by decide +kernel
theorem dX4_now_44 : decode cX4_now 44 = .ok (.aload_n 0, 1) := by decide +kernel
theorem dX4_now_45 : decode cX4_now 45 = .ok (.getfield 10, 3) := by decide +kernel
theorem dX4_now_48 : decode cX4_now 48 = .ok (.getfield 125, 3) := by decide +kernel
theorem dX4_now_51 : decode cX4_now 51 = .ok (.ireturn, 1) := by decide +kernel
theorem dX4_now_52 : decode cX4_now 52 = .ok (.aload_n 0, 1) := by decide +kernel
theorem dX4_now_53 : decode cX4_now 53 = .ok (.getfield 10, 3) := by decide +kernel
theorem dX4_now_56 : decode cX4_now 56 = .ok (.getfield 75, 3) := by decide +kernel
theorem dX4_now_59 : decode cX4_now 59 = .ok (.ireturn, 1) := by decide +kernel
theorem dX4_now_60 : decode cX4_now 60 = .ok (.aload_n 0, 1) := by decide +kernel
theorem dX4_now_61 : decode cX4_now 61 = .ok (.getfield 10, 3) := by decide +kernel
theorem dX4_now_64 : decode cX4_now 64 = .ok (.getfield 102, 3) := by decide +kernel
theorem dX4_now_67 : decode cX4_now 67 = .ok (.ireturn, 1) := by decide +kernel
theorem dX4_now_68 : decode cX4_now 68 = .ok (.aload_n 0, 1) := by decide +kernel
theorem dX4_now_69 : decode cX4_now 69 = .ok (.getfield 10, 3) := by decide +kernel
theorem dX4_now_72 : decode cX4_now 72 = .ok (.getfield 105, 3) := by decide +kernel
theorem dX4_now_75 : decode cX4_now 75 = .ok (.ireturn, 1) := by decide +kernel
theorem dX4_now_76 : decode cX4_now 76 = .ok (.aload_n 0, 1) := by decide +kernel
theorem dX4_now_77 : decode cX4_now 77 = .ok (.getfield 10, 3) := by decide +kernel
theorem dX4_now_80 : decode cX4_now 80 = .ok (.invokevirtual 128, 3) := by decide +kernel
theorem dX4_now_83 : decode cX4_now 83 = .ok (.ireturn, 1) := by decide +kernel
theorem dX4_now_84 : decode cX4_now 84 = .ok (.aload_n 0, 1) := by decide +kernel
theorem dX4_now_85 : decode cX4_now 85 = .ok (.getfield 10, 3) := by decide +kernel
theorem dX4_now_88 : decode cX4_now 88 = .ok (.aload_n 0, 1) := by decide +kernel
theorem dX4_now_89 : decode cX4_now 89 = .ok (.getfield 10, 3) := by decide +kernel
theorem dX4_now_92 : decode cX4_now 92 = .ok (.iconst 0, 1) := by decide +kernel
theorem dX4_now_93 : decode cX4_now 93 = .ok (.invokevirtual 108, 3) := by decide +kernel
theorem dX4_now_96 : decode cX4_now 96 = .ok (.aload_n 0, 1) := by decide +kernel
theorem dX4_now_97 : decode cX4_now 97 = .ok (.getfield 10, 3) := by decide +kernel
theorem dX4_now_100 : decode cX4_now 100 = .ok (.iconst 1, 1) := by decide +kernel
theorem dX4_now_101 : decode cX4_now 101 = .ok (.invokevirtual 108, 3) := by decide +kernel
theorem dX4_now_104 : decode cX4_now 104 = .ok (.ior, 1) := by decide +kernel
theorem dX4_now_105 : decode cX4_now 105 = .ok (.invokevirtual 132, 3) := by decide +kernel
theorem dX4_now_108 : decode cX4_now 108 = .ok (.ireturn, 1) := by decide +kernel
theorem dX4_now_109 : decode cX4_now 109 = .ok (.aload_n 0, 1) := by decide +kernel
theorem dX4_now_110 : decode cX4_now 110 = .ok (.getfield 10, 3) := by decide +kernel
theorem dX4_now_113 : decode cX4_now 113 = .ok (.aload_n 0, 1) := by decide +kernel
theorem dX4_now_114 : decode cX4_now 114 = .ok (.getfield 10, 3) := by decide +kernel
theorem dX4_now_117 : decode cX4_now 117 = .ok (.iconst 3, 1) := by decide +kernel
theorem dX4_now_118 : decode cX4_now 118 = .ok (.invokevirtual 108, 3) := by decide +kernel
theorem dX4_now_121 : decode cX4_now 121 = .ok (.invokevirtual 132, 3) := by decide +kernel
theorem dX4_now_124 : decode cX4_now 124 = .ok (.ireturn, 1) := by decide +kernel
theorem dX4_now_125 : decode cX4_now 125 = .ok (.aload_n 0, 1) := by decide +kernel
theorem dX4_now_126 : decode cX4_now 126 = .ok (.iconst 0, 1) := by decide +kernel
theorem dX4_now_127 : decode cX4_now 127 = .ok (.invokevirtual 55, 3) := by decide +kernel
theorem dX4_now_130 : decode cX4_now 130 = .ok (.ireturn, 1) := by decide +kernel
theorem dX4_ahead_0 : decode cX4_ahead 0 = .ok (.iload_n 1, 1) := by decide +kernel
theorem dX4_ahead_1 : decode cX4_ahead 1 = .ok (.iconst 0, 1) := by decide +kernel
theorem dX4_ahead_2 : decode cX4_ahead 2 = .ok (.bipush 100, 2) := by decide +kernel
theorem dX4_ahead_4 : decode cX4_ahead 4 = .ok (.invokestatic 51, 3) := by decide +kernel
theorem dX4_ahead_7 : decode cX4_ahead 7 = .ok (.ifCond .eq 12, 3) := by decide +kernel
theorem dX4_ahead_10 : decode cX4_ahead 10 = .ok (.iload_n 2, 1) := by decide +kernel
theorem dX4_ahead_11 : decode cX4_ahead 11 = .ok (.iconst 0, 1) := by decide +kernel
theorem dX4_ahead_12 : decode cX4_ahead 12 = .ok (.iconst 5, 1) := by decide +kernel
theorem dX4_ahead_13 : decode cX4_ahead 13 = .ok (.invokestatic 51, 3) := by decide +kernel
theorem dX4_ahead_16 : decode cX4_ahead 16 = .ok (.ifCond .ne 9, 3) := by decide +kernel
theorem dX4_ahead_19 : decode cX4_ahead 19 = .ok (.aload_n 0, 1) := by decide +kernel
theorem dX4_ahead_20 : decode cX4_ahead 20 = .ok (.iconst 0, 1) := by decide +kernel
theorem dX4_ahead_21 : decode cX4_ahead 21 = .ok (.invokevirtual 55, 3) := by decide +kernel
theorem dX4_ahead_24 : decode cX4_ahead 24 = .ok (.ireturn, 1) := by decide +kernel
theorem dX4_ahead_25 : decode cX4_ahead 25 = .ok (.aload_n 0, 1) := by decide +kernel
theorem dX4_ahead_26 : decode cX4_ahead 26 = .ok (.iload_n 1, 1) := by decide +kernel
theorem dX4_ahead_27 : decode cX4_ahead 27 = .ok (.invokevirtual 114, 3) := by decide +kernel
theorem dX4_ahead_30 : decode cX4_ahead 30 = .ok (.ifCond .eq 9, 3) := by decide +kernel
theorem dX4_ahead_33 : decode cX4_ahead 33 = .ok (.aload_n 0, 1) := by decide +kernel
theorem dX4_ahead_34 : decode cX4_ahead 34 = .ok (.iconst 4, 1) := by decide +kernel
theorem dX4_ahead_35 : decode cX4_ahead 35 = .ok (.invokevirtual 55, 3) := by decide +kernel
theorem dX4_ahead_38 : decode cX4_ahead 38 = .ok (.ireturn, 1) := by decide +kernel
theorem dX4_ahead_39 : decode cX4_ahead 39 = .ok (.aload_n 0, 1) := by decide +kernel
theorem dX4_ahead_40 : decode cX4_ahead 40 = .ok (.getfield 16, 3) := by decide +kernel
theorem dX4_ahead_43 : decode cX4_ahead 43 = .ok (.aload_n 0, 1) := by decide +kernel
theorem dX4_ahead_44 : decode cX4_ahead 44 = .ok (.getfield 10, 3) := by decide +kernel
theorem dX4_ahead_47 : decode cX4_ahead 47 = .ok (.invokevirtual 135, 3) := by decide +kernel
theorem dX4_ahead_50 : decode cX4_ahead 50 = .ok (.aload_n 0, 1) := by decide +kernel
theorem dX4_ahead_51 : decode cX4_ahead 51 = .ok (.getfield 16, 3) := by decide +kernel
theorem dX4_ahead_54 : decode cX4_ahead 54 = .ok (.iload_n 1, 1) := by decide +kernel
theorem dX4_ahead_55 : decode cX4_ahead 55 = .ok (.invokevirtual 117, 3) := by decide +kernel
theorem dX4_ahead_58 : decode cX4_ahead 58 = .ok (.iload_n 2, 1) := by decide +kernel
theorem dX4_ahead_59 : decode cX4_ahead 59 = .ok (.tableswitch 68 0 4 #[33, 38, 43, 51, 59], 33) := by decide +kernel
theorem dX4_ahead_92 : decode cX4_ahead 92 = .ok (.aload_n 0, 1) := by decide +kernel
theorem dX4_ahead_93 : decode cX4_ahead 93 = .ok (.invokevirtual 139, 3) := by decide +kernel
theorem dX4_ahead_96 : decode cX4_ahead 96 = .ok (.ireturn, 1) := by decide +kernel
theorem dX4_ahead_97 : decode cX4_ahead 97 = .ok (.aload_n 0, 1) := by decide +kernel
theorem dX4_ahead_98 : decode cX4_ahead 98 = .ok (.invokevirtual 142, 3) := by decide +kernel
theorem dX4_ahead_101 : decode cX4_ahead 101 = .ok (.ireturn, 1) := by decide +kernel
theorem dX4_ahead_102 : decode cX4_ahead 102 = .ok (.aload_n 0, 1) := by decide +kernel
theorem dX4_ahead_103 : decode cX4_ahead 103 = .ok (.getfield 16, 3) := by decide +kernel
theorem dX4_ahead_106 : decode cX4_ahead 106 = .ok (.getfield 75, 3) := by decide +kernel
theorem dX4_ahead_109 : decode cX4_ahead 109 = .ok (.ireturn, 1) := by decide +kernel
theorem dX4_ahead_110 : decode cX4_ahead 110 = .ok (.aload_n 0, 1) := by decide +kernel
theorem dX4_ahead_111 : decode cX4_ahead 111 = .ok (.getfield 16, 3) := by decide +kernel
theorem dX4_ahead_114 : decode cX4_ahead 114 = .ok (.invokevirtual 128, 3) := by decide +kernel
theorem dX4_ahead_117 : decode cX4_ahead 117 = .ok (.ireturn, 1) := by decide +kernel
theorem dX4_ahead_118 : decode cX4_ahead 118 = .ok (.aload_n 0, 1) := by decide +kernel
theorem dX4_ahead_119 : decode cX4_ahead 119 = .ok (.getfield 16, 3) := by decide +kernel
theorem dX4_ahead_122 : decode cX4_ahead 122 = .ok (.iconst 2, 1) := by decide +kernel
theorem dX4_ahead_123 : decode cX4_ahead 123 = .ok (.invokevirtual 111, 3) := by decide +kernel
theorem dX4_ahead_126 : decode cX4_ahead 126 = .ok (.ireturn, 1) := by decide +kernel
theorem dX4_ahead_127 : decode cX4_ahead 127 = .ok (.aload_n 0, 1) := by decide +kernel
theorem dX4_ahead_128 : decode cX4_ahead 128 = .ok (.getfield 16, 3) := by decide +kernel
theorem dX4_ahead_131 : decode cX4_ahead 131 = .ok (.iconst 1, 1) := by decide +kernel
theorem dX4_ahead_132 : decode cX4_ahead 132 = .ok (.invokevirtual 108, 3) := by decide +kernel
theorem dX4_ahead_135 : decode cX4_ahead 135 = .ok (.ireturn, 1) := by decide +kernel
theorem dX4_when_0 : decode cX4_when 0 = .ok (.aload_n 0, 1) := by decide +kernel
theorem dX4_when_1 : decode cX4_when 1 = .ok (.getfield 10, 3) := by decide +kernel
theorem dX4_when_4 : decode cX4_when 4 = .ok (.iload_n 1, 1) := by decide +kernel
theorem dX4_when_5 : decode cX4_when 5 = .ok (.invokevirtual 67, 3) := by decide +kernel
theorem dX4_when_8 : decode cX4_when 8 = .ok (.ifCond .ne 9, 3) := by decide +kernel
theorem dX4_when_11 : decode cX4_when 11 = .ok (.aload_n 0, 1) := by decide +kernel
theorem dX4_when_12 : decode cX4_when 12 = .ok (.iconst 0, 1) := by decide +kernel
theorem dX4_when_13 : decode cX4_when 13 = .ok (.invokevirtual 55, 3) := by decide +kernel
theorem dX4_when_16 : decode cX4_when 16 = .ok (.ireturn, 1) := by decide +kernel
theorem dX4_when_17 : decode cX4_when 17 = .ok (.aload_n 0, 1) := by decide +kernel
theorem dX4_when_18 : decode cX4_when 18 = .ok (.bipush 100, 2) := by decide +kernel
theorem dX4_when_20 : decode cX4_when 20 = .ok (.invokevirtual 114, 3) := by decide +kernel
theorem dX4_when_23 : decode cX4_when 23 = .ok (.ifCond .eq 9, 3) := by decide +kernel
theorem dX4_when_26 : decode cX4_when 26 = .ok (.aload_n 0, 1) := by decide +kernel
theorem dX4_when_27 : decode cX4_when 27 = .ok (.iconst 4, 1) := by decide +kernel
theorem dX4_when_28 : decode cX4_when 28 = .ok (.invokevirtual 55, 3) := by decide +kernel
theorem dX4_when_31 : decode cX4_when 31 = .ok (.ireturn, 1) := by decide +kernel
theorem dX4_when_32 : decode cX4_when 32 = .ok (.aload_n 0, 1) := by decide +kernel
theorem dX4_when_33 : decode cX4_when 33 = .ok (.getfield 16, 3) := by decide +kernel
theorem dX4_when_36 : decode cX4_when 36 = .ok (.aload_n 0, 1) := by decide +kernel
theorem dX4_when_37 : decode cX4_when 37 = .ok (.getfield 10, 3) := by decide +kernel
theorem dX4_when_40 : decode cX4_when 40 = .ok (.invokevirtual 135, 3) := by decide +kernel
theorem dX4_when_43 : decode cX4_when 43 = .ok (.aload_n 0, 1) := by decide +kernel
theorem dX4_when_44 : decode cX4_when 44 = .ok (.iload_n 1, 1) := by decide +kernel
theorem dX4_when_45 : decode cX4_when 45 = .ok (.invokevirtual 145, 3) := by decide +kernel
theorem dX4_when_48 : decode cX4_when 48 = .ok (.istore_n 2, 1) := by decide +kernel
theorem dX4_when_49 : decode cX4_when 49 = .ok (.iload_n 2, 1) := by decide +kernel
theorem dX4_when_50 : decode cX4_when 50 = .ok (.bipush 100, 2) := by decide +kernel
theorem dX4_when_52 : decode cX4_when 52 = .ok (.if_icmp .le 11, 3) := by decide +kernel
theorem dX4_when_55 : decode cX4_when 55 = .ok (.aload_n 0, 1) := by decide +kernel
theorem dX4_when_56 : decode cX4_when 56 = .ok (.iconst 3, 1) := by decide +kernel
theorem dX4_when_57 : decode cX4_when 57 = .ok (.invokevirtual 55, 3) := by decide +kernel
theorem dX4_when_60 : decode cX4_when 60 = .ok (.goto 4, 3) := by decide +kernel
theorem dX4_when_63 : decode cX4_when 63 = .ok (.iload_n 2, 1) := by decide +kernel
theorem dX4_when_64 : decode cX4_when 64 = .ok (.ireturn, 1) := by decide +kernel
theorem dX4_falls_0 : decode cX4_falls 0 = .ok (.aload_n 0, 1) := by decide +kernel
theorem dX4_falls_1 : decode cX4_falls 1 = .ok (.getfield 10, 3) := by decide +kernel
theorem dX4_falls_4 : decode cX4_falls 4 = .ok (.iload_n 1, 1) := by decide +kernel
theorem dX4_falls_5 : decode cX4_falls 5 = .ok (.invokevirtual 67, 3) := by decide +kernel
theorem dX4_falls_8 : decode cX4_falls 8 = .ok (.ifCond .ne 9, 3) := by decide +kernel
theorem dX4_falls_11 : decode cX4_falls 11 = .ok (.aload_n 0, 1) := by decide +kernel
theorem dX4_falls_12 : decode cX4_falls 12 = .ok (.iconst 0, 1) := by decide +kernel
theorem dX4_falls_13 : decode cX4_falls 13 = .ok (.invokevirtual 55, 3) := by decide +kernel
theorem dX4_falls_16 : decode cX4_falls 16 = .ok (.ireturn, 1) := by decide +kernel
theorem dX4_falls_17 : decode cX4_falls 17 = .ok (.aload_n 0, 1) := by decide +kernel
theorem dX4_falls_18 : decode cX4_falls 18 = .ok (.bipush 100, 2) := by decide +kernel
theorem dX4_falls_20 : decode cX4_falls 20 = .ok (.invokevirtual 114, 3) := by decide +kernel
theorem dX4_falls_23 : decode cX4_falls 23 = .ok (.ifCond .eq 9, 3) := by decide +kernel
theorem dX4_falls_26 : decode cX4_falls 26 = .ok (.aload_n 0, 1) := by decide +kernel
theorem dX4_falls_27 : decode cX4_falls 27 = .ok (.iconst 4, 1) := by decide +kernel
theorem dX4_falls_28 : decode cX4_falls 28 = .ok (.invokevirtual 55, 3) := by decide +kernel
theorem dX4_falls_31 : decode cX4_falls 31 = .ok (.ireturn, 1) := by decide +kernel
theorem dX4_falls_32 : decode cX4_falls 32 = .ok (.aload_n 0, 1) := by decide +kernel
theorem dX4_falls_33 : decode cX4_falls 33 = .ok (.getfield 16, 3) := by decide +kernel
theorem dX4_falls_36 : decode cX4_falls 36 = .ok (.aload_n 0, 1) := by decide +kernel
theorem dX4_falls_37 : decode cX4_falls 37 = .ok (.getfield 10, 3) := by decide +kernel
theorem dX4_falls_40 : decode cX4_falls 40 = .ok (.invokevirtual 135, 3) := by decide +kernel
theorem dX4_falls_43 : decode cX4_falls 43 = .ok (.iconst 0, 1) := by decide +kernel
theorem dX4_falls_44 : decode cX4_falls 44 = .ok (.istore_n 2, 1) := by decide +kernel
theorem dX4_falls_45 : decode cX4_falls 45 = .ok (.iload_n 2, 1) := by decide +kernel
theorem dX4_falls_46 : decode cX4_falls 46 = .ok (.bipush 100, 2) := by decide +kernel
theorem dX4_falls_48 : decode cX4_falls 48 = .ok (.if_icmp .gt 35, 3) := by decide +kernel
theorem dX4_falls_51 : decode cX4_falls 51 = .ok (.aload_n 0, 1) := by decide +kernel
theorem dX4_falls_52 : decode cX4_falls 52 = .ok (.getfield 16, 3) := by decide +kernel
theorem dX4_falls_55 : decode cX4_falls 55 = .ok (.getfield 71, 3) := by decide +kernel
theorem dX4_falls_58 : decode cX4_falls 58 = .ok (.iload_n 1, 1) := by decide +kernel
theorem dX4_falls_59 : decode cX4_falls 59 = .ok (.aaload, 1) := by decide +kernel
theorem dX4_falls_60 : decode cX4_falls 60 = .ok (.getfield 95, 3) := by decide +kernel
theorem dX4_falls_63 : decode cX4_falls 63 = .ok (.iconst 2, 1) := by decide +kernel
theorem dX4_falls_64 : decode cX4_falls 64 = .ok (.if_icmp .ne 5, 3) := by decide +kernel
theorem dX4_falls_67 : decode cX4_falls 67 = .ok (.iload_n 2, 1) := by decide +kernel
theorem dX4_falls_68 : decode cX4_falls 68 = .ok (.ireturn, 1) := by decide +kernel
theorem dX4_falls_69 : decode cX4_falls 69 = .ok (.aload_n 0, 1) := by decide +kernel
theorem dX4_falls_70 : decode cX4_falls 70 = .ok (.getfield 16, 3) := by decide +kernel
theorem dX4_falls_73 : decode cX4_falls 73 = .ok (.iconst 1, 1) := by decide +kernel
theorem dX4_falls_74 : decode cX4_falls 74 = .ok (.invokevirtual 117, 3) := by decide +kernel
theorem dX4_falls_77 : decode cX4_falls 77 = .ok (.iinc 2 1, 3) := by decide +kernel
theorem dX4_falls_80 : decode cX4_falls 80 = .ok (.goto (-35), 3) := by decide +kernel
theorem dX4_falls_83 : decode cX4_falls 83 = .ok (.aload_n 0, 1) := by decide +kernel
theorem dX4_falls_84 : decode cX4_falls 84 = .ok (.iconst 3, 1) := by decide +kernel
theorem dX4_falls_85 : decode cX4_falls 85 = .ok (.invokevirtual 55, 3) := by decide +kernel
theorem dX4_falls_88 : decode cX4_falls 88 = .ok (.ireturn, 1) := by decide +kernel
theorem dX4_first_0 : decode cX4_first 0 = .ok (.aload_n 0, 1) := by decide +kernel
theorem dX4_first_1 : decode cX4_first 1 = .ok (.bipush 100, 2) := by decide +kernel
theorem dX4_first_3 : decode cX4_first 3 = .ok (.invokevirtual 114, 3) := by decide +kernel
theorem dX4_first_6 : decode cX4_first 6 = .ok (.ifCond .eq 9, 3) := by decide +kernel
theorem dX4_first_9 : decode cX4_first 9 = .ok (.aload_n 0, 1) := by decide +kernel
theorem dX4_first_10 : decode cX4_first 10 = .ok (.iconst 4, 1) := by decide +kernel
theorem dX4_first_11 : decode cX4_first 11 = .ok (.invokevirtual 55, 3) := by decide +kernel
theorem dX4_first_14 : decode cX4_first 14 = .ok (.ireturn, 1) := by decide +kernel
theorem dX4_first_15 : decode cX4_first 15 = .ok (.aload_n 0, 1) := by decide +kernel
theorem dX4_first_16 : decode cX4_first 16 = .ok (.getfield 16, 3) := by decide +kernel
theorem dX4_first_19 : decode cX4_first 19 = .ok (.aload_n 0, 1) := by decide +kernel
theorem dX4_first_20 : decode cX4_first 20 = .ok (.getfield 10, 3) := by decide +kernel
theorem dX4_first_23 : decode cX4_first 23 = .ok (.invokevirtual 135, 3) := by decide +kernel
theorem dX4_first_26 : decode cX4_first 26 = .ok (.iconst 1, 1) := by decide +kernel
theorem dX4_first_27 : decode cX4_first 27 = .ok (.istore_n 1, 1) := by decide +kernel
theorem dX4_first_28 : decode cX4_first 28 = .ok (.iconst 0, 1) := by decide +kernel
theorem dX4_first_29 : decode cX4_first 29 = .ok (.istore_n 2, 1) := by decide +kernel
theorem dX4_first_30 : decode cX4_first 30 = .ok (.iload_n 2, 1) := by decide +kernel
theorem dX4_first_31 : decode cX4_first 31 = .ok (.bipush 100, 2) := by decide +kernel
theorem dX4_first_33 : decode cX4_first 33 = .ok (.if_icmp .ge 35, 3) := by decide +kernel
theorem dX4_first_36 : decode cX4_first 36 = .ok (.iload_n 1, 1) := by decide +kernel
theorem dX4_first_37 : decode cX4_first 37 = .ok (.ifCond .eq 31, 3) := by decide +kernel
theorem dX4_first_40 : decode cX4_first 40 = .ok (.aload_n 0, 1) := by decide +kernel
theorem dX4_first_41 : decode cX4_first 41 = .ok (.getfield 16, 3) := by decide +kernel
theorem dX4_first_44 : decode cX4_first 44 = .ok (.invokevirtual 148, 3) := by decide +kernel
theorem dX4_first_47 : decode cX4_first 47 = .ok (.istore_n 1, 1) := by decide +kernel
theorem dX4_first_48 : decode cX4_first 48 = .ok (.aload_n 0, 1) := by decide +kernel
theorem dX4_first_49 : decode cX4_first 49 = .ok (.invokevirtual 139, 3) := by decide +kernel
theorem dX4_first_52 : decode cX4_first 52 = .ok (.istore_n 3, 1) := by decide +kernel
theorem dX4_first_53 : decode cX4_first 53 = .ok (.iload_n 3, 1) := by decide +kernel
theorem dX4_first_54 : decode cX4_first 54 = .ok (.ifCond .eq 8, 3) := by decide +kernel
theorem dX4_first_57 : decode cX4_first 57 = .ok (.iload_n 3, 1) := by decide +kernel
theorem dX4_first_58 : decode cX4_first 58 = .ok (.invokestatic 152, 3) := by decide +kernel
theorem dX4_first_61 : decode cX4_first 61 = .ok (.ireturn, 1) := by decide +kernel
theorem dX4_first_62 : decode cX4_first 62 = .ok (.iinc 2 1, 3) := by decide +kernel
theorem dX4_first_65 : decode cX4_first 65 = .ok (.goto (-35), 3) := by decide +kernel
theorem dX4_first_68 : decode cX4_first 68 = .ok (.aload_n 0, 1) := by decide +kernel
theorem dX4_first_69 : decode cX4_first 69 = .ok (.iconst 3, 1) := by decide +kernel
theorem dX4_first_70 : decode cX4_first 70 = .ok (.invokevirtual 55, 3) := by decide +kernel
theorem dX4_first_73 : decode cX4_first 73 = .ok (.ireturn, 1) := by decide +kernel
theorem dX4_cell_0 : decode cX4_cell 0 = .ok (.aload_n 0, 1) := by decide +kernel
theorem dX4_cell_1 : decode cX4_cell 1 = .ok (.getfield 10, 3) := by decide +kernel
theorem dX4_cell_4 : decode cX4_cell 4 = .ok (.iload_n 1, 1) := by decide +kernel
theorem dX4_cell_5 : decode cX4_cell 5 = .ok (.invokevirtual 67, 3) := by decide +kernel
theorem dX4_cell_8 : decode cX4_cell 8 = .ok (.ifCond .eq 13, 3) := by decide +kernel
theorem dX4_cell_11 : decode cX4_cell 11 = .ok (.iload_n 2, 1) := by decide +kernel
theorem dX4_cell_12 : decode cX4_cell 12 = .ok (.iconst 0, 1) := by decide +kernel
theorem dX4_cell_13 : decode cX4_cell 13 = .ok (.bipush 100, 2) := by decide +kernel
theorem dX4_cell_15 : decode cX4_cell 15 = .ok (.invokestatic 51, 3) := by decide +kernel
theorem dX4_cell_18 : decode cX4_cell 18 = .ok (.ifCond .ne 9, 3) := by decide +kernel
theorem dX4_cell_21 : decode cX4_cell 21 = .ok (.aload_n 0, 1) := by decide +kernel
theorem dX4_cell_22 : decode cX4_cell 22 = .ok (.iconst 0, 1) := by decide +kernel
theorem dX4_cell_23 : decode cX4_cell 23 = .ok (.invokevirtual 55, 3) := by decide +kernel
theorem dX4_cell_26 : decode cX4_cell 26 = .ok (.ireturn, 1) := by decide +kernel
theorem dX4_cell_27 : decode cX4_cell 27 = .ok (.aload_n 0, 1) := by decide +kernel
theorem dX4_cell_28 : decode cX4_cell 28 = .ok (.iload_n 2, 1) := by decide +kernel
theorem dX4_cell_29 : decode cX4_cell 29 = .ok (.invokevirtual 114, 3) := by decide +kernel
theorem dX4_cell_32 : decode cX4_cell 32 = .ok (.ifCond .eq 9, 3) := by decide +kernel
theorem dX4_cell_35 : decode cX4_cell 35 = .ok (.aload_n 0, 1) := by decide +kernel
theorem dX4_cell_36 : decode cX4_cell 36 = .ok (.iconst 4, 1) := by decide +kernel
theorem dX4_cell_37 : decode cX4_cell 37 = .ok (.invokevirtual 55, 3) := by decide +kernel
theorem dX4_cell_40 : decode cX4_cell 40 = .ok (.ireturn, 1) := by decide +kernel
theorem dX4_cell_41 : decode cX4_cell 41 = .ok (.aload_n 0, 1) := by decide +kernel
theorem dX4_cell_42 : decode cX4_cell 42 = .ok (.getfield 16, 3) := by decide +kernel
theorem dX4_cell_45 : decode cX4_cell 45 = .ok (.aload_n 0, 1) := by decide +kernel
theorem dX4_cell_46 : decode cX4_cell 46 = .ok (.getfield 10, 3) := by decide +kernel
theorem dX4_cell_49 : decode cX4_cell 49 = .ok (.invokevirtual 135, 3) := by decide +kernel
theorem dX4_cell_52 : decode cX4_cell 52 = .ok (.aload_n 0, 1) := by decide +kernel
theorem dX4_cell_53 : decode cX4_cell 53 = .ok (.getfield 16, 3) := by decide +kernel
theorem dX4_cell_56 : decode cX4_cell 56 = .ok (.iload_n 2, 1) := by decide +kernel
theorem dX4_cell_57 : decode cX4_cell 57 = .ok (.invokevirtual 117, 3) := by decide +kernel
theorem dX4_cell_60 : decode cX4_cell 60 = .ok (.aload_n 0, 1) := by decide +kernel
theorem dX4_cell_61 : decode cX4_cell 61 = .ok (.getfield 16, 3) := by decide +kernel
theorem dX4_cell_64 : decode cX4_cell 64 = .ok (.getfield 71, 3) := by decide +kernel
theorem dX4_cell_67 : decode cX4_cell 67 = .ok (.iload_n 1, 1) := by decide +kernel
theorem dX4_cell_68 : decode cX4_cell 68 = .ok (.aaload, 1) := by decide +kernel
theorem dX4_cell_69 : decode cX4_cell 69 = .ok (.astore_n 3, 1) := by decide +kernel
theorem dX4_cell_70 : decode cX4_cell 70 = .ok (.aload_n 3, 1) := by decide +kernel
theorem dX4_cell_71 : decode cX4_cell 71 = .ok (.getfield 95, 3) := by decide +kernel
theorem dX4_cell_74 : decode cX4_cell 74 = .ok (.iconst 1, 1) := by decide +kernel
theorem dX4_cell_75 : decode cX4_cell 75 = .ok (.if_icmp .ne 10, 3) := by decide +kernel
theorem dX4_cell_78 : decode cX4_cell 78 = .ok (.aload_n 3, 1) := by decide +kernel
theorem dX4_cell_79 : decode cX4_cell 79 = .ok (.getfield 155, 3) := by decide +kernel
theorem dX4_cell_82 : decode cX4_cell 82 = .ok (.goto 8, 3) := by decide +kernel
theorem dX4_cell_85 : decode cX4_cell 85 = .ok (.aload_n 0, 1) := by decide +kernel
theorem dX4_cell_86 : decode cX4_cell 86 = .ok (.iconst 3, 1) := by decide +kernel
theorem dX4_cell_87 : decode cX4_cell 87 = .ok (.invokevirtual 55, 3) := by decide +kernel
theorem dX4_cell_90 : decode cX4_cell 90 = .ok (.ireturn, 1) := by decide +kernel
theorem dX4_bears_0 : decode cX4_bears 0 = .ok (.aload_n 0, 1) := by decide +kernel
theorem dX4_bears_1 : decode cX4_bears 1 = .ok (.getfield 10, 3) := by decide +kernel
theorem dX4_bears_4 : decode cX4_bears 4 = .ok (.iload_n 1, 1) := by decide +kernel
theorem dX4_bears_5 : decode cX4_bears 5 = .ok (.invokevirtual 67, 3) := by decide +kernel
theorem dX4_bears_8 : decode cX4_bears 8 = .ok (.ifCond .eq 13, 3) := by decide +kernel
theorem dX4_bears_11 : decode cX4_bears 11 = .ok (.iload_n 2, 1) := by decide +kernel
theorem dX4_bears_12 : decode cX4_bears 12 = .ok (.iconst 1, 1) := by decide +kernel
theorem dX4_bears_13 : decode cX4_bears 13 = .ok (.bipush 100, 2) := by decide +kernel
theorem dX4_bears_15 : decode cX4_bears 15 = .ok (.invokestatic 51, 3) := by decide +kernel
theorem dX4_bears_18 : decode cX4_bears 18 = .ok (.ifCond .ne 9, 3) := by decide +kernel
theorem dX4_bears_21 : decode cX4_bears 21 = .ok (.aload_n 0, 1) := by decide +kernel
theorem dX4_bears_22 : decode cX4_bears 22 = .ok (.iconst 0, 1) := by decide +kernel
theorem dX4_bears_23 : decode cX4_bears 23 = .ok (.invokevirtual 55, 3) := by decide +kernel
theorem dX4_bears_26 : decode cX4_bears 26 = .ok (.ireturn, 1) := by decide +kernel
theorem dX4_bears_27 : decode cX4_bears 27 = .ok (.aload_n 0, 1) := by decide +kernel
theorem dX4_bears_28 : decode cX4_bears 28 = .ok (.getfield 10, 3) := by decide +kernel
theorem dX4_bears_31 : decode cX4_bears 31 = .ok (.getfield 71, 3) := by decide +kernel
theorem dX4_bears_34 : decode cX4_bears 34 = .ok (.iload_n 1, 1) := by decide +kernel
theorem dX4_bears_35 : decode cX4_bears 35 = .ok (.aaload, 1) := by decide +kernel
theorem dX4_bears_36 : decode cX4_bears 36 = .ok (.getfield 95, 3) := by decide +kernel
theorem dX4_bears_39 : decode cX4_bears 39 = .ok (.ifCond .ne 11, 3) := by decide +kernel
theorem dX4_bears_42 : decode cX4_bears 42 = .ok (.aload_n 0, 1) := by decide +kernel
theorem dX4_bears_43 : decode cX4_bears 43 = .ok (.iload_n 2, 1) := by decide +kernel
theorem dX4_bears_44 : decode cX4_bears 44 = .ok (.invokevirtual 114, 3) := by decide +kernel
theorem dX4_bears_47 : decode cX4_bears 47 = .ok (.ifCond .eq 9, 3) := by decide +kernel
theorem dX4_bears_50 : decode cX4_bears 50 = .ok (.aload_n 0, 1) := by decide +kernel
theorem dX4_bears_51 : decode cX4_bears 51 = .ok (.iconst 4, 1) := by decide +kernel
theorem dX4_bears_52 : decode cX4_bears 52 = .ok (.invokevirtual 55, 3) := by decide +kernel
theorem dX4_bears_55 : decode cX4_bears 55 = .ok (.ireturn, 1) := by decide +kernel
theorem dX4_bears_56 : decode cX4_bears 56 = .ok (.bipush 99, 2) := by decide +kernel
theorem dX4_bears_58 : decode cX4_bears 58 = .ok (.istore_n 3, 1) := by decide +kernel
theorem dX4_bears_59 : decode cX4_bears 59 = .ok (.iload_n 3, 1) := by decide +kernel
theorem dX4_bears_60 : decode cX4_bears 60 = .ok (.ifCond .lt 24, 3) := by decide +kernel
theorem dX4_bears_63 : decode cX4_bears 63 = .ok (.aload_n 0, 1) := by decide +kernel
theorem dX4_bears_64 : decode cX4_bears 64 = .ok (.iload_n 3, 1) := by decide +kernel
theorem dX4_bears_65 : decode cX4_bears 65 = .ok (.iload_n 2, 1) := by decide +kernel
theorem dX4_bears_66 : decode cX4_bears 66 = .ok (.invokevirtual 158, 3) := by decide +kernel
theorem dX4_bears_69 : decode cX4_bears 69 = .ok (.iload_n 1, 1) := by decide +kernel
theorem dX4_bears_70 : decode cX4_bears 70 = .ok (.ishr, 1) := by decide +kernel
theorem dX4_bears_71 : decode cX4_bears 71 = .ok (.iconst 1, 1) := by decide +kernel
theorem dX4_bears_72 : decode cX4_bears 72 = .ok (.iand, 1) := by decide +kernel
theorem dX4_bears_73 : decode cX4_bears 73 = .ok (.ifCond .ne 5, 3) := by decide +kernel
theorem dX4_bears_76 : decode cX4_bears 76 = .ok (.iload_n 3, 1) := by decide +kernel
theorem dX4_bears_77 : decode cX4_bears 77 = .ok (.ireturn, 1) := by decide +kernel
theorem dX4_bears_78 : decode cX4_bears 78 = .ok (.iinc 3 (-1), 3) := by decide +kernel
theorem dX4_bears_81 : decode cX4_bears 81 = .ok (.goto (-22), 3) := by decide +kernel
theorem dX4_bears_84 : decode cX4_bears 84 = .ok (.aload_n 0, 1) := by decide +kernel
theorem dX4_bears_85 : decode cX4_bears 85 = .ok (.iconst 3, 1) := by decide +kernel
theorem dX4_bears_86 : decode cX4_bears 86 = .ok (.invokevirtual 55, 3) := by decide +kernel
theorem dX4_bears_89 : decode cX4_bears 89 = .ok (.ireturn, 1) := by decide +kernel
theorem dX4_latest_0 : decode cX4_latest 0 = .ok (.iload_n 1, 1) := by decide +kernel
theorem dX4_latest_1 : decode cX4_latest 1 = .ok (.iconst 1, 1) := by decide +kernel
theorem dX4_latest_2 : decode cX4_latest 2 = .ok (.bipush 100, 2) := by decide +kernel
theorem dX4_latest_4 : decode cX4_latest 4 = .ok (.invokestatic 51, 3) := by decide +kernel
theorem dX4_latest_7 : decode cX4_latest 7 = .ok (.ifCond .eq 14, 3) := by decide +kernel
theorem dX4_latest_10 : decode cX4_latest 10 = .ok (.iload_n 2, 1) := by decide +kernel
theorem dX4_latest_11 : decode cX4_latest 11 = .ok (.iconst 0, 1) := by decide +kernel
theorem dX4_latest_12 : decode cX4_latest 12 = .ok (.sipush 9999, 3) := by decide +kernel
theorem dX4_latest_15 : decode cX4_latest 15 = .ok (.invokestatic 51, 3) := by decide +kernel
theorem dX4_latest_18 : decode cX4_latest 18 = .ok (.ifCond .ne 9, 3) := by decide +kernel
theorem dX4_latest_21 : decode cX4_latest 21 = .ok (.aload_n 0, 1) := by decide +kernel
theorem dX4_latest_22 : decode cX4_latest 22 = .ok (.iconst 0, 1) := by decide +kernel
theorem dX4_latest_23 : decode cX4_latest 23 = .ok (.invokevirtual 55, 3) := by decide +kernel
theorem dX4_latest_26 : decode cX4_latest 26 = .ok (.ireturn, 1) := by decide +kernel
theorem dX4_latest_27 : decode cX4_latest 27 = .ok (.aload_n 0, 1) := by decide +kernel
theorem dX4_latest_28 : decode cX4_latest 28 = .ok (.iload_n 1, 1) := by decide +kernel
theorem dX4_latest_29 : decode cX4_latest 29 = .ok (.invokevirtual 114, 3) := by decide +kernel
theorem dX4_latest_32 : decode cX4_latest 32 = .ok (.ifCond .eq 9, 3) := by decide +kernel
theorem dX4_latest_35 : decode cX4_latest 35 = .ok (.aload_n 0, 1) := by decide +kernel
theorem dX4_latest_36 : decode cX4_latest 36 = .ok (.iconst 4, 1) := by decide +kernel
theorem dX4_latest_37 : decode cX4_latest 37 = .ok (.invokevirtual 55, 3) := by decide +kernel
theorem dX4_latest_40 : decode cX4_latest 40 = .ok (.ireturn, 1) := by decide +kernel
theorem dX4_latest_41 : decode cX4_latest 41 = .ok (.iload_n 1, 1) := by decide +kernel
theorem dX4_latest_42 : decode cX4_latest 42 = .ok (.istore_n 3, 1) := by decide +kernel
theorem dX4_latest_43 : decode cX4_latest 43 = .ok (.iload_n 3, 1) := by decide +kernel
theorem dX4_latest_44 : decode cX4_latest 44 = .ok (.ifCond .lt 49, 3) := by decide +kernel
theorem dX4_latest_47 : decode cX4_latest 47 = .ok (.aload_n 0, 1) := by decide +kernel
theorem dX4_latest_48 : decode cX4_latest 48 = .ok (.getfield 16, 3) := by decide +kernel
theorem dX4_latest_51 : decode cX4_latest 51 = .ok (.aload_n 0, 1) := by decide +kernel
theorem dX4_latest_52 : decode cX4_latest 52 = .ok (.getfield 10, 3) := by decide +kernel
theorem dX4_latest_55 : decode cX4_latest 55 = .ok (.invokevirtual 135, 3) := by decide +kernel
theorem dX4_latest_58 : decode cX4_latest 58 = .ok (.aload_n 0, 1) := by decide +kernel
theorem dX4_latest_59 : decode cX4_latest 59 = .ok (.getfield 16, 3) := by decide +kernel
theorem dX4_latest_62 : decode cX4_latest 62 = .ok (.iload_n 3, 1) := by decide +kernel
theorem dX4_latest_63 : decode cX4_latest 63 = .ok (.invokevirtual 117, 3) := by decide +kernel
theorem dX4_latest_66 : decode cX4_latest 66 = .ok (.aload_n 0, 1) := by decide +kernel
theorem dX4_latest_67 : decode cX4_latest 67 = .ok (.getfield 16, 3) := by decide +kernel
theorem dX4_latest_70 : decode cX4_latest 70 = .ok (.iconst 0, 1) := by decide +kernel
theorem dX4_latest_71 : decode cX4_latest 71 = .ok (.putfield 75, 3) := by decide +kernel
theorem dX4_latest_74 : decode cX4_latest 74 = .ok (.aload_n 0, 1) := by decide +kernel
theorem dX4_latest_75 : decode cX4_latest 75 = .ok (.iload_n 1, 1) := by decide +kernel
theorem dX4_latest_76 : decode cX4_latest 76 = .ok (.iload_n 3, 1) := by decide +kernel
theorem dX4_latest_77 : decode cX4_latest 77 = .ok (.isub, 1) := by decide +kernel
theorem dX4_latest_78 : decode cX4_latest 78 = .ok (.invokevirtual 161, 3) := by decide +kernel
theorem dX4_latest_81 : decode cX4_latest 81 = .ok (.iload_n 2, 1) := by decide +kernel
theorem dX4_latest_82 : decode cX4_latest 82 = .ok (.if_icmp .gt 5, 3) := by decide +kernel
theorem dX4_latest_85 : decode cX4_latest 85 = .ok (.iload_n 3, 1) := by decide +kernel
theorem dX4_latest_86 : decode cX4_latest 86 = .ok (.ireturn, 1) := by decide +kernel
theorem dX4_latest_87 : decode cX4_latest 87 = .ok (.iinc 3 (-1), 3) := by decide +kernel
theorem dX4_latest_90 : decode cX4_latest 90 = .ok (.goto (-47), 3) := by decide +kernel
theorem dX4_latest_93 : decode cX4_latest 93 = .ok (.aload_n 0, 1) := by decide +kernel
theorem dX4_latest_94 : decode cX4_latest 94 = .ok (.iconst 3, 1) := by decide +kernel
theorem dX4_latest_95 : decode cX4_latest 95 = .ok (.invokevirtual 55, 3) := by decide +kernel
theorem dX4_latest_98 : decode cX4_latest 98 = .ok (.ireturn, 1) := by decide +kernel
theorem dX4_carry_0 : decode cX4_carry 0 = .ok (.iload_n 1, 1) := by decide +kernel
theorem dX4_carry_1 : decode cX4_carry 1 = .ok (.iconst 1, 1) := by decide +kernel
theorem dX4_carry_2 : decode cX4_carry 2 = .ok (.bipush 100, 2) := by decide +kernel
theorem dX4_carry_4 : decode cX4_carry 4 = .ok (.invokestatic 51, 3) := by decide +kernel
theorem dX4_carry_7 : decode cX4_carry 7 = .ok (.ifCond .ne 9, 3) := by decide +kernel
theorem dX4_carry_10 : decode cX4_carry 10 = .ok (.aload_n 0, 1) := by decide +kernel
theorem dX4_carry_11 : decode cX4_carry 11 = .ok (.iconst 0, 1) := by decide +kernel
theorem dX4_carry_12 : decode cX4_carry 12 = .ok (.invokevirtual 55, 3) := by decide +kernel
theorem dX4_carry_15 : decode cX4_carry 15 = .ok (.ireturn, 1) := by decide +kernel
theorem dX4_carry_16 : decode cX4_carry 16 = .ok (.aload_n 0, 1) := by decide +kernel
theorem dX4_carry_17 : decode cX4_carry 17 = .ok (.iload_n 1, 1) := by decide +kernel
theorem dX4_carry_18 : decode cX4_carry 18 = .ok (.invokevirtual 114, 3) := by decide +kernel
theorem dX4_carry_21 : decode cX4_carry 21 = .ok (.ifCond .eq 11, 3) := by decide +kernel
theorem dX4_carry_24 : decode cX4_carry 24 = .ok (.aload_n 0, 1) := by decide +kernel
theorem dX4_carry_25 : decode cX4_carry 25 = .ok (.iconst 4, 1) := by decide +kernel
theorem dX4_carry_26 : decode cX4_carry 26 = .ok (.invokevirtual 55, 3) := by decide +kernel
theorem dX4_carry_29 : decode cX4_carry 29 = .ok (.goto 8, 3) := by decide +kernel
theorem dX4_carry_32 : decode cX4_carry 32 = .ok (.aload_n 0, 1) := by decide +kernel
theorem dX4_carry_33 : decode cX4_carry 33 = .ok (.iload_n 1, 1) := by decide +kernel
theorem dX4_carry_34 : decode cX4_carry 34 = .ok (.invokevirtual 164, 3) := by decide +kernel
theorem dX4_carry_37 : decode cX4_carry 37 = .ok (.ireturn, 1) := by decide +kernel
theorem dX4_carried_0 : decode cX4_carried 0 = .ok (.iload_n 1, 1) := by decide +kernel
theorem dX4_carried_1 : decode cX4_carried 1 = .ok (.iconst 1, 1) := by decide +kernel
theorem dX4_carried_2 : decode cX4_carried 2 = .ok (.bipush 100, 2) := by decide +kernel
theorem dX4_carried_4 : decode cX4_carried 4 = .ok (.invokestatic 51, 3) := by decide +kernel
theorem dX4_carried_7 : decode cX4_carried 7 = .ok (.ifCond .ne 9, 3) := by decide +kernel
theorem dX4_carried_10 : decode cX4_carried 10 = .ok (.aload_n 0, 1) := by decide +kernel
theorem dX4_carried_11 : decode cX4_carried 11 = .ok (.iconst 0, 1) := by decide +kernel
theorem dX4_carried_12 : decode cX4_carried 12 = .ok (.invokevirtual 55, 3) := by decide +kernel
theorem dX4_carried_15 : decode cX4_carried 15 = .ok (.ireturn, 1) := by decide +kernel
theorem dX4_carried_16 : decode cX4_carried 16 = .ok (.aload_n 0, 1) := by decide +kernel
theorem dX4_carried_17 : decode cX4_carried 17 = .ok (.iload_n 1, 1) := by decide +kernel
theorem dX4_carried_18 : decode cX4_carried 18 = .ok (.invokevirtual 114, 3) := by decide +kernel
theorem dX4_carried_21 : decode cX4_carried 21 = .ok (.ifCond .eq 11, 3) := by decide +kernel
theorem dX4_carried_24 : decode cX4_carried 24 = .ok (.aload_n 0, 1) := by decide +kernel
theorem dX4_carried_25 : decode cX4_carried 25 = .ok (.iconst 4, 1) := by decide +kernel
theorem dX4_carried_26 : decode cX4_carried 26 = .ok (.invokevirtual 55, 3) := by decide +kernel
theorem dX4_carried_29 : decode cX4_carried 29 = .ok (.goto 15, 3) := by decide +kernel
theorem dX4_carried_32 : decode cX4_carried 32 = .ok (.aload_n 0, 1) := by decide +kernel
theorem dX4_carried_33 : decode cX4_carried 33 = .ok (.getfield 10, 3) := by decide +kernel
theorem dX4_carried_36 : decode cX4_carried 36 = .ok (.aload_n 0, 1) := by decide +kernel
theorem dX4_carried_37 : decode cX4_carried 37 = .ok (.iload_n 1, 1) := by decide +kernel
theorem dX4_carried_38 : decode cX4_carried 38 = .ok (.invokevirtual 164, 3) := by decide +kernel
theorem dX4_carried_41 : decode cX4_carried 41 = .ok (.invokevirtual 167, 3) := by decide +kernel
theorem dX4_carried_44 : decode cX4_carried 44 = .ok (.ireturn, 1) := by decide +kernel
theorem dX4_kindFor_0 : decode cX4_kindFor 0 = .ok (.aload_n 0, 1) := by decide +kernel
theorem dX4_kindFor_1 : decode cX4_kindFor 1 = .ok (.getfield 10, 3) := by decide +kernel
theorem dX4_kindFor_4 : decode cX4_kindFor 4 = .ok (.iload_n 1, 1) := by decide +kernel
theorem dX4_kindFor_5 : decode cX4_kindFor 5 = .ok (.invokevirtual 67, 3) := by decide +kernel
theorem dX4_kindFor_8 : decode cX4_kindFor 8 = .ok (.ifCond .ne 9, 3) := by decide +kernel
theorem dX4_kindFor_11 : decode cX4_kindFor 11 = .ok (.aload_n 0, 1) := by decide +kernel
theorem dX4_kindFor_12 : decode cX4_kindFor 12 = .ok (.iconst 0, 1) := by decide +kernel
theorem dX4_kindFor_13 : decode cX4_kindFor 13 = .ok (.invokevirtual 55, 3) := by decide +kernel
theorem dX4_kindFor_16 : decode cX4_kindFor 16 = .ok (.ireturn, 1) := by decide +kernel
theorem dX4_kindFor_17 : decode cX4_kindFor 17 = .ok (.aload_n 0, 1) := by decide +kernel
theorem dX4_kindFor_18 : decode cX4_kindFor 18 = .ok (.getfield 10, 3) := by decide +kernel
theorem dX4_kindFor_21 : decode cX4_kindFor 21 = .ok (.getfield 71, 3) := by decide +kernel
theorem dX4_kindFor_24 : decode cX4_kindFor 24 = .ok (.iload_n 1, 1) := by decide +kernel
theorem dX4_kindFor_25 : decode cX4_kindFor 25 = .ok (.aaload, 1) := by decide +kernel
theorem dX4_kindFor_26 : decode cX4_kindFor 26 = .ok (.getfield 95, 3) := by decide +kernel
theorem dX4_kindFor_29 : decode cX4_kindFor 29 = .ok (.ifCond .ne 12, 3) := by decide +kernel
theorem dX4_kindFor_32 : decode cX4_kindFor 32 = .ok (.aload_n 0, 1) := by decide +kernel
theorem dX4_kindFor_33 : decode cX4_kindFor 33 = .ok (.bipush 100, 2) := by decide +kernel
theorem dX4_kindFor_35 : decode cX4_kindFor 35 = .ok (.invokevirtual 114, 3) := by decide +kernel
theorem dX4_kindFor_38 : decode cX4_kindFor 38 = .ok (.ifCond .eq 9, 3) := by decide +kernel
theorem dX4_kindFor_41 : decode cX4_kindFor 41 = .ok (.aload_n 0, 1) := by decide +kernel
theorem dX4_kindFor_42 : decode cX4_kindFor 42 = .ok (.iconst 4, 1) := by decide +kernel
theorem dX4_kindFor_43 : decode cX4_kindFor 43 = .ok (.invokevirtual 55, 3) := by decide +kernel
theorem dX4_kindFor_46 : decode cX4_kindFor 46 = .ok (.ireturn, 1) := by decide +kernel
theorem dX4_kindFor_47 : decode cX4_kindFor 47 = .ok (.iconst 0, 1) := by decide +kernel
theorem dX4_kindFor_48 : decode cX4_kindFor 48 = .ok (.istore_n 2, 1) := by decide +kernel
theorem dX4_kindFor_49 : decode cX4_kindFor 49 = .ok (.iconst (-1), 1) := by decide +kernel
theorem dX4_kindFor_50 : decode cX4_kindFor 50 = .ok (.istore_n 3, 1) := by decide +kernel
theorem dX4_kindFor_51 : decode cX4_kindFor 51 = .ok (.iconst 0, 1) := by decide +kernel
theorem dX4_kindFor_52 : decode cX4_kindFor 52 = .ok (.istore 4, 2) := by decide +kernel
theorem dX4_kindFor_54 : decode cX4_kindFor 54 = .ok (.iload 4, 2) := by decide +kernel
theorem dX4_kindFor_56 : decode cX4_kindFor 56 = .ok (.bipush 6, 2) := by decide +kernel
theorem dX4_kindFor_58 : decode cX4_kindFor 58 = .ok (.if_icmp .gt 53, 3) := by decide +kernel
theorem dX4_kindFor_61 : decode cX4_kindFor 61 = .ok (.aload_n 0, 1) := by decide +kernel
theorem dX4_kindFor_62 : decode cX4_kindFor 62 = .ok (.getfield 16, 3) := by decide +kernel
theorem dX4_kindFor_65 : decode cX4_kindFor 65 = .ok (.aload_n 0, 1) := by decide +kernel
theorem dX4_kindFor_66 : decode cX4_kindFor 66 = .ok (.getfield 10, 3) := by decide +kernel
theorem dX4_kindFor_69 : decode cX4_kindFor 69 = .ok (.invokevirtual 135, 3) := by decide +kernel
theorem dX4_kindFor_72 : decode cX4_kindFor 72 = .ok (.aload_n 0, 1) := by decide +kernel
theorem dX4_kindFor_73 : decode cX4_kindFor 73 = .ok (.getfield 16, 3) := by decide +kernel
theorem dX4_kindFor_76 : decode cX4_kindFor 76 = .ok (.getfield 71, 3) := by decide +kernel
theorem dX4_kindFor_79 : decode cX4_kindFor 79 = .ok (.iload_n 1, 1) := by decide +kernel
theorem dX4_kindFor_80 : decode cX4_kindFor 80 = .ok (.aaload, 1) := by decide +kernel
theorem dX4_kindFor_81 : decode cX4_kindFor 81 = .ok (.iload 4, 2) := by decide +kernel
theorem dX4_kindFor_83 : decode cX4_kindFor 83 = .ok (.putfield 170, 3) := by decide +kernel
theorem dX4_kindFor_86 : decode cX4_kindFor 86 = .ok (.aload_n 0, 1) := by decide +kernel
theorem dX4_kindFor_87 : decode cX4_kindFor 87 = .ok (.iload_n 1, 1) := by decide +kernel
theorem dX4_kindFor_88 : decode cX4_kindFor 88 = .ok (.invokevirtual 145, 3) := by decide +kernel
theorem dX4_kindFor_91 : decode cX4_kindFor 91 = .ok (.istore 5, 2) := by decide +kernel
theorem dX4_kindFor_93 : decode cX4_kindFor 93 = .ok (.iload 5, 2) := by decide +kernel
theorem dX4_kindFor_95 : decode cX4_kindFor 95 = .ok (.iload_n 3, 1) := by decide +kernel
theorem dX4_kindFor_96 : decode cX4_kindFor 96 = .ok (.if_icmp .le 9, 3) := by decide +kernel
theorem dX4_kindFor_99 : decode cX4_kindFor 99 = .ok (.iload 5, 2) := by decide +kernel
theorem dX4_kindFor_101 : decode cX4_kindFor 101 = .ok (.istore_n 3, 1) := by decide +kernel
theorem dX4_kindFor_102 : decode cX4_kindFor 102 = .ok (.iload 4, 2) := by decide +kernel
theorem dX4_kindFor_104 : decode cX4_kindFor 104 = .ok (.istore_n 2, 1) := by decide +kernel
theorem dX4_kindFor_105 : decode cX4_kindFor 105 = .ok (.iinc 4 1, 3) := by decide +kernel
theorem dX4_kindFor_108 : decode cX4_kindFor 108 = .ok (.goto (-54), 3) := by decide +kernel
theorem dX4_kindFor_111 : decode cX4_kindFor 111 = .ok (.iload_n 2, 1) := by decide +kernel
theorem dX4_kindFor_112 : decode cX4_kindFor 112 = .ok (.ireturn, 1) := by decide +kernel
theorem dX4_worst_0 : decode cX4_worst 0 = .ok (.iload_n 1, 1) := by decide +kernel
theorem dX4_worst_1 : decode cX4_worst 1 = .ok (.iconst 1, 1) := by decide +kernel
theorem dX4_worst_2 : decode cX4_worst 2 = .ok (.bipush 100, 2) := by decide +kernel
theorem dX4_worst_4 : decode cX4_worst 4 = .ok (.invokestatic 51, 3) := by decide +kernel
theorem dX4_worst_7 : decode cX4_worst 7 = .ok (.ifCond .ne 9, 3) := by decide +kernel
theorem dX4_worst_10 : decode cX4_worst 10 = .ok (.aload_n 0, 1) := by decide +kernel
theorem dX4_worst_11 : decode cX4_worst 11 = .ok (.iconst 0, 1) := by decide +kernel
theorem dX4_worst_12 : decode cX4_worst 12 = .ok (.invokevirtual 55, 3) := by decide +kernel
theorem dX4_worst_15 : decode cX4_worst 15 = .ok (.ireturn, 1) := by decide +kernel
theorem dX4_worst_16 : decode cX4_worst 16 = .ok (.aload_n 0, 1) := by decide +kernel
theorem dX4_worst_17 : decode cX4_worst 17 = .ok (.iload_n 1, 1) := by decide +kernel
theorem dX4_worst_18 : decode cX4_worst 18 = .ok (.invokevirtual 114, 3) := by decide +kernel
theorem dX4_worst_21 : decode cX4_worst 21 = .ok (.ifCond .eq 9, 3) := by decide +kernel
theorem dX4_worst_24 : decode cX4_worst 24 = .ok (.aload_n 0, 1) := by decide +kernel
theorem dX4_worst_25 : decode cX4_worst 25 = .ok (.iconst 4, 1) := by decide +kernel
theorem dX4_worst_26 : decode cX4_worst 26 = .ok (.invokevirtual 55, 3) := by decide +kernel
theorem dX4_worst_29 : decode cX4_worst 29 = .ok (.ireturn, 1) := by decide +kernel
theorem dX4_worst_30 : decode cX4_worst 30 = .ok (.iconst (-1), 1) := by decide +kernel
theorem dX4_worst_31 : decode cX4_worst 31 = .ok (.istore_n 2, 1) := by decide +kernel
theorem dX4_worst_32 : decode cX4_worst 32 = .ok (.iconst 0, 1) := by decide +kernel
theorem dX4_worst_33 : decode cX4_worst 33 = .ok (.istore_n 3, 1) := by decide +kernel
theorem dX4_worst_34 : decode cX4_worst 34 = .ok (.iconst 0, 1) := by decide +kernel
theorem dX4_worst_35 : decode cX4_worst 35 = .ok (.istore 4, 2) := by decide +kernel
theorem dX4_worst_37 : decode cX4_worst 37 = .ok (.iload 4, 2) := by decide +kernel
theorem dX4_worst_39 : decode cX4_worst 39 = .ok (.aload_n 0, 1) := by decide +kernel
theorem dX4_worst_40 : decode cX4_worst 40 = .ok (.getfield 10, 3) := by decide +kernel
theorem dX4_worst_43 : decode cX4_worst 43 = .ok (.getfield 59, 3) := by decide +kernel
theorem dX4_worst_46 : decode cX4_worst 46 = .ok (.if_icmp .ge 74, 3) := by decide +kernel
theorem dX4_worst_49 : decode cX4_worst 49 = .ok (.aload_n 0, 1) := by decide +kernel
theorem dX4_worst_50 : decode cX4_worst 50 = .ok (.getfield 10, 3) := by decide +kernel
theorem dX4_worst_53 : decode cX4_worst 53 = .ok (.getfield 71, 3) := by decide +kernel
theorem dX4_worst_56 : decode cX4_worst 56 = .ok (.iload 4, 2) := by decide +kernel
theorem dX4_worst_58 : decode cX4_worst 58 = .ok (.aaload, 1) := by decide +kernel
theorem dX4_worst_59 : decode cX4_worst 59 = .ok (.getfield 95, 3) := by decide +kernel
theorem dX4_worst_62 : decode cX4_worst 62 = .ok (.ifCond .ne 52, 3) := by decide +kernel
theorem dX4_worst_65 : decode cX4_worst 65 = .ok (.aload_n 0, 1) := by decide +kernel
theorem dX4_worst_66 : decode cX4_worst 66 = .ok (.getfield 16, 3) := by decide +kernel
theorem dX4_worst_69 : decode cX4_worst 69 = .ok (.aload_n 0, 1) := by decide +kernel
theorem dX4_worst_70 : decode cX4_worst 70 = .ok (.getfield 10, 3) := by decide +kernel
theorem dX4_worst_73 : decode cX4_worst 73 = .ok (.invokevirtual 135, 3) := by decide +kernel
theorem dX4_worst_76 : decode cX4_worst 76 = .ok (.aload_n 0, 1) := by decide +kernel
theorem dX4_worst_77 : decode cX4_worst 77 = .ok (.getfield 16, 3) := by decide +kernel
theorem dX4_worst_80 : decode cX4_worst 80 = .ok (.getfield 71, 3) := by decide +kernel
theorem dX4_worst_83 : decode cX4_worst 83 = .ok (.iload 4, 2) := by decide +kernel
theorem dX4_worst_85 : decode cX4_worst 85 = .ok (.aaload, 1) := by decide +kernel
theorem dX4_worst_86 : decode cX4_worst 86 = .ok (.iconst 3, 1) := by decide +kernel
theorem dX4_worst_87 : decode cX4_worst 87 = .ok (.invokevirtual 98, 3) := by decide +kernel
theorem dX4_worst_90 : decode cX4_worst 90 = .ok (.aload_n 0, 1) := by decide +kernel
theorem dX4_worst_91 : decode cX4_worst 91 = .ok (.iload_n 1, 1) := by decide +kernel
theorem dX4_worst_92 : decode cX4_worst 92 = .ok (.invokevirtual 161, 3) := by decide +kernel
theorem dX4_worst_95 : decode cX4_worst 95 = .ok (.istore 5, 2) := by decide +kernel
theorem dX4_worst_97 : decode cX4_worst 97 = .ok (.iload_n 2, 1) := by decide +kernel
theorem dX4_worst_98 : decode cX4_worst 98 = .ok (.iconst (-1), 1) := by decide +kernel
theorem dX4_worst_99 : decode cX4_worst 99 = .ok (.if_icmp .eq 9, 3) := by decide +kernel
theorem dX4_worst_102 : decode cX4_worst 102 = .ok (.iload 5, 2) := by decide +kernel
theorem dX4_worst_104 : decode cX4_worst 104 = .ok (.iload_n 3, 1) := by decide +kernel
theorem dX4_worst_105 : decode cX4_worst 105 = .ok (.if_icmp .ge 9, 3) := by decide +kernel
theorem dX4_worst_108 : decode cX4_worst 108 = .ok (.iload 4, 2) := by decide +kernel
theorem dX4_worst_110 : decode cX4_worst 110 = .ok (.istore_n 2, 1) := by decide +kernel
theorem dX4_worst_111 : decode cX4_worst 111 = .ok (.iload 5, 2) := by decide +kernel
theorem dX4_worst_113 : decode cX4_worst 113 = .ok (.istore_n 3, 1) := by decide +kernel
theorem dX4_worst_114 : decode cX4_worst 114 = .ok (.iinc 4 1, 3) := by decide +kernel
theorem dX4_worst_117 : decode cX4_worst 117 = .ok (.goto (-80), 3) := by decide +kernel
theorem dX4_worst_120 : decode cX4_worst 120 = .ok (.iload_n 2, 1) := by decide +kernel
theorem dX4_worst_121 : decode cX4_worst 121 = .ok (.iconst (-1), 1) := by decide +kernel
theorem dX4_worst_122 : decode cX4_worst 122 = .ok (.if_icmp .ne 11, 3) := by decide +kernel
theorem dX4_worst_125 : decode cX4_worst 125 = .ok (.aload_n 0, 1) := by decide +kernel
theorem dX4_worst_126 : decode cX4_worst 126 = .ok (.iconst 3, 1) := by decide +kernel
theorem dX4_worst_127 : decode cX4_worst 127 = .ok (.invokevirtual 55, 3) := by decide +kernel
theorem dX4_worst_130 : decode cX4_worst 130 = .ok (.goto 4, 3) := by decide +kernel
theorem dX4_worst_133 : decode cX4_worst 133 = .ok (.iload_n 2, 1) := by decide +kernel
theorem dX4_worst_134 : decode cX4_worst 134 = .ok (.ireturn, 1) := by decide +kernel
theorem dX4_hem_0 : decode cX4_hem 0 = .ok (.iload_n 1, 1) := by decide +kernel
theorem dX4_hem_1 : decode cX4_hem 1 = .ok (.iconst 1, 1) := by decide +kernel
theorem dX4_hem_2 : decode cX4_hem 2 = .ok (.bipush 100, 2) := by decide +kernel
theorem dX4_hem_4 : decode cX4_hem 4 = .ok (.invokestatic 51, 3) := by decide +kernel
theorem dX4_hem_7 : decode cX4_hem 7 = .ok (.ifCond .ne 9, 3) := by decide +kernel
theorem dX4_hem_10 : decode cX4_hem 10 = .ok (.aload_n 0, 1) := by decide +kernel
theorem dX4_hem_11 : decode cX4_hem 11 = .ok (.iconst 0, 1) := by decide +kernel
theorem dX4_hem_12 : decode cX4_hem 12 = .ok (.invokevirtual 55, 3) := by decide +kernel
theorem dX4_hem_15 : decode cX4_hem 15 = .ok (.ireturn, 1) := by decide +kernel
theorem dX4_hem_16 : decode cX4_hem 16 = .ok (.aload_n 0, 1) := by decide +kernel
theorem dX4_hem_17 : decode cX4_hem 17 = .ok (.iload_n 1, 1) := by decide +kernel
theorem dX4_hem_18 : decode cX4_hem 18 = .ok (.invokevirtual 114, 3) := by decide +kernel
theorem dX4_hem_21 : decode cX4_hem 21 = .ok (.ifCond .eq 9, 3) := by decide +kernel
theorem dX4_hem_24 : decode cX4_hem 24 = .ok (.aload_n 0, 1) := by decide +kernel
theorem dX4_hem_25 : decode cX4_hem 25 = .ok (.iconst 4, 1) := by decide +kernel
theorem dX4_hem_26 : decode cX4_hem 26 = .ok (.invokevirtual 55, 3) := by decide +kernel
theorem dX4_hem_29 : decode cX4_hem 29 = .ok (.ireturn, 1) := by decide +kernel
theorem dX4_hem_30 : decode cX4_hem 30 = .ok (.iconst (-1), 1) := by decide +kernel
theorem dX4_hem_31 : decode cX4_hem 31 = .ok (.istore_n 2, 1) := by decide +kernel
theorem dX4_hem_32 : decode cX4_hem 32 = .ok (.iconst 0, 1) := by decide +kernel
theorem dX4_hem_33 : decode cX4_hem 33 = .ok (.istore_n 3, 1) := by decide +kernel
theorem dX4_hem_34 : decode cX4_hem 34 = .ok (.iconst 0, 1) := by decide +kernel
theorem dX4_hem_35 : decode cX4_hem 35 = .ok (.istore 4, 2) := by decide +kernel
theorem dX4_hem_37 : decode cX4_hem 37 = .ok (.iload 4, 2) := by decide +kernel
theorem dX4_hem_39 : decode cX4_hem 39 = .ok (.bipush 7, 2) := by decide +kernel
theorem dX4_hem_41 : decode cX4_hem 41 = .ok (.if_icmp .gt 53, 3) := by decide +kernel
theorem dX4_hem_44 : decode cX4_hem 44 = .ok (.aload_n 0, 1) := by decide +kernel
theorem dX4_hem_45 : decode cX4_hem 45 = .ok (.getfield 16, 3) := by decide +kernel
theorem dX4_hem_48 : decode cX4_hem 48 = .ok (.aload_n 0, 1) := by decide +kernel
theorem dX4_hem_49 : decode cX4_hem 49 = .ok (.getfield 10, 3) := by decide +kernel
theorem dX4_hem_52 : decode cX4_hem 52 = .ok (.invokevirtual 135, 3) := by decide +kernel
theorem dX4_hem_55 : decode cX4_hem 55 = .ok (.aload_n 0, 1) := by decide +kernel
theorem dX4_hem_56 : decode cX4_hem 56 = .ok (.getfield 16, 3) := by decide +kernel
theorem dX4_hem_59 : decode cX4_hem 59 = .ok (.iload 4, 2) := by decide +kernel
theorem dX4_hem_61 : decode cX4_hem 61 = .ok (.putfield 105, 3) := by decide +kernel
theorem dX4_hem_64 : decode cX4_hem 64 = .ok (.aload_n 0, 1) := by decide +kernel
theorem dX4_hem_65 : decode cX4_hem 65 = .ok (.iload_n 1, 1) := by decide +kernel
theorem dX4_hem_66 : decode cX4_hem 66 = .ok (.invokevirtual 161, 3) := by decide +kernel
theorem dX4_hem_69 : decode cX4_hem 69 = .ok (.istore 5, 2) := by decide +kernel
theorem dX4_hem_71 : decode cX4_hem 71 = .ok (.iload_n 2, 1) := by decide +kernel
theorem dX4_hem_72 : decode cX4_hem 72 = .ok (.iconst (-1), 1) := by decide +kernel
theorem dX4_hem_73 : decode cX4_hem 73 = .ok (.if_icmp .eq 9, 3) := by decide +kernel
theorem dX4_hem_76 : decode cX4_hem 76 = .ok (.iload 5, 2) := by decide +kernel
theorem dX4_hem_78 : decode cX4_hem 78 = .ok (.iload_n 3, 1) := by decide +kernel
theorem dX4_hem_79 : decode cX4_hem 79 = .ok (.if_icmp .ge 9, 3) := by decide +kernel
theorem dX4_hem_82 : decode cX4_hem 82 = .ok (.iload 4, 2) := by decide +kernel
theorem dX4_hem_84 : decode cX4_hem 84 = .ok (.istore_n 2, 1) := by decide +kernel
theorem dX4_hem_85 : decode cX4_hem 85 = .ok (.iload 5, 2) := by decide +kernel
theorem dX4_hem_87 : decode cX4_hem 87 = .ok (.istore_n 3, 1) := by decide +kernel
theorem dX4_hem_88 : decode cX4_hem 88 = .ok (.iinc 4 1, 3) := by decide +kernel
theorem dX4_hem_91 : decode cX4_hem 91 = .ok (.goto (-54), 3) := by decide +kernel
theorem dX4_hem_94 : decode cX4_hem 94 = .ok (.iload_n 2, 1) := by decide +kernel
theorem dX4_hem_95 : decode cX4_hem 95 = .ok (.ireturn, 1) := by decide +kernel
theorem dX4_pay_0 : decode cX4_pay 0 = .ok (.iload_n 1, 1) := by decide +kernel
theorem dX4_pay_1 : decode cX4_pay 1 = .ok (.iconst 0, 1) := by decide +kernel
theorem dX4_pay_2 : decode cX4_pay 2 = .ok (.sipush 9999, 3) := by decide +kernel
theorem dX4_pay_5 : decode cX4_pay 5 = .ok (.invokestatic 51, 3) := by decide +kernel
theorem dX4_pay_8 : decode cX4_pay 8 = .ok (.ifCond .ne 9, 3) := by decide +kernel
theorem dX4_pay_11 : decode cX4_pay 11 = .ok (.aload_n 0, 1) := by decide +kernel
theorem dX4_pay_12 : decode cX4_pay 12 = .ok (.iconst 0, 1) := by decide +kernel
theorem dX4_pay_13 : decode cX4_pay 13 = .ok (.invokevirtual 55, 3) := by decide +kernel
theorem dX4_pay_16 : decode cX4_pay 16 = .ok (.ireturn, 1) := by decide +kernel
theorem dX4_pay_17 : decode cX4_pay 17 = .ok (.aload_n 0, 1) := by decide +kernel
theorem dX4_pay_18 : decode cX4_pay 18 = .ok (.getfield 10, 3) := by decide +kernel
theorem dX4_pay_21 : decode cX4_pay 21 = .ok (.iconst 0, 1) := by decide +kernel
theorem dX4_pay_22 : decode cX4_pay 22 = .ok (.invokevirtual 108, 3) := by decide +kernel
theorem dX4_pay_25 : decode cX4_pay 25 = .ok (.istore_n 2, 1) := by decide +kernel
theorem dX4_pay_26 : decode cX4_pay 26 = .ok (.iconst (-1), 1) := by decide +kernel
theorem dX4_pay_27 : decode cX4_pay 27 = .ok (.istore_n 3, 1) := by decide +kernel
theorem dX4_pay_28 : decode cX4_pay 28 = .ok (.iconst 0, 1) := by decide +kernel
theorem dX4_pay_29 : decode cX4_pay 29 = .ok (.istore 4, 2) := by decide +kernel
theorem dX4_pay_31 : decode cX4_pay 31 = .ok (.iconst 0, 1) := by decide +kernel
theorem dX4_pay_32 : decode cX4_pay 32 = .ok (.istore 5, 2) := by decide +kernel
theorem dX4_pay_34 : decode cX4_pay 34 = .ok (.iload 5, 2) := by decide +kernel
theorem dX4_pay_36 : decode cX4_pay 36 = .ok (.aload_n 0, 1) := by decide +kernel
theorem dX4_pay_37 : decode cX4_pay 37 = .ok (.getfield 10, 3) := by decide +kernel
theorem dX4_pay_40 : decode cX4_pay 40 = .ok (.invokevirtual 173, 3) := by decide +kernel
theorem dX4_pay_43 : decode cX4_pay 43 = .ok (.if_icmp .ge 57, 3) := by decide +kernel
theorem dX4_pay_46 : decode cX4_pay 46 = .ok (.iload 5, 2) := by decide +kernel
theorem dX4_pay_48 : decode cX4_pay 48 = .ok (.iload_n 2, 1) := by decide +kernel
theorem dX4_pay_49 : decode cX4_pay 49 = .ok (.iconst (-1), 1) := by decide +kernel
theorem dX4_pay_50 : decode cX4_pay 50 = .ok (.ixor, 1) := by decide +kernel
theorem dX4_pay_51 : decode cX4_pay 51 = .ok (.iand, 1) := by decide +kernel
theorem dX4_pay_52 : decode cX4_pay 52 = .ok (.ifCond .ne 42, 3) := by decide +kernel
theorem dX4_pay_55 : decode cX4_pay 55 = .ok (.aload_n 0, 1) := by decide +kernel
theorem dX4_pay_56 : decode cX4_pay 56 = .ok (.getfield 10, 3) := by decide +kernel
theorem dX4_pay_59 : decode cX4_pay 59 = .ok (.iload 5, 2) := by decide +kernel
theorem dX4_pay_61 : decode cX4_pay 61 = .ok (.invokevirtual 167, 3) := by decide +kernel
theorem dX4_pay_64 : decode cX4_pay 64 = .ok (.iload_n 1, 1) := by decide +kernel
theorem dX4_pay_65 : decode cX4_pay 65 = .ok (.if_icmp .ne 29, 3) := by decide +kernel
theorem dX4_pay_68 : decode cX4_pay 68 = .ok (.iload 5, 2) := by decide +kernel
theorem dX4_pay_70 : decode cX4_pay 70 = .ok (.invokestatic 120, 3) := by decide +kernel
theorem dX4_pay_73 : decode cX4_pay 73 = .ok (.istore 6, 2) := by decide +kernel
theorem dX4_pay_75 : decode cX4_pay 75 = .ok (.iload_n 3, 1) := by decide +kernel
theorem dX4_pay_76 : decode cX4_pay 76 = .ok (.iconst (-1), 1) := by decide +kernel
theorem dX4_pay_77 : decode cX4_pay 77 = .ok (.if_icmp .eq 10, 3) := by decide +kernel
theorem dX4_pay_80 : decode cX4_pay 80 = .ok (.iload 6, 2) := by decide +kernel
theorem dX4_pay_82 : decode cX4_pay 82 = .ok (.iload 4, 2) := by decide +kernel
theorem dX4_pay_84 : decode cX4_pay 84 = .ok (.if_icmp .ge 10, 3) := by decide +kernel
theorem dX4_pay_87 : decode cX4_pay 87 = .ok (.iload 5, 2) := by decide +kernel
theorem dX4_pay_89 : decode cX4_pay 89 = .ok (.istore_n 3, 1) := by decide +kernel
theorem dX4_pay_90 : decode cX4_pay 90 = .ok (.iload 6, 2) := by decide +kernel
theorem dX4_pay_92 : decode cX4_pay 92 = .ok (.istore 4, 2) := by decide +kernel
theorem dX4_pay_94 : decode cX4_pay 94 = .ok (.iinc 5 1, 3) := by decide +kernel
theorem dX4_pay_97 : decode cX4_pay 97 = .ok (.goto (-63), 3) := by decide +kernel
theorem dX4_pay_100 : decode cX4_pay 100 = .ok (.iload_n 3, 1) := by decide +kernel
theorem dX4_pay_101 : decode cX4_pay 101 = .ok (.iconst (-1), 1) := by decide +kernel
theorem dX4_pay_102 : decode cX4_pay 102 = .ok (.if_icmp .ne 11, 3) := by decide +kernel
theorem dX4_pay_105 : decode cX4_pay 105 = .ok (.aload_n 0, 1) := by decide +kernel
theorem dX4_pay_106 : decode cX4_pay 106 = .ok (.iconst 3, 1) := by decide +kernel
theorem dX4_pay_107 : decode cX4_pay 107 = .ok (.invokevirtual 55, 3) := by decide +kernel
theorem dX4_pay_110 : decode cX4_pay 110 = .ok (.goto 4, 3) := by decide +kernel
theorem dX4_pay_113 : decode cX4_pay 113 = .ok (.iload_n 3, 1) := by decide +kernel
theorem dX4_pay_114 : decode cX4_pay 114 = .ok (.ireturn, 1) := by decide +kernel
theorem dX4_small_0 : decode cX4_small 0 = .ok (.iload_n 1, 1) := by decide +kernel
theorem dX4_small_1 : decode cX4_small 1 = .ok (.iconst 0, 1) := by decide +kernel
theorem dX4_small_2 : decode cX4_small 2 = .ok (.sipush 9999, 3) := by decide +kernel
theorem dX4_small_5 : decode cX4_small 5 = .ok (.invokestatic 51, 3) := by decide +kernel
theorem dX4_small_8 : decode cX4_small 8 = .ok (.ifCond .ne 9, 3) := by decide +kernel
theorem dX4_small_11 : decode cX4_small 11 = .ok (.aload_n 0, 1) := by decide +kernel
theorem dX4_small_12 : decode cX4_small 12 = .ok (.iconst 0, 1) := by decide +kernel
theorem dX4_small_13 : decode cX4_small 13 = .ok (.invokevirtual 55, 3) := by decide +kernel
theorem dX4_small_16 : decode cX4_small 16 = .ok (.ireturn, 1) := by decide +kernel
theorem dX4_small_17 : decode cX4_small 17 = .ok (.aload_n 0, 1) := by decide +kernel
theorem dX4_small_18 : decode cX4_small 18 = .ok (.getfield 10, 3) := by decide +kernel
theorem dX4_small_21 : decode cX4_small 21 = .ok (.iconst 0, 1) := by decide +kernel
theorem dX4_small_22 : decode cX4_small 22 = .ok (.invokevirtual 108, 3) := by decide +kernel
theorem dX4_small_25 : decode cX4_small 25 = .ok (.istore_n 2, 1) := by decide +kernel
theorem dX4_small_26 : decode cX4_small 26 = .ok (.aload_n 0, 1) := by decide +kernel
theorem dX4_small_27 : decode cX4_small 27 = .ok (.getfield 10, 3) := by decide +kernel
theorem dX4_small_30 : decode cX4_small 30 = .ok (.invokevirtual 176, 3) := by decide +kernel
theorem dX4_small_33 : decode cX4_small 33 = .ok (.istore_n 3, 1) := by decide +kernel
theorem dX4_small_34 : decode cX4_small 34 = .ok (.iconst (-1), 1) := by decide +kernel
theorem dX4_small_35 : decode cX4_small 35 = .ok (.istore 4, 2) := by decide +kernel
theorem dX4_small_37 : decode cX4_small 37 = .ok (.iconst 0, 1) := by decide +kernel
theorem dX4_small_38 : decode cX4_small 38 = .ok (.istore 5, 2) := by decide +kernel
theorem dX4_small_40 : decode cX4_small 40 = .ok (.iconst 0, 1) := by decide +kernel
theorem dX4_small_41 : decode cX4_small 41 = .ok (.istore 6, 2) := by decide +kernel
theorem dX4_small_43 : decode cX4_small 43 = .ok (.iload 6, 2) := by decide +kernel
theorem dX4_small_45 : decode cX4_small 45 = .ok (.aload_n 0, 1) := by decide +kernel
theorem dX4_small_46 : decode cX4_small 46 = .ok (.getfield 10, 3) := by decide +kernel
theorem dX4_small_49 : decode cX4_small 49 = .ok (.invokevirtual 173, 3) := by decide +kernel
theorem dX4_small_52 : decode cX4_small 52 = .ok (.if_icmp .ge 61, 3) := by decide +kernel
theorem dX4_small_55 : decode cX4_small 55 = .ok (.iload 6, 2) := by decide +kernel
theorem dX4_small_57 : decode cX4_small 57 = .ok (.iload_n 2, 1) := by decide +kernel
theorem dX4_small_58 : decode cX4_small 58 = .ok (.iconst (-1), 1) := by decide +kernel
theorem dX4_small_59 : decode cX4_small 59 = .ok (.ixor, 1) := by decide +kernel
theorem dX4_small_60 : decode cX4_small 60 = .ok (.iand, 1) := by decide +kernel
theorem dX4_small_61 : decode cX4_small 61 = .ok (.ifCond .ne 46, 3) := by decide +kernel
theorem dX4_small_64 : decode cX4_small 64 = .ok (.aload_n 0, 1) := by decide +kernel
theorem dX4_small_65 : decode cX4_small 65 = .ok (.getfield 10, 3) := by decide +kernel
theorem dX4_small_68 : decode cX4_small 68 = .ok (.iload 6, 2) := by decide +kernel
theorem dX4_small_70 : decode cX4_small 70 = .ok (.invokevirtual 167, 3) := by decide +kernel
theorem dX4_small_73 : decode cX4_small 73 = .ok (.iload_n 1, 1) := by decide +kernel
theorem dX4_small_74 : decode cX4_small 74 = .ok (.if_icmp .ne 33, 3) := by decide +kernel
theorem dX4_small_77 : decode cX4_small 77 = .ok (.iload 6, 2) := by decide +kernel
theorem dX4_small_79 : decode cX4_small 79 = .ok (.iload_n 3, 1) := by decide +kernel
theorem dX4_small_80 : decode cX4_small 80 = .ok (.iand, 1) := by decide +kernel
theorem dX4_small_81 : decode cX4_small 81 = .ok (.invokestatic 120, 3) := by decide +kernel
theorem dX4_small_84 : decode cX4_small 84 = .ok (.istore 7, 2) := by decide +kernel
theorem dX4_small_86 : decode cX4_small 86 = .ok (.iload 4, 2) := by decide +kernel
theorem dX4_small_88 : decode cX4_small 88 = .ok (.iconst (-1), 1) := by decide +kernel
theorem dX4_small_89 : decode cX4_small 89 = .ok (.if_icmp .eq 10, 3) := by decide +kernel
theorem dX4_small_92 : decode cX4_small 92 = .ok (.iload 7, 2) := by decide +kernel
theorem dX4_small_94 : decode cX4_small 94 = .ok (.iload 5, 2) := by decide +kernel
theorem dX4_small_96 : decode cX4_small 96 = .ok (.if_icmp .le 11, 3) := by decide +kernel
theorem dX4_small_99 : decode cX4_small 99 = .ok (.iload 6, 2) := by decide +kernel
theorem dX4_small_101 : decode cX4_small 101 = .ok (.istore 4, 2) := by decide +kernel
theorem dX4_small_103 : decode cX4_small 103 = .ok (.iload 7, 2) := by decide +kernel
theorem dX4_small_105 : decode cX4_small 105 = .ok (.istore 5, 2) := by decide +kernel
theorem dX4_small_107 : decode cX4_small 107 = .ok (.iinc 6 1, 3) := by decide +kernel
theorem dX4_small_110 : decode cX4_small 110 = .ok (.goto (-67), 3) := by decide +kernel
theorem dX4_small_113 : decode cX4_small 113 = .ok (.iload 4, 2) := by decide +kernel
theorem dX4_small_115 : decode cX4_small 115 = .ok (.iconst (-1), 1) := by decide +kernel
theorem dX4_small_116 : decode cX4_small 116 = .ok (.if_icmp .ne 11, 3) := by decide +kernel
theorem dX4_small_119 : decode cX4_small 119 = .ok (.aload_n 0, 1) := by decide +kernel
theorem dX4_small_120 : decode cX4_small 120 = .ok (.iconst 3, 1) := by decide +kernel
theorem dX4_small_121 : decode cX4_small 121 = .ok (.invokevirtual 55, 3) := by decide +kernel
theorem dX4_small_124 : decode cX4_small 124 = .ok (.goto 5, 3) := by decide +kernel
theorem dX4_small_127 : decode cX4_small 127 = .ok (.iload 4, 2) := by decide +kernel
theorem dX4_small_129 : decode cX4_small 129 = .ok (.ireturn, 1) := by decide +kernel
theorem dX4_paid_0 : decode cX4_paid 0 = .ok (.aload_n 0, 1) := by decide +kernel
theorem dX4_paid_1 : decode cX4_paid 1 = .ok (.getfield 10, 3) := by decide +kernel
theorem dX4_paid_4 : decode cX4_paid 4 = .ok (.iload_n 1, 1) := by decide +kernel
theorem dX4_paid_5 : decode cX4_paid 5 = .ok (.invokevirtual 179, 3) := by decide +kernel
theorem dX4_paid_8 : decode cX4_paid 8 = .ok (.ifCond .ne 9, 3) := by decide +kernel
theorem dX4_paid_11 : decode cX4_paid 11 = .ok (.aload_n 0, 1) := by decide +kernel
theorem dX4_paid_12 : decode cX4_paid 12 = .ok (.iconst 0, 1) := by decide +kernel
theorem dX4_paid_13 : decode cX4_paid 13 = .ok (.invokevirtual 55, 3) := by decide +kernel
theorem dX4_paid_16 : decode cX4_paid 16 = .ok (.ireturn, 1) := by decide +kernel
theorem dX4_paid_17 : decode cX4_paid 17 = .ok (.iload_n 1, 1) := by decide +kernel
theorem dX4_paid_18 : decode cX4_paid 18 = .ok (.aload_n 0, 1) := by decide +kernel
theorem dX4_paid_19 : decode cX4_paid 19 = .ok (.getfield 10, 3) := by decide +kernel
theorem dX4_paid_22 : decode cX4_paid 22 = .ok (.iconst 0, 1) := by decide +kernel
theorem dX4_paid_23 : decode cX4_paid 23 = .ok (.invokevirtual 108, 3) := by decide +kernel
theorem dX4_paid_26 : decode cX4_paid 26 = .ok (.iconst (-1), 1) := by decide +kernel
theorem dX4_paid_27 : decode cX4_paid 27 = .ok (.ixor, 1) := by decide +kernel
theorem dX4_paid_28 : decode cX4_paid 28 = .ok (.iand, 1) := by decide +kernel
theorem dX4_paid_29 : decode cX4_paid 29 = .ok (.ifCond .eq 9, 3) := by decide +kernel
theorem dX4_paid_32 : decode cX4_paid 32 = .ok (.aload_n 0, 1) := by decide +kernel
theorem dX4_paid_33 : decode cX4_paid 33 = .ok (.iconst 4, 1) := by decide +kernel
theorem dX4_paid_34 : decode cX4_paid 34 = .ok (.invokevirtual 55, 3) := by decide +kernel
theorem dX4_paid_37 : decode cX4_paid 37 = .ok (.ireturn, 1) := by decide +kernel
theorem dX4_paid_38 : decode cX4_paid 38 = .ok (.iconst 0, 1) := by decide +kernel
theorem dX4_paid_39 : decode cX4_paid 39 = .ok (.istore_n 2, 1) := by decide +kernel
theorem dX4_paid_40 : decode cX4_paid 40 = .ok (.iload_n 2, 1) := by decide +kernel
theorem dX4_paid_41 : decode cX4_paid 41 = .ok (.aload_n 0, 1) := by decide +kernel
theorem dX4_paid_42 : decode cX4_paid 42 = .ok (.getfield 10, 3) := by decide +kernel
theorem dX4_paid_45 : decode cX4_paid 45 = .ok (.getfield 59, 3) := by decide +kernel
theorem dX4_paid_48 : decode cX4_paid 48 = .ok (.if_icmp .ge 31, 3) := by decide +kernel
theorem dX4_paid_51 : decode cX4_paid 51 = .ok (.iload_n 1, 1) := by decide +kernel
theorem dX4_paid_52 : decode cX4_paid 52 = .ok (.iload_n 2, 1) := by decide +kernel
theorem dX4_paid_53 : decode cX4_paid 53 = .ok (.ishr, 1) := by decide +kernel
theorem dX4_paid_54 : decode cX4_paid 54 = .ok (.iconst 1, 1) := by decide +kernel
theorem dX4_paid_55 : decode cX4_paid 55 = .ok (.iand, 1) := by decide +kernel
theorem dX4_paid_56 : decode cX4_paid 56 = .ok (.iconst 1, 1) := by decide +kernel
theorem dX4_paid_57 : decode cX4_paid 57 = .ok (.if_icmp .ne 16, 3) := by decide +kernel
theorem dX4_paid_60 : decode cX4_paid 60 = .ok (.aload_n 0, 1) := by decide +kernel
theorem dX4_paid_61 : decode cX4_paid 61 = .ok (.getfield 10, 3) := by decide +kernel
theorem dX4_paid_64 : decode cX4_paid 64 = .ok (.getfield 71, 3) := by decide +kernel
theorem dX4_paid_67 : decode cX4_paid 67 = .ok (.iload_n 2, 1) := by decide +kernel
theorem dX4_paid_68 : decode cX4_paid 68 = .ok (.aaload, 1) := by decide +kernel
theorem dX4_paid_69 : decode cX4_paid 69 = .ok (.iconst 4, 1) := by decide +kernel
theorem dX4_paid_70 : decode cX4_paid 70 = .ok (.invokevirtual 98, 3) := by decide +kernel
theorem dX4_paid_73 : decode cX4_paid 73 = .ok (.iinc 2 1, 3) := by decide +kernel
theorem dX4_paid_76 : decode cX4_paid 76 = .ok (.goto (-36), 3) := by decide +kernel
theorem dX4_paid_79 : decode cX4_paid 79 = .ok (.aload_n 0, 1) := by decide +kernel
theorem dX4_paid_80 : decode cX4_paid 80 = .ok (.getfield 10, 3) := by decide +kernel
theorem dX4_paid_83 : decode cX4_paid 83 = .ok (.iload_n 1, 1) := by decide +kernel
theorem dX4_paid_84 : decode cX4_paid 84 = .ok (.invokevirtual 167, 3) := by decide +kernel
theorem dX4_paid_87 : decode cX4_paid 87 = .ok (.ireturn, 1) := by decide +kernel
theorem dX4_sums_0 : decode cX4_sums 0 = .ok (.iconst 0, 1) := by decide +kernel
theorem dX4_sums_1 : decode cX4_sums 1 = .ok (.istore_n 1, 1) := by decide +kernel
theorem dX4_sums_2 : decode cX4_sums 2 = .ok (.iload_n 1, 1) := by decide +kernel
theorem dX4_sums_3 : decode cX4_sums 3 = .ok (.bipush 38, 2) := by decide +kernel
theorem dX4_sums_5 : decode cX4_sums 5 = .ok (.if_icmp .ge 16, 3) := by decide +kernel
theorem dX4_sums_8 : decode cX4_sums 8 = .ok (.aload_n 0, 1) := by decide +kernel
theorem dX4_sums_9 : decode cX4_sums 9 = .ok (.getfield 43, 3) := by decide +kernel
theorem dX4_sums_12 : decode cX4_sums 12 = .ok (.iload_n 1, 1) := by decide +kernel
theorem dX4_sums_13 : decode cX4_sums 13 = .ok (.lconst 0, 1) := by decide +kernel
theorem dX4_sums_14 : decode cX4_sums 14 = .ok (.lastore, 1) := by decide +kernel
theorem dX4_sums_15 : decode cX4_sums 15 = .ok (.iinc 1 1, 3) := by decide +kernel
theorem dX4_sums_18 : decode cX4_sums 18 = .ok (.goto (-16), 3) := by decide +kernel
theorem dX4_sums_21 : decode cX4_sums 21 = .ok (.aload_n 0, 1) := by decide +kernel
theorem dX4_sums_22 : decode cX4_sums 22 = .ok (.getfield 43, 3) := by decide +kernel
theorem dX4_sums_25 : decode cX4_sums 25 = .ok (.iconst 0, 1) := by decide +kernel
theorem dX4_sums_26 : decode cX4_sums 26 = .ok (.lconst 1, 1) := by decide +kernel
theorem dX4_sums_27 : decode cX4_sums 27 = .ok (.lastore, 1) := by decide +kernel
theorem dX4_sums_28 : decode cX4_sums 28 = .ok (.iconst 0, 1) := by decide +kernel
theorem dX4_sums_29 : decode cX4_sums 29 = .ok (.istore_n 1, 1) := by decide +kernel
theorem dX4_sums_30 : decode cX4_sums 30 = .ok (.iload_n 1, 1) := by decide +kernel
theorem dX4_sums_31 : decode cX4_sums 31 = .ok (.aload_n 0, 1) := by decide +kernel
theorem dX4_sums_32 : decode cX4_sums 32 = .ok (.getfield 10, 3) := by decide +kernel
theorem dX4_sums_35 : decode cX4_sums 35 = .ok (.getfield 59, 3) := by decide +kernel
theorem dX4_sums_38 : decode cX4_sums 38 = .ok (.if_icmp .ge 40, 3) := by decide +kernel
theorem dX4_sums_41 : decode cX4_sums 41 = .ok (.aload_n 0, 1) := by decide +kernel
theorem dX4_sums_42 : decode cX4_sums 42 = .ok (.getfield 10, 3) := by decide +kernel
theorem dX4_sums_45 : decode cX4_sums 45 = .ok (.getfield 71, 3) := by decide +kernel
theorem dX4_sums_48 : decode cX4_sums 48 = .ok (.iload_n 1, 1) := by decide +kernel
theorem dX4_sums_49 : decode cX4_sums 49 = .ok (.aaload, 1) := by decide +kernel
theorem dX4_sums_50 : decode cX4_sums 50 = .ok (.getfield 95, 3) := by decide +kernel
theorem dX4_sums_53 : decode cX4_sums 53 = .ok (.ifCond .ne 19, 3) := by decide +kernel
theorem dX4_sums_56 : decode cX4_sums 56 = .ok (.aload_n 0, 1) := by decide +kernel
theorem dX4_sums_57 : decode cX4_sums 57 = .ok (.aload_n 0, 1) := by decide +kernel
theorem dX4_sums_58 : decode cX4_sums 58 = .ok (.getfield 10, 3) := by decide +kernel
theorem dX4_sums_61 : decode cX4_sums 61 = .ok (.getfield 71, 3) := by decide +kernel
theorem dX4_sums_64 : decode cX4_sums 64 = .ok (.iload_n 1, 1) := by decide +kernel
theorem dX4_sums_65 : decode cX4_sums 65 = .ok (.aaload, 1) := by decide +kernel
theorem dX4_sums_66 : decode cX4_sums 66 = .ok (.getfield 182, 3) := by decide +kernel
theorem dX4_sums_69 : decode cX4_sums 69 = .ok (.invokevirtual 185, 3) := by decide +kernel
theorem dX4_sums_72 : decode cX4_sums 72 = .ok (.iinc 1 1, 3) := by decide +kernel
theorem dX4_sums_75 : decode cX4_sums 75 = .ok (.goto (-45), 3) := by decide +kernel
theorem dX4_sums_78 : decode cX4_sums 78 = .ok (.iconst 0, 1) := by decide +kernel
theorem dX4_sums_79 : decode cX4_sums 79 = .ok (.istore_n 1, 1) := by decide +kernel
theorem dX4_sums_80 : decode cX4_sums 80 = .ok (.iconst 0, 1) := by decide +kernel
theorem dX4_sums_81 : decode cX4_sums 81 = .ok (.istore_n 2, 1) := by decide +kernel
theorem dX4_sums_82 : decode cX4_sums 82 = .ok (.iload_n 2, 1) := by decide +kernel
theorem dX4_sums_83 : decode cX4_sums 83 = .ok (.bipush 38, 2) := by decide +kernel
theorem dX4_sums_85 : decode cX4_sums 85 = .ok (.if_icmp .ge 21, 3) := by decide +kernel
theorem dX4_sums_88 : decode cX4_sums 88 = .ok (.iload_n 1, 1) := by decide +kernel
theorem dX4_sums_89 : decode cX4_sums 89 = .ok (.aload_n 0, 1) := by decide +kernel
theorem dX4_sums_90 : decode cX4_sums 90 = .ok (.getfield 43, 3) := by decide +kernel
theorem dX4_sums_93 : decode cX4_sums 93 = .ok (.iload_n 2, 1) := by decide +kernel
theorem dX4_sums_94 : decode cX4_sums 94 = .ok (.laload, 1) := by decide +kernel
theorem dX4_sums_95 : decode cX4_sums 95 = .ok (.invokestatic 188, 3) := by decide +kernel
theorem dX4_sums_98 : decode cX4_sums 98 = .ok (.iadd, 1) := by decide +kernel
theorem dX4_sums_99 : decode cX4_sums 99 = .ok (.istore_n 1, 1) := by decide +kernel
theorem dX4_sums_100 : decode cX4_sums 100 = .ok (.iinc 2 1, 3) := by decide +kernel
theorem dX4_sums_103 : decode cX4_sums 103 = .ok (.goto (-21), 3) := by decide +kernel
theorem dX4_sums_106 : decode cX4_sums 106 = .ok (.iload_n 1, 1) := by decide +kernel
theorem dX4_sums_107 : decode cX4_sums 107 = .ok (.ireturn, 1) := by decide +kernel
theorem dX4_fits_0 : decode cX4_fits 0 = .ok (.aload_n 0, 1) := by decide +kernel
theorem dX4_fits_1 : decode cX4_fits 1 = .ok (.getfield 10, 3) := by decide +kernel
theorem dX4_fits_4 : decode cX4_fits 4 = .ok (.iload_n 1, 1) := by decide +kernel
theorem dX4_fits_5 : decode cX4_fits 5 = .ok (.invokevirtual 179, 3) := by decide +kernel
theorem dX4_fits_8 : decode cX4_fits 8 = .ok (.ifCond .eq 13, 3) := by decide +kernel
theorem dX4_fits_11 : decode cX4_fits 11 = .ok (.iload_n 2, 1) := by decide +kernel
theorem dX4_fits_12 : decode cX4_fits 12 = .ok (.iconst 1, 1) := by decide +kernel
theorem dX4_fits_13 : decode cX4_fits 13 = .ok (.bipush 60, 2) := by decide +kernel
theorem dX4_fits_15 : decode cX4_fits 15 = .ok (.invokestatic 51, 3) := by decide +kernel
theorem dX4_fits_18 : decode cX4_fits 18 = .ok (.ifCond .ne 9, 3) := by decide +kernel
theorem dX4_fits_21 : decode cX4_fits 21 = .ok (.aload_n 0, 1) := by decide +kernel
theorem dX4_fits_22 : decode cX4_fits 22 = .ok (.iconst 0, 1) := by decide +kernel
theorem dX4_fits_23 : decode cX4_fits 23 = .ok (.invokevirtual 55, 3) := by decide +kernel
theorem dX4_fits_26 : decode cX4_fits 26 = .ok (.ireturn, 1) := by decide +kernel
theorem dX4_fits_27 : decode cX4_fits 27 = .ok (.aload_n 0, 1) := by decide +kernel
theorem dX4_fits_28 : decode cX4_fits 28 = .ok (.iload_n 2, 1) := by decide +kernel
theorem dX4_fits_29 : decode cX4_fits 29 = .ok (.invokevirtual 114, 3) := by decide +kernel
theorem dX4_fits_32 : decode cX4_fits 32 = .ok (.ifCond .eq 9, 3) := by decide +kernel
theorem dX4_fits_35 : decode cX4_fits 35 = .ok (.aload_n 0, 1) := by decide +kernel
theorem dX4_fits_36 : decode cX4_fits 36 = .ok (.iconst 4, 1) := by decide +kernel
theorem dX4_fits_37 : decode cX4_fits 37 = .ok (.invokevirtual 55, 3) := by decide +kernel
theorem dX4_fits_40 : decode cX4_fits 40 = .ok (.ireturn, 1) := by decide +kernel
theorem dX4_fits_41 : decode cX4_fits 41 = .ok (.iconst 0, 1) := by decide +kernel
theorem dX4_fits_42 : decode cX4_fits 42 = .ok (.istore_n 3, 1) := by decide +kernel
theorem dX4_fits_43 : decode cX4_fits 43 = .ok (.iconst 0, 1) := by decide +kernel
theorem dX4_fits_44 : decode cX4_fits 44 = .ok (.istore 4, 2) := by decide +kernel
theorem dX4_fits_46 : decode cX4_fits 46 = .ok (.iload 4, 2) := by decide +kernel
theorem dX4_fits_48 : decode cX4_fits 48 = .ok (.bipush 99, 2) := by decide +kernel
theorem dX4_fits_50 : decode cX4_fits 50 = .ok (.if_icmp .gt 23, 3) := by decide +kernel
theorem dX4_fits_53 : decode cX4_fits 53 = .ok (.aload_n 0, 1) := by decide +kernel
theorem dX4_fits_54 : decode cX4_fits 54 = .ok (.iload 4, 2) := by decide +kernel
theorem dX4_fits_56 : decode cX4_fits 56 = .ok (.iload_n 2, 1) := by decide +kernel
theorem dX4_fits_57 : decode cX4_fits 57 = .ok (.invokevirtual 158, 3) := by decide +kernel
theorem dX4_fits_60 : decode cX4_fits 60 = .ok (.iload_n 1, 1) := by decide +kernel
theorem dX4_fits_61 : decode cX4_fits 61 = .ok (.if_icmp .ne 6, 3) := by decide +kernel
theorem dX4_fits_64 : decode cX4_fits 64 = .ok (.iinc 3 1, 3) := by decide +kernel
theorem dX4_fits_67 : decode cX4_fits 67 = .ok (.iinc 4 1, 3) := by decide +kernel
theorem dX4_fits_70 : decode cX4_fits 70 = .ok (.goto (-24), 3) := by decide +kernel
theorem dX4_fits_73 : decode cX4_fits 73 = .ok (.iload_n 3, 1) := by decide +kernel
theorem dX4_fits_74 : decode cX4_fits 74 = .ok (.ireturn, 1) := by decide +kernel
theorem dX4_size_0 : decode cX4_size 0 = .ok (.aload_n 0, 1) := by decide +kernel
theorem dX4_size_1 : decode cX4_size 1 = .ok (.getfield 10, 3) := by decide +kernel
theorem dX4_size_4 : decode cX4_size 4 = .ok (.iload_n 1, 1) := by decide +kernel
theorem dX4_size_5 : decode cX4_size 5 = .ok (.invokevirtual 179, 3) := by decide +kernel
theorem dX4_size_8 : decode cX4_size 8 = .ok (.ifCond .eq 13, 3) := by decide +kernel
theorem dX4_size_11 : decode cX4_size 11 = .ok (.iload_n 2, 1) := by decide +kernel
theorem dX4_size_12 : decode cX4_size 12 = .ok (.iconst 1, 1) := by decide +kernel
theorem dX4_size_13 : decode cX4_size 13 = .ok (.bipush 60, 2) := by decide +kernel
theorem dX4_size_15 : decode cX4_size 15 = .ok (.invokestatic 51, 3) := by decide +kernel
theorem dX4_size_18 : decode cX4_size 18 = .ok (.ifCond .ne 9, 3) := by decide +kernel
theorem dX4_size_21 : decode cX4_size 21 = .ok (.aload_n 0, 1) := by decide +kernel
theorem dX4_size_22 : decode cX4_size 22 = .ok (.iconst 0, 1) := by decide +kernel
theorem dX4_size_23 : decode cX4_size 23 = .ok (.invokevirtual 55, 3) := by decide +kernel
theorem dX4_size_26 : decode cX4_size 26 = .ok (.ireturn, 1) := by decide +kernel
theorem dX4_size_27 : decode cX4_size 27 = .ok (.aload_n 0, 1) := by decide +kernel
theorem dX4_size_28 : decode cX4_size 28 = .ok (.iload_n 2, 1) := by decide +kernel
theorem dX4_size_29 : decode cX4_size 29 = .ok (.invokevirtual 114, 3) := by decide +kernel
theorem dX4_size_32 : decode cX4_size 32 = .ok (.ifCond .eq 9, 3) := by decide +kernel
theorem dX4_size_35 : decode cX4_size 35 = .ok (.aload_n 0, 1) := by decide +kernel
theorem dX4_size_36 : decode cX4_size 36 = .ok (.iconst 4, 1) := by decide +kernel
theorem dX4_size_37 : decode cX4_size 37 = .ok (.invokevirtual 55, 3) := by decide +kernel
theorem dX4_size_40 : decode cX4_size 40 = .ok (.ireturn, 1) := by decide +kernel
theorem dX4_size_41 : decode cX4_size 41 = .ok (.iconst 0, 1) := by decide +kernel
theorem dX4_size_42 : decode cX4_size 42 = .ok (.istore_n 3, 1) := by decide +kernel
theorem dX4_size_43 : decode cX4_size 43 = .ok (.iload_n 3, 1) := by decide +kernel
theorem dX4_size_44 : decode cX4_size 44 = .ok (.bipush 99, 2) := by decide +kernel
theorem dX4_size_46 : decode cX4_size 46 = .ok (.if_icmp .gt 21, 3) := by decide +kernel
theorem dX4_size_49 : decode cX4_size 49 = .ok (.aload_n 0, 1) := by decide +kernel
theorem dX4_size_50 : decode cX4_size 50 = .ok (.iload_n 3, 1) := by decide +kernel
theorem dX4_size_51 : decode cX4_size 51 = .ok (.iload_n 2, 1) := by decide +kernel
theorem dX4_size_52 : decode cX4_size 52 = .ok (.invokevirtual 158, 3) := by decide +kernel
theorem dX4_size_55 : decode cX4_size 55 = .ok (.iload_n 1, 1) := by decide +kernel
theorem dX4_size_56 : decode cX4_size 56 = .ok (.if_icmp .ne 5, 3) := by decide +kernel
theorem dX4_size_59 : decode cX4_size 59 = .ok (.iload_n 3, 1) := by decide +kernel
theorem dX4_size_60 : decode cX4_size 60 = .ok (.ireturn, 1) := by decide +kernel
theorem dX4_size_61 : decode cX4_size 61 = .ok (.iinc 3 1, 3) := by decide +kernel
theorem dX4_size_64 : decode cX4_size 64 = .ok (.goto (-21), 3) := by decide +kernel
theorem dX4_size_67 : decode cX4_size 67 = .ok (.aload_n 0, 1) := by decide +kernel
theorem dX4_size_68 : decode cX4_size 68 = .ok (.iconst 3, 1) := by decide +kernel
theorem dX4_size_69 : decode cX4_size 69 = .ok (.invokevirtual 55, 3) := by decide +kernel
theorem dX4_size_72 : decode cX4_size 72 = .ok (.ireturn, 1) := by decide +kernel
theorem dX4_began_0 : decode cX4_began 0 = .ok (.aload_n 0, 1) := by decide +kernel
theorem dX4_began_1 : decode cX4_began 1 = .ok (.getfield 10, 3) := by decide +kernel
theorem dX4_began_4 : decode cX4_began 4 = .ok (.iload_n 1, 1) := by decide +kernel
theorem dX4_began_5 : decode cX4_began 5 = .ok (.invokevirtual 179, 3) := by decide +kernel
theorem dX4_began_8 : decode cX4_began 8 = .ok (.ifCond .ne 9, 3) := by decide +kernel
theorem dX4_began_11 : decode cX4_began 11 = .ok (.aload_n 0, 1) := by decide +kernel
theorem dX4_began_12 : decode cX4_began 12 = .ok (.iconst 0, 1) := by decide +kernel
theorem dX4_began_13 : decode cX4_began 13 = .ok (.invokevirtual 55, 3) := by decide +kernel
theorem dX4_began_16 : decode cX4_began 16 = .ok (.ireturn, 1) := by decide +kernel
theorem dX4_began_17 : decode cX4_began 17 = .ok (.aload_n 0, 1) := by decide +kernel
theorem dX4_began_18 : decode cX4_began 18 = .ok (.bipush 30, 2) := by decide +kernel
theorem dX4_began_20 : decode cX4_began 20 = .ok (.invokevirtual 114, 3) := by decide +kernel
theorem dX4_began_23 : decode cX4_began 23 = .ok (.ifCond .eq 9, 3) := by decide +kernel
theorem dX4_began_26 : decode cX4_began 26 = .ok (.aload_n 0, 1) := by decide +kernel
theorem dX4_began_27 : decode cX4_began 27 = .ok (.iconst 4, 1) := by decide +kernel
theorem dX4_began_28 : decode cX4_began 28 = .ok (.invokevirtual 55, 3) := by decide +kernel
theorem dX4_began_31 : decode cX4_began 31 = .ok (.ireturn, 1) := by decide +kernel
theorem dX4_began_32 : decode cX4_began 32 = .ok (.iconst 0, 1) := by decide +kernel
theorem dX4_began_33 : decode cX4_began 33 = .ok (.istore_n 2, 1) := by decide +kernel
theorem dX4_began_34 : decode cX4_began 34 = .ok (.aload_n 0, 1) := by decide +kernel
theorem dX4_began_35 : decode cX4_began 35 = .ok (.getfield 16, 3) := by decide +kernel
theorem dX4_began_38 : decode cX4_began 38 = .ok (.aload_n 0, 1) := by decide +kernel
theorem dX4_began_39 : decode cX4_began 39 = .ok (.getfield 10, 3) := by decide +kernel
theorem dX4_began_42 : decode cX4_began 42 = .ok (.invokevirtual 135, 3) := by decide +kernel
theorem dX4_began_45 : decode cX4_began 45 = .ok (.iconst 1, 1) := by decide +kernel
theorem dX4_began_46 : decode cX4_began 46 = .ok (.istore_n 3, 1) := by decide +kernel
theorem dX4_began_47 : decode cX4_began 47 = .ok (.iload_n 3, 1) := by decide +kernel
theorem dX4_began_48 : decode cX4_began 48 = .ok (.bipush 30, 2) := by decide +kernel
theorem dX4_began_50 : decode cX4_began 50 = .ok (.if_icmp .gt 31, 3) := by decide +kernel
theorem dX4_began_53 : decode cX4_began 53 = .ok (.aload_n 0, 1) := by decide +kernel
theorem dX4_began_54 : decode cX4_began 54 = .ok (.getfield 16, 3) := by decide +kernel
theorem dX4_began_57 : decode cX4_began 57 = .ok (.invokevirtual 148, 3) := by decide +kernel
theorem dX4_began_60 : decode cX4_began 60 = .ok (.pop, 1) := by decide +kernel
theorem dX4_began_61 : decode cX4_began 61 = .ok (.aload_n 0, 1) := by decide +kernel
theorem dX4_began_62 : decode cX4_began 62 = .ok (.invokevirtual 139, 3) := by decide +kernel
theorem dX4_began_65 : decode cX4_began 65 = .ok (.iload_n 1, 1) := by decide +kernel
theorem dX4_began_66 : decode cX4_began 66 = .ok (.if_icmp .ne 9, 3) := by decide +kernel
theorem dX4_began_69 : decode cX4_began 69 = .ok (.iload_n 2, 1) := by decide +kernel
theorem dX4_began_70 : decode cX4_began 70 = .ok (.iconst 1, 1) := by decide +kernel
theorem dX4_began_71 : decode cX4_began 71 = .ok (.iload_n 3, 1) := by decide +kernel
theorem dX4_began_72 : decode cX4_began 72 = .ok (.ishl, 1) := by decide +kernel
theorem dX4_began_73 : decode cX4_began 73 = .ok (.ior, 1) := by decide +kernel
theorem dX4_began_74 : decode cX4_began 74 = .ok (.istore_n 2, 1) := by decide +kernel
theorem dX4_began_75 : decode cX4_began 75 = .ok (.iinc 3 1, 3) := by decide +kernel
theorem dX4_began_78 : decode cX4_began 78 = .ok (.goto (-31), 3) := by decide +kernel
theorem dX4_began_81 : decode cX4_began 81 = .ok (.iload_n 2, 1) := by decide +kernel
theorem dX4_began_82 : decode cX4_began 82 = .ok (.ireturn, 1) := by decide +kernel
theorem dX4_boy_0 : decode cX4_boy 0 = .ok (.aload_n 0, 1) := by decide +kernel
theorem dX4_boy_1 : decode cX4_boy 1 = .ok (.getfield 10, 3) := by decide +kernel
theorem dX4_boy_4 : decode cX4_boy 4 = .ok (.iload_n 1, 1) := by decide +kernel
theorem dX4_boy_5 : decode cX4_boy 5 = .ok (.invokevirtual 179, 3) := by decide +kernel
theorem dX4_boy_8 : decode cX4_boy 8 = .ok (.ifCond .eq 13, 3) := by decide +kernel
theorem dX4_boy_11 : decode cX4_boy 11 = .ok (.iload_n 2, 1) := by decide +kernel
theorem dX4_boy_12 : decode cX4_boy 12 = .ok (.iconst 1, 1) := by decide +kernel
theorem dX4_boy_13 : decode cX4_boy 13 = .ok (.bipush 60, 2) := by decide +kernel
theorem dX4_boy_15 : decode cX4_boy 15 = .ok (.invokestatic 51, 3) := by decide +kernel
theorem dX4_boy_18 : decode cX4_boy 18 = .ok (.ifCond .ne 9, 3) := by decide +kernel
theorem dX4_boy_21 : decode cX4_boy 21 = .ok (.aload_n 0, 1) := by decide +kernel
theorem dX4_boy_22 : decode cX4_boy 22 = .ok (.iconst 0, 1) := by decide +kernel
theorem dX4_boy_23 : decode cX4_boy 23 = .ok (.invokevirtual 55, 3) := by decide +kernel
theorem dX4_boy_26 : decode cX4_boy 26 = .ok (.ireturn, 1) := by decide +kernel
theorem dX4_boy_27 : decode cX4_boy 27 = .ok (.aload_n 0, 1) := by decide +kernel
theorem dX4_boy_28 : decode cX4_boy 28 = .ok (.iload_n 2, 1) := by decide +kernel
theorem dX4_boy_29 : decode cX4_boy 29 = .ok (.invokevirtual 114, 3) := by decide +kernel
theorem dX4_boy_32 : decode cX4_boy 32 = .ok (.ifCond .eq 9, 3) := by decide +kernel
theorem dX4_boy_35 : decode cX4_boy 35 = .ok (.aload_n 0, 1) := by decide +kernel
theorem dX4_boy_36 : decode cX4_boy 36 = .ok (.iconst 4, 1) := by decide +kernel
theorem dX4_boy_37 : decode cX4_boy 37 = .ok (.invokevirtual 55, 3) := by decide +kernel
theorem dX4_boy_40 : decode cX4_boy 40 = .ok (.ireturn, 1) := by decide +kernel
theorem dX4_boy_41 : decode cX4_boy 41 = .ok (.iconst 0, 1) := by decide +kernel
theorem dX4_boy_42 : decode cX4_boy 42 = .ok (.istore_n 3, 1) := by decide +kernel
theorem dX4_boy_43 : decode cX4_boy 43 = .ok (.iconst 0, 1) := by decide +kernel
theorem dX4_boy_44 : decode cX4_boy 44 = .ok (.istore 4, 2) := by decide +kernel
theorem dX4_boy_46 : decode cX4_boy 46 = .ok (.iload 4, 2) := by decide +kernel
theorem dX4_boy_48 : decode cX4_boy 48 = .ok (.bipush 99, 2) := by decide +kernel
theorem dX4_boy_50 : decode cX4_boy 50 = .ok (.if_icmp .gt 38, 3) := by decide +kernel
theorem dX4_boy_53 : decode cX4_boy 53 = .ok (.aload_n 0, 1) := by decide +kernel
theorem dX4_boy_54 : decode cX4_boy 54 = .ok (.iload 4, 2) := by decide +kernel
theorem dX4_boy_56 : decode cX4_boy 56 = .ok (.iload_n 2, 1) := by decide +kernel
theorem dX4_boy_57 : decode cX4_boy 57 = .ok (.invokevirtual 158, 3) := by decide +kernel
theorem dX4_boy_60 : decode cX4_boy 60 = .ok (.iload_n 1, 1) := by decide +kernel
theorem dX4_boy_61 : decode cX4_boy 61 = .ok (.ixor, 1) := by decide +kernel
theorem dX4_boy_62 : decode cX4_boy 62 = .ok (.invokestatic 120, 3) := by decide +kernel
theorem dX4_boy_65 : decode cX4_boy 65 = .ok (.istore 5, 2) := by decide +kernel
theorem dX4_boy_67 : decode cX4_boy 67 = .ok (.iload 5, 2) := by decide +kernel
theorem dX4_boy_69 : decode cX4_boy 69 = .ok (.ifCond .ne 5, 3) := by decide +kernel
theorem dX4_boy_72 : decode cX4_boy 72 = .ok (.iconst 1, 1) := by decide +kernel
theorem dX4_boy_73 : decode cX4_boy 73 = .ok (.ireturn, 1) := by decide +kernel
theorem dX4_boy_74 : decode cX4_boy 74 = .ok (.iload 5, 2) := by decide +kernel
theorem dX4_boy_76 : decode cX4_boy 76 = .ok (.iconst 1, 1) := by decide +kernel
theorem dX4_boy_77 : decode cX4_boy 77 = .ok (.if_icmp .ne 5, 3) := by decide +kernel
theorem dX4_boy_80 : decode cX4_boy 80 = .ok (.iconst 2, 1) := by decide +kernel
theorem dX4_boy_81 : decode cX4_boy 81 = .ok (.istore_n 3, 1) := by decide +kernel
theorem dX4_boy_82 : decode cX4_boy 82 = .ok (.iinc 4 1, 3) := by decide +kernel
theorem dX4_boy_85 : decode cX4_boy 85 = .ok (.goto (-39), 3) := by decide +kernel
theorem dX4_boy_88 : decode cX4_boy 88 = .ok (.iload_n 3, 1) := by decide +kernel
theorem dX4_boy_89 : decode cX4_boy 89 = .ok (.ireturn, 1) := by decide +kernel
theorem dX4_lining_0 : decode cX4_lining 0 = .ok (.iload_n 1, 1) := by decide +kernel
theorem dX4_lining_1 : decode cX4_lining 1 = .ok (.iconst 0, 1) := by decide +kernel
theorem dX4_lining_2 : decode cX4_lining 2 = .ok (.sipush 500, 3) := by decide +kernel
theorem dX4_lining_5 : decode cX4_lining 5 = .ok (.invokestatic 51, 3) := by decide +kernel
theorem dX4_lining_8 : decode cX4_lining 8 = .ok (.ifCond .ne 9, 3) := by decide +kernel
theorem dX4_lining_11 : decode cX4_lining 11 = .ok (.aload_n 0, 1) := by decide +kernel
theorem dX4_lining_12 : decode cX4_lining 12 = .ok (.iconst 0, 1) := by decide +kernel
theorem dX4_lining_13 : decode cX4_lining 13 = .ok (.invokevirtual 55, 3) := by decide +kernel
theorem dX4_lining_16 : decode cX4_lining 16 = .ok (.ireturn, 1) := by decide +kernel
theorem dX4_lining_17 : decode cX4_lining 17 = .ok (.aload_n 0, 1) := by decide +kernel
theorem dX4_lining_18 : decode cX4_lining 18 = .ok (.getfield 10, 3) := by decide +kernel
theorem dX4_lining_21 : decode cX4_lining 21 = .ok (.iconst 0, 1) := by decide +kernel
theorem dX4_lining_22 : decode cX4_lining 22 = .ok (.invokevirtual 108, 3) := by decide +kernel
theorem dX4_lining_25 : decode cX4_lining 25 = .ok (.aload_n 0, 1) := by decide +kernel
theorem dX4_lining_26 : decode cX4_lining 26 = .ok (.getfield 10, 3) := by decide +kernel
theorem dX4_lining_29 : decode cX4_lining 29 = .ok (.iconst 1, 1) := by decide +kernel
theorem dX4_lining_30 : decode cX4_lining 30 = .ok (.invokevirtual 108, 3) := by decide +kernel
theorem dX4_lining_33 : decode cX4_lining 33 = .ok (.ior, 1) := by decide +kernel
theorem dX4_lining_34 : decode cX4_lining 34 = .ok (.aload_n 0, 1) := by decide +kernel
theorem dX4_lining_35 : decode cX4_lining 35 = .ok (.getfield 10, 3) := by decide +kernel
theorem dX4_lining_38 : decode cX4_lining 38 = .ok (.iconst 3, 1) := by decide +kernel
theorem dX4_lining_39 : decode cX4_lining 39 = .ok (.invokevirtual 108, 3) := by decide +kernel
theorem dX4_lining_42 : decode cX4_lining 42 = .ok (.ior, 1) := by decide +kernel
theorem dX4_lining_43 : decode cX4_lining 43 = .ok (.istore_n 2, 1) := by decide +kernel
theorem dX4_lining_44 : decode cX4_lining 44 = .ok (.iconst 0, 1) := by decide +kernel
theorem dX4_lining_45 : decode cX4_lining 45 = .ok (.istore_n 3, 1) := by decide +kernel
theorem dX4_lining_46 : decode cX4_lining 46 = .ok (.iconst 0, 1) := by decide +kernel
theorem dX4_lining_47 : decode cX4_lining 47 = .ok (.istore 4, 2) := by decide +kernel
theorem dX4_lining_49 : decode cX4_lining 49 = .ok (.iload 4, 2) := by decide +kernel
theorem dX4_lining_51 : decode cX4_lining 51 = .ok (.aload_n 0, 1) := by decide +kernel
theorem dX4_lining_52 : decode cX4_lining 52 = .ok (.getfield 10, 3) := by decide +kernel
theorem dX4_lining_55 : decode cX4_lining 55 = .ok (.invokevirtual 173, 3) := by decide +kernel
theorem dX4_lining_58 : decode cX4_lining 58 = .ok (.if_icmp .ge 34, 3) := by decide +kernel
theorem dX4_lining_61 : decode cX4_lining 61 = .ok (.iload 4, 2) := by decide +kernel
