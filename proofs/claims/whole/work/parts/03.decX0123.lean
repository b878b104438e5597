theorem dX0_init_0 : decode cX0_init 0 = .ok (.aload_n 0, 1) := by decide +kernel
theorem dX0_init_1 : decode cX0_init 1 = .ok (.invokespecial 3, 3) := by decide +kernel
theorem dX0_init_4 : decode cX0_init 4 = .ok (.aload_n 0, 1) := by decide +kernel
theorem dX0_init_5 : decode cX0_init 5 = .ok (.bipush 10, 2) := by decide +kernel
theorem dX0_init_7 : decode cX0_init 7 = .ok (.putfield 9, 3) := by decide +kernel
theorem dX0_init_10 : decode cX0_init 10 = .ok (.aload_n 0, 1) := by decide +kernel
theorem dX0_init_11 : decode cX0_init 11 = .ok (.iconst 0, 1) := by decide +kernel
theorem dX0_init_12 : decode cX0_init 12 = .ok (.putfield 15, 3) := by decide +kernel
theorem dX0_init_15 : decode cX0_init 15 = .ok (.aload_n 0, 1) := by decide +kernel
theorem dX0_init_16 : decode cX0_init 16 = .ok (.bipush 7, 2) := by decide +kernel
theorem dX0_init_18 : decode cX0_init 18 = .ok (.putfield 18, 3) := by decide +kernel
theorem dX0_init_21 : decode cX0_init 21 = .ok (.aload_n 0, 1) := by decide +kernel
theorem dX0_init_22 : decode cX0_init 22 = .ok (.iconst 0, 1) := by decide +kernel
theorem dX0_init_23 : decode cX0_init 23 = .ok (.putfield 21, 3) := by decide +kernel
theorem dX0_init_26 : decode cX0_init 26 = .ok (.aload_n 0, 1) := by decide +kernel
theorem dX0_init_27 : decode cX0_init 27 = .ok (.iconst 1, 1) := by decide +kernel
theorem dX0_init_28 : decode cX0_init 28 = .ok (.putfield 24, 3) := by decide +kernel
theorem dX0_init_31 : decode cX0_init 31 = .ok (.aload_n 0, 1) := by decide +kernel
theorem dX0_init_32 : decode cX0_init 32 = .ok (.iconst 0, 1) := by decide +kernel
theorem dX0_init_33 : decode cX0_init 33 = .ok (.putfield 27, 3) := by decide +kernel
theorem dX0_init_36 : decode cX0_init 36 = .ok (.aload_n 0, 1) := by decide +kernel
theorem dX0_init_37 : decode cX0_init 37 = .ok (.bipush 10, 2) := by decide +kernel
theorem dX0_init_39 : decode cX0_init 39 = .ok (.anewarray 30, 3) := by decide +kernel
theorem dX0_init_42 : decode cX0_init 42 = .ok (.putfield 32, 3) := by decide +kernel
theorem dX0_init_45 : decode cX0_init 45 = .ok (.aload_n 0, 1) := by decide +kernel
theorem dX0_init_46 : decode cX0_init 46 = .ok (.bipush 10, 2) := by decide +kernel
theorem dX0_init_48 : decode cX0_init 48 = .ok (.newarray .int, 2) := by decide +kernel
theorem dX0_init_50 : decode cX0_init 50 = .ok (.putfield 36, 3) := by decide +kernel
theorem dX0_init_53 : decode cX0_init 53 = .ok (.iconst 0, 1) := by decide +kernel
theorem dX0_init_54 : decode cX0_init 54 = .ok (.istore_n 1, 1) := by decide +kernel
theorem dX0_init_55 : decode cX0_init 55 = .ok (.iload_n 1, 1) := by decide +kernel
theorem dX0_init_56 : decode cX0_init 56 = .ok (.bipush 10, 2) := by decide +kernel
theorem dX0_init_58 : decode cX0_init 58 = .ok (.if_icmp .ge 22, 3) := by decide +kernel
theorem dX0_init_61 : decode cX0_init 61 = .ok (.aload_n 0, 1) := by decide +kernel
theorem dX0_init_62 : decode cX0_init 62 = .ok (.getfield 32, 3) := by decide +kernel
theorem dX0_init_65 : decode cX0_init 65 = .ok (.iload_n 1, 1) := by decide +kernel
theorem dX0_init_66 : decode cX0_init 66 = .ok (.new 30, 3) := by decide +kernel
theorem dX0_init_69 : decode cX0_init 69 = .ok (.dup, 1) := by decide +kernel
theorem dX0_init_70 : decode cX0_init 70 = .ok (.invokespecial 40, 3) := by decide +kernel
theorem dX0_init_73 : decode cX0_init 73 = .ok (.aastore, 1) := by decide +kernel
theorem dX0_init_74 : decode cX0_init 74 = .ok (.iinc 1 1, 3) := by decide +kernel
theorem dX0_init_77 : decode cX0_init 77 = .ok (.goto (-22), 3) := by decide +kernel
theorem dX0_init_80 : decode cX0_init 80 = .ok (.iconst 0, 1) := by decide +kernel
theorem dX0_init_81 : decode cX0_init 81 = .ok (.istore_n 1, 1) := by decide +kernel
theorem dX0_init_82 : decode cX0_init 82 = .ok (.iload_n 1, 1) := by decide +kernel
theorem dX0_init_83 : decode cX0_init 83 = .ok (.bipush 10, 2) := by decide +kernel
theorem dX0_init_85 : decode cX0_init 85 = .ok (.if_icmp .ge 16, 3) := by decide +kernel
theorem dX0_init_88 : decode cX0_init 88 = .ok (.aload_n 0, 1) := by decide +kernel
theorem dX0_init_89 : decode cX0_init 89 = .ok (.getfield 36, 3) := by decide +kernel
theorem dX0_init_92 : decode cX0_init 92 = .ok (.iload_n 1, 1) := by decide +kernel
theorem dX0_init_93 : decode cX0_init 93 = .ok (.iconst (-1), 1) := by decide +kernel
theorem dX0_init_94 : decode cX0_init 94 = .ok (.iastore, 1) := by decide +kernel
theorem dX0_init_95 : decode cX0_init 95 = .ok (.iinc 1 1, 3) := by decide +kernel
theorem dX0_init_98 : decode cX0_init 98 = .ok (.goto (-16), 3) := by decide +kernel
theorem dX0_init_101 : decode cX0_init 101 = .ok (.return_, 1) := by decide +kernel
theorem dX0_become_0 : decode cX0_become 0 = .ok (.aload_n 0, 1) := by decide +kernel
theorem dX0_become_1 : decode cX0_become 1 = .ok (.aload_n 1, 1) := by decide +kernel
theorem dX0_become_2 : decode cX0_become 2 = .ok (.getfield 9, 3) := by decide +kernel
theorem dX0_become_5 : decode cX0_become 5 = .ok (.putfield 9, 3) := by decide +kernel
theorem dX0_become_8 : decode cX0_become 8 = .ok (.aload_n 0, 1) := by decide +kernel
theorem dX0_become_9 : decode cX0_become 9 = .ok (.aload_n 1, 1) := by decide +kernel
theorem dX0_become_10 : decode cX0_become 10 = .ok (.getfield 15, 3) := by decide +kernel
theorem dX0_become_13 : decode cX0_become 13 = .ok (.putfield 15, 3) := by decide +kernel
theorem dX0_become_16 : decode cX0_become 16 = .ok (.aload_n 0, 1) := by decide +kernel
theorem dX0_become_17 : decode cX0_become 17 = .ok (.aload_n 1, 1) := by decide +kernel
theorem dX0_become_18 : decode cX0_become 18 = .ok (.getfield 18, 3) := by decide +kernel
theorem dX0_become_21 : decode cX0_become 21 = .ok (.putfield 18, 3) := by decide +kernel
theorem dX0_become_24 : decode cX0_become 24 = .ok (.aload_n 0, 1) := by decide +kernel
theorem dX0_become_25 : decode cX0_become 25 = .ok (.aload_n 1, 1) := by decide +kernel
theorem dX0_become_26 : decode cX0_become 26 = .ok (.getfield 21, 3) := by decide +kernel
theorem dX0_become_29 : decode cX0_become 29 = .ok (.putfield 21, 3) := by decide +kernel
theorem dX0_become_32 : decode cX0_become 32 = .ok (.aload_n 0, 1) := by decide +kernel
theorem dX0_become_33 : decode cX0_become 33 = .ok (.aload_n 1, 1) := by decide +kernel
theorem dX0_become_34 : decode cX0_become 34 = .ok (.getfield 24, 3) := by decide +kernel
theorem dX0_become_37 : decode cX0_become 37 = .ok (.putfield 24, 3) := by decide +kernel
theorem dX0_become_40 : decode cX0_become 40 = .ok (.aload_n 0, 1) := by decide +kernel
theorem dX0_become_41 : decode cX0_become 41 = .ok (.aload_n 1, 1) := by decide +kernel
theorem dX0_become_42 : decode cX0_become 42 = .ok (.getfield 27, 3) := by decide +kernel
theorem dX0_become_45 : decode cX0_become 45 = .ok (.putfield 27, 3) := by decide +kernel
theorem dX0_become_48 : decode cX0_become 48 = .ok (.iconst 0, 1) := by decide +kernel
theorem dX0_become_49 : decode cX0_become 49 = .ok (.istore_n 2, 1) := by decide +kernel
theorem dX0_become_50 : decode cX0_become 50 = .ok (.iload_n 2, 1) := by decide +kernel
theorem dX0_become_51 : decode cX0_become 51 = .ok (.aload_n 0, 1) := by decide +kernel
theorem dX0_become_52 : decode cX0_become 52 = .ok (.getfield 27, 3) := by decide +kernel
theorem dX0_become_55 : decode cX0_become 55 = .ok (.if_icmp .ge 24, 3) := by decide +kernel
theorem dX0_become_58 : decode cX0_become 58 = .ok (.aload_n 0, 1) := by decide +kernel
theorem dX0_become_59 : decode cX0_become 59 = .ok (.getfield 32, 3) := by decide +kernel
theorem dX0_become_62 : decode cX0_become 62 = .ok (.iload_n 2, 1) := by decide +kernel
theorem dX0_become_63 : decode cX0_become 63 = .ok (.aaload, 1) := by decide +kernel
theorem dX0_become_64 : decode cX0_become 64 = .ok (.aload_n 1, 1) := by decide +kernel
theorem dX0_become_65 : decode cX0_become 65 = .ok (.getfield 32, 3) := by decide +kernel
theorem dX0_become_68 : decode cX0_become 68 = .ok (.iload_n 2, 1) := by decide +kernel
theorem dX0_become_69 : decode cX0_become 69 = .ok (.aaload, 1) := by decide +kernel
theorem dX0_become_70 : decode cX0_become 70 = .ok (.invokevirtual 41, 3) := by decide +kernel
theorem dX0_become_73 : decode cX0_become 73 = .ok (.iinc 2 1, 3) := by decide +kernel
theorem dX0_become_76 : decode cX0_become 76 = .ok (.goto (-26), 3) := by decide +kernel
theorem dX0_become_79 : decode cX0_become 79 = .ok (.aload_n 1, 1) := by decide +kernel
theorem dX0_become_80 : decode cX0_become 80 = .ok (.getfield 36, 3) := by decide +kernel
theorem dX0_become_83 : decode cX0_become 83 = .ok (.iconst 0, 1) := by decide +kernel
theorem dX0_become_84 : decode cX0_become 84 = .ok (.aload_n 0, 1) := by decide +kernel
theorem dX0_become_85 : decode cX0_become 85 = .ok (.getfield 36, 3) := by decide +kernel
theorem dX0_become_88 : decode cX0_become 88 = .ok (.iconst 0, 1) := by decide +kernel
theorem dX0_become_89 : decode cX0_become 89 = .ok (.bipush 10, 2) := by decide +kernel
theorem dX0_become_91 : decode cX0_become 91 = .ok (.invokestatic 45, 3) := by decide +kernel
theorem dX0_become_94 : decode cX0_become 94 = .ok (.return_, 1) := by decide +kernel
theorem dX0_newCoin_0 : decode cX0_newCoin 0 = .ok (.aload_n 0, 1) := by decide +kernel
theorem dX0_newCoin_1 : decode cX0_newCoin 1 = .ok (.getfield 32, 3) := by decide +kernel
theorem dX0_newCoin_4 : decode cX0_newCoin 4 = .ok (.aload_n 0, 1) := by decide +kernel
theorem dX0_newCoin_5 : decode cX0_newCoin 5 = .ok (.getfield 27, 3) := by decide +kernel
theorem dX0_newCoin_8 : decode cX0_newCoin 8 = .ok (.aaload, 1) := by decide +kernel
theorem dX0_newCoin_9 : decode cX0_newCoin 9 = .ok (.astore_n 2, 1) := by decide +kernel
theorem dX0_newCoin_10 : decode cX0_newCoin 10 = .ok (.aload_n 2, 1) := by decide +kernel
theorem dX0_newCoin_11 : decode cX0_newCoin 11 = .ok (.iload_n 1, 1) := by decide +kernel
theorem dX0_newCoin_12 : decode cX0_newCoin 12 = .ok (.invokevirtual 51, 3) := by decide +kernel
theorem dX0_newCoin_15 : decode cX0_newCoin 15 = .ok (.aload_n 0, 1) := by decide +kernel
theorem dX0_newCoin_16 : decode cX0_newCoin 16 = .ok (.dup, 1) := by decide +kernel
theorem dX0_newCoin_17 : decode cX0_newCoin 17 = .ok (.getfield 27, 3) := by decide +kernel
theorem dX0_newCoin_20 : decode cX0_newCoin 20 = .ok (.iconst 1, 1) := by decide +kernel
theorem dX0_newCoin_21 : decode cX0_newCoin 21 = .ok (.iadd, 1) := by decide +kernel
theorem dX0_newCoin_22 : decode cX0_newCoin 22 = .ok (.putfield 27, 3) := by decide +kernel
theorem dX0_newCoin_25 : decode cX0_newCoin 25 = .ok (.aload_n 2, 1) := by decide +kernel
theorem dX0_newCoin_26 : decode cX0_newCoin 26 = .ok (.areturn, 1) := by decide +kernel
theorem dX0_has_0 : decode cX0_has 0 = .ok (.iload_n 1, 1) := by decide +kernel
theorem dX0_has_1 : decode cX0_has 1 = .ok (.ifCond .lt 15, 3) := by decide +kernel
theorem dX0_has_4 : decode cX0_has 4 = .ok (.iload_n 1, 1) := by decide +kernel
theorem dX0_has_5 : decode cX0_has 5 = .ok (.aload_n 0, 1) := by decide +kernel
theorem dX0_has_6 : decode cX0_has 6 = .ok (.getfield 27, 3) := by decide +kernel
theorem dX0_has_9 : decode cX0_has 9 = .ok (.if_icmp .ge 7, 3) := by decide +kernel
theorem dX0_has_12 : decode cX0_has 12 = .ok (.iconst 1, 1) := by decide +kernel
theorem dX0_has_13 : decode cX0_has 13 = .ok (.goto 4, 3) := by decide +kernel
theorem dX0_has_16 : decode cX0_has 16 = .ok (.iconst 0, 1) := by decide +kernel
theorem dX0_has_17 : decode cX0_has 17 = .ok (.ireturn, 1) := by decide +kernel
theorem dX0_sets_0 : decode cX0_sets 0 = .ok (.iconst 1, 1) := by decide +kernel
theorem dX0_sets_1 : decode cX0_sets 1 = .ok (.aload_n 0, 1) := by decide +kernel
theorem dX0_sets_2 : decode cX0_sets 2 = .ok (.getfield 27, 3) := by decide +kernel
theorem dX0_sets_5 : decode cX0_sets 5 = .ok (.ishl, 1) := by decide +kernel
theorem dX0_sets_6 : decode cX0_sets 6 = .ok (.ireturn, 1) := by decide +kernel
theorem dX0_isSet_0 : decode cX0_isSet 0 = .ok (.iload_n 1, 1) := by decide +kernel
theorem dX0_isSet_1 : decode cX0_isSet 1 = .ok (.ifCond .lt 15, 3) := by decide +kernel
theorem dX0_isSet_4 : decode cX0_isSet 4 = .ok (.iload_n 1, 1) := by decide +kernel
theorem dX0_isSet_5 : decode cX0_isSet 5 = .ok (.aload_n 0, 1) := by decide +kernel
theorem dX0_isSet_6 : decode cX0_isSet 6 = .ok (.invokevirtual 55, 3) := by decide +kernel
theorem dX0_isSet_9 : decode cX0_isSet 9 = .ok (.if_icmp .ge 7, 3) := by decide +kernel
theorem dX0_isSet_12 : decode cX0_isSet 12 = .ok (.iconst 1, 1) := by decide +kernel
theorem dX0_isSet_13 : decode cX0_isSet 13 = .ok (.goto 4, 3) := by decide +kernel
theorem dX0_isSet_16 : decode cX0_isSet 16 = .ok (.iconst 0, 1) := by decide +kernel
theorem dX0_isSet_17 : decode cX0_isSet 17 = .ok (.ireturn, 1) := by decide +kernel
theorem dX0_in_0 : decode cX0_in 0 = .ok (.iconst 0, 1) := by decide +kernel
theorem dX0_in_1 : decode cX0_in 1 = .ok (.istore_n 2, 1) := by decide +kernel
theorem dX0_in_2 : decode cX0_in 2 = .ok (.iconst 0, 1) := by decide +kernel
theorem dX0_in_3 : decode cX0_in 3 = .ok (.istore_n 3, 1) := by decide +kernel
theorem dX0_in_4 : decode cX0_in 4 = .ok (.iload_n 3, 1) := by decide +kernel
theorem dX0_in_5 : decode cX0_in 5 = .ok (.aload_n 0, 1) := by decide +kernel
theorem dX0_in_6 : decode cX0_in 6 = .ok (.getfield 27, 3) := by decide +kernel
theorem dX0_in_9 : decode cX0_in 9 = .ok (.if_icmp .ge 28, 3) := by decide +kernel
theorem dX0_in_12 : decode cX0_in 12 = .ok (.aload_n 0, 1) := by decide +kernel
theorem dX0_in_13 : decode cX0_in 13 = .ok (.getfield 32, 3) := by decide +kernel
theorem dX0_in_16 : decode cX0_in 16 = .ok (.iload_n 3, 1) := by decide +kernel
theorem dX0_in_17 : decode cX0_in 17 = .ok (.aaload, 1) := by decide +kernel
theorem dX0_in_18 : decode cX0_in 18 = .ok (.getfield 59, 3) := by decide +kernel
theorem dX0_in_21 : decode cX0_in 21 = .ok (.iload_n 1, 1) := by decide +kernel
theorem dX0_in_22 : decode cX0_in 22 = .ok (.if_icmp .ne 9, 3) := by decide +kernel
theorem dX0_in_25 : decode cX0_in 25 = .ok (.iload_n 2, 1) := by decide +kernel
theorem dX0_in_26 : decode cX0_in 26 = .ok (.iconst 1, 1) := by decide +kernel
theorem dX0_in_27 : decode cX0_in 27 = .ok (.iload_n 3, 1) := by decide +kernel
theorem dX0_in_28 : decode cX0_in 28 = .ok (.ishl, 1) := by decide +kernel
theorem dX0_in_29 : decode cX0_in 29 = .ok (.ior, 1) := by decide +kernel
theorem dX0_in_30 : decode cX0_in 30 = .ok (.istore_n 2, 1) := by decide +kernel
theorem dX0_in_31 : decode cX0_in 31 = .ok (.iinc 3 1, 3) := by decide +kernel
theorem dX0_in_34 : decode cX0_in 34 = .ok (.goto (-30), 3) := by decide +kernel
theorem dX0_in_37 : decode cX0_in 37 = .ok (.iload_n 2, 1) := by decide +kernel
theorem dX0_in_38 : decode cX0_in 38 = .ok (.ireturn, 1) := by decide +kernel
theorem dX0_thinOnes_0 : decode cX0_thinOnes 0 = .ok (.iconst 0, 1) := by decide +kernel
theorem dX0_thinOnes_1 : decode cX0_thinOnes 1 = .ok (.istore_n 1, 1) := by decide +kernel
theorem dX0_thinOnes_2 : decode cX0_thinOnes 2 = .ok (.iconst 0, 1) := by decide +kernel
theorem dX0_thinOnes_3 : decode cX0_thinOnes 3 = .ok (.istore_n 2, 1) := by decide +kernel
theorem dX0_thinOnes_4 : decode cX0_thinOnes 4 = .ok (.iload_n 2, 1) := by decide +kernel
theorem dX0_thinOnes_5 : decode cX0_thinOnes 5 = .ok (.aload_n 0, 1) := by decide +kernel
theorem dX0_thinOnes_6 : decode cX0_thinOnes 6 = .ok (.getfield 27, 3) := by decide +kernel
theorem dX0_thinOnes_9 : decode cX0_thinOnes 9 = .ok (.if_icmp .ge 31, 3) := by decide +kernel
theorem dX0_thinOnes_12 : decode cX0_thinOnes 12 = .ok (.aload_n 0, 1) := by decide +kernel
theorem dX0_thinOnes_13 : decode cX0_thinOnes 13 = .ok (.getfield 32, 3) := by decide +kernel
theorem dX0_thinOnes_16 : decode cX0_thinOnes 16 = .ok (.iload_n 2, 1) := by decide +kernel
theorem dX0_thinOnes_17 : decode cX0_thinOnes 17 = .ok (.aaload, 1) := by decide +kernel
theorem dX0_thinOnes_18 : decode cX0_thinOnes 18 = .ok (.invokevirtual 62, 3) := by decide +kernel
theorem dX0_thinOnes_21 : decode cX0_thinOnes 21 = .ok (.aload_n 0, 1) := by decide +kernel
theorem dX0_thinOnes_22 : decode cX0_thinOnes 22 = .ok (.getfield 9, 3) := by decide +kernel
theorem dX0_thinOnes_25 : decode cX0_thinOnes 25 = .ok (.if_icmp .gt 9, 3) := by decide +kernel
theorem dX0_thinOnes_28 : decode cX0_thinOnes 28 = .ok (.iload_n 1, 1) := by decide +kernel
theorem dX0_thinOnes_29 : decode cX0_thinOnes 29 = .ok (.iconst 1, 1) := by decide +kernel
theorem dX0_thinOnes_30 : decode cX0_thinOnes 30 = .ok (.iload_n 2, 1) := by decide +kernel
theorem dX0_thinOnes_31 : decode cX0_thinOnes 31 = .ok (.ishl, 1) := by decide +kernel
theorem dX0_thinOnes_32 : decode cX0_thinOnes 32 = .ok (.ior, 1) := by decide +kernel
theorem dX0_thinOnes_33 : decode cX0_thinOnes 33 = .ok (.istore_n 1, 1) := by decide +kernel
theorem dX0_thinOnes_34 : decode cX0_thinOnes 34 = .ok (.iinc 2 1, 3) := by decide +kernel
theorem dX0_thinOnes_37 : decode cX0_thinOnes 37 = .ok (.goto (-33), 3) := by decide +kernel
theorem dX0_thinOnes_40 : decode cX0_thinOnes 40 = .ok (.iload_n 1, 1) := by decide +kernel
theorem dX0_thinOnes_41 : decode cX0_thinOnes 41 = .ok (.ireturn, 1) := by decide +kernel
theorem dX0_penceOf_0 : decode cX0_penceOf 0 = .ok (.iconst 0, 1) := by decide +kernel
theorem dX0_penceOf_1 : decode cX0_penceOf 1 = .ok (.istore_n 2, 1) := by decide +kernel
theorem dX0_penceOf_2 : decode cX0_penceOf 2 = .ok (.iconst 0, 1) := by decide +kernel
theorem dX0_penceOf_3 : decode cX0_penceOf 3 = .ok (.istore_n 3, 1) := by decide +kernel
theorem dX0_penceOf_4 : decode cX0_penceOf 4 = .ok (.iload_n 3, 1) := by decide +kernel
theorem dX0_penceOf_5 : decode cX0_penceOf 5 = .ok (.aload_n 0, 1) := by decide +kernel
theorem dX0_penceOf_6 : decode cX0_penceOf 6 = .ok (.getfield 27, 3) := by decide +kernel
theorem dX0_penceOf_9 : decode cX0_penceOf 9 = .ok (.if_icmp .ge 30, 3) := by decide +kernel
theorem dX0_penceOf_12 : decode cX0_penceOf 12 = .ok (.iload_n 1, 1) := by decide +kernel
theorem dX0_penceOf_13 : decode cX0_penceOf 13 = .ok (.iload_n 3, 1) := by decide +kernel
theorem dX0_penceOf_14 : decode cX0_penceOf 14 = .ok (.ishr, 1) := by decide +kernel
theorem dX0_penceOf_15 : decode cX0_penceOf 15 = .ok (.iconst 1, 1) := by decide +kernel
theorem dX0_penceOf_16 : decode cX0_penceOf 16 = .ok (.iand, 1) := by decide +kernel
theorem dX0_penceOf_17 : decode cX0_penceOf 17 = .ok (.iconst 1, 1) := by decide +kernel
theorem dX0_penceOf_18 : decode cX0_penceOf 18 = .ok (.if_icmp .ne 15, 3) := by decide +kernel
theorem dX0_penceOf_21 : decode cX0_penceOf 21 = .ok (.iload_n 2, 1) := by decide +kernel
theorem dX0_penceOf_22 : decode cX0_penceOf 22 = .ok (.aload_n 0, 1) := by decide +kernel
theorem dX0_penceOf_23 : decode cX0_penceOf 23 = .ok (.getfield 32, 3) := by decide +kernel
theorem dX0_penceOf_26 : decode cX0_penceOf 26 = .ok (.iload_n 3, 1) := by decide +kernel
theorem dX0_penceOf_27 : decode cX0_penceOf 27 = .ok (.aaload, 1) := by decide +kernel
theorem dX0_penceOf_28 : decode cX0_penceOf 28 = .ok (.getfield 65, 3) := by decide +kernel
theorem dX0_penceOf_31 : decode cX0_penceOf 31 = .ok (.iadd, 1) := by decide +kernel
theorem dX0_penceOf_32 : decode cX0_penceOf 32 = .ok (.istore_n 2, 1) := by decide +kernel
theorem dX0_penceOf_33 : decode cX0_penceOf 33 = .ok (.iinc 3 1, 3) := by decide +kernel
theorem dX0_penceOf_36 : decode cX0_penceOf 36 = .ok (.goto (-32), 3) := by decide +kernel
theorem dX0_penceOf_39 : decode cX0_penceOf 39 = .ok (.iload_n 2, 1) := by decide +kernel
theorem dX0_penceOf_40 : decode cX0_penceOf 40 = .ok (.ireturn, 1) := by decide +kernel
theorem dX0_penceIn_0 : decode cX0_penceIn 0 = .ok (.aload_n 0, 1) := by decide +kernel
theorem dX0_penceIn_1 : decode cX0_penceIn 1 = .ok (.aload_n 0, 1) := by decide +kernel
theorem dX0_penceIn_2 : decode cX0_penceIn 2 = .ok (.iload_n 1, 1) := by decide +kernel
theorem dX0_penceIn_3 : decode cX0_penceIn 3 = .ok (.invokevirtual 68, 3) := by decide +kernel
theorem dX0_penceIn_6 : decode cX0_penceIn 6 = .ok (.invokevirtual 72, 3) := by decide +kernel
theorem dX0_penceIn_9 : decode cX0_penceIn 9 = .ok (.ireturn, 1) := by decide +kernel
theorem dX0_weightOf_0 : decode cX0_weightOf 0 = .ok (.iconst 0, 1) := by decide +kernel
theorem dX0_weightOf_1 : decode cX0_weightOf 1 = .ok (.istore_n 2, 1) := by decide +kernel
theorem dX0_weightOf_2 : decode cX0_weightOf 2 = .ok (.iconst 0, 1) := by decide +kernel
theorem dX0_weightOf_3 : decode cX0_weightOf 3 = .ok (.istore_n 3, 1) := by decide +kernel
theorem dX0_weightOf_4 : decode cX0_weightOf 4 = .ok (.iload_n 3, 1) := by decide +kernel
theorem dX0_weightOf_5 : decode cX0_weightOf 5 = .ok (.aload_n 0, 1) := by decide +kernel
theorem dX0_weightOf_6 : decode cX0_weightOf 6 = .ok (.getfield 27, 3) := by decide +kernel
theorem dX0_weightOf_9 : decode cX0_weightOf 9 = .ok (.if_icmp .ge 30, 3) := by decide +kernel
theorem dX0_weightOf_12 : decode cX0_weightOf 12 = .ok (.iload_n 1, 1) := by decide +kernel
theorem dX0_weightOf_13 : decode cX0_weightOf 13 = .ok (.iload_n 3, 1) := by decide +kernel
theorem dX0_weightOf_14 : decode cX0_weightOf 14 = .ok (.ishr, 1) := by decide +kernel
theorem dX0_weightOf_15 : decode cX0_weightOf 15 = .ok (.iconst 1, 1) := by decide +kernel
theorem dX0_weightOf_16 : decode cX0_weightOf 16 = .ok (.iand, 1) := by decide +kernel
theorem dX0_weightOf_17 : decode cX0_weightOf 17 = .ok (.iconst 1, 1) := by decide +kernel
theorem dX0_weightOf_18 : decode cX0_weightOf 18 = .ok (.if_icmp .ne 15, 3) := by decide +kernel
theorem dX0_weightOf_21 : decode cX0_weightOf 21 = .ok (.iload_n 2, 1) := by decide +kernel
theorem dX0_weightOf_22 : decode cX0_weightOf 22 = .ok (.aload_n 0, 1) := by decide +kernel
theorem dX0_weightOf_23 : decode cX0_weightOf 23 = .ok (.getfield 32, 3) := by decide +kernel
theorem dX0_weightOf_26 : decode cX0_weightOf 26 = .ok (.iload_n 3, 1) := by decide +kernel
theorem dX0_weightOf_27 : decode cX0_weightOf 27 = .ok (.aaload, 1) := by decide +kernel
theorem dX0_weightOf_28 : decode cX0_weightOf 28 = .ok (.getfield 75, 3) := by decide +kernel
theorem dX0_weightOf_31 : decode cX0_weightOf 31 = .ok (.iadd, 1) := by decide +kernel
theorem dX0_weightOf_32 : decode cX0_weightOf 32 = .ok (.istore_n 2, 1) := by decide +kernel
theorem dX0_weightOf_33 : decode cX0_weightOf 33 = .ok (.iinc 3 1, 3) := by decide +kernel
theorem dX0_weightOf_36 : decode cX0_weightOf 36 = .ok (.goto (-32), 3) := by decide +kernel
theorem dX0_weightOf_39 : decode cX0_weightOf 39 = .ok (.iload_n 2, 1) := by decide +kernel
theorem dX0_weightOf_40 : decode cX0_weightOf 40 = .ok (.ireturn, 1) := by decide +kernel
theorem dX0_clink_0 : decode cX0_clink 0 = .ok (.aload_n 0, 1) := by decide +kernel
theorem dX0_clink_1 : decode cX0_clink 1 = .ok (.getfield 32, 3) := by decide +kernel
theorem dX0_clink_4 : decode cX0_clink 4 = .ok (.iload_n 1, 1) := by decide +kernel
theorem dX0_clink_5 : decode cX0_clink 5 = .ok (.aaload, 1) := by decide +kernel
theorem dX0_clink_6 : decode cX0_clink 6 = .ok (.getfield 59, 3) := by decide +kernel
theorem dX0_clink_9 : decode cX0_clink 9 = .ok (.iconst 1, 1) := by decide +kernel
theorem dX0_clink_10 : decode cX0_clink 10 = .ok (.if_icmp .ne 41, 3) := by decide +kernel
theorem dX0_clink_13 : decode cX0_clink 13 = .ok (.aload_n 0, 1) := by decide +kernel
theorem dX0_clink_14 : decode cX0_clink 14 = .ok (.getfield 32, 3) := by decide +kernel
theorem dX0_clink_17 : decode cX0_clink 17 = .ok (.iload_n 2, 1) := by decide +kernel
theorem dX0_clink_18 : decode cX0_clink 18 = .ok (.aaload, 1) := by decide +kernel
theorem dX0_clink_19 : decode cX0_clink 19 = .ok (.getfield 59, 3) := by decide +kernel
theorem dX0_clink_22 : decode cX0_clink 22 = .ok (.iconst 1, 1) := by decide +kernel
theorem dX0_clink_23 : decode cX0_clink 23 = .ok (.if_icmp .ne 28, 3) := by decide +kernel
theorem dX0_clink_26 : decode cX0_clink 26 = .ok (.aload_n 0, 1) := by decide +kernel
theorem dX0_clink_27 : decode cX0_clink 27 = .ok (.getfield 32, 3) := by decide +kernel
theorem dX0_clink_30 : decode cX0_clink 30 = .ok (.iload_n 1, 1) := by decide +kernel
theorem dX0_clink_31 : decode cX0_clink 31 = .ok (.aaload, 1) := by decide +kernel
theorem dX0_clink_32 : decode cX0_clink 32 = .ok (.getfield 78, 3) := by decide +kernel
theorem dX0_clink_35 : decode cX0_clink 35 = .ok (.aload_n 0, 1) := by decide +kernel
theorem dX0_clink_36 : decode cX0_clink 36 = .ok (.getfield 32, 3) := by decide +kernel
theorem dX0_clink_39 : decode cX0_clink 39 = .ok (.iload_n 2, 1) := by decide +kernel
theorem dX0_clink_40 : decode cX0_clink 40 = .ok (.aaload, 1) := by decide +kernel
theorem dX0_clink_41 : decode cX0_clink 41 = .ok (.getfield 78, 3) := by decide +kernel
theorem dX0_clink_44 : decode cX0_clink 44 = .ok (.if_icmp .ne 7, 3) := by decide +kernel
theorem dX0_clink_47 : decode cX0_clink 47 = .ok (.iconst 1, 1) := by decide +kernel
theorem dX0_clink_48 : decode cX0_clink 48 = .ok (.goto 4, 3) := by decide +kernel
theorem dX0_clink_51 : decode cX0_clink 51 = .ok (.iconst 0, 1) := by decide +kernel
theorem dX0_clink_52 : decode cX0_clink 52 = .ok (.ireturn, 1) := by decide +kernel
theorem dX0_clinkingPairs_0 : decode cX0_clinkingPairs 0 = .ok (.iconst 0, 1) := by decide +kernel
theorem dX0_clinkingPairs_1 : decode cX0_clinkingPairs 1 = .ok (.istore_n 1, 1) := by decide +kernel
theorem dX0_clinkingPairs_2 : decode cX0_clinkingPairs 2 = .ok (.iconst 0, 1) := by decide +kernel
theorem dX0_clinkingPairs_3 : decode cX0_clinkingPairs 3 = .ok (.istore_n 2, 1) := by decide +kernel
theorem dX0_clinkingPairs_4 : decode cX0_clinkingPairs 4 = .ok (.iload_n 2, 1) := by decide +kernel
theorem dX0_clinkingPairs_5 : decode cX0_clinkingPairs 5 = .ok (.aload_n 0, 1) := by decide +kernel
theorem dX0_clinkingPairs_6 : decode cX0_clinkingPairs 6 = .ok (.getfield 27, 3) := by decide +kernel
theorem dX0_clinkingPairs_9 : decode cX0_clinkingPairs 9 = .ok (.if_icmp .ge 39, 3) := by decide +kernel
theorem dX0_clinkingPairs_12 : decode cX0_clinkingPairs 12 = .ok (.iload_n 2, 1) := by decide +kernel
theorem dX0_clinkingPairs_13 : decode cX0_clinkingPairs 13 = .ok (.iconst 1, 1) := by decide +kernel
theorem dX0_clinkingPairs_14 : decode cX0_clinkingPairs 14 = .ok (.iadd, 1) := by decide +kernel
theorem dX0_clinkingPairs_15 : decode cX0_clinkingPairs 15 = .ok (.istore_n 3, 1) := by decide +kernel
theorem dX0_clinkingPairs_16 : decode cX0_clinkingPairs 16 = .ok (.iload_n 3, 1) := by decide +kernel
theorem dX0_clinkingPairs_17 : decode cX0_clinkingPairs 17 = .ok (.aload_n 0, 1) := by decide +kernel
theorem dX0_clinkingPairs_18 : decode cX0_clinkingPairs 18 = .ok (.getfield 27, 3) := by decide +kernel
theorem dX0_clinkingPairs_21 : decode cX0_clinkingPairs 21 = .ok (.if_icmp .ge 21, 3) := by decide +kernel
theorem dX0_clinkingPairs_24 : decode cX0_clinkingPairs 24 = .ok (.aload_n 0, 1) := by decide +kernel
theorem dX0_clinkingPairs_25 : decode cX0_clinkingPairs 25 = .ok (.iload_n 2, 1) := by decide +kernel
theorem dX0_clinkingPairs_26 : decode cX0_clinkingPairs 26 = .ok (.iload_n 3, 1) := by decide +kernel
theorem dX0_clinkingPairs_27 : decode cX0_clinkingPairs 27 = .ok (.invokevirtual 81, 3) := by decide +kernel
theorem dX0_clinkingPairs_30 : decode cX0_clinkingPairs 30 = .ok (.ifCond .eq 6, 3) := by decide +kernel
theorem dX0_clinkingPairs_33 : decode cX0_clinkingPairs 33 = .ok (.iinc 1 1, 3) := by decide +kernel
theorem dX0_clinkingPairs_36 : decode cX0_clinkingPairs 36 = .ok (.iinc 3 1, 3) := by decide +kernel
theorem dX0_clinkingPairs_39 : decode cX0_clinkingPairs 39 = .ok (.goto (-23), 3) := by decide +kernel
theorem dX0_clinkingPairs_42 : decode cX0_clinkingPairs 42 = .ok (.iinc 2 1, 3) := by decide +kernel
theorem dX0_clinkingPairs_45 : decode cX0_clinkingPairs 45 = .ok (.goto (-41), 3) := by decide +kernel
theorem dX0_clinkingPairs_48 : decode cX0_clinkingPairs 48 = .ok (.iload_n 1, 1) := by decide +kernel
theorem dX0_clinkingPairs_49 : decode cX0_clinkingPairs 49 = .ok (.ireturn, 1) := by decide +kernel
theorem dX0_clinksNow_0 : decode cX0_clinksNow 0 = .ok (.iconst 0, 1) := by decide +kernel
theorem dX0_clinksNow_1 : decode cX0_clinksNow 1 = .ok (.istore_n 2, 1) := by decide +kernel
theorem dX0_clinksNow_2 : decode cX0_clinksNow 2 = .ok (.iload_n 2, 1) := by decide +kernel
theorem dX0_clinksNow_3 : decode cX0_clinksNow 3 = .ok (.aload_n 0, 1) := by decide +kernel
theorem dX0_clinksNow_4 : decode cX0_clinksNow 4 = .ok (.getfield 27, 3) := by decide +kernel
theorem dX0_clinksNow_7 : decode cX0_clinksNow 7 = .ok (.if_icmp .ge 25, 3) := by decide +kernel
theorem dX0_clinksNow_10 : decode cX0_clinksNow 10 = .ok (.iload_n 2, 1) := by decide +kernel
theorem dX0_clinksNow_11 : decode cX0_clinksNow 11 = .ok (.iload_n 1, 1) := by decide +kernel
theorem dX0_clinksNow_12 : decode cX0_clinksNow 12 = .ok (.if_icmp .eq 14, 3) := by decide +kernel
theorem dX0_clinksNow_15 : decode cX0_clinksNow 15 = .ok (.aload_n 0, 1) := by decide +kernel
theorem dX0_clinksNow_16 : decode cX0_clinksNow 16 = .ok (.iload_n 1, 1) := by decide +kernel
theorem dX0_clinksNow_17 : decode cX0_clinksNow 17 = .ok (.iload_n 2, 1) := by decide +kernel
theorem dX0_clinksNow_18 : decode cX0_clinksNow 18 = .ok (.invokevirtual 81, 3) := by decide +kernel
theorem dX0_clinksNow_21 : decode cX0_clinksNow 21 = .ok (.ifCond .eq 5, 3) := by decide +kernel
theorem dX0_clinksNow_24 : decode cX0_clinksNow 24 = .ok (.iconst 1, 1) := by decide +kernel
theorem dX0_clinksNow_25 : decode cX0_clinksNow 25 = .ok (.ireturn, 1) := by decide +kernel
theorem dX0_clinksNow_26 : decode cX0_clinksNow 26 = .ok (.iinc 2 1, 3) := by decide +kernel
theorem dX0_clinksNow_29 : decode cX0_clinksNow 29 = .ok (.goto (-27), 3) := by decide +kernel
theorem dX0_clinksNow_32 : decode cX0_clinksNow 32 = .ok (.iconst 0, 1) := by decide +kernel
theorem dX0_clinksNow_33 : decode cX0_clinksNow 33 = .ok (.ireturn, 1) := by decide +kernel
theorem dX0_hasFallen_0 : decode cX0_hasFallen 0 = .ok (.aload_n 0, 1) := by decide +kernel
theorem dX0_hasFallen_1 : decode cX0_hasFallen 1 = .ok (.getfield 32, 3) := by decide +kernel
theorem dX0_hasFallen_4 : decode cX0_hasFallen 4 = .ok (.iload_n 1, 1) := by decide +kernel
theorem dX0_hasFallen_5 : decode cX0_hasFallen 5 = .ok (.aaload, 1) := by decide +kernel
theorem dX0_hasFallen_6 : decode cX0_hasFallen 6 = .ok (.getfield 85, 3) := by decide +kernel
theorem dX0_hasFallen_9 : decode cX0_hasFallen 9 = .ok (.iconst (-1), 1) := by decide +kernel
theorem dX0_hasFallen_10 : decode cX0_hasFallen 10 = .ok (.if_icmp .eq 7, 3) := by decide +kernel
theorem dX0_hasFallen_13 : decode cX0_hasFallen 13 = .ok (.iconst 1, 1) := by decide +kernel
theorem dX0_hasFallen_14 : decode cX0_hasFallen 14 = .ok (.goto 4, 3) := by decide +kernel
theorem dX0_hasFallen_17 : decode cX0_hasFallen 17 = .ok (.iconst 0, 1) := by decide +kernel
theorem dX0_hasFallen_18 : decode cX0_hasFallen 18 = .ok (.ireturn, 1) := by decide +kernel
theorem dX0_wayCell_0 : decode cX0_wayCell 0 = .ok (.aload_n 0, 1) := by decide +kernel
theorem dX0_wayCell_1 : decode cX0_wayCell 1 = .ok (.getfield 21, 3) := by decide +kernel
theorem dX0_wayCell_4 : decode cX0_wayCell 4 = .ok (.iconst 1, 1) := by decide +kernel
theorem dX0_wayCell_5 : decode cX0_wayCell 5 = .ok (.isub, 1) := by decide +kernel
theorem dX0_wayCell_6 : decode cX0_wayCell 6 = .ok (.aload_n 0, 1) := by decide +kernel
theorem dX0_wayCell_7 : decode cX0_wayCell 7 = .ok (.getfield 32, 3) := by decide +kernel
theorem dX0_wayCell_10 : decode cX0_wayCell 10 = .ok (.iload_n 1, 1) := by decide +kernel
theorem dX0_wayCell_11 : decode cX0_wayCell 11 = .ok (.aaload, 1) := by decide +kernel
theorem dX0_wayCell_12 : decode cX0_wayCell 12 = .ok (.getfield 85, 3) := by decide +kernel
theorem dX0_wayCell_15 : decode cX0_wayCell 15 = .ok (.isub, 1) := by decide +kernel
theorem dX0_wayCell_16 : decode cX0_wayCell 16 = .ok (.iload_n 2, 1) := by decide +kernel
theorem dX0_wayCell_17 : decode cX0_wayCell 17 = .ok (.idiv, 1) := by decide +kernel
theorem dX0_wayCell_18 : decode cX0_wayCell 18 = .ok (.ireturn, 1) := by decide +kernel
theorem dX0_spotsInUse_0 : decode cX0_spotsInUse 0 = .ok (.iconst 0, 1) := by decide +kernel
theorem dX0_spotsInUse_1 : decode cX0_spotsInUse 1 = .ok (.istore_n 1, 1) := by decide +kernel
theorem dX0_spotsInUse_2 : decode cX0_spotsInUse 2 = .ok (.iconst 0, 1) := by decide +kernel
theorem dX0_spotsInUse_3 : decode cX0_spotsInUse 3 = .ok (.istore_n 2, 1) := by decide +kernel
theorem dX0_spotsInUse_4 : decode cX0_spotsInUse 4 = .ok (.iload_n 2, 1) := by decide +kernel
theorem dX0_spotsInUse_5 : decode cX0_spotsInUse 5 = .ok (.bipush 10, 2) := by decide +kernel
theorem dX0_spotsInUse_7 : decode cX0_spotsInUse 7 = .ok (.if_icmp .ge 22, 3) := by decide +kernel
theorem dX0_spotsInUse_10 : decode cX0_spotsInUse 10 = .ok (.aload_n 0, 1) := by decide +kernel
theorem dX0_spotsInUse_11 : decode cX0_spotsInUse 11 = .ok (.getfield 36, 3) := by decide +kernel
theorem dX0_spotsInUse_14 : decode cX0_spotsInUse 14 = .ok (.iload_n 2, 1) := by decide +kernel
theorem dX0_spotsInUse_15 : decode cX0_spotsInUse 15 = .ok (.iaload, 1) := by decide +kernel
theorem dX0_spotsInUse_16 : decode cX0_spotsInUse 16 = .ok (.iconst (-1), 1) := by decide +kernel
theorem dX0_spotsInUse_17 : decode cX0_spotsInUse 17 = .ok (.if_icmp .eq 6, 3) := by decide +kernel
theorem dX0_spotsInUse_20 : decode cX0_spotsInUse 20 = .ok (.iinc 1 1, 3) := by decide +kernel
theorem dX0_spotsInUse_23 : decode cX0_spotsInUse 23 = .ok (.iinc 2 1, 3) := by decide +kernel
theorem dX0_spotsInUse_26 : decode cX0_spotsInUse 26 = .ok (.goto (-22), 3) := by decide +kernel
theorem dX0_spotsInUse_29 : decode cX0_spotsInUse 29 = .ok (.iload_n 1, 1) := by decide +kernel
theorem dX0_spotsInUse_30 : decode cX0_spotsInUse 30 = .ok (.ireturn, 1) := by decide +kernel
theorem dX0_draw_0 : decode cX0_draw 0 = .ok (.aload_n 0, 1) := by decide +kernel
theorem dX0_draw_1 : decode cX0_draw 1 = .ok (.aload_n 0, 1) := by decide +kernel
theorem dX0_draw_2 : decode cX0_draw 2 = .ok (.getfield 24, 3) := by decide +kernel
theorem dX0_draw_5 : decode cX0_draw 5 = .ok (.ldc 88, 2) := by decide +kernel
theorem dX0_draw_7 : decode cX0_draw 7 = .ok (.imul, 1) := by decide +kernel
theorem dX0_draw_8 : decode cX0_draw 8 = .ok (.sipush 12345, 3) := by decide +kernel
theorem dX0_draw_11 : decode cX0_draw 11 = .ok (.iadd, 1) := by decide +kernel
theorem dX0_draw_12 : decode cX0_draw 12 = .ok (.putfield 24, 3) := by decide +kernel
theorem dX0_draw_15 : decode cX0_draw 15 = .ok (.aload_n 0, 1) := by decide +kernel
theorem dX0_draw_16 : decode cX0_draw 16 = .ok (.getfield 24, 3) := by decide +kernel
theorem dX0_draw_19 : decode cX0_draw 19 = .ok (.bipush 8, 2) := by decide +kernel
theorem dX0_draw_21 : decode cX0_draw 21 = .ok (.iushr, 1) := by decide +kernel
theorem dX0_draw_22 : decode cX0_draw 22 = .ok (.ireturn, 1) := by decide +kernel
theorem dX0_go_0 : decode cX0_go 0 = .ok (.iconst 0, 1) := by decide +kernel
theorem dX0_go_1 : decode cX0_go 1 = .ok (.istore_n 2, 1) := by decide +kernel
theorem dX0_go_2 : decode cX0_go 2 = .ok (.iload_n 2, 1) := by decide +kernel
theorem dX0_go_3 : decode cX0_go 3 = .ok (.iload_n 1, 1) := by decide +kernel
theorem dX0_go_4 : decode cX0_go 4 = .ok (.if_icmp .ge 33, 3) := by decide +kernel
theorem dX0_go_7 : decode cX0_go 7 = .ok (.aload_n 0, 1) := by decide +kernel
theorem dX0_go_8 : decode cX0_go 8 = .ok (.getfield 21, 3) := by decide +kernel
theorem dX0_go_11 : decode cX0_go 11 = .ok (.istore_n 3, 1) := by decide +kernel
theorem dX0_go_12 : decode cX0_go 12 = .ok (.aload_n 0, 1) := by decide +kernel
theorem dX0_go_13 : decode cX0_go 13 = .ok (.iconst 1, 1) := by decide +kernel
theorem dX0_go_14 : decode cX0_go 14 = .ok (.invokevirtual 68, 3) := by decide +kernel
theorem dX0_go_17 : decode cX0_go 17 = .ok (.istore 4, 2) := by decide +kernel
theorem dX0_go_19 : decode cX0_go 19 = .ok (.aload_n 0, 1) := by decide +kernel
theorem dX0_go_20 : decode cX0_go 20 = .ok (.invokevirtual 89, 3) := by decide +kernel
theorem dX0_go_23 : decode cX0_go 23 = .ok (.pop, 1) := by decide +kernel
theorem dX0_go_24 : decode cX0_go 24 = .ok (.aload_n 0, 1) := by decide +kernel
theorem dX0_go_25 : decode cX0_go 25 = .ok (.iload 4, 2) := by decide +kernel
theorem dX0_go_27 : decode cX0_go 27 = .ok (.iload_n 3, 1) := by decide +kernel
theorem dX0_go_28 : decode cX0_go 28 = .ok (.invokevirtual 93, 3) := by decide +kernel
theorem dX0_go_31 : decode cX0_go 31 = .ok (.iinc 2 1, 3) := by decide +kernel
theorem dX0_go_34 : decode cX0_go 34 = .ok (.goto (-32), 3) := by decide +kernel
theorem dX0_go_37 : decode cX0_go 37 = .ok (.return_, 1) := by decide +kernel
theorem dX0_goPocket_0 : decode cX0_goPocket 0 = .ok (.iconst 0, 1) := by decide +kernel
theorem dX0_goPocket_1 : decode cX0_goPocket 1 = .ok (.istore_n 1, 1) := by decide +kernel
theorem dX0_goPocket_2 : decode cX0_goPocket 2 = .ok (.iconst 0, 1) := by decide +kernel
theorem dX0_goPocket_3 : decode cX0_goPocket 3 = .ok (.istore_n 2, 1) := by decide +kernel
theorem dX0_goPocket_4 : decode cX0_goPocket 4 = .ok (.iload_n 2, 1) := by decide +kernel
theorem dX0_goPocket_5 : decode cX0_goPocket 5 = .ok (.aload_n 0, 1) := by decide +kernel
theorem dX0_goPocket_6 : decode cX0_goPocket 6 = .ok (.getfield 27, 3) := by decide +kernel
theorem dX0_goPocket_9 : decode cX0_goPocket 9 = .ok (.if_icmp .ge 36, 3) := by decide +kernel
theorem dX0_goPocket_12 : decode cX0_goPocket 12 = .ok (.aload_n 0, 1) := by decide +kernel
theorem dX0_goPocket_13 : decode cX0_goPocket 13 = .ok (.getfield 32, 3) := by decide +kernel
theorem dX0_goPocket_16 : decode cX0_goPocket 16 = .ok (.iload_n 2, 1) := by decide +kernel
theorem dX0_goPocket_17 : decode cX0_goPocket 17 = .ok (.aaload, 1) := by decide +kernel
theorem dX0_goPocket_18 : decode cX0_goPocket 18 = .ok (.getfield 59, 3) := by decide +kernel
theorem dX0_goPocket_21 : decode cX0_goPocket 21 = .ok (.ifCond .ne 18, 3) := by decide +kernel
theorem dX0_goPocket_24 : decode cX0_goPocket 24 = .ok (.aload_n 0, 1) := by decide +kernel
theorem dX0_goPocket_25 : decode cX0_goPocket 25 = .ok (.aload_n 0, 1) := by decide +kernel
theorem dX0_goPocket_26 : decode cX0_goPocket 26 = .ok (.getfield 32, 3) := by decide +kernel
theorem dX0_goPocket_29 : decode cX0_goPocket 29 = .ok (.iload_n 2, 1) := by decide +kernel
theorem dX0_goPocket_30 : decode cX0_goPocket 30 = .ok (.aaload, 1) := by decide +kernel
theorem dX0_goPocket_31 : decode cX0_goPocket 31 = .ok (.invokevirtual 97, 3) := by decide +kernel
theorem dX0_goPocket_34 : decode cX0_goPocket 34 = .ok (.ifCond .eq 5, 3) := by decide +kernel
theorem dX0_goPocket_37 : decode cX0_goPocket 37 = .ok (.iconst 1, 1) := by decide +kernel
theorem dX0_goPocket_38 : decode cX0_goPocket 38 = .ok (.istore_n 1, 1) := by decide +kernel
theorem dX0_goPocket_39 : decode cX0_goPocket 39 = .ok (.iinc 2 1, 3) := by decide +kernel
theorem dX0_goPocket_42 : decode cX0_goPocket 42 = .ok (.goto (-38), 3) := by decide +kernel
theorem dX0_goPocket_45 : decode cX0_goPocket 45 = .ok (.aload_n 0, 1) := by decide +kernel
theorem dX0_goPocket_46 : decode cX0_goPocket 46 = .ok (.dup, 1) := by decide +kernel
theorem dX0_goPocket_47 : decode cX0_goPocket 47 = .ok (.getfield 21, 3) := by decide +kernel
theorem dX0_goPocket_50 : decode cX0_goPocket 50 = .ok (.iconst 1, 1) := by decide +kernel
theorem dX0_goPocket_51 : decode cX0_goPocket 51 = .ok (.iadd, 1) := by decide +kernel
theorem dX0_goPocket_52 : decode cX0_goPocket 52 = .ok (.putfield 21, 3) := by decide +kernel
theorem dX0_goPocket_55 : decode cX0_goPocket 55 = .ok (.iload_n 1, 1) := by decide +kernel
theorem dX0_goPocket_56 : decode cX0_goPocket 56 = .ok (.ireturn, 1) := by decide +kernel
theorem dX0_stirOne_0 : decode cX0_stirOne 0 = .ok (.aload_n 1, 1) := by decide +kernel
theorem dX0_stirOne_1 : decode cX0_stirOne 1 = .ok (.getfield 101, 3) := by decide +kernel
theorem dX0_stirOne_4 : decode cX0_stirOne 4 = .ok (.aload_n 1, 1) := by decide +kernel
theorem dX0_stirOne_5 : decode cX0_stirOne 5 = .ok (.invokevirtual 104, 3) := by decide +kernel
theorem dX0_stirOne_8 : decode cX0_stirOne 8 = .ok (.iadd, 1) := by decide +kernel
theorem dX0_stirOne_9 : decode cX0_stirOne 9 = .ok (.bipush 9, 2) := by decide +kernel
theorem dX0_stirOne_11 : decode cX0_stirOne 11 = .ok (.invokestatic 107, 3) := by decide +kernel
theorem dX0_stirOne_14 : decode cX0_stirOne 14 = .ok (.istore_n 2, 1) := by decide +kernel
theorem dX0_stirOne_15 : decode cX0_stirOne 15 = .ok (.iload_n 2, 1) := by decide +kernel
theorem dX0_stirOne_16 : decode cX0_stirOne 16 = .ok (.aload_n 1, 1) := by decide +kernel
theorem dX0_stirOne_17 : decode cX0_stirOne 17 = .ok (.getfield 101, 3) := by decide +kernel
theorem dX0_stirOne_20 : decode cX0_stirOne 20 = .ok (.if_icmp .eq 7, 3) := by decide +kernel
theorem dX0_stirOne_23 : decode cX0_stirOne 23 = .ok (.iconst 1, 1) := by decide +kernel
theorem dX0_stirOne_24 : decode cX0_stirOne 24 = .ok (.goto 4, 3) := by decide +kernel
theorem dX0_stirOne_27 : decode cX0_stirOne 27 = .ok (.iconst 0, 1) := by decide +kernel
theorem dX0_stirOne_28 : decode cX0_stirOne 28 = .ok (.istore_n 3, 1) := by decide +kernel
theorem dX0_stirOne_29 : decode cX0_stirOne 29 = .ok (.aload_n 1, 1) := by decide +kernel
theorem dX0_stirOne_30 : decode cX0_stirOne 30 = .ok (.iload_n 2, 1) := by decide +kernel
theorem dX0_stirOne_31 : decode cX0_stirOne 31 = .ok (.putfield 101, 3) := by decide +kernel
theorem dX0_stirOne_34 : decode cX0_stirOne 34 = .ok (.iload_n 2, 1) := by decide +kernel
theorem dX0_stirOne_35 : decode cX0_stirOne 35 = .ok (.iconst 3, 1) := by decide +kernel
theorem dX0_stirOne_36 : decode cX0_stirOne 36 = .ok (.if_icmp .ge 5, 3) := by decide +kernel
theorem dX0_stirOne_39 : decode cX0_stirOne 39 = .ok (.iload_n 3, 1) := by decide +kernel
theorem dX0_stirOne_40 : decode cX0_stirOne 40 = .ok (.ireturn, 1) := by decide +kernel
theorem dX0_stirOne_41 : decode cX0_stirOne 41 = .ok (.aload_n 1, 1) := by decide +kernel
theorem dX0_stirOne_42 : decode cX0_stirOne 42 = .ok (.invokevirtual 62, 3) := by decide +kernel
theorem dX0_stirOne_45 : decode cX0_stirOne 45 = .ok (.aload_n 0, 1) := by decide +kernel
theorem dX0_stirOne_46 : decode cX0_stirOne 46 = .ok (.getfield 9, 3) := by decide +kernel
theorem dX0_stirOne_49 : decode cX0_stirOne 49 = .ok (.if_icmp .gt 37, 3) := by decide +kernel
theorem dX0_stirOne_52 : decode cX0_stirOne 52 = .ok (.aload_n 1, 1) := by decide +kernel
theorem dX0_stirOne_53 : decode cX0_stirOne 53 = .ok (.iconst 1, 1) := by decide +kernel
theorem dX0_stirOne_54 : decode cX0_stirOne 54 = .ok (.putfield 59, 3) := by decide +kernel
theorem dX0_stirOne_57 : decode cX0_stirOne 57 = .ok (.aload_n 1, 1) := by decide +kernel
theorem dX0_stirOne_58 : decode cX0_stirOne 58 = .ok (.iconst 0, 1) := by decide +kernel
theorem dX0_stirOne_59 : decode cX0_stirOne 59 = .ok (.putfield 78, 3) := by decide +kernel
theorem dX0_stirOne_62 : decode cX0_stirOne 62 = .ok (.aload_n 0, 1) := by decide +kernel
theorem dX0_stirOne_63 : decode cX0_stirOne 63 = .ok (.aload_n 0, 1) := by decide +kernel
theorem dX0_stirOne_64 : decode cX0_stirOne 64 = .ok (.getfield 9, 3) := by decide +kernel
theorem dX0_stirOne_67 : decode cX0_stirOne 67 = .ok (.aload_n 1, 1) := by decide +kernel
theorem dX0_stirOne_68 : decode cX0_stirOne 68 = .ok (.aload_n 0, 1) := by decide +kernel
theorem dX0_stirOne_69 : decode cX0_stirOne 69 = .ok (.getfield 9, 3) := by decide +kernel
theorem dX0_stirOne_72 : decode cX0_stirOne 72 = .ok (.invokevirtual 113, 3) := by decide +kernel
theorem dX0_stirOne_75 : decode cX0_stirOne 75 = .ok (.iadd, 1) := by decide +kernel
theorem dX0_stirOne_76 : decode cX0_stirOne 76 = .ok (.bipush 99, 2) := by decide +kernel
theorem dX0_stirOne_78 : decode cX0_stirOne 78 = .ok (.invokestatic 107, 3) := by decide +kernel
theorem dX0_stirOne_81 : decode cX0_stirOne 81 = .ok (.putfield 9, 3) := by decide +kernel
theorem dX0_stirOne_84 : decode cX0_stirOne 84 = .ok (.iconst 1, 1) := by decide +kernel
theorem dX0_stirOne_85 : decode cX0_stirOne 85 = .ok (.ireturn, 1) := by decide +kernel
theorem dX0_stirOne_86 : decode cX0_stirOne 86 = .ok (.aload_n 1, 1) := by decide +kernel
theorem dX0_stirOne_87 : decode cX0_stirOne 87 = .ok (.getfield 116, 3) := by decide +kernel
theorem dX0_stirOne_90 : decode cX0_stirOne 90 = .ok (.iconst 4, 1) := by decide +kernel
theorem dX0_stirOne_91 : decode cX0_stirOne 91 = .ok (.if_icmp .ne 29, 3) := by decide +kernel
theorem dX0_stirOne_94 : decode cX0_stirOne 94 = .ok (.aload_n 0, 1) := by decide +kernel
theorem dX0_stirOne_95 : decode cX0_stirOne 95 = .ok (.getfield 21, 3) := by decide +kernel
theorem dX0_stirOne_98 : decode cX0_stirOne 98 = .ok (.iconst 4, 1) := by decide +kernel
theorem dX0_stirOne_99 : decode cX0_stirOne 99 = .ok (.irem, 1) := by decide +kernel
theorem dX0_stirOne_100 : decode cX0_stirOne 100 = .ok (.ifCond .ne 18, 3) := by decide +kernel
theorem dX0_stirOne_103 : decode cX0_stirOne 103 = .ok (.aload_n 0, 1) := by decide +kernel
theorem dX0_stirOne_104 : decode cX0_stirOne 104 = .ok (.aload_n 0, 1) := by decide +kernel
theorem dX0_stirOne_105 : decode cX0_stirOne 105 = .ok (.getfield 9, 3) := by decide +kernel
theorem dX0_stirOne_108 : decode cX0_stirOne 108 = .ok (.iconst 1, 1) := by decide +kernel
theorem dX0_stirOne_109 : decode cX0_stirOne 109 = .ok (.iadd, 1) := by decide +kernel
theorem dX0_stirOne_110 : decode cX0_stirOne 110 = .ok (.bipush 99, 2) := by decide +kernel
theorem dX0_stirOne_112 : decode cX0_stirOne 112 = .ok (.invokestatic 107, 3) := by decide +kernel
theorem dX0_stirOne_115 : decode cX0_stirOne 115 = .ok (.putfield 9, 3) := by decide +kernel
theorem dX0_stirOne_118 : decode cX0_stirOne 118 = .ok (.iconst 1, 1) := by decide +kernel
theorem dX0_stirOne_119 : decode cX0_stirOne 119 = .ok (.ireturn, 1) := by decide +kernel
theorem dX0_stirOne_120 : decode cX0_stirOne 120 = .ok (.iload_n 3, 1) := by decide +kernel
theorem dX0_stirOne_121 : decode cX0_stirOne 121 = .ok (.ireturn, 1) := by decide +kernel
theorem dX0_goLining_0 : decode cX0_goLining 0 = .ok (.iconst 0, 1) := by decide +kernel
theorem dX0_goLining_1 : decode cX0_goLining 1 = .ok (.istore_n 3, 1) := by decide +kernel
theorem dX0_goLining_2 : decode cX0_goLining 2 = .ok (.iload_n 3, 1) := by decide +kernel
theorem dX0_goLining_3 : decode cX0_goLining 3 = .ok (.aload_n 0, 1) := by decide +kernel
theorem dX0_goLining_4 : decode cX0_goLining 4 = .ok (.getfield 27, 3) := by decide +kernel
theorem dX0_goLining_7 : decode cX0_goLining 7 = .ok (.if_icmp .ge 94, 3) := by decide +kernel
theorem dX0_goLining_10 : decode cX0_goLining 10 = .ok (.iload_n 1, 1) := by decide +kernel
theorem dX0_goLining_11 : decode cX0_goLining 11 = .ok (.iload_n 3, 1) := by decide +kernel
theorem dX0_goLining_12 : decode cX0_goLining 12 = .ok (.ishr, 1) := by decide +kernel
theorem dX0_goLining_13 : decode cX0_goLining 13 = .ok (.iconst 1, 1) := by decide +kernel
theorem dX0_goLining_14 : decode cX0_goLining 14 = .ok (.iand, 1) := by decide +kernel
theorem dX0_goLining_15 : decode cX0_goLining 15 = .ok (.iconst 1, 1) := by decide +kernel
theorem dX0_goLining_16 : decode cX0_goLining 16 = .ok (.if_icmp .ne 79, 3) := by decide +kernel
theorem dX0_goLining_19 : decode cX0_goLining 19 = .ok (.aload_n 0, 1) := by decide +kernel
theorem dX0_goLining_20 : decode cX0_goLining 20 = .ok (.getfield 32, 3) := by decide +kernel
theorem dX0_goLining_23 : decode cX0_goLining 23 = .ok (.iload_n 3, 1) := by decide +kernel
theorem dX0_goLining_24 : decode cX0_goLining 24 = .ok (.aaload, 1) := by decide +kernel
theorem dX0_goLining_25 : decode cX0_goLining 25 = .ok (.astore 4, 2) := by decide +kernel
theorem dX0_goLining_27 : decode cX0_goLining 27 = .ok (.aload 4, 2) := by decide +kernel
theorem dX0_goLining_29 : decode cX0_goLining 29 = .ok (.getfield 78, 3) := by decide +kernel
theorem dX0_goLining_32 : decode cX0_goLining 32 = .ok (.aload_n 0, 1) := by decide +kernel
theorem dX0_goLining_33 : decode cX0_goLining 33 = .ok (.getfield 18, 3) := by decide +kernel
theorem dX0_goLining_36 : decode cX0_goLining 36 = .ok (.if_icmp .ne 38, 3) := by decide +kernel
theorem dX0_goLining_39 : decode cX0_goLining 39 = .ok (.aload 4, 2) := by decide +kernel
theorem dX0_goLining_41 : decode cX0_goLining 41 = .ok (.invokevirtual 62, 3) := by decide +kernel
theorem dX0_goLining_44 : decode cX0_goLining 44 = .ok (.aload_n 0, 1) := by decide +kernel
theorem dX0_goLining_45 : decode cX0_goLining 45 = .ok (.getfield 15, 3) := by decide +kernel
theorem dX0_goLining_48 : decode cX0_goLining 48 = .ok (.if_icmp .gt 26, 3) := by decide +kernel
theorem dX0_goLining_51 : decode cX0_goLining 51 = .ok (.aload_n 0, 1) := by decide +kernel
theorem dX0_goLining_52 : decode cX0_goLining 52 = .ok (.iload_n 3, 1) := by decide +kernel
theorem dX0_goLining_53 : decode cX0_goLining 53 = .ok (.invokevirtual 119, 3) := by decide +kernel
theorem dX0_goLining_56 : decode cX0_goLining 56 = .ok (.ifCond .eq 18, 3) := by decide +kernel
theorem dX0_goLining_59 : decode cX0_goLining 59 = .ok (.aload 4, 2) := by decide +kernel
theorem dX0_goLining_61 : decode cX0_goLining 61 = .ok (.iconst 2, 1) := by decide +kernel
theorem dX0_goLining_62 : decode cX0_goLining 62 = .ok (.putfield 59, 3) := by decide +kernel
theorem dX0_goLining_65 : decode cX0_goLining 65 = .ok (.aload 4, 2) := by decide +kernel
theorem dX0_goLining_67 : decode cX0_goLining 67 = .ok (.iload_n 2, 1) := by decide +kernel
theorem dX0_goLining_68 : decode cX0_goLining 68 = .ok (.putfield 85, 3) := by decide +kernel
theorem dX0_goLining_71 : decode cX0_goLining 71 = .ok (.goto 24, 3) := by decide +kernel
theorem dX0_goLining_74 : decode cX0_goLining 74 = .ok (.aload 4, 2) := by decide +kernel
theorem dX0_goLining_76 : decode cX0_goLining 76 = .ok (.aload 4, 2) := by decide +kernel
theorem dX0_goLining_78 : decode cX0_goLining 78 = .ok (.getfield 78, 3) := by decide +kernel
theorem dX0_goLining_81 : decode cX0_goLining 81 = .ok (.aload 4, 2) := by decide +kernel
theorem dX0_goLining_83 : decode cX0_goLining 83 = .ok (.invokevirtual 104, 3) := by decide +kernel
theorem dX0_goLining_86 : decode cX0_goLining 86 = .ok (.iadd, 1) := by decide +kernel
theorem dX0_goLining_87 : decode cX0_goLining 87 = .ok (.bipush 7, 2) := by decide +kernel
theorem dX0_goLining_89 : decode cX0_goLining 89 = .ok (.invokestatic 107, 3) := by decide +kernel
theorem dX0_goLining_92 : decode cX0_goLining 92 = .ok (.putfield 78, 3) := by decide +kernel
theorem dX0_goLining_95 : decode cX0_goLining 95 = .ok (.iinc 3 1, 3) := by decide +kernel
theorem dX0_goLining_98 : decode cX0_goLining 98 = .ok (.goto (-96), 3) := by decide +kernel
theorem dX0_goLining_101 : decode cX0_goLining 101 = .ok (.return_, 1) := by decide +kernel
theorem dX1_init_0 : decode cX1_init 0 = .ok (.aload_n 0, 1) := by decide +kernel
theorem dX1_init_1 : decode cX1_init 1 = .ok (.invokespecial 3, 3) := by decide +kernel
theorem dX1_init_4 : decode cX1_init 4 = .ok (.return_, 1) := by decide +kernel
theorem dX1_renew_0 : decode cX1_renew 0 = .ok (.aload_n 0, 1) := by decide +kernel
theorem dX1_renew_1 : decode cX1_renew 1 = .ok (.iload_n 1, 1) := by decide +kernel
theorem dX1_renew_2 : decode cX1_renew 2 = .ok (.putfield 9, 3) := by decide +kernel
theorem dX1_renew_5 : decode cX1_renew 5 = .ok (.aload_n 0, 1) := by decide +kernel
theorem dX1_renew_6 : decode cX1_renew 6 = .ok (.bipush 8, 2) := by decide +kernel
theorem dX1_renew_8 : decode cX1_renew 8 = .ok (.putfield 15, 3) := by decide +kernel
theorem dX1_renew_11 : decode cX1_renew 11 = .ok (.aload_n 0, 1) := by decide +kernel
theorem dX1_renew_12 : decode cX1_renew 12 = .ok (.iconst 5, 1) := by decide +kernel
theorem dX1_renew_13 : decode cX1_renew 13 = .ok (.putfield 18, 3) := by decide +kernel
theorem dX1_renew_16 : decode cX1_renew 16 = .ok (.aload_n 0, 1) := by decide +kernel
theorem dX1_renew_17 : decode cX1_renew 17 = .ok (.bipush 6, 2) := by decide +kernel
theorem dX1_renew_19 : decode cX1_renew 19 = .ok (.putfield 21, 3) := by decide +kernel
theorem dX1_renew_22 : decode cX1_renew 22 = .ok (.aload_n 0, 1) := by decide +kernel
theorem dX1_renew_23 : decode cX1_renew 23 = .ok (.iconst 0, 1) := by decide +kernel
theorem dX1_renew_24 : decode cX1_renew 24 = .ok (.invokevirtual 24, 3) := by decide +kernel
theorem dX1_renew_27 : decode cX1_renew 27 = .ok (.return_, 1) := by decide +kernel
theorem dX1_become_0 : decode cX1_become 0 = .ok (.aload_n 0, 1) := by decide +kernel
theorem dX1_become_1 : decode cX1_become 1 = .ok (.aload_n 1, 1) := by decide +kernel
theorem dX1_become_2 : decode cX1_become 2 = .ok (.getfield 9, 3) := by decide +kernel
theorem dX1_become_5 : decode cX1_become 5 = .ok (.putfield 9, 3) := by decide +kernel
theorem dX1_become_8 : decode cX1_become 8 = .ok (.aload_n 0, 1) := by decide +kernel
theorem dX1_become_9 : decode cX1_become 9 = .ok (.aload_n 1, 1) := by decide +kernel
theorem dX1_become_10 : decode cX1_become 10 = .ok (.getfield 15, 3) := by decide +kernel
theorem dX1_become_13 : decode cX1_become 13 = .ok (.putfield 15, 3) := by decide +kernel
theorem dX1_become_16 : decode cX1_become 16 = .ok (.aload_n 0, 1) := by decide +kernel
theorem dX1_become_17 : decode cX1_become 17 = .ok (.aload_n 1, 1) := by decide +kernel
theorem dX1_become_18 : decode cX1_become 18 = .ok (.getfield 18, 3) := by decide +kernel
theorem dX1_become_21 : decode cX1_become 21 = .ok (.putfield 18, 3) := by decide +kernel
theorem dX1_become_24 : decode cX1_become 24 = .ok (.aload_n 0, 1) := by decide +kernel
theorem dX1_become_25 : decode cX1_become 25 = .ok (.aload_n 1, 1) := by decide +kernel
theorem dX1_become_26 : decode cX1_become 26 = .ok (.getfield 21, 3) := by decide +kernel
theorem dX1_become_29 : decode cX1_become 29 = .ok (.putfield 21, 3) := by decide +kernel
theorem dX1_become_32 : decode cX1_become 32 = .ok (.aload_n 0, 1) := by decide +kernel
theorem dX1_become_33 : decode cX1_become 33 = .ok (.aload_n 1, 1) := by decide +kernel
theorem dX1_become_34 : decode cX1_become 34 = .ok (.getfield 28, 3) := by decide +kernel
theorem dX1_become_37 : decode cX1_become 37 = .ok (.putfield 28, 3) := by decide +kernel
theorem dX1_become_40 : decode cX1_become 40 = .ok (.aload_n 0, 1) := by decide +kernel
theorem dX1_become_41 : decode cX1_become 41 = .ok (.aload_n 1, 1) := by decide +kernel
theorem dX1_become_42 : decode cX1_become 42 = .ok (.getfield 31, 3) := by decide +kernel
theorem dX1_become_45 : decode cX1_become 45 = .ok (.putfield 31, 3) := by decide +kernel
theorem dX1_become_48 : decode cX1_become 48 = .ok (.aload_n 0, 1) := by decide +kernel
theorem dX1_become_49 : decode cX1_become 49 = .ok (.aload_n 1, 1) := by decide +kernel
theorem dX1_become_50 : decode cX1_become 50 = .ok (.getfield 34, 3) := by decide +kernel
theorem dX1_become_53 : decode cX1_become 53 = .ok (.putfield 34, 3) := by decide +kernel
theorem dX1_become_56 : decode cX1_become 56 = .ok (.aload_n 0, 1) := by decide +kernel
theorem dX1_become_57 : decode cX1_become 57 = .ok (.aload_n 1, 1) := by decide +kernel
theorem dX1_become_58 : decode cX1_become 58 = .ok (.getfield 37, 3) := by decide +kernel
theorem dX1_become_61 : decode cX1_become 61 = .ok (.putfield 37, 3) := by decide +kernel
theorem dX1_become_64 : decode cX1_become 64 = .ok (.return_, 1) := by decide +kernel
theorem dX1_moveTo_0 : decode cX1_moveTo 0 = .ok (.aload_n 0, 1) := by decide +kernel
theorem dX1_moveTo_1 : decode cX1_moveTo 1 = .ok (.iload_n 1, 1) := by decide +kernel
theorem dX1_moveTo_2 : decode cX1_moveTo 2 = .ok (.putfield 28, 3) := by decide +kernel
theorem dX1_moveTo_5 : decode cX1_moveTo 5 = .ok (.aload_n 0, 1) := by decide +kernel
theorem dX1_moveTo_6 : decode cX1_moveTo 6 = .ok (.iconst 0, 1) := by decide +kernel
theorem dX1_moveTo_7 : decode cX1_moveTo 7 = .ok (.putfield 31, 3) := by decide +kernel
theorem dX1_moveTo_10 : decode cX1_moveTo 10 = .ok (.aload_n 0, 1) := by decide +kernel
theorem dX1_moveTo_11 : decode cX1_moveTo 11 = .ok (.iconst 0, 1) := by decide +kernel
theorem dX1_moveTo_12 : decode cX1_moveTo 12 = .ok (.putfield 34, 3) := by decide +kernel
theorem dX1_moveTo_15 : decode cX1_moveTo 15 = .ok (.aload_n 0, 1) := by decide +kernel
theorem dX1_moveTo_16 : decode cX1_moveTo 16 = .ok (.iconst (-1), 1) := by decide +kernel
theorem dX1_moveTo_17 : decode cX1_moveTo 17 = .ok (.putfield 37, 3) := by decide +kernel
theorem dX1_moveTo_20 : decode cX1_moveTo 20 = .ok (.return_, 1) := by decide +kernel
theorem dX1_is_0 : decode cX1_is 0 = .ok (.iload_n 1, 1) := by decide +kernel
theorem dX1_is_1 : decode cX1_is 1 = .ok (.ifCond .eq 51, 3) := by decide +kernel
theorem dX1_is_4 : decode cX1_is 4 = .ok (.iload_n 1, 1) := by decide +kernel
theorem dX1_is_5 : decode cX1_is 5 = .ok (.aload_n 0, 1) := by decide +kernel
theorem dX1_is_6 : decode cX1_is 6 = .ok (.getfield 9, 3) := by decide +kernel
theorem dX1_is_9 : decode cX1_is 9 = .ok (.if_icmp .eq 43, 3) := by decide +kernel
theorem dX1_is_12 : decode cX1_is 12 = .ok (.iload_n 1, 1) := by decide +kernel
theorem dX1_is_13 : decode cX1_is 13 = .ok (.iconst 1, 1) := by decide +kernel
theorem dX1_is_14 : decode cX1_is 14 = .ok (.if_icmp .ne 11, 3) := by decide +kernel
theorem dX1_is_17 : decode cX1_is 17 = .ok (.aload_n 0, 1) := by decide +kernel
theorem dX1_is_18 : decode cX1_is 18 = .ok (.getfield 9, 3) := by decide +kernel
theorem dX1_is_21 : decode cX1_is 21 = .ok (.iconst 3, 1) := by decide +kernel
theorem dX1_is_22 : decode cX1_is 22 = .ok (.if_icmp .eq 30, 3) := by decide +kernel
theorem dX1_is_25 : decode cX1_is 25 = .ok (.iload_n 1, 1) := by decide +kernel
theorem dX1_is_26 : decode cX1_is 26 = .ok (.iconst 2, 1) := by decide +kernel
theorem dX1_is_27 : decode cX1_is 27 = .ok (.if_icmp .ne 11, 3) := by decide +kernel
theorem dX1_is_30 : decode cX1_is 30 = .ok (.aload_n 0, 1) := by decide +kernel
theorem dX1_is_31 : decode cX1_is 31 = .ok (.getfield 9, 3) := by decide +kernel
theorem dX1_is_34 : decode cX1_is 34 = .ok (.iconst 4, 1) := by decide +kernel
theorem dX1_is_35 : decode cX1_is 35 = .ok (.if_icmp .eq 17, 3) := by decide +kernel
theorem dX1_is_38 : decode cX1_is 38 = .ok (.iload_n 1, 1) := by decide +kernel
theorem dX1_is_39 : decode cX1_is 39 = .ok (.iconst 5, 1) := by decide +kernel
theorem dX1_is_40 : decode cX1_is 40 = .ok (.if_icmp .ne 16, 3) := by decide +kernel
theorem dX1_is_43 : decode cX1_is 43 = .ok (.aload_n 0, 1) := by decide +kernel
theorem dX1_is_44 : decode cX1_is 44 = .ok (.getfield 9, 3) := by decide +kernel
theorem dX1_is_47 : decode cX1_is 47 = .ok (.bipush 6, 2) := by decide +kernel
theorem dX1_is_49 : decode cX1_is 49 = .ok (.if_icmp .ne 7, 3) := by decide +kernel
theorem dX1_is_52 : decode cX1_is 52 = .ok (.iconst 1, 1) := by decide +kernel
theorem dX1_is_53 : decode cX1_is 53 = .ok (.goto 4, 3) := by decide +kernel
theorem dX1_is_56 : decode cX1_is 56 = .ok (.iconst 0, 1) := by decide +kernel
theorem dX1_is_57 : decode cX1_is 57 = .ok (.ireturn, 1) := by decide +kernel
theorem dX1_thickness_0 : decode cX1_thickness 0 = .ok (.aload_n 0, 1) := by decide +kernel
theorem dX1_thickness_1 : decode cX1_thickness 1 = .ok (.getfield 9, 3) := by decide +kernel
theorem dX1_thickness_4 : decode cX1_thickness 4 = .ok (.tableswitch 75 1 6 #[40, 75, 47, 75, 56, 56], 40) := by decide +kernel
theorem dX1_thickness_44 : decode cX1_thickness 44 = .ok (.iconst 2, 1) := by decide +kernel
theorem dX1_thickness_45 : decode cX1_thickness 45 = .ok (.aload_n 0, 1) := by decide +kernel
theorem dX1_thickness_46 : decode cX1_thickness 46 = .ok (.getfield 15, 3) := by decide +kernel
theorem dX1_thickness_49 : decode cX1_thickness 49 = .ok (.imul, 1) := by decide +kernel
theorem dX1_thickness_50 : decode cX1_thickness 50 = .ok (.ireturn, 1) := by decide +kernel
theorem dX1_thickness_51 : decode cX1_thickness 51 = .ok (.iconst 2, 1) := by decide +kernel
theorem dX1_thickness_52 : decode cX1_thickness 52 = .ok (.aload_n 0, 1) := by decide +kernel
theorem dX1_thickness_53 : decode cX1_thickness 53 = .ok (.getfield 15, 3) := by decide +kernel
theorem dX1_thickness_56 : decode cX1_thickness 56 = .ok (.imul, 1) := by decide +kernel
theorem dX1_thickness_57 : decode cX1_thickness 57 = .ok (.iconst 3, 1) := by decide +kernel
theorem dX1_thickness_58 : decode cX1_thickness 58 = .ok (.iadd, 1) := by decide +kernel
theorem dX1_thickness_59 : decode cX1_thickness 59 = .ok (.ireturn, 1) := by decide +kernel
theorem dX1_thickness_60 : decode cX1_thickness 60 = .ok (.aload_n 0, 1) := by decide +kernel
theorem dX1_thickness_61 : decode cX1_thickness 61 = .ok (.getfield 15, 3) := by decide +kernel
theorem dX1_thickness_64 : decode cX1_thickness 64 = .ok (.iconst 1, 1) := by decide +kernel
theorem dX1_thickness_65 : decode cX1_thickness 65 = .ok (.if_icmp .le 12, 3) := by decide +kernel
theorem dX1_thickness_68 : decode cX1_thickness 68 = .ok (.aload_n 0, 1) := by decide +kernel
theorem dX1_thickness_69 : decode cX1_thickness 69 = .ok (.getfield 15, 3) := by decide +kernel
theorem dX1_thickness_72 : decode cX1_thickness 72 = .ok (.iconst 2, 1) := by decide +kernel
theorem dX1_thickness_73 : decode cX1_thickness 73 = .ok (.idiv, 1) := by decide +kernel
theorem dX1_thickness_74 : decode cX1_thickness 74 = .ok (.goto 4, 3) := by decide +kernel
theorem dX1_thickness_77 : decode cX1_thickness 77 = .ok (.iconst 1, 1) := by decide +kernel
theorem dX1_thickness_78 : decode cX1_thickness 78 = .ok (.ireturn, 1) := by decide +kernel
theorem dX1_thickness_79 : decode cX1_thickness 79 = .ok (.aload_n 0, 1) := by decide +kernel
theorem dX1_thickness_80 : decode cX1_thickness 80 = .ok (.getfield 15, 3) := by decide +kernel
theorem dX1_thickness_83 : decode cX1_thickness 83 = .ok (.ireturn, 1) := by decide +kernel
theorem dX1_pace_0 : decode cX1_pace 0 = .ok (.aload_n 0, 1) := by decide +kernel
theorem dX1_pace_1 : decode cX1_pace 1 = .ok (.getfield 9, 3) := by decide +kernel
theorem dX1_pace_4 : decode cX1_pace 4 = .ok (.tableswitch 40 2 6 #[36, 40, 36, 40, 38], 36) := by decide +kernel
theorem dX1_pace_40 : decode cX1_pace 40 = .ok (.iconst 2, 1) := by decide +kernel
theorem dX1_pace_41 : decode cX1_pace 41 = .ok (.ireturn, 1) := by decide +kernel
theorem dX1_pace_42 : decode cX1_pace 42 = .ok (.iconst 0, 1) := by decide +kernel
theorem dX1_pace_43 : decode cX1_pace 43 = .ok (.ireturn, 1) := by decide +kernel
theorem dX1_pace_44 : decode cX1_pace 44 = .ok (.iconst 1, 1) := by decide +kernel
theorem dX1_pace_45 : decode cX1_pace 45 = .ok (.ireturn, 1) := by decide +kernel
theorem dX1_wear_0 : decode cX1_wear 0 = .ok (.iconst 2, 1) := by decide +kernel
theorem dX1_wear_1 : decode cX1_wear 1 = .ok (.aload_n 0, 1) := by decide +kernel
theorem dX1_wear_2 : decode cX1_wear 2 = .ok (.invokevirtual 40, 3) := by decide +kernel
theorem dX1_wear_5 : decode cX1_wear 5 = .ok (.imul, 1) := by decide +kernel
theorem dX1_wear_6 : decode cX1_wear 6 = .ok (.iload_n 1, 1) := by decide +kernel
theorem dX1_wear_7 : decode cX1_wear 7 = .ok (.if_icmp .lt 7, 3) := by decide +kernel
theorem dX1_wear_10 : decode cX1_wear 10 = .ok (.iconst 1, 1) := by decide +kernel
theorem dX1_wear_11 : decode cX1_wear 11 = .ok (.goto 4, 3) := by decide +kernel
theorem dX1_wear_14 : decode cX1_wear 14 = .ok (.iconst 0, 1) := by decide +kernel
theorem dX1_wear_15 : decode cX1_wear 15 = .ok (.istore_n 2, 1) := by decide +kernel
theorem dX1_wear_16 : decode cX1_wear 16 = .ok (.aload_n 0, 1) := by decide +kernel
theorem dX1_wear_17 : decode cX1_wear 17 = .ok (.getfield 9, 3) := by decide +kernel
theorem dX1_wear_20 : decode cX1_wear 20 = .ok (.tableswitch 42 1 4 #[32, 34, 32, 38], 32) := by decide +kernel
theorem dX1_wear_52 : decode cX1_wear 52 = .ok (.iconst 0, 1) := by decide +kernel
theorem dX1_wear_53 : decode cX1_wear 53 = .ok (.ireturn, 1) := by decide +kernel
theorem dX1_wear_54 : decode cX1_wear 54 = .ok (.iload_n 2, 1) := by decide +kernel
theorem dX1_wear_55 : decode cX1_wear 55 = .ok (.iconst 1, 1) := by decide +kernel
theorem dX1_wear_56 : decode cX1_wear 56 = .ok (.iadd, 1) := by decide +kernel
theorem dX1_wear_57 : decode cX1_wear 57 = .ok (.ireturn, 1) := by decide +kernel
theorem dX1_wear_58 : decode cX1_wear 58 = .ok (.iload_n 2, 1) := by decide +kernel
theorem dX1_wear_59 : decode cX1_wear 59 = .ok (.iconst 2, 1) := by decide +kernel
theorem dX1_wear_60 : decode cX1_wear 60 = .ok (.iadd, 1) := by decide +kernel
theorem dX1_wear_61 : decode cX1_wear 61 = .ok (.ireturn, 1) := by decide +kernel
theorem dX1_wear_62 : decode cX1_wear 62 = .ok (.iload_n 2, 1) := by decide +kernel
theorem dX1_wear_63 : decode cX1_wear 63 = .ok (.ireturn, 1) := by decide +kernel
theorem dX1_told_0 : decode cX1_told 0 = .ok (.iload_n 1, 1) := by decide +kernel
theorem dX1_told_1 : decode cX1_told 1 = .ok (.tableswitch 105 0 9 #[55, 60, 65, 70, 75, 80, 85, 90, 95, 100], 55) := by decide +kernel
theorem dX1_told_56 : decode cX1_told 56 = .ok (.aload_n 0, 1) := by decide +kernel
theorem dX1_told_57 : decode cX1_told 57 = .ok (.getfield 9, 3) := by decide +kernel
theorem dX1_told_60 : decode cX1_told 60 = .ok (.ireturn, 1) := by decide +kernel
theorem dX1_told_61 : decode cX1_told 61 = .ok (.aload_n 0, 1) := by decide +kernel
theorem dX1_told_62 : decode cX1_told 62 = .ok (.getfield 15, 3) := by decide +kernel
theorem dX1_told_65 : decode cX1_told 65 = .ok (.ireturn, 1) := by decide +kernel
theorem dX1_told_66 : decode cX1_told 66 = .ok (.aload_n 0, 1) := by decide +kernel
theorem dX1_told_67 : decode cX1_told 67 = .ok (.getfield 18, 3) := by decide +kernel
theorem dX1_told_70 : decode cX1_told 70 = .ok (.ireturn, 1) := by decide +kernel
theorem dX1_told_71 : decode cX1_told 71 = .ok (.aload_n 0, 1) := by decide +kernel
theorem dX1_told_72 : decode cX1_told 72 = .ok (.getfield 21, 3) := by decide +kernel
theorem dX1_told_75 : decode cX1_told 75 = .ok (.ireturn, 1) := by decide +kernel
theorem dX1_told_76 : decode cX1_told 76 = .ok (.aload_n 0, 1) := by decide +kernel
theorem dX1_told_77 : decode cX1_told 77 = .ok (.getfield 28, 3) := by decide +kernel
theorem dX1_told_80 : decode cX1_told 80 = .ok (.ireturn, 1) := by decide +kernel
theorem dX1_told_81 : decode cX1_told 81 = .ok (.aload_n 0, 1) := by decide +kernel
theorem dX1_told_82 : decode cX1_told 82 = .ok (.getfield 31, 3) := by decide +kernel
theorem dX1_told_85 : decode cX1_told 85 = .ok (.ireturn, 1) := by decide +kernel
theorem dX1_told_86 : decode cX1_told 86 = .ok (.aload_n 0, 1) := by decide +kernel
theorem dX1_told_87 : decode cX1_told 87 = .ok (.getfield 34, 3) := by decide +kernel
theorem dX1_told_90 : decode cX1_told 90 = .ok (.ireturn, 1) := by decide +kernel
theorem dX1_told_91 : decode cX1_told 91 = .ok (.aload_n 0, 1) := by decide +kernel
theorem dX1_told_92 : decode cX1_told 92 = .ok (.getfield 37, 3) := by decide +kernel
theorem dX1_told_95 : decode cX1_told 95 = .ok (.ireturn, 1) := by decide +kernel
theorem dX1_told_96 : decode cX1_told 96 = .ok (.aload_n 0, 1) := by decide +kernel
theorem dX1_told_97 : decode cX1_told 97 = .ok (.invokevirtual 40, 3) := by decide +kernel
theorem dX1_told_100 : decode cX1_told 100 = .ok (.ireturn, 1) := by decide +kernel
theorem dX1_told_101 : decode cX1_told 101 = .ok (.aload_n 0, 1) := by decide +kernel
theorem dX1_told_102 : decode cX1_told 102 = .ok (.invokevirtual 44, 3) := by decide +kernel
theorem dX1_told_105 : decode cX1_told 105 = .ok (.ireturn, 1) := by decide +kernel
theorem dX1_told_106 : decode cX1_told 106 = .ok (.aload_n 0, 1) := by decide +kernel
theorem dX1_told_107 : decode cX1_told 107 = .ok (.iload_n 2, 1) := by decide +kernel
theorem dX1_told_108 : decode cX1_told 108 = .ok (.invokevirtual 47, 3) := by decide +kernel
theorem dX1_told_111 : decode cX1_told 111 = .ok (.ireturn, 1) := by decide +kernel
theorem dX1_set_0 : decode cX1_set 0 = .ok (.iload_n 1, 1) := by decide +kernel
theorem dX1_set_1 : decode cX1_set 1 = .ok (.tableswitch 91 0 6 #[43, 51, 59, 67, 91, 75, 83], 43) := by decide +kernel
theorem dX1_set_44 : decode cX1_set 44 = .ok (.aload_n 0, 1) := by decide +kernel
theorem dX1_set_45 : decode cX1_set 45 = .ok (.iload_n 2, 1) := by decide +kernel
theorem dX1_set_46 : decode cX1_set 46 = .ok (.putfield 9, 3) := by decide +kernel
theorem dX1_set_49 : decode cX1_set 49 = .ok (.goto 43, 3) := by decide +kernel
theorem dX1_set_52 : decode cX1_set 52 = .ok (.aload_n 0, 1) := by decide +kernel
theorem dX1_set_53 : decode cX1_set 53 = .ok (.iload_n 2, 1) := by decide +kernel
theorem dX1_set_54 : decode cX1_set 54 = .ok (.putfield 15, 3) := by decide +kernel
theorem dX1_set_57 : decode cX1_set 57 = .ok (.goto 35, 3) := by decide +kernel
theorem dX1_set_60 : decode cX1_set 60 = .ok (.aload_n 0, 1) := by decide +kernel
theorem dX1_set_61 : decode cX1_set 61 = .ok (.iload_n 2, 1) := by decide +kernel
theorem dX1_set_62 : decode cX1_set 62 = .ok (.putfield 18, 3) := by decide +kernel
theorem dX1_set_65 : decode cX1_set 65 = .ok (.goto 27, 3) := by decide +kernel
theorem dX1_set_68 : decode cX1_set 68 = .ok (.aload_n 0, 1) := by decide +kernel
theorem dX1_set_69 : decode cX1_set 69 = .ok (.iload_n 2, 1) := by decide +kernel
theorem dX1_set_70 : decode cX1_set 70 = .ok (.putfield 21, 3) := by decide +kernel
theorem dX1_set_73 : decode cX1_set 73 = .ok (.goto 19, 3) := by decide +kernel
theorem dX1_set_76 : decode cX1_set 76 = .ok (.aload_n 0, 1) := by decide +kernel
theorem dX1_set_77 : decode cX1_set 77 = .ok (.iload_n 2, 1) := by decide +kernel
theorem dX1_set_78 : decode cX1_set 78 = .ok (.putfield 31, 3) := by decide +kernel
theorem dX1_set_81 : decode cX1_set 81 = .ok (.goto 11, 3) := by decide +kernel
theorem dX1_set_84 : decode cX1_set 84 = .ok (.aload_n 0, 1) := by decide +kernel
theorem dX1_set_85 : decode cX1_set 85 = .ok (.iload_n 2, 1) := by decide +kernel
theorem dX1_set_86 : decode cX1_set 86 = .ok (.putfield 34, 3) := by decide +kernel
theorem dX1_set_89 : decode cX1_set 89 = .ok (.goto 3, 3) := by decide +kernel
theorem dX1_set_92 : decode cX1_set 92 = .ok (.return_, 1) := by decide +kernel
theorem dX2_init_0 : decode cX2_init 0 = .ok (.aload_n 0, 1) := by decide +kernel
theorem dX2_init_1 : decode cX2_init 1 = .ok (.invokespecial 3, 3) := by decide +kernel
theorem dX2_init_4 : decode cX2_init 4 = .ok (.aload_n 0, 1) := by decide +kernel
theorem dX2_init_5 : decode cX2_init 5 = .ok (.iconst 0, 1) := by decide +kernel
theorem dX2_init_6 : decode cX2_init 6 = .ok (.putfield 9, 3) := by decide +kernel
theorem dX2_init_9 : decode cX2_init 9 = .ok (.aload_n 0, 1) := by decide +kernel
theorem dX2_init_10 : decode cX2_init 10 = .ok (.iconst 0, 1) := by decide +kernel
theorem dX2_init_11 : decode cX2_init 11 = .ok (.putfield 15, 3) := by decide +kernel
theorem dX2_init_14 : decode cX2_init 14 = .ok (.aload_n 0, 1) := by decide +kernel
theorem dX2_init_15 : decode cX2_init 15 = .ok (.bipush 40, 2) := by decide +kernel
theorem dX2_init_17 : decode cX2_init 17 = .ok (.newarray .int, 2) := by decide +kernel
theorem dX2_init_19 : decode cX2_init 19 = .ok (.putfield 18, 3) := by decide +kernel
theorem dX2_init_22 : decode cX2_init 22 = .ok (.return_, 1) := by decide +kernel
theorem dX2_renew_0 : decode cX2_renew 0 = .ok (.aload_n 0, 1) := by decide +kernel
theorem dX2_renew_1 : decode cX2_renew 1 = .ok (.iload_n 1, 1) := by decide +kernel
theorem dX2_renew_2 : decode cX2_renew 2 = .ok (.putfield 9, 3) := by decide +kernel
theorem dX2_renew_5 : decode cX2_renew 5 = .ok (.aload_n 0, 1) := by decide +kernel
theorem dX2_renew_6 : decode cX2_renew 6 = .ok (.iload_n 1, 1) := by decide +kernel
theorem dX2_renew_7 : decode cX2_renew 7 = .ok (.ifCond .ne 7, 3) := by decide +kernel
theorem dX2_renew_10 : decode cX2_renew 10 = .ok (.iconst 0, 1) := by decide +kernel
theorem dX2_renew_11 : decode cX2_renew 11 = .ok (.goto 4, 3) := by decide +kernel
theorem dX2_renew_14 : decode cX2_renew 14 = .ok (.iload_n 2, 1) := by decide +kernel
theorem dX2_renew_15 : decode cX2_renew 15 = .ok (.putfield 15, 3) := by decide +kernel
theorem dX2_renew_18 : decode cX2_renew 18 = .ok (.iconst 0, 1) := by decide +kernel
theorem dX2_renew_19 : decode cX2_renew 19 = .ok (.istore_n 3, 1) := by decide +kernel
theorem dX2_renew_20 : decode cX2_renew 20 = .ok (.iload_n 3, 1) := by decide +kernel
theorem dX2_renew_21 : decode cX2_renew 21 = .ok (.bipush 40, 2) := by decide +kernel
theorem dX2_renew_23 : decode cX2_renew 23 = .ok (.if_icmp .ge 16, 3) := by decide +kernel
theorem dX2_renew_26 : decode cX2_renew 26 = .ok (.aload_n 0, 1) := by decide +kernel
theorem dX2_renew_27 : decode cX2_renew 27 = .ok (.getfield 18, 3) := by decide +kernel
theorem dX2_renew_30 : decode cX2_renew 30 = .ok (.iload_n 3, 1) := by decide +kernel
theorem dX2_renew_31 : decode cX2_renew 31 = .ok (.iconst 0, 1) := by decide +kernel
theorem dX2_renew_32 : decode cX2_renew 32 = .ok (.iastore, 1) := by decide +kernel
theorem dX2_renew_33 : decode cX2_renew 33 = .ok (.iinc 3 1, 3) := by decide +kernel
theorem dX2_renew_36 : decode cX2_renew 36 = .ok (.goto (-16), 3) := by decide +kernel
theorem dX2_renew_39 : decode cX2_renew 39 = .ok (.return_, 1) := by decide +kernel
theorem dX2_isMissing_0 : decode cX2_isMissing 0 = .ok (.aload_n 0, 1) := by decide +kernel
theorem dX2_isMissing_1 : decode cX2_isMissing 1 = .ok (.getfield 9, 3) := by decide +kernel
theorem dX2_isMissing_4 : decode cX2_isMissing 4 = .ok (.ifCond .ne 7, 3) := by decide +kernel
theorem dX2_isMissing_7 : decode cX2_isMissing 7 = .ok (.iconst 1, 1) := by decide +kernel
theorem dX2_isMissing_8 : decode cX2_isMissing 8 = .ok (.goto 4, 3) := by decide +kernel
theorem dX2_isMissing_11 : decode cX2_isMissing 11 = .ok (.iconst 0, 1) := by decide +kernel
theorem dX2_isMissing_12 : decode cX2_isMissing 12 = .ok (.ireturn, 1) := by decide +kernel
theorem dX2_hasRange_0 : decode cX2_hasRange 0 = .ok (.iload_n 1, 1) := by decide +kernel
theorem dX2_hasRange_1 : decode cX2_hasRange 1 = .ok (.ifCond .lt 21, 3) := by decide +kernel
theorem dX2_hasRange_4 : decode cX2_hasRange 4 = .ok (.iload_n 2, 1) := by decide +kernel
theorem dX2_hasRange_5 : decode cX2_hasRange 5 = .ok (.ifCond .lt 17, 3) := by decide +kernel
theorem dX2_hasRange_8 : decode cX2_hasRange 8 = .ok (.iload_n 2, 1) := by decide +kernel
theorem dX2_hasRange_9 : decode cX2_hasRange 9 = .ok (.aload_n 0, 1) := by decide +kernel
theorem dX2_hasRange_10 : decode cX2_hasRange 10 = .ok (.getfield 15, 3) := by decide +kernel
theorem dX2_hasRange_13 : decode cX2_hasRange 13 = .ok (.iload_n 1, 1) := by decide +kernel
theorem dX2_hasRange_14 : decode cX2_hasRange 14 = .ok (.isub, 1) := by decide +kernel
theorem dX2_hasRange_15 : decode cX2_hasRange 15 = .ok (.if_icmp .gt 7, 3) := by decide +kernel
theorem dX2_hasRange_18 : decode cX2_hasRange 18 = .ok (.iconst 1, 1) := by decide +kernel
theorem dX2_hasRange_19 : decode cX2_hasRange 19 = .ok (.goto 4, 3) := by decide +kernel
theorem dX2_hasRange_22 : decode cX2_hasRange 22 = .ok (.iconst 0, 1) := by decide +kernel
theorem dX2_hasRange_23 : decode cX2_hasRange 23 = .ok (.ireturn, 1) := by decide +kernel
theorem dX2_set_0 : decode cX2_set 0 = .ok (.aload_n 0, 1) := by decide +kernel
theorem dX2_set_1 : decode cX2_set 1 = .ok (.getfield 9, 3) := by decide +kernel
theorem dX2_set_4 : decode cX2_set 4 = .ok (.bipush 8, 2) := by decide +kernel
theorem dX2_set_6 : decode cX2_set 6 = .ok (.if_icmp .ne 14, 3) := by decide +kernel
theorem dX2_set_9 : decode cX2_set 9 = .ok (.aload_n 0, 1) := by decide +kernel
theorem dX2_set_10 : decode cX2_set 10 = .ok (.getfield 18, 3) := by decide +kernel
theorem dX2_set_13 : decode cX2_set 13 = .ok (.iload_n 1, 1) := by decide +kernel
theorem dX2_set_14 : decode cX2_set 14 = .ok (.iload_n 2, 1) := by decide +kernel
theorem dX2_set_15 : decode cX2_set 15 = .ok (.i2b, 1) := by decide +kernel
theorem dX2_set_16 : decode cX2_set 16 = .ok (.iastore, 1) := by decide +kernel
theorem dX2_set_17 : decode cX2_set 17 = .ok (.goto 30, 3) := by decide +kernel
theorem dX2_set_20 : decode cX2_set 20 = .ok (.aload_n 0, 1) := by decide +kernel
theorem dX2_set_21 : decode cX2_set 21 = .ok (.getfield 9, 3) := by decide +kernel
theorem dX2_set_24 : decode cX2_set 24 = .ok (.bipush 16, 2) := by decide +kernel
theorem dX2_set_26 : decode cX2_set 26 = .ok (.if_icmp .ne 14, 3) := by decide +kernel
theorem dX2_set_29 : decode cX2_set 29 = .ok (.aload_n 0, 1) := by decide +kernel
theorem dX2_set_30 : decode cX2_set 30 = .ok (.getfield 18, 3) := by decide +kernel
theorem dX2_set_33 : decode cX2_set 33 = .ok (.iload_n 1, 1) := by decide +kernel
theorem dX2_set_34 : decode cX2_set 34 = .ok (.iload_n 2, 1) := by decide +kernel
theorem dX2_set_35 : decode cX2_set 35 = .ok (.i2s, 1) := by decide +kernel
theorem dX2_set_36 : decode cX2_set 36 = .ok (.iastore, 1) := by decide +kernel
theorem dX2_set_37 : decode cX2_set 37 = .ok (.goto 10, 3) := by decide +kernel
theorem dX2_set_40 : decode cX2_set 40 = .ok (.aload_n 0, 1) := by decide +kernel
theorem dX2_set_41 : decode cX2_set 41 = .ok (.getfield 18, 3) := by decide +kernel
theorem dX2_set_44 : decode cX2_set 44 = .ok (.iload_n 1, 1) := by decide +kernel
theorem dX2_set_45 : decode cX2_set 45 = .ok (.iload_n 2, 1) := by decide +kernel
theorem dX2_set_46 : decode cX2_set 46 = .ok (.iastore, 1) := by decide +kernel
theorem dX2_set_47 : decode cX2_set 47 = .ok (.return_, 1) := by decide +kernel
theorem dX3_init_0 : decode cX3_init 0 = .ok (.aload_n 0, 1) := by decide +kernel
theorem dX3_init_1 : decode cX3_init 1 = .ok (.invokespecial 3, 3) := by decide +kernel
theorem dX3_init_4 : decode cX3_init 4 = .ok (.aload_n 0, 1) := by decide +kernel
theorem dX3_init_5 : decode cX3_init 5 = .ok (.bipush 120, 2) := by decide +kernel
theorem dX3_init_7 : decode cX3_init 7 = .ok (.newarray .int, 2) := by decide +kernel
theorem dX3_init_9 : decode cX3_init 9 = .ok (.putfield 9, 3) := by decide +kernel
theorem dX3_init_12 : decode cX3_init 12 = .ok (.aload_n 0, 1) := by decide +kernel
theorem dX3_init_13 : decode cX3_init 13 = .ok (.iconst 0, 1) := by decide +kernel
theorem dX3_init_14 : decode cX3_init 14 = .ok (.putfield 15, 3) := by decide +kernel
theorem dX3_init_17 : decode cX3_init 17 = .ok (.aload_n 0, 1) := by decide +kernel
theorem dX3_init_18 : decode cX3_init 18 = .ok (.iconst 0, 1) := by decide +kernel
theorem dX3_init_19 : decode cX3_init 19 = .ok (.putfield 19, 3) := by decide +kernel
theorem dX3_init_22 : decode cX3_init 22 = .ok (.aload_n 0, 1) := by decide +kernel
theorem dX3_init_23 : decode cX3_init 23 = .ok (.iconst 0, 1) := by decide +kernel
theorem dX3_init_24 : decode cX3_init 24 = .ok (.putfield 22, 3) := by decide +kernel
theorem dX3_init_27 : decode cX3_init 27 = .ok (.aload_n 0, 1) := by decide +kernel
theorem dX3_init_28 : decode cX3_init 28 = .ok (.iconst 0, 1) := by decide +kernel
theorem dX3_init_29 : decode cX3_init 29 = .ok (.putfield 25, 3) := by decide +kernel
theorem dX3_init_32 : decode cX3_init 32 = .ok (.aload_n 0, 1) := by decide +kernel
theorem dX3_init_33 : decode cX3_init 33 = .ok (.iconst 0, 1) := by decide +kernel
theorem dX3_init_34 : decode cX3_init 34 = .ok (.putfield 28, 3) := by decide +kernel
theorem dX3_init_37 : decode cX3_init 37 = .ok (.return_, 1) := by decide +kernel
theorem dX3_add_0 : decode cX3_add 0 = .ok (.aload_n 0, 1) := by decide +kernel
theorem dX3_add_1 : decode cX3_add 1 = .ok (.getfield 9, 3) := by decide +kernel
theorem dX3_add_4 : decode cX3_add 4 = .ok (.aload_n 0, 1) := by decide +kernel
theorem dX3_add_5 : decode cX3_add 5 = .ok (.getfield 15, 3) := by decide +kernel
theorem dX3_add_8 : decode cX3_add 8 = .ok (.iload_n 1, 1) := by decide +kernel
theorem dX3_add_9 : decode cX3_add 9 = .ok (.iastore, 1) := by decide +kernel
theorem dX3_add_10 : decode cX3_add 10 = .ok (.aload_n 0, 1) := by decide +kernel
theorem dX3_add_11 : decode cX3_add 11 = .ok (.dup, 1) := by decide +kernel
theorem dX3_add_12 : decode cX3_add 12 = .ok (.getfield 15, 3) := by decide +kernel
theorem dX3_add_15 : decode cX3_add 15 = .ok (.iconst 1, 1) := by decide +kernel
theorem dX3_add_16 : decode cX3_add 16 = .ok (.iadd, 1) := by decide +kernel
theorem dX3_add_17 : decode cX3_add 17 = .ok (.putfield 15, 3) := by decide +kernel
theorem dX3_add_20 : decode cX3_add 20 = .ok (.return_, 1) := by decide +kernel
theorem dX3_readInto_0 : decode cX3_readInto 0 = .ok (.aload_n 0, 1) := by decide +kernel
theorem dX3_readInto_1 : decode cX3_readInto 1 = .ok (.iconst 0, 1) := by decide +kernel
theorem dX3_readInto_2 : decode cX3_readInto 2 = .ok (.putfield 22, 3) := by decide +kernel
theorem dX3_readInto_5 : decode cX3_readInto 5 = .ok (.aload_n 0, 1) := by decide +kernel
theorem dX3_readInto_6 : decode cX3_readInto 6 = .ok (.invokevirtual 31, 3) := by decide +kernel
theorem dX3_readInto_9 : decode cX3_readInto 9 = .ok (.iconst 1, 1) := by decide +kernel
theorem dX3_readInto_10 : decode cX3_readInto 10 = .ok (.istore_n 2, 1) := by decide +kernel
theorem dX3_readInto_11 : decode cX3_readInto 11 = .ok (.iload_n 2, 1) := by decide +kernel
theorem dX3_readInto_12 : decode cX3_readInto 12 = .ok (.bipush 120, 2) := by decide +kernel
theorem dX3_readInto_14 : decode cX3_readInto 14 = .ok (.if_icmp .gt 88, 3) := by decide +kernel
theorem dX3_readInto_17 : decode cX3_readInto 17 = .ok (.aload_n 0, 1) := by decide +kernel
theorem dX3_readInto_18 : decode cX3_readInto 18 = .ok (.ldc 34, 2) := by decide +kernel
theorem dX3_readInto_20 : decode cX3_readInto 20 = .ok (.invokevirtual 36, 3) := by decide +kernel
theorem dX3_readInto_23 : decode cX3_readInto 23 = .ok (.ifCond .eq 11, 3) := by decide +kernel
theorem dX3_readInto_26 : decode cX3_readInto 26 = .ok (.aload_n 0, 1) := by decide +kernel
theorem dX3_readInto_27 : decode cX3_readInto 27 = .ok (.aload_n 1, 1) := by decide +kernel
theorem dX3_readInto_28 : decode cX3_readInto 28 = .ok (.invokevirtual 40, 3) := by decide +kernel
theorem dX3_readInto_31 : decode cX3_readInto 31 = .ok (.goto 25, 3) := by decide +kernel
theorem dX3_readInto_34 : decode cX3_readInto 34 = .ok (.aload_n 0, 1) := by decide +kernel
theorem dX3_readInto_35 : decode cX3_readInto 35 = .ok (.ldc 44, 2) := by decide +kernel
theorem dX3_readInto_37 : decode cX3_readInto 37 = .ok (.invokevirtual 36, 3) := by decide +kernel
theorem dX3_readInto_40 : decode cX3_readInto 40 = .ok (.ifCond .eq 11, 3) := by decide +kernel
theorem dX3_readInto_43 : decode cX3_readInto 43 = .ok (.aload_n 0, 1) := by decide +kernel
theorem dX3_readInto_44 : decode cX3_readInto 44 = .ok (.aload_n 1, 1) := by decide +kernel
theorem dX3_readInto_45 : decode cX3_readInto 45 = .ok (.invokevirtual 46, 3) := by decide +kernel
theorem dX3_readInto_48 : decode cX3_readInto 48 = .ok (.goto 8, 3) := by decide +kernel
theorem dX3_readInto_51 : decode cX3_readInto 51 = .ok (.aload_n 0, 1) := by decide +kernel
theorem dX3_readInto_52 : decode cX3_readInto 52 = .ok (.aload_n 1, 1) := by decide +kernel
theorem dX3_readInto_53 : decode cX3_readInto 53 = .ok (.invokevirtual 49, 3) := by decide +kernel
theorem dX3_readInto_56 : decode cX3_readInto 56 = .ok (.istore_n 3, 1) := by decide +kernel
theorem dX3_readInto_57 : decode cX3_readInto 57 = .ok (.iload_n 3, 1) := by decide +kernel
theorem dX3_readInto_58 : decode cX3_readInto 58 = .ok (.ifCond .ne 10, 3) := by decide +kernel
theorem dX3_readInto_61 : decode cX3_readInto 61 = .ok (.iconst (-1), 1) := by decide +kernel
theorem dX3_readInto_62 : decode cX3_readInto 62 = .ok (.aload_n 0, 1) := by decide +kernel
theorem dX3_readInto_63 : decode cX3_readInto 63 = .ok (.getfield 19, 3) := by decide +kernel
theorem dX3_readInto_66 : decode cX3_readInto 66 = .ok (.isub, 1) := by decide +kernel
theorem dX3_readInto_67 : decode cX3_readInto 67 = .ok (.ireturn, 1) := by decide +kernel
theorem dX3_readInto_68 : decode cX3_readInto 68 = .ok (.aload_n 0, 1) := by decide +kernel
theorem dX3_readInto_69 : decode cX3_readInto 69 = .ok (.getfield 25, 3) := by decide +kernel
theorem dX3_readInto_72 : decode cX3_readInto 72 = .ok (.ifCond .ne 5, 3) := by decide +kernel
theorem dX3_readInto_75 : decode cX3_readInto 75 = .ok (.iload_n 2, 1) := by decide +kernel
theorem dX3_readInto_76 : decode cX3_readInto 76 = .ok (.ireturn, 1) := by decide +kernel
theorem dX3_readInto_77 : decode cX3_readInto 77 = .ok (.aload_n 0, 1) := by decide +kernel
theorem dX3_readInto_78 : decode cX3_readInto 78 = .ok (.getfield 25, 3) := by decide +kernel
theorem dX3_readInto_81 : decode cX3_readInto 81 = .ok (.iconst 3, 1) := by decide +kernel
theorem dX3_readInto_82 : decode cX3_readInto 82 = .ok (.if_icmp .eq 10, 3) := by decide +kernel
theorem dX3_readInto_85 : decode cX3_readInto 85 = .ok (.iconst (-1), 1) := by decide +kernel
theorem dX3_readInto_86 : decode cX3_readInto 86 = .ok (.aload_n 0, 1) := by decide +kernel
theorem dX3_readInto_87 : decode cX3_readInto 87 = .ok (.getfield 19, 3) := by decide +kernel
theorem dX3_readInto_90 : decode cX3_readInto 90 = .ok (.isub, 1) := by decide +kernel
theorem dX3_readInto_91 : decode cX3_readInto 91 = .ok (.ireturn, 1) := by decide +kernel
theorem dX3_readInto_92 : decode cX3_readInto 92 = .ok (.aload_n 0, 1) := by decide +kernel
theorem dX3_readInto_93 : decode cX3_readInto 93 = .ok (.invokevirtual 31, 3) := by decide +kernel
theorem dX3_readInto_96 : decode cX3_readInto 96 = .ok (.iinc 2 1, 3) := by decide +kernel
theorem dX3_readInto_99 : decode cX3_readInto 99 = .ok (.goto (-88), 3) := by decide +kernel
theorem dX3_readInto_102 : decode cX3_readInto 102 = .ok (.iconst (-1), 1) := by decide +kernel
theorem dX3_readInto_103 : decode cX3_readInto 103 = .ok (.aload_n 0, 1) := by decide +kernel
theorem dX3_readInto_104 : decode cX3_readInto 104 = .ok (.getfield 19, 3) := by decide +kernel
theorem dX3_readInto_107 : decode cX3_readInto 107 = .ok (.isub, 1) := by decide +kernel
theorem dX3_readInto_108 : decode cX3_readInto 108 = .ok (.ireturn, 1) := by decide +kernel
theorem dX3_readsHole_0 : decode cX3_readsHole 0 = .ok (.aload_n 0, 1) := by decide +kernel
theorem dX3_readsHole_1 : decode cX3_readsHole 1 = .ok (.iconst 0, 1) := by decide +kernel
theorem dX3_readsHole_2 : decode cX3_readsHole 2 = .ok (.bipush 99, 2) := by decide +kernel
theorem dX3_readsHole_4 : decode cX3_readsHole 4 = .ok (.invokevirtual 52, 3) := by decide +kernel
theorem dX3_readsHole_7 : decode cX3_readsHole 7 = .ok (.istore_n 2, 1) := by decide +kernel
theorem dX3_readsHole_8 : decode cX3_readsHole 8 = .ok (.iload_n 2, 1) := by decide +kernel
theorem dX3_readsHole_9 : decode cX3_readsHole 9 = .ok (.iconst (-1), 1) := by decide +kernel
theorem dX3_readsHole_10 : decode cX3_readsHole 10 = .ok (.if_icmp .ne 5, 3) := by decide +kernel
theorem dX3_readsHole_13 : decode cX3_readsHole 13 = .ok (.iconst 0, 1) := by decide +kernel
theorem dX3_readsHole_14 : decode cX3_readsHole 14 = .ok (.ireturn, 1) := by decide +kernel
theorem dX3_readsHole_15 : decode cX3_readsHole 15 = .ok (.aload_n 1, 1) := by decide +kernel
theorem dX3_readsHole_16 : decode cX3_readsHole 16 = .ok (.iload_n 2, 1) := by decide +kernel
theorem dX3_readsHole_17 : decode cX3_readsHole 17 = .ok (.putfield 56, 3) := by decide +kernel
theorem dX3_readsHole_20 : decode cX3_readsHole 20 = .ok (.iconst 1, 1) := by decide +kernel
theorem dX3_readsHole_21 : decode cX3_readsHole 21 = .ok (.ireturn, 1) := by decide +kernel
theorem dX3_readsGap_0 : decode cX3_readsGap 0 = .ok (.aload_n 0, 1) := by decide +kernel
theorem dX3_readsGap_1 : decode cX3_readsGap 1 = .ok (.iconst 0, 1) := by decide +kernel
theorem dX3_readsGap_2 : decode cX3_readsGap 2 = .ok (.bipush 99, 2) := by decide +kernel
theorem dX3_readsGap_4 : decode cX3_readsGap 4 = .ok (.invokevirtual 52, 3) := by decide +kernel
theorem dX3_readsGap_7 : decode cX3_readsGap 7 = .ok (.istore_n 2, 1) := by decide +kernel
theorem dX3_readsGap_8 : decode cX3_readsGap 8 = .ok (.iload_n 2, 1) := by decide +kernel
theorem dX3_readsGap_9 : decode cX3_readsGap 9 = .ok (.iconst (-1), 1) := by decide +kernel
theorem dX3_readsGap_10 : decode cX3_readsGap 10 = .ok (.if_icmp .eq 12, 3) := by decide +kernel
theorem dX3_readsGap_13 : decode cX3_readsGap 13 = .ok (.aload_n 0, 1) := by decide +kernel
theorem dX3_readsGap_14 : decode cX3_readsGap 14 = .ok (.ldc 60, 2) := by decide +kernel
theorem dX3_readsGap_16 : decode cX3_readsGap 16 = .ok (.invokevirtual 36, 3) := by decide +kernel
theorem dX3_readsGap_19 : decode cX3_readsGap 19 = .ok (.ifCond .ne 5, 3) := by decide +kernel
theorem dX3_readsGap_22 : decode cX3_readsGap 22 = .ok (.iconst 0, 1) := by decide +kernel
theorem dX3_readsGap_23 : decode cX3_readsGap 23 = .ok (.ireturn, 1) := by decide +kernel
theorem dX3_readsGap_24 : decode cX3_readsGap 24 = .ok (.aload_n 0, 1) := by decide +kernel
theorem dX3_readsGap_25 : decode cX3_readsGap 25 = .ok (.iconst 0, 1) := by decide +kernel
theorem dX3_readsGap_26 : decode cX3_readsGap 26 = .ok (.bipush 7, 2) := by decide +kernel
theorem dX3_readsGap_28 : decode cX3_readsGap 28 = .ok (.invokevirtual 52, 3) := by decide +kernel
theorem dX3_readsGap_31 : decode cX3_readsGap 31 = .ok (.istore_n 3, 1) := by decide +kernel
theorem dX3_readsGap_32 : decode cX3_readsGap 32 = .ok (.iload_n 3, 1) := by decide +kernel
theorem dX3_readsGap_33 : decode cX3_readsGap 33 = .ok (.iconst (-1), 1) := by decide +kernel
theorem dX3_readsGap_34 : decode cX3_readsGap 34 = .ok (.if_icmp .ne 5, 3) := by decide +kernel
theorem dX3_readsGap_37 : decode cX3_readsGap 37 = .ok (.iconst 0, 1) := by decide +kernel
theorem dX3_readsGap_38 : decode cX3_readsGap 38 = .ok (.ireturn, 1) := by decide +kernel
theorem dX3_readsGap_39 : decode cX3_readsGap 39 = .ok (.aload_n 1, 1) := by decide +kernel
theorem dX3_readsGap_40 : decode cX3_readsGap 40 = .ok (.iload_n 2, 1) := by decide +kernel
theorem dX3_readsGap_41 : decode cX3_readsGap 41 = .ok (.putfield 62, 3) := by decide +kernel
theorem dX3_readsGap_44 : decode cX3_readsGap 44 = .ok (.aload_n 1, 1) := by decide +kernel
theorem dX3_readsGap_45 : decode cX3_readsGap 45 = .ok (.iload_n 3, 1) := by decide +kernel
theorem dX3_readsGap_46 : decode cX3_readsGap 46 = .ok (.putfield 64, 3) := by decide +kernel
theorem dX3_readsGap_49 : decode cX3_readsGap 49 = .ok (.iconst 1, 1) := by decide +kernel
theorem dX3_readsGap_50 : decode cX3_readsGap 50 = .ok (.ireturn, 1) := by decide +kernel
theorem dX3_readsCoin_0 : decode cX3_readsCoin 0 = .ok (.aload_n 0, 1) := by decide +kernel
theorem dX3_readsCoin_1 : decode cX3_readsCoin 1 = .ok (.invokevirtual 66, 3) := by decide +kernel
theorem dX3_readsCoin_4 : decode cX3_readsCoin 4 = .ok (.istore_n 2, 1) := by decide +kernel
theorem dX3_readsCoin_5 : decode cX3_readsCoin 5 = .ok (.iload_n 2, 1) := by decide +kernel
theorem dX3_readsCoin_6 : decode cX3_readsCoin 6 = .ok (.iconst (-1), 1) := by decide +kernel
theorem dX3_readsCoin_7 : decode cX3_readsCoin 7 = .ok (.if_icmp .eq 12, 3) := by decide +kernel
theorem dX3_readsCoin_10 : decode cX3_readsCoin 10 = .ok (.aload_n 1, 1) := by decide +kernel
theorem dX3_readsCoin_11 : decode cX3_readsCoin 11 = .ok (.getfield 70, 3) := by decide +kernel
theorem dX3_readsCoin_14 : decode cX3_readsCoin 14 = .ok (.bipush 10, 2) := by decide +kernel
theorem dX3_readsCoin_16 : decode cX3_readsCoin 16 = .ok (.if_icmp .lt 5, 3) := by decide +kernel
theorem dX3_readsCoin_19 : decode cX3_readsCoin 19 = .ok (.iconst 0, 1) := by decide +kernel
theorem dX3_readsCoin_20 : decode cX3_readsCoin 20 = .ok (.ireturn, 1) := by decide +kernel
theorem dX3_readsCoin_21 : decode cX3_readsCoin 21 = .ok (.aload_n 0, 1) := by decide +kernel
theorem dX3_readsCoin_22 : decode cX3_readsCoin 22 = .ok (.invokevirtual 31, 3) := by decide +kernel
theorem dX3_readsCoin_25 : decode cX3_readsCoin 25 = .ok (.aload_n 1, 1) := by decide +kernel
theorem dX3_readsCoin_26 : decode cX3_readsCoin 26 = .ok (.iload_n 2, 1) := by decide +kernel
theorem dX3_readsCoin_27 : decode cX3_readsCoin 27 = .ok (.invokevirtual 73, 3) := by decide +kernel
theorem dX3_readsCoin_30 : decode cX3_readsCoin 30 = .ok (.astore_n 3, 1) := by decide +kernel
theorem dX3_readsCoin_31 : decode cX3_readsCoin 31 = .ok (.aload_n 0, 1) := by decide +kernel
theorem dX3_readsCoin_32 : decode cX3_readsCoin 32 = .ok (.aload_n 3, 1) := by decide +kernel
theorem dX3_readsCoin_33 : decode cX3_readsCoin 33 = .ok (.ldc 77, 2) := by decide +kernel
theorem dX3_readsCoin_35 : decode cX3_readsCoin 35 = .ok (.iconst 1, 1) := by decide +kernel
theorem dX3_readsCoin_36 : decode cX3_readsCoin 36 = .ok (.iconst 1, 1) := by decide +kernel
theorem dX3_readsCoin_37 : decode cX3_readsCoin 37 = .ok (.bipush 40, 2) := by decide +kernel
theorem dX3_readsCoin_39 : decode cX3_readsCoin 39 = .ok (.invokevirtual 79, 3) := by decide +kernel
theorem dX3_readsCoin_42 : decode cX3_readsCoin 42 = .ok (.ifCond .eq 32, 3) := by decide +kernel
theorem dX3_readsCoin_45 : decode cX3_readsCoin 45 = .ok (.aload_n 0, 1) := by decide +kernel
theorem dX3_readsCoin_46 : decode cX3_readsCoin 46 = .ok (.aload_n 3, 1) := by decide +kernel
theorem dX3_readsCoin_47 : decode cX3_readsCoin 47 = .ok (.ldc 83, 2) := by decide +kernel
theorem dX3_readsCoin_49 : decode cX3_readsCoin 49 = .ok (.iconst 2, 1) := by decide +kernel
theorem dX3_readsCoin_50 : decode cX3_readsCoin 50 = .ok (.iconst 1, 1) := by decide +kernel
theorem dX3_readsCoin_51 : decode cX3_readsCoin 51 = .ok (.bipush 50, 2) := by decide +kernel
theorem dX3_readsCoin_53 : decode cX3_readsCoin 53 = .ok (.invokevirtual 79, 3) := by decide +kernel
theorem dX3_readsCoin_56 : decode cX3_readsCoin 56 = .ok (.ifCond .eq 18, 3) := by decide +kernel
theorem dX3_readsCoin_59 : decode cX3_readsCoin 59 = .ok (.aload_n 0, 1) := by decide +kernel
theorem dX3_readsCoin_60 : decode cX3_readsCoin 60 = .ok (.aload_n 3, 1) := by decide +kernel
theorem dX3_readsCoin_61 : decode cX3_readsCoin 61 = .ok (.ldc 85, 2) := by decide +kernel
theorem dX3_readsCoin_63 : decode cX3_readsCoin 63 = .ok (.iconst 3, 1) := by decide +kernel
theorem dX3_readsCoin_64 : decode cX3_readsCoin 64 = .ok (.iconst 0, 1) := by decide +kernel
theorem dX3_readsCoin_65 : decode cX3_readsCoin 65 = .ok (.sipush 240, 3) := by decide +kernel
theorem dX3_readsCoin_68 : decode cX3_readsCoin 68 = .ok (.invokevirtual 79, 3) := by decide +kernel
theorem dX3_readsCoin_71 : decode cX3_readsCoin 71 = .ok (.ifCond .ne 5, 3) := by decide +kernel
theorem dX3_readsCoin_74 : decode cX3_readsCoin 74 = .ok (.iconst 0, 1) := by decide +kernel
theorem dX3_readsCoin_75 : decode cX3_readsCoin 75 = .ok (.ireturn, 1) := by decide +kernel
theorem dX3_readsCoin_76 : decode cX3_readsCoin 76 = .ok (.aload_n 0, 1) := by decide +kernel
theorem dX3_readsCoin_77 : decode cX3_readsCoin 77 = .ok (.ldc 87, 2) := by decide +kernel
theorem dX3_readsCoin_79 : decode cX3_readsCoin 79 = .ok (.invokevirtual 36, 3) := by decide +kernel
theorem dX3_readsCoin_82 : decode cX3_readsCoin 82 = .ok (.ifCond .eq 8, 3) := by decide +kernel
theorem dX3_readsCoin_85 : decode cX3_readsCoin 85 = .ok (.aload_n 3, 1) := by decide +kernel
theorem dX3_readsCoin_86 : decode cX3_readsCoin 86 = .ok (.iconst 3, 1) := by decide +kernel
theorem dX3_readsCoin_87 : decode cX3_readsCoin 87 = .ok (.invokevirtual 89, 3) := by decide +kernel
theorem dX3_readsCoin_90 : decode cX3_readsCoin 90 = .ok (.iconst 1, 1) := by decide +kernel
theorem dX3_readsCoin_91 : decode cX3_readsCoin 91 = .ok (.ireturn, 1) := by decide +kernel
theorem dX3_readsPart_0 : decode cX3_readsPart 0 = .ok (.aload_n 0, 1) := by decide +kernel
theorem dX3_readsPart_1 : decode cX3_readsPart 1 = .ok (.aload_n 2, 1) := by decide +kernel
theorem dX3_readsPart_2 : decode cX3_readsPart 2 = .ok (.invokevirtual 36, 3) := by decide +kernel
theorem dX3_readsPart_5 : decode cX3_readsPart 5 = .ok (.ifCond .ne 5, 3) := by decide +kernel
theorem dX3_readsPart_8 : decode cX3_readsPart 8 = .ok (.iconst 1, 1) := by decide +kernel
theorem dX3_readsPart_9 : decode cX3_readsPart 9 = .ok (.ireturn, 1) := by decide +kernel
theorem dX3_readsPart_10 : decode cX3_readsPart 10 = .ok (.aload_n 0, 1) := by decide +kernel
theorem dX3_readsPart_11 : decode cX3_readsPart 11 = .ok (.iload 4, 2) := by decide +kernel
theorem dX3_readsPart_13 : decode cX3_readsPart 13 = .ok (.iload 5, 2) := by decide +kernel
theorem dX3_readsPart_15 : decode cX3_readsPart 15 = .ok (.invokevirtual 52, 3) := by decide +kernel
theorem dX3_readsPart_18 : decode cX3_readsPart 18 = .ok (.istore 6, 2) := by decide +kernel
theorem dX3_readsPart_20 : decode cX3_readsPart 20 = .ok (.iload 6, 2) := by decide +kernel
theorem dX3_readsPart_22 : decode cX3_readsPart 22 = .ok (.iconst (-1), 1) := by decide +kernel
theorem dX3_readsPart_23 : decode cX3_readsPart 23 = .ok (.if_icmp .ne 5, 3) := by decide +kernel
theorem dX3_readsPart_26 : decode cX3_readsPart 26 = .ok (.iconst 0, 1) := by decide +kernel
theorem dX3_readsPart_27 : decode cX3_readsPart 27 = .ok (.ireturn, 1) := by decide +kernel
theorem dX3_readsPart_28 : decode cX3_readsPart 28 = .ok (.aload_n 1, 1) := by decide +kernel
theorem dX3_readsPart_29 : decode cX3_readsPart 29 = .ok (.iload_n 3, 1) := by decide +kernel
theorem dX3_readsPart_30 : decode cX3_readsPart 30 = .ok (.iload 6, 2) := by decide +kernel
theorem dX3_readsPart_32 : decode cX3_readsPart 32 = .ok (.invokevirtual 95, 3) := by decide +kernel
theorem dX3_readsPart_35 : decode cX3_readsPart 35 = .ok (.iconst 1, 1) := by decide +kernel
theorem dX3_readsPart_36 : decode cX3_readsPart 36 = .ok (.ireturn, 1) := by decide +kernel
theorem dX3_kindTold_0 : decode cX3_kindTold 0 = .ok (.iconst 0, 1) := by decide +kernel
theorem dX3_kindTold_1 : decode cX3_kindTold 1 = .ok (.istore_n 1, 1) := by decide +kernel
theorem dX3_kindTold_2 : decode cX3_kindTold 2 = .ok (.iload_n 1, 1) := by decide +kernel
theorem dX3_kindTold_3 : decode cX3_kindTold 3 = .ok (.bipush 6, 2) := by decide +kernel
theorem dX3_kindTold_5 : decode cX3_kindTold 5 = .ok (.if_icmp .gt 22, 3) := by decide +kernel
theorem dX3_kindTold_8 : decode cX3_kindTold 8 = .ok (.aload_n 0, 1) := by decide +kernel
theorem dX3_kindTold_9 : decode cX3_kindTold 9 = .ok (.iload_n 1, 1) := by decide +kernel
theorem dX3_kindTold_10 : decode cX3_kindTold 10 = .ok (.invokestatic 99, 3) := by decide +kernel
theorem dX3_kindTold_13 : decode cX3_kindTold 13 = .ok (.invokevirtual 103, 3) := by decide +kernel
theorem dX3_kindTold_16 : decode cX3_kindTold 16 = .ok (.ifCond .eq 5, 3) := by decide +kernel
theorem dX3_kindTold_19 : decode cX3_kindTold 19 = .ok (.iload_n 1, 1) := by decide +kernel
theorem dX3_kindTold_20 : decode cX3_kindTold 20 = .ok (.ireturn, 1) := by decide +kernel
theorem dX3_kindTold_21 : decode cX3_kindTold 21 = .ok (.iinc 1 1, 3) := by decide +kernel
theorem dX3_kindTold_24 : decode cX3_kindTold 24 = .ok (.goto (-22), 3) := by decide +kernel
theorem dX3_kindTold_27 : decode cX3_kindTold 27 = .ok (.iconst (-1), 1) := by decide +kernel
theorem dX3_kindTold_28 : decode cX3_kindTold 28 = .ok (.ireturn, 1) := by decide +kernel
theorem dX3_nameOf_0 : decode cX3_nameOf 0 = .ok (.iload_n 0, 1) := by decide +kernel
theorem dX3_nameOf_1 : decode cX3_nameOf 1 = .ok (.tableswitch 57 0 5 #[39, 42, 45, 48, 51, 54], 39) := by decide +kernel
theorem dX3_nameOf_40 : decode cX3_nameOf 40 = .ok (.ldc 106, 2) := by decide +kernel
theorem dX3_nameOf_42 : decode cX3_nameOf 42 = .ok (.areturn, 1) := by decide +kernel
theorem dX3_nameOf_43 : decode cX3_nameOf 43 = .ok (.ldc 108, 2) := by decide +kernel
theorem dX3_nameOf_45 : decode cX3_nameOf 45 = .ok (.areturn, 1) := by decide +kernel
theorem dX3_nameOf_46 : decode cX3_nameOf 46 = .ok (.ldc 110, 2) := by decide +kernel
theorem dX3_nameOf_48 : decode cX3_nameOf 48 = .ok (.areturn, 1) := by decide +kernel
theorem dX3_nameOf_49 : decode cX3_nameOf 49 = .ok (.ldc 112, 2) := by decide +kernel
theorem dX3_nameOf_51 : decode cX3_nameOf 51 = .ok (.areturn, 1) := by decide +kernel
theorem dX3_nameOf_52 : decode cX3_nameOf 52 = .ok (.ldc 114, 2) := by decide +kernel
theorem dX3_nameOf_54 : decode cX3_nameOf 54 = .ok (.areturn, 1) := by decide +kernel
theorem dX3_nameOf_55 : decode cX3_nameOf 55 = .ok (.ldc 116, 2) := by decide +kernel
theorem dX3_nameOf_57 : decode cX3_nameOf 57 = .ok (.areturn, 1) := by decide +kernel
theorem dX3_nameOf_58 : decode cX3_nameOf 58 = .ok (.ldc 118, 2) := by decide +kernel
theorem dX3_nameOf_60 : decode cX3_nameOf 60 = .ok (.areturn, 1) := by decide +kernel
theorem dX3_takesWord_0 : decode cX3_takesWord 0 = .ok (.aload_n 0, 1) := by decide +kernel
theorem dX3_takesWord_1 : decode cX3_takesWord 1 = .ok (.aload_n 1, 1) := by decide +kernel
theorem dX3_takesWord_2 : decode cX3_takesWord 2 = .ok (.invokevirtual 103, 3) := by decide +kernel
theorem dX3_takesWord_5 : decode cX3_takesWord 5 = .ok (.ifCond .ne 5, 3) := by decide +kernel
theorem dX3_takesWord_8 : decode cX3_takesWord 8 = .ok (.iconst 0, 1) := by decide +kernel
theorem dX3_takesWord_9 : decode cX3_takesWord 9 = .ok (.ireturn, 1) := by decide +kernel
theorem dX3_takesWord_10 : decode cX3_takesWord 10 = .ok (.aload_n 0, 1) := by decide +kernel
theorem dX3_takesWord_11 : decode cX3_takesWord 11 = .ok (.invokevirtual 31, 3) := by decide +kernel
theorem dX3_takesWord_14 : decode cX3_takesWord 14 = .ok (.iconst 1, 1) := by decide +kernel
theorem dX3_takesWord_15 : decode cX3_takesWord 15 = .ok (.ireturn, 1) := by decide +kernel
theorem dX3_isWord_0 : decode cX3_isWord 0 = .ok (.aload_n 0, 1) := by decide +kernel
theorem dX3_isWord_1 : decode cX3_isWord 1 = .ok (.getfield 25, 3) := by decide +kernel
theorem dX3_isWord_4 : decode cX3_isWord 4 = .ok (.iconst 1, 1) := by decide +kernel
theorem dX3_isWord_5 : decode cX3_isWord 5 = .ok (.if_icmp .ne 19, 3) := by decide +kernel
theorem dX3_isWord_8 : decode cX3_isWord 8 = .ok (.aload_n 0, 1) := by decide +kernel
theorem dX3_isWord_9 : decode cX3_isWord 9 = .ok (.getfield 22, 3) := by decide +kernel
theorem dX3_isWord_12 : decode cX3_isWord 12 = .ok (.aload_n 0, 1) := by decide +kernel
theorem dX3_isWord_13 : decode cX3_isWord 13 = .ok (.getfield 19, 3) := by decide +kernel
theorem dX3_isWord_16 : decode cX3_isWord 16 = .ok (.isub, 1) := by decide +kernel
theorem dX3_isWord_17 : decode cX3_isWord 17 = .ok (.aload_n 1, 1) := by decide +kernel
theorem dX3_isWord_18 : decode cX3_isWord 18 = .ok (.invokevirtual 120, 3) := by decide +kernel
theorem dX3_isWord_21 : decode cX3_isWord 21 = .ok (.if_icmp .eq 5, 3) := by decide +kernel
theorem dX3_isWord_24 : decode cX3_isWord 24 = .ok (.iconst 0, 1) := by decide +kernel
theorem dX3_isWord_25 : decode cX3_isWord 25 = .ok (.ireturn, 1) := by decide +kernel
theorem dX3_isWord_26 : decode cX3_isWord 26 = .ok (.iconst 0, 1) := by decide +kernel
theorem dX3_isWord_27 : decode cX3_isWord 27 = .ok (.istore_n 2, 1) := by decide +kernel
theorem dX3_isWord_28 : decode cX3_isWord 28 = .ok (.iload_n 2, 1) := by decide +kernel
theorem dX3_isWord_29 : decode cX3_isWord 29 = .ok (.aload_n 1, 1) := by decide +kernel
theorem dX3_isWord_30 : decode cX3_isWord 30 = .ok (.invokevirtual 120, 3) := by decide +kernel
theorem dX3_isWord_33 : decode cX3_isWord 33 = .ok (.if_icmp .ge 30, 3) := by decide +kernel
theorem dX3_isWord_36 : decode cX3_isWord 36 = .ok (.aload_n 0, 1) := by decide +kernel
theorem dX3_isWord_37 : decode cX3_isWord 37 = .ok (.getfield 9, 3) := by decide +kernel
theorem dX3_isWord_40 : decode cX3_isWord 40 = .ok (.aload_n 0, 1) := by decide +kernel
theorem dX3_isWord_41 : decode cX3_isWord 41 = .ok (.getfield 19, 3) := by decide +kernel
theorem dX3_isWord_44 : decode cX3_isWord 44 = .ok (.iload_n 2, 1) := by decide +kernel
theorem dX3_isWord_45 : decode cX3_isWord 45 = .ok (.iadd, 1) := by decide +kernel
theorem dX3_isWord_46 : decode cX3_isWord 46 = .ok (.iaload, 1) := by decide +kernel
theorem dX3_isWord_47 : decode cX3_isWord 47 = .ok (.aload_n 1, 1) := by decide +kernel
theorem dX3_isWord_48 : decode cX3_isWord 48 = .ok (.iload_n 2, 1) := by decide +kernel
theorem dX3_isWord_49 : decode cX3_isWord 49 = .ok (.invokevirtual 124, 3) := by decide +kernel
theorem dX3_isWord_52 : decode cX3_isWord 52 = .ok (.if_icmp .eq 5, 3) := by decide +kernel
theorem dX3_isWord_55 : decode cX3_isWord 55 = .ok (.iconst 0, 1) := by decide +kernel
theorem dX3_isWord_56 : decode cX3_isWord 56 = .ok (.ireturn, 1) := by decide +kernel
theorem dX3_isWord_57 : decode cX3_isWord 57 = .ok (.iinc 2 1, 3) := by decide +kernel
theorem dX3_isWord_60 : decode cX3_isWord 60 = .ok (.goto (-32), 3) := by decide +kernel
theorem dX3_isWord_63 : decode cX3_isWord 63 = .ok (.iconst 1, 1) := by decide +kernel
theorem dX3_isWord_64 : decode cX3_isWord 64 = .ok (.ireturn, 1) := by decide +kernel
theorem dX3_takenNumber_0 : decode cX3_takenNumber 0 = .ok (.aload_n 0, 1) := by decide +kernel
theorem dX3_takenNumber_1 : decode cX3_takenNumber 1 = .ok (.getfield 25, 3) := by decide +kernel
theorem dX3_takenNumber_4 : decode cX3_takenNumber 4 = .ok (.iconst 2, 1) := by decide +kernel
theorem dX3_takenNumber_5 : decode cX3_takenNumber 5 = .ok (.if_icmp .ne 15, 3) := by decide +kernel
theorem dX3_takenNumber_8 : decode cX3_takenNumber 8 = .ok (.aload_n 0, 1) := by decide +kernel
theorem dX3_takenNumber_9 : decode cX3_takenNumber 9 = .ok (.getfield 28, 3) := by decide +kernel
theorem dX3_takenNumber_12 : decode cX3_takenNumber 12 = .ok (.iload_n 1, 1) := by decide +kernel
theorem dX3_takenNumber_13 : decode cX3_takenNumber 13 = .ok (.iload_n 2, 1) := by decide +kernel
theorem dX3_takenNumber_14 : decode cX3_takenNumber 14 = .ok (.invokestatic 128, 3) := by decide +kernel
theorem dX3_takenNumber_17 : decode cX3_takenNumber 17 = .ok (.ifCond .ne 5, 3) := by decide +kernel
theorem dX3_takenNumber_20 : decode cX3_takenNumber 20 = .ok (.iconst (-1), 1) := by decide +kernel
theorem dX3_takenNumber_21 : decode cX3_takenNumber 21 = .ok (.ireturn, 1) := by decide +kernel
theorem dX3_takenNumber_22 : decode cX3_takenNumber 22 = .ok (.aload_n 0, 1) := by decide +kernel
theorem dX3_takenNumber_23 : decode cX3_takenNumber 23 = .ok (.getfield 28, 3) := by decide +kernel
theorem dX3_takenNumber_26 : decode cX3_takenNumber 26 = .ok (.istore_n 3, 1) := by decide +kernel
theorem dX3_takenNumber_27 : decode cX3_takenNumber 27 = .ok (.aload_n 0, 1) := by decide +kernel
theorem dX3_takenNumber_28 : decode cX3_takenNumber 28 = .ok (.invokevirtual 31, 3) := by decide +kernel
theorem dX3_takenNumber_31 : decode cX3_takenNumber 31 = .ok (.iload_n 3, 1) := by decide +kernel
theorem dX3_takenNumber_32 : decode cX3_takenNumber 32 = .ok (.ireturn, 1) := by decide +kernel
theorem dX3_toNextToken_0 : decode cX3_toNextToken 0 = .ok (.aload_n 0, 1) := by decide +kernel
theorem dX3_toNextToken_1 : decode cX3_toNextToken 1 = .ok (.aload_n 0, 1) := by decide +kernel
theorem dX3_toNextToken_2 : decode cX3_toNextToken 2 = .ok (.getfield 22, 3) := by decide +kernel
theorem dX3_toNextToken_5 : decode cX3_toNextToken 5 = .ok (.putfield 19, 3) := by decide +kernel
theorem dX3_toNextToken_8 : decode cX3_toNextToken 8 = .ok (.aload_n 0, 1) := by decide +kernel
theorem dX3_toNextToken_9 : decode cX3_toNextToken 9 = .ok (.getfield 19, 3) := by decide +kernel
theorem dX3_toNextToken_12 : decode cX3_toNextToken 12 = .ok (.aload_n 0, 1) := by decide +kernel
theorem dX3_toNextToken_13 : decode cX3_toNextToken 13 = .ok (.getfield 15, 3) := by decide +kernel
theorem dX3_toNextToken_16 : decode cX3_toNextToken 16 = .ok (.if_icmp .ge 30, 3) := by decide +kernel
theorem dX3_toNextToken_19 : decode cX3_toNextToken 19 = .ok (.aload_n 0, 1) := by decide +kernel
theorem dX3_toNextToken_20 : decode cX3_toNextToken 20 = .ok (.getfield 9, 3) := by decide +kernel
theorem dX3_toNextToken_23 : decode cX3_toNextToken 23 = .ok (.aload_n 0, 1) := by decide +kernel
theorem dX3_toNextToken_24 : decode cX3_toNextToken 24 = .ok (.getfield 19, 3) := by decide +kernel
theorem dX3_toNextToken_27 : decode cX3_toNextToken 27 = .ok (.iaload, 1) := by decide +kernel
theorem dX3_toNextToken_28 : decode cX3_toNextToken 28 = .ok (.bipush 32, 2) := by decide +kernel
theorem dX3_toNextToken_30 : decode cX3_toNextToken 30 = .ok (.if_icmp .ne 16, 3) := by decide +kernel
theorem dX3_toNextToken_33 : decode cX3_toNextToken 33 = .ok (.aload_n 0, 1) := by decide +kernel
theorem dX3_toNextToken_34 : decode cX3_toNextToken 34 = .ok (.dup, 1) := by decide +kernel
theorem dX3_toNextToken_35 : decode cX3_toNextToken 35 = .ok (.getfield 19, 3) := by decide +kernel
theorem dX3_toNextToken_38 : decode cX3_toNextToken 38 = .ok (.iconst 1, 1) := by decide +kernel
theorem dX3_toNextToken_39 : decode cX3_toNextToken 39 = .ok (.iadd, 1) := by decide +kernel
theorem dX3_toNextToken_40 : decode cX3_toNextToken 40 = .ok (.putfield 19, 3) := by decide +kernel
theorem dX3_toNextToken_43 : decode cX3_toNextToken 43 = .ok (.goto (-35), 3) := by decide +kernel
theorem dX3_toNextToken_46 : decode cX3_toNextToken 46 = .ok (.aload_n 0, 1) := by decide +kernel
theorem dX3_toNextToken_47 : decode cX3_toNextToken 47 = .ok (.aload_n 0, 1) := by decide +kernel
theorem dX3_toNextToken_48 : decode cX3_toNextToken 48 = .ok (.getfield 19, 3) := by decide +kernel
theorem dX3_toNextToken_51 : decode cX3_toNextToken 51 = .ok (.putfield 22, 3) := by decide +kernel
theorem dX3_toNextToken_54 : decode cX3_toNextToken 54 = .ok (.aload_n 0, 1) := by decide +kernel
theorem dX3_toNextToken_55 : decode cX3_toNextToken 55 = .ok (.getfield 19, 3) := by decide +kernel
theorem dX3_toNextToken_58 : decode cX3_toNextToken 58 = .ok (.aload_n 0, 1) := by decide +kernel
theorem dX3_toNextToken_59 : decode cX3_toNextToken 59 = .ok (.getfield 15, 3) := by decide +kernel
theorem dX3_toNextToken_62 : decode cX3_toNextToken 62 = .ok (.if_icmp .lt 11, 3) := by decide +kernel
theorem dX3_toNextToken_65 : decode cX3_toNextToken 65 = .ok (.aload_n 0, 1) := by decide +kernel
theorem dX3_toNextToken_66 : decode cX3_toNextToken 66 = .ok (.iconst 0, 1) := by decide +kernel
theorem dX3_toNextToken_67 : decode cX3_toNextToken 67 = .ok (.putfield 25, 3) := by decide +kernel
theorem dX3_toNextToken_70 : decode cX3_toNextToken 70 = .ok (.goto 189, 3) := by decide +kernel
theorem dX3_toNextToken_73 : decode cX3_toNextToken 73 = .ok (.aload_n 0, 1) := by decide +kernel
theorem dX3_toNextToken_74 : decode cX3_toNextToken 74 = .ok (.getfield 9, 3) := by decide +kernel
theorem dX3_toNextToken_77 : decode cX3_toNextToken 77 = .ok (.aload_n 0, 1) := by decide +kernel
theorem dX3_toNextToken_78 : decode cX3_toNextToken 78 = .ok (.getfield 19, 3) := by decide +kernel
theorem dX3_toNextToken_81 : decode cX3_toNextToken 81 = .ok (.iaload, 1) := by decide +kernel
theorem dX3_toNextToken_82 : decode cX3_toNextToken 82 = .ok (.invokestatic 132, 3) := by decide +kernel
theorem dX3_toNextToken_85 : decode cX3_toNextToken 85 = .ok (.ifCond .eq 47, 3) := by decide +kernel
theorem dX3_toNextToken_88 : decode cX3_toNextToken 88 = .ok (.aload_n 0, 1) := by decide +kernel
theorem dX3_toNextToken_89 : decode cX3_toNextToken 89 = .ok (.iconst 1, 1) := by decide +kernel
theorem dX3_toNextToken_90 : decode cX3_toNextToken 90 = .ok (.putfield 25, 3) := by decide +kernel
theorem dX3_toNextToken_93 : decode cX3_toNextToken 93 = .ok (.aload_n 0, 1) := by decide +kernel
theorem dX3_toNextToken_94 : decode cX3_toNextToken 94 = .ok (.getfield 22, 3) := by decide +kernel
theorem dX3_toNextToken_97 : decode cX3_toNextToken 97 = .ok (.aload_n 0, 1) := by decide +kernel
theorem dX3_toNextToken_98 : decode cX3_toNextToken 98 = .ok (.getfield 15, 3) := by decide +kernel
theorem dX3_toNextToken_101 : decode cX3_toNextToken 101 = .ok (.if_icmp .ge 158, 3) := by decide +kernel
theorem dX3_toNextToken_104 : decode cX3_toNextToken 104 = .ok (.aload_n 0, 1) := by decide +kernel
theorem dX3_toNextToken_105 : decode cX3_toNextToken 105 = .ok (.getfield 9, 3) := by decide +kernel
theorem dX3_toNextToken_108 : decode cX3_toNextToken 108 = .ok (.aload_n 0, 1) := by decide +kernel
theorem dX3_toNextToken_109 : decode cX3_toNextToken 109 = .ok (.getfield 22, 3) := by decide +kernel
theorem dX3_toNextToken_112 : decode cX3_toNextToken 112 = .ok (.iaload, 1) := by decide +kernel
theorem dX3_toNextToken_113 : decode cX3_toNextToken 113 = .ok (.invokestatic 132, 3) := by decide +kernel
theorem dX3_toNextToken_116 : decode cX3_toNextToken 116 = .ok (.ifCond .eq 143, 3) := by decide +kernel
theorem dX3_toNextToken_119 : decode cX3_toNextToken 119 = .ok (.aload_n 0, 1) := by decide +kernel
theorem dX3_toNextToken_120 : decode cX3_toNextToken 120 = .ok (.dup, 1) := by decide +kernel
theorem dX3_toNextToken_121 : decode cX3_toNextToken 121 = .ok (.getfield 22, 3) := by decide +kernel
theorem dX3_toNextToken_124 : decode cX3_toNextToken 124 = .ok (.iconst 1, 1) := by decide +kernel
theorem dX3_toNextToken_125 : decode cX3_toNextToken 125 = .ok (.iadd, 1) := by decide +kernel
theorem dX3_toNextToken_126 : decode cX3_toNextToken 126 = .ok (.putfield 22, 3) := by decide +kernel
theorem dX3_toNextToken_129 : decode cX3_toNextToken 129 = .ok (.goto (-36), 3) := by decide +kernel
theorem dX3_toNextToken_132 : decode cX3_toNextToken 132 = .ok (.aload_n 0, 1) := by decide +kernel
theorem dX3_toNextToken_133 : decode cX3_toNextToken 133 = .ok (.getfield 9, 3) := by decide +kernel
theorem dX3_toNextToken_136 : decode cX3_toNextToken 136 = .ok (.aload_n 0, 1) := by decide +kernel
theorem dX3_toNextToken_137 : decode cX3_toNextToken 137 = .ok (.getfield 19, 3) := by decide +kernel
theorem dX3_toNextToken_140 : decode cX3_toNextToken 140 = .ok (.iaload, 1) := by decide +kernel
theorem dX3_toNextToken_141 : decode cX3_toNextToken 141 = .ok (.invokestatic 136, 3) := by decide +kernel
theorem dX3_toNextToken_144 : decode cX3_toNextToken 144 = .ok (.ifCond .eq 82, 3) := by decide +kernel
theorem dX3_toNextToken_147 : decode cX3_toNextToken 147 = .ok (.aload_n 0, 1) := by decide +kernel
theorem dX3_toNextToken_148 : decode cX3_toNextToken 148 = .ok (.iconst 2, 1) := by decide +kernel
theorem dX3_toNextToken_149 : decode cX3_toNextToken 149 = .ok (.putfield 25, 3) := by decide +kernel
theorem dX3_toNextToken_152 : decode cX3_toNextToken 152 = .ok (.aload_n 0, 1) := by decide +kernel
theorem dX3_toNextToken_153 : decode cX3_toNextToken 153 = .ok (.iconst 0, 1) := by decide +kernel
theorem dX3_toNextToken_154 : decode cX3_toNextToken 154 = .ok (.putfield 28, 3) := by decide +kernel
theorem dX3_toNextToken_157 : decode cX3_toNextToken 157 = .ok (.aload_n 0, 1) := by decide +kernel
theorem dX3_toNextToken_158 : decode cX3_toNextToken 158 = .ok (.getfield 22, 3) := by decide +kernel
theorem dX3_toNextToken_161 : decode cX3_toNextToken 161 = .ok (.aload_n 0, 1) := by decide +kernel
theorem dX3_toNextToken_162 : decode cX3_toNextToken 162 = .ok (.getfield 15, 3) := by decide +kernel
theorem dX3_toNextToken_165 : decode cX3_toNextToken 165 = .ok (.if_icmp .ge 94, 3) := by decide +kernel
theorem dX3_toNextToken_168 : decode cX3_toNextToken 168 = .ok (.aload_n 0, 1) := by decide +kernel
theorem dX3_toNextToken_169 : decode cX3_toNextToken 169 = .ok (.getfield 9, 3) := by decide +kernel
theorem dX3_toNextToken_172 : decode cX3_toNextToken 172 = .ok (.aload_n 0, 1) := by decide +kernel
theorem dX3_toNextToken_173 : decode cX3_toNextToken 173 = .ok (.getfield 22, 3) := by decide +kernel
theorem dX3_toNextToken_176 : decode cX3_toNextToken 176 = .ok (.iaload, 1) := by decide +kernel
theorem dX3_toNextToken_177 : decode cX3_toNextToken 177 = .ok (.invokestatic 136, 3) := by decide +kernel
theorem dX3_toNextToken_180 : decode cX3_toNextToken 180 = .ok (.ifCond .eq 79, 3) := by decide +kernel
theorem dX3_toNextToken_183 : decode cX3_toNextToken 183 = .ok (.aload_n 0, 1) := by decide +kernel
theorem dX3_toNextToken_184 : decode cX3_toNextToken 184 = .ok (.aload_n 0, 1) := by decide +kernel
theorem dX3_toNextToken_185 : decode cX3_toNextToken 185 = .ok (.getfield 28, 3) := by decide +kernel
theorem dX3_toNextToken_188 : decode cX3_toNextToken 188 = .ok (.bipush 10, 2) := by decide +kernel
theorem dX3_toNextToken_190 : decode cX3_toNextToken 190 = .ok (.imul, 1) := by decide +kernel
theorem dX3_toNextToken_191 : decode cX3_toNextToken 191 = .ok (.aload_n 0, 1) := by decide +kernel
theorem dX3_toNextToken_192 : decode cX3_toNextToken 192 = .ok (.getfield 9, 3) := by decide +kernel
theorem dX3_toNextToken_195 : decode cX3_toNextToken 195 = .ok (.aload_n 0, 1) := by decide +kernel
theorem dX3_toNextToken_196 : decode cX3_toNextToken 196 = .ok (.getfield 22, 3) := by decide +kernel
theorem dX3_toNextToken_199 : decode cX3_toNextToken 199 = .ok (.iaload, 1) := by decide +kernel
theorem dX3_toNextToken_200 : decode cX3_toNextToken 200 = .ok (.iadd, 1) := by decide +kernel
theorem dX3_toNextToken_201 : decode cX3_toNextToken 201 = .ok (.bipush 48, 2) := by decide +kernel
theorem dX3_toNextToken_203 : decode cX3_toNextToken 203 = .ok (.isub, 1) := by decide +kernel
theorem dX3_toNextToken_204 : decode cX3_toNextToken 204 = .ok (.sipush 1000, 3) := by decide +kernel
theorem dX3_toNextToken_207 : decode cX3_toNextToken 207 = .ok (.invokestatic 139, 3) := by decide +kernel
theorem dX3_toNextToken_210 : decode cX3_toNextToken 210 = .ok (.putfield 28, 3) := by decide +kernel
theorem dX3_toNextToken_213 : decode cX3_toNextToken 213 = .ok (.aload_n 0, 1) := by decide +kernel
theorem dX3_toNextToken_214 : decode cX3_toNextToken 214 = .ok (.dup, 1) := by decide +kernel
theorem dX3_toNextToken_215 : decode cX3_toNextToken 215 = .ok (.getfield 22, 3) := by decide +kernel
theorem dX3_toNextToken_218 : decode cX3_toNextToken 218 = .ok (.iconst 1, 1) := by decide +kernel
theorem dX3_toNextToken_219 : decode cX3_toNextToken 219 = .ok (.iadd, 1) := by decide +kernel
theorem dX3_toNextToken_220 : decode cX3_toNextToken 220 = .ok (.putfield 22, 3) := by decide +kernel
theorem dX3_toNextToken_223 : decode cX3_toNextToken 223 = .ok (.goto (-66), 3) := by decide +kernel
theorem dX3_toNextToken_226 : decode cX3_toNextToken 226 = .ok (.aload_n 0, 1) := by decide +kernel
theorem dX3_toNextToken_227 : decode cX3_toNextToken 227 = .ok (.aload_n 0, 1) := by decide +kernel
theorem dX3_toNextToken_228 : decode cX3_toNextToken 228 = .ok (.getfield 9, 3) := by decide +kernel
theorem dX3_toNextToken_231 : decode cX3_toNextToken 231 = .ok (.aload_n 0, 1) := by decide +kernel
theorem dX3_toNextToken_232 : decode cX3_toNextToken 232 = .ok (.getfield 19, 3) := by decide +kernel
theorem dX3_toNextToken_235 : decode cX3_toNextToken 235 = .ok (.iaload, 1) := by decide +kernel
theorem dX3_toNextToken_236 : decode cX3_toNextToken 236 = .ok (.bipush 59, 2) := by decide +kernel
theorem dX3_toNextToken_238 : decode cX3_toNextToken 238 = .ok (.if_icmp .ne 7, 3) := by decide +kernel
theorem dX3_toNextToken_241 : decode cX3_toNextToken 241 = .ok (.iconst 3, 1) := by decide +kernel
theorem dX3_toNextToken_242 : decode cX3_toNextToken 242 = .ok (.goto 4, 3) := by decide +kernel
theorem dX3_toNextToken_245 : decode cX3_toNextToken 245 = .ok (.iconst 4, 1) := by decide +kernel
theorem dX3_toNextToken_246 : decode cX3_toNextToken 246 = .ok (.putfield 25, 3) := by decide +kernel
theorem dX3_toNextToken_249 : decode cX3_toNextToken 249 = .ok (.aload_n 0, 1) := by decide +kernel
theorem dX3_toNextToken_250 : decode cX3_toNextToken 250 = .ok (.dup, 1) := by decide +kernel
theorem dX3_toNextToken_251 : decode cX3_toNextToken 251 = .ok (.getfield 22, 3) := by decide +kernel
theorem dX3_toNextToken_254 : decode cX3_toNextToken 254 = .ok (.iconst 1, 1) := by decide +kernel
theorem dX3_toNextToken_255 : decode cX3_toNextToken 255 = .ok (.iadd, 1) := by decide +kernel
theorem dX3_toNextToken_256 : decode cX3_toNextToken 256 = .ok (.putfield 22, 3) := by decide +kernel
theorem dX3_toNextToken_259 : decode cX3_toNextToken 259 = .ok (.return_, 1) := by decide +kernel
theorem dX3_isLetter_0 : decode cX3_isLetter 0 = .ok (.iload_n 0, 1) := by decide +kernel
theorem dX3_isLetter_1 : decode cX3_isLetter 1 = .ok (.bipush 97, 2) := by decide +kernel
theorem dX3_isLetter_3 : decode cX3_isLetter 3 = .ok (.if_icmp .lt 13, 3) := by decide +kernel
theorem dX3_isLetter_6 : decode cX3_isLetter 6 = .ok (.iload_n 0, 1) := by decide +kernel
theorem dX3_isLetter_7 : decode cX3_isLetter 7 = .ok (.bipush 122, 2) := by decide +kernel
theorem dX3_isLetter_9 : decode cX3_isLetter 9 = .ok (.if_icmp .gt 7, 3) := by decide +kernel
theorem dX3_isLetter_12 : decode cX3_isLetter 12 = .ok (.iconst 1, 1) := by decide +kernel
theorem dX3_isLetter_13 : decode cX3_isLetter 13 = .ok (.goto 4, 3) := by decide +kernel
theorem dX3_isLetter_16 : decode cX3_isLetter 16 = .ok (.iconst 0, 1) := by decide +kernel
theorem dX3_isLetter_17 : decode cX3_isLetter 17 = .ok (.ireturn, 1) := by decide +kernel
theorem dX3_isDigit_0 : decode cX3_isDigit 0 = .ok (.iload_n 0, 1) := by decide +kernel
theorem dX3_isDigit_1 : decode cX3_isDigit 1 = .ok (.bipush 48, 2) := by decide +kernel
theorem dX3_isDigit_3 : decode cX3_isDigit 3 = .ok (.if_icmp .lt 13, 3) := by decide +kernel
theorem dX3_isDigit_6 : decode cX3_isDigit 6 = .ok (.iload_n 0, 1) := by decide +kernel
theorem dX3_isDigit_7 : decode cX3_isDigit 7 = .ok (.bipush 57, 2) := by decide +kernel
theorem dX3_isDigit_9 : decode cX3_isDigit 9 = .ok (.if_icmp .gt 7, 3) := by decide +kernel
theorem dX3_isDigit_12 : decode cX3_isDigit 12 = .ok (.iconst 1, 1) := by decide +kernel
theorem dX3_isDigit_13 : decode cX3_isDigit 13 = .ok (.goto 4, 3) := by decide +kernel
theorem dX3_isDigit_16 : decode cX3_isDigit 16 = .ok (.iconst 0, 1) := by decide +kernel
theorem dX3_isDigit_17 : decode cX3_isDigit 17 = .ok (.ireturn, 1) := by decide +kernel
