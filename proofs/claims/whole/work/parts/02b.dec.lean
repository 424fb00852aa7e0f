theorem dX5_addCell_67 : decode cX5_addCell 67 = .ok (.aload_n 0, 1) := by decide +kernel
theorem dX5_addCell_68 : decode cX5_addCell 68 = .ok (.dup, 1) := by decide +kernel
theorem dX5_addCell_69 : decode cX5_addCell 69 = .ok (.getfield 28, 3) := by decide +kernel
theorem dX5_addCell_72 : decode cX5_addCell 72 = .ok (.aload_n 0, 1) := by decide +kernel
theorem dX5_addCell_73 : decode cX5_addCell 73 = .ok (.getfield 22, 3) := by decide +kernel
theorem dX5_addCell_76 : decode cX5_addCell 76 = .ok (.ior, 1) := by decide +kernel
theorem dX5_addCell_77 : decode cX5_addCell 77 = .ok (.putfield 28, 3) := by decide +kernel
theorem dX5_addCell_80 : decode cX5_addCell 80 = .ok (.aload_n 0, 1) := by decide +kernel
theorem dX5_addCell_81 : decode cX5_addCell 81 = .ok (.getfield 11, 3) := by decide +kernel
theorem dX5_addCell_84 : decode cX5_addCell 84 = .ok (.aload_n 0, 1) := by decide +kernel
theorem dX5_addCell_85 : decode cX5_addCell 85 = .ok (.getfield 15, 3) := by decide +kernel
theorem dX5_addCell_88 : decode cX5_addCell 88 = .ok (.iload_n 1, 1) := by decide +kernel
theorem dX5_addCell_89 : decode cX5_addCell 89 = .ok (.iastore, 1) := by decide +kernel
theorem dX5_addCell_90 : decode cX5_addCell 90 = .ok (.aload_n 0, 1) := by decide +kernel
theorem dX5_addCell_91 : decode cX5_addCell 91 = .ok (.dup, 1) := by decide +kernel
theorem dX5_addCell_92 : decode cX5_addCell 92 = .ok (.getfield 15, 3) := by decide +kernel
theorem dX5_addCell_95 : decode cX5_addCell 95 = .ok (.iconst 1, 1) := by decide +kernel
theorem dX5_addCell_96 : decode cX5_addCell 96 = .ok (.iadd, 1) := by decide +kernel
theorem dX5_addCell_97 : decode cX5_addCell 97 = .ok (.putfield 15, 3) := by decide +kernel
theorem dX5_addCell_100 : decode cX5_addCell 100 = .ok (.aload_n 0, 1) := by decide +kernel
theorem dX5_addCell_101 : decode cX5_addCell 101 = .ok (.dup, 1) := by decide +kernel
theorem dX5_addCell_102 : decode cX5_addCell 102 = .ok (.getfield 22, 3) := by decide +kernel
theorem dX5_addCell_105 : decode cX5_addCell 105 = .ok (.iconst 2, 1) := by decide +kernel
theorem dX5_addCell_106 : decode cX5_addCell 106 = .ok (.imul, 1) := by decide +kernel
theorem dX5_addCell_107 : decode cX5_addCell 107 = .ok (.putfield 22, 3) := by decide +kernel
theorem dX5_addCell_110 : decode cX5_addCell 110 = .ok (.return_, 1) := by decide +kernel
theorem dX5_makes_0 : decode cX5_makes 0 = .ok (.iload_n 1, 1) := by decide +kernel
theorem dX5_makes_1 : decode cX5_makes 1 = .ok (.ifCond .lt 30, 3) := by decide +kernel
theorem dX5_makes_4 : decode cX5_makes 4 = .ok (.iload_n 1, 1) := by decide +kernel
theorem dX5_makes_5 : decode cX5_makes 5 = .ok (.aload_n 0, 1) := by decide +kernel
theorem dX5_makes_6 : decode cX5_makes 6 = .ok (.getfield 22, 3) := by decide +kernel
theorem dX5_makes_9 : decode cX5_makes 9 = .ok (.if_icmp .ge 22, 3) := by decide +kernel
theorem dX5_makes_12 : decode cX5_makes 12 = .ok (.aload_n 0, 1) := by decide +kernel
theorem dX5_makes_13 : decode cX5_makes 13 = .ok (.getfield 25, 3) := by decide +kernel
theorem dX5_makes_16 : decode cX5_makes 16 = .ok (.aload_n 0, 1) := by decide +kernel
theorem dX5_makes_17 : decode cX5_makes 17 = .ok (.getfield 19, 3) := by decide +kernel
theorem dX5_makes_20 : decode cX5_makes 20 = .ok (.iload_n 1, 1) := by decide +kernel
theorem dX5_makes_21 : decode cX5_makes 21 = .ok (.iaload, 1) := by decide +kernel
theorem dX5_makes_22 : decode cX5_makes 22 = .ok (.iadd, 1) := by decide +kernel
theorem dX5_makes_23 : decode cX5_makes 23 = .ok (.iload_n 2, 1) := by decide +kernel
theorem dX5_makes_24 : decode cX5_makes 24 = .ok (.if_icmp .ne 7, 3) := by decide +kernel
theorem dX5_makes_27 : decode cX5_makes 27 = .ok (.iconst 1, 1) := by decide +kernel
theorem dX5_makes_28 : decode cX5_makes 28 = .ok (.goto 4, 3) := by decide +kernel
theorem dX5_makes_31 : decode cX5_makes 31 = .ok (.iconst 0, 1) := by decide +kernel
theorem dX5_makes_32 : decode cX5_makes 32 = .ok (.ireturn, 1) := by decide +kernel
theorem dX5_ways_0 : decode cX5_ways 0 = .ok (.iconst 0, 1) := by decide +kernel
theorem dX5_ways_1 : decode cX5_ways 1 = .ok (.istore_n 2, 1) := by decide +kernel
theorem dX5_ways_2 : decode cX5_ways 2 = .ok (.iconst 0, 1) := by decide +kernel
theorem dX5_ways_3 : decode cX5_ways 3 = .ok (.istore_n 3, 1) := by decide +kernel
theorem dX5_ways_4 : decode cX5_ways 4 = .ok (.iload_n 3, 1) := by decide +kernel
theorem dX5_ways_5 : decode cX5_ways 5 = .ok (.aload_n 0, 1) := by decide +kernel
theorem dX5_ways_6 : decode cX5_ways 6 = .ok (.getfield 22, 3) := by decide +kernel
theorem dX5_ways_9 : decode cX5_ways 9 = .ok (.if_icmp .ge 21, 3) := by decide +kernel
theorem dX5_ways_12 : decode cX5_ways 12 = .ok (.aload_n 0, 1) := by decide +kernel
theorem dX5_ways_13 : decode cX5_ways 13 = .ok (.iload_n 3, 1) := by decide +kernel
theorem dX5_ways_14 : decode cX5_ways 14 = .ok (.iload_n 1, 1) := by decide +kernel
theorem dX5_ways_15 : decode cX5_ways 15 = .ok (.invokevirtual 63, 3) := by decide +kernel
theorem dX5_ways_18 : decode cX5_ways 18 = .ok (.ifCond .eq 6, 3) := by decide +kernel
theorem dX5_ways_21 : decode cX5_ways 21 = .ok (.iinc 2 1, 3) := by decide +kernel
theorem dX5_ways_24 : decode cX5_ways 24 = .ok (.iinc 3 1, 3) := by decide +kernel
theorem dX5_ways_27 : decode cX5_ways 27 = .ok (.goto (-23), 3) := by decide +kernel
theorem dX5_ways_30 : decode cX5_ways 30 = .ok (.iload_n 2, 1) := by decide +kernel
theorem dX5_ways_31 : decode cX5_ways 31 = .ok (.ireturn, 1) := by decide +kernel
theorem dX5_sure_0 : decode cX5_sure 0 = .ok (.aload_n 0, 1) := by decide +kernel
theorem dX5_sure_1 : decode cX5_sure 1 = .ok (.getfield 22, 3) := by decide +kernel
theorem dX5_sure_4 : decode cX5_sure 4 = .ok (.iconst 1, 1) := by decide +kernel
theorem dX5_sure_5 : decode cX5_sure 5 = .ok (.isub, 1) := by decide +kernel
theorem dX5_sure_6 : decode cX5_sure 6 = .ok (.istore_n 2, 1) := by decide +kernel
theorem dX5_sure_7 : decode cX5_sure 7 = .ok (.iconst 0, 1) := by decide +kernel
theorem dX5_sure_8 : decode cX5_sure 8 = .ok (.istore_n 3, 1) := by decide +kernel
theorem dX5_sure_9 : decode cX5_sure 9 = .ok (.iconst 0, 1) := by decide +kernel
theorem dX5_sure_10 : decode cX5_sure 10 = .ok (.istore 4, 2) := by decide +kernel
theorem dX5_sure_12 : decode cX5_sure 12 = .ok (.iload 4, 2) := by decide +kernel
theorem dX5_sure_14 : decode cX5_sure 14 = .ok (.aload_n 0, 1) := by decide +kernel
theorem dX5_sure_15 : decode cX5_sure 15 = .ok (.getfield 22, 3) := by decide +kernel
theorem dX5_sure_18 : decode cX5_sure 18 = .ok (.if_icmp .ge 26, 3) := by decide +kernel
theorem dX5_sure_21 : decode cX5_sure 21 = .ok (.aload_n 0, 1) := by decide +kernel
theorem dX5_sure_22 : decode cX5_sure 22 = .ok (.iload 4, 2) := by decide +kernel
theorem dX5_sure_24 : decode cX5_sure 24 = .ok (.iload_n 1, 1) := by decide +kernel
theorem dX5_sure_25 : decode cX5_sure 25 = .ok (.invokevirtual 63, 3) := by decide +kernel
theorem dX5_sure_28 : decode cX5_sure 28 = .ok (.ifCond .eq 10, 3) := by decide +kernel
theorem dX5_sure_31 : decode cX5_sure 31 = .ok (.iload_n 2, 1) := by decide +kernel
theorem dX5_sure_32 : decode cX5_sure 32 = .ok (.iload 4, 2) := by decide +kernel
theorem dX5_sure_34 : decode cX5_sure 34 = .ok (.iand, 1) := by decide +kernel
theorem dX5_sure_35 : decode cX5_sure 35 = .ok (.istore_n 2, 1) := by decide +kernel
theorem dX5_sure_36 : decode cX5_sure 36 = .ok (.iconst 1, 1) := by decide +kernel
theorem dX5_sure_37 : decode cX5_sure 37 = .ok (.istore_n 3, 1) := by decide +kernel
theorem dX5_sure_38 : decode cX5_sure 38 = .ok (.iinc 4 1, 3) := by decide +kernel
theorem dX5_sure_41 : decode cX5_sure 41 = .ok (.goto (-29), 3) := by decide +kernel
theorem dX5_sure_44 : decode cX5_sure 44 = .ok (.iload_n 3, 1) := by decide +kernel
theorem dX5_sure_45 : decode cX5_sure 45 = .ok (.ifCond .eq 7, 3) := by decide +kernel
theorem dX5_sure_48 : decode cX5_sure 48 = .ok (.iload_n 2, 1) := by decide +kernel
theorem dX5_sure_49 : decode cX5_sure 49 = .ok (.goto 4, 3) := by decide +kernel
theorem dX5_sure_52 : decode cX5_sure 52 = .ok (.iconst 0, 1) := by decide +kernel
theorem dX5_sure_53 : decode cX5_sure 53 = .ok (.ireturn, 1) := by decide +kernel
theorem dX5_leastSet_0 : decode cX5_leastSet 0 = .ok (.iconst 0, 1) := by decide +kernel
theorem dX5_leastSet_1 : decode cX5_leastSet 1 = .ok (.istore_n 2, 1) := by decide +kernel
theorem dX5_leastSet_2 : decode cX5_leastSet 2 = .ok (.iload_n 2, 1) := by decide +kernel
theorem dX5_leastSet_3 : decode cX5_leastSet 3 = .ok (.aload_n 0, 1) := by decide +kernel
theorem dX5_leastSet_4 : decode cX5_leastSet 4 = .ok (.getfield 22, 3) := by decide +kernel
theorem dX5_leastSet_7 : decode cX5_leastSet 7 = .ok (.if_icmp .ge 20, 3) := by decide +kernel
theorem dX5_leastSet_10 : decode cX5_leastSet 10 = .ok (.aload_n 0, 1) := by decide +kernel
theorem dX5_leastSet_11 : decode cX5_leastSet 11 = .ok (.iload_n 2, 1) := by decide +kernel
theorem dX5_leastSet_12 : decode cX5_leastSet 12 = .ok (.iload_n 1, 1) := by decide +kernel
theorem dX5_leastSet_13 : decode cX5_leastSet 13 = .ok (.invokevirtual 63, 3) := by decide +kernel
theorem dX5_leastSet_16 : decode cX5_leastSet 16 = .ok (.ifCond .eq 5, 3) := by decide +kernel
theorem dX5_leastSet_19 : decode cX5_leastSet 19 = .ok (.iload_n 2, 1) := by decide +kernel
theorem dX5_leastSet_20 : decode cX5_leastSet 20 = .ok (.ireturn, 1) := by decide +kernel
theorem dX5_leastSet_21 : decode cX5_leastSet 21 = .ok (.iinc 2 1, 3) := by decide +kernel
theorem dX5_leastSet_24 : decode cX5_leastSet 24 = .ok (.goto (-22), 3) := by decide +kernel
theorem dX5_leastSet_27 : decode cX5_leastSet 27 = .ok (.bipush (-2), 2) := by decide +kernel
theorem dX5_leastSet_29 : decode cX5_leastSet 29 = .ok (.ireturn, 1) := by decide +kernel
theorem dX5_fewestToOpen_0 : decode cX5_fewestToOpen 0 = .ok (.aload_n 0, 1) := by decide +kernel
theorem dX5_fewestToOpen_1 : decode cX5_fewestToOpen 1 = .ok (.getfield 22, 3) := by decide +kernel
theorem dX5_fewestToOpen_4 : decode cX5_fewestToOpen 4 = .ok (.iconst 1, 1) := by decide +kernel
theorem dX5_fewestToOpen_5 : decode cX5_fewestToOpen 5 = .ok (.isub, 1) := by decide +kernel
theorem dX5_fewestToOpen_6 : decode cX5_fewestToOpen 6 = .ok (.istore_n 1, 1) := by decide +kernel
theorem dX5_fewestToOpen_7 : decode cX5_fewestToOpen 7 = .ok (.iconst 0, 1) := by decide +kernel
theorem dX5_fewestToOpen_8 : decode cX5_fewestToOpen 8 = .ok (.istore_n 2, 1) := by decide +kernel
theorem dX5_fewestToOpen_9 : decode cX5_fewestToOpen 9 = .ok (.iload_n 2, 1) := by decide +kernel
theorem dX5_fewestToOpen_10 : decode cX5_fewestToOpen 10 = .ok (.aload_n 0, 1) := by decide +kernel
theorem dX5_fewestToOpen_11 : decode cX5_fewestToOpen 11 = .ok (.getfield 22, 3) := by decide +kernel
theorem dX5_fewestToOpen_14 : decode cX5_fewestToOpen 14 = .ok (.if_icmp .ge 30, 3) := by decide +kernel
theorem dX5_fewestToOpen_17 : decode cX5_fewestToOpen 17 = .ok (.iload_n 2, 1) := by decide +kernel
theorem dX5_fewestToOpen_18 : decode cX5_fewestToOpen 18 = .ok (.invokestatic 67, 3) := by decide +kernel
theorem dX5_fewestToOpen_21 : decode cX5_fewestToOpen 21 = .ok (.iload_n 1, 1) := by decide +kernel
theorem dX5_fewestToOpen_22 : decode cX5_fewestToOpen 22 = .ok (.invokestatic 67, 3) := by decide +kernel
theorem dX5_fewestToOpen_25 : decode cX5_fewestToOpen 25 = .ok (.if_icmp .ge 13, 3) := by decide +kernel
theorem dX5_fewestToOpen_28 : decode cX5_fewestToOpen 28 = .ok (.aload_n 0, 1) := by decide +kernel
theorem dX5_fewestToOpen_29 : decode cX5_fewestToOpen 29 = .ok (.iload_n 2, 1) := by decide +kernel
theorem dX5_fewestToOpen_30 : decode cX5_fewestToOpen 30 = .ok (.invokevirtual 72, 3) := by decide +kernel
theorem dX5_fewestToOpen_33 : decode cX5_fewestToOpen 33 = .ok (.ifCond .eq 5, 3) := by decide +kernel
theorem dX5_fewestToOpen_36 : decode cX5_fewestToOpen 36 = .ok (.iload_n 2, 1) := by decide +kernel
theorem dX5_fewestToOpen_37 : decode cX5_fewestToOpen 37 = .ok (.istore_n 1, 1) := by decide +kernel
theorem dX5_fewestToOpen_38 : decode cX5_fewestToOpen 38 = .ok (.iinc 2 1, 3) := by decide +kernel
theorem dX5_fewestToOpen_41 : decode cX5_fewestToOpen 41 = .ok (.goto (-32), 3) := by decide +kernel
theorem dX5_fewestToOpen_44 : decode cX5_fewestToOpen 44 = .ok (.iload_n 1, 1) := by decide +kernel
theorem dX5_fewestToOpen_45 : decode cX5_fewestToOpen 45 = .ok (.ireturn, 1) := by decide +kernel
theorem dX5_leavesTruthAlone_0 : decode cX5_leavesTruthAlone 0 = .ok (.aload_n 0, 1) := by decide +kernel
theorem dX5_leavesTruthAlone_1 : decode cX5_leavesTruthAlone 1 = .ok (.getfield 25, 3) := by decide +kernel
theorem dX5_leavesTruthAlone_4 : decode cX5_leavesTruthAlone 4 = .ok (.aload_n 0, 1) := by decide +kernel
theorem dX5_leavesTruthAlone_5 : decode cX5_leavesTruthAlone 5 = .ok (.getfield 19, 3) := by decide +kernel
theorem dX5_leavesTruthAlone_8 : decode cX5_leavesTruthAlone 8 = .ok (.aload_n 0, 1) := by decide +kernel
theorem dX5_leavesTruthAlone_9 : decode cX5_leavesTruthAlone 9 = .ok (.getfield 28, 3) := by decide +kernel
theorem dX5_leavesTruthAlone_12 : decode cX5_leavesTruthAlone 12 = .ok (.iaload, 1) := by decide +kernel
theorem dX5_leavesTruthAlone_13 : decode cX5_leavesTruthAlone 13 = .ok (.iadd, 1) := by decide +kernel
theorem dX5_leavesTruthAlone_14 : decode cX5_leavesTruthAlone 14 = .ok (.istore_n 2, 1) := by decide +kernel
theorem dX5_leavesTruthAlone_15 : decode cX5_leavesTruthAlone 15 = .ok (.iconst 0, 1) := by decide +kernel
theorem dX5_leavesTruthAlone_16 : decode cX5_leavesTruthAlone 16 = .ok (.istore_n 3, 1) := by decide +kernel
theorem dX5_leavesTruthAlone_17 : decode cX5_leavesTruthAlone 17 = .ok (.iload_n 3, 1) := by decide +kernel
theorem dX5_leavesTruthAlone_18 : decode cX5_leavesTruthAlone 18 = .ok (.aload_n 0, 1) := by decide +kernel
theorem dX5_leavesTruthAlone_19 : decode cX5_leavesTruthAlone 19 = .ok (.getfield 22, 3) := by decide +kernel
theorem dX5_leavesTruthAlone_22 : decode cX5_leavesTruthAlone 22 = .ok (.if_icmp .ge 52, 3) := by decide +kernel
theorem dX5_leavesTruthAlone_25 : decode cX5_leavesTruthAlone 25 = .ok (.iload_n 3, 1) := by decide +kernel
theorem dX5_leavesTruthAlone_26 : decode cX5_leavesTruthAlone 26 = .ok (.iload_n 1, 1) := by decide +kernel
theorem dX5_leavesTruthAlone_27 : decode cX5_leavesTruthAlone 27 = .ok (.iand, 1) := by decide +kernel
theorem dX5_leavesTruthAlone_28 : decode cX5_leavesTruthAlone 28 = .ok (.aload_n 0, 1) := by decide +kernel
theorem dX5_leavesTruthAlone_29 : decode cX5_leavesTruthAlone 29 = .ok (.getfield 28, 3) := by decide +kernel
theorem dX5_leavesTruthAlone_32 : decode cX5_leavesTruthAlone 32 = .ok (.iload_n 1, 1) := by decide +kernel
theorem dX5_leavesTruthAlone_33 : decode cX5_leavesTruthAlone 33 = .ok (.iand, 1) := by decide +kernel
theorem dX5_leavesTruthAlone_34 : decode cX5_leavesTruthAlone 34 = .ok (.if_icmp .ne 7, 3) := by decide +kernel
theorem dX5_leavesTruthAlone_37 : decode cX5_leavesTruthAlone 37 = .ok (.iconst 1, 1) := by decide +kernel
theorem dX5_leavesTruthAlone_38 : decode cX5_leavesTruthAlone 38 = .ok (.goto 4, 3) := by decide +kernel
theorem dX5_leavesTruthAlone_41 : decode cX5_leavesTruthAlone 41 = .ok (.iconst 0, 1) := by decide +kernel
theorem dX5_leavesTruthAlone_42 : decode cX5_leavesTruthAlone 42 = .ok (.istore 4, 2) := by decide +kernel
theorem dX5_leavesTruthAlone_44 : decode cX5_leavesTruthAlone 44 = .ok (.iload 4, 2) := by decide +kernel
theorem dX5_leavesTruthAlone_46 : decode cX5_leavesTruthAlone 46 = .ok (.ifCond .eq 22, 3) := by decide +kernel
theorem dX5_leavesTruthAlone_49 : decode cX5_leavesTruthAlone 49 = .ok (.iload_n 3, 1) := by decide +kernel
theorem dX5_leavesTruthAlone_50 : decode cX5_leavesTruthAlone 50 = .ok (.aload_n 0, 1) := by decide +kernel
theorem dX5_leavesTruthAlone_51 : decode cX5_leavesTruthAlone 51 = .ok (.getfield 28, 3) := by decide +kernel
theorem dX5_leavesTruthAlone_54 : decode cX5_leavesTruthAlone 54 = .ok (.if_icmp .eq 14, 3) := by decide +kernel
theorem dX5_leavesTruthAlone_57 : decode cX5_leavesTruthAlone 57 = .ok (.aload_n 0, 1) := by decide +kernel
theorem dX5_leavesTruthAlone_58 : decode cX5_leavesTruthAlone 58 = .ok (.iload_n 3, 1) := by decide +kernel
theorem dX5_leavesTruthAlone_59 : decode cX5_leavesTruthAlone 59 = .ok (.iload_n 2, 1) := by decide +kernel
theorem dX5_leavesTruthAlone_60 : decode cX5_leavesTruthAlone 60 = .ok (.invokevirtual 63, 3) := by decide +kernel
theorem dX5_leavesTruthAlone_63 : decode cX5_leavesTruthAlone 63 = .ok (.ifCond .eq 5, 3) := by decide +kernel
theorem dX5_leavesTruthAlone_66 : decode cX5_leavesTruthAlone 66 = .ok (.iconst 0, 1) := by decide +kernel
theorem dX5_leavesTruthAlone_67 : decode cX5_leavesTruthAlone 67 = .ok (.ireturn, 1) := by decide +kernel
theorem dX5_leavesTruthAlone_68 : decode cX5_leavesTruthAlone 68 = .ok (.iinc 3 1, 3) := by decide +kernel
theorem dX5_leavesTruthAlone_71 : decode cX5_leavesTruthAlone 71 = .ok (.goto (-54), 3) := by decide +kernel
theorem dX5_leavesTruthAlone_74 : decode cX5_leavesTruthAlone 74 = .ok (.iconst 1, 1) := by decide +kernel
theorem dX5_leavesTruthAlone_75 : decode cX5_leavesTruthAlone 75 = .ok (.ireturn, 1) := by decide +kernel
theorem dX6_init_0 : decode cX6_init 0 = .ok (.aload_n 0, 1) := by decide +kernel
theorem dX6_init_1 : decode cX6_init 1 = .ok (.invokespecial 3, 3) := by decide +kernel
theorem dX6_init_4 : decode cX6_init 4 = .ok (.aload_n 0, 1) := by decide +kernel
theorem dX6_init_5 : decode cX6_init 5 = .ok (.new 9, 3) := by decide +kernel
theorem dX6_init_8 : decode cX6_init 8 = .ok (.dup, 1) := by decide +kernel
theorem dX6_init_9 : decode cX6_init 9 = .ok (.invokespecial 11, 3) := by decide +kernel
theorem dX6_init_12 : decode cX6_init 12 = .ok (.putfield 12, 3) := by decide +kernel
theorem dX6_init_15 : decode cX6_init 15 = .ok (.aload_n 0, 1) := by decide +kernel
theorem dX6_init_16 : decode cX6_init 16 = .ok (.new 18, 3) := by decide +kernel
theorem dX6_init_19 : decode cX6_init 19 = .ok (.dup, 1) := by decide +kernel
theorem dX6_init_20 : decode cX6_init 20 = .ok (.invokespecial 20, 3) := by decide +kernel
theorem dX6_init_23 : decode cX6_init 23 = .ok (.putfield 21, 3) := by decide +kernel
theorem dX6_init_26 : decode cX6_init 26 = .ok (.aload_n 0, 1) := by decide +kernel
theorem dX6_init_27 : decode cX6_init 27 = .ok (.new 18, 3) := by decide +kernel
theorem dX6_init_30 : decode cX6_init 30 = .ok (.dup, 1) := by decide +kernel
theorem dX6_init_31 : decode cX6_init 31 = .ok (.invokespecial 20, 3) := by decide +kernel
theorem dX6_init_34 : decode cX6_init 34 = .ok (.putfield 25, 3) := by decide +kernel
theorem dX6_init_37 : decode cX6_init 37 = .ok (.aload_n 0, 1) := by decide +kernel
theorem dX6_init_38 : decode cX6_init 38 = .ok (.aload_n 1, 1) := by decide +kernel
theorem dX6_init_39 : decode cX6_init 39 = .ok (.putfield 28, 3) := by decide +kernel
theorem dX6_init_42 : decode cX6_init 42 = .ok (.aload_n 0, 1) := by decide +kernel
theorem dX6_init_43 : decode cX6_init 43 = .ok (.aload_n 2, 1) := by decide +kernel
theorem dX6_init_44 : decode cX6_init 44 = .ok (.putfield 32, 3) := by decide +kernel
theorem dX6_init_47 : decode cX6_init 47 = .ok (.return_, 1) := by decide +kernel
theorem dX6_tapeLength_0 : decode cX6_tapeLength 0 = .ok (.aload_n 0, 1) := by decide +kernel
theorem dX6_tapeLength_1 : decode cX6_tapeLength 1 = .ok (.getfield 12, 3) := by decide +kernel
theorem dX6_tapeLength_4 : decode cX6_tapeLength 4 = .ok (.invokevirtual 36, 3) := by decide +kernel
theorem dX6_tapeLength_7 : decode cX6_tapeLength 7 = .ok (.ireturn, 1) := by decide +kernel
theorem dX6_feedLetter_0 : decode cX6_feedLetter 0 = .ok (.aload_n 0, 1) := by decide +kernel
theorem dX6_feedLetter_1 : decode cX6_feedLetter 1 = .ok (.getfield 12, 3) := by decide +kernel
theorem dX6_feedLetter_4 : decode cX6_feedLetter 4 = .ok (.iload_n 1, 1) := by decide +kernel
theorem dX6_feedLetter_5 : decode cX6_feedLetter 5 = .ok (.invokevirtual 40, 3) := by decide +kernel
theorem dX6_feedLetter_8 : decode cX6_feedLetter 8 = .ok (.ireturn, 1) := by decide +kernel
theorem dX6_takeLaw_0 : decode cX6_takeLaw 0 = .ok (.aload_n 0, 1) := by decide +kernel
theorem dX6_takeLaw_1 : decode cX6_takeLaw 1 = .ok (.getfield 12, 3) := by decide +kernel
theorem dX6_takeLaw_4 : decode cX6_takeLaw 4 = .ok (.aload_n 0, 1) := by decide +kernel
theorem dX6_takeLaw_5 : decode cX6_takeLaw 5 = .ok (.getfield 25, 3) := by decide +kernel
theorem dX6_takeLaw_8 : decode cX6_takeLaw 8 = .ok (.invokevirtual 44, 3) := by decide +kernel
theorem dX6_takeLaw_11 : decode cX6_takeLaw 11 = .ok (.istore_n 1, 1) := by decide +kernel
theorem dX6_takeLaw_12 : decode cX6_takeLaw 12 = .ok (.aload_n 0, 1) := by decide +kernel
theorem dX6_takeLaw_13 : decode cX6_takeLaw 13 = .ok (.getfield 12, 3) := by decide +kernel
theorem dX6_takeLaw_16 : decode cX6_takeLaw 16 = .ok (.invokevirtual 48, 3) := by decide +kernel
theorem dX6_takeLaw_19 : decode cX6_takeLaw 19 = .ok (.iload_n 1, 1) := by decide +kernel
theorem dX6_takeLaw_20 : decode cX6_takeLaw 20 = .ok (.ifCond .ge 21, 3) := by decide +kernel
theorem dX6_takeLaw_23 : decode cX6_takeLaw 23 = .ok (.aload_n 0, 1) := by decide +kernel
theorem dX6_takeLaw_24 : decode cX6_takeLaw 24 = .ok (.getfield 21, 3) := by decide +kernel
theorem dX6_takeLaw_27 : decode cX6_takeLaw 27 = .ok (.astore_n 2, 1) := by decide +kernel
theorem dX6_takeLaw_28 : decode cX6_takeLaw 28 = .ok (.aload_n 0, 1) := by decide +kernel
theorem dX6_takeLaw_29 : decode cX6_takeLaw 29 = .ok (.aload_n 0, 1) := by decide +kernel
theorem dX6_takeLaw_30 : decode cX6_takeLaw 30 = .ok (.getfield 25, 3) := by decide +kernel
theorem dX6_takeLaw_33 : decode cX6_takeLaw 33 = .ok (.putfield 21, 3) := by decide +kernel
theorem dX6_takeLaw_36 : decode cX6_takeLaw 36 = .ok (.aload_n 0, 1) := by decide +kernel
theorem dX6_takeLaw_37 : decode cX6_takeLaw 37 = .ok (.aload_n 2, 1) := by decide +kernel
theorem dX6_takeLaw_38 : decode cX6_takeLaw 38 = .ok (.putfield 25, 3) := by decide +kernel
theorem dX6_takeLaw_41 : decode cX6_takeLaw 41 = .ok (.iload_n 1, 1) := by decide +kernel
theorem dX6_takeLaw_42 : decode cX6_takeLaw 42 = .ok (.ireturn, 1) := by decide +kernel
theorem dX6_placeFor_0 : decode cX6_placeFor 0 = .ok (.aload_n 0, 1) := by decide +kernel
theorem dX6_placeFor_1 : decode cX6_placeFor 1 = .ok (.getfield 32, 3) := by decide +kernel
theorem dX6_placeFor_4 : decode cX6_placeFor 4 = .ok (.iload_n 2, 1) := by decide +kernel
theorem dX6_placeFor_5 : decode cX6_placeFor 5 = .ok (.invokevirtual 51, 3) := by decide +kernel
theorem dX6_placeFor_8 : decode cX6_placeFor 8 = .ok (.istore 4, 2) := by decide +kernel
theorem dX6_placeFor_10 : decode cX6_placeFor 10 = .ok (.bipush (-2), 2) := by decide +kernel
theorem dX6_placeFor_12 : decode cX6_placeFor 12 = .ok (.istore 5, 2) := by decide +kernel
theorem dX6_placeFor_14 : decode cX6_placeFor 14 = .ok (.iconst 0, 1) := by decide +kernel
theorem dX6_placeFor_15 : decode cX6_placeFor 15 = .ok (.istore 6, 2) := by decide +kernel
theorem dX6_placeFor_17 : decode cX6_placeFor 17 = .ok (.iconst 0, 1) := by decide +kernel
theorem dX6_placeFor_18 : decode cX6_placeFor 18 = .ok (.istore 7, 2) := by decide +kernel
theorem dX6_placeFor_20 : decode cX6_placeFor 20 = .ok (.iload 7, 2) := by decide +kernel
theorem dX6_placeFor_22 : decode cX6_placeFor 22 = .ok (.bipush 49, 2) := by decide +kernel
theorem dX6_placeFor_24 : decode cX6_placeFor 24 = .ok (.if_icmp .ge 108, 3) := by decide +kernel
theorem dX6_placeFor_27 : decode cX6_placeFor 27 = .ok (.aload_n 1, 1) := by decide +kernel
theorem dX6_placeFor_28 : decode cX6_placeFor 28 = .ok (.iload 7, 2) := by decide +kernel
theorem dX6_placeFor_30 : decode cX6_placeFor 30 = .ok (.invokevirtual 56, 3) := by decide +kernel
theorem dX6_placeFor_33 : decode cX6_placeFor 33 = .ok (.ifCond .eq 6, 3) := by decide +kernel
theorem dX6_placeFor_36 : decode cX6_placeFor 36 = .ok (.goto 90, 3) := by decide +kernel
theorem dX6_placeFor_39 : decode cX6_placeFor 39 = .ok (.aload_n 0, 1) := by decide +kernel
theorem dX6_placeFor_40 : decode cX6_placeFor 40 = .ok (.getfield 28, 3) := by decide +kernel
theorem dX6_placeFor_43 : decode cX6_placeFor 43 = .ok (.iload 7, 2) := by decide +kernel
theorem dX6_placeFor_45 : decode cX6_placeFor 45 = .ok (.iload 4, 2) := by decide +kernel
theorem dX6_placeFor_47 : decode cX6_placeFor 47 = .ok (.invokevirtual 62, 3) := by decide +kernel
theorem dX6_placeFor_50 : decode cX6_placeFor 50 = .ok (.istore 8, 2) := by decide +kernel
theorem dX6_placeFor_52 : decode cX6_placeFor 52 = .ok (.iload 8, 2) := by decide +kernel
theorem dX6_placeFor_54 : decode cX6_placeFor 54 = .ok (.ineg, 1) := by decide +kernel
theorem dX6_placeFor_55 : decode cX6_placeFor 55 = .ok (.istore 9, 2) := by decide +kernel
theorem dX6_placeFor_57 : decode cX6_placeFor 57 = .ok (.aload_n 0, 1) := by decide +kernel
theorem dX6_placeFor_58 : decode cX6_placeFor 58 = .ok (.getfield 21, 3) := by decide +kernel
theorem dX6_placeFor_61 : decode cX6_placeFor 61 = .ok (.invokevirtual 68, 3) := by decide +kernel
theorem dX6_placeFor_64 : decode cX6_placeFor 64 = .ok (.ifCond .eq 42, 3) := by decide +kernel
theorem dX6_placeFor_67 : decode cX6_placeFor 67 = .ok (.aload_n 1, 1) := by decide +kernel
theorem dX6_placeFor_68 : decode cX6_placeFor 68 = .ok (.iload 7, 2) := by decide +kernel
theorem dX6_placeFor_70 : decode cX6_placeFor 70 = .ok (.invokevirtual 72, 3) := by decide +kernel
theorem dX6_placeFor_73 : decode cX6_placeFor 73 = .ok (.istore 10, 2) := by decide +kernel
theorem dX6_placeFor_75 : decode cX6_placeFor 75 = .ok (.aload_n 1, 1) := by decide +kernel
theorem dX6_placeFor_76 : decode cX6_placeFor 76 = .ok (.iload 7, 2) := by decide +kernel
theorem dX6_placeFor_78 : decode cX6_placeFor 78 = .ok (.iload_n 2, 1) := by decide +kernel
theorem dX6_placeFor_79 : decode cX6_placeFor 79 = .ok (.invokevirtual 75, 3) := by decide +kernel
theorem dX6_placeFor_82 : decode cX6_placeFor 82 = .ok (.istore 11, 2) := by decide +kernel
theorem dX6_placeFor_84 : decode cX6_placeFor 84 = .ok (.aload_n 0, 1) := by decide +kernel
theorem dX6_placeFor_85 : decode cX6_placeFor 85 = .ok (.getfield 21, 3) := by decide +kernel
theorem dX6_placeFor_88 : decode cX6_placeFor 88 = .ok (.iload 8, 2) := by decide +kernel
theorem dX6_placeFor_90 : decode cX6_placeFor 90 = .ok (.iload 10, 2) := by decide +kernel
theorem dX6_placeFor_92 : decode cX6_placeFor 92 = .ok (.iload 11, 2) := by decide +kernel
theorem dX6_placeFor_94 : decode cX6_placeFor 94 = .ok (.iload_n 3, 1) := by decide +kernel
theorem dX6_placeFor_95 : decode cX6_placeFor 95 = .ok (.iload_n 2, 1) := by decide +kernel
theorem dX6_placeFor_96 : decode cX6_placeFor 96 = .ok (.iload 7, 2) := by decide +kernel
theorem dX6_placeFor_98 : decode cX6_placeFor 98 = .ok (.invokestatic 78, 3) := by decide +kernel
theorem dX6_placeFor_101 : decode cX6_placeFor 101 = .ok (.invokevirtual 81, 3) := by decide +kernel
theorem dX6_placeFor_104 : decode cX6_placeFor 104 = .ok (.istore 9, 2) := by decide +kernel
theorem dX6_placeFor_106 : decode cX6_placeFor 106 = .ok (.iload 5, 2) := by decide +kernel
theorem dX6_placeFor_108 : decode cX6_placeFor 108 = .ok (.ifCond .lt 10, 3) := by decide +kernel
theorem dX6_placeFor_111 : decode cX6_placeFor 111 = .ok (.iload 9, 2) := by decide +kernel
theorem dX6_placeFor_113 : decode cX6_placeFor 113 = .ok (.iload 6, 2) := by decide +kernel
theorem dX6_placeFor_115 : decode cX6_placeFor 115 = .ok (.if_icmp .le 11, 3) := by decide +kernel
theorem dX6_placeFor_118 : decode cX6_placeFor 118 = .ok (.iload 7, 2) := by decide +kernel
theorem dX6_placeFor_120 : decode cX6_placeFor 120 = .ok (.istore 5, 2) := by decide +kernel
theorem dX6_placeFor_122 : decode cX6_placeFor 122 = .ok (.iload 9, 2) := by decide +kernel
theorem dX6_placeFor_124 : decode cX6_placeFor 124 = .ok (.istore 6, 2) := by decide +kernel
theorem dX6_placeFor_126 : decode cX6_placeFor 126 = .ok (.iinc 7 1, 3) := by decide +kernel
theorem dX6_placeFor_129 : decode cX6_placeFor 129 = .ok (.goto (-109), 3) := by decide +kernel
theorem dX6_placeFor_132 : decode cX6_placeFor 132 = .ok (.iload 5, 2) := by decide +kernel
theorem dX6_placeFor_134 : decode cX6_placeFor 134 = .ok (.ireturn, 1) := by decide +kernel
theorem dX6_write_0 : decode cX6_write 0 = .ok (.aload_n 0, 1) := by decide +kernel
theorem dX6_write_1 : decode cX6_write 1 = .ok (.aload_n 1, 1) := by decide +kernel
theorem dX6_write_2 : decode cX6_write 2 = .ok (.iload_n 2, 1) := by decide +kernel
theorem dX6_write_3 : decode cX6_write 3 = .ok (.iload_n 3, 1) := by decide +kernel
theorem dX6_write_4 : decode cX6_write 4 = .ok (.invokevirtual 85, 3) := by decide +kernel
theorem dX6_write_7 : decode cX6_write 7 = .ok (.istore 4, 2) := by decide +kernel
theorem dX6_write_9 : decode cX6_write 9 = .ok (.iload 4, 2) := by decide +kernel
theorem dX6_write_11 : decode cX6_write 11 = .ok (.ifCond .lt 11, 3) := by decide +kernel
theorem dX6_write_14 : decode cX6_write 14 = .ok (.aload_n 1, 1) := by decide +kernel
theorem dX6_write_15 : decode cX6_write 15 = .ok (.iload 4, 2) := by decide +kernel
theorem dX6_write_17 : decode cX6_write 17 = .ok (.iload_n 2, 1) := by decide +kernel
theorem dX6_write_18 : decode cX6_write 18 = .ok (.iload_n 3, 1) := by decide +kernel
theorem dX6_write_19 : decode cX6_write 19 = .ok (.invokevirtual 89, 3) := by decide +kernel
theorem dX6_write_22 : decode cX6_write 22 = .ok (.iload 4, 2) := by decide +kernel
theorem dX6_write_24 : decode cX6_write 24 = .ok (.ireturn, 1) := by decide +kernel
theorem dX6_isSale_0 : decode cX6_isSale 0 = .ok (.aload_n 0, 1) := by decide +kernel
theorem dX6_isSale_1 : decode cX6_isSale 1 = .ok (.getfield 32, 3) := by decide +kernel
theorem dX6_isSale_4 : decode cX6_isSale 4 = .ok (.iload_n 1, 1) := by decide +kernel
theorem dX6_isSale_5 : decode cX6_isSale 5 = .ok (.invokevirtual 93, 3) := by decide +kernel
theorem dX6_isSale_8 : decode cX6_isSale 8 = .ok (.ifCond .eq 14, 3) := by decide +kernel
theorem dX6_isSale_11 : decode cX6_isSale 11 = .ok (.iload_n 2, 1) := by decide +kernel
theorem dX6_isSale_12 : decode cX6_isSale 12 = .ok (.invokestatic 96, 3) := by decide +kernel
theorem dX6_isSale_15 : decode cX6_isSale 15 = .ok (.ifCond .eq 7, 3) := by decide +kernel
theorem dX6_isSale_18 : decode cX6_isSale 18 = .ok (.iconst 1, 1) := by decide +kernel
theorem dX6_isSale_19 : decode cX6_isSale 19 = .ok (.goto 4, 3) := by decide +kernel
theorem dX6_isSale_22 : decode cX6_isSale 22 = .ok (.iconst 0, 1) := by decide +kernel
theorem dX6_isSale_23 : decode cX6_isSale 23 = .ok (.ireturn, 1) := by decide +kernel
theorem dX7_init_0 : decode cX7_init 0 = .ok (.aload_n 0, 1) := by decide +kernel
theorem dX7_init_1 : decode cX7_init 1 = .ok (.invokespecial 3, 3) := by decide +kernel
theorem dX7_init_4 : decode cX7_init 4 = .ok (.aload_n 0, 1) := by decide +kernel
theorem dX7_init_5 : decode cX7_init 5 = .ok (.bipush 8, 2) := by decide +kernel
theorem dX7_init_7 : decode cX7_init 7 = .ok (.newarray .int, 2) := by decide +kernel
theorem dX7_init_9 : decode cX7_init 9 = .ok (.putfield 11, 3) := by decide +kernel
theorem dX7_init_12 : decode cX7_init 12 = .ok (.aload_n 0, 1) := by decide +kernel
theorem dX7_init_13 : decode cX7_init 13 = .ok (.iconst 0, 1) := by decide +kernel
theorem dX7_init_14 : decode cX7_init 14 = .ok (.putfield 15, 3) := by decide +kernel
theorem dX7_init_17 : decode cX7_init 17 = .ok (.aload_n 0, 1) := by decide +kernel
theorem dX7_init_18 : decode cX7_init 18 = .ok (.bipush 40, 2) := by decide +kernel
theorem dX7_init_20 : decode cX7_init 20 = .ok (.newarray .int, 2) := by decide +kernel
theorem dX7_init_22 : decode cX7_init 22 = .ok (.putfield 19, 3) := by decide +kernel
theorem dX7_init_25 : decode cX7_init 25 = .ok (.aload_n 0, 1) := by decide +kernel
theorem dX7_init_26 : decode cX7_init 26 = .ok (.bipush 40, 2) := by decide +kernel
theorem dX7_init_28 : decode cX7_init 28 = .ok (.newarray .int, 2) := by decide +kernel
theorem dX7_init_30 : decode cX7_init 30 = .ok (.putfield 22, 3) := by decide +kernel
theorem dX7_init_33 : decode cX7_init 33 = .ok (.aload_n 0, 1) := by decide +kernel
theorem dX7_init_34 : decode cX7_init 34 = .ok (.bipush 40, 2) := by decide +kernel
theorem dX7_init_36 : decode cX7_init 36 = .ok (.newarray .int, 2) := by decide +kernel
theorem dX7_init_38 : decode cX7_init 38 = .ok (.putfield 25, 3) := by decide +kernel
theorem dX7_init_41 : decode cX7_init 41 = .ok (.aload_n 0, 1) := by decide +kernel
theorem dX7_init_42 : decode cX7_init 42 = .ok (.iconst 0, 1) := by decide +kernel
theorem dX7_init_43 : decode cX7_init 43 = .ok (.putfield 28, 3) := by decide +kernel
theorem dX7_init_46 : decode cX7_init 46 = .ok (.aload_n 0, 1) := by decide +kernel
theorem dX7_init_47 : decode cX7_init 47 = .ok (.iconst 0, 1) := by decide +kernel
theorem dX7_init_48 : decode cX7_init 48 = .ok (.putfield 31, 3) := by decide +kernel
theorem dX7_init_51 : decode cX7_init 51 = .ok (.aload_n 0, 1) := by decide +kernel
theorem dX7_init_52 : decode cX7_init 52 = .ok (.getfield 11, 3) := by decide +kernel
theorem dX7_init_55 : decode cX7_init 55 = .ok (.iconst 0, 1) := by decide +kernel
theorem dX7_init_56 : decode cX7_init 56 = .ok (.iconst 1, 1) := by decide +kernel
theorem dX7_init_57 : decode cX7_init 57 = .ok (.invokestatic 34, 3) := by decide +kernel
theorem dX7_init_60 : decode cX7_init 60 = .ok (.bipush 6, 2) := by decide +kernel
theorem dX7_init_62 : decode cX7_init 62 = .ok (.iastore, 1) := by decide +kernel
theorem dX7_init_63 : decode cX7_init 63 = .ok (.aload_n 0, 1) := by decide +kernel
theorem dX7_init_64 : decode cX7_init 64 = .ok (.getfield 11, 3) := by decide +kernel
theorem dX7_init_67 : decode cX7_init 67 = .ok (.iconst 0, 1) := by decide +kernel
theorem dX7_init_68 : decode cX7_init 68 = .ok (.iconst 2, 1) := by decide +kernel
theorem dX7_init_69 : decode cX7_init 69 = .ok (.invokestatic 34, 3) := by decide +kernel
theorem dX7_init_72 : decode cX7_init 72 = .ok (.iconst 1, 1) := by decide +kernel
theorem dX7_init_73 : decode cX7_init 73 = .ok (.iastore, 1) := by decide +kernel
theorem dX7_init_74 : decode cX7_init 74 = .ok (.return_, 1) := by decide +kernel
theorem dX7_placeOf_0 : decode cX7_placeOf 0 = .ok (.iload_n 1, 1) := by decide +kernel
theorem dX7_placeOf_1 : decode cX7_placeOf 1 = .ok (.ifCond .ne 7, 3) := by decide +kernel
theorem dX7_placeOf_4 : decode cX7_placeOf 4 = .ok (.iload_n 0, 1) := by decide +kernel
theorem dX7_placeOf_5 : decode cX7_placeOf 5 = .ok (.goto 6, 3) := by decide +kernel
theorem dX7_placeOf_8 : decode cX7_placeOf 8 = .ok (.iconst 5, 1) := by decide +kernel
theorem dX7_placeOf_9 : decode cX7_placeOf 9 = .ok (.iload_n 1, 1) := by decide +kernel
theorem dX7_placeOf_10 : decode cX7_placeOf 10 = .ok (.iadd, 1) := by decide +kernel
theorem dX7_placeOf_11 : decode cX7_placeOf 11 = .ok (.ireturn, 1) := by decide +kernel
theorem dX7_isAccount_0 : decode cX7_isAccount 0 = .ok (.iload_n 1, 1) := by decide +kernel
theorem dX7_isAccount_1 : decode cX7_isAccount 1 = .ok (.ifCond .lt 15, 3) := by decide +kernel
theorem dX7_isAccount_4 : decode cX7_isAccount 4 = .ok (.iload_n 1, 1) := by decide +kernel
theorem dX7_isAccount_5 : decode cX7_isAccount 5 = .ok (.aload_n 0, 1) := by decide +kernel
theorem dX7_isAccount_6 : decode cX7_isAccount 6 = .ok (.getfield 15, 3) := by decide +kernel
theorem dX7_isAccount_9 : decode cX7_isAccount 9 = .ok (.if_icmp .ge 7, 3) := by decide +kernel
theorem dX7_isAccount_12 : decode cX7_isAccount 12 = .ok (.iconst 1, 1) := by decide +kernel
theorem dX7_isAccount_13 : decode cX7_isAccount 13 = .ok (.goto 4, 3) := by decide +kernel
theorem dX7_isAccount_16 : decode cX7_isAccount 16 = .ok (.iconst 0, 1) := by decide +kernel
theorem dX7_isAccount_17 : decode cX7_isAccount 17 = .ok (.ireturn, 1) := by decide +kernel
theorem dX7_accountCount_0 : decode cX7_accountCount 0 = .ok (.aload_n 0, 1) := by decide +kernel
theorem dX7_accountCount_1 : decode cX7_accountCount 1 = .ok (.getfield 15, 3) := by decide +kernel
theorem dX7_accountCount_4 : decode cX7_accountCount 4 = .ok (.ireturn, 1) := by decide +kernel
theorem dX7_addAccount_0 : decode cX7_addAccount 0 = .ok (.aload_n 0, 1) := by decide +kernel
theorem dX7_addAccount_1 : decode cX7_addAccount 1 = .ok (.getfield 15, 3) := by decide +kernel
theorem dX7_addAccount_4 : decode cX7_addAccount 4 = .ok (.bipush 6, 2) := by decide +kernel
theorem dX7_addAccount_6 : decode cX7_addAccount 6 = .ok (.if_icmp .lt 6, 3) := by decide +kernel
theorem dX7_addAccount_9 : decode cX7_addAccount 9 = .ok (.bipush (-3), 2) := by decide +kernel
theorem dX7_addAccount_11 : decode cX7_addAccount 11 = .ok (.ireturn, 1) := by decide +kernel
theorem dX7_addAccount_12 : decode cX7_addAccount 12 = .ok (.aload_n 0, 1) := by decide +kernel
theorem dX7_addAccount_13 : decode cX7_addAccount 13 = .ok (.getfield 11, 3) := by decide +kernel
theorem dX7_addAccount_16 : decode cX7_addAccount 16 = .ok (.aload_n 0, 1) := by decide +kernel
theorem dX7_addAccount_17 : decode cX7_addAccount 17 = .ok (.getfield 15, 3) := by decide +kernel
theorem dX7_addAccount_20 : decode cX7_addAccount 20 = .ok (.iload_n 1, 1) := by decide +kernel
theorem dX7_addAccount_21 : decode cX7_addAccount 21 = .ok (.iastore, 1) := by decide +kernel
theorem dX7_addAccount_22 : decode cX7_addAccount 22 = .ok (.aload_n 0, 1) := by decide +kernel
theorem dX7_addAccount_23 : decode cX7_addAccount 23 = .ok (.dup, 1) := by decide +kernel
theorem dX7_addAccount_24 : decode cX7_addAccount 24 = .ok (.getfield 15, 3) := by decide +kernel
theorem dX7_addAccount_27 : decode cX7_addAccount 27 = .ok (.iconst 1, 1) := by decide +kernel
theorem dX7_addAccount_28 : decode cX7_addAccount 28 = .ok (.iadd, 1) := by decide +kernel
theorem dX7_addAccount_29 : decode cX7_addAccount 29 = .ok (.putfield 15, 3) := by decide +kernel
theorem dX7_addAccount_32 : decode cX7_addAccount 32 = .ok (.aload_n 0, 1) := by decide +kernel
theorem dX7_addAccount_33 : decode cX7_addAccount 33 = .ok (.getfield 15, 3) := by decide +kernel
theorem dX7_addAccount_36 : decode cX7_addAccount 36 = .ok (.iconst 1, 1) := by decide +kernel
theorem dX7_addAccount_37 : decode cX7_addAccount 37 = .ok (.isub, 1) := by decide +kernel
theorem dX7_addAccount_38 : decode cX7_addAccount 38 = .ok (.ireturn, 1) := by decide +kernel
theorem dX7_isThere_0 : decode cX7_isThere 0 = .ok (.iload_n 2, 1) := by decide +kernel
theorem dX7_isThere_1 : decode cX7_isThere 1 = .ok (.ifCond .ne 11, 3) := by decide +kernel
theorem dX7_isThere_4 : decode cX7_isThere 4 = .ok (.aload_n 0, 1) := by decide +kernel
theorem dX7_isThere_5 : decode cX7_isThere 5 = .ok (.iload_n 1, 1) := by decide +kernel
theorem dX7_isThere_6 : decode cX7_isThere 6 = .ok (.invokevirtual 38, 3) := by decide +kernel
theorem dX7_isThere_9 : decode cX7_isThere 9 = .ok (.goto 22, 3) := by decide +kernel
theorem dX7_isThere_12 : decode cX7_isThere 12 = .ok (.iload_n 2, 1) := by decide +kernel
theorem dX7_isThere_13 : decode cX7_isThere 13 = .ok (.iconst 1, 1) := by decide +kernel
theorem dX7_isThere_14 : decode cX7_isThere 14 = .ok (.if_icmp .eq 8, 3) := by decide +kernel
theorem dX7_isThere_17 : decode cX7_isThere 17 = .ok (.iload_n 2, 1) := by decide +kernel
theorem dX7_isThere_18 : decode cX7_isThere 18 = .ok (.iconst 2, 1) := by decide +kernel
theorem dX7_isThere_19 : decode cX7_isThere 19 = .ok (.if_icmp .ne 11, 3) := by decide +kernel
theorem dX7_isThere_22 : decode cX7_isThere 22 = .ok (.iload_n 1, 1) := by decide +kernel
theorem dX7_isThere_23 : decode cX7_isThere 23 = .ok (.ifCond .ne 7, 3) := by decide +kernel
theorem dX7_isThere_26 : decode cX7_isThere 26 = .ok (.iconst 1, 1) := by decide +kernel
theorem dX7_isThere_27 : decode cX7_isThere 27 = .ok (.goto 4, 3) := by decide +kernel
theorem dX7_isThere_30 : decode cX7_isThere 30 = .ok (.iconst 0, 1) := by decide +kernel
theorem dX7_isThere_31 : decode cX7_isThere 31 = .ok (.ireturn, 1) := by decide +kernel
theorem dX7_mayBe_0 : decode cX7_mayBe 0 = .ok (.iload_n 0, 1) := by decide +kernel
theorem dX7_mayBe_1 : decode cX7_mayBe 1 = .ok (.ifCond .ne 8, 3) := by decide +kernel
theorem dX7_mayBe_4 : decode cX7_mayBe 4 = .ok (.bipush 48, 2) := by decide +kernel
theorem dX7_mayBe_6 : decode cX7_mayBe 6 = .ok (.goto 15, 3) := by decide +kernel
theorem dX7_mayBe_9 : decode cX7_mayBe 9 = .ok (.iload_n 0, 1) := by decide +kernel
theorem dX7_mayBe_10 : decode cX7_mayBe 10 = .ok (.iconst 1, 1) := by decide +kernel
theorem dX7_mayBe_11 : decode cX7_mayBe 11 = .ok (.if_icmp .ne 8, 3) := by decide +kernel
theorem dX7_mayBe_14 : decode cX7_mayBe 14 = .ok (.bipush 12, 2) := by decide +kernel
theorem dX7_mayBe_16 : decode cX7_mayBe 16 = .ok (.goto 5, 3) := by decide +kernel
theorem dX7_mayBe_19 : decode cX7_mayBe 19 = .ok (.bipush 6, 2) := by decide +kernel
theorem dX7_mayBe_21 : decode cX7_mayBe 21 = .ok (.istore_n 2, 1) := by decide +kernel
theorem dX7_mayBe_22 : decode cX7_mayBe 22 = .ok (.iload_n 1, 1) := by decide +kernel
theorem dX7_mayBe_23 : decode cX7_mayBe 23 = .ok (.ifCond .lt 12, 3) := by decide +kernel
theorem dX7_mayBe_26 : decode cX7_mayBe 26 = .ok (.iload_n 1, 1) := by decide +kernel
theorem dX7_mayBe_27 : decode cX7_mayBe 27 = .ok (.iload_n 2, 1) := by decide +kernel
theorem dX7_mayBe_28 : decode cX7_mayBe 28 = .ok (.if_icmp .gt 7, 3) := by decide +kernel
theorem dX7_mayBe_31 : decode cX7_mayBe 31 = .ok (.iconst 1, 1) := by decide +kernel
theorem dX7_mayBe_32 : decode cX7_mayBe 32 = .ok (.goto 4, 3) := by decide +kernel
theorem dX7_mayBe_35 : decode cX7_mayBe 35 = .ok (.iconst 0, 1) := by decide +kernel
theorem dX7_mayBe_36 : decode cX7_mayBe 36 = .ok (.ireturn, 1) := by decide +kernel
theorem dX7_valueOf_0 : decode cX7_valueOf 0 = .ok (.aload_n 0, 1) := by decide +kernel
theorem dX7_valueOf_1 : decode cX7_valueOf 1 = .ok (.iload_n 1, 1) := by decide +kernel
theorem dX7_valueOf_2 : decode cX7_valueOf 2 = .ok (.iload_n 2, 1) := by decide +kernel
theorem dX7_valueOf_3 : decode cX7_valueOf 3 = .ok (.invokevirtual 42, 3) := by decide +kernel
theorem dX7_valueOf_6 : decode cX7_valueOf 6 = .ok (.ifCond .eq 16, 3) := by decide +kernel
theorem dX7_valueOf_9 : decode cX7_valueOf 9 = .ok (.aload_n 0, 1) := by decide +kernel
theorem dX7_valueOf_10 : decode cX7_valueOf 10 = .ok (.getfield 11, 3) := by decide +kernel
theorem dX7_valueOf_13 : decode cX7_valueOf 13 = .ok (.iload_n 1, 1) := by decide +kernel
theorem dX7_valueOf_14 : decode cX7_valueOf 14 = .ok (.iload_n 2, 1) := by decide +kernel
theorem dX7_valueOf_15 : decode cX7_valueOf 15 = .ok (.invokestatic 34, 3) := by decide +kernel
theorem dX7_valueOf_18 : decode cX7_valueOf 18 = .ok (.iaload, 1) := by decide +kernel
theorem dX7_valueOf_19 : decode cX7_valueOf 19 = .ok (.goto 4, 3) := by decide +kernel
theorem dX7_valueOf_22 : decode cX7_valueOf 22 = .ok (.iconst (-1), 1) := by decide +kernel
theorem dX7_valueOf_23 : decode cX7_valueOf 23 = .ok (.ireturn, 1) := by decide +kernel
theorem dX7_doorOf_0 : decode cX7_doorOf 0 = .ok (.aload_n 0, 1) := by decide +kernel
theorem dX7_doorOf_1 : decode cX7_doorOf 1 = .ok (.iload_n 1, 1) := by decide +kernel
theorem dX7_doorOf_2 : decode cX7_doorOf 2 = .ok (.invokevirtual 38, 3) := by decide +kernel
theorem dX7_doorOf_5 : decode cX7_doorOf 5 = .ok (.ifCond .eq 12, 3) := by decide +kernel
theorem dX7_doorOf_8 : decode cX7_doorOf 8 = .ok (.aload_n 0, 1) := by decide +kernel
theorem dX7_doorOf_9 : decode cX7_doorOf 9 = .ok (.getfield 11, 3) := by decide +kernel
theorem dX7_doorOf_12 : decode cX7_doorOf 12 = .ok (.iload_n 1, 1) := by decide +kernel
theorem dX7_doorOf_13 : decode cX7_doorOf 13 = .ok (.iaload, 1) := by decide +kernel
theorem dX7_doorOf_14 : decode cX7_doorOf 14 = .ok (.goto 5, 3) := by decide +kernel
theorem dX7_doorOf_17 : decode cX7_doorOf 17 = .ok (.bipush (-2), 2) := by decide +kernel
theorem dX7_doorOf_19 : decode cX7_doorOf 19 = .ok (.ireturn, 1) := by decide +kernel
theorem dX7_guards_0 : decode cX7_guards 0 = .ok (.aload_n 0, 1) := by decide +kernel
theorem dX7_guards_1 : decode cX7_guards 1 = .ok (.iconst 0, 1) := by decide +kernel
theorem dX7_guards_2 : decode cX7_guards 2 = .ok (.iconst 1, 1) := by decide +kernel
theorem dX7_guards_3 : decode cX7_guards 3 = .ok (.invokevirtual 46, 3) := by decide +kernel
theorem dX7_guards_6 : decode cX7_guards 6 = .ok (.ireturn, 1) := by decide +kernel
theorem dX7_flip_0 : decode cX7_flip 0 = .ok (.aload_n 0, 1) := by decide +kernel
theorem dX7_flip_1 : decode cX7_flip 1 = .ok (.iconst 0, 1) := by decide +kernel
theorem dX7_flip_2 : decode cX7_flip 2 = .ok (.iconst 2, 1) := by decide +kernel
theorem dX7_flip_3 : decode cX7_flip 3 = .ok (.invokevirtual 46, 3) := by decide +kernel
theorem dX7_flip_6 : decode cX7_flip 6 = .ok (.ireturn, 1) := by decide +kernel
theorem dX7_change_0 : decode cX7_change 0 = .ok (.aload_n 0, 1) := by decide +kernel
theorem dX7_change_1 : decode cX7_change 1 = .ok (.iload_n 1, 1) := by decide +kernel
theorem dX7_change_2 : decode cX7_change 2 = .ok (.iload_n 2, 1) := by decide +kernel
theorem dX7_change_3 : decode cX7_change 3 = .ok (.invokevirtual 46, 3) := by decide +kernel
theorem dX7_change_6 : decode cX7_change 6 = .ok (.istore 4, 2) := by decide +kernel
theorem dX7_change_8 : decode cX7_change 8 = .ok (.aload_n 0, 1) := by decide +kernel
theorem dX7_change_9 : decode cX7_change 9 = .ok (.iload_n 1, 1) := by decide +kernel
theorem dX7_change_10 : decode cX7_change 10 = .ok (.iload_n 2, 1) := by decide +kernel
theorem dX7_change_11 : decode cX7_change 11 = .ok (.invokevirtual 42, 3) := by decide +kernel
theorem dX7_change_14 : decode cX7_change 14 = .ok (.ifCond .eq 32, 3) := by decide +kernel
theorem dX7_change_17 : decode cX7_change 17 = .ok (.iload 4, 2) := by decide +kernel
theorem dX7_change_19 : decode cX7_change 19 = .ok (.iload_n 3, 1) := by decide +kernel
theorem dX7_change_20 : decode cX7_change 20 = .ok (.if_icmp .eq 26, 3) := by decide +kernel
theorem dX7_change_23 : decode cX7_change 23 = .ok (.aload_n 0, 1) := by decide +kernel
theorem dX7_change_24 : decode cX7_change 24 = .ok (.iload_n 1, 1) := by decide +kernel
theorem dX7_change_25 : decode cX7_change 25 = .ok (.iload_n 2, 1) := by decide +kernel
theorem dX7_change_26 : decode cX7_change 26 = .ok (.invokestatic 34, 3) := by decide +kernel
theorem dX7_change_29 : decode cX7_change 29 = .ok (.iload 4, 2) := by decide +kernel
theorem dX7_change_31 : decode cX7_change 31 = .ok (.iload_n 3, 1) := by decide +kernel
theorem dX7_change_32 : decode cX7_change 32 = .ok (.invokevirtual 49, 3) := by decide +kernel
theorem dX7_change_35 : decode cX7_change 35 = .ok (.aload_n 0, 1) := by decide +kernel
theorem dX7_change_36 : decode cX7_change 36 = .ok (.getfield 11, 3) := by decide +kernel
theorem dX7_change_39 : decode cX7_change 39 = .ok (.iload_n 1, 1) := by decide +kernel
theorem dX7_change_40 : decode cX7_change 40 = .ok (.iload_n 2, 1) := by decide +kernel
theorem dX7_change_41 : decode cX7_change 41 = .ok (.invokestatic 34, 3) := by decide +kernel
theorem dX7_change_44 : decode cX7_change 44 = .ok (.iload_n 3, 1) := by decide +kernel
theorem dX7_change_45 : decode cX7_change 45 = .ok (.iastore, 1) := by decide +kernel
theorem dX7_change_46 : decode cX7_change 46 = .ok (.iload 4, 2) := by decide +kernel
theorem dX7_change_48 : decode cX7_change 48 = .ok (.ireturn, 1) := by decide +kernel
theorem dX7_remember_0 : decode cX7_remember 0 = .ok (.aload_n 0, 1) := by decide +kernel
theorem dX7_remember_1 : decode cX7_remember 1 = .ok (.getfield 28, 3) := by decide +kernel
theorem dX7_remember_4 : decode cX7_remember 4 = .ok (.bipush 40, 2) := by decide +kernel
theorem dX7_remember_6 : decode cX7_remember 6 = .ok (.if_icmp .lt 54, 3) := by decide +kernel
theorem dX7_remember_9 : decode cX7_remember 9 = .ok (.aload_n 0, 1) := by decide +kernel
theorem dX7_remember_10 : decode cX7_remember 10 = .ok (.getfield 19, 3) := by decide +kernel
theorem dX7_remember_13 : decode cX7_remember 13 = .ok (.iconst 1, 1) := by decide +kernel
theorem dX7_remember_14 : decode cX7_remember 14 = .ok (.aload_n 0, 1) := by decide +kernel
theorem dX7_remember_15 : decode cX7_remember 15 = .ok (.getfield 19, 3) := by decide +kernel
theorem dX7_remember_18 : decode cX7_remember 18 = .ok (.iconst 0, 1) := by decide +kernel
theorem dX7_remember_19 : decode cX7_remember 19 = .ok (.bipush 39, 2) := by decide +kernel
theorem dX7_remember_21 : decode cX7_remember 21 = .ok (.invokestatic 53, 3) := by decide +kernel
theorem dX7_remember_24 : decode cX7_remember 24 = .ok (.aload_n 0, 1) := by decide +kernel
theorem dX7_remember_25 : decode cX7_remember 25 = .ok (.getfield 22, 3) := by decide +kernel
theorem dX7_remember_28 : decode cX7_remember 28 = .ok (.iconst 1, 1) := by decide +kernel
theorem dX7_remember_29 : decode cX7_remember 29 = .ok (.aload_n 0, 1) := by decide +kernel
theorem dX7_remember_30 : decode cX7_remember 30 = .ok (.getfield 22, 3) := by decide +kernel
theorem dX7_remember_33 : decode cX7_remember 33 = .ok (.iconst 0, 1) := by decide +kernel
theorem dX7_remember_34 : decode cX7_remember 34 = .ok (.bipush 39, 2) := by decide +kernel
theorem dX7_remember_36 : decode cX7_remember 36 = .ok (.invokestatic 53, 3) := by decide +kernel
theorem dX7_remember_39 : decode cX7_remember 39 = .ok (.aload_n 0, 1) := by decide +kernel
theorem dX7_remember_40 : decode cX7_remember 40 = .ok (.getfield 25, 3) := by decide +kernel
theorem dX7_remember_43 : decode cX7_remember 43 = .ok (.iconst 1, 1) := by decide +kernel
theorem dX7_remember_44 : decode cX7_remember 44 = .ok (.aload_n 0, 1) := by decide +kernel
theorem dX7_remember_45 : decode cX7_remember 45 = .ok (.getfield 25, 3) := by decide +kernel
theorem dX7_remember_48 : decode cX7_remember 48 = .ok (.iconst 0, 1) := by decide +kernel
theorem dX7_remember_49 : decode cX7_remember 49 = .ok (.bipush 39, 2) := by decide +kernel
theorem dX7_remember_51 : decode cX7_remember 51 = .ok (.invokestatic 53, 3) := by decide +kernel
theorem dX7_remember_54 : decode cX7_remember 54 = .ok (.aload_n 0, 1) := by decide +kernel
theorem dX7_remember_55 : decode cX7_remember 55 = .ok (.bipush 39, 2) := by decide +kernel
theorem dX7_remember_57 : decode cX7_remember 57 = .ok (.putfield 28, 3) := by decide +kernel
theorem dX7_remember_60 : decode cX7_remember 60 = .ok (.aload_n 0, 1) := by decide +kernel
theorem dX7_remember_61 : decode cX7_remember 61 = .ok (.getfield 19, 3) := by decide +kernel
theorem dX7_remember_64 : decode cX7_remember 64 = .ok (.aload_n 0, 1) := by decide +kernel
theorem dX7_remember_65 : decode cX7_remember 65 = .ok (.getfield 28, 3) := by decide +kernel
theorem dX7_remember_68 : decode cX7_remember 68 = .ok (.iload_n 1, 1) := by decide +kernel
theorem dX7_remember_69 : decode cX7_remember 69 = .ok (.iastore, 1) := by decide +kernel
theorem dX7_remember_70 : decode cX7_remember 70 = .ok (.aload_n 0, 1) := by decide +kernel
theorem dX7_remember_71 : decode cX7_remember 71 = .ok (.getfield 22, 3) := by decide +kernel
theorem dX7_remember_74 : decode cX7_remember 74 = .ok (.aload_n 0, 1) := by decide +kernel
theorem dX7_remember_75 : decode cX7_remember 75 = .ok (.getfield 28, 3) := by decide +kernel
theorem dX7_remember_78 : decode cX7_remember 78 = .ok (.iload_n 2, 1) := by decide +kernel
theorem dX7_remember_79 : decode cX7_remember 79 = .ok (.iastore, 1) := by decide +kernel
theorem dX7_remember_80 : decode cX7_remember 80 = .ok (.aload_n 0, 1) := by decide +kernel
theorem dX7_remember_81 : decode cX7_remember 81 = .ok (.getfield 25, 3) := by decide +kernel
theorem dX7_remember_84 : decode cX7_remember 84 = .ok (.aload_n 0, 1) := by decide +kernel
theorem dX7_remember_85 : decode cX7_remember 85 = .ok (.getfield 28, 3) := by decide +kernel
theorem dX7_remember_88 : decode cX7_remember 88 = .ok (.iload_n 3, 1) := by decide +kernel
theorem dX7_remember_89 : decode cX7_remember 89 = .ok (.iastore, 1) := by decide +kernel
theorem dX7_remember_90 : decode cX7_remember 90 = .ok (.aload_n 0, 1) := by decide +kernel
theorem dX7_remember_91 : decode cX7_remember 91 = .ok (.dup, 1) := by decide +kernel
theorem dX7_remember_92 : decode cX7_remember 92 = .ok (.getfield 28, 3) := by decide +kernel
theorem dX7_remember_95 : decode cX7_remember 95 = .ok (.iconst 1, 1) := by decide +kernel
theorem dX7_remember_96 : decode cX7_remember 96 = .ok (.iadd, 1) := by decide +kernel
theorem dX7_remember_97 : decode cX7_remember 97 = .ok (.putfield 28, 3) := by decide +kernel
theorem dX7_remember_100 : decode cX7_remember 100 = .ok (.aload_n 0, 1) := by decide +kernel
theorem dX7_remember_101 : decode cX7_remember 101 = .ok (.aload_n 0, 1) := by decide +kernel
theorem dX7_remember_102 : decode cX7_remember 102 = .ok (.getfield 28, 3) := by decide +kernel
theorem dX7_remember_105 : decode cX7_remember 105 = .ok (.putfield 31, 3) := by decide +kernel
theorem dX7_remember_108 : decode cX7_remember 108 = .ok (.return_, 1) := by decide +kernel
theorem dX7_undoable_0 : decode cX7_undoable 0 = .ok (.aload_n 0, 1) := by decide +kernel
theorem dX7_undoable_1 : decode cX7_undoable 1 = .ok (.getfield 28, 3) := by decide +kernel
theorem dX7_undoable_4 : decode cX7_undoable 4 = .ok (.ireturn, 1) := by decide +kernel
theorem dX7_takeBack_0 : decode cX7_takeBack 0 = .ok (.aload_n 0, 1) := by decide +kernel
theorem dX7_takeBack_1 : decode cX7_takeBack 1 = .ok (.getfield 28, 3) := by decide +kernel
theorem dX7_takeBack_4 : decode cX7_takeBack 4 = .ok (.ifCond .gt 6, 3) := by decide +kernel
theorem dX7_takeBack_7 : decode cX7_takeBack 7 = .ok (.bipush (-5), 2) := by decide +kernel
theorem dX7_takeBack_9 : decode cX7_takeBack 9 = .ok (.ireturn, 1) := by decide +kernel
theorem dX7_takeBack_10 : decode cX7_takeBack 10 = .ok (.aload_n 0, 1) := by decide +kernel
theorem dX7_takeBack_11 : decode cX7_takeBack 11 = .ok (.dup, 1) := by decide +kernel
theorem dX7_takeBack_12 : decode cX7_takeBack 12 = .ok (.getfield 28, 3) := by decide +kernel
theorem dX7_takeBack_15 : decode cX7_takeBack 15 = .ok (.iconst 1, 1) := by decide +kernel
theorem dX7_takeBack_16 : decode cX7_takeBack 16 = .ok (.isub, 1) := by decide +kernel
theorem dX7_takeBack_17 : decode cX7_takeBack 17 = .ok (.putfield 28, 3) := by decide +kernel
theorem dX7_takeBack_20 : decode cX7_takeBack 20 = .ok (.aload_n 0, 1) := by decide +kernel
theorem dX7_takeBack_21 : decode cX7_takeBack 21 = .ok (.getfield 11, 3) := by decide +kernel
theorem dX7_takeBack_24 : decode cX7_takeBack 24 = .ok (.aload_n 0, 1) := by decide +kernel
theorem dX7_takeBack_25 : decode cX7_takeBack 25 = .ok (.getfield 19, 3) := by decide +kernel
theorem dX7_takeBack_28 : decode cX7_takeBack 28 = .ok (.aload_n 0, 1) := by decide +kernel
theorem dX7_takeBack_29 : decode cX7_takeBack 29 = .ok (.getfield 28, 3) := by decide +kernel
theorem dX7_takeBack_32 : decode cX7_takeBack 32 = .ok (.iaload, 1) := by decide +kernel
theorem dX7_takeBack_33 : decode cX7_takeBack 33 = .ok (.aload_n 0, 1) := by decide +kernel
theorem dX7_takeBack_34 : decode cX7_takeBack 34 = .ok (.getfield 22, 3) := by decide +kernel
theorem dX7_takeBack_37 : decode cX7_takeBack 37 = .ok (.aload_n 0, 1) := by decide +kernel
theorem dX7_takeBack_38 : decode cX7_takeBack 38 = .ok (.getfield 28, 3) := by decide +kernel
theorem dX7_takeBack_41 : decode cX7_takeBack 41 = .ok (.iaload, 1) := by decide +kernel
theorem dX7_takeBack_42 : decode cX7_takeBack 42 = .ok (.iastore, 1) := by decide +kernel
theorem dX7_takeBack_43 : decode cX7_takeBack 43 = .ok (.aload_n 0, 1) := by decide +kernel
theorem dX7_takeBack_44 : decode cX7_takeBack 44 = .ok (.getfield 28, 3) := by decide +kernel
theorem dX7_takeBack_47 : decode cX7_takeBack 47 = .ok (.ireturn, 1) := by decide +kernel
theorem dX7_doAgain_0 : decode cX7_doAgain 0 = .ok (.aload_n 0, 1) := by decide +kernel
theorem dX7_doAgain_1 : decode cX7_doAgain 1 = .ok (.getfield 28, 3) := by decide +kernel
theorem dX7_doAgain_4 : decode cX7_doAgain 4 = .ok (.aload_n 0, 1) := by decide +kernel
theorem dX7_doAgain_5 : decode cX7_doAgain 5 = .ok (.getfield 31, 3) := by decide +kernel
theorem dX7_doAgain_8 : decode cX7_doAgain 8 = .ok (.if_icmp .lt 6, 3) := by decide +kernel
theorem dX7_doAgain_11 : decode cX7_doAgain 11 = .ok (.bipush (-5), 2) := by decide +kernel
theorem dX7_doAgain_13 : decode cX7_doAgain 13 = .ok (.ireturn, 1) := by decide +kernel
theorem dX7_doAgain_14 : decode cX7_doAgain 14 = .ok (.aload_n 0, 1) := by decide +kernel
theorem dX7_doAgain_15 : decode cX7_doAgain 15 = .ok (.getfield 11, 3) := by decide +kernel
theorem dX7_doAgain_18 : decode cX7_doAgain 18 = .ok (.aload_n 0, 1) := by decide +kernel
theorem dX7_doAgain_19 : decode cX7_doAgain 19 = .ok (.getfield 19, 3) := by decide +kernel
theorem dX7_doAgain_22 : decode cX7_doAgain 22 = .ok (.aload_n 0, 1) := by decide +kernel
theorem dX7_doAgain_23 : decode cX7_doAgain 23 = .ok (.getfield 28, 3) := by decide +kernel
theorem dX7_doAgain_26 : decode cX7_doAgain 26 = .ok (.iaload, 1) := by decide +kernel
theorem dX7_doAgain_27 : decode cX7_doAgain 27 = .ok (.aload_n 0, 1) := by decide +kernel
theorem dX7_doAgain_28 : decode cX7_doAgain 28 = .ok (.getfield 25, 3) := by decide +kernel
theorem dX7_doAgain_31 : decode cX7_doAgain 31 = .ok (.aload_n 0, 1) := by decide +kernel
theorem dX7_doAgain_32 : decode cX7_doAgain 32 = .ok (.getfield 28, 3) := by decide +kernel
theorem dX7_doAgain_35 : decode cX7_doAgain 35 = .ok (.iaload, 1) := by decide +kernel
theorem dX7_doAgain_36 : decode cX7_doAgain 36 = .ok (.iastore, 1) := by decide +kernel
theorem dX7_doAgain_37 : decode cX7_doAgain 37 = .ok (.aload_n 0, 1) := by decide +kernel
theorem dX7_doAgain_38 : decode cX7_doAgain 38 = .ok (.dup, 1) := by decide +kernel
theorem dX7_doAgain_39 : decode cX7_doAgain 39 = .ok (.getfield 28, 3) := by decide +kernel
theorem dX7_doAgain_42 : decode cX7_doAgain 42 = .ok (.iconst 1, 1) := by decide +kernel
theorem dX7_doAgain_43 : decode cX7_doAgain 43 = .ok (.iadd, 1) := by decide +kernel
theorem dX7_doAgain_44 : decode cX7_doAgain 44 = .ok (.putfield 28, 3) := by decide +kernel
theorem dX7_doAgain_47 : decode cX7_doAgain 47 = .ok (.aload_n 0, 1) := by decide +kernel
theorem dX7_doAgain_48 : decode cX7_doAgain 48 = .ok (.getfield 31, 3) := by decide +kernel
theorem dX7_doAgain_51 : decode cX7_doAgain 51 = .ok (.aload_n 0, 1) := by decide +kernel
theorem dX7_doAgain_52 : decode cX7_doAgain 52 = .ok (.getfield 28, 3) := by decide +kernel
theorem dX7_doAgain_55 : decode cX7_doAgain 55 = .ok (.isub, 1) := by decide +kernel
theorem dX7_doAgain_56 : decode cX7_doAgain 56 = .ok (.ireturn, 1) := by decide +kernel
theorem dX8_init_0 : decode cX8_init 0 = .ok (.aload_n 0, 1) := by decide +kernel
theorem dX8_init_1 : decode cX8_init 1 = .ok (.invokespecial 3, 3) := by decide +kernel
theorem dX8_init_4 : decode cX8_init 4 = .ok (.aload_n 0, 1) := by decide +kernel
theorem dX8_init_5 : decode cX8_init 5 = .ok (.iconst 0, 1) := by decide +kernel
theorem dX8_init_6 : decode cX8_init 6 = .ok (.putfield 11, 3) := by decide +kernel
theorem dX8_init_9 : decode cX8_init 9 = .ok (.aload_n 0, 1) := by decide +kernel
theorem dX8_init_10 : decode cX8_init 10 = .ok (.bipush (-2), 2) := by decide +kernel
theorem dX8_init_12 : decode cX8_init 12 = .ok (.putfield 15, 3) := by decide +kernel
theorem dX8_init_15 : decode cX8_init 15 = .ok (.aload_n 0, 1) := by decide +kernel
theorem dX8_init_16 : decode cX8_init 16 = .ok (.iconst 0, 1) := by decide +kernel
theorem dX8_init_17 : decode cX8_init 17 = .ok (.putfield 18, 3) := by decide +kernel
theorem dX8_init_20 : decode cX8_init 20 = .ok (.aload_n 0, 1) := by decide +kernel
theorem dX8_init_21 : decode cX8_init 21 = .ok (.iconst 0, 1) := by decide +kernel
theorem dX8_init_22 : decode cX8_init 22 = .ok (.putfield 21, 3) := by decide +kernel
theorem dX8_init_25 : decode cX8_init 25 = .ok (.aload_n 0, 1) := by decide +kernel
theorem dX8_init_26 : decode cX8_init 26 = .ok (.bipush 60, 2) := by decide +kernel
theorem dX8_init_28 : decode cX8_init 28 = .ok (.newarray .long, 2) := by decide +kernel
theorem dX8_init_30 : decode cX8_init 30 = .ok (.putfield 24, 3) := by decide +kernel
theorem dX8_init_33 : decode cX8_init 33 = .ok (.return_, 1) := by decide +kernel
theorem dX8_isSort_0 : decode cX8_isSort 0 = .ok (.iload_n 0, 1) := by decide +kernel
theorem dX8_isSort_1 : decode cX8_isSort 1 = .ok (.ifCond .lt 12, 3) := by decide +kernel
theorem dX8_isSort_4 : decode cX8_isSort 4 = .ok (.iload_n 0, 1) := by decide +kernel
theorem dX8_isSort_5 : decode cX8_isSort 5 = .ok (.iconst 4, 1) := by decide +kernel
theorem dX8_isSort_6 : decode cX8_isSort 6 = .ok (.if_icmp .gt 7, 3) := by decide +kernel
theorem dX8_isSort_9 : decode cX8_isSort 9 = .ok (.iconst 1, 1) := by decide +kernel
theorem dX8_isSort_10 : decode cX8_isSort 10 = .ok (.goto 4, 3) := by decide +kernel
theorem dX8_isSort_13 : decode cX8_isSort 13 = .ok (.iconst 0, 1) := by decide +kernel
theorem dX8_isSort_14 : decode cX8_isSort 14 = .ok (.ireturn, 1) := by decide +kernel
theorem dX8_holdNothing_0 : decode cX8_holdNothing 0 = .ok (.aload_n 0, 1) := by decide +kernel
theorem dX8_holdNothing_1 : decode cX8_holdNothing 1 = .ok (.iconst 0, 1) := by decide +kernel
theorem dX8_holdNothing_2 : decode cX8_holdNothing 2 = .ok (.putfield 11, 3) := by decide +kernel
theorem dX8_holdNothing_5 : decode cX8_holdNothing 5 = .ok (.return_, 1) := by decide +kernel
theorem dX8_holdHive_0 : decode cX8_holdHive 0 = .ok (.aload_n 0, 1) := by decide +kernel
theorem dX8_holdHive_1 : decode cX8_holdHive 1 = .ok (.iconst 1, 1) := by decide +kernel
theorem dX8_holdHive_2 : decode cX8_holdHive 2 = .ok (.putfield 11, 3) := by decide +kernel
theorem dX8_holdHive_5 : decode cX8_holdHive 5 = .ok (.aload_n 0, 1) := by decide +kernel
theorem dX8_holdHive_6 : decode cX8_holdHive 6 = .ok (.iload_n 1, 1) := by decide +kernel
theorem dX8_holdHive_7 : decode cX8_holdHive 7 = .ok (.putfield 15, 3) := by decide +kernel
theorem dX8_holdHive_10 : decode cX8_holdHive 10 = .ok (.return_, 1) := by decide +kernel
theorem dX8_holdRow_0 : decode cX8_holdRow 0 = .ok (.aload_n 0, 1) := by decide +kernel
theorem dX8_holdRow_1 : decode cX8_holdRow 1 = .ok (.iconst 2, 1) := by decide +kernel
theorem dX8_holdRow_2 : decode cX8_holdRow 2 = .ok (.putfield 11, 3) := by decide +kernel
theorem dX8_holdRow_5 : decode cX8_holdRow 5 = .ok (.aload_n 0, 1) := by decide +kernel
theorem dX8_holdRow_6 : decode cX8_holdRow 6 = .ok (.iload_n 1, 1) := by decide +kernel
theorem dX8_holdRow_7 : decode cX8_holdRow 7 = .ok (.putfield 18, 3) := by decide +kernel
theorem dX8_holdRow_10 : decode cX8_holdRow 10 = .ok (.aload_n 0, 1) := by decide +kernel
theorem dX8_holdRow_11 : decode cX8_holdRow 11 = .ok (.iload_n 2, 1) := by decide +kernel
theorem dX8_holdRow_12 : decode cX8_holdRow 12 = .ok (.putfield 21, 3) := by decide +kernel
theorem dX8_holdRow_15 : decode cX8_holdRow 15 = .ok (.aload_n 0, 1) := by decide +kernel
theorem dX8_holdRow_16 : decode cX8_holdRow 16 = .ok (.getfield 24, 3) := by decide +kernel
theorem dX8_holdRow_19 : decode cX8_holdRow 19 = .ok (.lconst 0, 1) := by decide +kernel
theorem dX8_holdRow_20 : decode cX8_holdRow 20 = .ok (.invokestatic 28, 3) := by decide +kernel
theorem dX8_holdRow_23 : decode cX8_holdRow 23 = .ok (.return_, 1) := by decide +kernel
theorem dX8_holdsNothing_0 : decode cX8_holdsNothing 0 = .ok (.aload_n 0, 1) := by decide +kernel
theorem dX8_holdsNothing_1 : decode cX8_holdsNothing 1 = .ok (.getfield 11, 3) := by decide +kernel
theorem dX8_holdsNothing_4 : decode cX8_holdsNothing 4 = .ok (.ifCond .ne 7, 3) := by decide +kernel
theorem dX8_holdsNothing_7 : decode cX8_holdsNothing 7 = .ok (.iconst 1, 1) := by decide +kernel
theorem dX8_holdsNothing_8 : decode cX8_holdsNothing 8 = .ok (.goto 4, 3) := by decide +kernel
theorem dX8_holdsNothing_11 : decode cX8_holdsNothing 11 = .ok (.iconst 0, 1) := by decide +kernel
theorem dX8_holdsNothing_12 : decode cX8_holdsNothing 12 = .ok (.ireturn, 1) := by decide +kernel
theorem dX8_hive_0 : decode cX8_hive 0 = .ok (.aload_n 0, 1) := by decide +kernel
theorem dX8_hive_1 : decode cX8_hive 1 = .ok (.getfield 11, 3) := by decide +kernel
theorem dX8_hive_4 : decode cX8_hive 4 = .ok (.iconst 1, 1) := by decide +kernel
theorem dX8_hive_5 : decode cX8_hive 5 = .ok (.if_icmp .ne 10, 3) := by decide +kernel
theorem dX8_hive_8 : decode cX8_hive 8 = .ok (.aload_n 0, 1) := by decide +kernel
theorem dX8_hive_9 : decode cX8_hive 9 = .ok (.getfield 15, 3) := by decide +kernel
theorem dX8_hive_12 : decode cX8_hive 12 = .ok (.goto 5, 3) := by decide +kernel
theorem dX8_hive_15 : decode cX8_hive 15 = .ok (.bipush (-2), 2) := by decide +kernel
theorem dX8_hive_17 : decode cX8_hive 17 = .ok (.ireturn, 1) := by decide +kernel
theorem dX8_bytesFault_0 : decode cX8_bytesFault 0 = .ok (.aload_n 0, 1) := by decide +kernel
theorem dX8_bytesFault_1 : decode cX8_bytesFault 1 = .ok (.getfield 11, 3) := by decide +kernel
theorem dX8_bytesFault_4 : decode cX8_bytesFault 4 = .ok (.ifCond .ne 8, 3) := by decide +kernel
theorem dX8_bytesFault_7 : decode cX8_bytesFault 7 = .ok (.bipush (-11), 2) := by decide +kernel
theorem dX8_bytesFault_9 : decode cX8_bytesFault 9 = .ok (.goto 24, 3) := by decide +kernel
theorem dX8_bytesFault_12 : decode cX8_bytesFault 12 = .ok (.aload_n 0, 1) := by decide +kernel
theorem dX8_bytesFault_13 : decode cX8_bytesFault 13 = .ok (.getfield 11, 3) := by decide +kernel
theorem dX8_bytesFault_16 : decode cX8_bytesFault 16 = .ok (.iconst 2, 1) := by decide +kernel
theorem dX8_bytesFault_17 : decode cX8_bytesFault 17 = .ok (.if_icmp .ne 14, 3) := by decide +kernel
theorem dX8_bytesFault_20 : decode cX8_bytesFault 20 = .ok (.aload_n 0, 1) := by decide +kernel
theorem dX8_bytesFault_21 : decode cX8_bytesFault 21 = .ok (.getfield 18, 3) := by decide +kernel
theorem dX8_bytesFault_24 : decode cX8_bytesFault 24 = .ok (.ifCond .ne 7, 3) := by decide +kernel
theorem dX8_bytesFault_27 : decode cX8_bytesFault 27 = .ok (.iconst 0, 1) := by decide +kernel
theorem dX8_bytesFault_28 : decode cX8_bytesFault 28 = .ok (.goto 5, 3) := by decide +kernel
theorem dX8_bytesFault_31 : decode cX8_bytesFault 31 = .ok (.bipush (-12), 2) := by decide +kernel
theorem dX8_bytesFault_33 : decode cX8_bytesFault 33 = .ok (.ireturn, 1) := by decide +kernel
theorem dX8_placeFault_0 : decode cX8_placeFault 0 = .ok (.aload_n 0, 1) := by decide +kernel
theorem dX8_placeFault_1 : decode cX8_placeFault 1 = .ok (.getfield 11, 3) := by decide +kernel
theorem dX8_placeFault_4 : decode cX8_placeFault 4 = .ok (.iconst 2, 1) := by decide +kernel
theorem dX8_placeFault_5 : decode cX8_placeFault 5 = .ok (.if_icmp .eq 18, 3) := by decide +kernel
theorem dX8_placeFault_8 : decode cX8_placeFault 8 = .ok (.aload_n 0, 1) := by decide +kernel
theorem dX8_placeFault_9 : decode cX8_placeFault 9 = .ok (.getfield 11, 3) := by decide +kernel
theorem dX8_placeFault_12 : decode cX8_placeFault 12 = .ok (.ifCond .ne 8, 3) := by decide +kernel
theorem dX8_placeFault_15 : decode cX8_placeFault 15 = .ok (.bipush (-11), 2) := by decide +kernel
theorem dX8_placeFault_17 : decode cX8_placeFault 17 = .ok (.goto 5, 3) := by decide +kernel
theorem dX8_placeFault_20 : decode cX8_placeFault 20 = .ok (.bipush (-12), 2) := by decide +kernel
theorem dX8_placeFault_22 : decode cX8_placeFault 22 = .ok (.ireturn, 1) := by decide +kernel
theorem dX8_placeFault_23 : decode cX8_placeFault 23 = .ok (.aload_n 0, 1) := by decide +kernel
theorem dX8_placeFault_24 : decode cX8_placeFault 24 = .ok (.iload_n 1, 1) := by decide +kernel
theorem dX8_placeFault_25 : decode cX8_placeFault 25 = .ok (.invokevirtual 34, 3) := by decide +kernel
theorem dX8_placeFault_28 : decode cX8_placeFault 28 = .ok (.ifCond .eq 7, 3) := by decide +kernel
theorem dX8_placeFault_31 : decode cX8_placeFault 31 = .ok (.iconst 0, 1) := by decide +kernel
theorem dX8_placeFault_32 : decode cX8_placeFault 32 = .ok (.goto 5, 3) := by decide +kernel
theorem dX8_placeFault_35 : decode cX8_placeFault 35 = .ok (.bipush (-13), 2) := by decide +kernel
theorem dX8_placeFault_37 : decode cX8_placeFault 37 = .ok (.ireturn, 1) := by decide +kernel
theorem dX8_isAlike_0 : decode cX8_isAlike 0 = .ok (.aload_n 0, 1) := by decide +kernel
theorem dX8_isAlike_1 : decode cX8_isAlike 1 = .ok (.getfield 11, 3) := by decide +kernel
theorem dX8_isAlike_4 : decode cX8_isAlike 4 = .ok (.iconst 2, 1) := by decide +kernel
theorem dX8_isAlike_5 : decode cX8_isAlike 5 = .ok (.if_icmp .ne 26, 3) := by decide +kernel
theorem dX8_isAlike_8 : decode cX8_isAlike 8 = .ok (.aload_n 1, 1) := by decide +kernel
theorem dX8_isAlike_9 : decode cX8_isAlike 9 = .ok (.getfield 11, 3) := by decide +kernel
theorem dX8_isAlike_12 : decode cX8_isAlike 12 = .ok (.iconst 2, 1) := by decide +kernel
theorem dX8_isAlike_13 : decode cX8_isAlike 13 = .ok (.if_icmp .ne 18, 3) := by decide +kernel
theorem dX8_isAlike_16 : decode cX8_isAlike 16 = .ok (.aload_n 0, 1) := by decide +kernel
theorem dX8_isAlike_17 : decode cX8_isAlike 17 = .ok (.getfield 18, 3) := by decide +kernel
theorem dX8_isAlike_20 : decode cX8_isAlike 20 = .ok (.aload_n 1, 1) := by decide +kernel
theorem dX8_isAlike_21 : decode cX8_isAlike 21 = .ok (.getfield 18, 3) := by decide +kernel
theorem dX8_isAlike_24 : decode cX8_isAlike 24 = .ok (.if_icmp .ne 7, 3) := by decide +kernel
theorem dX8_isAlike_27 : decode cX8_isAlike 27 = .ok (.iconst 1, 1) := by decide +kernel
theorem dX8_isAlike_28 : decode cX8_isAlike 28 = .ok (.goto 4, 3) := by decide +kernel
theorem dX8_isAlike_31 : decode cX8_isAlike 31 = .ok (.iconst 0, 1) := by decide +kernel
theorem dX8_isAlike_32 : decode cX8_isAlike 32 = .ok (.ireturn, 1) := by decide +kernel
theorem dX8_hasPlace_0 : decode cX8_hasPlace 0 = .ok (.aload_n 0, 1) := by decide +kernel
theorem dX8_hasPlace_1 : decode cX8_hasPlace 1 = .ok (.getfield 11, 3) := by decide +kernel
theorem dX8_hasPlace_4 : decode cX8_hasPlace 4 = .ok (.iconst 2, 1) := by decide +kernel
theorem dX8_hasPlace_5 : decode cX8_hasPlace 5 = .ok (.if_icmp .ne 19, 3) := by decide +kernel
theorem dX8_hasPlace_8 : decode cX8_hasPlace 8 = .ok (.iload_n 1, 1) := by decide +kernel
theorem dX8_hasPlace_9 : decode cX8_hasPlace 9 = .ok (.ifCond .lt 15, 3) := by decide +kernel
theorem dX8_hasPlace_12 : decode cX8_hasPlace 12 = .ok (.iload_n 1, 1) := by decide +kernel
theorem dX8_hasPlace_13 : decode cX8_hasPlace 13 = .ok (.aload_n 0, 1) := by decide +kernel
theorem dX8_hasPlace_14 : decode cX8_hasPlace 14 = .ok (.getfield 21, 3) := by decide +kernel
theorem dX8_hasPlace_17 : decode cX8_hasPlace 17 = .ok (.if_icmp .ge 7, 3) := by decide +kernel
theorem dX8_hasPlace_20 : decode cX8_hasPlace 20 = .ok (.iconst 1, 1) := by decide +kernel
theorem dX8_hasPlace_21 : decode cX8_hasPlace 21 = .ok (.goto 4, 3) := by decide +kernel
theorem dX8_hasPlace_24 : decode cX8_hasPlace 24 = .ok (.iconst 0, 1) := by decide +kernel
theorem dX8_hasPlace_25 : decode cX8_hasPlace 25 = .ok (.ireturn, 1) := by decide +kernel
theorem dX8_hasStretch_0 : decode cX8_hasStretch 0 = .ok (.aload_n 0, 1) := by decide +kernel
theorem dX8_hasStretch_1 : decode cX8_hasStretch 1 = .ok (.getfield 11, 3) := by decide +kernel
theorem dX8_hasStretch_4 : decode cX8_hasStretch 4 = .ok (.iconst 2, 1) := by decide +kernel
theorem dX8_hasStretch_5 : decode cX8_hasStretch 5 = .ok (.if_icmp .ne 33, 3) := by decide +kernel
theorem dX8_hasStretch_8 : decode cX8_hasStretch 8 = .ok (.iload_n 1, 1) := by decide +kernel
theorem dX8_hasStretch_9 : decode cX8_hasStretch 9 = .ok (.ifCond .lt 29, 3) := by decide +kernel
theorem dX8_hasStretch_12 : decode cX8_hasStretch 12 = .ok (.iload_n 2, 1) := by decide +kernel
theorem dX8_hasStretch_13 : decode cX8_hasStretch 13 = .ok (.ifCond .lt 25, 3) := by decide +kernel
theorem dX8_hasStretch_16 : decode cX8_hasStretch 16 = .ok (.iload_n 1, 1) := by decide +kernel
theorem dX8_hasStretch_17 : decode cX8_hasStretch 17 = .ok (.aload_n 0, 1) := by decide +kernel
theorem dX8_hasStretch_18 : decode cX8_hasStretch 18 = .ok (.getfield 21, 3) := by decide +kernel
theorem dX8_hasStretch_21 : decode cX8_hasStretch 21 = .ok (.if_icmp .gt 17, 3) := by decide +kernel
theorem dX8_hasStretch_24 : decode cX8_hasStretch 24 = .ok (.iload_n 2, 1) := by decide +kernel
theorem dX8_hasStretch_25 : decode cX8_hasStretch 25 = .ok (.aload_n 0, 1) := by decide +kernel
theorem dX8_hasStretch_26 : decode cX8_hasStretch 26 = .ok (.getfield 21, 3) := by decide +kernel
theorem dX8_hasStretch_29 : decode cX8_hasStretch 29 = .ok (.iload_n 1, 1) := by decide +kernel
theorem dX8_hasStretch_30 : decode cX8_hasStretch 30 = .ok (.isub, 1) := by decide +kernel
theorem dX8_hasStretch_31 : decode cX8_hasStretch 31 = .ok (.if_icmp .gt 7, 3) := by decide +kernel
theorem dX8_hasStretch_34 : decode cX8_hasStretch 34 = .ok (.iconst 1, 1) := by decide +kernel
theorem dX8_hasStretch_35 : decode cX8_hasStretch 35 = .ok (.goto 4, 3) := by decide +kernel
theorem dX8_hasStretch_38 : decode cX8_hasStretch 38 = .ok (.iconst 0, 1) := by decide +kernel
theorem dX8_hasStretch_39 : decode cX8_hasStretch 39 = .ok (.ireturn, 1) := by decide +kernel
theorem dX8_elementAt_0 : decode cX8_elementAt 0 = .ok (.aload_n 0, 1) := by decide +kernel
theorem dX8_elementAt_1 : decode cX8_elementAt 1 = .ok (.iload_n 1, 1) := by decide +kernel
theorem dX8_elementAt_2 : decode cX8_elementAt 2 = .ok (.invokevirtual 34, 3) := by decide +kernel
theorem dX8_elementAt_5 : decode cX8_elementAt 5 = .ok (.ifCond .eq 12, 3) := by decide +kernel
theorem dX8_elementAt_8 : decode cX8_elementAt 8 = .ok (.aload_n 0, 1) := by decide +kernel
theorem dX8_elementAt_9 : decode cX8_elementAt 9 = .ok (.getfield 24, 3) := by decide +kernel
theorem dX8_elementAt_12 : decode cX8_elementAt 12 = .ok (.iload_n 1, 1) := by decide +kernel
theorem dX8_elementAt_13 : decode cX8_elementAt 13 = .ok (.laload, 1) := by decide +kernel
theorem dX8_elementAt_14 : decode cX8_elementAt 14 = .ok (.goto 4, 3) := by decide +kernel
theorem dX8_elementAt_17 : decode cX8_elementAt 17 = .ok (.lconst 0, 1) := by decide +kernel
theorem dX8_elementAt_18 : decode cX8_elementAt 18 = .ok (.lreturn, 1) := by decide +kernel
theorem dX8_byteAt_0 : decode cX8_byteAt 0 = .ok (.aload_n 0, 1) := by decide +kernel
theorem dX8_byteAt_1 : decode cX8_byteAt 1 = .ok (.iload_n 1, 1) := by decide +kernel
theorem dX8_byteAt_2 : decode cX8_byteAt 2 = .ok (.invokevirtual 38, 3) := by decide +kernel
theorem dX8_byteAt_5 : decode cX8_byteAt 5 = .ok (.l2i, 1) := by decide +kernel
theorem dX8_byteAt_6 : decode cX8_byteAt 6 = .ok (.ireturn, 1) := by decide +kernel
theorem dX8_putIn_0 : decode cX8_putIn 0 = .ok (.aload_n 0, 1) := by decide +kernel
theorem dX8_putIn_1 : decode cX8_putIn 1 = .ok (.iload_n 1, 1) := by decide +kernel
theorem dX8_putIn_2 : decode cX8_putIn 2 = .ok (.invokevirtual 34, 3) := by decide +kernel
theorem dX8_putIn_5 : decode cX8_putIn 5 = .ok (.ifCond .eq 14, 3) := by decide +kernel
theorem dX8_putIn_8 : decode cX8_putIn 8 = .ok (.aload_n 0, 1) := by decide +kernel
theorem dX8_putIn_9 : decode cX8_putIn 9 = .ok (.getfield 24, 3) := by decide +kernel
theorem dX8_putIn_12 : decode cX8_putIn 12 = .ok (.iload_n 1, 1) := by decide +kernel
theorem dX8_putIn_13 : decode cX8_putIn 13 = .ok (.aload_n 0, 1) := by decide +kernel
theorem dX8_putIn_14 : decode cX8_putIn 14 = .ok (.lload_n 2, 1) := by decide +kernel
theorem dX8_putIn_15 : decode cX8_putIn 15 = .ok (.invokevirtual 42, 3) := by decide +kernel
theorem dX8_putIn_18 : decode cX8_putIn 18 = .ok (.lastore, 1) := by decide +kernel
theorem dX8_putIn_19 : decode cX8_putIn 19 = .ok (.return_, 1) := by decide +kernel
theorem dX8_lowestBits_0 : decode cX8_lowestBits 0 = .ok (.aload_n 0, 1) := by decide +kernel
theorem dX8_lowestBits_1 : decode cX8_lowestBits 1 = .ok (.getfield 18, 3) := by decide +kernel
theorem dX8_lowestBits_4 : decode cX8_lowestBits 4 = .ok (.tableswitch 48 0 3 #[32, 37, 42, 46], 32) := by decide +kernel
theorem dX8_lowestBits_36 : decode cX8_lowestBits 36 = .ok (.lload_n 1, 1) := by decide +kernel
theorem dX8_lowestBits_37 : decode cX8_lowestBits 37 = .ok (.l2i, 1) := by decide +kernel
theorem dX8_lowestBits_38 : decode cX8_lowestBits 38 = .ok (.i2b, 1) := by decide +kernel
theorem dX8_lowestBits_39 : decode cX8_lowestBits 39 = .ok (.i2l, 1) := by decide +kernel
theorem dX8_lowestBits_40 : decode cX8_lowestBits 40 = .ok (.lreturn, 1) := by decide +kernel
theorem dX8_lowestBits_41 : decode cX8_lowestBits 41 = .ok (.lload_n 1, 1) := by decide +kernel
theorem dX8_lowestBits_42 : decode cX8_lowestBits 42 = .ok (.l2i, 1) := by decide +kernel
theorem dX8_lowestBits_43 : decode cX8_lowestBits 43 = .ok (.i2s, 1) := by decide +kernel
theorem dX8_lowestBits_44 : decode cX8_lowestBits 44 = .ok (.i2l, 1) := by decide +kernel
theorem dX8_lowestBits_45 : decode cX8_lowestBits 45 = .ok (.lreturn, 1) := by decide +kernel
theorem dX8_lowestBits_46 : decode cX8_lowestBits 46 = .ok (.lload_n 1, 1) := by decide +kernel
theorem dX8_lowestBits_47 : decode cX8_lowestBits 47 = .ok (.l2i, 1) := by decide +kernel
theorem dX8_lowestBits_48 : decode cX8_lowestBits 48 = .ok (.i2l, 1) := by decide +kernel
theorem dX8_lowestBits_49 : decode cX8_lowestBits 49 = .ok (.lreturn, 1) := by decide +kernel
theorem dX8_lowestBits_50 : decode cX8_lowestBits 50 = .ok (.lload_n 1, 1) := by decide +kernel
theorem dX8_lowestBits_51 : decode cX8_lowestBits 51 = .ok (.lreturn, 1) := by decide +kernel
theorem dX8_lowestBits_52 : decode cX8_lowestBits 52 = .ok (.lload_n 1, 1) := by decide +kernel
theorem dX8_lowestBits_53 : decode cX8_lowestBits 53 = .ok (.lconst 0, 1) := by decide +kernel
theorem dX8_lowestBits_54 : decode cX8_lowestBits 54 = .ok (.lcmp, 1) := by decide +kernel
theorem dX8_lowestBits_55 : decode cX8_lowestBits 55 = .ok (.ifCond .eq 7, 3) := by decide +kernel
theorem dX8_lowestBits_58 : decode cX8_lowestBits 58 = .ok (.lconst 1, 1) := by decide +kernel
theorem dX8_lowestBits_59 : decode cX8_lowestBits 59 = .ok (.goto 4, 3) := by decide +kernel
theorem dX8_lowestBits_62 : decode cX8_lowestBits 62 = .ok (.lconst 0, 1) := by decide +kernel
theorem dX8_lowestBits_63 : decode cX8_lowestBits 63 = .ok (.lreturn, 1) := by decide +kernel
theorem dX8_takeFrom_0 : decode cX8_takeFrom 0 = .ok (.aload_n 1, 1) := by decide +kernel
theorem dX8_takeFrom_1 : decode cX8_takeFrom 1 = .ok (.iload_n 2, 1) := by decide +kernel
theorem dX8_takeFrom_2 : decode cX8_takeFrom 2 = .ok (.iload 4, 2) := by decide +kernel
theorem dX8_takeFrom_4 : decode cX8_takeFrom 4 = .ok (.invokevirtual 46, 3) := by decide +kernel
theorem dX8_takeFrom_7 : decode cX8_takeFrom 7 = .ok (.ifCond .eq 28, 3) := by decide +kernel
theorem dX8_takeFrom_10 : decode cX8_takeFrom 10 = .ok (.aload_n 0, 1) := by decide +kernel
theorem dX8_takeFrom_11 : decode cX8_takeFrom 11 = .ok (.iload_n 3, 1) := by decide +kernel
theorem dX8_takeFrom_12 : decode cX8_takeFrom 12 = .ok (.iload 4, 2) := by decide +kernel
theorem dX8_takeFrom_14 : decode cX8_takeFrom 14 = .ok (.invokevirtual 46, 3) := by decide +kernel
theorem dX8_takeFrom_17 : decode cX8_takeFrom 17 = .ok (.ifCond .eq 18, 3) := by decide +kernel
theorem dX8_takeFrom_20 : decode cX8_takeFrom 20 = .ok (.aload_n 1, 1) := by decide +kernel
theorem dX8_takeFrom_21 : decode cX8_takeFrom 21 = .ok (.getfield 24, 3) := by decide +kernel
theorem dX8_takeFrom_24 : decode cX8_takeFrom 24 = .ok (.iload_n 2, 1) := by decide +kernel
theorem dX8_takeFrom_25 : decode cX8_takeFrom 25 = .ok (.aload_n 0, 1) := by decide +kernel
theorem dX8_takeFrom_26 : decode cX8_takeFrom 26 = .ok (.getfield 24, 3) := by decide +kernel
theorem dX8_takeFrom_29 : decode cX8_takeFrom 29 = .ok (.iload_n 3, 1) := by decide +kernel
theorem dX8_takeFrom_30 : decode cX8_takeFrom 30 = .ok (.iload 4, 2) := by decide +kernel
theorem dX8_takeFrom_32 : decode cX8_takeFrom 32 = .ok (.invokestatic 50, 3) := by decide +kernel
theorem dX8_takeFrom_35 : decode cX8_takeFrom 35 = .ok (.return_, 1) := by decide +kernel
theorem dX9_init_0 : decode cX9_init 0 = .ok (.aload_n 0, 1) := by decide +kernel
theorem dX9_init_1 : decode cX9_init 1 = .ok (.invokespecial 5, 3) := by decide +kernel
theorem dX9_init_4 : decode cX9_init 4 = .ok (.aload_n 0, 1) := by decide +kernel
theorem dX9_init_5 : decode cX9_init 5 = .ok (.bipush 30, 2) := by decide +kernel
theorem dX9_init_7 : decode cX9_init 7 = .ok (.newarray .int, 2) := by decide +kernel
theorem dX9_init_9 : decode cX9_init 9 = .ok (.putfield 13, 3) := by decide +kernel
theorem dX9_init_12 : decode cX9_init 12 = .ok (.aload_n 0, 1) := by decide +kernel
theorem dX9_init_13 : decode cX9_init 13 = .ok (.iconst 0, 1) := by decide +kernel
theorem dX9_init_14 : decode cX9_init 14 = .ok (.putfield 17, 3) := by decide +kernel
theorem dX9_init_17 : decode cX9_init 17 = .ok (.aload_n 0, 1) := by decide +kernel
theorem dX9_init_18 : decode cX9_init 18 = .ok (.iconst 5, 1) := by decide +kernel
theorem dX9_init_19 : decode cX9_init 19 = .ok (.newarray .int, 2) := by decide +kernel
theorem dX9_init_21 : decode cX9_init 21 = .ok (.putfield 21, 3) := by decide +kernel
theorem dX9_init_24 : decode cX9_init 24 = .ok (.aload_n 0, 1) := by decide +kernel
theorem dX9_init_25 : decode cX9_init 25 = .ok (.iconst 5, 1) := by decide +kernel
theorem dX9_init_26 : decode cX9_init 26 = .ok (.newarray .int, 2) := by decide +kernel
theorem dX9_init_28 : decode cX9_init 28 = .ok (.putfield 24, 3) := by decide +kernel
theorem dX9_init_31 : decode cX9_init 31 = .ok (.aload_n 0, 1) := by decide +kernel
theorem dX9_init_32 : decode cX9_init 32 = .ok (.iconst 0, 1) := by decide +kernel
theorem dX9_init_33 : decode cX9_init 33 = .ok (.putfield 27, 3) := by decide +kernel
theorem dX9_init_36 : decode cX9_init 36 = .ok (.aload_n 0, 1) := by decide +kernel
theorem dX9_init_37 : decode cX9_init 37 = .ok (.iconst 0, 1) := by decide +kernel
theorem dX9_init_38 : decode cX9_init 38 = .ok (.putfield 30, 3) := by decide +kernel
theorem dX9_init_41 : decode cX9_init 41 = .ok (.aload_n 0, 1) := by decide +kernel
theorem dX9_init_42 : decode cX9_init 42 = .ok (.aload_n 2, 1) := by decide +kernel
theorem dX9_init_43 : decode cX9_init 43 = .ok (.putfield 33, 3) := by decide +kernel
theorem dX9_init_46 : decode cX9_init 46 = .ok (.aload_n 0, 1) := by decide +kernel
theorem dX9_init_47 : decode cX9_init 47 = .ok (.new 37, 3) := by decide +kernel
theorem dX9_init_50 : decode cX9_init 50 = .ok (.dup, 1) := by decide +kernel
theorem dX9_init_51 : decode cX9_init 51 = .ok (.aload_n 1, 1) := by decide +kernel
theorem dX9_init_52 : decode cX9_init 52 = .ok (.invokespecial 39, 3) := by decide +kernel
theorem dX9_init_55 : decode cX9_init 55 = .ok (.putfield 42, 3) := by decide +kernel
theorem dX9_init_58 : decode cX9_init 58 = .ok (.return_, 1) := by decide +kernel
theorem dX9_tell_0 : decode cX9_tell 0 = .ok (.aload_n 0, 1) := by decide +kernel
theorem dX9_tell_1 : decode cX9_tell 1 = .ok (.getfield 42, 3) := by decide +kernel
theorem dX9_tell_4 : decode cX9_tell 4 = .ok (.aload_n 2, 1) := by decide +kernel
theorem dX9_tell_5 : decode cX9_tell 5 = .ok (.invokevirtual 46, 3) := by decide +kernel
theorem dX9_tell_8 : decode cX9_tell 8 = .ok (.aload_n 0, 1) := by decide +kernel
theorem dX9_tell_9 : decode cX9_tell 9 = .ok (.iconst 0, 1) := by decide +kernel
theorem dX9_tell_10 : decode cX9_tell 10 = .ok (.putfield 17, 3) := by decide +kernel
theorem dX9_tell_13 : decode cX9_tell 13 = .ok (.iconst 0, 1) := by decide +kernel
theorem dX9_tell_14 : decode cX9_tell 14 = .ok (.istore_n 3, 1) := by decide +kernel
theorem dX9_tell_15 : decode cX9_tell 15 = .ok (.iload_n 3, 1) := by decide +kernel
theorem dX9_tell_16 : decode cX9_tell 16 = .ok (.bipush 30, 2) := by decide +kernel
theorem dX9_tell_18 : decode cX9_tell 18 = .ok (.if_icmp .ge 76, 3) := by decide +kernel
theorem dX9_tell_21 : decode cX9_tell 21 = .ok (.aload_n 0, 1) := by decide +kernel
theorem dX9_tell_22 : decode cX9_tell 22 = .ok (.aload_n 1, 1) := by decide +kernel
theorem dX9_tell_23 : decode cX9_tell 23 = .ok (.iload_n 3, 1) := by decide +kernel
theorem dX9_tell_24 : decode cX9_tell 24 = .ok (.invokevirtual 50, 3) := by decide +kernel
theorem dX9_tell_27 : decode cX9_tell 27 = .ok (.ifCond .eq 67, 3) := by decide +kernel
theorem dX9_tell_30 : decode cX9_tell 30 = .ok (.aload_n 0, 1) := by decide +kernel
theorem dX9_tell_31 : decode cX9_tell 31 = .ok (.getfield 33, 3) := by decide +kernel
theorem dX9_tell_34 : decode cX9_tell 34 = .ok (.aload_n 0, 1) := by decide +kernel
theorem dX9_tell_35 : decode cX9_tell 35 = .ok (.getfield 42, 3) := by decide +kernel
theorem dX9_tell_38 : decode cX9_tell 38 = .ok (.aload_n 1, 1) := by decide +kernel
theorem dX9_tell_39 : decode cX9_tell 39 = .ok (.iconst 2, 1) := by decide +kernel
theorem dX9_tell_40 : decode cX9_tell 40 = .ok (.iload_n 3, 1) := by decide +kernel
theorem dX9_tell_41 : decode cX9_tell 41 = .ok (.imul, 1) := by decide +kernel
theorem dX9_tell_42 : decode cX9_tell 42 = .ok (.invokevirtual 54, 3) := by decide +kernel
theorem dX9_tell_45 : decode cX9_tell 45 = .ok (.aload_n 1, 1) := by decide +kernel
theorem dX9_tell_46 : decode cX9_tell 46 = .ok (.iconst 2, 1) := by decide +kernel
theorem dX9_tell_47 : decode cX9_tell 47 = .ok (.iload_n 3, 1) := by decide +kernel
theorem dX9_tell_48 : decode cX9_tell 48 = .ok (.imul, 1) := by decide +kernel
theorem dX9_tell_49 : decode cX9_tell 49 = .ok (.iconst 1, 1) := by decide +kernel
theorem dX9_tell_50 : decode cX9_tell 50 = .ok (.iadd, 1) := by decide +kernel
theorem dX9_tell_51 : decode cX9_tell 51 = .ok (.invokevirtual 54, 3) := by decide +kernel
theorem dX9_tell_54 : decode cX9_tell 54 = .ok (.invokevirtual 58, 3) := by decide +kernel
theorem dX9_tell_57 : decode cX9_tell 57 = .ok (.istore 4, 2) := by decide +kernel
theorem dX9_tell_59 : decode cX9_tell 59 = .ok (.iload 4, 2) := by decide +kernel
theorem dX9_tell_61 : decode cX9_tell 61 = .ok (.ifCond .ge 6, 3) := by decide +kernel
theorem dX9_tell_64 : decode cX9_tell 64 = .ok (.goto 30, 3) := by decide +kernel
theorem dX9_tell_67 : decode cX9_tell 67 = .ok (.aload_n 0, 1) := by decide +kernel
theorem dX9_tell_68 : decode cX9_tell 68 = .ok (.getfield 13, 3) := by decide +kernel
theorem dX9_tell_71 : decode cX9_tell 71 = .ok (.aload_n 0, 1) := by decide +kernel
theorem dX9_tell_72 : decode cX9_tell 72 = .ok (.getfield 17, 3) := by decide +kernel
theorem dX9_tell_75 : decode cX9_tell 75 = .ok (.iload 4, 2) := by decide +kernel
theorem dX9_tell_77 : decode cX9_tell 77 = .ok (.iastore, 1) := by decide +kernel
theorem dX9_tell_78 : decode cX9_tell 78 = .ok (.aload_n 0, 1) := by decide +kernel
theorem dX9_tell_79 : decode cX9_tell 79 = .ok (.dup, 1) := by decide +kernel
theorem dX9_tell_80 : decode cX9_tell 80 = .ok (.getfield 17, 3) := by decide +kernel
theorem dX9_tell_83 : decode cX9_tell 83 = .ok (.iconst 1, 1) := by decide +kernel
theorem dX9_tell_84 : decode cX9_tell 84 = .ok (.iadd, 1) := by decide +kernel
theorem dX9_tell_85 : decode cX9_tell 85 = .ok (.putfield 17, 3) := by decide +kernel
theorem dX9_tell_88 : decode cX9_tell 88 = .ok (.iinc 3 1, 3) := by decide +kernel
theorem dX9_tell_91 : decode cX9_tell 91 = .ok (.goto (-76), 3) := by decide +kernel
theorem dX9_tell_94 : decode cX9_tell 94 = .ok (.aload_n 0, 1) := by decide +kernel
theorem dX9_tell_95 : decode cX9_tell 95 = .ok (.getfield 17, 3) := by decide +kernel
theorem dX9_tell_98 : decode cX9_tell 98 = .ok (.ireturn, 1) := by decide +kernel
theorem dX9_isSaleAt_0 : decode cX9_isSaleAt 0 = .ok (.aload_n 1, 1) := by decide +kernel
theorem dX9_isSaleAt_1 : decode cX9_isSaleAt 1 = .ok (.iconst 2, 1) := by decide +kernel
theorem dX9_isSaleAt_2 : decode cX9_isSaleAt 2 = .ok (.iload_n 2, 1) := by decide +kernel
theorem dX9_isSaleAt_3 : decode cX9_isSaleAt 3 = .ok (.imul, 1) := by decide +kernel
theorem dX9_isSaleAt_4 : decode cX9_isSaleAt 4 = .ok (.iconst 1, 1) := by decide +kernel
theorem dX9_isSaleAt_5 : decode cX9_isSaleAt 5 = .ok (.iadd, 1) := by decide +kernel
theorem dX9_isSaleAt_6 : decode cX9_isSaleAt 6 = .ok (.invokevirtual 64, 3) := by decide +kernel
theorem dX9_isSaleAt_9 : decode cX9_isSaleAt 9 = .ok (.ifCond .eq 33, 3) := by decide +kernel
theorem dX9_isSaleAt_12 : decode cX9_isSaleAt 12 = .ok (.aload_n 0, 1) := by decide +kernel
theorem dX9_isSaleAt_13 : decode cX9_isSaleAt 13 = .ok (.getfield 33, 3) := by decide +kernel
theorem dX9_isSaleAt_16 : decode cX9_isSaleAt 16 = .ok (.aload_n 1, 1) := by decide +kernel
theorem dX9_isSaleAt_17 : decode cX9_isSaleAt 17 = .ok (.iconst 2, 1) := by decide +kernel
theorem dX9_isSaleAt_18 : decode cX9_isSaleAt 18 = .ok (.iload_n 2, 1) := by decide +kernel
theorem dX9_isSaleAt_19 : decode cX9_isSaleAt 19 = .ok (.imul, 1) := by decide +kernel
theorem dX9_isSaleAt_20 : decode cX9_isSaleAt 20 = .ok (.invokevirtual 54, 3) := by decide +kernel
theorem dX9_isSaleAt_23 : decode cX9_isSaleAt 23 = .ok (.aload_n 1, 1) := by decide +kernel
theorem dX9_isSaleAt_24 : decode cX9_isSaleAt 24 = .ok (.iconst 2, 1) := by decide +kernel
theorem dX9_isSaleAt_25 : decode cX9_isSaleAt 25 = .ok (.iload_n 2, 1) := by decide +kernel
theorem dX9_isSaleAt_26 : decode cX9_isSaleAt 26 = .ok (.imul, 1) := by decide +kernel
theorem dX9_isSaleAt_27 : decode cX9_isSaleAt 27 = .ok (.iconst 1, 1) := by decide +kernel
theorem dX9_isSaleAt_28 : decode cX9_isSaleAt 28 = .ok (.iadd, 1) := by decide +kernel
theorem dX9_isSaleAt_29 : decode cX9_isSaleAt 29 = .ok (.invokevirtual 54, 3) := by decide +kernel
theorem dX9_isSaleAt_32 : decode cX9_isSaleAt 32 = .ok (.invokevirtual 68, 3) := by decide +kernel
theorem dX9_isSaleAt_35 : decode cX9_isSaleAt 35 = .ok (.ifCond .eq 7, 3) := by decide +kernel
theorem dX9_isSaleAt_38 : decode cX9_isSaleAt 38 = .ok (.iconst 1, 1) := by decide +kernel
theorem dX9_isSaleAt_39 : decode cX9_isSaleAt 39 = .ok (.goto 4, 3) := by decide +kernel
theorem dX9_isSaleAt_42 : decode cX9_isSaleAt 42 = .ok (.iconst 0, 1) := by decide +kernel
theorem dX9_isSaleAt_43 : decode cX9_isSaleAt 43 = .ok (.ireturn, 1) := by decide +kernel
theorem dX9_cellOf_0 : decode cX9_cellOf 0 = .ok (.iload_n 1, 1) := by decide +kernel
theorem dX9_cellOf_1 : decode cX9_cellOf 1 = .ok (.ifCond .lt 20, 3) := by decide +kernel
theorem dX9_cellOf_4 : decode cX9_cellOf 4 = .ok (.iload_n 1, 1) := by decide +kernel
theorem dX9_cellOf_5 : decode cX9_cellOf 5 = .ok (.aload_n 0, 1) := by decide +kernel
theorem dX9_cellOf_6 : decode cX9_cellOf 6 = .ok (.getfield 17, 3) := by decide +kernel
theorem dX9_cellOf_9 : decode cX9_cellOf 9 = .ok (.if_icmp .ge 12, 3) := by decide +kernel
theorem dX9_cellOf_12 : decode cX9_cellOf 12 = .ok (.aload_n 0, 1) := by decide +kernel
theorem dX9_cellOf_13 : decode cX9_cellOf 13 = .ok (.getfield 13, 3) := by decide +kernel
theorem dX9_cellOf_16 : decode cX9_cellOf 16 = .ok (.iload_n 1, 1) := by decide +kernel
theorem dX9_cellOf_17 : decode cX9_cellOf 17 = .ok (.iaload, 1) := by decide +kernel
theorem dX9_cellOf_18 : decode cX9_cellOf 18 = .ok (.goto 5, 3) := by decide +kernel
theorem dX9_cellOf_21 : decode cX9_cellOf 21 = .ok (.bipush (-2), 2) := by decide +kernel
theorem dX9_cellOf_23 : decode cX9_cellOf 23 = .ok (.ireturn, 1) := by decide +kernel
theorem dX9_balanceThen_0 : decode cX9_balanceThen 0 = .ok (.aload_n 0, 1) := by decide +kernel
theorem dX9_balanceThen_1 : decode cX9_balanceThen 1 = .ok (.getfield 42, 3) := by decide +kernel
theorem dX9_balanceThen_4 : decode cX9_balanceThen 4 = .ok (.iload_n 1, 1) := by decide +kernel
theorem dX9_balanceThen_5 : decode cX9_balanceThen 5 = .ok (.invokevirtual 72, 3) := by decide +kernel
theorem dX9_balanceThen_8 : decode cX9_balanceThen 8 = .ok (.ireturn, 1) := by decide +kernel
theorem dX9_seekOrder_0 : decode cX9_seekOrder 0 = .ok (.aload_n 0, 1) := by decide +kernel
theorem dX9_seekOrder_1 : decode cX9_seekOrder 1 = .ok (.aload_n 0, 1) := by decide +kernel
theorem dX9_seekOrder_2 : decode cX9_seekOrder 2 = .ok (.aload_n 1, 1) := by decide +kernel
theorem dX9_seekOrder_3 : decode cX9_seekOrder 3 = .ok (.invokevirtual 75, 3) := by decide +kernel
theorem dX9_seekOrder_6 : decode cX9_seekOrder 6 = .ok (.putfield 27, 3) := by decide +kernel
theorem dX9_seekOrder_9 : decode cX9_seekOrder 9 = .ok (.aload_n 0, 1) := by decide +kernel
theorem dX9_seekOrder_10 : decode cX9_seekOrder 10 = .ok (.aload_n 0, 1) := by decide +kernel
theorem dX9_seekOrder_11 : decode cX9_seekOrder 11 = .ok (.getfield 27, 3) := by decide +kernel
theorem dX9_seekOrder_14 : decode cX9_seekOrder 14 = .ok (.iconst 5, 1) := by decide +kernel
theorem dX9_seekOrder_15 : decode cX9_seekOrder 15 = .ok (.invokestatic 79, 3) := by decide +kernel
theorem dX9_seekOrder_18 : decode cX9_seekOrder 18 = .ok (.putfield 30, 3) := by decide +kernel
theorem dX9_seekOrder_21 : decode cX9_seekOrder 21 = .ok (.iconst 0, 1) := by decide +kernel
theorem dX9_seekOrder_22 : decode cX9_seekOrder 22 = .ok (.istore 5, 2) := by decide +kernel
theorem dX9_seekOrder_24 : decode cX9_seekOrder 24 = .ok (.iload 5, 2) := by decide +kernel
theorem dX9_seekOrder_26 : decode cX9_seekOrder 26 = .ok (.aload_n 0, 1) := by decide +kernel
theorem dX9_seekOrder_27 : decode cX9_seekOrder 27 = .ok (.getfield 30, 3) := by decide +kernel
theorem dX9_seekOrder_30 : decode cX9_seekOrder 30 = .ok (.if_icmp .ge 18, 3) := by decide +kernel
theorem dX9_seekOrder_33 : decode cX9_seekOrder 33 = .ok (.aload_n 0, 1) := by decide +kernel
theorem dX9_seekOrder_34 : decode cX9_seekOrder 34 = .ok (.getfield 21, 3) := by decide +kernel
theorem dX9_seekOrder_37 : decode cX9_seekOrder 37 = .ok (.iload 5, 2) := by decide +kernel
theorem dX9_seekOrder_39 : decode cX9_seekOrder 39 = .ok (.iload 5, 2) := by decide +kernel
theorem dX9_seekOrder_41 : decode cX9_seekOrder 41 = .ok (.iastore, 1) := by decide +kernel
theorem dX9_seekOrder_42 : decode cX9_seekOrder 42 = .ok (.iinc 5 1, 3) := by decide +kernel
theorem dX9_seekOrder_45 : decode cX9_seekOrder 45 = .ok (.goto (-21), 3) := by decide +kernel
theorem dX9_seekOrder_48 : decode cX9_seekOrder 48 = .ok (.bipush (-2), 2) := by decide +kernel
theorem dX9_seekOrder_50 : decode cX9_seekOrder 50 = .ok (.istore 5, 2) := by decide +kernel
theorem dX9_seekOrder_52 : decode cX9_seekOrder 52 = .ok (.iconst 1, 1) := by decide +kernel
theorem dX9_seekOrder_53 : decode cX9_seekOrder 53 = .ok (.istore 6, 2) := by decide +kernel
theorem dX9_seekOrder_55 : decode cX9_seekOrder 55 = .ok (.iconst 0, 1) := by decide +kernel
theorem dX9_seekOrder_56 : decode cX9_seekOrder 56 = .ok (.istore 7, 2) := by decide +kernel
theorem dX9_seekOrder_58 : decode cX9_seekOrder 58 = .ok (.iload 7, 2) := by decide +kernel
theorem dX9_seekOrder_60 : decode cX9_seekOrder 60 = .ok (.bipush 120, 2) := by decide +kernel
theorem dX9_seekOrder_62 : decode cX9_seekOrder 62 = .ok (.if_icmp .ge 59, 3) := by decide +kernel
theorem dX9_seekOrder_65 : decode cX9_seekOrder 65 = .ok (.iload 6, 2) := by decide +kernel
theorem dX9_seekOrder_67 : decode cX9_seekOrder 67 = .ok (.ifCond .eq 54, 3) := by decide +kernel
theorem dX9_seekOrder_70 : decode cX9_seekOrder 70 = .ok (.aload_n 0, 1) := by decide +kernel
theorem dX9_seekOrder_71 : decode cX9_seekOrder 71 = .ok (.aload_n 1, 1) := by decide +kernel
theorem dX9_seekOrder_72 : decode cX9_seekOrder 72 = .ok (.aload_n 2, 1) := by decide +kernel
theorem dX9_seekOrder_73 : decode cX9_seekOrder 73 = .ok (.iload_n 3, 1) := by decide +kernel
theorem dX9_seekOrder_74 : decode cX9_seekOrder 74 = .ok (.iload 4, 2) := by decide +kernel
theorem dX9_seekOrder_76 : decode cX9_seekOrder 76 = .ok (.invokevirtual 85, 3) := by decide +kernel
theorem dX9_seekOrder_79 : decode cX9_seekOrder 79 = .ok (.istore 8, 2) := by decide +kernel
theorem dX9_seekOrder_81 : decode cX9_seekOrder 81 = .ok (.iload 8, 2) := by decide +kernel
theorem dX9_seekOrder_83 : decode cX9_seekOrder 83 = .ok (.iload 5, 2) := by decide +kernel
theorem dX9_seekOrder_85 : decode cX9_seekOrder 85 = .ok (.if_icmp .le 24, 3) := by decide +kernel
theorem dX9_seekOrder_88 : decode cX9_seekOrder 88 = .ok (.iload 8, 2) := by decide +kernel
theorem dX9_seekOrder_90 : decode cX9_seekOrder 90 = .ok (.istore 5, 2) := by decide +kernel
theorem dX9_seekOrder_92 : decode cX9_seekOrder 92 = .ok (.aload_n 0, 1) := by decide +kernel
theorem dX9_seekOrder_93 : decode cX9_seekOrder 93 = .ok (.getfield 21, 3) := by decide +kernel
theorem dX9_seekOrder_96 : decode cX9_seekOrder 96 = .ok (.iconst 0, 1) := by decide +kernel
theorem dX9_seekOrder_97 : decode cX9_seekOrder 97 = .ok (.aload_n 0, 1) := by decide +kernel
theorem dX9_seekOrder_98 : decode cX9_seekOrder 98 = .ok (.getfield 24, 3) := by decide +kernel
theorem dX9_seekOrder_101 : decode cX9_seekOrder 101 = .ok (.iconst 0, 1) := by decide +kernel
theorem dX9_seekOrder_102 : decode cX9_seekOrder 102 = .ok (.aload_n 0, 1) := by decide +kernel
theorem dX9_seekOrder_103 : decode cX9_seekOrder 103 = .ok (.getfield 30, 3) := by decide +kernel
theorem dX9_seekOrder_106 : decode cX9_seekOrder 106 = .ok (.invokestatic 89, 3) := by decide +kernel
theorem dX9_seekOrder_109 : decode cX9_seekOrder 109 = .ok (.aload_n 0, 1) := by decide +kernel
theorem dX9_seekOrder_110 : decode cX9_seekOrder 110 = .ok (.invokevirtual 95, 3) := by decide +kernel
theorem dX9_seekOrder_113 : decode cX9_seekOrder 113 = .ok (.istore 6, 2) := by decide +kernel
theorem dX9_seekOrder_115 : decode cX9_seekOrder 115 = .ok (.iinc 7 1, 3) := by decide +kernel
theorem dX9_seekOrder_118 : decode cX9_seekOrder 118 = .ok (.goto (-60), 3) := by decide +kernel
theorem dX9_seekOrder_121 : decode cX9_seekOrder 121 = .ok (.iload 5, 2) := by decide +kernel
theorem dX9_seekOrder_123 : decode cX9_seekOrder 123 = .ok (.ireturn, 1) := by decide +kernel
theorem dX9_placeOf_0 : decode cX9_placeOf 0 = .ok (.iload_n 1, 1) := by decide +kernel
theorem dX9_placeOf_1 : decode cX9_placeOf 1 = .ok (.ifCond .lt 20, 3) := by decide +kernel
theorem dX9_placeOf_4 : decode cX9_placeOf 4 = .ok (.iload_n 1, 1) := by decide +kernel
theorem dX9_placeOf_5 : decode cX9_placeOf 5 = .ok (.aload_n 0, 1) := by decide +kernel
theorem dX9_placeOf_6 : decode cX9_placeOf 6 = .ok (.getfield 30, 3) := by decide +kernel
theorem dX9_placeOf_9 : decode cX9_placeOf 9 = .ok (.if_icmp .ge 12, 3) := by decide +kernel
theorem dX9_placeOf_12 : decode cX9_placeOf 12 = .ok (.aload_n 0, 1) := by decide +kernel
theorem dX9_placeOf_13 : decode cX9_placeOf 13 = .ok (.getfield 24, 3) := by decide +kernel
theorem dX9_placeOf_16 : decode cX9_placeOf 16 = .ok (.iload_n 1, 1) := by decide +kernel
theorem dX9_placeOf_17 : decode cX9_placeOf 17 = .ok (.iaload, 1) := by decide +kernel
theorem dX9_placeOf_18 : decode cX9_placeOf 18 = .ok (.goto 5, 3) := by decide +kernel
theorem dX9_placeOf_21 : decode cX9_placeOf 21 = .ok (.bipush (-2), 2) := by decide +kernel
theorem dX9_placeOf_23 : decode cX9_placeOf 23 = .ok (.ireturn, 1) := by decide +kernel
theorem dX9_salesIn_0 : decode cX9_salesIn 0 = .ok (.iconst 0, 1) := by decide +kernel
theorem dX9_salesIn_1 : decode cX9_salesIn 1 = .ok (.istore_n 2, 1) := by decide +kernel
theorem dX9_salesIn_2 : decode cX9_salesIn 2 = .ok (.iload_n 2, 1) := by decide +kernel
theorem dX9_salesIn_3 : decode cX9_salesIn 3 = .ok (.bipush 30, 2) := by decide +kernel
theorem dX9_salesIn_5 : decode cX9_salesIn 5 = .ok (.if_icmp .ge 18, 3) := by decide +kernel
theorem dX9_salesIn_8 : decode cX9_salesIn 8 = .ok (.aload_n 0, 1) := by decide +kernel
theorem dX9_salesIn_9 : decode cX9_salesIn 9 = .ok (.aload_n 1, 1) := by decide +kernel
theorem dX9_salesIn_10 : decode cX9_salesIn 10 = .ok (.iload_n 2, 1) := by decide +kernel
theorem dX9_salesIn_11 : decode cX9_salesIn 11 = .ok (.invokevirtual 50, 3) := by decide +kernel
theorem dX9_salesIn_14 : decode cX9_salesIn 14 = .ok (.ifCond .eq 9, 3) := by decide +kernel
theorem dX9_salesIn_17 : decode cX9_salesIn 17 = .ok (.iinc 2 1, 3) := by decide +kernel
theorem dX9_salesIn_20 : decode cX9_salesIn 20 = .ok (.goto (-18), 3) := by decide +kernel
theorem dX9_salesIn_23 : decode cX9_salesIn 23 = .ok (.iload_n 2, 1) := by decide +kernel
theorem dX9_salesIn_24 : decode cX9_salesIn 24 = .ok (.ireturn, 1) := by decide +kernel
theorem dX9_outcome_0 : decode cX9_outcome 0 = .ok (.aload_n 0, 1) := by decide +kernel
theorem dX9_outcome_1 : decode cX9_outcome 1 = .ok (.getfield 42, 3) := by decide +kernel
theorem dX9_outcome_4 : decode cX9_outcome 4 = .ok (.aload_n 2, 1) := by decide +kernel
theorem dX9_outcome_5 : decode cX9_outcome 5 = .ok (.invokevirtual 46, 3) := by decide +kernel
theorem dX9_outcome_8 : decode cX9_outcome 8 = .ok (.iconst 1, 1) := by decide +kernel
theorem dX9_outcome_9 : decode cX9_outcome 9 = .ok (.istore 5, 2) := by decide +kernel
theorem dX9_outcome_11 : decode cX9_outcome 11 = .ok (.iconst 0, 1) := by decide +kernel
theorem dX9_outcome_12 : decode cX9_outcome 12 = .ok (.istore 6, 2) := by decide +kernel
theorem dX9_outcome_14 : decode cX9_outcome 14 = .ok (.iload 6, 2) := by decide +kernel
theorem dX9_outcome_16 : decode cX9_outcome 16 = .ok (.aload_n 0, 1) := by decide +kernel
theorem dX9_outcome_17 : decode cX9_outcome 17 = .ok (.getfield 27, 3) := by decide +kernel
theorem dX9_outcome_20 : decode cX9_outcome 20 = .ok (.if_icmp .ge 76, 3) := by decide +kernel
theorem dX9_outcome_23 : decode cX9_outcome 23 = .ok (.iload 5, 2) := by decide +kernel
theorem dX9_outcome_25 : decode cX9_outcome 25 = .ok (.ifCond .eq 71, 3) := by decide +kernel
theorem dX9_outcome_28 : decode cX9_outcome 28 = .ok (.iload 6, 2) := by decide +kernel
theorem dX9_outcome_30 : decode cX9_outcome 30 = .ok (.aload_n 0, 1) := by decide +kernel
theorem dX9_outcome_31 : decode cX9_outcome 31 = .ok (.getfield 30, 3) := by decide +kernel
theorem dX9_outcome_34 : decode cX9_outcome 34 = .ok (.if_icmp .ge 13, 3) := by decide +kernel
theorem dX9_outcome_37 : decode cX9_outcome 37 = .ok (.aload_n 0, 1) := by decide +kernel
theorem dX9_outcome_38 : decode cX9_outcome 38 = .ok (.getfield 21, 3) := by decide +kernel
theorem dX9_outcome_41 : decode cX9_outcome 41 = .ok (.iload 6, 2) := by decide +kernel
theorem dX9_outcome_43 : decode cX9_outcome 43 = .ok (.iaload, 1) := by decide +kernel
theorem dX9_outcome_44 : decode cX9_outcome 44 = .ok (.goto 5, 3) := by decide +kernel
theorem dX9_outcome_47 : decode cX9_outcome 47 = .ok (.iload 6, 2) := by decide +kernel
theorem dX9_outcome_49 : decode cX9_outcome 49 = .ok (.istore 7, 2) := by decide +kernel
theorem dX9_outcome_51 : decode cX9_outcome 51 = .ok (.aload_n 0, 1) := by decide +kernel
theorem dX9_outcome_52 : decode cX9_outcome 52 = .ok (.getfield 33, 3) := by decide +kernel
theorem dX9_outcome_55 : decode cX9_outcome 55 = .ok (.aload_n 0, 1) := by decide +kernel
theorem dX9_outcome_56 : decode cX9_outcome 56 = .ok (.getfield 42, 3) := by decide +kernel
theorem dX9_outcome_59 : decode cX9_outcome 59 = .ok (.aload_n 1, 1) := by decide +kernel
theorem dX9_outcome_60 : decode cX9_outcome 60 = .ok (.iconst 2, 1) := by decide +kernel
theorem dX9_outcome_61 : decode cX9_outcome 61 = .ok (.iload 7, 2) := by decide +kernel
theorem dX9_outcome_63 : decode cX9_outcome 63 = .ok (.imul, 1) := by decide +kernel
theorem dX9_outcome_64 : decode cX9_outcome 64 = .ok (.invokevirtual 54, 3) := by decide +kernel
theorem dX9_outcome_67 : decode cX9_outcome 67 = .ok (.aload_n 1, 1) := by decide +kernel
theorem dX9_outcome_68 : decode cX9_outcome 68 = .ok (.iconst 2, 1) := by decide +kernel
theorem dX9_outcome_69 : decode cX9_outcome 69 = .ok (.iload 7, 2) := by decide +kernel
theorem dX9_outcome_71 : decode cX9_outcome 71 = .ok (.imul, 1) := by decide +kernel
theorem dX9_outcome_72 : decode cX9_outcome 72 = .ok (.iconst 1, 1) := by decide +kernel
theorem dX9_outcome_73 : decode cX9_outcome 73 = .ok (.iadd, 1) := by decide +kernel
theorem dX9_outcome_74 : decode cX9_outcome 74 = .ok (.invokevirtual 54, 3) := by decide +kernel
theorem dX9_outcome_77 : decode cX9_outcome 77 = .ok (.invokevirtual 58, 3) := by decide +kernel
theorem dX9_outcome_80 : decode cX9_outcome 80 = .ok (.ifCond .lt 7, 3) := by decide +kernel
theorem dX9_outcome_83 : decode cX9_outcome 83 = .ok (.iconst 1, 1) := by decide +kernel
theorem dX9_outcome_84 : decode cX9_outcome 84 = .ok (.goto 4, 3) := by decide +kernel
theorem dX9_outcome_87 : decode cX9_outcome 87 = .ok (.iconst 0, 1) := by decide +kernel
theorem dX9_outcome_88 : decode cX9_outcome 88 = .ok (.istore 5, 2) := by decide +kernel
theorem dX9_outcome_90 : decode cX9_outcome 90 = .ok (.iinc 6 1, 3) := by decide +kernel
theorem dX9_outcome_93 : decode cX9_outcome 93 = .ok (.goto (-79), 3) := by decide +kernel
theorem dX9_outcome_96 : decode cX9_outcome 96 = .ok (.aload_n 0, 1) := by decide +kernel
theorem dX9_outcome_97 : decode cX9_outcome 97 = .ok (.getfield 42, 3) := by decide +kernel
theorem dX9_outcome_100 : decode cX9_outcome 100 = .ok (.iload 4, 2) := by decide +kernel
theorem dX9_outcome_102 : decode cX9_outcome 102 = .ok (.invokevirtual 99, 3) := by decide +kernel
theorem dX9_outcome_105 : decode cX9_outcome 105 = .ok (.pop, 1) := by decide +kernel
theorem dX9_outcome_106 : decode cX9_outcome 106 = .ok (.aload_n 0, 1) := by decide +kernel
theorem dX9_outcome_107 : decode cX9_outcome 107 = .ok (.getfield 42, 3) := by decide +kernel
theorem dX9_outcome_110 : decode cX9_outcome 110 = .ok (.iload_n 3, 1) := by decide +kernel
theorem dX9_outcome_111 : decode cX9_outcome 111 = .ok (.invokevirtual 72, 3) := by decide +kernel
theorem dX9_outcome_114 : decode cX9_outcome 114 = .ok (.ireturn, 1) := by decide +kernel
theorem dX9_nextOrder_0 : decode cX9_nextOrder 0 = .ok (.aload_n 0, 1) := by decide +kernel
theorem dX9_nextOrder_1 : decode cX9_nextOrder 1 = .ok (.getfield 30, 3) := by decide +kernel
theorem dX9_nextOrder_4 : decode cX9_nextOrder 4 = .ok (.iconst 2, 1) := by decide +kernel
theorem dX9_nextOrder_5 : decode cX9_nextOrder 5 = .ok (.isub, 1) := by decide +kernel
theorem dX9_nextOrder_6 : decode cX9_nextOrder 6 = .ok (.istore_n 1, 1) := by decide +kernel
theorem dX9_nextOrder_7 : decode cX9_nextOrder 7 = .ok (.iload_n 1, 1) := by decide +kernel
theorem dX9_nextOrder_8 : decode cX9_nextOrder 8 = .ok (.ifCond .lt 26, 3) := by decide +kernel
theorem dX9_nextOrder_11 : decode cX9_nextOrder 11 = .ok (.aload_n 0, 1) := by decide +kernel
theorem dX9_nextOrder_12 : decode cX9_nextOrder 12 = .ok (.getfield 21, 3) := by decide +kernel
theorem dX9_nextOrder_15 : decode cX9_nextOrder 15 = .ok (.iload_n 1, 1) := by decide +kernel
theorem dX9_nextOrder_16 : decode cX9_nextOrder 16 = .ok (.iaload, 1) := by decide +kernel
theorem dX9_nextOrder_17 : decode cX9_nextOrder 17 = .ok (.aload_n 0, 1) := by decide +kernel
theorem dX9_nextOrder_18 : decode cX9_nextOrder 18 = .ok (.getfield 21, 3) := by decide +kernel
theorem dX9_nextOrder_21 : decode cX9_nextOrder 21 = .ok (.iload_n 1, 1) := by decide +kernel
theorem dX9_nextOrder_22 : decode cX9_nextOrder 22 = .ok (.iconst 1, 1) := by decide +kernel
theorem dX9_nextOrder_23 : decode cX9_nextOrder 23 = .ok (.iadd, 1) := by decide +kernel
theorem dX9_nextOrder_24 : decode cX9_nextOrder 24 = .ok (.iaload, 1) := by decide +kernel
theorem dX9_nextOrder_25 : decode cX9_nextOrder 25 = .ok (.if_icmp .le 9, 3) := by decide +kernel
theorem dX9_nextOrder_28 : decode cX9_nextOrder 28 = .ok (.iinc 1 (-1), 3) := by decide +kernel
theorem dX9_nextOrder_31 : decode cX9_nextOrder 31 = .ok (.goto (-24), 3) := by decide +kernel
theorem dX9_nextOrder_34 : decode cX9_nextOrder 34 = .ok (.iload_n 1, 1) := by decide +kernel
theorem dX9_nextOrder_35 : decode cX9_nextOrder 35 = .ok (.ifCond .ge 5, 3) := by decide +kernel
theorem dX9_nextOrder_38 : decode cX9_nextOrder 38 = .ok (.iconst 0, 1) := by decide +kernel
theorem dX9_nextOrder_39 : decode cX9_nextOrder 39 = .ok (.ireturn, 1) := by decide +kernel
theorem dX9_nextOrder_40 : decode cX9_nextOrder 40 = .ok (.aload_n 0, 1) := by decide +kernel
theorem dX9_nextOrder_41 : decode cX9_nextOrder 41 = .ok (.getfield 30, 3) := by decide +kernel
theorem dX9_nextOrder_44 : decode cX9_nextOrder 44 = .ok (.iconst 1, 1) := by decide +kernel
theorem dX9_nextOrder_45 : decode cX9_nextOrder 45 = .ok (.isub, 1) := by decide +kernel
theorem dX9_nextOrder_46 : decode cX9_nextOrder 46 = .ok (.istore_n 2, 1) := by decide +kernel
theorem dX9_nextOrder_47 : decode cX9_nextOrder 47 = .ok (.iload_n 2, 1) := by decide +kernel
theorem dX9_nextOrder_48 : decode cX9_nextOrder 48 = .ok (.iload_n 1, 1) := by decide +kernel
theorem dX9_nextOrder_49 : decode cX9_nextOrder 49 = .ok (.if_icmp .le 24, 3) := by decide +kernel
theorem dX9_nextOrder_52 : decode cX9_nextOrder 52 = .ok (.aload_n 0, 1) := by decide +kernel
theorem dX9_nextOrder_53 : decode cX9_nextOrder 53 = .ok (.getfield 21, 3) := by decide +kernel
theorem dX9_nextOrder_56 : decode cX9_nextOrder 56 = .ok (.iload_n 2, 1) := by decide +kernel
theorem dX9_nextOrder_57 : decode cX9_nextOrder 57 = .ok (.iaload, 1) := by decide +kernel
theorem dX9_nextOrder_58 : decode cX9_nextOrder 58 = .ok (.aload_n 0, 1) := by decide +kernel
theorem dX9_nextOrder_59 : decode cX9_nextOrder 59 = .ok (.getfield 21, 3) := by decide +kernel
theorem dX9_nextOrder_62 : decode cX9_nextOrder 62 = .ok (.iload_n 1, 1) := by decide +kernel
theorem dX9_nextOrder_63 : decode cX9_nextOrder 63 = .ok (.iaload, 1) := by decide +kernel
theorem dX9_nextOrder_64 : decode cX9_nextOrder 64 = .ok (.if_icmp .ge 9, 3) := by decide +kernel
theorem dX9_nextOrder_67 : decode cX9_nextOrder 67 = .ok (.iinc 2 (-1), 3) := by decide +kernel
theorem dX9_nextOrder_70 : decode cX9_nextOrder 70 = .ok (.goto (-23), 3) := by decide +kernel
theorem dX9_nextOrder_73 : decode cX9_nextOrder 73 = .ok (.aload_n 0, 1) := by decide +kernel
theorem dX9_nextOrder_74 : decode cX9_nextOrder 74 = .ok (.iload_n 1, 1) := by decide +kernel
theorem dX9_nextOrder_75 : decode cX9_nextOrder 75 = .ok (.iload_n 2, 1) := by decide +kernel
theorem dX9_nextOrder_76 : decode cX9_nextOrder 76 = .ok (.invokevirtual 102, 3) := by decide +kernel
theorem dX9_nextOrder_79 : decode cX9_nextOrder 79 = .ok (.iload_n 1, 1) := by decide +kernel
theorem dX9_nextOrder_80 : decode cX9_nextOrder 80 = .ok (.iconst 1, 1) := by decide +kernel
theorem dX9_nextOrder_81 : decode cX9_nextOrder 81 = .ok (.iadd, 1) := by decide +kernel
theorem dX9_nextOrder_82 : decode cX9_nextOrder 82 = .ok (.istore_n 3, 1) := by decide +kernel
theorem dX9_nextOrder_83 : decode cX9_nextOrder 83 = .ok (.aload_n 0, 1) := by decide +kernel
theorem dX9_nextOrder_84 : decode cX9_nextOrder 84 = .ok (.getfield 30, 3) := by decide +kernel
theorem dX9_nextOrder_87 : decode cX9_nextOrder 87 = .ok (.iconst 1, 1) := by decide +kernel
theorem dX9_nextOrder_88 : decode cX9_nextOrder 88 = .ok (.isub, 1) := by decide +kernel
theorem dX9_nextOrder_89 : decode cX9_nextOrder 89 = .ok (.istore 4, 2) := by decide +kernel
theorem dX9_nextOrder_91 : decode cX9_nextOrder 91 = .ok (.iload_n 3, 1) := by decide +kernel
theorem dX9_nextOrder_92 : decode cX9_nextOrder 92 = .ok (.iload 4, 2) := by decide +kernel
theorem dX9_nextOrder_94 : decode cX9_nextOrder 94 = .ok (.if_icmp .ge 19, 3) := by decide +kernel
theorem dX9_nextOrder_97 : decode cX9_nextOrder 97 = .ok (.aload_n 0, 1) := by decide +kernel
theorem dX9_nextOrder_98 : decode cX9_nextOrder 98 = .ok (.iload_n 3, 1) := by decide +kernel
theorem dX9_nextOrder_99 : decode cX9_nextOrder 99 = .ok (.iload 4, 2) := by decide +kernel
theorem dX9_nextOrder_101 : decode cX9_nextOrder 101 = .ok (.invokevirtual 102, 3) := by decide +kernel
theorem dX9_nextOrder_104 : decode cX9_nextOrder 104 = .ok (.iinc 3 1, 3) := by decide +kernel
theorem dX9_nextOrder_107 : decode cX9_nextOrder 107 = .ok (.iinc 4 (-1), 3) := by decide +kernel
theorem dX9_nextOrder_110 : decode cX9_nextOrder 110 = .ok (.goto (-19), 3) := by decide +kernel
theorem dX9_nextOrder_113 : decode cX9_nextOrder 113 = .ok (.iconst 1, 1) := by decide +kernel
theorem dX9_nextOrder_114 : decode cX9_nextOrder 114 = .ok (.ireturn, 1) := by decide +kernel
theorem dX9_swapPlaces_0 : decode cX9_swapPlaces 0 = .ok (.aload_n 0, 1) := by decide +kernel
theorem dX9_swapPlaces_1 : decode cX9_swapPlaces 1 = .ok (.getfield 21, 3) := by decide +kernel
theorem dX9_swapPlaces_4 : decode cX9_swapPlaces 4 = .ok (.iload_n 1, 1) := by decide +kernel
theorem dX9_swapPlaces_5 : decode cX9_swapPlaces 5 = .ok (.iaload, 1) := by decide +kernel
theorem dX9_swapPlaces_6 : decode cX9_swapPlaces 6 = .ok (.istore_n 3, 1) := by decide +kernel
theorem dX9_swapPlaces_7 : decode cX9_swapPlaces 7 = .ok (.aload_n 0, 1) := by decide +kernel
theorem dX9_swapPlaces_8 : decode cX9_swapPlaces 8 = .ok (.getfield 21, 3) := by decide +kernel
theorem dX9_swapPlaces_11 : decode cX9_swapPlaces 11 = .ok (.iload_n 1, 1) := by decide +kernel
theorem dX9_swapPlaces_12 : decode cX9_swapPlaces 12 = .ok (.aload_n 0, 1) := by decide +kernel
theorem dX9_swapPlaces_13 : decode cX9_swapPlaces 13 = .ok (.getfield 21, 3) := by decide +kernel
theorem dX9_swapPlaces_16 : decode cX9_swapPlaces 16 = .ok (.iload_n 2, 1) := by decide +kernel
theorem dX9_swapPlaces_17 : decode cX9_swapPlaces 17 = .ok (.iaload, 1) := by decide +kernel
theorem dX9_swapPlaces_18 : decode cX9_swapPlaces 18 = .ok (.iastore, 1) := by decide +kernel
theorem dX9_swapPlaces_19 : decode cX9_swapPlaces 19 = .ok (.aload_n 0, 1) := by decide +kernel
theorem dX9_swapPlaces_20 : decode cX9_swapPlaces 20 = .ok (.getfield 21, 3) := by decide +kernel
theorem dX9_swapPlaces_23 : decode cX9_swapPlaces 23 = .ok (.iload_n 2, 1) := by decide +kernel
theorem dX9_swapPlaces_24 : decode cX9_swapPlaces 24 = .ok (.iload_n 3, 1) := by decide +kernel
theorem dX9_swapPlaces_25 : decode cX9_swapPlaces 25 = .ok (.iastore, 1) := by decide +kernel
theorem dX9_swapPlaces_26 : decode cX9_swapPlaces 26 = .ok (.return_, 1) := by decide +kernel
theorem dX9_firstFalse_0 : decode cX9_firstFalse 0 = .ok (.aload_n 0, 1) := by decide +kernel
theorem dX9_firstFalse_1 : decode cX9_firstFalse 1 = .ok (.getfield 42, 3) := by decide +kernel
theorem dX9_firstFalse_4 : decode cX9_firstFalse 4 = .ok (.aload_n 2, 1) := by decide +kernel
theorem dX9_firstFalse_5 : decode cX9_firstFalse 5 = .ok (.invokevirtual 46, 3) := by decide +kernel
theorem dX9_firstFalse_8 : decode cX9_firstFalse 8 = .ok (.iconst 0, 1) := by decide +kernel
theorem dX9_firstFalse_9 : decode cX9_firstFalse 9 = .ok (.istore_n 3, 1) := by decide +kernel
theorem dX9_firstFalse_10 : decode cX9_firstFalse 10 = .ok (.iload_n 3, 1) := by decide +kernel
theorem dX9_firstFalse_11 : decode cX9_firstFalse 11 = .ok (.bipush 20, 2) := by decide +kernel
theorem dX9_firstFalse_13 : decode cX9_firstFalse 13 = .ok (.if_icmp .ge 120, 3) := by decide +kernel
theorem dX9_firstFalse_16 : decode cX9_firstFalse 16 = .ok (.aload_n 1, 1) := by decide +kernel
theorem dX9_firstFalse_17 : decode cX9_firstFalse 17 = .ok (.iconst 3, 1) := by decide +kernel
theorem dX9_firstFalse_18 : decode cX9_firstFalse 18 = .ok (.iload_n 3, 1) := by decide +kernel
theorem dX9_firstFalse_19 : decode cX9_firstFalse 19 = .ok (.imul, 1) := by decide +kernel
theorem dX9_firstFalse_20 : decode cX9_firstFalse 20 = .ok (.invokevirtual 64, 3) := by decide +kernel
theorem dX9_firstFalse_23 : decode cX9_firstFalse 23 = .ok (.ifCond .eq 110, 3) := by decide +kernel
theorem dX9_firstFalse_26 : decode cX9_firstFalse 26 = .ok (.aload_n 1, 1) := by decide +kernel
theorem dX9_firstFalse_27 : decode cX9_firstFalse 27 = .ok (.iconst 3, 1) := by decide +kernel
theorem dX9_firstFalse_28 : decode cX9_firstFalse 28 = .ok (.iload_n 3, 1) := by decide +kernel
theorem dX9_firstFalse_29 : decode cX9_firstFalse 29 = .ok (.imul, 1) := by decide +kernel
theorem dX9_firstFalse_30 : decode cX9_firstFalse 30 = .ok (.invokevirtual 54, 3) := by decide +kernel
theorem dX9_firstFalse_33 : decode cX9_firstFalse 33 = .ok (.istore 4, 2) := by decide +kernel
theorem dX9_firstFalse_35 : decode cX9_firstFalse 35 = .ok (.aload_n 1, 1) := by decide +kernel
theorem dX9_firstFalse_36 : decode cX9_firstFalse 36 = .ok (.iconst 3, 1) := by decide +kernel
theorem dX9_firstFalse_37 : decode cX9_firstFalse 37 = .ok (.iload_n 3, 1) := by decide +kernel
theorem dX9_firstFalse_38 : decode cX9_firstFalse 38 = .ok (.imul, 1) := by decide +kernel
theorem dX9_firstFalse_39 : decode cX9_firstFalse 39 = .ok (.iconst 1, 1) := by decide +kernel
theorem dX9_firstFalse_40 : decode cX9_firstFalse 40 = .ok (.iadd, 1) := by decide +kernel
theorem dX9_firstFalse_41 : decode cX9_firstFalse 41 = .ok (.invokevirtual 54, 3) := by decide +kernel
theorem dX9_firstFalse_44 : decode cX9_firstFalse 44 = .ok (.istore 5, 2) := by decide +kernel
theorem dX9_firstFalse_46 : decode cX9_firstFalse 46 = .ok (.aload_n 1, 1) := by decide +kernel
theorem dX9_firstFalse_47 : decode cX9_firstFalse 47 = .ok (.iconst 3, 1) := by decide +kernel
theorem dX9_firstFalse_48 : decode cX9_firstFalse 48 = .ok (.iload_n 3, 1) := by decide +kernel
theorem dX9_firstFalse_49 : decode cX9_firstFalse 49 = .ok (.imul, 1) := by decide +kernel
theorem dX9_firstFalse_50 : decode cX9_firstFalse 50 = .ok (.iconst 2, 1) := by decide +kernel
theorem dX9_firstFalse_51 : decode cX9_firstFalse 51 = .ok (.iadd, 1) := by decide +kernel
theorem dX9_firstFalse_52 : decode cX9_firstFalse 52 = .ok (.invokevirtual 64, 3) := by decide +kernel
theorem dX9_firstFalse_55 : decode cX9_firstFalse 55 = .ok (.ifCond .eq 21, 3) := by decide +kernel
theorem dX9_firstFalse_58 : decode cX9_firstFalse 58 = .ok (.aload_n 0, 1) := by decide +kernel
theorem dX9_firstFalse_59 : decode cX9_firstFalse 59 = .ok (.getfield 33, 3) := by decide +kernel
theorem dX9_firstFalse_62 : decode cX9_firstFalse 62 = .ok (.iload 4, 2) := by decide +kernel
theorem dX9_firstFalse_64 : decode cX9_firstFalse 64 = .ok (.iload 5, 2) := by decide +kernel
theorem dX9_firstFalse_66 : decode cX9_firstFalse 66 = .ok (.invokevirtual 68, 3) := by decide +kernel
theorem dX9_firstFalse_69 : decode cX9_firstFalse 69 = .ok (.ifCond .eq 7, 3) := by decide +kernel
theorem dX9_firstFalse_72 : decode cX9_firstFalse 72 = .ok (.iconst 1, 1) := by decide +kernel
theorem dX9_firstFalse_73 : decode cX9_firstFalse 73 = .ok (.goto 4, 3) := by decide +kernel
theorem dX9_firstFalse_76 : decode cX9_firstFalse 76 = .ok (.iconst 0, 1) := by decide +kernel
theorem dX9_firstFalse_77 : decode cX9_firstFalse 77 = .ok (.istore 6, 2) := by decide +kernel
theorem dX9_firstFalse_79 : decode cX9_firstFalse 79 = .ok (.iload 6, 2) := by decide +kernel
theorem dX9_firstFalse_81 : decode cX9_firstFalse 81 = .ok (.ifCond .eq 21, 3) := by decide +kernel
theorem dX9_firstFalse_84 : decode cX9_firstFalse 84 = .ok (.aload_n 0, 1) := by decide +kernel
theorem dX9_firstFalse_85 : decode cX9_firstFalse 85 = .ok (.getfield 33, 3) := by decide +kernel
theorem dX9_firstFalse_88 : decode cX9_firstFalse 88 = .ok (.aload_n 0, 1) := by decide +kernel
theorem dX9_firstFalse_89 : decode cX9_firstFalse 89 = .ok (.getfield 42, 3) := by decide +kernel
theorem dX9_firstFalse_92 : decode cX9_firstFalse 92 = .ok (.iload 4, 2) := by decide +kernel
theorem dX9_firstFalse_94 : decode cX9_firstFalse 94 = .ok (.iload 5, 2) := by decide +kernel
theorem dX9_firstFalse_96 : decode cX9_firstFalse 96 = .ok (.invokevirtual 58, 3) := by decide +kernel
theorem dX9_firstFalse_99 : decode cX9_firstFalse 99 = .ok (.goto 5, 3) := by decide +kernel
theorem dX9_firstFalse_102 : decode cX9_firstFalse 102 = .ok (.bipush (-2), 2) := by decide +kernel
theorem dX9_firstFalse_104 : decode cX9_firstFalse 104 = .ok (.istore 7, 2) := by decide +kernel
theorem dX9_firstFalse_106 : decode cX9_firstFalse 106 = .ok (.iload 7, 2) := by decide +kernel
theorem dX9_firstFalse_108 : decode cX9_firstFalse 108 = .ok (.ifCond .lt 17, 3) := by decide +kernel
theorem dX9_firstFalse_111 : decode cX9_firstFalse 111 = .ok (.iload 7, 2) := by decide +kernel
theorem dX9_firstFalse_113 : decode cX9_firstFalse 113 = .ok (.aload_n 1, 1) := by decide +kernel
theorem dX9_firstFalse_114 : decode cX9_firstFalse 114 = .ok (.iconst 3, 1) := by decide +kernel
theorem dX9_firstFalse_115 : decode cX9_firstFalse 115 = .ok (.iload_n 3, 1) := by decide +kernel
theorem dX9_firstFalse_116 : decode cX9_firstFalse 116 = .ok (.imul, 1) := by decide +kernel
theorem dX9_firstFalse_117 : decode cX9_firstFalse 117 = .ok (.iconst 2, 1) := by decide +kernel
theorem dX9_firstFalse_118 : decode cX9_firstFalse 118 = .ok (.iadd, 1) := by decide +kernel
theorem dX9_firstFalse_119 : decode cX9_firstFalse 119 = .ok (.invokevirtual 54, 3) := by decide +kernel
theorem dX9_firstFalse_122 : decode cX9_firstFalse 122 = .ok (.if_icmp .eq 5, 3) := by decide +kernel
theorem dX9_firstFalse_125 : decode cX9_firstFalse 125 = .ok (.iload_n 3, 1) := by decide +kernel
theorem dX9_firstFalse_126 : decode cX9_firstFalse 126 = .ok (.ireturn, 1) := by decide +kernel
theorem dX9_firstFalse_127 : decode cX9_firstFalse 127 = .ok (.iinc 3 1, 3) := by decide +kernel
theorem dX9_firstFalse_130 : decode cX9_firstFalse 130 = .ok (.goto (-120), 3) := by decide +kernel
theorem dX9_firstFalse_133 : decode cX9_firstFalse 133 = .ok (.bipush (-2), 2) := by decide +kernel
theorem dX9_firstFalse_135 : decode cX9_firstFalse 135 = .ok (.ireturn, 1) := by decide +kernel
theorem dX10_init_0 : decode cX10_init 0 = .ok (.aload_n 0, 1) := by decide +kernel
theorem dX10_init_1 : decode cX10_init 1 = .ok (.invokespecial 1, 3) := by decide +kernel
theorem dX10_init_4 : decode cX10_init 4 = .ok (.aload_n 0, 1) := by decide +kernel
theorem dX10_init_5 : decode cX10_init 5 = .ok (.new 7, 3) := by decide +kernel
theorem dX10_init_8 : decode cX10_init 8 = .ok (.dup, 1) := by decide +kernel
theorem dX10_init_9 : decode cX10_init 9 = .ok (.invokespecial 9, 3) := by decide +kernel
theorem dX10_init_12 : decode cX10_init 12 = .ok (.putfield 10, 3) := by decide +kernel
theorem dX10_init_15 : decode cX10_init 15 = .ok (.aload_n 0, 1) := by decide +kernel
theorem dX10_init_16 : decode cX10_init 16 = .ok (.new 16, 3) := by decide +kernel
theorem dX10_init_19 : decode cX10_init 19 = .ok (.dup, 1) := by decide +kernel
theorem dX10_init_20 : decode cX10_init 20 = .ok (.invokespecial 18, 3) := by decide +kernel
theorem dX10_init_23 : decode cX10_init 23 = .ok (.putfield 19, 3) := by decide +kernel
theorem dX10_init_26 : decode cX10_init 26 = .ok (.aload_n 0, 1) := by decide +kernel
theorem dX10_init_27 : decode cX10_init 27 = .ok (.new 23, 3) := by decide +kernel
theorem dX10_init_30 : decode cX10_init 30 = .ok (.dup, 1) := by decide +kernel
theorem dX10_init_31 : decode cX10_init 31 = .ok (.aload_n 0, 1) := by decide +kernel
theorem dX10_init_32 : decode cX10_init 32 = .ok (.getfield 10, 3) := by decide +kernel
theorem dX10_init_35 : decode cX10_init 35 = .ok (.aload_n 0, 1) := by decide +kernel
theorem dX10_init_36 : decode cX10_init 36 = .ok (.getfield 19, 3) := by decide +kernel
theorem dX10_init_39 : decode cX10_init 39 = .ok (.invokespecial 25, 3) := by decide +kernel
theorem dX10_init_42 : decode cX10_init 42 = .ok (.putfield 28, 3) := by decide +kernel
theorem dX10_init_45 : decode cX10_init 45 = .ok (.aload_n 0, 1) := by decide +kernel
theorem dX10_init_46 : decode cX10_init 46 = .ok (.new 32, 3) := by decide +kernel
theorem dX10_init_49 : decode cX10_init 49 = .ok (.dup, 1) := by decide +kernel
theorem dX10_init_50 : decode cX10_init 50 = .ok (.aload_n 0, 1) := by decide +kernel
theorem dX10_init_51 : decode cX10_init 51 = .ok (.getfield 10, 3) := by decide +kernel
theorem dX10_init_54 : decode cX10_init 54 = .ok (.aload_n 0, 1) := by decide +kernel
theorem dX10_init_55 : decode cX10_init 55 = .ok (.getfield 28, 3) := by decide +kernel
theorem dX10_init_58 : decode cX10_init 58 = .ok (.invokespecial 34, 3) := by decide +kernel
theorem dX10_init_61 : decode cX10_init 61 = .ok (.putfield 37, 3) := by decide +kernel
theorem dX10_init_64 : decode cX10_init 64 = .ok (.aload_n 0, 1) := by decide +kernel
theorem dX10_init_65 : decode cX10_init 65 = .ok (.new 41, 3) := by decide +kernel
theorem dX10_init_68 : decode cX10_init 68 = .ok (.dup, 1) := by decide +kernel
theorem dX10_init_69 : decode cX10_init 69 = .ok (.aload_n 0, 1) := by decide +kernel
theorem dX10_init_70 : decode cX10_init 70 = .ok (.getfield 10, 3) := by decide +kernel
theorem dX10_init_73 : decode cX10_init 73 = .ok (.invokespecial 43, 3) := by decide +kernel
theorem dX10_init_76 : decode cX10_init 76 = .ok (.putfield 46, 3) := by decide +kernel
theorem dX10_init_79 : decode cX10_init 79 = .ok (.aload_n 0, 1) := by decide +kernel
theorem dX10_init_80 : decode cX10_init 80 = .ok (.new 41, 3) := by decide +kernel
theorem dX10_init_83 : decode cX10_init 83 = .ok (.dup, 1) := by decide +kernel
theorem dX10_init_84 : decode cX10_init 84 = .ok (.aload_n 0, 1) := by decide +kernel
theorem dX10_init_85 : decode cX10_init 85 = .ok (.getfield 10, 3) := by decide +kernel
theorem dX10_init_88 : decode cX10_init 88 = .ok (.invokespecial 43, 3) := by decide +kernel
theorem dX10_init_91 : decode cX10_init 91 = .ok (.putfield 50, 3) := by decide +kernel
theorem dX10_init_94 : decode cX10_init 94 = .ok (.aload_n 0, 1) := by decide +kernel
theorem dX10_init_95 : decode cX10_init 95 = .ok (.new 41, 3) := by decide +kernel
theorem dX10_init_98 : decode cX10_init 98 = .ok (.dup, 1) := by decide +kernel
theorem dX10_init_99 : decode cX10_init 99 = .ok (.aload_n 0, 1) := by decide +kernel
theorem dX10_init_100 : decode cX10_init 100 = .ok (.getfield 10, 3) := by decide +kernel
theorem dX10_init_103 : decode cX10_init 103 = .ok (.invokespecial 43, 3) := by decide +kernel
theorem dX10_init_106 : decode cX10_init 106 = .ok (.putfield 53, 3) := by decide +kernel
theorem dX10_init_109 : decode cX10_init 109 = .ok (.aload_n 0, 1) := by decide +kernel
theorem dX10_init_110 : decode cX10_init 110 = .ok (.bipush 6, 2) := by decide +kernel
theorem dX10_init_112 : decode cX10_init 112 = .ok (.newarray .int, 2) := by decide +kernel
theorem dX10_init_114 : decode cX10_init 114 = .ok (.putfield 56, 3) := by decide +kernel
theorem dX10_init_117 : decode cX10_init 117 = .ok (.aload_n 0, 1) := by decide +kernel
theorem dX10_init_118 : decode cX10_init 118 = .ok (.bipush 6, 2) := by decide +kernel
theorem dX10_init_120 : decode cX10_init 120 = .ok (.newarray .int, 2) := by decide +kernel
theorem dX10_init_122 : decode cX10_init 122 = .ok (.putfield 60, 3) := by decide +kernel
theorem dX10_init_125 : decode cX10_init 125 = .ok (.aload_n 0, 1) := by decide +kernel
theorem dX10_init_126 : decode cX10_init 126 = .ok (.iconst 0, 1) := by decide +kernel
theorem dX10_init_127 : decode cX10_init 127 = .ok (.putfield 63, 3) := by decide +kernel
theorem dX10_init_130 : decode cX10_init 130 = .ok (.aload_n 0, 1) := by decide +kernel
theorem dX10_init_131 : decode cX10_init 131 = .ok (.new 67, 3) := by decide +kernel
theorem dX10_init_134 : decode cX10_init 134 = .ok (.dup, 1) := by decide +kernel
theorem dX10_init_135 : decode cX10_init 135 = .ok (.invokespecial 69, 3) := by decide +kernel
theorem dX10_init_138 : decode cX10_init 138 = .ok (.putfield 70, 3) := by decide +kernel
theorem dX10_init_141 : decode cX10_init 141 = .ok (.aload_n 0, 1) := by decide +kernel
theorem dX10_init_142 : decode cX10_init 142 = .ok (.new 74, 3) := by decide +kernel
theorem dX10_init_145 : decode cX10_init 145 = .ok (.dup, 1) := by decide +kernel
theorem dX10_init_146 : decode cX10_init 146 = .ok (.invokespecial 76, 3) := by decide +kernel
theorem dX10_init_149 : decode cX10_init 149 = .ok (.putfield 77, 3) := by decide +kernel
theorem dX10_init_152 : decode cX10_init 152 = .ok (.aload_n 0, 1) := by decide +kernel
theorem dX10_init_153 : decode cX10_init 153 = .ok (.bipush 6, 2) := by decide +kernel
theorem dX10_init_155 : decode cX10_init 155 = .ok (.anewarray 81, 3) := by decide +kernel
theorem dX10_init_158 : decode cX10_init 158 = .ok (.putfield 83, 3) := by decide +kernel
theorem dX10_init_161 : decode cX10_init 161 = .ok (.iconst 0, 1) := by decide +kernel
theorem dX10_init_162 : decode cX10_init 162 = .ok (.istore_n 1, 1) := by decide +kernel
theorem dX10_init_163 : decode cX10_init 163 = .ok (.iload_n 1, 1) := by decide +kernel
theorem dX10_init_164 : decode cX10_init 164 = .ok (.bipush 6, 2) := by decide +kernel
theorem dX10_init_166 : decode cX10_init 166 = .ok (.if_icmp .ge 22, 3) := by decide +kernel
theorem dX10_init_169 : decode cX10_init 169 = .ok (.aload_n 0, 1) := by decide +kernel
theorem dX10_init_170 : decode cX10_init 170 = .ok (.getfield 83, 3) := by decide +kernel
theorem dX10_init_173 : decode cX10_init 173 = .ok (.iload_n 1, 1) := by decide +kernel
theorem dX10_init_174 : decode cX10_init 174 = .ok (.new 81, 3) := by decide +kernel
theorem dX10_init_177 : decode cX10_init 177 = .ok (.dup, 1) := by decide +kernel
theorem dX10_init_178 : decode cX10_init 178 = .ok (.invokespecial 87, 3) := by decide +kernel
theorem dX10_init_181 : decode cX10_init 181 = .ok (.aastore, 1) := by decide +kernel
theorem dX10_init_182 : decode cX10_init 182 = .ok (.iinc 1 1, 3) := by decide +kernel
theorem dX10_init_185 : decode cX10_init 185 = .ok (.goto (-22), 3) := by decide +kernel
theorem dX10_init_188 : decode cX10_init 188 = .ok (.return_, 1) := by decide +kernel
theorem dX10_account_0 : decode cX10_account 0 = .ok (.iload_n 1, 1) := by decide +kernel
theorem dX10_account_1 : decode cX10_account 1 = .ok (.invokestatic 88, 3) := by decide +kernel
theorem dX10_account_4 : decode cX10_account 4 = .ok (.ifCond .eq 14, 3) := by decide +kernel
theorem dX10_account_7 : decode cX10_account 7 = .ok (.aload_n 0, 1) := by decide +kernel
theorem dX10_account_8 : decode cX10_account 8 = .ok (.getfield 19, 3) := by decide +kernel
theorem dX10_account_11 : decode cX10_account 11 = .ok (.iload_n 1, 1) := by decide +kernel
theorem dX10_account_12 : decode cX10_account 12 = .ok (.invokevirtual 92, 3) := by decide +kernel
theorem dX10_account_15 : decode cX10_account 15 = .ok (.goto 4, 3) := by decide +kernel
theorem dX10_account_18 : decode cX10_account 18 = .ok (.iconst (-1), 1) := by decide +kernel
theorem dX10_account_19 : decode cX10_account 19 = .ok (.ireturn, 1) := by decide +kernel
theorem dX10_accounts_0 : decode cX10_accounts 0 = .ok (.iload_n 1, 1) := by decide +kernel
theorem dX10_accounts_1 : decode cX10_accounts 1 = .ok (.invokestatic 96, 3) := by decide +kernel
theorem dX10_accounts_4 : decode cX10_accounts 4 = .ok (.ifCond .eq 14, 3) := by decide +kernel
theorem dX10_accounts_7 : decode cX10_accounts 7 = .ok (.iload_n 3, 1) := by decide +kernel
theorem dX10_accounts_8 : decode cX10_accounts 8 = .ok (.iconst 1, 1) := by decide +kernel
theorem dX10_accounts_9 : decode cX10_accounts 9 = .ok (.if_icmp .lt 9, 3) := by decide +kernel
theorem dX10_accounts_12 : decode cX10_accounts 12 = .ok (.iload_n 3, 1) := by decide +kernel
theorem dX10_accounts_13 : decode cX10_accounts 13 = .ok (.bipush 6, 2) := by decide +kernel
theorem dX10_accounts_15 : decode cX10_accounts 15 = .ok (.if_icmp .le 5, 3) := by decide +kernel
theorem dX10_accounts_18 : decode cX10_accounts 18 = .ok (.iconst (-1), 1) := by decide +kernel
theorem dX10_accounts_19 : decode cX10_accounts 19 = .ok (.ireturn, 1) := by decide +kernel
theorem dX10_accounts_20 : decode cX10_accounts 20 = .ok (.aload_n 0, 1) := by decide +kernel
theorem dX10_accounts_21 : decode cX10_accounts 21 = .ok (.getfield 83, 3) := by decide +kernel
theorem dX10_accounts_24 : decode cX10_accounts 24 = .ok (.iload_n 1, 1) := by decide +kernel
theorem dX10_accounts_25 : decode cX10_accounts 25 = .ok (.aaload, 1) := by decide +kernel
theorem dX10_accounts_26 : decode cX10_accounts 26 = .ok (.astore 4, 2) := by decide +kernel
theorem dX10_accounts_28 : decode cX10_accounts 28 = .ok (.aload 4, 2) := by decide +kernel
theorem dX10_accounts_30 : decode cX10_accounts 30 = .ok (.invokevirtual 99, 3) := by decide +kernel
theorem dX10_accounts_33 : decode cX10_accounts 33 = .ok (.ifCond .eq 5, 3) := by decide +kernel
theorem dX10_accounts_36 : decode cX10_accounts 36 = .ok (.iconst 0, 1) := by decide +kernel
theorem dX10_accounts_37 : decode cX10_accounts 37 = .ok (.ireturn, 1) := by decide +kernel
theorem dX10_accounts_38 : decode cX10_accounts 38 = .ok (.aload 4, 2) := by decide +kernel
theorem dX10_accounts_40 : decode cX10_accounts 40 = .ok (.invokevirtual 103, 3) := by decide +kernel
theorem dX10_accounts_43 : decode cX10_accounts 43 = .ok (.ifCond .eq 6, 3) := by decide +kernel
theorem dX10_accounts_46 : decode cX10_accounts 46 = .ok (.bipush (-12), 2) := by decide +kernel
theorem dX10_accounts_48 : decode cX10_accounts 48 = .ok (.ireturn, 1) := by decide +kernel
theorem dX10_accounts_49 : decode cX10_accounts 49 = .ok (.iconst 0, 1) := by decide +kernel
theorem dX10_accounts_50 : decode cX10_accounts 50 = .ok (.istore 5, 2) := by decide +kernel
theorem dX10_accounts_52 : decode cX10_accounts 52 = .ok (.iload 5, 2) := by decide +kernel
theorem dX10_accounts_54 : decode cX10_accounts 54 = .ok (.iload_n 3, 1) := by decide +kernel
theorem dX10_accounts_55 : decode cX10_accounts 55 = .ok (.if_icmp .ge 37, 3) := by decide +kernel
theorem dX10_accounts_58 : decode cX10_accounts 58 = .ok (.aload 4, 2) := by decide +kernel
theorem dX10_accounts_60 : decode cX10_accounts 60 = .ok (.iload_n 2, 1) := by decide +kernel
theorem dX10_accounts_61 : decode cX10_accounts 61 = .ok (.iload 5, 2) := by decide +kernel
theorem dX10_accounts_63 : decode cX10_accounts 63 = .ok (.iadd, 1) := by decide +kernel
theorem dX10_accounts_64 : decode cX10_accounts 64 = .ok (.invokevirtual 107, 3) := by decide +kernel
theorem dX10_accounts_67 : decode cX10_accounts 67 = .ok (.ifCond .eq 25, 3) := by decide +kernel
theorem dX10_accounts_70 : decode cX10_accounts 70 = .ok (.aload_n 0, 1) := by decide +kernel
theorem dX10_accounts_71 : decode cX10_accounts 71 = .ok (.aload 4, 2) := by decide +kernel
theorem dX10_accounts_73 : decode cX10_accounts 73 = .ok (.iload_n 2, 1) := by decide +kernel
theorem dX10_accounts_74 : decode cX10_accounts 74 = .ok (.iload 5, 2) := by decide +kernel
theorem dX10_accounts_76 : decode cX10_accounts 76 = .ok (.iadd, 1) := by decide +kernel
theorem dX10_accounts_77 : decode cX10_accounts 77 = .ok (.invokevirtual 110, 3) := by decide +kernel
theorem dX10_accounts_80 : decode cX10_accounts 80 = .ok (.invokevirtual 113, 3) := by decide +kernel
theorem dX10_accounts_83 : decode cX10_accounts 83 = .ok (.ifCond .lt 9, 3) := by decide +kernel
theorem dX10_accounts_86 : decode cX10_accounts 86 = .ok (.iinc 5 1, 3) := by decide +kernel
theorem dX10_accounts_89 : decode cX10_accounts 89 = .ok (.goto (-37), 3) := by decide +kernel
theorem dX10_accounts_92 : decode cX10_accounts 92 = .ok (.iload 5, 2) := by decide +kernel
theorem dX10_accounts_94 : decode cX10_accounts 94 = .ok (.ireturn, 1) := by decide +kernel
theorem dX10_mend_0 : decode cX10_mend 0 = .ok (.aload_n 0, 1) := by decide +kernel
theorem dX10_mend_1 : decode cX10_mend 1 = .ok (.getfield 19, 3) := by decide +kernel
theorem dX10_mend_4 : decode cX10_mend 4 = .ok (.iload_n 1, 1) := by decide +kernel
theorem dX10_mend_5 : decode cX10_mend 5 = .ok (.iload_n 2, 1) := by decide +kernel
theorem dX10_mend_6 : decode cX10_mend 6 = .ok (.invokevirtual 116, 3) := by decide +kernel
theorem dX10_mend_9 : decode cX10_mend 9 = .ok (.ifCond .eq 11, 3) := by decide +kernel
theorem dX10_mend_12 : decode cX10_mend 12 = .ok (.iload_n 2, 1) := by decide +kernel
theorem dX10_mend_13 : decode cX10_mend 13 = .ok (.iload_n 3, 1) := by decide +kernel
theorem dX10_mend_14 : decode cX10_mend 14 = .ok (.invokestatic 120, 3) := by decide +kernel
theorem dX10_mend_17 : decode cX10_mend 17 = .ok (.ifCond .ne 5, 3) := by decide +kernel
theorem dX10_mend_20 : decode cX10_mend 20 = .ok (.iconst (-1), 1) := by decide +kernel
theorem dX10_mend_21 : decode cX10_mend 21 = .ok (.ireturn, 1) := by decide +kernel
theorem dX10_mend_22 : decode cX10_mend 22 = .ok (.aload_n 0, 1) := by decide +kernel
theorem dX10_mend_23 : decode cX10_mend 23 = .ok (.getfield 19, 3) := by decide +kernel
theorem dX10_mend_26 : decode cX10_mend 26 = .ok (.iload_n 1, 1) := by decide +kernel
theorem dX10_mend_27 : decode cX10_mend 27 = .ok (.iload_n 2, 1) := by decide +kernel
theorem dX10_mend_28 : decode cX10_mend 28 = .ok (.iload_n 3, 1) := by decide +kernel
theorem dX10_mend_29 : decode cX10_mend 29 = .ok (.invokevirtual 123, 3) := by decide +kernel
theorem dX10_mend_32 : decode cX10_mend 32 = .ok (.ireturn, 1) := by decide +kernel
theorem dX10_of_0 : decode cX10_of 0 = .ok (.iload_n 2, 1) := by decide +kernel
theorem dX10_of_1 : decode cX10_of 1 = .ok (.iconst 3, 1) := by decide +kernel
theorem dX10_of_2 : decode cX10_of 2 = .ok (.if_icmp .ne 27, 3) := by decide +kernel
theorem dX10_of_5 : decode cX10_of 5 = .ok (.aload_n 0, 1) := by decide +kernel
theorem dX10_of_6 : decode cX10_of 6 = .ok (.getfield 19, 3) := by decide +kernel
theorem dX10_of_9 : decode cX10_of 9 = .ok (.iload_n 1, 1) := by decide +kernel
theorem dX10_of_10 : decode cX10_of 10 = .ok (.invokevirtual 127, 3) := by decide +kernel
theorem dX10_of_13 : decode cX10_of 13 = .ok (.ifCond .eq 14, 3) := by decide +kernel
theorem dX10_of_16 : decode cX10_of 16 = .ok (.aload_n 0, 1) := by decide +kernel
theorem dX10_of_17 : decode cX10_of 17 = .ok (.getfield 46, 3) := by decide +kernel
theorem dX10_of_20 : decode cX10_of 20 = .ok (.iload_n 1, 1) := by decide +kernel
theorem dX10_of_21 : decode cX10_of 21 = .ok (.invokevirtual 130, 3) := by decide +kernel
theorem dX10_of_24 : decode cX10_of 24 = .ok (.goto 4, 3) := by decide +kernel
theorem dX10_of_27 : decode cX10_of 27 = .ok (.iconst (-1), 1) := by decide +kernel
theorem dX10_of_28 : decode cX10_of 28 = .ok (.ireturn, 1) := by decide +kernel
theorem dX10_of_29 : decode cX10_of 29 = .ok (.aload_n 0, 1) := by decide +kernel
theorem dX10_of_30 : decode cX10_of 30 = .ok (.getfield 19, 3) := by decide +kernel
theorem dX10_of_33 : decode cX10_of 33 = .ok (.iload_n 1, 1) := by decide +kernel
theorem dX10_of_34 : decode cX10_of 34 = .ok (.iload_n 2, 1) := by decide +kernel
theorem dX10_of_35 : decode cX10_of 35 = .ok (.invokevirtual 116, 3) := by decide +kernel
theorem dX10_of_38 : decode cX10_of 38 = .ok (.ifCond .eq 15, 3) := by decide +kernel
theorem dX10_of_41 : decode cX10_of 41 = .ok (.aload_n 0, 1) := by decide +kernel
theorem dX10_of_42 : decode cX10_of 42 = .ok (.getfield 19, 3) := by decide +kernel
theorem dX10_of_45 : decode cX10_of 45 = .ok (.iload_n 1, 1) := by decide +kernel
theorem dX10_of_46 : decode cX10_of 46 = .ok (.iload_n 2, 1) := by decide +kernel
theorem dX10_of_47 : decode cX10_of 47 = .ok (.invokevirtual 133, 3) := by decide +kernel
theorem dX10_of_50 : decode cX10_of 50 = .ok (.goto 4, 3) := by decide +kernel
theorem dX10_of_53 : decode cX10_of 53 = .ok (.iconst (-1), 1) := by decide +kernel
theorem dX10_of_54 : decode cX10_of 54 = .ok (.ireturn, 1) := by decide +kernel
theorem dX10_cell_0 : decode cX10_cell 0 = .ok (.iload_n 1, 1) := by decide +kernel
theorem dX10_cell_1 : decode cX10_cell 1 = .ok (.invokestatic 88, 3) := by decide +kernel
theorem dX10_cell_4 : decode cX10_cell 4 = .ok (.ifCond .eq 13, 3) := by decide +kernel
theorem dX10_cell_7 : decode cX10_cell 7 = .ok (.iload_n 2, 1) := by decide +kernel
theorem dX10_cell_8 : decode cX10_cell 8 = .ok (.ifCond .lt 9, 3) := by decide +kernel
theorem dX10_cell_11 : decode cX10_cell 11 = .ok (.iload_n 2, 1) := by decide +kernel
theorem dX10_cell_12 : decode cX10_cell 12 = .ok (.bipush 10, 2) := by decide +kernel
theorem dX10_cell_14 : decode cX10_cell 14 = .ok (.if_icmp .lt 5, 3) := by decide +kernel
theorem dX10_cell_17 : decode cX10_cell 17 = .ok (.iconst (-1), 1) := by decide +kernel
theorem dX10_cell_18 : decode cX10_cell 18 = .ok (.ireturn, 1) := by decide +kernel
theorem dX10_cell_19 : decode cX10_cell 19 = .ok (.iload_n 2, 1) := by decide +kernel
theorem dX10_cell_20 : decode cX10_cell 20 = .ok (.tableswitch 92 0 3 #[32, 57, 66, 83], 32) := by decide +kernel
theorem dX10_cell_52 : decode cX10_cell 52 = .ok (.aload_n 0, 1) := by decide +kernel
theorem dX10_cell_53 : decode cX10_cell 53 = .ok (.getfield 46, 3) := by decide +kernel
theorem dX10_cell_56 : decode cX10_cell 56 = .ok (.iload_n 1, 1) := by decide +kernel
theorem dX10_cell_57 : decode cX10_cell 57 = .ok (.invokevirtual 137, 3) := by decide +kernel
theorem dX10_cell_60 : decode cX10_cell 60 = .ok (.ifCond .eq 14, 3) := by decide +kernel
theorem dX10_cell_63 : decode cX10_cell 63 = .ok (.aload_n 0, 1) := by decide +kernel
theorem dX10_cell_64 : decode cX10_cell 64 = .ok (.getfield 46, 3) := by decide +kernel
theorem dX10_cell_67 : decode cX10_cell 67 = .ok (.iload_n 1, 1) := by decide +kernel
theorem dX10_cell_68 : decode cX10_cell 68 = .ok (.invokevirtual 140, 3) := by decide +kernel
theorem dX10_cell_71 : decode cX10_cell 71 = .ok (.goto 5, 3) := by decide +kernel
theorem dX10_cell_74 : decode cX10_cell 74 = .ok (.bipush (-2), 2) := by decide +kernel
theorem dX10_cell_76 : decode cX10_cell 76 = .ok (.ireturn, 1) := by decide +kernel
theorem dX10_cell_77 : decode cX10_cell 77 = .ok (.aload_n 0, 1) := by decide +kernel
theorem dX10_cell_78 : decode cX10_cell 78 = .ok (.getfield 46, 3) := by decide +kernel
theorem dX10_cell_81 : decode cX10_cell 81 = .ok (.iload_n 1, 1) := by decide +kernel
theorem dX10_cell_82 : decode cX10_cell 82 = .ok (.invokevirtual 143, 3) := by decide +kernel
theorem dX10_cell_85 : decode cX10_cell 85 = .ok (.ireturn, 1) := by decide +kernel
theorem dX10_cell_86 : decode cX10_cell 86 = .ok (.aload_n 0, 1) := by decide +kernel
theorem dX10_cell_87 : decode cX10_cell 87 = .ok (.getfield 46, 3) := by decide +kernel
theorem dX10_cell_90 : decode cX10_cell 90 = .ok (.iload_n 1, 1) := by decide +kernel
theorem dX10_cell_91 : decode cX10_cell 91 = .ok (.invokevirtual 146, 3) := by decide +kernel
theorem dX10_cell_94 : decode cX10_cell 94 = .ok (.ifCond .eq 7, 3) := by decide +kernel
theorem dX10_cell_97 : decode cX10_cell 97 = .ok (.iconst 1, 1) := by decide +kernel
theorem dX10_cell_98 : decode cX10_cell 98 = .ok (.goto 4, 3) := by decide +kernel
theorem dX10_cell_101 : decode cX10_cell 101 = .ok (.iconst 0, 1) := by decide +kernel
theorem dX10_cell_102 : decode cX10_cell 102 = .ok (.ireturn, 1) := by decide +kernel
theorem dX10_cell_103 : decode cX10_cell 103 = .ok (.aload_n 0, 1) := by decide +kernel
theorem dX10_cell_104 : decode cX10_cell 104 = .ok (.getfield 10, 3) := by decide +kernel
theorem dX10_cell_107 : decode cX10_cell 107 = .ok (.iload_n 1, 1) := by decide +kernel
theorem dX10_cell_108 : decode cX10_cell 108 = .ok (.invokevirtual 149, 3) := by decide +kernel
theorem dX10_cell_111 : decode cX10_cell 111 = .ok (.ireturn, 1) := by decide +kernel
theorem dX10_cell_112 : decode cX10_cell 112 = .ok (.aload_n 0, 1) := by decide +kernel
theorem dX10_cell_113 : decode cX10_cell 113 = .ok (.getfield 10, 3) := by decide +kernel
theorem dX10_cell_116 : decode cX10_cell 116 = .ok (.iload_n 1, 1) := by decide +kernel
theorem dX10_cell_117 : decode cX10_cell 117 = .ok (.iload_n 2, 1) := by decide +kernel
theorem dX10_cell_118 : decode cX10_cell 118 = .ok (.iconst 4, 1) := by decide +kernel
theorem dX10_cell_119 : decode cX10_cell 119 = .ok (.isub, 1) := by decide +kernel
theorem dX10_cell_120 : decode cX10_cell 120 = .ok (.invokevirtual 152, 3) := by decide +kernel
theorem dX10_cell_123 : decode cX10_cell 123 = .ok (.ireturn, 1) := by decide +kernel
theorem dX10_far_0 : decode cX10_far 0 = .ok (.iload_n 1, 1) := by decide +kernel
theorem dX10_far_1 : decode cX10_far 1 = .ok (.invokestatic 88, 3) := by decide +kernel
theorem dX10_far_4 : decode cX10_far 4 = .ok (.ifCond .eq 22, 3) := by decide +kernel
theorem dX10_far_7 : decode cX10_far 7 = .ok (.iload_n 2, 1) := by decide +kernel
theorem dX10_far_8 : decode cX10_far 8 = .ok (.invokestatic 88, 3) := by decide +kernel
theorem dX10_far_11 : decode cX10_far 11 = .ok (.ifCond .eq 15, 3) := by decide +kernel
theorem dX10_far_14 : decode cX10_far 14 = .ok (.aload_n 0, 1) := by decide +kernel
theorem dX10_far_15 : decode cX10_far 15 = .ok (.getfield 10, 3) := by decide +kernel
theorem dX10_far_18 : decode cX10_far 18 = .ok (.iload_n 1, 1) := by decide +kernel
theorem dX10_far_19 : decode cX10_far 19 = .ok (.iload_n 2, 1) := by decide +kernel
theorem dX10_far_20 : decode cX10_far 20 = .ok (.invokevirtual 155, 3) := by decide +kernel
theorem dX10_far_23 : decode cX10_far 23 = .ok (.goto 4, 3) := by decide +kernel
theorem dX10_far_26 : decode cX10_far 26 = .ok (.iconst (-1), 1) := by decide +kernel
theorem dX10_far_27 : decode cX10_far 27 = .ok (.ireturn, 1) := by decide +kernel
theorem dX10_feed_0 : decode cX10_feed 0 = .ok (.iload_n 1, 1) := by decide +kernel
theorem dX10_feed_1 : decode cX10_feed 1 = .ok (.ifCond .lt 10, 3) := by decide +kernel
theorem dX10_feed_4 : decode cX10_feed 4 = .ok (.iload_n 1, 1) := by decide +kernel
theorem dX10_feed_5 : decode cX10_feed 5 = .ok (.sipush 255, 3) := by decide +kernel
theorem dX10_feed_8 : decode cX10_feed 8 = .ok (.if_icmp .le 7, 3) := by decide +kernel
theorem dX10_feed_11 : decode cX10_feed 11 = .ok (.iconst (-1), 1) := by decide +kernel
theorem dX10_feed_12 : decode cX10_feed 12 = .ok (.goto 11, 3) := by decide +kernel
theorem dX10_feed_15 : decode cX10_feed 15 = .ok (.aload_n 0, 1) := by decide +kernel
theorem dX10_feed_16 : decode cX10_feed 16 = .ok (.getfield 28, 3) := by decide +kernel
theorem dX10_feed_19 : decode cX10_feed 19 = .ok (.iload_n 1, 1) := by decide +kernel
theorem dX10_feed_20 : decode cX10_feed 20 = .ok (.invokevirtual 158, 3) := by decide +kernel
theorem dX10_feed_23 : decode cX10_feed 23 = .ok (.ireturn, 1) := by decide +kernel
theorem dX10_law_0 : decode cX10_law 0 = .ok (.aload_n 0, 1) := by decide +kernel
theorem dX10_law_1 : decode cX10_law 1 = .ok (.getfield 28, 3) := by decide +kernel
theorem dX10_law_4 : decode cX10_law 4 = .ok (.invokevirtual 161, 3) := by decide +kernel
theorem dX10_law_7 : decode cX10_law 7 = .ok (.istore_n 1, 1) := by decide +kernel
theorem dX10_law_8 : decode cX10_law 8 = .ok (.iload_n 1, 1) := by decide +kernel
theorem dX10_law_9 : decode cX10_law 9 = .ok (.ifCond .ge 7, 3) := by decide +kernel
theorem dX10_law_12 : decode cX10_law 12 = .ok (.iconst 1, 1) := by decide +kernel
theorem dX10_law_13 : decode cX10_law 13 = .ok (.goto 7, 3) := by decide +kernel
theorem dX10_law_16 : decode cX10_law 16 = .ok (.bipush (-100), 2) := by decide +kernel
theorem dX10_law_18 : decode cX10_law 18 = .ok (.iload_n 1, 1) := by decide +kernel
theorem dX10_law_19 : decode cX10_law 19 = .ok (.isub, 1) := by decide +kernel
theorem dX10_law_20 : decode cX10_law 20 = .ok (.ireturn, 1) := by decide +kernel
theorem dX10_where_0 : decode cX10_where 0 = .ok (.aload_n 0, 1) := by decide +kernel
theorem dX10_where_1 : decode cX10_where 1 = .ok (.iload_n 1, 1) := by decide +kernel
theorem dX10_where_2 : decode cX10_where 2 = .ok (.invokevirtual 164, 3) := by decide +kernel
theorem dX10_where_5 : decode cX10_where 5 = .ok (.ifCond .eq 25, 3) := by decide +kernel
theorem dX10_where_8 : decode cX10_where 8 = .ok (.aload_n 0, 1) := by decide +kernel
theorem dX10_where_9 : decode cX10_where 9 = .ok (.getfield 28, 3) := by decide +kernel
theorem dX10_where_12 : decode cX10_where 12 = .ok (.aload_n 0, 1) := by decide +kernel
theorem dX10_where_13 : decode cX10_where 13 = .ok (.getfield 46, 3) := by decide +kernel
theorem dX10_where_16 : decode cX10_where 16 = .ok (.iload_n 1, 1) := by decide +kernel
theorem dX10_where_17 : decode cX10_where 17 = .ok (.bipush 10, 2) := by decide +kernel
theorem dX10_where_19 : decode cX10_where 19 = .ok (.idiv, 1) := by decide +kernel
theorem dX10_where_20 : decode cX10_where 20 = .ok (.iload_n 1, 1) := by decide +kernel
theorem dX10_where_21 : decode cX10_where 21 = .ok (.bipush 10, 2) := by decide +kernel
theorem dX10_where_23 : decode cX10_where 23 = .ok (.irem, 1) := by decide +kernel
theorem dX10_where_24 : decode cX10_where 24 = .ok (.invokevirtual 167, 3) := by decide +kernel
theorem dX10_where_27 : decode cX10_where 27 = .ok (.goto 4, 3) := by decide +kernel
theorem dX10_where_30 : decode cX10_where 30 = .ok (.iconst (-1), 1) := by decide +kernel
theorem dX10_where_31 : decode cX10_where 31 = .ok (.ireturn, 1) := by decide +kernel
theorem dX10_sales_0 : decode cX10_sales 0 = .ok (.iload_n 1, 1) := by decide +kernel
theorem dX10_sales_1 : decode cX10_sales 1 = .ok (.invokestatic 96, 3) := by decide +kernel
theorem dX10_sales_4 : decode cX10_sales 4 = .ok (.ifCond .eq 8, 3) := by decide +kernel
theorem dX10_sales_7 : decode cX10_sales 7 = .ok (.iload_n 2, 1) := by decide +kernel
theorem dX10_sales_8 : decode cX10_sales 8 = .ok (.iconst (-1), 1) := by decide +kernel
theorem dX10_sales_9 : decode cX10_sales 9 = .ok (.if_icmp .ge 5, 3) := by decide +kernel
theorem dX10_sales_12 : decode cX10_sales 12 = .ok (.iconst (-1), 1) := by decide +kernel
theorem dX10_sales_13 : decode cX10_sales 13 = .ok (.ireturn, 1) := by decide +kernel
theorem dX10_sales_14 : decode cX10_sales 14 = .ok (.aload_n 0, 1) := by decide +kernel
theorem dX10_sales_15 : decode cX10_sales 15 = .ok (.getfield 83, 3) := by decide +kernel
theorem dX10_sales_18 : decode cX10_sales 18 = .ok (.iload_n 1, 1) := by decide +kernel
theorem dX10_sales_19 : decode cX10_sales 19 = .ok (.aaload, 1) := by decide +kernel
theorem dX10_sales_20 : decode cX10_sales 20 = .ok (.invokevirtual 103, 3) := by decide +kernel
theorem dX10_sales_23 : decode cX10_sales 23 = .ok (.istore_n 3, 1) := by decide +kernel
theorem dX10_sales_24 : decode cX10_sales 24 = .ok (.iload_n 3, 1) := by decide +kernel
theorem dX10_sales_25 : decode cX10_sales 25 = .ok (.ifCond .eq 5, 3) := by decide +kernel
theorem dX10_sales_28 : decode cX10_sales 28 = .ok (.iload_n 3, 1) := by decide +kernel
theorem dX10_sales_29 : decode cX10_sales 29 = .ok (.ireturn, 1) := by decide +kernel
theorem dX10_sales_30 : decode cX10_sales 30 = .ok (.aload_n 0, 1) := by decide +kernel
theorem dX10_sales_31 : decode cX10_sales 31 = .ok (.getfield 37, 3) := by decide +kernel
theorem dX10_sales_34 : decode cX10_sales 34 = .ok (.aload_n 0, 1) := by decide +kernel
theorem dX10_sales_35 : decode cX10_sales 35 = .ok (.getfield 83, 3) := by decide +kernel
theorem dX10_sales_38 : decode cX10_sales 38 = .ok (.iload_n 1, 1) := by decide +kernel
theorem dX10_sales_39 : decode cX10_sales 39 = .ok (.aaload, 1) := by decide +kernel
theorem dX10_sales_40 : decode cX10_sales 40 = .ok (.aload_n 0, 1) := by decide +kernel
theorem dX10_sales_41 : decode cX10_sales 41 = .ok (.getfield 46, 3) := by decide +kernel
theorem dX10_sales_44 : decode cX10_sales 44 = .ok (.invokevirtual 171, 3) := by decide +kernel
theorem dX10_sales_47 : decode cX10_sales 47 = .ok (.istore 4, 2) := by decide +kernel
theorem dX10_sales_49 : decode cX10_sales 49 = .ok (.iload_n 2, 1) := by decide +kernel
theorem dX10_sales_50 : decode cX10_sales 50 = .ok (.iconst (-1), 1) := by decide +kernel
theorem dX10_sales_51 : decode cX10_sales 51 = .ok (.if_icmp .ne 8, 3) := by decide +kernel
theorem dX10_sales_54 : decode cX10_sales 54 = .ok (.iload 4, 2) := by decide +kernel
theorem dX10_sales_56 : decode cX10_sales 56 = .ok (.goto 11, 3) := by decide +kernel
theorem dX10_sales_59 : decode cX10_sales 59 = .ok (.aload_n 0, 1) := by decide +kernel
theorem dX10_sales_60 : decode cX10_sales 60 = .ok (.getfield 37, 3) := by decide +kernel
theorem dX10_sales_63 : decode cX10_sales 63 = .ok (.iload_n 2, 1) := by decide +kernel
theorem dX10_sales_64 : decode cX10_sales 64 = .ok (.invokevirtual 175, 3) := by decide +kernel
theorem dX10_sales_67 : decode cX10_sales 67 = .ok (.ireturn, 1) := by decide +kernel
theorem dX10_balance_0 : decode cX10_balance 0 = .ok (.iload_n 1, 1) := by decide +kernel
theorem dX10_balance_1 : decode cX10_balance 1 = .ok (.invokestatic 96, 3) := by decide +kernel
theorem dX10_balance_4 : decode cX10_balance 4 = .ok (.ifCond .eq 14, 3) := by decide +kernel
theorem dX10_balance_7 : decode cX10_balance 7 = .ok (.aload_n 0, 1) := by decide +kernel
theorem dX10_balance_8 : decode cX10_balance 8 = .ok (.getfield 19, 3) := by decide +kernel
theorem dX10_balance_11 : decode cX10_balance 11 = .ok (.iload_n 2, 1) := by decide +kernel
theorem dX10_balance_12 : decode cX10_balance 12 = .ok (.invokevirtual 127, 3) := by decide +kernel
theorem dX10_balance_15 : decode cX10_balance 15 = .ok (.ifCond .ne 5, 3) := by decide +kernel
theorem dX10_balance_18 : decode cX10_balance 18 = .ok (.iconst (-1), 1) := by decide +kernel
theorem dX10_balance_19 : decode cX10_balance 19 = .ok (.ireturn, 1) := by decide +kernel
theorem dX10_balance_20 : decode cX10_balance 20 = .ok (.aload_n 0, 1) := by decide +kernel
theorem dX10_balance_21 : decode cX10_balance 21 = .ok (.getfield 83, 3) := by decide +kernel
theorem dX10_balance_24 : decode cX10_balance 24 = .ok (.iload_n 1, 1) := by decide +kernel
theorem dX10_balance_25 : decode cX10_balance 25 = .ok (.aaload, 1) := by decide +kernel
theorem dX10_balance_26 : decode cX10_balance 26 = .ok (.invokevirtual 103, 3) := by decide +kernel
theorem dX10_balance_29 : decode cX10_balance 29 = .ok (.istore_n 3, 1) := by decide +kernel
theorem dX10_balance_30 : decode cX10_balance 30 = .ok (.iload_n 3, 1) := by decide +kernel
theorem dX10_balance_31 : decode cX10_balance 31 = .ok (.ifCond .eq 5, 3) := by decide +kernel
theorem dX10_balance_34 : decode cX10_balance 34 = .ok (.iload_n 3, 1) := by decide +kernel
theorem dX10_balance_35 : decode cX10_balance 35 = .ok (.ireturn, 1) := by decide +kernel
theorem dX10_balance_36 : decode cX10_balance 36 = .ok (.aload_n 0, 1) := by decide +kernel
theorem dX10_balance_37 : decode cX10_balance 37 = .ok (.getfield 37, 3) := by decide +kernel
theorem dX10_balance_40 : decode cX10_balance 40 = .ok (.aload_n 0, 1) := by decide +kernel
theorem dX10_balance_41 : decode cX10_balance 41 = .ok (.getfield 83, 3) := by decide +kernel
theorem dX10_balance_44 : decode cX10_balance 44 = .ok (.iload_n 1, 1) := by decide +kernel
theorem dX10_balance_45 : decode cX10_balance 45 = .ok (.aaload, 1) := by decide +kernel
theorem dX10_balance_46 : decode cX10_balance 46 = .ok (.aload_n 0, 1) := by decide +kernel
theorem dX10_balance_47 : decode cX10_balance 47 = .ok (.getfield 46, 3) := by decide +kernel
theorem dX10_balance_50 : decode cX10_balance 50 = .ok (.invokevirtual 171, 3) := by decide +kernel
theorem dX10_balance_53 : decode cX10_balance 53 = .ok (.pop, 1) := by decide +kernel
theorem dX10_balance_54 : decode cX10_balance 54 = .ok (.aload_n 0, 1) := by decide +kernel
theorem dX10_balance_55 : decode cX10_balance 55 = .ok (.getfield 37, 3) := by decide +kernel
theorem dX10_balance_58 : decode cX10_balance 58 = .ok (.iload_n 2, 1) := by decide +kernel
theorem dX10_balance_59 : decode cX10_balance 59 = .ok (.invokevirtual 178, 3) := by decide +kernel
theorem dX10_balance_62 : decode cX10_balance 62 = .ok (.ireturn, 1) := by decide +kernel
theorem dX10_winter_0 : decode cX10_winter 0 = .ok (.iload_n 1, 1) := by decide +kernel
theorem dX10_winter_1 : decode cX10_winter 1 = .ok (.ifCond .lt 20, 3) := by decide +kernel
theorem dX10_winter_4 : decode cX10_winter 4 = .ok (.iload_n 1, 1) := by decide +kernel
theorem dX10_winter_5 : decode cX10_winter 5 = .ok (.bipush 49, 2) := by decide +kernel
theorem dX10_winter_7 : decode cX10_winter 7 = .ok (.if_icmp .gt 14, 3) := by decide +kernel
theorem dX10_winter_10 : decode cX10_winter 10 = .ok (.aload_n 0, 1) := by decide +kernel
theorem dX10_winter_11 : decode cX10_winter 11 = .ok (.getfield 19, 3) := by decide +kernel
theorem dX10_winter_14 : decode cX10_winter 14 = .ok (.iload_n 2, 1) := by decide +kernel
theorem dX10_winter_15 : decode cX10_winter 15 = .ok (.invokevirtual 127, 3) := by decide +kernel
theorem dX10_winter_18 : decode cX10_winter 18 = .ok (.ifCond .ne 5, 3) := by decide +kernel
theorem dX10_winter_21 : decode cX10_winter 21 = .ok (.iconst (-1), 1) := by decide +kernel
theorem dX10_winter_22 : decode cX10_winter 22 = .ok (.ireturn, 1) := by decide +kernel
theorem dX10_winter_23 : decode cX10_winter 23 = .ok (.aload_n 0, 1) := by decide +kernel
theorem dX10_winter_24 : decode cX10_winter 24 = .ok (.getfield 50, 3) := by decide +kernel
theorem dX10_winter_27 : decode cX10_winter 27 = .ok (.aload_n 0, 1) := by decide +kernel
theorem dX10_winter_28 : decode cX10_winter 28 = .ok (.getfield 46, 3) := by decide +kernel
theorem dX10_winter_31 : decode cX10_winter 31 = .ok (.invokevirtual 181, 3) := by decide +kernel
theorem dX10_winter_34 : decode cX10_winter 34 = .ok (.aload_n 0, 1) := by decide +kernel
theorem dX10_winter_35 : decode cX10_winter 35 = .ok (.getfield 50, 3) := by decide +kernel
theorem dX10_winter_38 : decode cX10_winter 38 = .ok (.iload_n 1, 1) := by decide +kernel
theorem dX10_winter_39 : decode cX10_winter 39 = .ok (.invokevirtual 185, 3) := by decide +kernel
theorem dX10_winter_42 : decode cX10_winter 42 = .ok (.pop, 1) := by decide +kernel
theorem dX10_winter_43 : decode cX10_winter 43 = .ok (.aload_n 0, 1) := by decide +kernel
theorem dX10_winter_44 : decode cX10_winter 44 = .ok (.getfield 50, 3) := by decide +kernel
theorem dX10_winter_47 : decode cX10_winter 47 = .ok (.iload_n 2, 1) := by decide +kernel
theorem dX10_winter_48 : decode cX10_winter 48 = .ok (.invokevirtual 130, 3) := by decide +kernel
theorem dX10_winter_51 : decode cX10_winter 51 = .ok (.ireturn, 1) := by decide +kernel
theorem dX10_outlasts_0 : decode cX10_outlasts 0 = .ok (.aload_n 0, 1) := by decide +kernel
theorem dX10_outlasts_1 : decode cX10_outlasts 1 = .ok (.getfield 19, 3) := by decide +kernel
theorem dX10_outlasts_4 : decode cX10_outlasts 4 = .ok (.iload_n 1, 1) := by decide +kernel
theorem dX10_outlasts_5 : decode cX10_outlasts 5 = .ok (.invokevirtual 127, 3) := by decide +kernel
theorem dX10_outlasts_8 : decode cX10_outlasts 8 = .ok (.ifCond .eq 14, 3) := by decide +kernel
theorem dX10_outlasts_11 : decode cX10_outlasts 11 = .ok (.iload_n 2, 1) := by decide +kernel
theorem dX10_outlasts_12 : decode cX10_outlasts 12 = .ok (.iconst 1, 1) := by decide +kernel
theorem dX10_outlasts_13 : decode cX10_outlasts 13 = .ok (.if_icmp .lt 9, 3) := by decide +kernel
theorem dX10_outlasts_16 : decode cX10_outlasts 16 = .ok (.iload_n 2, 1) := by decide +kernel
theorem dX10_outlasts_17 : decode cX10_outlasts 17 = .ok (.bipush 99, 2) := by decide +kernel
theorem dX10_outlasts_19 : decode cX10_outlasts 19 = .ok (.if_icmp .le 5, 3) := by decide +kernel
theorem dX10_outlasts_22 : decode cX10_outlasts 22 = .ok (.iconst (-1), 1) := by decide +kernel
theorem dX10_outlasts_23 : decode cX10_outlasts 23 = .ok (.ireturn, 1) := by decide +kernel
theorem dX10_outlasts_24 : decode cX10_outlasts 24 = .ok (.aload_n 0, 1) := by decide +kernel
theorem dX10_outlasts_25 : decode cX10_outlasts 25 = .ok (.getfield 50, 3) := by decide +kernel
theorem dX10_outlasts_28 : decode cX10_outlasts 28 = .ok (.aload_n 0, 1) := by decide +kernel
theorem dX10_outlasts_29 : decode cX10_outlasts 29 = .ok (.getfield 46, 3) := by decide +kernel
theorem dX10_outlasts_32 : decode cX10_outlasts 32 = .ok (.invokevirtual 181, 3) := by decide +kernel
theorem dX10_outlasts_35 : decode cX10_outlasts 35 = .ok (.bipush (-2), 2) := by decide +kernel
theorem dX10_outlasts_37 : decode cX10_outlasts 37 = .ok (.istore_n 3, 1) := by decide +kernel
theorem dX10_outlasts_38 : decode cX10_outlasts 38 = .ok (.iconst 0, 1) := by decide +kernel
theorem dX10_outlasts_39 : decode cX10_outlasts 39 = .ok (.istore 4, 2) := by decide +kernel
theorem dX10_outlasts_41 : decode cX10_outlasts 41 = .ok (.iload 4, 2) := by decide +kernel
theorem dX10_outlasts_43 : decode cX10_outlasts 43 = .ok (.bipush 49, 2) := by decide +kernel
theorem dX10_outlasts_45 : decode cX10_outlasts 45 = .ok (.if_icmp .gt 33, 3) := by decide +kernel
theorem dX10_outlasts_48 : decode cX10_outlasts 48 = .ok (.aload_n 0, 1) := by decide +kernel
theorem dX10_outlasts_49 : decode cX10_outlasts 49 = .ok (.getfield 50, 3) := by decide +kernel
theorem dX10_outlasts_52 : decode cX10_outlasts 52 = .ok (.iload_n 1, 1) := by decide +kernel
theorem dX10_outlasts_53 : decode cX10_outlasts 53 = .ok (.invokevirtual 130, 3) := by decide +kernel
theorem dX10_outlasts_56 : decode cX10_outlasts 56 = .ok (.iload_n 2, 1) := by decide +kernel
theorem dX10_outlasts_57 : decode cX10_outlasts 57 = .ok (.if_icmp .lt 21, 3) := by decide +kernel
theorem dX10_outlasts_60 : decode cX10_outlasts 60 = .ok (.iload 4, 2) := by decide +kernel
theorem dX10_outlasts_62 : decode cX10_outlasts 62 = .ok (.istore_n 3, 1) := by decide +kernel
theorem dX10_outlasts_63 : decode cX10_outlasts 63 = .ok (.aload_n 0, 1) := by decide +kernel
theorem dX10_outlasts_64 : decode cX10_outlasts 64 = .ok (.getfield 50, 3) := by decide +kernel
theorem dX10_outlasts_67 : decode cX10_outlasts 67 = .ok (.iconst 1, 1) := by decide +kernel
theorem dX10_outlasts_68 : decode cX10_outlasts 68 = .ok (.invokevirtual 185, 3) := by decide +kernel
theorem dX10_outlasts_71 : decode cX10_outlasts 71 = .ok (.pop, 1) := by decide +kernel
theorem dX10_outlasts_72 : decode cX10_outlasts 72 = .ok (.iinc 4 1, 3) := by decide +kernel
theorem dX10_outlasts_75 : decode cX10_outlasts 75 = .ok (.goto (-34), 3) := by decide +kernel
theorem dX10_outlasts_78 : decode cX10_outlasts 78 = .ok (.iload_n 3, 1) := by decide +kernel
theorem dX10_outlasts_79 : decode cX10_outlasts 79 = .ok (.ireturn, 1) := by decide +kernel
theorem dX10_order_0 : decode cX10_order 0 = .ok (.iload_n 1, 1) := by decide +kernel
theorem dX10_order_1 : decode cX10_order 1 = .ok (.invokestatic 96, 3) := by decide +kernel
theorem dX10_order_4 : decode cX10_order 4 = .ok (.ifCond .eq 35, 3) := by decide +kernel
theorem dX10_order_7 : decode cX10_order 7 = .ok (.iload_n 2, 1) := by decide +kernel
theorem dX10_order_8 : decode cX10_order 8 = .ok (.ifCond .lt 31, 3) := by decide +kernel
theorem dX10_order_11 : decode cX10_order 11 = .ok (.aload_n 0, 1) := by decide +kernel
theorem dX10_order_12 : decode cX10_order 12 = .ok (.getfield 19, 3) := by decide +kernel
theorem dX10_order_15 : decode cX10_order 15 = .ok (.iload_n 2, 1) := by decide +kernel
theorem dX10_order_16 : decode cX10_order 16 = .ok (.bipush 100, 2) := by decide +kernel
theorem dX10_order_18 : decode cX10_order 18 = .ok (.idiv, 1) := by decide +kernel
theorem dX10_order_19 : decode cX10_order 19 = .ok (.invokevirtual 127, 3) := by decide +kernel
theorem dX10_order_22 : decode cX10_order 22 = .ok (.ifCond .eq 17, 3) := by decide +kernel
theorem dX10_order_25 : decode cX10_order 25 = .ok (.iload_n 2, 1) := by decide +kernel
theorem dX10_order_26 : decode cX10_order 26 = .ok (.bipush 100, 2) := by decide +kernel
theorem dX10_order_28 : decode cX10_order 28 = .ok (.irem, 1) := by decide +kernel
theorem dX10_order_29 : decode cX10_order 29 = .ok (.bipush 49, 2) := by decide +kernel
theorem dX10_order_31 : decode cX10_order 31 = .ok (.if_icmp .gt 8, 3) := by decide +kernel
theorem dX10_order_34 : decode cX10_order 34 = .ok (.iload_n 3, 1) := by decide +kernel
theorem dX10_order_35 : decode cX10_order 35 = .ok (.iconst (-1), 1) := by decide +kernel
theorem dX10_order_36 : decode cX10_order 36 = .ok (.if_icmp .ge 5, 3) := by decide +kernel
theorem dX10_order_39 : decode cX10_order 39 = .ok (.iconst (-1), 1) := by decide +kernel
theorem dX10_order_40 : decode cX10_order 40 = .ok (.ireturn, 1) := by decide +kernel
theorem dX10_order_41 : decode cX10_order 41 = .ok (.aload_n 0, 1) := by decide +kernel
theorem dX10_order_42 : decode cX10_order 42 = .ok (.getfield 83, 3) := by decide +kernel
theorem dX10_order_45 : decode cX10_order 45 = .ok (.iload_n 1, 1) := by decide +kernel
theorem dX10_order_46 : decode cX10_order 46 = .ok (.aaload, 1) := by decide +kernel
theorem dX10_order_47 : decode cX10_order 47 = .ok (.invokevirtual 103, 3) := by decide +kernel
theorem dX10_order_50 : decode cX10_order 50 = .ok (.istore 4, 2) := by decide +kernel
theorem dX10_order_52 : decode cX10_order 52 = .ok (.iload 4, 2) := by decide +kernel
theorem dX10_order_54 : decode cX10_order 54 = .ok (.ifCond .eq 6, 3) := by decide +kernel
theorem dX10_order_57 : decode cX10_order 57 = .ok (.iload 4, 2) := by decide +kernel
theorem dX10_order_59 : decode cX10_order 59 = .ok (.ireturn, 1) := by decide +kernel
theorem dX10_order_60 : decode cX10_order 60 = .ok (.aload_n 0, 1) := by decide +kernel
theorem dX10_order_61 : decode cX10_order 61 = .ok (.getfield 37, 3) := by decide +kernel
theorem dX10_order_64 : decode cX10_order 64 = .ok (.aload_n 0, 1) := by decide +kernel
theorem dX10_order_65 : decode cX10_order 65 = .ok (.getfield 83, 3) := by decide +kernel
theorem dX10_order_68 : decode cX10_order 68 = .ok (.iload_n 1, 1) := by decide +kernel
theorem dX10_order_69 : decode cX10_order 69 = .ok (.aaload, 1) := by decide +kernel
theorem dX10_order_70 : decode cX10_order 70 = .ok (.aload_n 0, 1) := by decide +kernel
theorem dX10_order_71 : decode cX10_order 71 = .ok (.getfield 46, 3) := by decide +kernel
theorem dX10_order_74 : decode cX10_order 74 = .ok (.iload_n 2, 1) := by decide +kernel
theorem dX10_order_75 : decode cX10_order 75 = .ok (.bipush 100, 2) := by decide +kernel
theorem dX10_order_77 : decode cX10_order 77 = .ok (.idiv, 1) := by decide +kernel
theorem dX10_order_78 : decode cX10_order 78 = .ok (.iload_n 2, 1) := by decide +kernel
theorem dX10_order_79 : decode cX10_order 79 = .ok (.bipush 100, 2) := by decide +kernel
theorem dX10_order_81 : decode cX10_order 81 = .ok (.irem, 1) := by decide +kernel
theorem dX10_order_82 : decode cX10_order 82 = .ok (.invokevirtual 188, 3) := by decide +kernel
theorem dX10_order_85 : decode cX10_order 85 = .ok (.istore 5, 2) := by decide +kernel
theorem dX10_order_87 : decode cX10_order 87 = .ok (.iload_n 3, 1) := by decide +kernel
theorem dX10_order_88 : decode cX10_order 88 = .ok (.iconst (-1), 1) := by decide +kernel
theorem dX10_order_89 : decode cX10_order 89 = .ok (.if_icmp .ne 8, 3) := by decide +kernel
theorem dX10_order_92 : decode cX10_order 92 = .ok (.iload 5, 2) := by decide +kernel
theorem dX10_order_94 : decode cX10_order 94 = .ok (.goto 11, 3) := by decide +kernel
theorem dX10_order_97 : decode cX10_order 97 = .ok (.aload_n 0, 1) := by decide +kernel
theorem dX10_order_98 : decode cX10_order 98 = .ok (.getfield 37, 3) := by decide +kernel
theorem dX10_order_101 : decode cX10_order 101 = .ok (.iload_n 3, 1) := by decide +kernel
theorem dX10_order_102 : decode cX10_order 102 = .ok (.invokevirtual 192, 3) := by decide +kernel
theorem dX10_order_105 : decode cX10_order 105 = .ok (.ireturn, 1) := by decide +kernel
theorem dX10_heat_0 : decode cX10_heat 0 = .ok (.iload_n 1, 1) := by decide +kernel
theorem dX10_heat_1 : decode cX10_heat 1 = .ok (.iconst (-1), 1) := by decide +kernel
theorem dX10_heat_2 : decode cX10_heat 2 = .ok (.if_icmp .eq 16, 3) := by decide +kernel
theorem dX10_heat_5 : decode cX10_heat 5 = .ok (.aload_n 0, 1) := by decide +kernel
theorem dX10_heat_6 : decode cX10_heat 6 = .ok (.getfield 19, 3) := by decide +kernel
theorem dX10_heat_9 : decode cX10_heat 9 = .ok (.iload_n 1, 1) := by decide +kernel
theorem dX10_heat_10 : decode cX10_heat 10 = .ok (.invokevirtual 127, 3) := by decide +kernel
theorem dX10_heat_13 : decode cX10_heat 13 = .ok (.ifCond .ne 5, 3) := by decide +kernel
theorem dX10_heat_16 : decode cX10_heat 16 = .ok (.iconst (-1), 1) := by decide +kernel
theorem dX10_heat_17 : decode cX10_heat 17 = .ok (.ireturn, 1) := by decide +kernel
theorem dX10_heat_18 : decode cX10_heat 18 = .ok (.aload_n 0, 1) := by decide +kernel
theorem dX10_heat_19 : decode cX10_heat 19 = .ok (.getfield 50, 3) := by decide +kernel
theorem dX10_heat_22 : decode cX10_heat 22 = .ok (.aload_n 0, 1) := by decide +kernel
theorem dX10_heat_23 : decode cX10_heat 23 = .ok (.getfield 46, 3) := by decide +kernel
theorem dX10_heat_26 : decode cX10_heat 26 = .ok (.invokevirtual 181, 3) := by decide +kernel
theorem dX10_heat_29 : decode cX10_heat 29 = .ok (.aload_n 0, 1) := by decide +kernel
theorem dX10_heat_30 : decode cX10_heat 30 = .ok (.getfield 50, 3) := by decide +kernel
theorem dX10_heat_33 : decode cX10_heat 33 = .ok (.invokevirtual 195, 3) := by decide +kernel
theorem dX10_heat_36 : decode cX10_heat 36 = .ok (.istore_n 2, 1) := by decide +kernel
theorem dX10_heat_37 : decode cX10_heat 37 = .ok (.iload_n 1, 1) := by decide +kernel
theorem dX10_heat_38 : decode cX10_heat 38 = .ok (.iconst (-1), 1) := by decide +kernel
theorem dX10_heat_39 : decode cX10_heat 39 = .ok (.if_icmp .ne 7, 3) := by decide +kernel
theorem dX10_heat_42 : decode cX10_heat 42 = .ok (.iload_n 2, 1) := by decide +kernel
theorem dX10_heat_43 : decode cX10_heat 43 = .ok (.goto 11, 3) := by decide +kernel
theorem dX10_heat_46 : decode cX10_heat 46 = .ok (.aload_n 0, 1) := by decide +kernel
theorem dX10_heat_47 : decode cX10_heat 47 = .ok (.getfield 50, 3) := by decide +kernel
theorem dX10_heat_50 : decode cX10_heat 50 = .ok (.iload_n 1, 1) := by decide +kernel
theorem dX10_heat_51 : decode cX10_heat 51 = .ok (.invokevirtual 130, 3) := by decide +kernel
theorem dX10_heat_54 : decode cX10_heat 54 = .ok (.ireturn, 1) := by decide +kernel
theorem dX10_swarm_0 : decode cX10_swarm 0 = .ok (.iload_n 1, 1) := by decide +kernel
theorem dX10_swarm_1 : decode cX10_swarm 1 = .ok (.invokestatic 198, 3) := by decide +kernel
theorem dX10_swarm_4 : decode cX10_swarm 4 = .ok (.ifCond .eq 19, 3) := by decide +kernel
theorem dX10_swarm_7 : decode cX10_swarm 7 = .ok (.iload_n 2, 1) := by decide +kernel
theorem dX10_swarm_8 : decode cX10_swarm 8 = .ok (.iconst (-1), 1) := by decide +kernel
theorem dX10_swarm_9 : decode cX10_swarm 9 = .ok (.if_icmp .eq 16, 3) := by decide +kernel
theorem dX10_swarm_12 : decode cX10_swarm 12 = .ok (.aload_n 0, 1) := by decide +kernel
theorem dX10_swarm_13 : decode cX10_swarm 13 = .ok (.getfield 19, 3) := by decide +kernel
theorem dX10_swarm_16 : decode cX10_swarm 16 = .ok (.iload_n 2, 1) := by decide +kernel
theorem dX10_swarm_17 : decode cX10_swarm 17 = .ok (.invokevirtual 127, 3) := by decide +kernel
theorem dX10_swarm_20 : decode cX10_swarm 20 = .ok (.ifCond .ne 5, 3) := by decide +kernel
theorem dX10_swarm_23 : decode cX10_swarm 23 = .ok (.iconst (-1), 1) := by decide +kernel
theorem dX10_swarm_24 : decode cX10_swarm 24 = .ok (.ireturn, 1) := by decide +kernel
theorem dX10_swarm_25 : decode cX10_swarm 25 = .ok (.aload_n 0, 1) := by decide +kernel
theorem dX10_swarm_26 : decode cX10_swarm 26 = .ok (.getfield 50, 3) := by decide +kernel
theorem dX10_swarm_29 : decode cX10_swarm 29 = .ok (.aload_n 0, 1) := by decide +kernel
theorem dX10_swarm_30 : decode cX10_swarm 30 = .ok (.getfield 46, 3) := by decide +kernel
theorem dX10_swarm_33 : decode cX10_swarm 33 = .ok (.invokevirtual 181, 3) := by decide +kernel
theorem dX10_swarm_36 : decode cX10_swarm 36 = .ok (.aload_n 0, 1) := by decide +kernel
theorem dX10_swarm_37 : decode cX10_swarm 37 = .ok (.getfield 50, 3) := by decide +kernel
theorem dX10_swarm_40 : decode cX10_swarm 40 = .ok (.iload_n 1, 1) := by decide +kernel
theorem dX10_swarm_41 : decode cX10_swarm 41 = .ok (.bipush 10, 2) := by decide +kernel
theorem dX10_swarm_43 : decode cX10_swarm 43 = .ok (.idiv, 1) := by decide +kernel
theorem dX10_swarm_44 : decode cX10_swarm 44 = .ok (.iload_n 1, 1) := by decide +kernel
theorem dX10_swarm_45 : decode cX10_swarm 45 = .ok (.bipush 10, 2) := by decide +kernel
theorem dX10_swarm_47 : decode cX10_swarm 47 = .ok (.irem, 1) := by decide +kernel
theorem dX10_swarm_48 : decode cX10_swarm 48 = .ok (.invokevirtual 201, 3) := by decide +kernel
theorem dX10_swarm_51 : decode cX10_swarm 51 = .ok (.istore_n 3, 1) := by decide +kernel
theorem dX10_swarm_52 : decode cX10_swarm 52 = .ok (.iload_n 2, 1) := by decide +kernel
theorem dX10_swarm_53 : decode cX10_swarm 53 = .ok (.iconst (-1), 1) := by decide +kernel
theorem dX10_swarm_54 : decode cX10_swarm 54 = .ok (.if_icmp .ne 7, 3) := by decide +kernel
theorem dX10_swarm_57 : decode cX10_swarm 57 = .ok (.iload_n 3, 1) := by decide +kernel
theorem dX10_swarm_58 : decode cX10_swarm 58 = .ok (.goto 11, 3) := by decide +kernel
theorem dX10_swarm_61 : decode cX10_swarm 61 = .ok (.aload_n 0, 1) := by decide +kernel
theorem dX10_swarm_62 : decode cX10_swarm 62 = .ok (.getfield 50, 3) := by decide +kernel
theorem dX10_swarm_65 : decode cX10_swarm 65 = .ok (.iload_n 2, 1) := by decide +kernel
theorem dX10_swarm_66 : decode cX10_swarm 66 = .ok (.invokevirtual 130, 3) := by decide +kernel
theorem dX10_swarm_69 : decode cX10_swarm 69 = .ok (.ireturn, 1) := by decide +kernel
theorem dX10_least_0 : decode cX10_least 0 = .ok (.aload_n 0, 1) := by decide +kernel
theorem dX10_least_1 : decode cX10_least 1 = .ok (.getfield 19, 3) := by decide +kernel
theorem dX10_least_4 : decode cX10_least 4 = .ok (.iload_n 1, 1) := by decide +kernel
theorem dX10_least_5 : decode cX10_least 5 = .ok (.invokevirtual 127, 3) := by decide +kernel
theorem dX10_least_8 : decode cX10_least 8 = .ok (.ifCond .eq 23, 3) := by decide +kernel
theorem dX10_least_11 : decode cX10_least 11 = .ok (.iload_n 2, 1) := by decide +kernel
theorem dX10_least_12 : decode cX10_least 12 = .ok (.iconst 1, 1) := by decide +kernel
theorem dX10_least_13 : decode cX10_least 13 = .ok (.if_icmp .lt 18, 3) := by decide +kernel
theorem dX10_least_16 : decode cX10_least 16 = .ok (.iload_n 2, 1) := by decide +kernel
theorem dX10_least_17 : decode cX10_least 17 = .ok (.bipush 37, 2) := by decide +kernel
theorem dX10_least_19 : decode cX10_least 19 = .ok (.if_icmp .gt 12, 3) := by decide +kernel
theorem dX10_least_22 : decode cX10_least 22 = .ok (.iload_n 3, 1) := by decide +kernel
theorem dX10_least_23 : decode cX10_least 23 = .ok (.ifCond .lt 8, 3) := by decide +kernel
theorem dX10_least_26 : decode cX10_least 26 = .ok (.iload_n 3, 1) := by decide +kernel
theorem dX10_least_27 : decode cX10_least 27 = .ok (.iconst 2, 1) := by decide +kernel
theorem dX10_least_28 : decode cX10_least 28 = .ok (.if_icmp .le 5, 3) := by decide +kernel
theorem dX10_least_31 : decode cX10_least 31 = .ok (.iconst (-1), 1) := by decide +kernel
theorem dX10_least_32 : decode cX10_least 32 = .ok (.ireturn, 1) := by decide +kernel
theorem dX10_least_33 : decode cX10_least 33 = .ok (.bipush (-2), 2) := by decide +kernel
theorem dX10_least_35 : decode cX10_least 35 = .ok (.istore 4, 2) := by decide +kernel
theorem dX10_least_37 : decode cX10_least 37 = .ok (.bipush (-2), 2) := by decide +kernel
theorem dX10_least_39 : decode cX10_least 39 = .ok (.istore 5, 2) := by decide +kernel
theorem dX10_least_41 : decode cX10_least 41 = .ok (.bipush (-2), 2) := by decide +kernel
theorem dX10_least_43 : decode cX10_least 43 = .ok (.istore 6, 2) := by decide +kernel
theorem dX10_least_45 : decode cX10_least 45 = .ok (.iconst 0, 1) := by decide +kernel
theorem dX10_least_46 : decode cX10_least 46 = .ok (.istore 7, 2) := by decide +kernel
theorem dX10_least_48 : decode cX10_least 48 = .ok (.iload 7, 2) := by decide +kernel
theorem dX10_least_50 : decode cX10_least 50 = .ok (.iconst 3, 1) := by decide +kernel
theorem dX10_least_51 : decode cX10_least 51 = .ok (.if_icmp .gt 88, 3) := by decide +kernel
theorem dX10_least_54 : decode cX10_least 54 = .ok (.iconst 0, 1) := by decide +kernel
theorem dX10_least_55 : decode cX10_least 55 = .ok (.istore 8, 2) := by decide +kernel
theorem dX10_least_57 : decode cX10_least 57 = .ok (.iload 8, 2) := by decide +kernel
theorem dX10_least_59 : decode cX10_least 59 = .ok (.bipush 49, 2) := by decide +kernel
theorem dX10_least_61 : decode cX10_least 61 = .ok (.if_icmp .ge 72, 3) := by decide +kernel
theorem dX10_least_64 : decode cX10_least 64 = .ok (.aload_n 0, 1) := by decide +kernel
theorem dX10_least_65 : decode cX10_least 65 = .ok (.getfield 46, 3) := by decide +kernel
theorem dX10_least_68 : decode cX10_least 68 = .ok (.iload 8, 2) := by decide +kernel
theorem dX10_least_70 : decode cX10_least 70 = .ok (.iload 7, 2) := by decide +kernel
theorem dX10_least_72 : decode cX10_least 72 = .ok (.invokevirtual 204, 3) := by decide +kernel
theorem dX10_least_75 : decode cX10_least 75 = .ok (.iload_n 2, 1) := by decide +kernel
theorem dX10_least_76 : decode cX10_least 76 = .ok (.if_icmp .lt 18, 3) := by decide +kernel
theorem dX10_least_79 : decode cX10_least 79 = .ok (.aload_n 0, 1) := by decide +kernel
theorem dX10_least_80 : decode cX10_least 80 = .ok (.getfield 46, 3) := by decide +kernel
theorem dX10_least_83 : decode cX10_least 83 = .ok (.iload 8, 2) := by decide +kernel
theorem dX10_least_85 : decode cX10_least 85 = .ok (.iload 7, 2) := by decide +kernel
theorem dX10_least_87 : decode cX10_least 87 = .ok (.iload_n 1, 1) := by decide +kernel
theorem dX10_least_88 : decode cX10_least 88 = .ok (.invokevirtual 207, 3) := by decide +kernel
theorem dX10_least_91 : decode cX10_least 91 = .ok (.goto 5, 3) := by decide +kernel
theorem dX10_least_94 : decode cX10_least 94 = .ok (.bipush (-2), 2) := by decide +kernel
theorem dX10_least_96 : decode cX10_least 96 = .ok (.istore 9, 2) := by decide +kernel
theorem dX10_least_98 : decode cX10_least 98 = .ok (.iload 9, 2) := by decide +kernel
theorem dX10_least_100 : decode cX10_least 100 = .ok (.ifCond .lt 27, 3) := by decide +kernel
theorem dX10_least_103 : decode cX10_least 103 = .ok (.iload 4, 2) := by decide +kernel
theorem dX10_least_105 : decode cX10_least 105 = .ok (.ifCond .lt 10, 3) := by decide +kernel
theorem dX10_least_108 : decode cX10_least 108 = .ok (.iload 9, 2) := by decide +kernel
theorem dX10_least_110 : decode cX10_least 110 = .ok (.iload 4, 2) := by decide +kernel
theorem dX10_least_112 : decode cX10_least 112 = .ok (.if_icmp .ge 15, 3) := by decide +kernel
theorem dX10_least_115 : decode cX10_least 115 = .ok (.iload 9, 2) := by decide +kernel
theorem dX10_least_117 : decode cX10_least 117 = .ok (.istore 4, 2) := by decide +kernel
theorem dX10_least_119 : decode cX10_least 119 = .ok (.iload 8, 2) := by decide +kernel
theorem dX10_least_121 : decode cX10_least 121 = .ok (.istore 5, 2) := by decide +kernel
theorem dX10_least_123 : decode cX10_least 123 = .ok (.iload 7, 2) := by decide +kernel
theorem dX10_least_125 : decode cX10_least 125 = .ok (.istore 6, 2) := by decide +kernel
theorem dX10_least_127 : decode cX10_least 127 = .ok (.iinc 8 1, 3) := by decide +kernel
theorem dX10_least_130 : decode cX10_least 130 = .ok (.goto (-73), 3) := by decide +kernel
theorem dX10_least_133 : decode cX10_least 133 = .ok (.iinc 7 1, 3) := by decide +kernel
theorem dX10_least_136 : decode cX10_least 136 = .ok (.goto (-88), 3) := by decide +kernel
theorem dX10_least_139 : decode cX10_least 139 = .ok (.iload_n 3, 1) := by decide +kernel
theorem dX10_least_140 : decode cX10_least 140 = .ok (.ifCond .ne 8, 3) := by decide +kernel
theorem dX10_least_143 : decode cX10_least 143 = .ok (.iload 4, 2) := by decide +kernel
theorem dX10_least_145 : decode cX10_least 145 = .ok (.goto 15, 3) := by decide +kernel
theorem dX10_least_148 : decode cX10_least 148 = .ok (.iload_n 3, 1) := by decide +kernel
theorem dX10_least_149 : decode cX10_least 149 = .ok (.iconst 1, 1) := by decide +kernel
theorem dX10_least_150 : decode cX10_least 150 = .ok (.if_icmp .ne 8, 3) := by decide +kernel
theorem dX10_least_153 : decode cX10_least 153 = .ok (.iload 5, 2) := by decide +kernel
theorem dX10_least_155 : decode cX10_least 155 = .ok (.goto 5, 3) := by decide +kernel
theorem dX10_least_158 : decode cX10_least 158 = .ok (.iload 6, 2) := by decide +kernel
theorem dX10_least_160 : decode cX10_least 160 = .ok (.ireturn, 1) := by decide +kernel
theorem dX10_dance_0 : decode cX10_dance 0 = .ok (.iload_n 1, 1) := by decide +kernel
theorem dX10_dance_1 : decode cX10_dance 1 = .ok (.ifCond .lt 23, 3) := by decide +kernel
theorem dX10_dance_4 : decode cX10_dance 4 = .ok (.iload_n 1, 1) := by decide +kernel
theorem dX10_dance_5 : decode cX10_dance 5 = .ok (.bipush 7, 2) := by decide +kernel
theorem dX10_dance_7 : decode cX10_dance 7 = .ok (.if_icmp .gt 17, 3) := by decide +kernel
theorem dX10_dance_10 : decode cX10_dance 10 = .ok (.iload_n 2, 1) := by decide +kernel
theorem dX10_dance_11 : decode cX10_dance 11 = .ok (.invokestatic 210, 3) := by decide +kernel
theorem dX10_dance_14 : decode cX10_dance 14 = .ok (.ifCond .eq 10, 3) := by decide +kernel
theorem dX10_dance_17 : decode cX10_dance 17 = .ok (.iload_n 3, 1) := by decide +kernel
theorem dX10_dance_18 : decode cX10_dance 18 = .ok (.invokestatic 213, 3) := by decide +kernel
theorem dX10_dance_21 : decode cX10_dance 21 = .ok (.ifCond .ne 7, 3) := by decide +kernel
theorem dX10_dance_24 : decode cX10_dance 24 = .ok (.ldc2_w 216, 3) := by decide +kernel
theorem dX10_dance_27 : decode cX10_dance 27 = .ok (.lreturn, 1) := by decide +kernel
theorem dX10_dance_28 : decode cX10_dance 28 = .ok (.lconst 0, 1) := by decide +kernel
theorem dX10_dance_29 : decode cX10_dance 29 = .ok (.lstore 4, 2) := by decide +kernel
theorem dX10_dance_31 : decode cX10_dance 31 = .ok (.iconst 1, 1) := by decide +kernel
theorem dX10_dance_32 : decode cX10_dance 32 = .ok (.istore 6, 2) := by decide +kernel
theorem dX10_dance_34 : decode cX10_dance 34 = .ok (.iload 6, 2) := by decide +kernel
theorem dX10_dance_36 : decode cX10_dance 36 = .ok (.bipush 6, 2) := by decide +kernel
theorem dX10_dance_38 : decode cX10_dance 38 = .ok (.if_icmp .gt 21, 3) := by decide +kernel
theorem dX10_dance_41 : decode cX10_dance 41 = .ok (.lload 4, 2) := by decide +kernel
theorem dX10_dance_43 : decode cX10_dance 43 = .ok (.aload_n 0, 1) := by decide +kernel
theorem dX10_dance_44 : decode cX10_dance 44 = .ok (.iload_n 1, 1) := by decide +kernel
theorem dX10_dance_45 : decode cX10_dance 45 = .ok (.iload 6, 2) := by decide +kernel
theorem dX10_dance_47 : decode cX10_dance 47 = .ok (.invokevirtual 218, 3) := by decide +kernel
theorem dX10_dance_50 : decode cX10_dance 50 = .ok (.ladd, 1) := by decide +kernel
theorem dX10_dance_51 : decode cX10_dance 51 = .ok (.lstore 4, 2) := by decide +kernel
theorem dX10_dance_53 : decode cX10_dance 53 = .ok (.iinc 6 1, 3) := by decide +kernel
theorem dX10_dance_56 : decode cX10_dance 56 = .ok (.goto (-22), 3) := by decide +kernel
theorem dX10_dance_59 : decode cX10_dance 59 = .ok (.lload 4, 2) := by decide +kernel
theorem dX10_dance_61 : decode cX10_dance 61 = .ok (.lconst 0, 1) := by decide +kernel
theorem dX10_dance_62 : decode cX10_dance 62 = .ok (.lcmp, 1) := by decide +kernel
theorem dX10_dance_63 : decode cX10_dance 63 = .ok (.ifCond .ne 9, 3) := by decide +kernel
theorem dX10_dance_66 : decode cX10_dance 66 = .ok (.ldc2_w 222, 3) := by decide +kernel
theorem dX10_dance_69 : decode cX10_dance 69 = .ok (.goto 15, 3) := by decide +kernel
theorem dX10_dance_72 : decode cX10_dance 72 = .ok (.aload_n 0, 1) := by decide +kernel
theorem dX10_dance_73 : decode cX10_dance 73 = .ok (.iload_n 1, 1) := by decide +kernel
theorem dX10_dance_74 : decode cX10_dance 74 = .ok (.iload_n 2, 1) := by decide +kernel
theorem dX10_dance_75 : decode cX10_dance 75 = .ok (.invokevirtual 218, 3) := by decide +kernel
theorem dX10_dance_78 : decode cX10_dance 78 = .ok (.lload 4, 2) := by decide +kernel
theorem dX10_dance_80 : decode cX10_dance 80 = .ok (.iload_n 3, 1) := by decide +kernel
theorem dX10_dance_81 : decode cX10_dance 81 = .ok (.invokestatic 224, 3) := by decide +kernel
theorem dX10_dance_84 : decode cX10_dance 84 = .ok (.lreturn, 1) := by decide +kernel
theorem dX10_dances_0 : decode cX10_dances 0 = .ok (.iload_n 3, 1) := by decide +kernel
theorem dX10_dances_1 : decode cX10_dances 1 = .ok (.iconst 2, 1) := by decide +kernel
theorem dX10_dances_2 : decode cX10_dances 2 = .ok (.if_icmp .ne 7, 3) := by decide +kernel
theorem dX10_dances_5 : decode cX10_dances 5 = .ok (.iconst 1, 1) := by decide +kernel
theorem dX10_dances_6 : decode cX10_dances 6 = .ok (.goto 4, 3) := by decide +kernel
theorem dX10_dances_9 : decode cX10_dances 9 = .ok (.iconst 0, 1) := by decide +kernel
theorem dX10_dances_10 : decode cX10_dances 10 = .ok (.istore 4, 2) := by decide +kernel
theorem dX10_dances_12 : decode cX10_dances 12 = .ok (.iload_n 1, 1) := by decide +kernel
theorem dX10_dances_13 : decode cX10_dances 13 = .ok (.invokestatic 96, 3) := by decide +kernel
theorem dX10_dances_16 : decode cX10_dances 16 = .ok (.ifCond .eq 22, 3) := by decide +kernel
theorem dX10_dances_19 : decode cX10_dances 19 = .ok (.iload 4, 2) := by decide +kernel
theorem dX10_dances_21 : decode cX10_dances 21 = .ok (.ifCond .ne 21, 3) := by decide +kernel
theorem dX10_dances_24 : decode cX10_dances 24 = .ok (.iload_n 2, 1) := by decide +kernel
theorem dX10_dances_25 : decode cX10_dances 25 = .ok (.invokestatic 210, 3) := by decide +kernel
theorem dX10_dances_28 : decode cX10_dances 28 = .ok (.ifCond .eq 10, 3) := by decide +kernel
theorem dX10_dances_31 : decode cX10_dances 31 = .ok (.iload_n 3, 1) := by decide +kernel
theorem dX10_dances_32 : decode cX10_dances 32 = .ok (.invokestatic 213, 3) := by decide +kernel
theorem dX10_dances_35 : decode cX10_dances 35 = .ok (.ifCond .ne 7, 3) := by decide +kernel
theorem dX10_dances_38 : decode cX10_dances 38 = .ok (.ldc2_w 216, 3) := by decide +kernel
theorem dX10_dances_41 : decode cX10_dances 41 = .ok (.lreturn, 1) := by decide +kernel
theorem dX10_dances_42 : decode cX10_dances 42 = .ok (.aload_n 0, 1) := by decide +kernel
theorem dX10_dances_43 : decode cX10_dances 43 = .ok (.getfield 83, 3) := by decide +kernel
theorem dX10_dances_46 : decode cX10_dances 46 = .ok (.iload_n 1, 1) := by decide +kernel
theorem dX10_dances_47 : decode cX10_dances 47 = .ok (.aaload, 1) := by decide +kernel
theorem dX10_dances_48 : decode cX10_dances 48 = .ok (.invokevirtual 103, 3) := by decide +kernel
theorem dX10_dances_51 : decode cX10_dances 51 = .ok (.ifCond .eq 7, 3) := by decide +kernel
theorem dX10_dances_54 : decode cX10_dances 54 = .ok (.ldc2_w 216, 3) := by decide +kernel
theorem dX10_dances_57 : decode cX10_dances 57 = .ok (.lreturn, 1) := by decide +kernel
theorem dX10_dances_58 : decode cX10_dances 58 = .ok (.lconst 0, 1) := by decide +kernel
theorem dX10_dances_59 : decode cX10_dances 59 = .ok (.lstore 5, 2) := by decide +kernel
theorem dX10_dances_61 : decode cX10_dances 61 = .ok (.bipush (-2), 2) := by decide +kernel
theorem dX10_dances_63 : decode cX10_dances 63 = .ok (.istore 7, 2) := by decide +kernel
theorem dX10_dances_65 : decode cX10_dances 65 = .ok (.lconst 0, 1) := by decide +kernel
theorem dX10_dances_66 : decode cX10_dances 66 = .ok (.lstore 8, 2) := by decide +kernel
theorem dX10_dances_68 : decode cX10_dances 68 = .ok (.iconst 1, 1) := by decide +kernel
theorem dX10_dances_69 : decode cX10_dances 69 = .ok (.istore 10, 2) := by decide +kernel
theorem dX10_dances_71 : decode cX10_dances 71 = .ok (.iload 10, 2) := by decide +kernel
theorem dX10_dances_73 : decode cX10_dances 73 = .ok (.bipush 6, 2) := by decide +kernel
theorem dX10_dances_75 : decode cX10_dances 75 = .ok (.if_icmp .gt 46, 3) := by decide +kernel
theorem dX10_dances_78 : decode cX10_dances 78 = .ok (.aload_n 0, 1) := by decide +kernel
theorem dX10_dances_79 : decode cX10_dances 79 = .ok (.aload_n 0, 1) := by decide +kernel
theorem dX10_dances_80 : decode cX10_dances 80 = .ok (.getfield 83, 3) := by decide +kernel
theorem dX10_dances_83 : decode cX10_dances 83 = .ok (.iload_n 1, 1) := by decide +kernel
theorem dX10_dances_84 : decode cX10_dances 84 = .ok (.aaload, 1) := by decide +kernel
theorem dX10_dances_85 : decode cX10_dances 85 = .ok (.iload 10, 2) := by decide +kernel
theorem dX10_dances_87 : decode cX10_dances 87 = .ok (.invokevirtual 228, 3) := by decide +kernel
theorem dX10_dances_90 : decode cX10_dances 90 = .ok (.lstore 11, 2) := by decide +kernel
theorem dX10_dances_92 : decode cX10_dances 92 = .ok (.lload 5, 2) := by decide +kernel
theorem dX10_dances_94 : decode cX10_dances 94 = .ok (.lload 11, 2) := by decide +kernel
theorem dX10_dances_96 : decode cX10_dances 96 = .ok (.ladd, 1) := by decide +kernel
theorem dX10_dances_97 : decode cX10_dances 97 = .ok (.lstore 5, 2) := by decide +kernel
theorem dX10_dances_99 : decode cX10_dances 99 = .ok (.lload 11, 2) := by decide +kernel
theorem dX10_dances_101 : decode cX10_dances 101 = .ok (.lload 8, 2) := by decide +kernel
theorem dX10_dances_103 : decode cX10_dances 103 = .ok (.lcmp, 1) := by decide +kernel
theorem dX10_dances_104 : decode cX10_dances 104 = .ok (.ifCond .le 11, 3) := by decide +kernel
theorem dX10_dances_107 : decode cX10_dances 107 = .ok (.iload 10, 2) := by decide +kernel
theorem dX10_dances_109 : decode cX10_dances 109 = .ok (.istore 7, 2) := by decide +kernel
theorem dX10_dances_111 : decode cX10_dances 111 = .ok (.lload 11, 2) := by decide +kernel
theorem dX10_dances_113 : decode cX10_dances 113 = .ok (.lstore 8, 2) := by decide +kernel
theorem dX10_dances_115 : decode cX10_dances 115 = .ok (.iinc 10 1, 3) := by decide +kernel
theorem dX10_dances_118 : decode cX10_dances 118 = .ok (.goto (-47), 3) := by decide +kernel
theorem dX10_dances_121 : decode cX10_dances 121 = .ok (.lload 5, 2) := by decide +kernel
theorem dX10_dances_123 : decode cX10_dances 123 = .ok (.lconst 0, 1) := by decide +kernel
theorem dX10_dances_124 : decode cX10_dances 124 = .ok (.lcmp, 1) := by decide +kernel
theorem dX10_dances_125 : decode cX10_dances 125 = .ok (.ifCond .ne 7, 3) := by decide +kernel
theorem dX10_dances_128 : decode cX10_dances 128 = .ok (.ldc2_w 222, 3) := by decide +kernel
theorem dX10_dances_131 : decode cX10_dances 131 = .ok (.lreturn, 1) := by decide +kernel
theorem dX10_dances_132 : decode cX10_dances 132 = .ok (.iload 4, 2) := by decide +kernel
theorem dX10_dances_134 : decode cX10_dances 134 = .ok (.ifCond .eq 9, 3) := by decide +kernel
theorem dX10_dances_137 : decode cX10_dances 137 = .ok (.iload 7, 2) := by decide +kernel
theorem dX10_dances_139 : decode cX10_dances 139 = .ok (.i2l, 1) := by decide +kernel
theorem dX10_dances_140 : decode cX10_dances 140 = .ok (.goto 20, 3) := by decide +kernel
theorem dX10_dances_143 : decode cX10_dances 143 = .ok (.aload_n 0, 1) := by decide +kernel
theorem dX10_dances_144 : decode cX10_dances 144 = .ok (.aload_n 0, 1) := by decide +kernel
theorem dX10_dances_145 : decode cX10_dances 145 = .ok (.getfield 83, 3) := by decide +kernel
theorem dX10_dances_148 : decode cX10_dances 148 = .ok (.iload_n 1, 1) := by decide +kernel
theorem dX10_dances_149 : decode cX10_dances 149 = .ok (.aaload, 1) := by decide +kernel
theorem dX10_dances_150 : decode cX10_dances 150 = .ok (.iload_n 2, 1) := by decide +kernel
theorem dX10_dances_151 : decode cX10_dances 151 = .ok (.invokevirtual 228, 3) := by decide +kernel
theorem dX10_dances_154 : decode cX10_dances 154 = .ok (.lload 5, 2) := by decide +kernel
theorem dX10_dances_156 : decode cX10_dances 156 = .ok (.iload_n 3, 1) := by decide +kernel
theorem dX10_dances_157 : decode cX10_dances 157 = .ok (.invokestatic 224, 3) := by decide +kernel
theorem dX10_dances_160 : decode cX10_dances 160 = .ok (.lreturn, 1) := by decide +kernel
theorem dX10_right_0 : decode cX10_right 0 = .ok (.iload_n 1, 1) := by decide +kernel
theorem dX10_right_1 : decode cX10_right 1 = .ok (.invokestatic 210, 3) := by decide +kernel
theorem dX10_right_4 : decode cX10_right 4 = .ok (.ifCond .eq 26, 3) := by decide +kernel
theorem dX10_right_7 : decode cX10_right 7 = .ok (.iload_n 2, 1) := by decide +kernel
theorem dX10_right_8 : decode cX10_right 8 = .ok (.invokestatic 213, 3) := by decide +kernel
theorem dX10_right_11 : decode cX10_right 11 = .ok (.ifCond .eq 19, 3) := by decide +kernel
theorem dX10_right_14 : decode cX10_right 14 = .ok (.aload_n 0, 1) := by decide +kernel
theorem dX10_right_15 : decode cX10_right 15 = .ok (.iload_n 1, 1) := by decide +kernel
theorem dX10_right_16 : decode cX10_right 16 = .ok (.iload_n 1, 1) := by decide +kernel
theorem dX10_right_17 : decode cX10_right 17 = .ok (.invokevirtual 218, 3) := by decide +kernel
theorem dX10_right_20 : decode cX10_right 20 = .ok (.ldc2_w 232, 3) := by decide +kernel
theorem dX10_right_23 : decode cX10_right 23 = .ok (.iload_n 2, 1) := by decide +kernel
theorem dX10_right_24 : decode cX10_right 24 = .ok (.invokestatic 224, 3) := by decide +kernel
theorem dX10_right_27 : decode cX10_right 27 = .ok (.goto 6, 3) := by decide +kernel
theorem dX10_right_30 : decode cX10_right 30 = .ok (.ldc2_w 216, 3) := by decide +kernel
theorem dX10_right_33 : decode cX10_right 33 = .ok (.lreturn, 1) := by decide +kernel
theorem dX10_read_0 : decode cX10_read 0 = .ok (.iload_n 1, 1) := by decide +kernel
theorem dX10_read_1 : decode cX10_read 1 = .ok (.invokestatic 96, 3) := by decide +kernel
theorem dX10_read_4 : decode cX10_read 4 = .ok (.ifCond .eq 36, 3) := by decide +kernel
theorem dX10_read_7 : decode cX10_read 7 = .ok (.aload_n 0, 1) := by decide +kernel
theorem dX10_read_8 : decode cX10_read 8 = .ok (.getfield 19, 3) := by decide +kernel
theorem dX10_read_11 : decode cX10_read 11 = .ok (.iload_n 2, 1) := by decide +kernel
theorem dX10_read_12 : decode cX10_read 12 = .ok (.invokevirtual 127, 3) := by decide +kernel
theorem dX10_read_15 : decode cX10_read 15 = .ok (.ifCond .eq 25, 3) := by decide +kernel
theorem dX10_read_18 : decode cX10_read 18 = .ok (.iload_n 3, 1) := by decide +kernel
theorem dX10_read_19 : decode cX10_read 19 = .ok (.ifCond .lt 21, 3) := by decide +kernel
theorem dX10_read_22 : decode cX10_read 22 = .ok (.iload_n 3, 1) := by decide +kernel
theorem dX10_read_23 : decode cX10_read 23 = .ok (.sipush 299, 3) := by decide +kernel
theorem dX10_read_26 : decode cX10_read 26 = .ok (.if_icmp .gt 14, 3) := by decide +kernel
theorem dX10_read_29 : decode cX10_read 29 = .ok (.iload 4, 2) := by decide +kernel
theorem dX10_read_31 : decode cX10_read 31 = .ok (.ifCond .lt 9, 3) := by decide +kernel
theorem dX10_read_34 : decode cX10_read 34 = .ok (.iload 4, 2) := by decide +kernel
theorem dX10_read_36 : decode cX10_read 36 = .ok (.iconst 2, 1) := by decide +kernel
theorem dX10_read_37 : decode cX10_read 37 = .ok (.if_icmp .le 5, 3) := by decide +kernel
theorem dX10_read_40 : decode cX10_read 40 = .ok (.iconst (-1), 1) := by decide +kernel
theorem dX10_read_41 : decode cX10_read 41 = .ok (.ireturn, 1) := by decide +kernel
theorem dX10_read_42 : decode cX10_read 42 = .ok (.aload_n 0, 1) := by decide +kernel
theorem dX10_read_43 : decode cX10_read 43 = .ok (.getfield 83, 3) := by decide +kernel
theorem dX10_read_46 : decode cX10_read 46 = .ok (.iload_n 1, 1) := by decide +kernel
theorem dX10_read_47 : decode cX10_read 47 = .ok (.aaload, 1) := by decide +kernel
theorem dX10_read_48 : decode cX10_read 48 = .ok (.invokevirtual 103, 3) := by decide +kernel
theorem dX10_read_51 : decode cX10_read 51 = .ok (.istore 5, 2) := by decide +kernel
theorem dX10_read_53 : decode cX10_read 53 = .ok (.iload 5, 2) := by decide +kernel
theorem dX10_read_55 : decode cX10_read 55 = .ok (.ifCond .eq 6, 3) := by decide +kernel
theorem dX10_read_58 : decode cX10_read 58 = .ok (.iload 5, 2) := by decide +kernel
theorem dX10_read_60 : decode cX10_read 60 = .ok (.ireturn, 1) := by decide +kernel
theorem dX10_read_61 : decode cX10_read 61 = .ok (.aload_n 0, 1) := by decide +kernel
theorem dX10_read_62 : decode cX10_read 62 = .ok (.getfield 70, 3) := by decide +kernel
theorem dX10_read_65 : decode cX10_read 65 = .ok (.aload_n 0, 1) := by decide +kernel
theorem dX10_read_66 : decode cX10_read 66 = .ok (.getfield 83, 3) := by decide +kernel
theorem dX10_read_69 : decode cX10_read 69 = .ok (.iload_n 1, 1) := by decide +kernel
theorem dX10_read_70 : decode cX10_read 70 = .ok (.aaload, 1) := by decide +kernel
theorem dX10_read_71 : decode cX10_read 71 = .ok (.aload_n 0, 1) := by decide +kernel
theorem dX10_read_72 : decode cX10_read 72 = .ok (.getfield 46, 3) := by decide +kernel
theorem dX10_read_75 : decode cX10_read 75 = .ok (.iload_n 2, 1) := by decide +kernel
theorem dX10_read_76 : decode cX10_read 76 = .ok (.invokevirtual 234, 3) := by decide +kernel
theorem dX10_read_79 : decode cX10_read 79 = .ok (.iload 4, 2) := by decide +kernel
theorem dX10_read_81 : decode cX10_read 81 = .ok (.ifCond .ne 14, 3) := by decide +kernel
theorem dX10_read_84 : decode cX10_read 84 = .ok (.aload_n 0, 1) := by decide +kernel
theorem dX10_read_85 : decode cX10_read 85 = .ok (.getfield 70, 3) := by decide +kernel
theorem dX10_read_88 : decode cX10_read 88 = .ok (.iload_n 3, 1) := by decide +kernel
theorem dX10_read_89 : decode cX10_read 89 = .ok (.invokevirtual 238, 3) := by decide +kernel
theorem dX10_read_92 : decode cX10_read 92 = .ok (.goto 28, 3) := by decide +kernel
theorem dX10_read_95 : decode cX10_read 95 = .ok (.iload 4, 2) := by decide +kernel
theorem dX10_read_97 : decode cX10_read 97 = .ok (.iconst 1, 1) := by decide +kernel
theorem dX10_read_98 : decode cX10_read 98 = .ok (.if_icmp .ne 14, 3) := by decide +kernel
theorem dX10_read_101 : decode cX10_read 101 = .ok (.aload_n 0, 1) := by decide +kernel
theorem dX10_read_102 : decode cX10_read 102 = .ok (.getfield 70, 3) := by decide +kernel
theorem dX10_read_105 : decode cX10_read 105 = .ok (.iload_n 3, 1) := by decide +kernel
theorem dX10_read_106 : decode cX10_read 106 = .ok (.invokevirtual 241, 3) := by decide +kernel
theorem dX10_read_109 : decode cX10_read 109 = .ok (.goto 11, 3) := by decide +kernel
theorem dX10_read_112 : decode cX10_read 112 = .ok (.aload_n 0, 1) := by decide +kernel
theorem dX10_read_113 : decode cX10_read 113 = .ok (.getfield 70, 3) := by decide +kernel
theorem dX10_read_116 : decode cX10_read 116 = .ok (.iload_n 3, 1) := by decide +kernel
theorem dX10_read_117 : decode cX10_read 117 = .ok (.invokevirtual 244, 3) := by decide +kernel
theorem dX10_read_120 : decode cX10_read 120 = .ok (.ireturn, 1) := by decide +kernel
theorem dX10_open_0 : decode cX10_open 0 = .ok (.iload_n 1, 1) := by decide +kernel
theorem dX10_open_1 : decode cX10_open 1 = .ok (.invokestatic 96, 3) := by decide +kernel
theorem dX10_open_4 : decode cX10_open 4 = .ok (.ifCond .eq 14, 3) := by decide +kernel
theorem dX10_open_7 : decode cX10_open 7 = .ok (.aload_n 0, 1) := by decide +kernel
theorem dX10_open_8 : decode cX10_open 8 = .ok (.getfield 19, 3) := by decide +kernel
theorem dX10_open_11 : decode cX10_open 11 = .ok (.iload_n 2, 1) := by decide +kernel
theorem dX10_open_12 : decode cX10_open 12 = .ok (.invokevirtual 127, 3) := by decide +kernel
theorem dX10_open_15 : decode cX10_open 15 = .ok (.ifCond .ne 5, 3) := by decide +kernel
theorem dX10_open_18 : decode cX10_open 18 = .ok (.iconst (-1), 1) := by decide +kernel
theorem dX10_open_19 : decode cX10_open 19 = .ok (.ireturn, 1) := by decide +kernel
theorem dX10_open_20 : decode cX10_open 20 = .ok (.aload_n 0, 1) := by decide +kernel
theorem dX10_open_21 : decode cX10_open 21 = .ok (.getfield 83, 3) := by decide +kernel
theorem dX10_open_24 : decode cX10_open 24 = .ok (.iload_n 1, 1) := by decide +kernel
theorem dX10_open_25 : decode cX10_open 25 = .ok (.aaload, 1) := by decide +kernel
theorem dX10_open_26 : decode cX10_open 26 = .ok (.invokevirtual 103, 3) := by decide +kernel
theorem dX10_open_29 : decode cX10_open 29 = .ok (.istore_n 3, 1) := by decide +kernel
theorem dX10_open_30 : decode cX10_open 30 = .ok (.iload_n 3, 1) := by decide +kernel
theorem dX10_open_31 : decode cX10_open 31 = .ok (.ifCond .eq 5, 3) := by decide +kernel
theorem dX10_open_34 : decode cX10_open 34 = .ok (.iload_n 3, 1) := by decide +kernel
theorem dX10_open_35 : decode cX10_open 35 = .ok (.ireturn, 1) := by decide +kernel
theorem dX10_open_36 : decode cX10_open 36 = .ok (.aload_n 0, 1) := by decide +kernel
theorem dX10_open_37 : decode cX10_open 37 = .ok (.getfield 70, 3) := by decide +kernel
theorem dX10_open_40 : decode cX10_open 40 = .ok (.aload_n 0, 1) := by decide +kernel
theorem dX10_open_41 : decode cX10_open 41 = .ok (.getfield 83, 3) := by decide +kernel
theorem dX10_open_44 : decode cX10_open 44 = .ok (.iload_n 1, 1) := by decide +kernel
theorem dX10_open_45 : decode cX10_open 45 = .ok (.aaload, 1) := by decide +kernel
theorem dX10_open_46 : decode cX10_open 46 = .ok (.aload_n 0, 1) := by decide +kernel
theorem dX10_open_47 : decode cX10_open 47 = .ok (.getfield 46, 3) := by decide +kernel
theorem dX10_open_50 : decode cX10_open 50 = .ok (.iload_n 2, 1) := by decide +kernel
theorem dX10_open_51 : decode cX10_open 51 = .ok (.invokevirtual 234, 3) := by decide +kernel
theorem dX10_open_54 : decode cX10_open 54 = .ok (.aload_n 0, 1) := by decide +kernel
