theorem dX10_open_55 : decode cX10_open 55 = .ok (.getfield 70, 3) := by decide +kernel
theorem dX10_open_58 : decode cX10_open 58 = .ok (.invokevirtual 247, 3) := by decide +kernel
theorem dX10_open_61 : decode cX10_open 61 = .ok (.ireturn, 1) := by decide +kernel
theorem dX10_pass_0 : decode cX10_pass 0 = .ok (.iload_n 1, 1) := by decide +kernel
theorem dX10_pass_1 : decode cX10_pass 1 = .ok (.ifCond .lt 25, 3) := by decide +kernel
theorem dX10_pass_4 : decode cX10_pass 4 = .ok (.iload_n 1, 1) := by decide +kernel
theorem dX10_pass_5 : decode cX10_pass 5 = .ok (.bipush 8, 2) := by decide +kernel
theorem dX10_pass_7 : decode cX10_pass 7 = .ok (.if_icmp .gt 19, 3) := by decide +kernel
theorem dX10_pass_10 : decode cX10_pass 10 = .ok (.iload_n 2, 1) := by decide +kernel
theorem dX10_pass_11 : decode cX10_pass 11 = .ok (.ifCond .lt 15, 3) := by decide +kernel
theorem dX10_pass_14 : decode cX10_pass 14 = .ok (.iload_n 2, 1) := by decide +kernel
theorem dX10_pass_15 : decode cX10_pass 15 = .ok (.iconst 1, 1) := by decide +kernel
theorem dX10_pass_16 : decode cX10_pass 16 = .ok (.if_icmp .gt 10, 3) := by decide +kernel
theorem dX10_pass_19 : decode cX10_pass 19 = .ok (.iload_n 3, 1) := by decide +kernel
theorem dX10_pass_20 : decode cX10_pass 20 = .ok (.invokestatic 213, 3) := by decide +kernel
theorem dX10_pass_23 : decode cX10_pass 23 = .ok (.ifCond .ne 7, 3) := by decide +kernel
theorem dX10_pass_26 : decode cX10_pass 26 = .ok (.ldc2_w 216, 3) := by decide +kernel
theorem dX10_pass_29 : decode cX10_pass 29 = .ok (.lreturn, 1) := by decide +kernel
theorem dX10_pass_30 : decode cX10_pass 30 = .ok (.bipush 12, 2) := by decide +kernel
theorem dX10_pass_32 : decode cX10_pass 32 = .ok (.aload_n 0, 1) := by decide +kernel
theorem dX10_pass_33 : decode cX10_pass 33 = .ok (.getfield 19, 3) := by decide +kernel
theorem dX10_pass_36 : decode cX10_pass 36 = .ok (.invokevirtual 250, 3) := by decide +kernel
theorem dX10_pass_39 : decode cX10_pass 39 = .ok (.isub, 1) := by decide +kernel
theorem dX10_pass_40 : decode cX10_pass 40 = .ok (.istore 4, 2) := by decide +kernel
theorem dX10_pass_42 : decode cX10_pass 42 = .ok (.iload_n 2, 1) := by decide +kernel
theorem dX10_pass_43 : decode cX10_pass 43 = .ok (.ifCond .ne 22, 3) := by decide +kernel
theorem dX10_pass_46 : decode cX10_pass 46 = .ok (.iload 4, 2) := by decide +kernel
theorem dX10_pass_48 : decode cX10_pass 48 = .ok (.iload_n 1, 1) := by decide +kernel
theorem dX10_pass_49 : decode cX10_pass 49 = .ok (.invokestatic 253, 3) := by decide +kernel
theorem dX10_pass_52 : decode cX10_pass 52 = .ok (.bipush 12, 2) := by decide +kernel
theorem dX10_pass_54 : decode cX10_pass 54 = .ok (.iload_n 1, 1) := by decide +kernel
theorem dX10_pass_55 : decode cX10_pass 55 = .ok (.invokestatic 253, 3) := by decide +kernel
theorem dX10_pass_58 : decode cX10_pass 58 = .ok (.iload_n 3, 1) := by decide +kernel
theorem dX10_pass_59 : decode cX10_pass 59 = .ok (.invokestatic 224, 3) := by decide +kernel
theorem dX10_pass_62 : decode cX10_pass 62 = .ok (.goto 15, 3) := by decide +kernel
theorem dX10_pass_65 : decode cX10_pass 65 = .ok (.iload_n 1, 1) := by decide +kernel
theorem dX10_pass_66 : decode cX10_pass 66 = .ok (.iload 4, 2) := by decide +kernel
theorem dX10_pass_68 : decode cX10_pass 68 = .ok (.imul, 1) := by decide +kernel
theorem dX10_pass_69 : decode cX10_pass 69 = .ok (.i2l, 1) := by decide +kernel
theorem dX10_pass_70 : decode cX10_pass 70 = .ok (.ldc2_w 256, 3) := by decide +kernel
theorem dX10_pass_73 : decode cX10_pass 73 = .ok (.iload_n 3, 1) := by decide +kernel
theorem dX10_pass_74 : decode cX10_pass 74 = .ok (.invokestatic 224, 3) := by decide +kernel
theorem dX10_pass_77 : decode cX10_pass 77 = .ok (.lreturn, 1) := by decide +kernel
theorem dX10_mostFalse_0 : decode cX10_mostFalse 0 = .ok (.iload_n 1, 1) := by decide +kernel
theorem dX10_mostFalse_1 : decode cX10_mostFalse 1 = .ok (.ifCond .lt 9, 3) := by decide +kernel
theorem dX10_mostFalse_4 : decode cX10_mostFalse 4 = .ok (.iload_n 1, 1) := by decide +kernel
theorem dX10_mostFalse_5 : decode cX10_mostFalse 5 = .ok (.bipush 12, 2) := by decide +kernel
theorem dX10_mostFalse_7 : decode cX10_mostFalse 7 = .ok (.if_icmp .le 5, 3) := by decide +kernel
theorem dX10_mostFalse_10 : decode cX10_mostFalse 10 = .ok (.iconst (-1), 1) := by decide +kernel
theorem dX10_mostFalse_11 : decode cX10_mostFalse 11 = .ok (.ireturn, 1) := by decide +kernel
theorem dX10_mostFalse_12 : decode cX10_mostFalse 12 = .ok (.bipush (-2), 2) := by decide +kernel
theorem dX10_mostFalse_14 : decode cX10_mostFalse 14 = .ok (.istore_n 2, 1) := by decide +kernel
theorem dX10_mostFalse_15 : decode cX10_mostFalse 15 = .ok (.iconst 0, 1) := by decide +kernel
theorem dX10_mostFalse_16 : decode cX10_mostFalse 16 = .ok (.istore_n 3, 1) := by decide +kernel
theorem dX10_mostFalse_17 : decode cX10_mostFalse 17 = .ok (.iload_n 3, 1) := by decide +kernel
theorem dX10_mostFalse_18 : decode cX10_mostFalse 18 = .ok (.bipush 8, 2) := by decide +kernel
theorem dX10_mostFalse_20 : decode cX10_mostFalse 20 = .ok (.if_icmp .gt 42, 3) := by decide +kernel
theorem dX10_mostFalse_23 : decode cX10_mostFalse 23 = .ok (.bipush 12, 2) := by decide +kernel
theorem dX10_mostFalse_25 : decode cX10_mostFalse 25 = .ok (.aload_n 0, 1) := by decide +kernel
theorem dX10_mostFalse_26 : decode cX10_mostFalse 26 = .ok (.getfield 19, 3) := by decide +kernel
theorem dX10_mostFalse_29 : decode cX10_mostFalse 29 = .ok (.invokevirtual 250, 3) := by decide +kernel
theorem dX10_mostFalse_32 : decode cX10_mostFalse 32 = .ok (.isub, 1) := by decide +kernel
theorem dX10_mostFalse_33 : decode cX10_mostFalse 33 = .ok (.iload_n 3, 1) := by decide +kernel
theorem dX10_mostFalse_34 : decode cX10_mostFalse 34 = .ok (.invokestatic 253, 3) := by decide +kernel
theorem dX10_mostFalse_37 : decode cX10_mostFalse 37 = .ok (.ldc2_w 256, 3) := by decide +kernel
theorem dX10_mostFalse_40 : decode cX10_mostFalse 40 = .ok (.lmul, 1) := by decide +kernel
theorem dX10_mostFalse_41 : decode cX10_mostFalse 41 = .ok (.iload_n 1, 1) := by decide +kernel
theorem dX10_mostFalse_42 : decode cX10_mostFalse 42 = .ok (.i2l, 1) := by decide +kernel
theorem dX10_mostFalse_43 : decode cX10_mostFalse 43 = .ok (.bipush 12, 2) := by decide +kernel
theorem dX10_mostFalse_45 : decode cX10_mostFalse 45 = .ok (.iload_n 3, 1) := by decide +kernel
theorem dX10_mostFalse_46 : decode cX10_mostFalse 46 = .ok (.invokestatic 253, 3) := by decide +kernel
theorem dX10_mostFalse_49 : decode cX10_mostFalse 49 = .ok (.lmul, 1) := by decide +kernel
theorem dX10_mostFalse_50 : decode cX10_mostFalse 50 = .ok (.lcmp, 1) := by decide +kernel
theorem dX10_mostFalse_51 : decode cX10_mostFalse 51 = .ok (.ifCond .lt 5, 3) := by decide +kernel
theorem dX10_mostFalse_54 : decode cX10_mostFalse 54 = .ok (.iload_n 3, 1) := by decide +kernel
theorem dX10_mostFalse_55 : decode cX10_mostFalse 55 = .ok (.istore_n 2, 1) := by decide +kernel
theorem dX10_mostFalse_56 : decode cX10_mostFalse 56 = .ok (.iinc 3 1, 3) := by decide +kernel
theorem dX10_mostFalse_59 : decode cX10_mostFalse 59 = .ok (.goto (-42), 3) := by decide +kernel
theorem dX10_mostFalse_62 : decode cX10_mostFalse 62 = .ok (.iload_n 2, 1) := by decide +kernel
theorem dX10_mostFalse_63 : decode cX10_mostFalse 63 = .ok (.ireturn, 1) := by decide +kernel
theorem dX10_judge_0 : decode cX10_judge 0 = .ok (.iload_n 1, 1) := by decide +kernel
theorem dX10_judge_1 : decode cX10_judge 1 = .ok (.invokestatic 96, 3) := by decide +kernel
theorem dX10_judge_4 : decode cX10_judge 4 = .ok (.ifCond .ne 5, 3) := by decide +kernel
theorem dX10_judge_7 : decode cX10_judge 7 = .ok (.iconst (-1), 1) := by decide +kernel
theorem dX10_judge_8 : decode cX10_judge 8 = .ok (.ireturn, 1) := by decide +kernel
theorem dX10_judge_9 : decode cX10_judge 9 = .ok (.aload_n 0, 1) := by decide +kernel
theorem dX10_judge_10 : decode cX10_judge 10 = .ok (.getfield 83, 3) := by decide +kernel
theorem dX10_judge_13 : decode cX10_judge 13 = .ok (.iload_n 1, 1) := by decide +kernel
theorem dX10_judge_14 : decode cX10_judge 14 = .ok (.aaload, 1) := by decide +kernel
theorem dX10_judge_15 : decode cX10_judge 15 = .ok (.invokevirtual 103, 3) := by decide +kernel
theorem dX10_judge_18 : decode cX10_judge 18 = .ok (.istore_n 2, 1) := by decide +kernel
theorem dX10_judge_19 : decode cX10_judge 19 = .ok (.iload_n 2, 1) := by decide +kernel
theorem dX10_judge_20 : decode cX10_judge 20 = .ok (.ifCond .eq 7, 3) := by decide +kernel
theorem dX10_judge_23 : decode cX10_judge 23 = .ok (.iload_n 2, 1) := by decide +kernel
theorem dX10_judge_24 : decode cX10_judge 24 = .ok (.goto 20, 3) := by decide +kernel
theorem dX10_judge_27 : decode cX10_judge 27 = .ok (.aload_n 0, 1) := by decide +kernel
theorem dX10_judge_28 : decode cX10_judge 28 = .ok (.getfield 37, 3) := by decide +kernel
theorem dX10_judge_31 : decode cX10_judge 31 = .ok (.aload_n 0, 1) := by decide +kernel
theorem dX10_judge_32 : decode cX10_judge 32 = .ok (.getfield 83, 3) := by decide +kernel
theorem dX10_judge_35 : decode cX10_judge 35 = .ok (.iload_n 1, 1) := by decide +kernel
theorem dX10_judge_36 : decode cX10_judge 36 = .ok (.aaload, 1) := by decide +kernel
theorem dX10_judge_37 : decode cX10_judge 37 = .ok (.aload_n 0, 1) := by decide +kernel
theorem dX10_judge_38 : decode cX10_judge 38 = .ok (.getfield 46, 3) := by decide +kernel
theorem dX10_judge_41 : decode cX10_judge 41 = .ok (.invokevirtual 258, 3) := by decide +kernel
theorem dX10_judge_44 : decode cX10_judge 44 = .ok (.ireturn, 1) := by decide +kernel
theorem dX10_drawn_0 : decode cX10_drawn 0 = .ok (.iload_n 2, 1) := by decide +kernel
theorem dX10_drawn_1 : decode cX10_drawn 1 = .ok (.bipush 100, 2) := by decide +kernel
theorem dX10_drawn_3 : decode cX10_drawn 3 = .ok (.if_icmp .lt 30, 3) := by decide +kernel
theorem dX10_drawn_6 : decode cX10_drawn 6 = .ok (.iload_n 2, 1) := by decide +kernel
theorem dX10_drawn_7 : decode cX10_drawn 7 = .ok (.bipush 100, 2) := by decide +kernel
theorem dX10_drawn_9 : decode cX10_drawn 9 = .ok (.idiv, 1) := by decide +kernel
theorem dX10_drawn_10 : decode cX10_drawn 10 = .ok (.bipush 60, 2) := by decide +kernel
theorem dX10_drawn_12 : decode cX10_drawn 12 = .ok (.if_icmp .gt 21, 3) := by decide +kernel
theorem dX10_drawn_15 : decode cX10_drawn 15 = .ok (.iload_n 2, 1) := by decide +kernel
theorem dX10_drawn_16 : decode cX10_drawn 16 = .ok (.bipush 100, 2) := by decide +kernel
theorem dX10_drawn_18 : decode cX10_drawn 18 = .ok (.irem, 1) := by decide +kernel
theorem dX10_drawn_19 : decode cX10_drawn 19 = .ok (.bipush 49, 2) := by decide +kernel
theorem dX10_drawn_21 : decode cX10_drawn 21 = .ok (.if_icmp .gt 12, 3) := by decide +kernel
theorem dX10_drawn_24 : decode cX10_drawn 24 = .ok (.iload_n 3, 1) := by decide +kernel
theorem dX10_drawn_25 : decode cX10_drawn 25 = .ok (.ifCond .lt 8, 3) := by decide +kernel
theorem dX10_drawn_28 : decode cX10_drawn 28 = .ok (.iload_n 3, 1) := by decide +kernel
theorem dX10_drawn_29 : decode cX10_drawn 29 = .ok (.iconst 1, 1) := by decide +kernel
theorem dX10_drawn_30 : decode cX10_drawn 30 = .ok (.if_icmp .le 5, 3) := by decide +kernel
theorem dX10_drawn_33 : decode cX10_drawn 33 = .ok (.iconst (-1), 1) := by decide +kernel
theorem dX10_drawn_34 : decode cX10_drawn 34 = .ok (.ireturn, 1) := by decide +kernel
theorem dX10_drawn_35 : decode cX10_drawn 35 = .ok (.aload_n 0, 1) := by decide +kernel
theorem dX10_drawn_36 : decode cX10_drawn 36 = .ok (.getfield 19, 3) := by decide +kernel
theorem dX10_drawn_39 : decode cX10_drawn 39 = .ok (.invokevirtual 261, 3) := by decide +kernel
theorem dX10_drawn_42 : decode cX10_drawn 42 = .ok (.istore 4, 2) := by decide +kernel
theorem dX10_drawn_44 : decode cX10_drawn 44 = .ok (.iload 4, 2) := by decide +kernel
theorem dX10_drawn_46 : decode cX10_drawn 46 = .ok (.iconst 1, 1) := by decide +kernel
theorem dX10_drawn_47 : decode cX10_drawn 47 = .ok (.if_icmp .ge 6, 3) := by decide +kernel
theorem dX10_drawn_50 : decode cX10_drawn 50 = .ok (.bipush (-5), 2) := by decide +kernel
theorem dX10_drawn_52 : decode cX10_drawn 52 = .ok (.ireturn, 1) := by decide +kernel
theorem dX10_drawn_53 : decode cX10_drawn 53 = .ok (.aload_n 0, 1) := by decide +kernel
theorem dX10_drawn_54 : decode cX10_drawn 54 = .ok (.getfield 50, 3) := by decide +kernel
theorem dX10_drawn_57 : decode cX10_drawn 57 = .ok (.aload_n 0, 1) := by decide +kernel
theorem dX10_drawn_58 : decode cX10_drawn 58 = .ok (.getfield 46, 3) := by decide +kernel
theorem dX10_drawn_61 : decode cX10_drawn 61 = .ok (.invokevirtual 181, 3) := by decide +kernel
theorem dX10_drawn_64 : decode cX10_drawn 64 = .ok (.iload_n 1, 1) := by decide +kernel
theorem dX10_drawn_65 : decode cX10_drawn 65 = .ok (.istore 5, 2) := by decide +kernel
theorem dX10_drawn_67 : decode cX10_drawn 67 = .ok (.iconst 0, 1) := by decide +kernel
theorem dX10_drawn_68 : decode cX10_drawn 68 = .ok (.istore 6, 2) := by decide +kernel
theorem dX10_drawn_70 : decode cX10_drawn 70 = .ok (.iconst 0, 1) := by decide +kernel
theorem dX10_drawn_71 : decode cX10_drawn 71 = .ok (.istore 7, 2) := by decide +kernel
theorem dX10_drawn_73 : decode cX10_drawn 73 = .ok (.iload 7, 2) := by decide +kernel
theorem dX10_drawn_75 : decode cX10_drawn 75 = .ok (.iload_n 2, 1) := by decide +kernel
theorem dX10_drawn_76 : decode cX10_drawn 76 = .ok (.bipush 100, 2) := by decide +kernel
theorem dX10_drawn_78 : decode cX10_drawn 78 = .ok (.idiv, 1) := by decide +kernel
theorem dX10_drawn_79 : decode cX10_drawn 79 = .ok (.if_icmp .ge 66, 3) := by decide +kernel
theorem dX10_drawn_82 : decode cX10_drawn 82 = .ok (.iload 5, 2) := by decide +kernel
theorem dX10_drawn_84 : decode cX10_drawn 84 = .ok (.invokestatic 264, 3) := by decide +kernel
theorem dX10_drawn_87 : decode cX10_drawn 87 = .ok (.istore 5, 2) := by decide +kernel
theorem dX10_drawn_89 : decode cX10_drawn 89 = .ok (.iload 5, 2) := by decide +kernel
theorem dX10_drawn_91 : decode cX10_drawn 91 = .ok (.bipush 8, 2) := by decide +kernel
theorem dX10_drawn_93 : decode cX10_drawn 93 = .ok (.iushr, 1) := by decide +kernel
theorem dX10_drawn_94 : decode cX10_drawn 94 = .ok (.iload 4, 2) := by decide +kernel
theorem dX10_drawn_96 : decode cX10_drawn 96 = .ok (.irem, 1) := by decide +kernel
theorem dX10_drawn_97 : decode cX10_drawn 97 = .ok (.istore 8, 2) := by decide +kernel
theorem dX10_drawn_99 : decode cX10_drawn 99 = .ok (.iload 5, 2) := by decide +kernel
theorem dX10_drawn_101 : decode cX10_drawn 101 = .ok (.invokestatic 264, 3) := by decide +kernel
theorem dX10_drawn_104 : decode cX10_drawn 104 = .ok (.istore 5, 2) := by decide +kernel
theorem dX10_drawn_106 : decode cX10_drawn 106 = .ok (.iconst 1, 1) := by decide +kernel
theorem dX10_drawn_107 : decode cX10_drawn 107 = .ok (.iload 5, 2) := by decide +kernel
theorem dX10_drawn_109 : decode cX10_drawn 109 = .ok (.bipush 8, 2) := by decide +kernel
theorem dX10_drawn_111 : decode cX10_drawn 111 = .ok (.iushr, 1) := by decide +kernel
theorem dX10_drawn_112 : decode cX10_drawn 112 = .ok (.bipush 6, 2) := by decide +kernel
theorem dX10_drawn_114 : decode cX10_drawn 114 = .ok (.irem, 1) := by decide +kernel
theorem dX10_drawn_115 : decode cX10_drawn 115 = .ok (.iadd, 1) := by decide +kernel
theorem dX10_drawn_116 : decode cX10_drawn 116 = .ok (.istore 9, 2) := by decide +kernel
theorem dX10_drawn_118 : decode cX10_drawn 118 = .ok (.aload_n 0, 1) := by decide +kernel
theorem dX10_drawn_119 : decode cX10_drawn 119 = .ok (.getfield 28, 3) := by decide +kernel
theorem dX10_drawn_122 : decode cX10_drawn 122 = .ok (.aload_n 0, 1) := by decide +kernel
theorem dX10_drawn_123 : decode cX10_drawn 123 = .ok (.getfield 50, 3) := by decide +kernel
theorem dX10_drawn_126 : decode cX10_drawn 126 = .ok (.iload 8, 2) := by decide +kernel
theorem dX10_drawn_128 : decode cX10_drawn 128 = .ok (.iload 9, 2) := by decide +kernel
theorem dX10_drawn_130 : decode cX10_drawn 130 = .ok (.invokevirtual 267, 3) := by decide +kernel
theorem dX10_drawn_133 : decode cX10_drawn 133 = .ok (.ifCond .ge 6, 3) := by decide +kernel
theorem dX10_drawn_136 : decode cX10_drawn 136 = .ok (.iinc 6 1, 3) := by decide +kernel
theorem dX10_drawn_139 : decode cX10_drawn 139 = .ok (.iinc 7 1, 3) := by decide +kernel
theorem dX10_drawn_142 : decode cX10_drawn 142 = .ok (.goto (-69), 3) := by decide +kernel
theorem dX10_drawn_145 : decode cX10_drawn 145 = .ok (.aload_n 0, 1) := by decide +kernel
theorem dX10_drawn_146 : decode cX10_drawn 146 = .ok (.getfield 50, 3) := by decide +kernel
theorem dX10_drawn_149 : decode cX10_drawn 149 = .ok (.iload_n 2, 1) := by decide +kernel
theorem dX10_drawn_150 : decode cX10_drawn 150 = .ok (.bipush 100, 2) := by decide +kernel
theorem dX10_drawn_152 : decode cX10_drawn 152 = .ok (.irem, 1) := by decide +kernel
theorem dX10_drawn_153 : decode cX10_drawn 153 = .ok (.invokevirtual 185, 3) := by decide +kernel
theorem dX10_drawn_156 : decode cX10_drawn 156 = .ok (.pop, 1) := by decide +kernel
theorem dX10_drawn_157 : decode cX10_drawn 157 = .ok (.iload_n 3, 1) := by decide +kernel
theorem dX10_drawn_158 : decode cX10_drawn 158 = .ok (.ifCond .ne 13, 3) := by decide +kernel
theorem dX10_drawn_161 : decode cX10_drawn 161 = .ok (.aload_n 0, 1) := by decide +kernel
theorem dX10_drawn_162 : decode cX10_drawn 162 = .ok (.getfield 50, 3) := by decide +kernel
theorem dX10_drawn_165 : decode cX10_drawn 165 = .ok (.invokevirtual 270, 3) := by decide +kernel
theorem dX10_drawn_168 : decode cX10_drawn 168 = .ok (.goto 5, 3) := by decide +kernel
theorem dX10_drawn_171 : decode cX10_drawn 171 = .ok (.iload 6, 2) := by decide +kernel
theorem dX10_drawn_173 : decode cX10_drawn 173 = .ok (.ireturn, 1) := by decide +kernel
theorem dX10_sale_0 : decode cX10_sale 0 = .ok (.aload_n 0, 1) := by decide +kernel
theorem dX10_sale_1 : decode cX10_sale 1 = .ok (.iload_n 1, 1) := by decide +kernel
theorem dX10_sale_2 : decode cX10_sale 2 = .ok (.invokevirtual 164, 3) := by decide +kernel
theorem dX10_sale_5 : decode cX10_sale 5 = .ok (.ifCond .ne 5, 3) := by decide +kernel
theorem dX10_sale_8 : decode cX10_sale 8 = .ok (.iconst (-1), 1) := by decide +kernel
theorem dX10_sale_9 : decode cX10_sale 9 = .ok (.ireturn, 1) := by decide +kernel
theorem dX10_sale_10 : decode cX10_sale 10 = .ok (.aload_n 0, 1) := by decide +kernel
theorem dX10_sale_11 : decode cX10_sale 11 = .ok (.getfield 28, 3) := by decide +kernel
theorem dX10_sale_14 : decode cX10_sale 14 = .ok (.aload_n 0, 1) := by decide +kernel
theorem dX10_sale_15 : decode cX10_sale 15 = .ok (.getfield 46, 3) := by decide +kernel
theorem dX10_sale_18 : decode cX10_sale 18 = .ok (.iload_n 1, 1) := by decide +kernel
theorem dX10_sale_19 : decode cX10_sale 19 = .ok (.bipush 10, 2) := by decide +kernel
theorem dX10_sale_21 : decode cX10_sale 21 = .ok (.idiv, 1) := by decide +kernel
theorem dX10_sale_22 : decode cX10_sale 22 = .ok (.iload_n 1, 1) := by decide +kernel
theorem dX10_sale_23 : decode cX10_sale 23 = .ok (.bipush 10, 2) := by decide +kernel
theorem dX10_sale_25 : decode cX10_sale 25 = .ok (.irem, 1) := by decide +kernel
theorem dX10_sale_26 : decode cX10_sale 26 = .ok (.invokevirtual 267, 3) := by decide +kernel
theorem dX10_sale_29 : decode cX10_sale 29 = .ok (.istore_n 2, 1) := by decide +kernel
theorem dX10_sale_30 : decode cX10_sale 30 = .ok (.iload_n 2, 1) := by decide +kernel
theorem dX10_sale_31 : decode cX10_sale 31 = .ok (.ifCond .ge 6, 3) := by decide +kernel
theorem dX10_sale_34 : decode cX10_sale 34 = .ok (.bipush (-3), 2) := by decide +kernel
theorem dX10_sale_36 : decode cX10_sale 36 = .ok (.ireturn, 1) := by decide +kernel
theorem dX10_sale_37 : decode cX10_sale 37 = .ok (.aload_n 0, 1) := by decide +kernel
theorem dX10_sale_38 : decode cX10_sale 38 = .ok (.getfield 56, 3) := by decide +kernel
theorem dX10_sale_41 : decode cX10_sale 41 = .ok (.iconst 0, 1) := by decide +kernel
theorem dX10_sale_42 : decode cX10_sale 42 = .ok (.dup2, 1) := by decide +kernel
theorem dX10_sale_43 : decode cX10_sale 43 = .ok (.iaload, 1) := by decide +kernel
theorem dX10_sale_44 : decode cX10_sale 44 = .ok (.iconst 1, 1) := by decide +kernel
theorem dX10_sale_45 : decode cX10_sale 45 = .ok (.iadd, 1) := by decide +kernel
theorem dX10_sale_46 : decode cX10_sale 46 = .ok (.iastore, 1) := by decide +kernel
theorem dX10_sale_47 : decode cX10_sale 47 = .ok (.aload_n 0, 1) := by decide +kernel
theorem dX10_sale_48 : decode cX10_sale 48 = .ok (.getfield 56, 3) := by decide +kernel
theorem dX10_sale_51 : decode cX10_sale 51 = .ok (.iconst 1, 1) := by decide +kernel
theorem dX10_sale_52 : decode cX10_sale 52 = .ok (.dup2, 1) := by decide +kernel
theorem dX10_sale_53 : decode cX10_sale 53 = .ok (.iaload, 1) := by decide +kernel
theorem dX10_sale_54 : decode cX10_sale 54 = .ok (.iload_n 1, 1) := by decide +kernel
theorem dX10_sale_55 : decode cX10_sale 55 = .ok (.bipush 10, 2) := by decide +kernel
theorem dX10_sale_57 : decode cX10_sale 57 = .ok (.irem, 1) := by decide +kernel
theorem dX10_sale_58 : decode cX10_sale 58 = .ok (.iadd, 1) := by decide +kernel
theorem dX10_sale_59 : decode cX10_sale 59 = .ok (.iastore, 1) := by decide +kernel
theorem dX10_sale_60 : decode cX10_sale 60 = .ok (.iload_n 2, 1) := by decide +kernel
theorem dX10_sale_61 : decode cX10_sale 61 = .ok (.ireturn, 1) := by decide +kernel
theorem dX10_eat_0 : decode cX10_eat 0 = .ok (.iload_n 1, 1) := by decide +kernel
theorem dX10_eat_1 : decode cX10_eat 1 = .ok (.ifCond .lt 9, 3) := by decide +kernel
theorem dX10_eat_4 : decode cX10_eat 4 = .ok (.iload_n 1, 1) := by decide +kernel
theorem dX10_eat_5 : decode cX10_eat 5 = .ok (.bipush 49, 2) := by decide +kernel
theorem dX10_eat_7 : decode cX10_eat 7 = .ok (.if_icmp .le 5, 3) := by decide +kernel
theorem dX10_eat_10 : decode cX10_eat 10 = .ok (.iconst (-1), 1) := by decide +kernel
theorem dX10_eat_11 : decode cX10_eat 11 = .ok (.ireturn, 1) := by decide +kernel
theorem dX10_eat_12 : decode cX10_eat 12 = .ok (.aload_n 0, 1) := by decide +kernel
theorem dX10_eat_13 : decode cX10_eat 13 = .ok (.getfield 46, 3) := by decide +kernel
theorem dX10_eat_16 : decode cX10_eat 16 = .ok (.iload_n 1, 1) := by decide +kernel
theorem dX10_eat_17 : decode cX10_eat 17 = .ok (.invokevirtual 185, 3) := by decide +kernel
theorem dX10_eat_20 : decode cX10_eat 20 = .ok (.istore_n 2, 1) := by decide +kernel
theorem dX10_eat_21 : decode cX10_eat 21 = .ok (.aload_n 0, 1) := by decide +kernel
theorem dX10_eat_22 : decode cX10_eat 22 = .ok (.getfield 56, 3) := by decide +kernel
theorem dX10_eat_25 : decode cX10_eat 25 = .ok (.iconst 2, 1) := by decide +kernel
theorem dX10_eat_26 : decode cX10_eat 26 = .ok (.dup2, 1) := by decide +kernel
theorem dX10_eat_27 : decode cX10_eat 27 = .ok (.iaload, 1) := by decide +kernel
theorem dX10_eat_28 : decode cX10_eat 28 = .ok (.iload_n 2, 1) := by decide +kernel
theorem dX10_eat_29 : decode cX10_eat 29 = .ok (.iadd, 1) := by decide +kernel
theorem dX10_eat_30 : decode cX10_eat 30 = .ok (.iastore, 1) := by decide +kernel
theorem dX10_eat_31 : decode cX10_eat 31 = .ok (.aload_n 0, 1) := by decide +kernel
theorem dX10_eat_32 : decode cX10_eat 32 = .ok (.getfield 56, 3) := by decide +kernel
theorem dX10_eat_35 : decode cX10_eat 35 = .ok (.iconst 5, 1) := by decide +kernel
theorem dX10_eat_36 : decode cX10_eat 36 = .ok (.dup2, 1) := by decide +kernel
theorem dX10_eat_37 : decode cX10_eat 37 = .ok (.iaload, 1) := by decide +kernel
theorem dX10_eat_38 : decode cX10_eat 38 = .ok (.iconst 1, 1) := by decide +kernel
theorem dX10_eat_39 : decode cX10_eat 39 = .ok (.iadd, 1) := by decide +kernel
theorem dX10_eat_40 : decode cX10_eat 40 = .ok (.iastore, 1) := by decide +kernel
theorem dX10_eat_41 : decode cX10_eat 41 = .ok (.iload_n 2, 1) := by decide +kernel
theorem dX10_eat_42 : decode cX10_eat 42 = .ok (.ireturn, 1) := by decide +kernel
theorem dX10_run_0 : decode cX10_run 0 = .ok (.aload_n 0, 1) := by decide +kernel
theorem dX10_run_1 : decode cX10_run 1 = .ok (.getfield 46, 3) := by decide +kernel
theorem dX10_run_4 : decode cX10_run 4 = .ok (.invokevirtual 195, 3) := by decide +kernel
theorem dX10_run_7 : decode cX10_run 7 = .ok (.istore_n 1, 1) := by decide +kernel
theorem dX10_run_8 : decode cX10_run 8 = .ok (.aload_n 0, 1) := by decide +kernel
theorem dX10_run_9 : decode cX10_run 9 = .ok (.getfield 56, 3) := by decide +kernel
theorem dX10_run_12 : decode cX10_run 12 = .ok (.iconst 3, 1) := by decide +kernel
theorem dX10_run_13 : decode cX10_run 13 = .ok (.dup2, 1) := by decide +kernel
theorem dX10_run_14 : decode cX10_run 14 = .ok (.iaload, 1) := by decide +kernel
theorem dX10_run_15 : decode cX10_run 15 = .ok (.iload_n 1, 1) := by decide +kernel
theorem dX10_run_16 : decode cX10_run 16 = .ok (.iadd, 1) := by decide +kernel
theorem dX10_run_17 : decode cX10_run 17 = .ok (.iastore, 1) := by decide +kernel
theorem dX10_run_18 : decode cX10_run 18 = .ok (.iload_n 1, 1) := by decide +kernel
theorem dX10_run_19 : decode cX10_run 19 = .ok (.ireturn, 1) := by decide +kernel
theorem dX10_fly_0 : decode cX10_fly 0 = .ok (.iload_n 1, 1) := by decide +kernel
theorem dX10_fly_1 : decode cX10_fly 1 = .ok (.invokestatic 198, 3) := by decide +kernel
theorem dX10_fly_4 : decode cX10_fly 4 = .ok (.ifCond .ne 5, 3) := by decide +kernel
theorem dX10_fly_7 : decode cX10_fly 7 = .ok (.iconst (-1), 1) := by decide +kernel
theorem dX10_fly_8 : decode cX10_fly 8 = .ok (.ireturn, 1) := by decide +kernel
theorem dX10_fly_9 : decode cX10_fly 9 = .ok (.aload_n 0, 1) := by decide +kernel
theorem dX10_fly_10 : decode cX10_fly 10 = .ok (.getfield 46, 3) := by decide +kernel
theorem dX10_fly_13 : decode cX10_fly 13 = .ok (.iload_n 1, 1) := by decide +kernel
theorem dX10_fly_14 : decode cX10_fly 14 = .ok (.bipush 10, 2) := by decide +kernel
theorem dX10_fly_16 : decode cX10_fly 16 = .ok (.idiv, 1) := by decide +kernel
theorem dX10_fly_17 : decode cX10_fly 17 = .ok (.iload_n 1, 1) := by decide +kernel
theorem dX10_fly_18 : decode cX10_fly 18 = .ok (.bipush 10, 2) := by decide +kernel
theorem dX10_fly_20 : decode cX10_fly 20 = .ok (.irem, 1) := by decide +kernel
theorem dX10_fly_21 : decode cX10_fly 21 = .ok (.invokevirtual 201, 3) := by decide +kernel
theorem dX10_fly_24 : decode cX10_fly 24 = .ok (.istore_n 2, 1) := by decide +kernel
theorem dX10_fly_25 : decode cX10_fly 25 = .ok (.aload_n 0, 1) := by decide +kernel
theorem dX10_fly_26 : decode cX10_fly 26 = .ok (.getfield 56, 3) := by decide +kernel
theorem dX10_fly_29 : decode cX10_fly 29 = .ok (.iconst 4, 1) := by decide +kernel
theorem dX10_fly_30 : decode cX10_fly 30 = .ok (.dup2, 1) := by decide +kernel
theorem dX10_fly_31 : decode cX10_fly 31 = .ok (.iaload, 1) := by decide +kernel
theorem dX10_fly_32 : decode cX10_fly 32 = .ok (.iload_n 2, 1) := by decide +kernel
theorem dX10_fly_33 : decode cX10_fly 33 = .ok (.iadd, 1) := by decide +kernel
theorem dX10_fly_34 : decode cX10_fly 34 = .ok (.iastore, 1) := by decide +kernel
theorem dX10_fly_35 : decode cX10_fly 35 = .ok (.iload_n 2, 1) := by decide +kernel
theorem dX10_fly_36 : decode cX10_fly 36 = .ok (.ireturn, 1) := by decide +kernel
theorem dX10_led_0 : decode cX10_led 0 = .ok (.iload_n 1, 1) := by decide +kernel
theorem dX10_led_1 : decode cX10_led 1 = .ok (.ifCond .lt 9, 3) := by decide +kernel
theorem dX10_led_4 : decode cX10_led 4 = .ok (.iload_n 1, 1) := by decide +kernel
theorem dX10_led_5 : decode cX10_led 5 = .ok (.bipush 6, 2) := by decide +kernel
theorem dX10_led_7 : decode cX10_led 7 = .ok (.if_icmp .lt 7, 3) := by decide +kernel
theorem dX10_led_10 : decode cX10_led 10 = .ok (.iconst (-1), 1) := by decide +kernel
theorem dX10_led_11 : decode cX10_led 11 = .ok (.goto 9, 3) := by decide +kernel
theorem dX10_led_14 : decode cX10_led 14 = .ok (.aload_n 0, 1) := by decide +kernel
theorem dX10_led_15 : decode cX10_led 15 = .ok (.getfield 56, 3) := by decide +kernel
theorem dX10_led_18 : decode cX10_led 18 = .ok (.iload_n 1, 1) := by decide +kernel
theorem dX10_led_19 : decode cX10_led 19 = .ok (.iaload, 1) := by decide +kernel
theorem dX10_led_20 : decode cX10_led 20 = .ok (.ireturn, 1) := by decide +kernel
theorem dX10_image_0 : decode cX10_image 0 = .ok (.aload_n 0, 1) := by decide +kernel
theorem dX10_image_1 : decode cX10_image 1 = .ok (.getfield 53, 3) := by decide +kernel
theorem dX10_image_4 : decode cX10_image 4 = .ok (.aload_n 0, 1) := by decide +kernel
theorem dX10_image_5 : decode cX10_image 5 = .ok (.getfield 46, 3) := by decide +kernel
theorem dX10_image_8 : decode cX10_image 8 = .ok (.invokevirtual 181, 3) := by decide +kernel
theorem dX10_image_11 : decode cX10_image 11 = .ok (.aload_n 0, 1) := by decide +kernel
theorem dX10_image_12 : decode cX10_image 12 = .ok (.getfield 56, 3) := by decide +kernel
theorem dX10_image_15 : decode cX10_image 15 = .ok (.iconst 0, 1) := by decide +kernel
theorem dX10_image_16 : decode cX10_image 16 = .ok (.aload_n 0, 1) := by decide +kernel
theorem dX10_image_17 : decode cX10_image 17 = .ok (.getfield 60, 3) := by decide +kernel
theorem dX10_image_20 : decode cX10_image 20 = .ok (.iconst 0, 1) := by decide +kernel
theorem dX10_image_21 : decode cX10_image 21 = .ok (.bipush 6, 2) := by decide +kernel
theorem dX10_image_23 : decode cX10_image 23 = .ok (.invokestatic 273, 3) := by decide +kernel
theorem dX10_image_26 : decode cX10_image 26 = .ok (.aload_n 0, 1) := by decide +kernel
theorem dX10_image_27 : decode cX10_image 27 = .ok (.iconst 1, 1) := by decide +kernel
theorem dX10_image_28 : decode cX10_image 28 = .ok (.putfield 63, 3) := by decide +kernel
theorem dX10_image_31 : decode cX10_image 31 = .ok (.aload_n 0, 1) := by decide +kernel
theorem dX10_image_32 : decode cX10_image 32 = .ok (.getfield 56, 3) := by decide +kernel
theorem dX10_image_35 : decode cX10_image 35 = .ok (.iconst 0, 1) := by decide +kernel
theorem dX10_image_36 : decode cX10_image 36 = .ok (.iaload, 1) := by decide +kernel
theorem dX10_image_37 : decode cX10_image 37 = .ok (.ireturn, 1) := by decide +kernel
theorem dX10_back_0 : decode cX10_back 0 = .ok (.aload_n 0, 1) := by decide +kernel
theorem dX10_back_1 : decode cX10_back 1 = .ok (.getfield 63, 3) := by decide +kernel
theorem dX10_back_4 : decode cX10_back 4 = .ok (.ifCond .ne 6, 3) := by decide +kernel
theorem dX10_back_7 : decode cX10_back 7 = .ok (.bipush (-5), 2) := by decide +kernel
theorem dX10_back_9 : decode cX10_back 9 = .ok (.ireturn, 1) := by decide +kernel
theorem dX10_back_10 : decode cX10_back 10 = .ok (.aload_n 0, 1) := by decide +kernel
theorem dX10_back_11 : decode cX10_back 11 = .ok (.getfield 46, 3) := by decide +kernel
theorem dX10_back_14 : decode cX10_back 14 = .ok (.aload_n 0, 1) := by decide +kernel
theorem dX10_back_15 : decode cX10_back 15 = .ok (.getfield 53, 3) := by decide +kernel
theorem dX10_back_18 : decode cX10_back 18 = .ok (.invokevirtual 181, 3) := by decide +kernel
theorem dX10_back_21 : decode cX10_back 21 = .ok (.aload_n 0, 1) := by decide +kernel
theorem dX10_back_22 : decode cX10_back 22 = .ok (.getfield 60, 3) := by decide +kernel
theorem dX10_back_25 : decode cX10_back 25 = .ok (.iconst 0, 1) := by decide +kernel
theorem dX10_back_26 : decode cX10_back 26 = .ok (.aload_n 0, 1) := by decide +kernel
theorem dX10_back_27 : decode cX10_back 27 = .ok (.getfield 56, 3) := by decide +kernel
theorem dX10_back_30 : decode cX10_back 30 = .ok (.iconst 0, 1) := by decide +kernel
theorem dX10_back_31 : decode cX10_back 31 = .ok (.bipush 6, 2) := by decide +kernel
theorem dX10_back_33 : decode cX10_back 33 = .ok (.invokestatic 273, 3) := by decide +kernel
theorem dX10_back_36 : decode cX10_back 36 = .ok (.aload_n 0, 1) := by decide +kernel
theorem dX10_back_37 : decode cX10_back 37 = .ok (.getfield 56, 3) := by decide +kernel
theorem dX10_back_40 : decode cX10_back 40 = .ok (.iconst 0, 1) := by decide +kernel
theorem dX10_back_41 : decode cX10_back 41 = .ok (.iaload, 1) := by decide +kernel
theorem dX10_back_42 : decode cX10_back 42 = .ok (.ireturn, 1) := by decide +kernel
theorem dX10_undo_0 : decode cX10_undo 0 = .ok (.aload_n 0, 1) := by decide +kernel
theorem dX10_undo_1 : decode cX10_undo 1 = .ok (.getfield 19, 3) := by decide +kernel
theorem dX10_undo_4 : decode cX10_undo 4 = .ok (.invokevirtual 279, 3) := by decide +kernel
theorem dX10_undo_7 : decode cX10_undo 7 = .ok (.ireturn, 1) := by decide +kernel
theorem dX10_redo_0 : decode cX10_redo 0 = .ok (.aload_n 0, 1) := by decide +kernel
theorem dX10_redo_1 : decode cX10_redo 1 = .ok (.getfield 19, 3) := by decide +kernel
theorem dX10_redo_4 : decode cX10_redo 4 = .ok (.invokevirtual 282, 3) := by decide +kernel
theorem dX10_redo_7 : decode cX10_redo 7 = .ok (.ireturn, 1) := by decide +kernel
theorem dX10_body_0 : decode cX10_body 0 = .ok (.iload_n 1, 1) := by decide +kernel
theorem dX10_body_1 : decode cX10_body 1 = .ok (.invokestatic 285, 3) := by decide +kernel
theorem dX10_body_4 : decode cX10_body 4 = .ok (.ifCond .eq 14, 3) := by decide +kernel
theorem dX10_body_7 : decode cX10_body 7 = .ok (.aload_n 0, 1) := by decide +kernel
theorem dX10_body_8 : decode cX10_body 8 = .ok (.getfield 77, 3) := by decide +kernel
theorem dX10_body_11 : decode cX10_body 11 = .ok (.iload_n 1, 1) := by decide +kernel
theorem dX10_body_12 : decode cX10_body 12 = .ok (.invokevirtual 288, 3) := by decide +kernel
theorem dX10_body_15 : decode cX10_body 15 = .ok (.goto 4, 3) := by decide +kernel
theorem dX10_body_18 : decode cX10_body 18 = .ok (.iconst (-1), 1) := by decide +kernel
theorem dX10_body_19 : decode cX10_body 19 = .ok (.ireturn, 1) := by decide +kernel
theorem dX10_act_0 : decode cX10_act 0 = .ok (.aload_n 0, 1) := by decide +kernel
theorem dX10_act_1 : decode cX10_act 1 = .ok (.getfield 77, 3) := by decide +kernel
theorem dX10_act_4 : decode cX10_act 4 = .ok (.iload_n 1, 1) := by decide +kernel
theorem dX10_act_5 : decode cX10_act 5 = .ok (.iload_n 2, 1) := by decide +kernel
theorem dX10_act_6 : decode cX10_act 6 = .ok (.iload_n 3, 1) := by decide +kernel
theorem dX10_act_7 : decode cX10_act 7 = .ok (.invokevirtual 291, 3) := by decide +kernel
theorem dX10_act_10 : decode cX10_act 10 = .ok (.ireturn, 1) := by decide +kernel
theorem dX10_trace_0 : decode cX10_trace 0 = .ok (.aload_n 0, 1) := by decide +kernel
theorem dX10_trace_1 : decode cX10_trace 1 = .ok (.getfield 77, 3) := by decide +kernel
theorem dX10_trace_4 : decode cX10_trace 4 = .ok (.iload_n 1, 1) := by decide +kernel
theorem dX10_trace_5 : decode cX10_trace 5 = .ok (.invokevirtual 294, 3) := by decide +kernel
theorem dX10_trace_8 : decode cX10_trace 8 = .ok (.ireturn, 1) := by decide +kernel
theorem dX10_keep_0 : decode cX10_keep 0 = .ok (.iload_n 1, 1) := by decide +kernel
theorem dX10_keep_1 : decode cX10_keep 1 = .ok (.invokestatic 96, 3) := by decide +kernel
theorem dX10_keep_4 : decode cX10_keep 4 = .ok (.ifCond .eq 19, 3) := by decide +kernel
theorem dX10_keep_7 : decode cX10_keep 7 = .ok (.iload_n 2, 1) := by decide +kernel
theorem dX10_keep_8 : decode cX10_keep 8 = .ok (.iconst (-1), 1) := by decide +kernel
theorem dX10_keep_9 : decode cX10_keep 9 = .ok (.if_icmp .eq 16, 3) := by decide +kernel
theorem dX10_keep_12 : decode cX10_keep 12 = .ok (.aload_n 0, 1) := by decide +kernel
theorem dX10_keep_13 : decode cX10_keep 13 = .ok (.getfield 77, 3) := by decide +kernel
theorem dX10_keep_16 : decode cX10_keep 16 = .ok (.iload_n 2, 1) := by decide +kernel
theorem dX10_keep_17 : decode cX10_keep 17 = .ok (.invokevirtual 297, 3) := by decide +kernel
theorem dX10_keep_20 : decode cX10_keep 20 = .ok (.ifCond .ne 5, 3) := by decide +kernel
theorem dX10_keep_23 : decode cX10_keep 23 = .ok (.iconst (-1), 1) := by decide +kernel
theorem dX10_keep_24 : decode cX10_keep 24 = .ok (.ireturn, 1) := by decide +kernel
theorem dX10_keep_25 : decode cX10_keep 25 = .ok (.iload_n 2, 1) := by decide +kernel
theorem dX10_keep_26 : decode cX10_keep 26 = .ok (.iconst (-1), 1) := by decide +kernel
theorem dX10_keep_27 : decode cX10_keep 27 = .ok (.if_icmp .ne 15, 3) := by decide +kernel
theorem dX10_keep_30 : decode cX10_keep 30 = .ok (.aload_n 0, 1) := by decide +kernel
theorem dX10_keep_31 : decode cX10_keep 31 = .ok (.getfield 83, 3) := by decide +kernel
theorem dX10_keep_34 : decode cX10_keep 34 = .ok (.iload_n 1, 1) := by decide +kernel
theorem dX10_keep_35 : decode cX10_keep 35 = .ok (.aaload, 1) := by decide +kernel
theorem dX10_keep_36 : decode cX10_keep 36 = .ok (.invokevirtual 300, 3) := by decide +kernel
theorem dX10_keep_39 : decode cX10_keep 39 = .ok (.goto 13, 3) := by decide +kernel
theorem dX10_keep_42 : decode cX10_keep 42 = .ok (.aload_n 0, 1) := by decide +kernel
theorem dX10_keep_43 : decode cX10_keep 43 = .ok (.getfield 83, 3) := by decide +kernel
theorem dX10_keep_46 : decode cX10_keep 46 = .ok (.iload_n 1, 1) := by decide +kernel
theorem dX10_keep_47 : decode cX10_keep 47 = .ok (.aaload, 1) := by decide +kernel
theorem dX10_keep_48 : decode cX10_keep 48 = .ok (.iload_n 2, 1) := by decide +kernel
theorem dX10_keep_49 : decode cX10_keep 49 = .ok (.invokevirtual 303, 3) := by decide +kernel
theorem dX10_keep_52 : decode cX10_keep 52 = .ok (.iconst 1, 1) := by decide +kernel
theorem dX10_keep_53 : decode cX10_keep 53 = .ok (.ireturn, 1) := by decide +kernel
theorem dX10_row_0 : decode cX10_row 0 = .ok (.iload_n 1, 1) := by decide +kernel
theorem dX10_row_1 : decode cX10_row 1 = .ok (.invokestatic 96, 3) := by decide +kernel
theorem dX10_row_4 : decode cX10_row 4 = .ok (.ifCond .eq 16, 3) := by decide +kernel
theorem dX10_row_7 : decode cX10_row 7 = .ok (.iload_n 2, 1) := by decide +kernel
theorem dX10_row_8 : decode cX10_row 8 = .ok (.invokestatic 307, 3) := by decide +kernel
theorem dX10_row_11 : decode cX10_row 11 = .ok (.ifCond .eq 9, 3) := by decide +kernel
theorem dX10_row_14 : decode cX10_row 14 = .ok (.iload_n 3, 1) := by decide +kernel
theorem dX10_row_15 : decode cX10_row 15 = .ok (.bipush 60, 2) := by decide +kernel
theorem dX10_row_17 : decode cX10_row 17 = .ok (.if_icmp .le 5, 3) := by decide +kernel
theorem dX10_row_20 : decode cX10_row 20 = .ok (.iconst (-1), 1) := by decide +kernel
theorem dX10_row_21 : decode cX10_row 21 = .ok (.ireturn, 1) := by decide +kernel
theorem dX10_row_22 : decode cX10_row 22 = .ok (.iload_n 3, 1) := by decide +kernel
theorem dX10_row_23 : decode cX10_row 23 = .ok (.ifCond .ge 6, 3) := by decide +kernel
theorem dX10_row_26 : decode cX10_row 26 = .ok (.bipush (-14), 2) := by decide +kernel
theorem dX10_row_28 : decode cX10_row 28 = .ok (.ireturn, 1) := by decide +kernel
theorem dX10_row_29 : decode cX10_row 29 = .ok (.aload_n 0, 1) := by decide +kernel
theorem dX10_row_30 : decode cX10_row 30 = .ok (.getfield 83, 3) := by decide +kernel
theorem dX10_row_33 : decode cX10_row 33 = .ok (.iload_n 1, 1) := by decide +kernel
theorem dX10_row_34 : decode cX10_row 34 = .ok (.aaload, 1) := by decide +kernel
theorem dX10_row_35 : decode cX10_row 35 = .ok (.iload_n 2, 1) := by decide +kernel
theorem dX10_row_36 : decode cX10_row 36 = .ok (.iload_n 3, 1) := by decide +kernel
theorem dX10_row_37 : decode cX10_row 37 = .ok (.invokevirtual 310, 3) := by decide +kernel
theorem dX10_row_40 : decode cX10_row 40 = .ok (.iconst 1, 1) := by decide +kernel
theorem dX10_row_41 : decode cX10_row 41 = .ok (.ireturn, 1) := by decide +kernel
theorem dX10_put_0 : decode cX10_put 0 = .ok (.iload_n 1, 1) := by decide +kernel
theorem dX10_put_1 : decode cX10_put 1 = .ok (.invokestatic 96, 3) := by decide +kernel
theorem dX10_put_4 : decode cX10_put 4 = .ok (.ifCond .ne 5, 3) := by decide +kernel
theorem dX10_put_7 : decode cX10_put 7 = .ok (.iconst (-1), 1) := by decide +kernel
theorem dX10_put_8 : decode cX10_put 8 = .ok (.ireturn, 1) := by decide +kernel
theorem dX10_put_9 : decode cX10_put 9 = .ok (.aload_n 0, 1) := by decide +kernel
theorem dX10_put_10 : decode cX10_put 10 = .ok (.getfield 83, 3) := by decide +kernel
theorem dX10_put_13 : decode cX10_put 13 = .ok (.iload_n 1, 1) := by decide +kernel
theorem dX10_put_14 : decode cX10_put 14 = .ok (.aaload, 1) := by decide +kernel
theorem dX10_put_15 : decode cX10_put 15 = .ok (.iload_n 2, 1) := by decide +kernel
theorem dX10_put_16 : decode cX10_put 16 = .ok (.invokevirtual 314, 3) := by decide +kernel
theorem dX10_put_19 : decode cX10_put 19 = .ok (.istore 5, 2) := by decide +kernel
theorem dX10_put_21 : decode cX10_put 21 = .ok (.iload 5, 2) := by decide +kernel
theorem dX10_put_23 : decode cX10_put 23 = .ok (.ifCond .eq 6, 3) := by decide +kernel
theorem dX10_put_26 : decode cX10_put 26 = .ok (.iload 5, 2) := by decide +kernel
theorem dX10_put_28 : decode cX10_put 28 = .ok (.ireturn, 1) := by decide +kernel
theorem dX10_put_29 : decode cX10_put 29 = .ok (.aload_n 0, 1) := by decide +kernel
theorem dX10_put_30 : decode cX10_put 30 = .ok (.getfield 83, 3) := by decide +kernel
theorem dX10_put_33 : decode cX10_put 33 = .ok (.iload_n 1, 1) := by decide +kernel
theorem dX10_put_34 : decode cX10_put 34 = .ok (.aaload, 1) := by decide +kernel
theorem dX10_put_35 : decode cX10_put 35 = .ok (.iload_n 2, 1) := by decide +kernel
theorem dX10_put_36 : decode cX10_put 36 = .ok (.lload_n 3, 1) := by decide +kernel
theorem dX10_put_37 : decode cX10_put 37 = .ok (.invokevirtual 317, 3) := by decide +kernel
theorem dX10_put_40 : decode cX10_put 40 = .ok (.iconst 1, 1) := by decide +kernel
theorem dX10_put_41 : decode cX10_put 41 = .ok (.ireturn, 1) := by decide +kernel
theorem dX10_element_0 : decode cX10_element 0 = .ok (.iload_n 1, 1) := by decide +kernel
theorem dX10_element_1 : decode cX10_element 1 = .ok (.invokestatic 96, 3) := by decide +kernel
theorem dX10_element_4 : decode cX10_element 4 = .ok (.ifCond .eq 29, 3) := by decide +kernel
theorem dX10_element_7 : decode cX10_element 7 = .ok (.aload_n 0, 1) := by decide +kernel
theorem dX10_element_8 : decode cX10_element 8 = .ok (.getfield 83, 3) := by decide +kernel
theorem dX10_element_11 : decode cX10_element 11 = .ok (.iload_n 1, 1) := by decide +kernel
theorem dX10_element_12 : decode cX10_element 12 = .ok (.aaload, 1) := by decide +kernel
theorem dX10_element_13 : decode cX10_element 13 = .ok (.iload_n 2, 1) := by decide +kernel
theorem dX10_element_14 : decode cX10_element 14 = .ok (.invokevirtual 314, 3) := by decide +kernel
theorem dX10_element_17 : decode cX10_element 17 = .ok (.ifCond .ne 16, 3) := by decide +kernel
theorem dX10_element_20 : decode cX10_element 20 = .ok (.aload_n 0, 1) := by decide +kernel
theorem dX10_element_21 : decode cX10_element 21 = .ok (.getfield 83, 3) := by decide +kernel
theorem dX10_element_24 : decode cX10_element 24 = .ok (.iload_n 1, 1) := by decide +kernel
theorem dX10_element_25 : decode cX10_element 25 = .ok (.aaload, 1) := by decide +kernel
theorem dX10_element_26 : decode cX10_element 26 = .ok (.iload_n 2, 1) := by decide +kernel
theorem dX10_element_27 : decode cX10_element 27 = .ok (.invokevirtual 321, 3) := by decide +kernel
theorem dX10_element_30 : decode cX10_element 30 = .ok (.goto 6, 3) := by decide +kernel
theorem dX10_element_33 : decode cX10_element 33 = .ok (.ldc2_w 216, 3) := by decide +kernel
theorem dX10_element_36 : decode cX10_element 36 = .ok (.lreturn, 1) := by decide +kernel
theorem dX10_shift_0 : decode cX10_shift 0 = .ok (.iload_n 1, 1) := by decide +kernel
theorem dX10_shift_1 : decode cX10_shift 1 = .ok (.invokestatic 96, 3) := by decide +kernel
theorem dX10_shift_4 : decode cX10_shift 4 = .ok (.ifCond .eq 10, 3) := by decide +kernel
theorem dX10_shift_7 : decode cX10_shift 7 = .ok (.iload_n 3, 1) := by decide +kernel
theorem dX10_shift_8 : decode cX10_shift 8 = .ok (.invokestatic 96, 3) := by decide +kernel
theorem dX10_shift_11 : decode cX10_shift 11 = .ok (.ifCond .ne 5, 3) := by decide +kernel
theorem dX10_shift_14 : decode cX10_shift 14 = .ok (.iconst (-1), 1) := by decide +kernel
theorem dX10_shift_15 : decode cX10_shift 15 = .ok (.ireturn, 1) := by decide +kernel
theorem dX10_shift_16 : decode cX10_shift 16 = .ok (.aload_n 0, 1) := by decide +kernel
theorem dX10_shift_17 : decode cX10_shift 17 = .ok (.getfield 83, 3) := by decide +kernel
theorem dX10_shift_20 : decode cX10_shift 20 = .ok (.iload_n 1, 1) := by decide +kernel
theorem dX10_shift_21 : decode cX10_shift 21 = .ok (.aaload, 1) := by decide +kernel
theorem dX10_shift_22 : decode cX10_shift 22 = .ok (.astore 6, 2) := by decide +kernel
theorem dX10_shift_24 : decode cX10_shift 24 = .ok (.aload_n 0, 1) := by decide +kernel
theorem dX10_shift_25 : decode cX10_shift 25 = .ok (.getfield 83, 3) := by decide +kernel
theorem dX10_shift_28 : decode cX10_shift 28 = .ok (.iload_n 3, 1) := by decide +kernel
theorem dX10_shift_29 : decode cX10_shift 29 = .ok (.aaload, 1) := by decide +kernel
theorem dX10_shift_30 : decode cX10_shift 30 = .ok (.astore 7, 2) := by decide +kernel
theorem dX10_shift_32 : decode cX10_shift 32 = .ok (.aload 6, 2) := by decide +kernel
theorem dX10_shift_34 : decode cX10_shift 34 = .ok (.invokevirtual 99, 3) := by decide +kernel
theorem dX10_shift_37 : decode cX10_shift 37 = .ok (.ifCond .ne 11, 3) := by decide +kernel
theorem dX10_shift_40 : decode cX10_shift 40 = .ok (.aload 7, 2) := by decide +kernel
theorem dX10_shift_42 : decode cX10_shift 42 = .ok (.invokevirtual 99, 3) := by decide +kernel
theorem dX10_shift_45 : decode cX10_shift 45 = .ok (.ifCond .eq 6, 3) := by decide +kernel
theorem dX10_shift_48 : decode cX10_shift 48 = .ok (.bipush (-11), 2) := by decide +kernel
theorem dX10_shift_50 : decode cX10_shift 50 = .ok (.ireturn, 1) := by decide +kernel
theorem dX10_shift_51 : decode cX10_shift 51 = .ok (.aload 6, 2) := by decide +kernel
theorem dX10_shift_53 : decode cX10_shift 53 = .ok (.aload 7, 2) := by decide +kernel
theorem dX10_shift_55 : decode cX10_shift 55 = .ok (.invokevirtual 325, 3) := by decide +kernel
theorem dX10_shift_58 : decode cX10_shift 58 = .ok (.ifCond .ne 6, 3) := by decide +kernel
theorem dX10_shift_61 : decode cX10_shift 61 = .ok (.bipush (-12), 2) := by decide +kernel
theorem dX10_shift_63 : decode cX10_shift 63 = .ok (.ireturn, 1) := by decide +kernel
theorem dX10_shift_64 : decode cX10_shift 64 = .ok (.aload 6, 2) := by decide +kernel
theorem dX10_shift_66 : decode cX10_shift 66 = .ok (.iload_n 2, 1) := by decide +kernel
theorem dX10_shift_67 : decode cX10_shift 67 = .ok (.iload 5, 2) := by decide +kernel
theorem dX10_shift_69 : decode cX10_shift 69 = .ok (.invokevirtual 329, 3) := by decide +kernel
theorem dX10_shift_72 : decode cX10_shift 72 = .ok (.ifCond .eq 15, 3) := by decide +kernel
theorem dX10_shift_75 : decode cX10_shift 75 = .ok (.aload 7, 2) := by decide +kernel
theorem dX10_shift_77 : decode cX10_shift 77 = .ok (.iload 4, 2) := by decide +kernel
theorem dX10_shift_79 : decode cX10_shift 79 = .ok (.iload 5, 2) := by decide +kernel
theorem dX10_shift_81 : decode cX10_shift 81 = .ok (.invokevirtual 329, 3) := by decide +kernel
theorem dX10_shift_84 : decode cX10_shift 84 = .ok (.ifCond .ne 6, 3) := by decide +kernel
theorem dX10_shift_87 : decode cX10_shift 87 = .ok (.bipush (-13), 2) := by decide +kernel
theorem dX10_shift_89 : decode cX10_shift 89 = .ok (.ireturn, 1) := by decide +kernel
theorem dX10_shift_90 : decode cX10_shift 90 = .ok (.aload 7, 2) := by decide +kernel
theorem dX10_shift_92 : decode cX10_shift 92 = .ok (.aload 6, 2) := by decide +kernel
theorem dX10_shift_94 : decode cX10_shift 94 = .ok (.iload_n 2, 1) := by decide +kernel
theorem dX10_shift_95 : decode cX10_shift 95 = .ok (.iload 4, 2) := by decide +kernel
theorem dX10_shift_97 : decode cX10_shift 97 = .ok (.iload 5, 2) := by decide +kernel
theorem dX10_shift_99 : decode cX10_shift 99 = .ok (.invokevirtual 332, 3) := by decide +kernel
theorem dX10_shift_102 : decode cX10_shift 102 = .ok (.iload 5, 2) := by decide +kernel
theorem dX10_shift_104 : decode cX10_shift 104 = .ok (.ireturn, 1) := by decide +kernel
theorem dX10_taken_0 : decode cX10_taken 0 = .ok (.iload_n 1, 1) := by decide +kernel
theorem dX10_taken_1 : decode cX10_taken 1 = .ok (.invokestatic 96, 3) := by decide +kernel
theorem dX10_taken_4 : decode cX10_taken 4 = .ok (.ifCond .eq 10, 3) := by decide +kernel
theorem dX10_taken_7 : decode cX10_taken 7 = .ok (.iload_n 2, 1) := by decide +kernel
theorem dX10_taken_8 : decode cX10_taken 8 = .ok (.invokestatic 285, 3) := by decide +kernel
theorem dX10_taken_11 : decode cX10_taken 11 = .ok (.ifCond .ne 5, 3) := by decide +kernel
theorem dX10_taken_14 : decode cX10_taken 14 = .ok (.iconst (-1), 1) := by decide +kernel
theorem dX10_taken_15 : decode cX10_taken 15 = .ok (.ireturn, 1) := by decide +kernel
theorem dX10_taken_16 : decode cX10_taken 16 = .ok (.aload_n 0, 1) := by decide +kernel
theorem dX10_taken_17 : decode cX10_taken 17 = .ok (.getfield 83, 3) := by decide +kernel
theorem dX10_taken_20 : decode cX10_taken 20 = .ok (.iload_n 1, 1) := by decide +kernel
theorem dX10_taken_21 : decode cX10_taken 21 = .ok (.aaload, 1) := by decide +kernel
theorem dX10_taken_22 : decode cX10_taken 22 = .ok (.invokevirtual 99, 3) := by decide +kernel
theorem dX10_taken_25 : decode cX10_taken 25 = .ok (.ifCond .eq 6, 3) := by decide +kernel
theorem dX10_taken_28 : decode cX10_taken 28 = .ok (.bipush (-11), 2) := by decide +kernel
theorem dX10_taken_30 : decode cX10_taken 30 = .ok (.ireturn, 1) := by decide +kernel
theorem dX10_taken_31 : decode cX10_taken 31 = .ok (.aload_n 0, 1) := by decide +kernel
theorem dX10_taken_32 : decode cX10_taken 32 = .ok (.getfield 77, 3) := by decide +kernel
theorem dX10_taken_35 : decode cX10_taken 35 = .ok (.aload_n 0, 1) := by decide +kernel
theorem dX10_taken_36 : decode cX10_taken 36 = .ok (.getfield 83, 3) := by decide +kernel
theorem dX10_taken_39 : decode cX10_taken 39 = .ok (.iload_n 1, 1) := by decide +kernel
theorem dX10_taken_40 : decode cX10_taken 40 = .ok (.aaload, 1) := by decide +kernel
theorem dX10_taken_41 : decode cX10_taken 41 = .ok (.invokevirtual 336, 3) := by decide +kernel
theorem dX10_taken_44 : decode cX10_taken 44 = .ok (.invokevirtual 339, 3) := by decide +kernel
theorem dX10_taken_47 : decode cX10_taken 47 = .ok (.istore_n 3, 1) := by decide +kernel
theorem dX10_taken_48 : decode cX10_taken 48 = .ok (.iload_n 3, 1) := by decide +kernel
theorem dX10_taken_49 : decode cX10_taken 49 = .ok (.iload_n 2, 1) := by decide +kernel
theorem dX10_taken_50 : decode cX10_taken 50 = .ok (.invokestatic 342, 3) := by decide +kernel
theorem dX10_taken_53 : decode cX10_taken 53 = .ok (.ifCond .eq 7, 3) := by decide +kernel
theorem dX10_taken_56 : decode cX10_taken 56 = .ok (.iload_n 3, 1) := by decide +kernel
theorem dX10_taken_57 : decode cX10_taken 57 = .ok (.goto 5, 3) := by decide +kernel
theorem dX10_taken_60 : decode cX10_taken 60 = .ok (.bipush (-12), 2) := by decide +kernel
theorem dX10_taken_62 : decode cX10_taken 62 = .ok (.ireturn, 1) := by decide +kernel
theorem dX10_count_0 : decode cX10_count 0 = .ok (.iload_n 1, 1) := by decide +kernel
theorem dX10_count_1 : decode cX10_count 1 = .ok (.tableswitch 99 0 6 #[43, 51, 59, 67, 75, 83, 91], 43) := by decide +kernel
theorem dX10_count_44 : decode cX10_count 44 = .ok (.aload_n 0, 1) := by decide +kernel
theorem dX10_count_45 : decode cX10_count 45 = .ok (.getfield 19, 3) := by decide +kernel
theorem dX10_count_48 : decode cX10_count 48 = .ok (.invokevirtual 261, 3) := by decide +kernel
theorem dX10_count_51 : decode cX10_count 51 = .ok (.ireturn, 1) := by decide +kernel
theorem dX10_count_52 : decode cX10_count 52 = .ok (.aload_n 0, 1) := by decide +kernel
theorem dX10_count_53 : decode cX10_count 53 = .ok (.getfield 46, 3) := by decide +kernel
theorem dX10_count_56 : decode cX10_count 56 = .ok (.invokevirtual 345, 3) := by decide +kernel
theorem dX10_count_59 : decode cX10_count 59 = .ok (.ireturn, 1) := by decide +kernel
theorem dX10_count_60 : decode cX10_count 60 = .ok (.aload_n 0, 1) := by decide +kernel
theorem dX10_count_61 : decode cX10_count 61 = .ok (.getfield 46, 3) := by decide +kernel
theorem dX10_count_64 : decode cX10_count 64 = .ok (.invokevirtual 348, 3) := by decide +kernel
theorem dX10_count_67 : decode cX10_count 67 = .ok (.ireturn, 1) := by decide +kernel
theorem dX10_count_68 : decode cX10_count 68 = .ok (.aload_n 0, 1) := by decide +kernel
theorem dX10_count_69 : decode cX10_count 69 = .ok (.getfield 28, 3) := by decide +kernel
theorem dX10_count_72 : decode cX10_count 72 = .ok (.invokevirtual 351, 3) := by decide +kernel
theorem dX10_count_75 : decode cX10_count 75 = .ok (.ireturn, 1) := by decide +kernel
theorem dX10_count_76 : decode cX10_count 76 = .ok (.aload_n 0, 1) := by decide +kernel
theorem dX10_count_77 : decode cX10_count 77 = .ok (.getfield 19, 3) := by decide +kernel
theorem dX10_count_80 : decode cX10_count 80 = .ok (.invokevirtual 354, 3) := by decide +kernel
theorem dX10_count_83 : decode cX10_count 83 = .ok (.ireturn, 1) := by decide +kernel
theorem dX10_count_84 : decode cX10_count 84 = .ok (.aload_n 0, 1) := by decide +kernel
theorem dX10_count_85 : decode cX10_count 85 = .ok (.getfield 77, 3) := by decide +kernel
theorem dX10_count_88 : decode cX10_count 88 = .ok (.invokevirtual 357, 3) := by decide +kernel
theorem dX10_count_91 : decode cX10_count 91 = .ok (.ireturn, 1) := by decide +kernel
theorem dX10_count_92 : decode cX10_count 92 = .ok (.aload_n 0, 1) := by decide +kernel
theorem dX10_count_93 : decode cX10_count 93 = .ok (.getfield 77, 3) := by decide +kernel
theorem dX10_count_96 : decode cX10_count 96 = .ok (.invokevirtual 360, 3) := by decide +kernel
theorem dX10_count_99 : decode cX10_count 99 = .ok (.ireturn, 1) := by decide +kernel
theorem dX10_count_100 : decode cX10_count 100 = .ok (.iconst (-1), 1) := by decide +kernel
theorem dX10_count_101 : decode cX10_count 101 = .ok (.ireturn, 1) := by decide +kernel
theorem dX10_isShelf_0 : decode cX10_isShelf 0 = .ok (.iload_n 0, 1) := by decide +kernel
theorem dX10_isShelf_1 : decode cX10_isShelf 1 = .ok (.ifCond .lt 13, 3) := by decide +kernel
theorem dX10_isShelf_4 : decode cX10_isShelf 4 = .ok (.iload_n 0, 1) := by decide +kernel
theorem dX10_isShelf_5 : decode cX10_isShelf 5 = .ok (.bipush 6, 2) := by decide +kernel
theorem dX10_isShelf_7 : decode cX10_isShelf 7 = .ok (.if_icmp .ge 7, 3) := by decide +kernel
theorem dX10_isShelf_10 : decode cX10_isShelf 10 = .ok (.iconst 1, 1) := by decide +kernel
theorem dX10_isShelf_11 : decode cX10_isShelf 11 = .ok (.goto 4, 3) := by decide +kernel
theorem dX10_isShelf_14 : decode cX10_isShelf 14 = .ok (.iconst 0, 1) := by decide +kernel
theorem dX10_isShelf_15 : decode cX10_isShelf 15 = .ok (.ireturn, 1) := by decide +kernel
theorem dX10_isSum_0 : decode cX10_isSum 0 = .ok (.iload_n 0, 1) := by decide +kernel
theorem dX10_isSum_1 : decode cX10_isSum 1 = .ok (.iconst 1, 1) := by decide +kernel
theorem dX10_isSum_2 : decode cX10_isSum 2 = .ok (.if_icmp .lt 13, 3) := by decide +kernel
theorem dX10_isSum_5 : decode cX10_isSum 5 = .ok (.iload_n 0, 1) := by decide +kernel
theorem dX10_isSum_6 : decode cX10_isSum 6 = .ok (.bipush 6, 2) := by decide +kernel
theorem dX10_isSum_8 : decode cX10_isSum 8 = .ok (.if_icmp .gt 7, 3) := by decide +kernel
theorem dX10_isSum_11 : decode cX10_isSum 11 = .ok (.iconst 1, 1) := by decide +kernel
theorem dX10_isSum_12 : decode cX10_isSum 12 = .ok (.goto 4, 3) := by decide +kernel
theorem dX10_isSum_15 : decode cX10_isSum 15 = .ok (.iconst 0, 1) := by decide +kernel
theorem dX10_isSum_16 : decode cX10_isSum 16 = .ok (.ireturn, 1) := by decide +kernel
theorem dX10_isPart_0 : decode cX10_isPart 0 = .ok (.iload_n 0, 1) := by decide +kernel
theorem dX10_isPart_1 : decode cX10_isPart 1 = .ok (.ifCond .eq 8, 3) := by decide +kernel
theorem dX10_isPart_4 : decode cX10_isPart 4 = .ok (.iload_n 0, 1) := by decide +kernel
theorem dX10_isPart_5 : decode cX10_isPart 5 = .ok (.iconst 1, 1) := by decide +kernel
theorem dX10_isPart_6 : decode cX10_isPart 6 = .ok (.if_icmp .ne 7, 3) := by decide +kernel
theorem dX10_isPart_9 : decode cX10_isPart 9 = .ok (.iconst 1, 1) := by decide +kernel
theorem dX10_isPart_10 : decode cX10_isPart 10 = .ok (.goto 4, 3) := by decide +kernel
theorem dX10_isPart_13 : decode cX10_isPart 13 = .ok (.iconst 0, 1) := by decide +kernel
theorem dX10_isPart_14 : decode cX10_isPart 14 = .ok (.ireturn, 1) := by decide +kernel
theorem dX10_isSale_0 : decode cX10_isSale 0 = .ok (.iload_n 1, 1) := by decide +kernel
theorem dX10_isSale_1 : decode cX10_isSale 1 = .ok (.ifCond .lt 31, 3) := by decide +kernel
theorem dX10_isSale_4 : decode cX10_isSale 4 = .ok (.aload_n 0, 1) := by decide +kernel
theorem dX10_isSale_5 : decode cX10_isSale 5 = .ok (.getfield 19, 3) := by decide +kernel
theorem dX10_isSale_8 : decode cX10_isSale 8 = .ok (.iload_n 1, 1) := by decide +kernel
theorem dX10_isSale_9 : decode cX10_isSale 9 = .ok (.bipush 10, 2) := by decide +kernel
theorem dX10_isSale_11 : decode cX10_isSale 11 = .ok (.idiv, 1) := by decide +kernel
theorem dX10_isSale_12 : decode cX10_isSale 12 = .ok (.invokevirtual 127, 3) := by decide +kernel
theorem dX10_isSale_15 : decode cX10_isSale 15 = .ok (.ifCond .eq 17, 3) := by decide +kernel
theorem dX10_isSale_18 : decode cX10_isSale 18 = .ok (.iload_n 1, 1) := by decide +kernel
theorem dX10_isSale_19 : decode cX10_isSale 19 = .ok (.bipush 10, 2) := by decide +kernel
theorem dX10_isSale_21 : decode cX10_isSale 21 = .ok (.irem, 1) := by decide +kernel
theorem dX10_isSale_22 : decode cX10_isSale 22 = .ok (.invokestatic 210, 3) := by decide +kernel
theorem dX10_isSale_25 : decode cX10_isSale 25 = .ok (.ifCond .eq 7, 3) := by decide +kernel
theorem dX10_isSale_28 : decode cX10_isSale 28 = .ok (.iconst 1, 1) := by decide +kernel
theorem dX10_isSale_29 : decode cX10_isSale 29 = .ok (.goto 4, 3) := by decide +kernel
theorem dX10_isSale_32 : decode cX10_isSale 32 = .ok (.iconst 0, 1) := by decide +kernel
theorem dX10_isSale_33 : decode cX10_isSale 33 = .ok (.ireturn, 1) := by decide +kernel
theorem dX10_isSwarm_0 : decode cX10_isSwarm 0 = .ok (.iload_n 0, 1) := by decide +kernel
theorem dX10_isSwarm_1 : decode cX10_isSwarm 1 = .ok (.ifCond .lt 25, 3) := by decide +kernel
theorem dX10_isSwarm_4 : decode cX10_isSwarm 4 = .ok (.iload_n 0, 1) := by decide +kernel
theorem dX10_isSwarm_5 : decode cX10_isSwarm 5 = .ok (.bipush 10, 2) := by decide +kernel
theorem dX10_isSwarm_7 : decode cX10_isSwarm 7 = .ok (.idiv, 1) := by decide +kernel
theorem dX10_isSwarm_8 : decode cX10_isSwarm 8 = .ok (.invokestatic 88, 3) := by decide +kernel
theorem dX10_isSwarm_11 : decode cX10_isSwarm 11 = .ok (.ifCond .eq 15, 3) := by decide +kernel
theorem dX10_isSwarm_14 : decode cX10_isSwarm 14 = .ok (.iload_n 0, 1) := by decide +kernel
theorem dX10_isSwarm_15 : decode cX10_isSwarm 15 = .ok (.bipush 10, 2) := by decide +kernel
theorem dX10_isSwarm_17 : decode cX10_isSwarm 17 = .ok (.irem, 1) := by decide +kernel
theorem dX10_isSwarm_18 : decode cX10_isSwarm 18 = .ok (.iconst 3, 1) := by decide +kernel
theorem dX10_isSwarm_19 : decode cX10_isSwarm 19 = .ok (.if_icmp .gt 7, 3) := by decide +kernel
theorem dX10_isSwarm_22 : decode cX10_isSwarm 22 = .ok (.iconst 1, 1) := by decide +kernel
theorem dX10_isSwarm_23 : decode cX10_isSwarm 23 = .ok (.goto 4, 3) := by decide +kernel
theorem dX10_isSwarm_26 : decode cX10_isSwarm 26 = .ok (.iconst 0, 1) := by decide +kernel
theorem dX10_isSwarm_27 : decode cX10_isSwarm 27 = .ok (.ireturn, 1) := by decide +kernel
theorem dX10_drawnBehind_0 : decode cX10_drawnBehind 0 = .ok (.iload_n 0, 1) := by decide +kernel
theorem dX10_drawnBehind_1 : decode cX10_drawnBehind 1 = .ok (.ldc_w 363, 3) := by decide +kernel
theorem dX10_drawnBehind_4 : decode cX10_drawnBehind 4 = .ok (.imul, 1) := by decide +kernel
theorem dX10_drawnBehind_5 : decode cX10_drawnBehind 5 = .ok (.sipush 12345, 3) := by decide +kernel
theorem dX10_drawnBehind_8 : decode cX10_drawnBehind 8 = .ok (.iadd, 1) := by decide +kernel
theorem dX10_drawnBehind_9 : decode cX10_drawnBehind 9 = .ok (.ireturn, 1) := by decide +kernel
theorem dX10_heardWeight_0 : decode cX10_heardWeight 0 = .ok (.iload_n 1, 1) := by decide +kernel
theorem dX10_heardWeight_1 : decode cX10_heardWeight 1 = .ok (.iload_n 2, 1) := by decide +kernel
theorem dX10_heardWeight_2 : decode cX10_heardWeight 2 = .ok (.ixor, 1) := by decide +kernel
theorem dX10_heardWeight_3 : decode cX10_heardWeight 3 = .ok (.bipush 7, 2) := by decide +kernel
theorem dX10_heardWeight_5 : decode cX10_heardWeight 5 = .ok (.iand, 1) := by decide +kernel
theorem dX10_heardWeight_6 : decode cX10_heardWeight 6 = .ok (.invokestatic 364, 3) := by decide +kernel
theorem dX10_heardWeight_9 : decode cX10_heardWeight 9 = .ok (.istore_n 3, 1) := by decide +kernel
theorem dX10_heardWeight_10 : decode cX10_heardWeight 10 = .ok (.aload_n 0, 1) := by decide +kernel
theorem dX10_heardWeight_11 : decode cX10_heardWeight 11 = .ok (.getfield 19, 3) := by decide +kernel
theorem dX10_heardWeight_14 : decode cX10_heardWeight 14 = .ok (.invokevirtual 369, 3) := by decide +kernel
theorem dX10_heardWeight_17 : decode cX10_heardWeight 17 = .ok (.iload_n 3, 1) := by decide +kernel
theorem dX10_heardWeight_18 : decode cX10_heardWeight 18 = .ok (.invokestatic 253, 3) := by decide +kernel
theorem dX10_heardWeight_21 : decode cX10_heardWeight 21 = .ok (.bipush 12, 2) := by decide +kernel
theorem dX10_heardWeight_23 : decode cX10_heardWeight 23 = .ok (.aload_n 0, 1) := by decide +kernel
theorem dX10_heardWeight_24 : decode cX10_heardWeight 24 = .ok (.getfield 19, 3) := by decide +kernel
theorem dX10_heardWeight_27 : decode cX10_heardWeight 27 = .ok (.invokevirtual 369, 3) := by decide +kernel
theorem dX10_heardWeight_30 : decode cX10_heardWeight 30 = .ok (.isub, 1) := by decide +kernel
theorem dX10_heardWeight_31 : decode cX10_heardWeight 31 = .ok (.iconst 3, 1) := by decide +kernel
theorem dX10_heardWeight_32 : decode cX10_heardWeight 32 = .ok (.iload_n 3, 1) := by decide +kernel
theorem dX10_heardWeight_33 : decode cX10_heardWeight 33 = .ok (.isub, 1) := by decide +kernel
theorem dX10_heardWeight_34 : decode cX10_heardWeight 34 = .ok (.invokestatic 253, 3) := by decide +kernel
theorem dX10_heardWeight_37 : decode cX10_heardWeight 37 = .ok (.lmul, 1) := by decide +kernel
theorem dX10_heardWeight_38 : decode cX10_heardWeight 38 = .ok (.lreturn, 1) := by decide +kernel
theorem dX10_rowWeight_0 : decode cX10_rowWeight 0 = .ok (.lconst 1, 1) := by decide +kernel
theorem dX10_rowWeight_1 : decode cX10_rowWeight 1 = .ok (.lstore_n 3, 1) := by decide +kernel
theorem dX10_rowWeight_2 : decode cX10_rowWeight 2 = .ok (.iconst 0, 1) := by decide +kernel
theorem dX10_rowWeight_3 : decode cX10_rowWeight 3 = .ok (.istore 5, 2) := by decide +kernel
theorem dX10_rowWeight_5 : decode cX10_rowWeight 5 = .ok (.iload 5, 2) := by decide +kernel
theorem dX10_rowWeight_7 : decode cX10_rowWeight 7 = .ok (.iconst 4, 1) := by decide +kernel
theorem dX10_rowWeight_8 : decode cX10_rowWeight 8 = .ok (.if_icmp .ge 51, 3) := by decide +kernel
theorem dX10_rowWeight_11 : decode cX10_rowWeight 11 = .ok (.aload_n 1, 1) := by decide +kernel
theorem dX10_rowWeight_12 : decode cX10_rowWeight 12 = .ok (.iload 5, 2) := by decide +kernel
theorem dX10_rowWeight_14 : decode cX10_rowWeight 14 = .ok (.invokevirtual 107, 3) := by decide +kernel
theorem dX10_rowWeight_17 : decode cX10_rowWeight 17 = .ok (.ifCond .eq 42, 3) := by decide +kernel
theorem dX10_rowWeight_20 : decode cX10_rowWeight 20 = .ok (.aload_n 1, 1) := by decide +kernel
theorem dX10_rowWeight_21 : decode cX10_rowWeight 21 = .ok (.iload 5, 2) := by decide +kernel
theorem dX10_rowWeight_23 : decode cX10_rowWeight 23 = .ok (.invokevirtual 110, 3) := by decide +kernel
theorem dX10_rowWeight_26 : decode cX10_rowWeight 26 = .ok (.istore 6, 2) := by decide +kernel
theorem dX10_rowWeight_28 : decode cX10_rowWeight 28 = .ok (.iload 6, 2) := by decide +kernel
theorem dX10_rowWeight_30 : decode cX10_rowWeight 30 = .ok (.ifCond .lt 29, 3) := by decide +kernel
theorem dX10_rowWeight_33 : decode cX10_rowWeight 33 = .ok (.iload 6, 2) := by decide +kernel
theorem dX10_rowWeight_35 : decode cX10_rowWeight 35 = .ok (.bipush 7, 2) := by decide +kernel
theorem dX10_rowWeight_37 : decode cX10_rowWeight 37 = .ok (.if_icmp .le 6, 3) := by decide +kernel
theorem dX10_rowWeight_40 : decode cX10_rowWeight 40 = .ok (.goto 19, 3) := by decide +kernel
theorem dX10_rowWeight_43 : decode cX10_rowWeight 43 = .ok (.lload_n 3, 1) := by decide +kernel
theorem dX10_rowWeight_44 : decode cX10_rowWeight 44 = .ok (.aload_n 0, 1) := by decide +kernel
theorem dX10_rowWeight_45 : decode cX10_rowWeight 45 = .ok (.iload 6, 2) := by decide +kernel
theorem dX10_rowWeight_47 : decode cX10_rowWeight 47 = .ok (.iload_n 2, 1) := by decide +kernel
theorem dX10_rowWeight_48 : decode cX10_rowWeight 48 = .ok (.invokevirtual 218, 3) := by decide +kernel
theorem dX10_rowWeight_51 : decode cX10_rowWeight 51 = .ok (.lmul, 1) := by decide +kernel
theorem dX10_rowWeight_52 : decode cX10_rowWeight 52 = .ok (.lstore_n 3, 1) := by decide +kernel
theorem dX10_rowWeight_53 : decode cX10_rowWeight 53 = .ok (.iinc 5 1, 3) := by decide +kernel
theorem dX10_rowWeight_56 : decode cX10_rowWeight 56 = .ok (.goto (-51), 3) := by decide +kernel
theorem dX10_rowWeight_59 : decode cX10_rowWeight 59 = .ok (.lload_n 3, 1) := by decide +kernel
theorem dX10_rowWeight_60 : decode cX10_rowWeight 60 = .ok (.lreturn, 1) := by decide +kernel
theorem dX10_power_0 : decode cX10_power 0 = .ok (.lconst 1, 1) := by decide +kernel
theorem dX10_power_1 : decode cX10_power 1 = .ok (.lstore_n 2, 1) := by decide +kernel
theorem dX10_power_2 : decode cX10_power 2 = .ok (.iconst 0, 1) := by decide +kernel
theorem dX10_power_3 : decode cX10_power 3 = .ok (.istore 4, 2) := by decide +kernel
theorem dX10_power_5 : decode cX10_power 5 = .ok (.iload 4, 2) := by decide +kernel
theorem dX10_power_7 : decode cX10_power 7 = .ok (.iload_n 1, 1) := by decide +kernel
theorem dX10_power_8 : decode cX10_power 8 = .ok (.if_icmp .ge 14, 3) := by decide +kernel
theorem dX10_power_11 : decode cX10_power 11 = .ok (.lload_n 2, 1) := by decide +kernel
theorem dX10_power_12 : decode cX10_power 12 = .ok (.iload_n 0, 1) := by decide +kernel
theorem dX10_power_13 : decode cX10_power 13 = .ok (.i2l, 1) := by decide +kernel
theorem dX10_power_14 : decode cX10_power 14 = .ok (.lmul, 1) := by decide +kernel
theorem dX10_power_15 : decode cX10_power 15 = .ok (.lstore_n 2, 1) := by decide +kernel
theorem dX10_power_16 : decode cX10_power 16 = .ok (.iinc 4 1, 3) := by decide +kernel
theorem dX10_power_19 : decode cX10_power 19 = .ok (.goto (-14), 3) := by decide +kernel
theorem dX10_power_22 : decode cX10_power 22 = .ok (.lload_n 2, 1) := by decide +kernel
theorem dX10_power_23 : decode cX10_power 23 = .ok (.lreturn, 1) := by decide +kernel
theorem dX10_fraction_0 : decode cX10_fraction 0 = .ok (.lload_n 0, 1) := by decide +kernel
theorem dX10_fraction_1 : decode cX10_fraction 1 = .ok (.lstore 5, 2) := by decide +kernel
theorem dX10_fraction_3 : decode cX10_fraction 3 = .ok (.lload_n 2, 1) := by decide +kernel
theorem dX10_fraction_4 : decode cX10_fraction 4 = .ok (.lstore 7, 2) := by decide +kernel
theorem dX10_fraction_6 : decode cX10_fraction 6 = .ok (.iconst 0, 1) := by decide +kernel
theorem dX10_fraction_7 : decode cX10_fraction 7 = .ok (.istore 9, 2) := by decide +kernel
theorem dX10_fraction_9 : decode cX10_fraction 9 = .ok (.iload 9, 2) := by decide +kernel
theorem dX10_fraction_11 : decode cX10_fraction 11 = .ok (.sipush 200, 3) := by decide +kernel
theorem dX10_fraction_14 : decode cX10_fraction 14 = .ok (.if_icmp .ge 31, 3) := by decide +kernel
theorem dX10_fraction_17 : decode cX10_fraction 17 = .ok (.lload 7, 2) := by decide +kernel
theorem dX10_fraction_19 : decode cX10_fraction 19 = .ok (.lconst 0, 1) := by decide +kernel
theorem dX10_fraction_20 : decode cX10_fraction 20 = .ok (.lcmp, 1) := by decide +kernel
theorem dX10_fraction_21 : decode cX10_fraction 21 = .ok (.ifCond .eq 24, 3) := by decide +kernel
theorem dX10_fraction_24 : decode cX10_fraction 24 = .ok (.lload 5, 2) := by decide +kernel
theorem dX10_fraction_26 : decode cX10_fraction 26 = .ok (.lload 7, 2) := by decide +kernel
theorem dX10_fraction_28 : decode cX10_fraction 28 = .ok (.lrem, 1) := by decide +kernel
theorem dX10_fraction_29 : decode cX10_fraction 29 = .ok (.lstore 10, 2) := by decide +kernel
theorem dX10_fraction_31 : decode cX10_fraction 31 = .ok (.lload 7, 2) := by decide +kernel
theorem dX10_fraction_33 : decode cX10_fraction 33 = .ok (.lstore 5, 2) := by decide +kernel
theorem dX10_fraction_35 : decode cX10_fraction 35 = .ok (.lload 10, 2) := by decide +kernel
theorem dX10_fraction_37 : decode cX10_fraction 37 = .ok (.lstore 7, 2) := by decide +kernel
theorem dX10_fraction_39 : decode cX10_fraction 39 = .ok (.iinc 9 1, 3) := by decide +kernel
theorem dX10_fraction_42 : decode cX10_fraction 42 = .ok (.goto (-33), 3) := by decide +kernel
theorem dX10_fraction_45 : decode cX10_fraction 45 = .ok (.lload 5, 2) := by decide +kernel
theorem dX10_fraction_47 : decode cX10_fraction 47 = .ok (.lconst 0, 1) := by decide +kernel
theorem dX10_fraction_48 : decode cX10_fraction 48 = .ok (.lcmp, 1) := by decide +kernel
theorem dX10_fraction_49 : decode cX10_fraction 49 = .ok (.ifCond .ne 5, 3) := by decide +kernel
theorem dX10_fraction_52 : decode cX10_fraction 52 = .ok (.lconst 0, 1) := by decide +kernel
theorem dX10_fraction_53 : decode cX10_fraction 53 = .ok (.lreturn, 1) := by decide +kernel
theorem dX10_fraction_54 : decode cX10_fraction 54 = .ok (.iload 4, 2) := by decide +kernel
theorem dX10_fraction_56 : decode cX10_fraction 56 = .ok (.ifCond .ne 7, 3) := by decide +kernel
theorem dX10_fraction_59 : decode cX10_fraction 59 = .ok (.lload_n 0, 1) := by decide +kernel
theorem dX10_fraction_60 : decode cX10_fraction 60 = .ok (.goto 4, 3) := by decide +kernel
theorem dX10_fraction_63 : decode cX10_fraction 63 = .ok (.lload_n 2, 1) := by decide +kernel
theorem dX10_fraction_64 : decode cX10_fraction 64 = .ok (.lload 5, 2) := by decide +kernel
theorem dX10_fraction_66 : decode cX10_fraction 66 = .ok (.ldiv, 1) := by decide +kernel
theorem dX10_fraction_67 : decode cX10_fraction 67 = .ok (.lreturn, 1) := by decide +kernel
theorem dX11_within_0 : decode cX11_within 0 = .ok (.lload_n 0, 1) := by decide +kernel
theorem dX11_within_1 : decode cX11_within 1 = .ok (.lload_n 2, 1) := by decide +kernel
theorem dX11_within_2 : decode cX11_within 2 = .ok (.lcmp, 1) := by decide +kernel
theorem dX11_within_3 : decode cX11_within 3 = .ok (.ifCond .lt 14, 3) := by decide +kernel
theorem dX11_within_6 : decode cX11_within 6 = .ok (.lload_n 0, 1) := by decide +kernel
theorem dX11_within_7 : decode cX11_within 7 = .ok (.lload 4, 2) := by decide +kernel
theorem dX11_within_9 : decode cX11_within 9 = .ok (.lcmp, 1) := by decide +kernel
theorem dX11_within_10 : decode cX11_within 10 = .ok (.ifCond .gt 7, 3) := by decide +kernel
theorem dX11_within_13 : decode cX11_within 13 = .ok (.iconst 1, 1) := by decide +kernel
theorem dX11_within_14 : decode cX11_within 14 = .ok (.goto 4, 3) := by decide +kernel
theorem dX11_within_17 : decode cX11_within 17 = .ok (.iconst 0, 1) := by decide +kernel
theorem dX11_within_18 : decode cX11_within 18 = .ok (.ireturn, 1) := by decide +kernel
theorem dX11_isIn_0 : decode cX11_isIn 0 = .ok (.iload_n 0, 1) := by decide +kernel
theorem dX11_isIn_1 : decode cX11_isIn 1 = .ok (.iload_n 1, 1) := by decide +kernel
theorem dX11_isIn_2 : decode cX11_isIn 2 = .ok (.ishr, 1) := by decide +kernel
theorem dX11_isIn_3 : decode cX11_isIn 3 = .ok (.iconst 1, 1) := by decide +kernel
theorem dX11_isIn_4 : decode cX11_isIn 4 = .ok (.iand, 1) := by decide +kernel
theorem dX11_isIn_5 : decode cX11_isIn 5 = .ok (.iconst 1, 1) := by decide +kernel
theorem dX11_isIn_6 : decode cX11_isIn 6 = .ok (.if_icmp .ne 7, 3) := by decide +kernel
theorem dX11_isIn_9 : decode cX11_isIn 9 = .ok (.iconst 1, 1) := by decide +kernel
theorem dX11_isIn_10 : decode cX11_isIn 10 = .ok (.goto 4, 3) := by decide +kernel
theorem dX11_isIn_13 : decode cX11_isIn 13 = .ok (.iconst 0, 1) := by decide +kernel
theorem dX11_isIn_14 : decode cX11_isIn 14 = .ok (.ireturn, 1) := by decide +kernel
theorem dX11_bitsOf_0 : decode cX11_bitsOf 0 = .ok (.iconst 0, 1) := by decide +kernel
theorem dX11_bitsOf_1 : decode cX11_bitsOf 1 = .ok (.istore_n 1, 1) := by decide +kernel
theorem dX11_bitsOf_2 : decode cX11_bitsOf 2 = .ok (.iload_n 0, 1) := by decide +kernel
theorem dX11_bitsOf_3 : decode cX11_bitsOf 3 = .ok (.istore_n 2, 1) := by decide +kernel
theorem dX11_bitsOf_4 : decode cX11_bitsOf 4 = .ok (.iload_n 2, 1) := by decide +kernel
theorem dX11_bitsOf_5 : decode cX11_bitsOf 5 = .ok (.ifCond .eq 15, 3) := by decide +kernel
theorem dX11_bitsOf_8 : decode cX11_bitsOf 8 = .ok (.iinc 1 1, 3) := by decide +kernel
theorem dX11_bitsOf_11 : decode cX11_bitsOf 11 = .ok (.iload_n 2, 1) := by decide +kernel
theorem dX11_bitsOf_12 : decode cX11_bitsOf 12 = .ok (.iload_n 2, 1) := by decide +kernel
theorem dX11_bitsOf_13 : decode cX11_bitsOf 13 = .ok (.iconst 1, 1) := by decide +kernel
theorem dX11_bitsOf_14 : decode cX11_bitsOf 14 = .ok (.isub, 1) := by decide +kernel
theorem dX11_bitsOf_15 : decode cX11_bitsOf 15 = .ok (.iand, 1) := by decide +kernel
theorem dX11_bitsOf_16 : decode cX11_bitsOf 16 = .ok (.istore_n 2, 1) := by decide +kernel
theorem dX11_bitsOf_17 : decode cX11_bitsOf 17 = .ok (.goto (-13), 3) := by decide +kernel
theorem dX11_bitsOf_20 : decode cX11_bitsOf 20 = .ok (.iload_n 1, 1) := by decide +kernel
theorem dX11_bitsOf_21 : decode cX11_bitsOf 21 = .ok (.ireturn, 1) := by decide +kernel
theorem dX11_init_0 : decode cX11_init 0 = .ok (.aload_n 0, 1) := by decide +kernel
theorem dX11_init_1 : decode cX11_init 1 = .ok (.invokespecial 5, 3) := by decide +kernel
theorem dX11_init_4 : decode cX11_init 4 = .ok (.aload_n 0, 1) := by decide +kernel
theorem dX11_init_5 : decode cX11_init 5 = .ok (.bipush 8, 2) := by decide +kernel
theorem dX11_init_7 : decode cX11_init 7 = .ok (.newarray .int, 2) := by decide +kernel
theorem dX11_init_9 : decode cX11_init 9 = .ok (.putfield 11, 3) := by decide +kernel
theorem dX11_init_12 : decode cX11_init 12 = .ok (.aload_n 0, 1) := by decide +kernel
theorem dX11_init_13 : decode cX11_init 13 = .ok (.bipush 40, 2) := by decide +kernel
theorem dX11_init_15 : decode cX11_init 15 = .ok (.newarray .int, 2) := by decide +kernel
theorem dX11_init_17 : decode cX11_init 17 = .ok (.putfield 15, 3) := by decide +kernel
theorem dX11_init_20 : decode cX11_init 20 = .ok (.aload_n 0, 1) := by decide +kernel
theorem dX11_init_21 : decode cX11_init 21 = .ok (.bipush 40, 2) := by decide +kernel
theorem dX11_init_23 : decode cX11_init 23 = .ok (.newarray .int, 2) := by decide +kernel
theorem dX11_init_25 : decode cX11_init 25 = .ok (.putfield 18, 3) := by decide +kernel
theorem dX11_init_28 : decode cX11_init 28 = .ok (.aload_n 0, 1) := by decide +kernel
theorem dX11_init_29 : decode cX11_init 29 = .ok (.bipush 40, 2) := by decide +kernel
theorem dX11_init_31 : decode cX11_init 31 = .ok (.newarray .int, 2) := by decide +kernel
theorem dX11_init_33 : decode cX11_init 33 = .ok (.putfield 21, 3) := by decide +kernel
theorem dX11_init_36 : decode cX11_init 36 = .ok (.aload_n 0, 1) := by decide +kernel
theorem dX11_init_37 : decode cX11_init 37 = .ok (.sipush 2401, 3) := by decide +kernel
theorem dX11_init_40 : decode cX11_init 40 = .ok (.newarray .int, 2) := by decide +kernel
theorem dX11_init_42 : decode cX11_init 42 = .ok (.putfield 24, 3) := by decide +kernel
theorem dX11_init_45 : decode cX11_init 45 = .ok (.aload_n 0, 1) := by decide +kernel
theorem dX11_init_46 : decode cX11_init 46 = .ok (.bipush 49, 2) := by decide +kernel
theorem dX11_init_48 : decode cX11_init 48 = .ok (.newarray .int, 2) := by decide +kernel
theorem dX11_init_50 : decode cX11_init 50 = .ok (.putfield 27, 3) := by decide +kernel
theorem dX11_init_53 : decode cX11_init 53 = .ok (.aload_n 0, 1) := by decide +kernel
theorem dX11_init_54 : decode cX11_init 54 = .ok (.bipush 49, 2) := by decide +kernel
theorem dX11_init_56 : decode cX11_init 56 = .ok (.newarray .int, 2) := by decide +kernel
theorem dX11_init_58 : decode cX11_init 58 = .ok (.putfield 30, 3) := by decide +kernel
theorem dX11_init_61 : decode cX11_init 61 = .ok (.aload_n 0, 1) := by decide +kernel
theorem dX11_init_62 : decode cX11_init 62 = .ok (.bipush 49, 2) := by decide +kernel
theorem dX11_init_64 : decode cX11_init 64 = .ok (.newarray .int, 2) := by decide +kernel
theorem dX11_init_66 : decode cX11_init 66 = .ok (.putfield 33, 3) := by decide +kernel
theorem dX11_init_69 : decode cX11_init 69 = .ok (.aload_n 0, 1) := by decide +kernel
theorem dX11_init_70 : decode cX11_init 70 = .ok (.bipush 49, 2) := by decide +kernel
theorem dX11_init_72 : decode cX11_init 72 = .ok (.newarray .int, 2) := by decide +kernel
theorem dX11_init_74 : decode cX11_init 74 = .ok (.putfield 36, 3) := by decide +kernel
theorem dX11_init_77 : decode cX11_init 77 = .ok (.aload_n 0, 1) := by decide +kernel
theorem dX11_init_78 : decode cX11_init 78 = .ok (.bipush 120, 2) := by decide +kernel
theorem dX11_init_80 : decode cX11_init 80 = .ok (.newarray .int, 2) := by decide +kernel
theorem dX11_init_82 : decode cX11_init 82 = .ok (.putfield 39, 3) := by decide +kernel
theorem dX11_init_85 : decode cX11_init 85 = .ok (.aload_n 0, 1) := by decide +kernel
theorem dX11_init_86 : decode cX11_init 86 = .ok (.bipush 120, 2) := by decide +kernel
theorem dX11_init_88 : decode cX11_init 88 = .ok (.newarray .int, 2) := by decide +kernel
theorem dX11_init_90 : decode cX11_init 90 = .ok (.putfield 42, 3) := by decide +kernel
theorem dX11_init_93 : decode cX11_init 93 = .ok (.aload_n 0, 1) := by decide +kernel
theorem dX11_init_94 : decode cX11_init 94 = .ok (.bipush 6, 2) := by decide +kernel
theorem dX11_init_96 : decode cX11_init 96 = .ok (.newarray .int, 2) := by decide +kernel
theorem dX11_init_98 : decode cX11_init 98 = .ok (.putfield 45, 3) := by decide +kernel
theorem dX11_init_101 : decode cX11_init 101 = .ok (.aload_n 0, 1) := by decide +kernel
theorem dX11_init_102 : decode cX11_init 102 = .ok (.bipush 49, 2) := by decide +kernel
theorem dX11_init_104 : decode cX11_init 104 = .ok (.newarray .boolean, 2) := by decide +kernel
theorem dX11_init_106 : decode cX11_init 106 = .ok (.putfield 48, 3) := by decide +kernel
theorem dX11_init_109 : decode cX11_init 109 = .ok (.aload_n 0, 1) := by decide +kernel
theorem dX11_init_110 : decode cX11_init 110 = .ok (.iconst 5, 1) := by decide +kernel
theorem dX11_init_111 : decode cX11_init 111 = .ok (.newarray .int, 2) := by decide +kernel
theorem dX11_init_113 : decode cX11_init 113 = .ok (.putfield 52, 3) := by decide +kernel
theorem dX11_init_116 : decode cX11_init 116 = .ok (.aload_n 0, 1) := by decide +kernel
theorem dX11_init_117 : decode cX11_init 117 = .ok (.iconst 5, 1) := by decide +kernel
theorem dX11_init_118 : decode cX11_init 118 = .ok (.newarray .int, 2) := by decide +kernel
theorem dX11_init_120 : decode cX11_init 120 = .ok (.putfield 55, 3) := by decide +kernel
theorem dX11_init_123 : decode cX11_init 123 = .ok (.aload_n 0, 1) := by decide +kernel
theorem dX11_init_124 : decode cX11_init 124 = .ok (.bipush 10, 2) := by decide +kernel
theorem dX11_init_126 : decode cX11_init 126 = .ok (.newarray .int, 2) := by decide +kernel
theorem dX11_init_128 : decode cX11_init 128 = .ok (.putfield 58, 3) := by decide +kernel
theorem dX11_init_131 : decode cX11_init 131 = .ok (.aload_n 0, 1) := by decide +kernel
theorem dX11_init_132 : decode cX11_init 132 = .ok (.sipush 1024, 3) := by decide +kernel
theorem dX11_init_135 : decode cX11_init 135 = .ok (.newarray .boolean, 2) := by decide +kernel
theorem dX11_init_137 : decode cX11_init 137 = .ok (.putfield 61, 3) := by decide +kernel
theorem dX11_init_140 : decode cX11_init 140 = .ok (.aload_n 0, 1) := by decide +kernel
theorem dX11_init_141 : decode cX11_init 141 = .ok (.bipush 6, 2) := by decide +kernel
theorem dX11_init_143 : decode cX11_init 143 = .ok (.newarray .int, 2) := by decide +kernel
theorem dX11_init_145 : decode cX11_init 145 = .ok (.putfield 64, 3) := by decide +kernel
theorem dX11_init_148 : decode cX11_init 148 = .ok (.aload_n 0, 1) := by decide +kernel
theorem dX11_init_149 : decode cX11_init 149 = .ok (.bipush 49, 2) := by decide +kernel
theorem dX11_init_151 : decode cX11_init 151 = .ok (.newarray .int, 2) := by decide +kernel
theorem dX11_init_153 : decode cX11_init 153 = .ok (.putfield 67, 3) := by decide +kernel
theorem dX11_init_156 : decode cX11_init 156 = .ok (.aload_n 0, 1) := by decide +kernel
theorem dX11_init_157 : decode cX11_init 157 = .ok (.bipush 49, 2) := by decide +kernel
theorem dX11_init_159 : decode cX11_init 159 = .ok (.newarray .int, 2) := by decide +kernel
theorem dX11_init_161 : decode cX11_init 161 = .ok (.putfield 70, 3) := by decide +kernel
theorem dX11_init_164 : decode cX11_init 164 = .ok (.aload_n 0, 1) := by decide +kernel
theorem dX11_init_165 : decode cX11_init 165 = .ok (.bipush 6, 2) := by decide +kernel
theorem dX11_init_167 : decode cX11_init 167 = .ok (.newarray .int, 2) := by decide +kernel
theorem dX11_init_169 : decode cX11_init 169 = .ok (.putfield 73, 3) := by decide +kernel
theorem dX11_init_172 : decode cX11_init 172 = .ok (.aload_n 0, 1) := by decide +kernel
theorem dX11_init_173 : decode cX11_init 173 = .ok (.bipush 50, 2) := by decide +kernel
theorem dX11_init_175 : decode cX11_init 175 = .ok (.newarray .int, 2) := by decide +kernel
theorem dX11_init_177 : decode cX11_init 177 = .ok (.putfield 76, 3) := by decide +kernel
theorem dX11_init_180 : decode cX11_init 180 = .ok (.aload_n 0, 1) := by decide +kernel
theorem dX11_init_181 : decode cX11_init 181 = .ok (.bipush 24, 2) := by decide +kernel
theorem dX11_init_183 : decode cX11_init 183 = .ok (.newarray .int, 2) := by decide +kernel
theorem dX11_init_185 : decode cX11_init 185 = .ok (.putfield 79, 3) := by decide +kernel
theorem dX11_init_188 : decode cX11_init 188 = .ok (.aload_n 0, 1) := by decide +kernel
theorem dX11_init_189 : decode cX11_init 189 = .ok (.bipush 6, 2) := by decide +kernel
theorem dX11_init_191 : decode cX11_init 191 = .ok (.newarray .int, 2) := by decide +kernel
theorem dX11_init_193 : decode cX11_init 193 = .ok (.putfield 82, 3) := by decide +kernel
theorem dX11_init_196 : decode cX11_init 196 = .ok (.aload_n 0, 1) := by decide +kernel
theorem dX11_init_197 : decode cX11_init 197 = .ok (.bipush 6, 2) := by decide +kernel
theorem dX11_init_199 : decode cX11_init 199 = .ok (.newarray .int, 2) := by decide +kernel
theorem dX11_init_201 : decode cX11_init 201 = .ok (.putfield 85, 3) := by decide +kernel
theorem dX11_init_204 : decode cX11_init 204 = .ok (.aload_n 0, 1) := by decide +kernel
theorem dX11_init_205 : decode cX11_init 205 = .ok (.sipush 360, 3) := by decide +kernel
theorem dX11_init_208 : decode cX11_init 208 = .ok (.newarray .long, 2) := by decide +kernel
theorem dX11_init_210 : decode cX11_init 210 = .ok (.putfield 88, 3) := by decide +kernel
theorem dX11_init_213 : decode cX11_init 213 = .ok (.aload_n 0, 1) := by decide +kernel
theorem dX11_init_214 : decode cX11_init 214 = .ok (.bipush 60, 2) := by decide +kernel
theorem dX11_init_216 : decode cX11_init 216 = .ok (.newarray .long, 2) := by decide +kernel
theorem dX11_init_218 : decode cX11_init 218 = .ok (.putfield 92, 3) := by decide +kernel
theorem dX11_init_221 : decode cX11_init 221 = .ok (.iconst 0, 1) := by decide +kernel
theorem dX11_init_222 : decode cX11_init 222 = .ok (.istore_n 1, 1) := by decide +kernel
theorem dX11_init_223 : decode cX11_init 223 = .ok (.iload_n 1, 1) := by decide +kernel
theorem dX11_init_224 : decode cX11_init 224 = .ok (.bipush 6, 2) := by decide +kernel
theorem dX11_init_226 : decode cX11_init 226 = .ok (.if_icmp .ge 16, 3) := by decide +kernel
theorem dX11_init_229 : decode cX11_init 229 = .ok (.aload_n 0, 1) := by decide +kernel
theorem dX11_init_230 : decode cX11_init 230 = .ok (.getfield 82, 3) := by decide +kernel
theorem dX11_init_233 : decode cX11_init 233 = .ok (.iload_n 1, 1) := by decide +kernel
theorem dX11_init_234 : decode cX11_init 234 = .ok (.iconst (-1), 1) := by decide +kernel
theorem dX11_init_235 : decode cX11_init 235 = .ok (.iastore, 1) := by decide +kernel
theorem dX11_init_236 : decode cX11_init 236 = .ok (.iinc 1 1, 3) := by decide +kernel
theorem dX11_init_239 : decode cX11_init 239 = .ok (.goto (-16), 3) := by decide +kernel
theorem dX11_init_242 : decode cX11_init 242 = .ok (.aload_n 0, 1) := by decide +kernel
theorem dX11_init_243 : decode cX11_init 243 = .ok (.iconst (-1), 1) := by decide +kernel
theorem dX11_init_244 : decode cX11_init 244 = .ok (.putfield 95, 3) := by decide +kernel
theorem dX11_init_247 : decode cX11_init 247 = .ok (.aload_n 0, 1) := by decide +kernel
theorem dX11_init_248 : decode cX11_init 248 = .ok (.getfield 11, 3) := by decide +kernel
theorem dX11_init_251 : decode cX11_init 251 = .ok (.bipush 6, 2) := by decide +kernel
theorem dX11_init_253 : decode cX11_init 253 = .ok (.bipush 6, 2) := by decide +kernel
theorem dX11_init_255 : decode cX11_init 255 = .ok (.iastore, 1) := by decide +kernel
theorem dX11_init_256 : decode cX11_init 256 = .ok (.aload_n 0, 1) := by decide +kernel
theorem dX11_init_257 : decode cX11_init 257 = .ok (.getfield 11, 3) := by decide +kernel
theorem dX11_init_260 : decode cX11_init 260 = .ok (.bipush 7, 2) := by decide +kernel
theorem dX11_init_262 : decode cX11_init 262 = .ok (.iconst 1, 1) := by decide +kernel
theorem dX11_init_263 : decode cX11_init 263 = .ok (.iastore, 1) := by decide +kernel
theorem dX11_init_264 : decode cX11_init 264 = .ok (.iconst 0, 1) := by decide +kernel
theorem dX11_init_265 : decode cX11_init 265 = .ok (.istore_n 1, 1) := by decide +kernel
theorem dX11_init_266 : decode cX11_init 266 = .ok (.iload_n 1, 1) := by decide +kernel
theorem dX11_init_267 : decode cX11_init 267 = .ok (.bipush 49, 2) := by decide +kernel
theorem dX11_init_269 : decode cX11_init 269 = .ok (.if_icmp .ge 23, 3) := by decide +kernel
theorem dX11_init_272 : decode cX11_init 272 = .ok (.aload_n 0, 1) := by decide +kernel
theorem dX11_init_273 : decode cX11_init 273 = .ok (.getfield 27, 3) := by decide +kernel
theorem dX11_init_276 : decode cX11_init 276 = .ok (.iload_n 1, 1) := by decide +kernel
theorem dX11_init_277 : decode cX11_init 277 = .ok (.iconst (-1), 1) := by decide +kernel
theorem dX11_init_278 : decode cX11_init 278 = .ok (.iastore, 1) := by decide +kernel
theorem dX11_init_279 : decode cX11_init 279 = .ok (.aload_n 0, 1) := by decide +kernel
theorem dX11_init_280 : decode cX11_init 280 = .ok (.getfield 33, 3) := by decide +kernel
theorem dX11_init_283 : decode cX11_init 283 = .ok (.iload_n 1, 1) := by decide +kernel
theorem dX11_init_284 : decode cX11_init 284 = .ok (.iconst (-1), 1) := by decide +kernel
theorem dX11_init_285 : decode cX11_init 285 = .ok (.iastore, 1) := by decide +kernel
theorem dX11_init_286 : decode cX11_init 286 = .ok (.iinc 1 1, 3) := by decide +kernel
theorem dX11_init_289 : decode cX11_init 289 = .ok (.goto (-23), 3) := by decide +kernel
theorem dX11_init_292 : decode cX11_init 292 = .ok (.iconst 0, 1) := by decide +kernel
theorem dX11_init_293 : decode cX11_init 293 = .ok (.istore_n 1, 1) := by decide +kernel
theorem dX11_init_294 : decode cX11_init 294 = .ok (.iload_n 1, 1) := by decide +kernel
theorem dX11_init_295 : decode cX11_init 295 = .ok (.bipush 49, 2) := by decide +kernel
theorem dX11_init_297 : decode cX11_init 297 = .ok (.if_icmp .ge 57, 3) := by decide +kernel
theorem dX11_init_300 : decode cX11_init 300 = .ok (.iconst 0, 1) := by decide +kernel
theorem dX11_init_301 : decode cX11_init 301 = .ok (.istore_n 2, 1) := by decide +kernel
theorem dX11_init_302 : decode cX11_init 302 = .ok (.iload_n 2, 1) := by decide +kernel
theorem dX11_init_303 : decode cX11_init 303 = .ok (.bipush 49, 2) := by decide +kernel
theorem dX11_init_305 : decode cX11_init 305 = .ok (.if_icmp .ge 43, 3) := by decide +kernel
theorem dX11_init_308 : decode cX11_init 308 = .ok (.aload_n 0, 1) := by decide +kernel
theorem dX11_init_309 : decode cX11_init 309 = .ok (.getfield 24, 3) := by decide +kernel
theorem dX11_init_312 : decode cX11_init 312 = .ok (.bipush 49, 2) := by decide +kernel
theorem dX11_init_314 : decode cX11_init 314 = .ok (.iload_n 1, 1) := by decide +kernel
theorem dX11_init_315 : decode cX11_init 315 = .ok (.imul, 1) := by decide +kernel
theorem dX11_init_316 : decode cX11_init 316 = .ok (.iload_n 2, 1) := by decide +kernel
theorem dX11_init_317 : decode cX11_init 317 = .ok (.iadd, 1) := by decide +kernel
theorem dX11_init_318 : decode cX11_init 318 = .ok (.iload_n 1, 1) := by decide +kernel
theorem dX11_init_319 : decode cX11_init 319 = .ok (.iload_n 2, 1) := by decide +kernel
theorem dX11_init_320 : decode cX11_init 320 = .ok (.if_icmp .ne 7, 3) := by decide +kernel
theorem dX11_init_323 : decode cX11_init 323 = .ok (.iconst 0, 1) := by decide +kernel
theorem dX11_init_324 : decode cX11_init 324 = .ok (.goto 17, 3) := by decide +kernel
theorem dX11_init_327 : decode cX11_init 327 = .ok (.iload_n 1, 1) := by decide +kernel
theorem dX11_init_328 : decode cX11_init 328 = .ok (.iload_n 2, 1) := by decide +kernel
theorem dX11_init_329 : decode cX11_init 329 = .ok (.invokestatic 99, 3) := by decide +kernel
theorem dX11_init_332 : decode cX11_init 332 = .ok (.ifCond .eq 7, 3) := by decide +kernel
theorem dX11_init_335 : decode cX11_init 335 = .ok (.iconst 1, 1) := by decide +kernel
theorem dX11_init_336 : decode cX11_init 336 = .ok (.goto 5, 3) := by decide +kernel
theorem dX11_init_339 : decode cX11_init 339 = .ok (.bipush 49, 2) := by decide +kernel
theorem dX11_init_341 : decode cX11_init 341 = .ok (.iastore, 1) := by decide +kernel
theorem dX11_init_342 : decode cX11_init 342 = .ok (.iinc 2 1, 3) := by decide +kernel
theorem dX11_init_345 : decode cX11_init 345 = .ok (.goto (-43), 3) := by decide +kernel
theorem dX11_init_348 : decode cX11_init 348 = .ok (.iinc 1 1, 3) := by decide +kernel
theorem dX11_init_351 : decode cX11_init 351 = .ok (.goto (-57), 3) := by decide +kernel
theorem dX11_init_354 : decode cX11_init 354 = .ok (.iconst 0, 1) := by decide +kernel
theorem dX11_init_355 : decode cX11_init 355 = .ok (.istore_n 1, 1) := by decide +kernel
theorem dX11_init_356 : decode cX11_init 356 = .ok (.iload_n 1, 1) := by decide +kernel
theorem dX11_init_357 : decode cX11_init 357 = .ok (.bipush 49, 2) := by decide +kernel
theorem dX11_init_359 : decode cX11_init 359 = .ok (.if_icmp .ge 105, 3) := by decide +kernel
theorem dX11_init_362 : decode cX11_init 362 = .ok (.iconst 0, 1) := by decide +kernel
theorem dX11_init_363 : decode cX11_init 363 = .ok (.istore_n 2, 1) := by decide +kernel
theorem dX11_init_364 : decode cX11_init 364 = .ok (.iload_n 2, 1) := by decide +kernel
theorem dX11_init_365 : decode cX11_init 365 = .ok (.bipush 49, 2) := by decide +kernel
theorem dX11_init_367 : decode cX11_init 367 = .ok (.if_icmp .ge 91, 3) := by decide +kernel
theorem dX11_init_370 : decode cX11_init 370 = .ok (.iconst 0, 1) := by decide +kernel
theorem dX11_init_371 : decode cX11_init 371 = .ok (.istore_n 3, 1) := by decide +kernel
theorem dX11_init_372 : decode cX11_init 372 = .ok (.iload_n 3, 1) := by decide +kernel
theorem dX11_init_373 : decode cX11_init 373 = .ok (.bipush 49, 2) := by decide +kernel
theorem dX11_init_375 : decode cX11_init 375 = .ok (.if_icmp .ge 77, 3) := by decide +kernel
theorem dX11_init_378 : decode cX11_init 378 = .ok (.aload_n 0, 1) := by decide +kernel
theorem dX11_init_379 : decode cX11_init 379 = .ok (.getfield 24, 3) := by decide +kernel
theorem dX11_init_382 : decode cX11_init 382 = .ok (.bipush 49, 2) := by decide +kernel
theorem dX11_init_384 : decode cX11_init 384 = .ok (.iload_n 2, 1) := by decide +kernel
theorem dX11_init_385 : decode cX11_init 385 = .ok (.imul, 1) := by decide +kernel
theorem dX11_init_386 : decode cX11_init 386 = .ok (.iload_n 1, 1) := by decide +kernel
theorem dX11_init_387 : decode cX11_init 387 = .ok (.iadd, 1) := by decide +kernel
theorem dX11_init_388 : decode cX11_init 388 = .ok (.iaload, 1) := by decide +kernel
theorem dX11_init_389 : decode cX11_init 389 = .ok (.aload_n 0, 1) := by decide +kernel
theorem dX11_init_390 : decode cX11_init 390 = .ok (.getfield 24, 3) := by decide +kernel
theorem dX11_init_393 : decode cX11_init 393 = .ok (.bipush 49, 2) := by decide +kernel
theorem dX11_init_395 : decode cX11_init 395 = .ok (.iload_n 1, 1) := by decide +kernel
theorem dX11_init_396 : decode cX11_init 396 = .ok (.imul, 1) := by decide +kernel
theorem dX11_init_397 : decode cX11_init 397 = .ok (.iload_n 3, 1) := by decide +kernel
theorem dX11_init_398 : decode cX11_init 398 = .ok (.iadd, 1) := by decide +kernel
theorem dX11_init_399 : decode cX11_init 399 = .ok (.iaload, 1) := by decide +kernel
theorem dX11_init_400 : decode cX11_init 400 = .ok (.iadd, 1) := by decide +kernel
theorem dX11_init_401 : decode cX11_init 401 = .ok (.istore 4, 2) := by decide +kernel
theorem dX11_init_403 : decode cX11_init 403 = .ok (.aload_n 0, 1) := by decide +kernel
theorem dX11_init_404 : decode cX11_init 404 = .ok (.getfield 24, 3) := by decide +kernel
theorem dX11_init_407 : decode cX11_init 407 = .ok (.bipush 49, 2) := by decide +kernel
theorem dX11_init_409 : decode cX11_init 409 = .ok (.iload_n 2, 1) := by decide +kernel
theorem dX11_init_410 : decode cX11_init 410 = .ok (.imul, 1) := by decide +kernel
theorem dX11_init_411 : decode cX11_init 411 = .ok (.iload_n 3, 1) := by decide +kernel
theorem dX11_init_412 : decode cX11_init 412 = .ok (.iadd, 1) := by decide +kernel
theorem dX11_init_413 : decode cX11_init 413 = .ok (.iload 4, 2) := by decide +kernel
theorem dX11_init_415 : decode cX11_init 415 = .ok (.aload_n 0, 1) := by decide +kernel
theorem dX11_init_416 : decode cX11_init 416 = .ok (.getfield 24, 3) := by decide +kernel
theorem dX11_init_419 : decode cX11_init 419 = .ok (.bipush 49, 2) := by decide +kernel
theorem dX11_init_421 : decode cX11_init 421 = .ok (.iload_n 2, 1) := by decide +kernel
theorem dX11_init_422 : decode cX11_init 422 = .ok (.imul, 1) := by decide +kernel
theorem dX11_init_423 : decode cX11_init 423 = .ok (.iload_n 3, 1) := by decide +kernel
theorem dX11_init_424 : decode cX11_init 424 = .ok (.iadd, 1) := by decide +kernel
theorem dX11_init_425 : decode cX11_init 425 = .ok (.iaload, 1) := by decide +kernel
theorem dX11_init_426 : decode cX11_init 426 = .ok (.if_icmp .ge 8, 3) := by decide +kernel
theorem dX11_init_429 : decode cX11_init 429 = .ok (.iload 4, 2) := by decide +kernel
theorem dX11_init_431 : decode cX11_init 431 = .ok (.goto 14, 3) := by decide +kernel
theorem dX11_init_434 : decode cX11_init 434 = .ok (.aload_n 0, 1) := by decide +kernel
theorem dX11_init_435 : decode cX11_init 435 = .ok (.getfield 24, 3) := by decide +kernel
theorem dX11_init_438 : decode cX11_init 438 = .ok (.bipush 49, 2) := by decide +kernel
theorem dX11_init_440 : decode cX11_init 440 = .ok (.iload_n 2, 1) := by decide +kernel
theorem dX11_init_441 : decode cX11_init 441 = .ok (.imul, 1) := by decide +kernel
theorem dX11_init_442 : decode cX11_init 442 = .ok (.iload_n 3, 1) := by decide +kernel
theorem dX11_init_443 : decode cX11_init 443 = .ok (.iadd, 1) := by decide +kernel
theorem dX11_init_444 : decode cX11_init 444 = .ok (.iaload, 1) := by decide +kernel
theorem dX11_init_445 : decode cX11_init 445 = .ok (.iastore, 1) := by decide +kernel
theorem dX11_init_446 : decode cX11_init 446 = .ok (.iinc 3 1, 3) := by decide +kernel
theorem dX11_init_449 : decode cX11_init 449 = .ok (.goto (-77), 3) := by decide +kernel
theorem dX11_init_452 : decode cX11_init 452 = .ok (.iinc 2 1, 3) := by decide +kernel
theorem dX11_init_455 : decode cX11_init 455 = .ok (.goto (-91), 3) := by decide +kernel
theorem dX11_init_458 : decode cX11_init 458 = .ok (.iinc 1 1, 3) := by decide +kernel
theorem dX11_init_461 : decode cX11_init 461 = .ok (.goto (-105), 3) := by decide +kernel
theorem dX11_init_464 : decode cX11_init 464 = .ok (.return_, 1) := by decide +kernel
theorem dX11_becomes_0 : decode cX11_becomes 0 = .ok (.aload_n 0, 1) := by decide +kernel
theorem dX11_becomes_1 : decode cX11_becomes 1 = .ok (.getfield 11, 3) := by decide +kernel
theorem dX11_becomes_4 : decode cX11_becomes 4 = .ok (.iload_n 1, 1) := by decide +kernel
theorem dX11_becomes_5 : decode cX11_becomes 5 = .ok (.iaload, 1) := by decide +kernel
theorem dX11_becomes_6 : decode cX11_becomes 6 = .ok (.istore_n 3, 1) := by decide +kernel
theorem dX11_becomes_7 : decode cX11_becomes 7 = .ok (.iload_n 3, 1) := by decide +kernel
theorem dX11_becomes_8 : decode cX11_becomes 8 = .ok (.iload_n 2, 1) := by decide +kernel
theorem dX11_becomes_9 : decode cX11_becomes 9 = .ok (.if_icmp .ne 5, 3) := by decide +kernel
theorem dX11_becomes_12 : decode cX11_becomes 12 = .ok (.iload_n 3, 1) := by decide +kernel
theorem dX11_becomes_13 : decode cX11_becomes 13 = .ok (.ireturn, 1) := by decide +kernel
theorem dX11_becomes_14 : decode cX11_becomes 14 = .ok (.aload_n 0, 1) := by decide +kernel
theorem dX11_becomes_15 : decode cX11_becomes 15 = .ok (.getfield 103, 3) := by decide +kernel
theorem dX11_becomes_18 : decode cX11_becomes 18 = .ok (.bipush 40, 2) := by decide +kernel
theorem dX11_becomes_20 : decode cX11_becomes 20 = .ok (.if_icmp .ne 77, 3) := by decide +kernel
theorem dX11_becomes_23 : decode cX11_becomes 23 = .ok (.iconst 1, 1) := by decide +kernel
theorem dX11_becomes_24 : decode cX11_becomes 24 = .ok (.istore 4, 2) := by decide +kernel
theorem dX11_becomes_26 : decode cX11_becomes 26 = .ok (.iload 4, 2) := by decide +kernel
theorem dX11_becomes_28 : decode cX11_becomes 28 = .ok (.bipush 40, 2) := by decide +kernel
theorem dX11_becomes_30 : decode cX11_becomes 30 = .ok (.if_icmp .ge 57, 3) := by decide +kernel
theorem dX11_becomes_33 : decode cX11_becomes 33 = .ok (.aload_n 0, 1) := by decide +kernel
theorem dX11_becomes_34 : decode cX11_becomes 34 = .ok (.getfield 15, 3) := by decide +kernel
theorem dX11_becomes_37 : decode cX11_becomes 37 = .ok (.iload 4, 2) := by decide +kernel
theorem dX11_becomes_39 : decode cX11_becomes 39 = .ok (.iconst 1, 1) := by decide +kernel
theorem dX11_becomes_40 : decode cX11_becomes 40 = .ok (.isub, 1) := by decide +kernel
theorem dX11_becomes_41 : decode cX11_becomes 41 = .ok (.aload_n 0, 1) := by decide +kernel
theorem dX11_becomes_42 : decode cX11_becomes 42 = .ok (.getfield 15, 3) := by decide +kernel
theorem dX11_becomes_45 : decode cX11_becomes 45 = .ok (.iload 4, 2) := by decide +kernel
theorem dX11_becomes_47 : decode cX11_becomes 47 = .ok (.iaload, 1) := by decide +kernel
theorem dX11_becomes_48 : decode cX11_becomes 48 = .ok (.iastore, 1) := by decide +kernel
theorem dX11_becomes_49 : decode cX11_becomes 49 = .ok (.aload_n 0, 1) := by decide +kernel
theorem dX11_becomes_50 : decode cX11_becomes 50 = .ok (.getfield 18, 3) := by decide +kernel
theorem dX11_becomes_53 : decode cX11_becomes 53 = .ok (.iload 4, 2) := by decide +kernel
theorem dX11_becomes_55 : decode cX11_becomes 55 = .ok (.iconst 1, 1) := by decide +kernel
theorem dX11_becomes_56 : decode cX11_becomes 56 = .ok (.isub, 1) := by decide +kernel
theorem dX11_becomes_57 : decode cX11_becomes 57 = .ok (.aload_n 0, 1) := by decide +kernel
theorem dX11_becomes_58 : decode cX11_becomes 58 = .ok (.getfield 18, 3) := by decide +kernel
theorem dX11_becomes_61 : decode cX11_becomes 61 = .ok (.iload 4, 2) := by decide +kernel
theorem dX11_becomes_63 : decode cX11_becomes 63 = .ok (.iaload, 1) := by decide +kernel
theorem dX11_becomes_64 : decode cX11_becomes 64 = .ok (.iastore, 1) := by decide +kernel
theorem dX11_becomes_65 : decode cX11_becomes 65 = .ok (.aload_n 0, 1) := by decide +kernel
theorem dX11_becomes_66 : decode cX11_becomes 66 = .ok (.getfield 21, 3) := by decide +kernel
theorem dX11_becomes_69 : decode cX11_becomes 69 = .ok (.iload 4, 2) := by decide +kernel
theorem dX11_becomes_71 : decode cX11_becomes 71 = .ok (.iconst 1, 1) := by decide +kernel
theorem dX11_becomes_72 : decode cX11_becomes 72 = .ok (.isub, 1) := by decide +kernel
theorem dX11_becomes_73 : decode cX11_becomes 73 = .ok (.aload_n 0, 1) := by decide +kernel
theorem dX11_becomes_74 : decode cX11_becomes 74 = .ok (.getfield 21, 3) := by decide +kernel
theorem dX11_becomes_77 : decode cX11_becomes 77 = .ok (.iload 4, 2) := by decide +kernel
theorem dX11_becomes_79 : decode cX11_becomes 79 = .ok (.iaload, 1) := by decide +kernel
theorem dX11_becomes_80 : decode cX11_becomes 80 = .ok (.iastore, 1) := by decide +kernel
theorem dX11_becomes_81 : decode cX11_becomes 81 = .ok (.iinc 4 1, 3) := by decide +kernel
theorem dX11_becomes_84 : decode cX11_becomes 84 = .ok (.goto (-58), 3) := by decide +kernel
theorem dX11_becomes_87 : decode cX11_becomes 87 = .ok (.aload_n 0, 1) := by decide +kernel
theorem dX11_becomes_88 : decode cX11_becomes 88 = .ok (.dup, 1) := by decide +kernel
theorem dX11_becomes_89 : decode cX11_becomes 89 = .ok (.getfield 103, 3) := by decide +kernel
theorem dX11_becomes_92 : decode cX11_becomes 92 = .ok (.iconst 1, 1) := by decide +kernel
theorem dX11_becomes_93 : decode cX11_becomes 93 = .ok (.isub, 1) := by decide +kernel
theorem dX11_becomes_94 : decode cX11_becomes 94 = .ok (.putfield 103, 3) := by decide +kernel
theorem dX11_becomes_97 : decode cX11_becomes 97 = .ok (.aload_n 0, 1) := by decide +kernel
theorem dX11_becomes_98 : decode cX11_becomes 98 = .ok (.getfield 15, 3) := by decide +kernel
theorem dX11_becomes_101 : decode cX11_becomes 101 = .ok (.aload_n 0, 1) := by decide +kernel
theorem dX11_becomes_102 : decode cX11_becomes 102 = .ok (.getfield 103, 3) := by decide +kernel
theorem dX11_becomes_105 : decode cX11_becomes 105 = .ok (.iload_n 1, 1) := by decide +kernel
theorem dX11_becomes_106 : decode cX11_becomes 106 = .ok (.iastore, 1) := by decide +kernel
theorem dX11_becomes_107 : decode cX11_becomes 107 = .ok (.aload_n 0, 1) := by decide +kernel
theorem dX11_becomes_108 : decode cX11_becomes 108 = .ok (.getfield 18, 3) := by decide +kernel
theorem dX11_becomes_111 : decode cX11_becomes 111 = .ok (.aload_n 0, 1) := by decide +kernel
theorem dX11_becomes_112 : decode cX11_becomes 112 = .ok (.getfield 103, 3) := by decide +kernel
theorem dX11_becomes_115 : decode cX11_becomes 115 = .ok (.iload_n 3, 1) := by decide +kernel
theorem dX11_becomes_116 : decode cX11_becomes 116 = .ok (.iastore, 1) := by decide +kernel
theorem dX11_becomes_117 : decode cX11_becomes 117 = .ok (.aload_n 0, 1) := by decide +kernel
theorem dX11_becomes_118 : decode cX11_becomes 118 = .ok (.getfield 21, 3) := by decide +kernel
theorem dX11_becomes_121 : decode cX11_becomes 121 = .ok (.aload_n 0, 1) := by decide +kernel
theorem dX11_becomes_122 : decode cX11_becomes 122 = .ok (.getfield 103, 3) := by decide +kernel
theorem dX11_becomes_125 : decode cX11_becomes 125 = .ok (.iload_n 2, 1) := by decide +kernel
theorem dX11_becomes_126 : decode cX11_becomes 126 = .ok (.iastore, 1) := by decide +kernel
theorem dX11_becomes_127 : decode cX11_becomes 127 = .ok (.aload_n 0, 1) := by decide +kernel
theorem dX11_becomes_128 : decode cX11_becomes 128 = .ok (.dup, 1) := by decide +kernel
theorem dX11_becomes_129 : decode cX11_becomes 129 = .ok (.getfield 103, 3) := by decide +kernel
theorem dX11_becomes_132 : decode cX11_becomes 132 = .ok (.iconst 1, 1) := by decide +kernel
theorem dX11_becomes_133 : decode cX11_becomes 133 = .ok (.iadd, 1) := by decide +kernel
theorem dX11_becomes_134 : decode cX11_becomes 134 = .ok (.putfield 103, 3) := by decide +kernel
theorem dX11_becomes_137 : decode cX11_becomes 137 = .ok (.aload_n 0, 1) := by decide +kernel
theorem dX11_becomes_138 : decode cX11_becomes 138 = .ok (.aload_n 0, 1) := by decide +kernel
theorem dX11_becomes_139 : decode cX11_becomes 139 = .ok (.getfield 103, 3) := by decide +kernel
theorem dX11_becomes_142 : decode cX11_becomes 142 = .ok (.putfield 106, 3) := by decide +kernel
theorem dX11_becomes_145 : decode cX11_becomes 145 = .ok (.aload_n 0, 1) := by decide +kernel
theorem dX11_becomes_146 : decode cX11_becomes 146 = .ok (.getfield 11, 3) := by decide +kernel
theorem dX11_becomes_149 : decode cX11_becomes 149 = .ok (.iload_n 1, 1) := by decide +kernel
theorem dX11_becomes_150 : decode cX11_becomes 150 = .ok (.iload_n 2, 1) := by decide +kernel
theorem dX11_becomes_151 : decode cX11_becomes 151 = .ok (.iastore, 1) := by decide +kernel
theorem dX11_becomes_152 : decode cX11_becomes 152 = .ok (.iload_n 3, 1) := by decide +kernel
theorem dX11_becomes_153 : decode cX11_becomes 153 = .ok (.ireturn, 1) := by decide +kernel
theorem dX11_undo_0 : decode cX11_undo 0 = .ok (.aload_n 0, 1) := by decide +kernel
theorem dX11_undo_1 : decode cX11_undo 1 = .ok (.getfield 103, 3) := by decide +kernel
theorem dX11_undo_4 : decode cX11_undo 4 = .ok (.ifCond .ne 6, 3) := by decide +kernel
theorem dX11_undo_7 : decode cX11_undo 7 = .ok (.bipush (-5), 2) := by decide +kernel
theorem dX11_undo_9 : decode cX11_undo 9 = .ok (.ireturn, 1) := by decide +kernel
theorem dX11_undo_10 : decode cX11_undo 10 = .ok (.aload_n 0, 1) := by decide +kernel
theorem dX11_undo_11 : decode cX11_undo 11 = .ok (.dup, 1) := by decide +kernel
theorem dX11_undo_12 : decode cX11_undo 12 = .ok (.getfield 103, 3) := by decide +kernel
theorem dX11_undo_15 : decode cX11_undo 15 = .ok (.iconst 1, 1) := by decide +kernel
theorem dX11_undo_16 : decode cX11_undo 16 = .ok (.isub, 1) := by decide +kernel
theorem dX11_undo_17 : decode cX11_undo 17 = .ok (.putfield 103, 3) := by decide +kernel
theorem dX11_undo_20 : decode cX11_undo 20 = .ok (.aload_n 0, 1) := by decide +kernel
theorem dX11_undo_21 : decode cX11_undo 21 = .ok (.getfield 11, 3) := by decide +kernel
theorem dX11_undo_24 : decode cX11_undo 24 = .ok (.aload_n 0, 1) := by decide +kernel
theorem dX11_undo_25 : decode cX11_undo 25 = .ok (.getfield 15, 3) := by decide +kernel
theorem dX11_undo_28 : decode cX11_undo 28 = .ok (.aload_n 0, 1) := by decide +kernel
theorem dX11_undo_29 : decode cX11_undo 29 = .ok (.getfield 103, 3) := by decide +kernel
theorem dX11_undo_32 : decode cX11_undo 32 = .ok (.iaload, 1) := by decide +kernel
theorem dX11_undo_33 : decode cX11_undo 33 = .ok (.aload_n 0, 1) := by decide +kernel
theorem dX11_undo_34 : decode cX11_undo 34 = .ok (.getfield 18, 3) := by decide +kernel
theorem dX11_undo_37 : decode cX11_undo 37 = .ok (.aload_n 0, 1) := by decide +kernel
theorem dX11_undo_38 : decode cX11_undo 38 = .ok (.getfield 103, 3) := by decide +kernel
theorem dX11_undo_41 : decode cX11_undo 41 = .ok (.iaload, 1) := by decide +kernel
theorem dX11_undo_42 : decode cX11_undo 42 = .ok (.iastore, 1) := by decide +kernel
theorem dX11_undo_43 : decode cX11_undo 43 = .ok (.aload_n 0, 1) := by decide +kernel
theorem dX11_undo_44 : decode cX11_undo 44 = .ok (.getfield 103, 3) := by decide +kernel
theorem dX11_undo_47 : decode cX11_undo 47 = .ok (.ireturn, 1) := by decide +kernel
theorem dX11_redo_0 : decode cX11_redo 0 = .ok (.aload_n 0, 1) := by decide +kernel
theorem dX11_redo_1 : decode cX11_redo 1 = .ok (.getfield 103, 3) := by decide +kernel
theorem dX11_redo_4 : decode cX11_redo 4 = .ok (.aload_n 0, 1) := by decide +kernel
theorem dX11_redo_5 : decode cX11_redo 5 = .ok (.getfield 106, 3) := by decide +kernel
theorem dX11_redo_8 : decode cX11_redo 8 = .ok (.if_icmp .ne 6, 3) := by decide +kernel
theorem dX11_redo_11 : decode cX11_redo 11 = .ok (.bipush (-5), 2) := by decide +kernel
theorem dX11_redo_13 : decode cX11_redo 13 = .ok (.ireturn, 1) := by decide +kernel
theorem dX11_redo_14 : decode cX11_redo 14 = .ok (.aload_n 0, 1) := by decide +kernel
theorem dX11_redo_15 : decode cX11_redo 15 = .ok (.getfield 11, 3) := by decide +kernel
theorem dX11_redo_18 : decode cX11_redo 18 = .ok (.aload_n 0, 1) := by decide +kernel
theorem dX11_redo_19 : decode cX11_redo 19 = .ok (.getfield 15, 3) := by decide +kernel
theorem dX11_redo_22 : decode cX11_redo 22 = .ok (.aload_n 0, 1) := by decide +kernel
theorem dX11_redo_23 : decode cX11_redo 23 = .ok (.getfield 103, 3) := by decide +kernel
theorem dX11_redo_26 : decode cX11_redo 26 = .ok (.iaload, 1) := by decide +kernel
theorem dX11_redo_27 : decode cX11_redo 27 = .ok (.aload_n 0, 1) := by decide +kernel
theorem dX11_redo_28 : decode cX11_redo 28 = .ok (.getfield 21, 3) := by decide +kernel
theorem dX11_redo_31 : decode cX11_redo 31 = .ok (.aload_n 0, 1) := by decide +kernel
theorem dX11_redo_32 : decode cX11_redo 32 = .ok (.getfield 103, 3) := by decide +kernel
theorem dX11_redo_35 : decode cX11_redo 35 = .ok (.iaload, 1) := by decide +kernel
theorem dX11_redo_36 : decode cX11_redo 36 = .ok (.iastore, 1) := by decide +kernel
theorem dX11_redo_37 : decode cX11_redo 37 = .ok (.aload_n 0, 1) := by decide +kernel
theorem dX11_redo_38 : decode cX11_redo 38 = .ok (.dup, 1) := by decide +kernel
theorem dX11_redo_39 : decode cX11_redo 39 = .ok (.getfield 103, 3) := by decide +kernel
theorem dX11_redo_42 : decode cX11_redo 42 = .ok (.iconst 1, 1) := by decide +kernel
theorem dX11_redo_43 : decode cX11_redo 43 = .ok (.iadd, 1) := by decide +kernel
theorem dX11_redo_44 : decode cX11_redo 44 = .ok (.putfield 103, 3) := by decide +kernel
theorem dX11_redo_47 : decode cX11_redo 47 = .ok (.aload_n 0, 1) := by decide +kernel
theorem dX11_redo_48 : decode cX11_redo 48 = .ok (.getfield 106, 3) := by decide +kernel
theorem dX11_redo_51 : decode cX11_redo 51 = .ok (.aload_n 0, 1) := by decide +kernel
theorem dX11_redo_52 : decode cX11_redo 52 = .ok (.getfield 103, 3) := by decide +kernel
theorem dX11_redo_55 : decode cX11_redo 55 = .ok (.isub, 1) := by decide +kernel
theorem dX11_redo_56 : decode cX11_redo 56 = .ok (.ireturn, 1) := by decide +kernel
theorem dX11_isNext_0 : decode cX11_isNext 0 = .ok (.iload_n 1, 1) := by decide +kernel
theorem dX11_isNext_1 : decode cX11_isNext 1 = .ok (.bipush 7, 2) := by decide +kernel
theorem dX11_isNext_3 : decode cX11_isNext 3 = .ok (.idiv, 1) := by decide +kernel
theorem dX11_isNext_4 : decode cX11_isNext 4 = .ok (.iload_n 0, 1) := by decide +kernel
theorem dX11_isNext_5 : decode cX11_isNext 5 = .ok (.bipush 7, 2) := by decide +kernel
theorem dX11_isNext_7 : decode cX11_isNext 7 = .ok (.idiv, 1) := by decide +kernel
theorem dX11_isNext_8 : decode cX11_isNext 8 = .ok (.isub, 1) := by decide +kernel
theorem dX11_isNext_9 : decode cX11_isNext 9 = .ok (.istore_n 2, 1) := by decide +kernel
theorem dX11_isNext_10 : decode cX11_isNext 10 = .ok (.iload_n 1, 1) := by decide +kernel
theorem dX11_isNext_11 : decode cX11_isNext 11 = .ok (.bipush 7, 2) := by decide +kernel
theorem dX11_isNext_13 : decode cX11_isNext 13 = .ok (.irem, 1) := by decide +kernel
theorem dX11_isNext_14 : decode cX11_isNext 14 = .ok (.iload_n 0, 1) := by decide +kernel
theorem dX11_isNext_15 : decode cX11_isNext 15 = .ok (.bipush 7, 2) := by decide +kernel
theorem dX11_isNext_17 : decode cX11_isNext 17 = .ok (.irem, 1) := by decide +kernel
theorem dX11_isNext_18 : decode cX11_isNext 18 = .ok (.isub, 1) := by decide +kernel
theorem dX11_isNext_19 : decode cX11_isNext 19 = .ok (.istore_n 3, 1) := by decide +kernel
theorem dX11_isNext_20 : decode cX11_isNext 20 = .ok (.iload_n 2, 1) := by decide +kernel
theorem dX11_isNext_21 : decode cX11_isNext 21 = .ok (.ifCond .ne 19, 3) := by decide +kernel
theorem dX11_isNext_24 : decode cX11_isNext 24 = .ok (.iload_n 3, 1) := by decide +kernel
theorem dX11_isNext_25 : decode cX11_isNext 25 = .ok (.iconst 1, 1) := by decide +kernel
theorem dX11_isNext_26 : decode cX11_isNext 26 = .ok (.if_icmp .eq 8, 3) := by decide +kernel
theorem dX11_isNext_29 : decode cX11_isNext 29 = .ok (.iload_n 3, 1) := by decide +kernel
theorem dX11_isNext_30 : decode cX11_isNext 30 = .ok (.iconst (-1), 1) := by decide +kernel
theorem dX11_isNext_31 : decode cX11_isNext 31 = .ok (.if_icmp .ne 7, 3) := by decide +kernel
theorem dX11_isNext_34 : decode cX11_isNext 34 = .ok (.iconst 1, 1) := by decide +kernel
theorem dX11_isNext_35 : decode cX11_isNext 35 = .ok (.goto 4, 3) := by decide +kernel
theorem dX11_isNext_38 : decode cX11_isNext 38 = .ok (.iconst 0, 1) := by decide +kernel
theorem dX11_isNext_39 : decode cX11_isNext 39 = .ok (.ireturn, 1) := by decide +kernel
theorem dX11_isNext_40 : decode cX11_isNext 40 = .ok (.iload_n 2, 1) := by decide +kernel
theorem dX11_isNext_41 : decode cX11_isNext 41 = .ok (.iconst 1, 1) := by decide +kernel
theorem dX11_isNext_42 : decode cX11_isNext 42 = .ok (.if_icmp .eq 10, 3) := by decide +kernel
theorem dX11_isNext_45 : decode cX11_isNext 45 = .ok (.iload_n 2, 1) := by decide +kernel
theorem dX11_isNext_46 : decode cX11_isNext 46 = .ok (.iconst (-1), 1) := by decide +kernel
theorem dX11_isNext_47 : decode cX11_isNext 47 = .ok (.if_icmp .eq 5, 3) := by decide +kernel
theorem dX11_isNext_50 : decode cX11_isNext 50 = .ok (.iconst 0, 1) := by decide +kernel
theorem dX11_isNext_51 : decode cX11_isNext 51 = .ok (.ireturn, 1) := by decide +kernel
theorem dX11_isNext_52 : decode cX11_isNext 52 = .ok (.iload_n 3, 1) := by decide +kernel
theorem dX11_isNext_53 : decode cX11_isNext 53 = .ok (.ifCond .eq 21, 3) := by decide +kernel
theorem dX11_isNext_56 : decode cX11_isNext 56 = .ok (.iload_n 3, 1) := by decide +kernel
theorem dX11_isNext_57 : decode cX11_isNext 57 = .ok (.iload_n 0, 1) := by decide +kernel
theorem dX11_isNext_58 : decode cX11_isNext 58 = .ok (.bipush 7, 2) := by decide +kernel
theorem dX11_isNext_60 : decode cX11_isNext 60 = .ok (.idiv, 1) := by decide +kernel
theorem dX11_isNext_61 : decode cX11_isNext 61 = .ok (.iconst 2, 1) := by decide +kernel
theorem dX11_isNext_62 : decode cX11_isNext 62 = .ok (.irem, 1) := by decide +kernel
theorem dX11_isNext_63 : decode cX11_isNext 63 = .ok (.ifCond .ne 7, 3) := by decide +kernel
theorem dX11_isNext_66 : decode cX11_isNext 66 = .ok (.iconst (-1), 1) := by decide +kernel
theorem dX11_isNext_67 : decode cX11_isNext 67 = .ok (.goto 4, 3) := by decide +kernel
theorem dX11_isNext_70 : decode cX11_isNext 70 = .ok (.iconst 1, 1) := by decide +kernel
theorem dX11_isNext_71 : decode cX11_isNext 71 = .ok (.if_icmp .ne 7, 3) := by decide +kernel
theorem dX11_isNext_74 : decode cX11_isNext 74 = .ok (.iconst 1, 1) := by decide +kernel
theorem dX11_isNext_75 : decode cX11_isNext 75 = .ok (.goto 4, 3) := by decide +kernel
theorem dX11_isNext_78 : decode cX11_isNext 78 = .ok (.iconst 0, 1) := by decide +kernel
theorem dX11_isNext_79 : decode cX11_isNext 79 = .ok (.ireturn, 1) := by decide +kernel
theorem dX11_isCell_0 : decode cX11_isCell 0 = .ok (.lload_n 0, 1) := by decide +kernel
theorem dX11_isCell_1 : decode cX11_isCell 1 = .ok (.lconst 0, 1) := by decide +kernel
theorem dX11_isCell_2 : decode cX11_isCell 2 = .ok (.ldc2_w 109, 3) := by decide +kernel
theorem dX11_isCell_5 : decode cX11_isCell 5 = .ok (.invokestatic 111, 3) := by decide +kernel
theorem dX11_isCell_8 : decode cX11_isCell 8 = .ok (.ireturn, 1) := by decide +kernel
theorem dX11_isSum_0 : decode cX11_isSum 0 = .ok (.lload_n 0, 1) := by decide +kernel
theorem dX11_isSum_1 : decode cX11_isSum 1 = .ok (.lconst 1, 1) := by decide +kernel
theorem dX11_isSum_2 : decode cX11_isSum 2 = .ok (.ldc2_w 115, 3) := by decide +kernel
theorem dX11_isSum_5 : decode cX11_isSum 5 = .ok (.invokestatic 111, 3) := by decide +kernel
theorem dX11_isSum_8 : decode cX11_isSum 8 = .ok (.ireturn, 1) := by decide +kernel
theorem dX11_isAccount_0 : decode cX11_isAccount 0 = .ok (.lload_n 1, 1) := by decide +kernel
theorem dX11_isAccount_1 : decode cX11_isAccount 1 = .ok (.lconst 0, 1) := by decide +kernel
theorem dX11_isAccount_2 : decode cX11_isAccount 2 = .ok (.aload_n 0, 1) := by decide +kernel
theorem dX11_isAccount_3 : decode cX11_isAccount 3 = .ok (.getfield 117, 3) := by decide +kernel
theorem dX11_isAccount_6 : decode cX11_isAccount 6 = .ok (.iconst 1, 1) := by decide +kernel
theorem dX11_isAccount_7 : decode cX11_isAccount 7 = .ok (.isub, 1) := by decide +kernel
theorem dX11_isAccount_8 : decode cX11_isAccount 8 = .ok (.i2l, 1) := by decide +kernel
theorem dX11_isAccount_9 : decode cX11_isAccount 9 = .ok (.invokestatic 111, 3) := by decide +kernel
theorem dX11_isAccount_12 : decode cX11_isAccount 12 = .ok (.ireturn, 1) := by decide +kernel
theorem dX11_account_0 : decode cX11_account 0 = .ok (.iload_n 1, 1) := by decide +kernel
theorem dX11_account_1 : decode cX11_account 1 = .ok (.i2l, 1) := by decide +kernel
theorem dX11_account_2 : decode cX11_account 2 = .ok (.invokestatic 120, 3) := by decide +kernel
theorem dX11_account_5 : decode cX11_account 5 = .ok (.ifCond .ne 5, 3) := by decide +kernel
theorem dX11_account_8 : decode cX11_account 8 = .ok (.iconst (-1), 1) := by decide +kernel
theorem dX11_account_9 : decode cX11_account 9 = .ok (.ireturn, 1) := by decide +kernel
theorem dX11_account_10 : decode cX11_account 10 = .ok (.aload_n 0, 1) := by decide +kernel
theorem dX11_account_11 : decode cX11_account 11 = .ok (.getfield 117, 3) := by decide +kernel
theorem dX11_account_14 : decode cX11_account 14 = .ok (.bipush 6, 2) := by decide +kernel
theorem dX11_account_16 : decode cX11_account 16 = .ok (.if_icmp .ne 6, 3) := by decide +kernel
theorem dX11_account_19 : decode cX11_account 19 = .ok (.bipush (-3), 2) := by decide +kernel
theorem dX11_account_21 : decode cX11_account 21 = .ok (.ireturn, 1) := by decide +kernel
theorem dX11_account_22 : decode cX11_account 22 = .ok (.aload_n 0, 1) := by decide +kernel
theorem dX11_account_23 : decode cX11_account 23 = .ok (.getfield 11, 3) := by decide +kernel
theorem dX11_account_26 : decode cX11_account 26 = .ok (.aload_n 0, 1) := by decide +kernel
theorem dX11_account_27 : decode cX11_account 27 = .ok (.getfield 117, 3) := by decide +kernel
theorem dX11_account_30 : decode cX11_account 30 = .ok (.iload_n 1, 1) := by decide +kernel
theorem dX11_account_31 : decode cX11_account 31 = .ok (.iastore, 1) := by decide +kernel
theorem dX11_account_32 : decode cX11_account 32 = .ok (.aload_n 0, 1) := by decide +kernel
theorem dX11_account_33 : decode cX11_account 33 = .ok (.dup, 1) := by decide +kernel
theorem dX11_account_34 : decode cX11_account 34 = .ok (.getfield 117, 3) := by decide +kernel
theorem dX11_account_37 : decode cX11_account 37 = .ok (.iconst 1, 1) := by decide +kernel
theorem dX11_account_38 : decode cX11_account 38 = .ok (.iadd, 1) := by decide +kernel
theorem dX11_account_39 : decode cX11_account 39 = .ok (.putfield 117, 3) := by decide +kernel
theorem dX11_account_42 : decode cX11_account 42 = .ok (.aload_n 0, 1) := by decide +kernel
theorem dX11_account_43 : decode cX11_account 43 = .ok (.getfield 117, 3) := by decide +kernel
theorem dX11_account_46 : decode cX11_account 46 = .ok (.iconst 1, 1) := by decide +kernel
theorem dX11_account_47 : decode cX11_account 47 = .ok (.isub, 1) := by decide +kernel
theorem dX11_account_48 : decode cX11_account 48 = .ok (.ireturn, 1) := by decide +kernel
theorem dX11_accounts_0 : decode cX11_accounts 0 = .ok (.iload_n 1, 1) := by decide +kernel
theorem dX11_accounts_1 : decode cX11_accounts 1 = .ok (.invokestatic 124, 3) := by decide +kernel
theorem dX11_accounts_4 : decode cX11_accounts 4 = .ok (.ifCond .eq 15, 3) := by decide +kernel
theorem dX11_accounts_7 : decode cX11_accounts 7 = .ok (.iload_n 3, 1) := by decide +kernel
theorem dX11_accounts_8 : decode cX11_accounts 8 = .ok (.i2l, 1) := by decide +kernel
theorem dX11_accounts_9 : decode cX11_accounts 9 = .ok (.lconst 1, 1) := by decide +kernel
theorem dX11_accounts_10 : decode cX11_accounts 10 = .ok (.ldc2_w 115, 3) := by decide +kernel
theorem dX11_accounts_13 : decode cX11_accounts 13 = .ok (.invokestatic 111, 3) := by decide +kernel
theorem dX11_accounts_16 : decode cX11_accounts 16 = .ok (.ifCond .ne 5, 3) := by decide +kernel
theorem dX11_accounts_19 : decode cX11_accounts 19 = .ok (.iconst (-1), 1) := by decide +kernel
theorem dX11_accounts_20 : decode cX11_accounts 20 = .ok (.ireturn, 1) := by decide +kernel
theorem dX11_accounts_21 : decode cX11_accounts 21 = .ok (.aload_n 0, 1) := by decide +kernel
theorem dX11_accounts_22 : decode cX11_accounts 22 = .ok (.getfield 82, 3) := by decide +kernel
theorem dX11_accounts_25 : decode cX11_accounts 25 = .ok (.iload_n 1, 1) := by decide +kernel
theorem dX11_accounts_26 : decode cX11_accounts 26 = .ok (.iaload, 1) := by decide +kernel
theorem dX11_accounts_27 : decode cX11_accounts 27 = .ok (.ifCond .lt 17, 3) := by decide +kernel
theorem dX11_accounts_30 : decode cX11_accounts 30 = .ok (.aload_n 0, 1) := by decide +kernel
theorem dX11_accounts_31 : decode cX11_accounts 31 = .ok (.getfield 82, 3) := by decide +kernel
theorem dX11_accounts_34 : decode cX11_accounts 34 = .ok (.iload_n 1, 1) := by decide +kernel
theorem dX11_accounts_35 : decode cX11_accounts 35 = .ok (.iaload, 1) := by decide +kernel
theorem dX11_accounts_36 : decode cX11_accounts 36 = .ok (.bipush 50, 2) := by decide +kernel
theorem dX11_accounts_38 : decode cX11_accounts 38 = .ok (.if_icmp .eq 6, 3) := by decide +kernel
theorem dX11_accounts_41 : decode cX11_accounts 41 = .ok (.bipush (-12), 2) := by decide +kernel
theorem dX11_accounts_43 : decode cX11_accounts 43 = .ok (.ireturn, 1) := by decide +kernel
theorem dX11_accounts_44 : decode cX11_accounts 44 = .ok (.iconst 0, 1) := by decide +kernel
theorem dX11_accounts_45 : decode cX11_accounts 45 = .ok (.istore 4, 2) := by decide +kernel
theorem dX11_accounts_47 : decode cX11_accounts 47 = .ok (.aload_n 0, 1) := by decide +kernel
theorem dX11_accounts_48 : decode cX11_accounts 48 = .ok (.getfield 82, 3) := by decide +kernel
theorem dX11_accounts_51 : decode cX11_accounts 51 = .ok (.iload_n 1, 1) := by decide +kernel
theorem dX11_accounts_52 : decode cX11_accounts 52 = .ok (.iaload, 1) := by decide +kernel
theorem dX11_accounts_53 : decode cX11_accounts 53 = .ok (.bipush 50, 2) := by decide +kernel
theorem dX11_accounts_55 : decode cX11_accounts 55 = .ok (.if_icmp .ne 11, 3) := by decide +kernel
theorem dX11_accounts_58 : decode cX11_accounts 58 = .ok (.iload_n 2, 1) := by decide +kernel
theorem dX11_accounts_59 : decode cX11_accounts 59 = .ok (.ifCond .lt 7, 3) := by decide +kernel
theorem dX11_accounts_62 : decode cX11_accounts 62 = .ok (.iconst 1, 1) := by decide +kernel
theorem dX11_accounts_63 : decode cX11_accounts 63 = .ok (.goto 4, 3) := by decide +kernel
theorem dX11_accounts_66 : decode cX11_accounts 66 = .ok (.iconst 0, 1) := by decide +kernel
theorem dX11_accounts_67 : decode cX11_accounts 67 = .ok (.istore 5, 2) := by decide +kernel
theorem dX11_accounts_69 : decode cX11_accounts 69 = .ok (.iload 5, 2) := by decide +kernel
theorem dX11_accounts_71 : decode cX11_accounts 71 = .ok (.ifCond .eq 105, 3) := by decide +kernel
theorem dX11_accounts_74 : decode cX11_accounts 74 = .ok (.iload 4, 2) := by decide +kernel
theorem dX11_accounts_76 : decode cX11_accounts 76 = .ok (.iload_n 3, 1) := by decide +kernel
theorem dX11_accounts_77 : decode cX11_accounts 77 = .ok (.if_icmp .ge 99, 3) := by decide +kernel
theorem dX11_accounts_80 : decode cX11_accounts 80 = .ok (.iload_n 2, 1) := by decide +kernel
theorem dX11_accounts_81 : decode cX11_accounts 81 = .ok (.aload_n 0, 1) := by decide +kernel
theorem dX11_accounts_82 : decode cX11_accounts 82 = .ok (.getfield 85, 3) := by decide +kernel
theorem dX11_accounts_85 : decode cX11_accounts 85 = .ok (.iload_n 1, 1) := by decide +kernel
theorem dX11_accounts_86 : decode cX11_accounts 86 = .ok (.iaload, 1) := by decide +kernel
theorem dX11_accounts_87 : decode cX11_accounts 87 = .ok (.iconst 1, 1) := by decide +kernel
theorem dX11_accounts_88 : decode cX11_accounts 88 = .ok (.isub, 1) := by decide +kernel
theorem dX11_accounts_89 : decode cX11_accounts 89 = .ok (.iload 4, 2) := by decide +kernel
theorem dX11_accounts_91 : decode cX11_accounts 91 = .ok (.isub, 1) := by decide +kernel
theorem dX11_accounts_92 : decode cX11_accounts 92 = .ok (.if_icmp .gt 36, 3) := by decide +kernel
theorem dX11_accounts_95 : decode cX11_accounts 95 = .ok (.aload_n 0, 1) := by decide +kernel
theorem dX11_accounts_96 : decode cX11_accounts 96 = .ok (.getfield 117, 3) := by decide +kernel
theorem dX11_accounts_99 : decode cX11_accounts 99 = .ok (.bipush 6, 2) := by decide +kernel
theorem dX11_accounts_101 : decode cX11_accounts 101 = .ok (.if_icmp .ge 27, 3) := by decide +kernel
theorem dX11_accounts_104 : decode cX11_accounts 104 = .ok (.aload_n 0, 1) := by decide +kernel
theorem dX11_accounts_105 : decode cX11_accounts 105 = .ok (.getfield 88, 3) := by decide +kernel
theorem dX11_accounts_108 : decode cX11_accounts 108 = .ok (.bipush 60, 2) := by decide +kernel
theorem dX11_accounts_110 : decode cX11_accounts 110 = .ok (.iload_n 1, 1) := by decide +kernel
theorem dX11_accounts_111 : decode cX11_accounts 111 = .ok (.imul, 1) := by decide +kernel
theorem dX11_accounts_112 : decode cX11_accounts 112 = .ok (.iload_n 2, 1) := by decide +kernel
theorem dX11_accounts_113 : decode cX11_accounts 113 = .ok (.iadd, 1) := by decide +kernel
theorem dX11_accounts_114 : decode cX11_accounts 114 = .ok (.iload 4, 2) := by decide +kernel
theorem dX11_accounts_116 : decode cX11_accounts 116 = .ok (.iadd, 1) := by decide +kernel
theorem dX11_accounts_117 : decode cX11_accounts 117 = .ok (.laload, 1) := by decide +kernel
theorem dX11_accounts_118 : decode cX11_accounts 118 = .ok (.invokestatic 120, 3) := by decide +kernel
theorem dX11_accounts_121 : decode cX11_accounts 121 = .ok (.ifCond .eq 7, 3) := by decide +kernel
theorem dX11_accounts_124 : decode cX11_accounts 124 = .ok (.iconst 1, 1) := by decide +kernel
theorem dX11_accounts_125 : decode cX11_accounts 125 = .ok (.goto 4, 3) := by decide +kernel
theorem dX11_accounts_128 : decode cX11_accounts 128 = .ok (.iconst 0, 1) := by decide +kernel
theorem dX11_accounts_129 : decode cX11_accounts 129 = .ok (.istore 5, 2) := by decide +kernel
theorem dX11_accounts_131 : decode cX11_accounts 131 = .ok (.iload 5, 2) := by decide +kernel
theorem dX11_accounts_133 : decode cX11_accounts 133 = .ok (.ifCond .eq (-64), 3) := by decide +kernel
theorem dX11_accounts_136 : decode cX11_accounts 136 = .ok (.aload_n 0, 1) := by decide +kernel
theorem dX11_accounts_137 : decode cX11_accounts 137 = .ok (.getfield 11, 3) := by decide +kernel
theorem dX11_accounts_140 : decode cX11_accounts 140 = .ok (.aload_n 0, 1) := by decide +kernel
theorem dX11_accounts_141 : decode cX11_accounts 141 = .ok (.getfield 117, 3) := by decide +kernel
theorem dX11_accounts_144 : decode cX11_accounts 144 = .ok (.aload_n 0, 1) := by decide +kernel
theorem dX11_accounts_145 : decode cX11_accounts 145 = .ok (.getfield 88, 3) := by decide +kernel
theorem dX11_accounts_148 : decode cX11_accounts 148 = .ok (.bipush 60, 2) := by decide +kernel
theorem dX11_accounts_150 : decode cX11_accounts 150 = .ok (.iload_n 1, 1) := by decide +kernel
theorem dX11_accounts_151 : decode cX11_accounts 151 = .ok (.imul, 1) := by decide +kernel
theorem dX11_accounts_152 : decode cX11_accounts 152 = .ok (.iload_n 2, 1) := by decide +kernel
theorem dX11_accounts_153 : decode cX11_accounts 153 = .ok (.iadd, 1) := by decide +kernel
theorem dX11_accounts_154 : decode cX11_accounts 154 = .ok (.iload 4, 2) := by decide +kernel
theorem dX11_accounts_156 : decode cX11_accounts 156 = .ok (.iadd, 1) := by decide +kernel
theorem dX11_accounts_157 : decode cX11_accounts 157 = .ok (.laload, 1) := by decide +kernel
theorem dX11_accounts_158 : decode cX11_accounts 158 = .ok (.l2i, 1) := by decide +kernel
theorem dX11_accounts_159 : decode cX11_accounts 159 = .ok (.iastore, 1) := by decide +kernel
theorem dX11_accounts_160 : decode cX11_accounts 160 = .ok (.aload_n 0, 1) := by decide +kernel
theorem dX11_accounts_161 : decode cX11_accounts 161 = .ok (.dup, 1) := by decide +kernel
theorem dX11_accounts_162 : decode cX11_accounts 162 = .ok (.getfield 117, 3) := by decide +kernel
theorem dX11_accounts_165 : decode cX11_accounts 165 = .ok (.iconst 1, 1) := by decide +kernel
theorem dX11_accounts_166 : decode cX11_accounts 166 = .ok (.iadd, 1) := by decide +kernel
theorem dX11_accounts_167 : decode cX11_accounts 167 = .ok (.putfield 117, 3) := by decide +kernel
theorem dX11_accounts_170 : decode cX11_accounts 170 = .ok (.iinc 4 1, 3) := by decide +kernel
theorem dX11_accounts_173 : decode cX11_accounts 173 = .ok (.goto (-104), 3) := by decide +kernel
theorem dX11_accounts_176 : decode cX11_accounts 176 = .ok (.iload 4, 2) := by decide +kernel
theorem dX11_accounts_178 : decode cX11_accounts 178 = .ok (.ireturn, 1) := by decide +kernel
theorem dX11_placeOf_0 : decode cX11_placeOf 0 = .ok (.iload_n 2, 1) := by decide +kernel
theorem dX11_placeOf_1 : decode cX11_placeOf 1 = .ok (.ifCond .ne 18, 3) := by decide +kernel
theorem dX11_placeOf_4 : decode cX11_placeOf 4 = .ok (.aload_n 0, 1) := by decide +kernel
theorem dX11_placeOf_5 : decode cX11_placeOf 5 = .ok (.iload_n 1, 1) := by decide +kernel
theorem dX11_placeOf_6 : decode cX11_placeOf 6 = .ok (.i2l, 1) := by decide +kernel
theorem dX11_placeOf_7 : decode cX11_placeOf 7 = .ok (.invokevirtual 128, 3) := by decide +kernel
theorem dX11_placeOf_10 : decode cX11_placeOf 10 = .ok (.ifCond .eq 7, 3) := by decide +kernel
theorem dX11_placeOf_13 : decode cX11_placeOf 13 = .ok (.iload_n 1, 1) := by decide +kernel
theorem dX11_placeOf_14 : decode cX11_placeOf 14 = .ok (.goto 4, 3) := by decide +kernel
theorem dX11_placeOf_17 : decode cX11_placeOf 17 = .ok (.iconst (-1), 1) := by decide +kernel
theorem dX11_placeOf_18 : decode cX11_placeOf 18 = .ok (.ireturn, 1) := by decide +kernel
theorem dX11_placeOf_19 : decode cX11_placeOf 19 = .ok (.iload_n 1, 1) := by decide +kernel
theorem dX11_placeOf_20 : decode cX11_placeOf 20 = .ok (.ifCond .ne 24, 3) := by decide +kernel
theorem dX11_placeOf_23 : decode cX11_placeOf 23 = .ok (.iload_n 2, 1) := by decide +kernel
theorem dX11_placeOf_24 : decode cX11_placeOf 24 = .ok (.i2l, 1) := by decide +kernel
theorem dX11_placeOf_25 : decode cX11_placeOf 25 = .ok (.lconst 1, 1) := by decide +kernel
theorem dX11_placeOf_26 : decode cX11_placeOf 26 = .ok (.ldc2_w 131, 3) := by decide +kernel
theorem dX11_placeOf_29 : decode cX11_placeOf 29 = .ok (.invokestatic 111, 3) := by decide +kernel
theorem dX11_placeOf_32 : decode cX11_placeOf 32 = .ok (.ifCond .eq 12, 3) := by decide +kernel
theorem dX11_placeOf_35 : decode cX11_placeOf 35 = .ok (.bipush 6, 2) := by decide +kernel
theorem dX11_placeOf_37 : decode cX11_placeOf 37 = .ok (.iload_n 2, 1) := by decide +kernel
theorem dX11_placeOf_38 : decode cX11_placeOf 38 = .ok (.iadd, 1) := by decide +kernel
theorem dX11_placeOf_39 : decode cX11_placeOf 39 = .ok (.iconst 1, 1) := by decide +kernel
theorem dX11_placeOf_40 : decode cX11_placeOf 40 = .ok (.isub, 1) := by decide +kernel
theorem dX11_placeOf_41 : decode cX11_placeOf 41 = .ok (.goto 4, 3) := by decide +kernel
theorem dX11_placeOf_44 : decode cX11_placeOf 44 = .ok (.iconst (-1), 1) := by decide +kernel
theorem dX11_placeOf_45 : decode cX11_placeOf 45 = .ok (.ireturn, 1) := by decide +kernel
theorem dX11_mend_0 : decode cX11_mend 0 = .ok (.aload_n 0, 1) := by decide +kernel
theorem dX11_mend_1 : decode cX11_mend 1 = .ok (.iload_n 1, 1) := by decide +kernel
theorem dX11_mend_2 : decode cX11_mend 2 = .ok (.iload_n 2, 1) := by decide +kernel
theorem dX11_mend_3 : decode cX11_mend 3 = .ok (.invokevirtual 133, 3) := by decide +kernel
theorem dX11_mend_6 : decode cX11_mend 6 = .ok (.istore 4, 2) := by decide +kernel
theorem dX11_mend_8 : decode cX11_mend 8 = .ok (.iload_n 2, 1) := by decide +kernel
theorem dX11_mend_9 : decode cX11_mend 9 = .ok (.ifCond .ne 8, 3) := by decide +kernel
theorem dX11_mend_12 : decode cX11_mend 12 = .ok (.bipush 48, 2) := by decide +kernel
theorem dX11_mend_14 : decode cX11_mend 14 = .ok (.goto 15, 3) := by decide +kernel
theorem dX11_mend_17 : decode cX11_mend 17 = .ok (.iload_n 2, 1) := by decide +kernel
theorem dX11_mend_18 : decode cX11_mend 18 = .ok (.iconst 1, 1) := by decide +kernel
theorem dX11_mend_19 : decode cX11_mend 19 = .ok (.if_icmp .ne 8, 3) := by decide +kernel
theorem dX11_mend_22 : decode cX11_mend 22 = .ok (.bipush 12, 2) := by decide +kernel
theorem dX11_mend_24 : decode cX11_mend 24 = .ok (.goto 5, 3) := by decide +kernel
theorem dX11_mend_27 : decode cX11_mend 27 = .ok (.bipush 6, 2) := by decide +kernel
theorem dX11_mend_29 : decode cX11_mend 29 = .ok (.istore 5, 2) := by decide +kernel
theorem dX11_mend_31 : decode cX11_mend 31 = .ok (.iload 4, 2) := by decide +kernel
theorem dX11_mend_33 : decode cX11_mend 33 = .ok (.ifCond .lt 25, 3) := by decide +kernel
theorem dX11_mend_36 : decode cX11_mend 36 = .ok (.iload_n 3, 1) := by decide +kernel
theorem dX11_mend_37 : decode cX11_mend 37 = .ok (.i2l, 1) := by decide +kernel
theorem dX11_mend_38 : decode cX11_mend 38 = .ok (.lconst 0, 1) := by decide +kernel
theorem dX11_mend_39 : decode cX11_mend 39 = .ok (.iload 5, 2) := by decide +kernel
theorem dX11_mend_41 : decode cX11_mend 41 = .ok (.i2l, 1) := by decide +kernel
theorem dX11_mend_42 : decode cX11_mend 42 = .ok (.invokestatic 111, 3) := by decide +kernel
theorem dX11_mend_45 : decode cX11_mend 45 = .ok (.ifCond .eq 13, 3) := by decide +kernel
theorem dX11_mend_48 : decode cX11_mend 48 = .ok (.aload_n 0, 1) := by decide +kernel
theorem dX11_mend_49 : decode cX11_mend 49 = .ok (.iload 4, 2) := by decide +kernel
theorem dX11_mend_51 : decode cX11_mend 51 = .ok (.iload_n 3, 1) := by decide +kernel
theorem dX11_mend_52 : decode cX11_mend 52 = .ok (.invokevirtual 137, 3) := by decide +kernel
theorem dX11_mend_55 : decode cX11_mend 55 = .ok (.goto 4, 3) := by decide +kernel
theorem dX11_mend_58 : decode cX11_mend 58 = .ok (.iconst (-1), 1) := by decide +kernel
theorem dX11_mend_59 : decode cX11_mend 59 = .ok (.ireturn, 1) := by decide +kernel
theorem dX11_of_0 : decode cX11_of 0 = .ok (.aload_n 0, 1) := by decide +kernel
theorem dX11_of_1 : decode cX11_of 1 = .ok (.iload_n 1, 1) := by decide +kernel
theorem dX11_of_2 : decode cX11_of 2 = .ok (.iload_n 2, 1) := by decide +kernel
theorem dX11_of_3 : decode cX11_of 3 = .ok (.invokevirtual 133, 3) := by decide +kernel
theorem dX11_of_6 : decode cX11_of 6 = .ok (.istore_n 3, 1) := by decide +kernel
theorem dX11_of_7 : decode cX11_of 7 = .ok (.iload_n 3, 1) := by decide +kernel
theorem dX11_of_8 : decode cX11_of 8 = .ok (.ifCond .lt 10, 3) := by decide +kernel
theorem dX11_of_11 : decode cX11_of 11 = .ok (.aload_n 0, 1) := by decide +kernel
theorem dX11_of_12 : decode cX11_of 12 = .ok (.getfield 11, 3) := by decide +kernel
theorem dX11_of_15 : decode cX11_of 15 = .ok (.iload_n 3, 1) := by decide +kernel
theorem dX11_of_16 : decode cX11_of 16 = .ok (.iaload, 1) := by decide +kernel
theorem dX11_of_17 : decode cX11_of 17 = .ok (.ireturn, 1) := by decide +kernel
theorem dX11_of_18 : decode cX11_of 18 = .ok (.aload_n 0, 1) := by decide +kernel
theorem dX11_of_19 : decode cX11_of 19 = .ok (.invokevirtual 140, 3) := by decide +kernel
theorem dX11_of_22 : decode cX11_of 22 = .ok (.iload_n 2, 1) := by decide +kernel
theorem dX11_of_23 : decode cX11_of 23 = .ok (.iconst 3, 1) := by decide +kernel
theorem dX11_of_24 : decode cX11_of 24 = .ok (.if_icmp .ne 20, 3) := by decide +kernel
theorem dX11_of_27 : decode cX11_of 27 = .ok (.aload_n 0, 1) := by decide +kernel
theorem dX11_of_28 : decode cX11_of 28 = .ok (.iload_n 1, 1) := by decide +kernel
theorem dX11_of_29 : decode cX11_of 29 = .ok (.i2l, 1) := by decide +kernel
theorem dX11_of_30 : decode cX11_of 30 = .ok (.invokevirtual 128, 3) := by decide +kernel
theorem dX11_of_33 : decode cX11_of 33 = .ok (.ifCond .eq 11, 3) := by decide +kernel
theorem dX11_of_36 : decode cX11_of 36 = .ok (.aload_n 0, 1) := by decide +kernel
theorem dX11_of_37 : decode cX11_of 37 = .ok (.iload_n 1, 1) := by decide +kernel
theorem dX11_of_38 : decode cX11_of 38 = .ok (.invokevirtual 143, 3) := by decide +kernel
theorem dX11_of_41 : decode cX11_of 41 = .ok (.goto 4, 3) := by decide +kernel
theorem dX11_of_44 : decode cX11_of 44 = .ok (.iconst (-1), 1) := by decide +kernel
theorem dX11_of_45 : decode cX11_of 45 = .ok (.ireturn, 1) := by decide +kernel
theorem dX11_begins1_0 : decode cX11_begins1 0 = .ok (.iconst 0, 1) := by decide +kernel
theorem dX11_begins1_1 : decode cX11_begins1 1 = .ok (.istore_n 1, 1) := by decide +kernel
theorem dX11_begins1_2 : decode cX11_begins1 2 = .ok (.iload_n 1, 1) := by decide +kernel
theorem dX11_begins1_3 : decode cX11_begins1 3 = .ok (.bipush 49, 2) := by decide +kernel
theorem dX11_begins1_5 : decode cX11_begins1 5 = .ok (.if_icmp .ge 33, 3) := by decide +kernel
theorem dX11_begins1_8 : decode cX11_begins1 8 = .ok (.aload_n 0, 1) := by decide +kernel
theorem dX11_begins1_9 : decode cX11_begins1 9 = .ok (.getfield 33, 3) := by decide +kernel
theorem dX11_begins1_12 : decode cX11_begins1 12 = .ok (.iload_n 1, 1) := by decide +kernel
theorem dX11_begins1_13 : decode cX11_begins1 13 = .ok (.aload_n 0, 1) := by decide +kernel
theorem dX11_begins1_14 : decode cX11_begins1 14 = .ok (.getfield 27, 3) := by decide +kernel
theorem dX11_begins1_17 : decode cX11_begins1 17 = .ok (.iload_n 1, 1) := by decide +kernel
theorem dX11_begins1_18 : decode cX11_begins1 18 = .ok (.iaload, 1) := by decide +kernel
theorem dX11_begins1_19 : decode cX11_begins1 19 = .ok (.iastore, 1) := by decide +kernel
theorem dX11_begins1_20 : decode cX11_begins1 20 = .ok (.aload_n 0, 1) := by decide +kernel
theorem dX11_begins1_21 : decode cX11_begins1 21 = .ok (.getfield 36, 3) := by decide +kernel
theorem dX11_begins1_24 : decode cX11_begins1 24 = .ok (.iload_n 1, 1) := by decide +kernel
theorem dX11_begins1_25 : decode cX11_begins1 25 = .ok (.aload_n 0, 1) := by decide +kernel
theorem dX11_begins1_26 : decode cX11_begins1 26 = .ok (.getfield 30, 3) := by decide +kernel
theorem dX11_begins1_29 : decode cX11_begins1 29 = .ok (.iload_n 1, 1) := by decide +kernel
theorem dX11_begins1_30 : decode cX11_begins1 30 = .ok (.iaload, 1) := by decide +kernel
theorem dX11_begins1_31 : decode cX11_begins1 31 = .ok (.iastore, 1) := by decide +kernel
theorem dX11_begins1_32 : decode cX11_begins1 32 = .ok (.iinc 1 1, 3) := by decide +kernel
theorem dX11_begins1_35 : decode cX11_begins1 35 = .ok (.goto (-33), 3) := by decide +kernel
theorem dX11_begins1_38 : decode cX11_begins1 38 = .ok (.return_, 1) := by decide +kernel
theorem dX11_lays_0 : decode cX11_lays 0 = .ok (.iconst 0, 1) := by decide +kernel
theorem dX11_lays_1 : decode cX11_lays 1 = .ok (.istore_n 1, 1) := by decide +kernel
theorem dX11_lays_2 : decode cX11_lays 2 = .ok (.iload_n 1, 1) := by decide +kernel
theorem dX11_lays_3 : decode cX11_lays 3 = .ok (.bipush 49, 2) := by decide +kernel
theorem dX11_lays_5 : decode cX11_lays 5 = .ok (.if_icmp .ge 33, 3) := by decide +kernel
theorem dX11_lays_8 : decode cX11_lays 8 = .ok (.aload_n 0, 1) := by decide +kernel
theorem dX11_lays_9 : decode cX11_lays 9 = .ok (.getfield 27, 3) := by decide +kernel
theorem dX11_lays_12 : decode cX11_lays 12 = .ok (.iload_n 1, 1) := by decide +kernel
theorem dX11_lays_13 : decode cX11_lays 13 = .ok (.aload_n 0, 1) := by decide +kernel
theorem dX11_lays_14 : decode cX11_lays 14 = .ok (.getfield 33, 3) := by decide +kernel
theorem dX11_lays_17 : decode cX11_lays 17 = .ok (.iload_n 1, 1) := by decide +kernel
theorem dX11_lays_18 : decode cX11_lays 18 = .ok (.iaload, 1) := by decide +kernel
theorem dX11_lays_19 : decode cX11_lays 19 = .ok (.iastore, 1) := by decide +kernel
theorem dX11_lays_20 : decode cX11_lays 20 = .ok (.aload_n 0, 1) := by decide +kernel
theorem dX11_lays_21 : decode cX11_lays 21 = .ok (.getfield 30, 3) := by decide +kernel
theorem dX11_lays_24 : decode cX11_lays 24 = .ok (.iload_n 1, 1) := by decide +kernel
theorem dX11_lays_25 : decode cX11_lays 25 = .ok (.aload_n 0, 1) := by decide +kernel
theorem dX11_lays_26 : decode cX11_lays 26 = .ok (.getfield 36, 3) := by decide +kernel
theorem dX11_lays_29 : decode cX11_lays 29 = .ok (.iload_n 1, 1) := by decide +kernel
theorem dX11_lays_30 : decode cX11_lays 30 = .ok (.iaload, 1) := by decide +kernel
theorem dX11_lays_31 : decode cX11_lays 31 = .ok (.iastore, 1) := by decide +kernel
theorem dX11_lays_32 : decode cX11_lays 32 = .ok (.iinc 1 1, 3) := by decide +kernel
theorem dX11_lays_35 : decode cX11_lays 35 = .ok (.goto (-33), 3) := by decide +kernel
theorem dX11_lays_38 : decode cX11_lays 38 = .ok (.return_, 1) := by decide +kernel
theorem dX11_holds_0 : decode cX11_holds 0 = .ok (.aload_n 0, 1) := by decide +kernel
theorem dX11_holds_1 : decode cX11_holds 1 = .ok (.getfield 33, 3) := by decide +kernel
theorem dX11_holds_4 : decode cX11_holds 4 = .ok (.iload_n 1, 1) := by decide +kernel
theorem dX11_holds_5 : decode cX11_holds 5 = .ok (.iaload, 1) := by decide +kernel
theorem dX11_holds_6 : decode cX11_holds 6 = .ok (.ifCond .lt 7, 3) := by decide +kernel
theorem dX11_holds_9 : decode cX11_holds 9 = .ok (.iconst 1, 1) := by decide +kernel
theorem dX11_holds_10 : decode cX11_holds 10 = .ok (.goto 4, 3) := by decide +kernel
theorem dX11_holds_13 : decode cX11_holds 13 = .ok (.iconst 0, 1) := by decide +kernel
theorem dX11_holds_14 : decode cX11_holds 14 = .ok (.ireturn, 1) := by decide +kernel
theorem dX11_isSealed_0 : decode cX11_isSealed 0 = .ok (.aload_n 0, 1) := by decide +kernel
theorem dX11_isSealed_1 : decode cX11_isSealed 1 = .ok (.iload_n 1, 1) := by decide +kernel
theorem dX11_isSealed_2 : decode cX11_isSealed 2 = .ok (.invokevirtual 147, 3) := by decide +kernel
theorem dX11_isSealed_5 : decode cX11_isSealed 5 = .ok (.istore_n 2, 1) := by decide +kernel
theorem dX11_isSealed_6 : decode cX11_isSealed 6 = .ok (.iconst 0, 1) := by decide +kernel
theorem dX11_isSealed_7 : decode cX11_isSealed 7 = .ok (.istore_n 3, 1) := by decide +kernel
theorem dX11_isSealed_8 : decode cX11_isSealed 8 = .ok (.iload_n 3, 1) := by decide +kernel
theorem dX11_isSealed_9 : decode cX11_isSealed 9 = .ok (.bipush 49, 2) := by decide +kernel
theorem dX11_isSealed_11 : decode cX11_isSealed 11 = .ok (.if_icmp .ge 33, 3) := by decide +kernel
theorem dX11_isSealed_14 : decode cX11_isSealed 14 = .ok (.iload_n 2, 1) := by decide +kernel
theorem dX11_isSealed_15 : decode cX11_isSealed 15 = .ok (.iload_n 1, 1) := by decide +kernel
theorem dX11_isSealed_16 : decode cX11_isSealed 16 = .ok (.iload_n 3, 1) := by decide +kernel
theorem dX11_isSealed_17 : decode cX11_isSealed 17 = .ok (.invokestatic 99, 3) := by decide +kernel
theorem dX11_isSealed_20 : decode cX11_isSealed 20 = .ok (.ifCond .eq 11, 3) := by decide +kernel
theorem dX11_isSealed_23 : decode cX11_isSealed 23 = .ok (.aload_n 0, 1) := by decide +kernel
theorem dX11_isSealed_24 : decode cX11_isSealed 24 = .ok (.iload_n 3, 1) := by decide +kernel
theorem dX11_isSealed_25 : decode cX11_isSealed 25 = .ok (.invokevirtual 147, 3) := by decide +kernel
theorem dX11_isSealed_28 : decode cX11_isSealed 28 = .ok (.ifCond .eq 7, 3) := by decide +kernel
theorem dX11_isSealed_31 : decode cX11_isSealed 31 = .ok (.iconst 1, 1) := by decide +kernel
theorem dX11_isSealed_32 : decode cX11_isSealed 32 = .ok (.goto 4, 3) := by decide +kernel
theorem dX11_isSealed_35 : decode cX11_isSealed 35 = .ok (.iconst 0, 1) := by decide +kernel
theorem dX11_isSealed_36 : decode cX11_isSealed 36 = .ok (.iand, 1) := by decide +kernel
theorem dX11_isSealed_37 : decode cX11_isSealed 37 = .ok (.istore_n 2, 1) := by decide +kernel
theorem dX11_isSealed_38 : decode cX11_isSealed 38 = .ok (.iinc 3 1, 3) := by decide +kernel
theorem dX11_isSealed_41 : decode cX11_isSealed 41 = .ok (.goto (-33), 3) := by decide +kernel
theorem dX11_isSealed_44 : decode cX11_isSealed 44 = .ok (.iload_n 2, 1) := by decide +kernel
theorem dX11_isSealed_45 : decode cX11_isSealed 45 = .ok (.ireturn, 1) := by decide +kernel
theorem dX11_balanceOf_0 : decode cX11_balanceOf 0 = .ok (.iconst 0, 1) := by decide +kernel
theorem dX11_balanceOf_1 : decode cX11_balanceOf 1 = .ok (.istore_n 2, 1) := by decide +kernel
theorem dX11_balanceOf_2 : decode cX11_balanceOf 2 = .ok (.iconst 0, 1) := by decide +kernel
theorem dX11_balanceOf_3 : decode cX11_balanceOf 3 = .ok (.istore_n 3, 1) := by decide +kernel
theorem dX11_balanceOf_4 : decode cX11_balanceOf 4 = .ok (.iload_n 3, 1) := by decide +kernel
theorem dX11_balanceOf_5 : decode cX11_balanceOf 5 = .ok (.bipush 49, 2) := by decide +kernel
theorem dX11_balanceOf_7 : decode cX11_balanceOf 7 = .ok (.if_icmp .ge 32, 3) := by decide +kernel
theorem dX11_balanceOf_10 : decode cX11_balanceOf 10 = .ok (.iload_n 2, 1) := by decide +kernel
theorem dX11_balanceOf_11 : decode cX11_balanceOf 11 = .ok (.aload_n 0, 1) := by decide +kernel
theorem dX11_balanceOf_12 : decode cX11_balanceOf 12 = .ok (.getfield 33, 3) := by decide +kernel
theorem dX11_balanceOf_15 : decode cX11_balanceOf 15 = .ok (.iload_n 3, 1) := by decide +kernel
theorem dX11_balanceOf_16 : decode cX11_balanceOf 16 = .ok (.iaload, 1) := by decide +kernel
theorem dX11_balanceOf_17 : decode cX11_balanceOf 17 = .ok (.iload_n 1, 1) := by decide +kernel
theorem dX11_balanceOf_18 : decode cX11_balanceOf 18 = .ok (.if_icmp .ne 12, 3) := by decide +kernel
theorem dX11_balanceOf_21 : decode cX11_balanceOf 21 = .ok (.aload_n 0, 1) := by decide +kernel
theorem dX11_balanceOf_22 : decode cX11_balanceOf 22 = .ok (.getfield 36, 3) := by decide +kernel
theorem dX11_balanceOf_25 : decode cX11_balanceOf 25 = .ok (.iload_n 3, 1) := by decide +kernel
theorem dX11_balanceOf_26 : decode cX11_balanceOf 26 = .ok (.iaload, 1) := by decide +kernel
theorem dX11_balanceOf_27 : decode cX11_balanceOf 27 = .ok (.goto 4, 3) := by decide +kernel
theorem dX11_balanceOf_30 : decode cX11_balanceOf 30 = .ok (.iconst 0, 1) := by decide +kernel
theorem dX11_balanceOf_31 : decode cX11_balanceOf 31 = .ok (.iadd, 1) := by decide +kernel
theorem dX11_balanceOf_32 : decode cX11_balanceOf 32 = .ok (.istore_n 2, 1) := by decide +kernel
theorem dX11_balanceOf_33 : decode cX11_balanceOf 33 = .ok (.iinc 3 1, 3) := by decide +kernel
theorem dX11_balanceOf_36 : decode cX11_balanceOf 36 = .ok (.goto (-32), 3) := by decide +kernel
theorem dX11_balanceOf_39 : decode cX11_balanceOf 39 = .ok (.iload_n 2, 1) := by decide +kernel
theorem dX11_balanceOf_40 : decode cX11_balanceOf 40 = .ok (.ireturn, 1) := by decide +kernel
theorem dX11_cell_0 : decode cX11_cell 0 = .ok (.iload_n 1, 1) := by decide +kernel
theorem dX11_cell_1 : decode cX11_cell 1 = .ok (.i2l, 1) := by decide +kernel
theorem dX11_cell_2 : decode cX11_cell 2 = .ok (.invokestatic 120, 3) := by decide +kernel
theorem dX11_cell_5 : decode cX11_cell 5 = .ok (.ifCond .eq 15, 3) := by decide +kernel
theorem dX11_cell_8 : decode cX11_cell 8 = .ok (.iload_n 2, 1) := by decide +kernel
theorem dX11_cell_9 : decode cX11_cell 9 = .ok (.i2l, 1) := by decide +kernel
theorem dX11_cell_10 : decode cX11_cell 10 = .ok (.lconst 0, 1) := by decide +kernel
theorem dX11_cell_11 : decode cX11_cell 11 = .ok (.ldc2_w 150, 3) := by decide +kernel
theorem dX11_cell_14 : decode cX11_cell 14 = .ok (.invokestatic 111, 3) := by decide +kernel
theorem dX11_cell_17 : decode cX11_cell 17 = .ok (.ifCond .ne 5, 3) := by decide +kernel
theorem dX11_cell_20 : decode cX11_cell 20 = .ok (.iconst (-1), 1) := by decide +kernel
theorem dX11_cell_21 : decode cX11_cell 21 = .ok (.ireturn, 1) := by decide +kernel
theorem dX11_cell_22 : decode cX11_cell 22 = .ok (.aload_n 0, 1) := by decide +kernel
theorem dX11_cell_23 : decode cX11_cell 23 = .ok (.invokevirtual 140, 3) := by decide +kernel
theorem dX11_cell_26 : decode cX11_cell 26 = .ok (.iload_n 2, 1) := by decide +kernel
theorem dX11_cell_27 : decode cX11_cell 27 = .ok (.iconst 3, 1) := by decide +kernel
theorem dX11_cell_28 : decode cX11_cell 28 = .ok (.if_icmp .ge 57, 3) := by decide +kernel
theorem dX11_cell_31 : decode cX11_cell 31 = .ok (.iload_n 2, 1) := by decide +kernel
theorem dX11_cell_32 : decode cX11_cell 32 = .ok (.ifCond .ne 25, 3) := by decide +kernel
theorem dX11_cell_35 : decode cX11_cell 35 = .ok (.aload_n 0, 1) := by decide +kernel
theorem dX11_cell_36 : decode cX11_cell 36 = .ok (.iload_n 1, 1) := by decide +kernel
theorem dX11_cell_37 : decode cX11_cell 37 = .ok (.invokevirtual 147, 3) := by decide +kernel
theorem dX11_cell_40 : decode cX11_cell 40 = .ok (.ifCond .eq 12, 3) := by decide +kernel
theorem dX11_cell_43 : decode cX11_cell 43 = .ok (.aload_n 0, 1) := by decide +kernel
theorem dX11_cell_44 : decode cX11_cell 44 = .ok (.getfield 33, 3) := by decide +kernel
theorem dX11_cell_47 : decode cX11_cell 47 = .ok (.iload_n 1, 1) := by decide +kernel
theorem dX11_cell_48 : decode cX11_cell 48 = .ok (.iaload, 1) := by decide +kernel
theorem dX11_cell_49 : decode cX11_cell 49 = .ok (.goto 35, 3) := by decide +kernel
theorem dX11_cell_52 : decode cX11_cell 52 = .ok (.bipush (-2), 2) := by decide +kernel
theorem dX11_cell_54 : decode cX11_cell 54 = .ok (.goto 30, 3) := by decide +kernel
theorem dX11_cell_57 : decode cX11_cell 57 = .ok (.iload_n 2, 1) := by decide +kernel
theorem dX11_cell_58 : decode cX11_cell 58 = .ok (.iconst 1, 1) := by decide +kernel
theorem dX11_cell_59 : decode cX11_cell 59 = .ok (.if_icmp .ne 12, 3) := by decide +kernel
theorem dX11_cell_62 : decode cX11_cell 62 = .ok (.aload_n 0, 1) := by decide +kernel
theorem dX11_cell_63 : decode cX11_cell 63 = .ok (.getfield 36, 3) := by decide +kernel
theorem dX11_cell_66 : decode cX11_cell 66 = .ok (.iload_n 1, 1) := by decide +kernel
theorem dX11_cell_67 : decode cX11_cell 67 = .ok (.iaload, 1) := by decide +kernel
theorem dX11_cell_68 : decode cX11_cell 68 = .ok (.goto 16, 3) := by decide +kernel
theorem dX11_cell_71 : decode cX11_cell 71 = .ok (.aload_n 0, 1) := by decide +kernel
theorem dX11_cell_72 : decode cX11_cell 72 = .ok (.iload_n 1, 1) := by decide +kernel
theorem dX11_cell_73 : decode cX11_cell 73 = .ok (.invokevirtual 152, 3) := by decide +kernel
theorem dX11_cell_76 : decode cX11_cell 76 = .ok (.ifCond .eq 7, 3) := by decide +kernel
theorem dX11_cell_79 : decode cX11_cell 79 = .ok (.iconst 1, 1) := by decide +kernel
theorem dX11_cell_80 : decode cX11_cell 80 = .ok (.goto 4, 3) := by decide +kernel
theorem dX11_cell_83 : decode cX11_cell 83 = .ok (.iconst 0, 1) := by decide +kernel
theorem dX11_cell_84 : decode cX11_cell 84 = .ok (.ireturn, 1) := by decide +kernel
theorem dX11_cell_85 : decode cX11_cell 85 = .ok (.iconst 0, 1) := by decide +kernel
theorem dX11_cell_86 : decode cX11_cell 86 = .ok (.istore_n 3, 1) := by decide +kernel
theorem dX11_cell_87 : decode cX11_cell 87 = .ok (.bipush (-2), 2) := by decide +kernel
theorem dX11_cell_89 : decode cX11_cell 89 = .ok (.istore 4, 2) := by decide +kernel
theorem dX11_cell_91 : decode cX11_cell 91 = .ok (.iconst 0, 1) := by decide +kernel
theorem dX11_cell_92 : decode cX11_cell 92 = .ok (.istore 5, 2) := by decide +kernel
theorem dX11_cell_94 : decode cX11_cell 94 = .ok (.iload 5, 2) := by decide +kernel
theorem dX11_cell_96 : decode cX11_cell 96 = .ok (.bipush 49, 2) := by decide +kernel
theorem dX11_cell_98 : decode cX11_cell 98 = .ok (.if_icmp .ge 37, 3) := by decide +kernel
theorem dX11_cell_101 : decode cX11_cell 101 = .ok (.iload_n 1, 1) := by decide +kernel
theorem dX11_cell_102 : decode cX11_cell 102 = .ok (.iload 5, 2) := by decide +kernel
theorem dX11_cell_104 : decode cX11_cell 104 = .ok (.invokestatic 99, 3) := by decide +kernel
theorem dX11_cell_107 : decode cX11_cell 107 = .ok (.ifCond .eq 22, 3) := by decide +kernel
theorem dX11_cell_110 : decode cX11_cell 110 = .ok (.iload_n 3, 1) := by decide +kernel
theorem dX11_cell_111 : decode cX11_cell 111 = .ok (.iload_n 2, 1) := by decide +kernel
theorem dX11_cell_112 : decode cX11_cell 112 = .ok (.iconst 4, 1) := by decide +kernel
theorem dX11_cell_113 : decode cX11_cell 113 = .ok (.isub, 1) := by decide +kernel
theorem dX11_cell_114 : decode cX11_cell 114 = .ok (.if_icmp .ne 8, 3) := by decide +kernel
theorem dX11_cell_117 : decode cX11_cell 117 = .ok (.iload 5, 2) := by decide +kernel
theorem dX11_cell_119 : decode cX11_cell 119 = .ok (.goto 5, 3) := by decide +kernel
theorem dX11_cell_122 : decode cX11_cell 122 = .ok (.iload 4, 2) := by decide +kernel
theorem dX11_cell_124 : decode cX11_cell 124 = .ok (.istore 4, 2) := by decide +kernel
theorem dX11_cell_126 : decode cX11_cell 126 = .ok (.iinc 3 1, 3) := by decide +kernel
theorem dX11_cell_129 : decode cX11_cell 129 = .ok (.iinc 5 1, 3) := by decide +kernel
theorem dX11_cell_132 : decode cX11_cell 132 = .ok (.goto (-38), 3) := by decide +kernel
theorem dX11_cell_135 : decode cX11_cell 135 = .ok (.iload_n 2, 1) := by decide +kernel
theorem dX11_cell_136 : decode cX11_cell 136 = .ok (.iconst 3, 1) := by decide +kernel
theorem dX11_cell_137 : decode cX11_cell 137 = .ok (.if_icmp .ne 7, 3) := by decide +kernel
theorem dX11_cell_140 : decode cX11_cell 140 = .ok (.iload_n 3, 1) := by decide +kernel
theorem dX11_cell_141 : decode cX11_cell 141 = .ok (.goto 5, 3) := by decide +kernel
theorem dX11_cell_144 : decode cX11_cell 144 = .ok (.iload 4, 2) := by decide +kernel
theorem dX11_cell_146 : decode cX11_cell 146 = .ok (.ireturn, 1) := by decide +kernel
theorem dX11_far_0 : decode cX11_far 0 = .ok (.iload_n 1, 1) := by decide +kernel
theorem dX11_far_1 : decode cX11_far 1 = .ok (.i2l, 1) := by decide +kernel
theorem dX11_far_2 : decode cX11_far 2 = .ok (.invokestatic 120, 3) := by decide +kernel
theorem dX11_far_5 : decode cX11_far 5 = .ok (.ifCond .eq 25, 3) := by decide +kernel
theorem dX11_far_8 : decode cX11_far 8 = .ok (.iload_n 2, 1) := by decide +kernel
theorem dX11_far_9 : decode cX11_far 9 = .ok (.i2l, 1) := by decide +kernel
theorem dX11_far_10 : decode cX11_far 10 = .ok (.invokestatic 120, 3) := by decide +kernel
theorem dX11_far_13 : decode cX11_far 13 = .ok (.ifCond .eq 17, 3) := by decide +kernel
theorem dX11_far_16 : decode cX11_far 16 = .ok (.aload_n 0, 1) := by decide +kernel
theorem dX11_far_17 : decode cX11_far 17 = .ok (.getfield 24, 3) := by decide +kernel
theorem dX11_far_20 : decode cX11_far 20 = .ok (.bipush 49, 2) := by decide +kernel
theorem dX11_far_22 : decode cX11_far 22 = .ok (.iload_n 1, 1) := by decide +kernel
theorem dX11_far_23 : decode cX11_far 23 = .ok (.imul, 1) := by decide +kernel
theorem dX11_far_24 : decode cX11_far 24 = .ok (.iload_n 2, 1) := by decide +kernel
theorem dX11_far_25 : decode cX11_far 25 = .ok (.iadd, 1) := by decide +kernel
theorem dX11_far_26 : decode cX11_far 26 = .ok (.iaload, 1) := by decide +kernel
theorem dX11_far_27 : decode cX11_far 27 = .ok (.goto 4, 3) := by decide +kernel
theorem dX11_far_30 : decode cX11_far 30 = .ok (.iconst (-1), 1) := by decide +kernel
theorem dX11_far_31 : decode cX11_far 31 = .ok (.ireturn, 1) := by decide +kernel
theorem dX11_feed_0 : decode cX11_feed 0 = .ok (.iload_n 1, 1) := by decide +kernel
theorem dX11_feed_1 : decode cX11_feed 1 = .ok (.i2l, 1) := by decide +kernel
theorem dX11_feed_2 : decode cX11_feed 2 = .ok (.lconst 0, 1) := by decide +kernel
theorem dX11_feed_3 : decode cX11_feed 3 = .ok (.ldc2_w 155, 3) := by decide +kernel
theorem dX11_feed_6 : decode cX11_feed 6 = .ok (.invokestatic 111, 3) := by decide +kernel
theorem dX11_feed_9 : decode cX11_feed 9 = .ok (.ifCond .ne 5, 3) := by decide +kernel
theorem dX11_feed_12 : decode cX11_feed 12 = .ok (.iconst (-1), 1) := by decide +kernel
theorem dX11_feed_13 : decode cX11_feed 13 = .ok (.ireturn, 1) := by decide +kernel
theorem dX11_feed_14 : decode cX11_feed 14 = .ok (.aload_n 0, 1) := by decide +kernel
theorem dX11_feed_15 : decode cX11_feed 15 = .ok (.getfield 157, 3) := by decide +kernel
theorem dX11_feed_18 : decode cX11_feed 18 = .ok (.bipush 120, 2) := by decide +kernel
theorem dX11_feed_20 : decode cX11_feed 20 = .ok (.if_icmp .ne 6, 3) := by decide +kernel
theorem dX11_feed_23 : decode cX11_feed 23 = .ok (.bipush (-3), 2) := by decide +kernel
theorem dX11_feed_25 : decode cX11_feed 25 = .ok (.ireturn, 1) := by decide +kernel
theorem dX11_feed_26 : decode cX11_feed 26 = .ok (.aload_n 0, 1) := by decide +kernel
theorem dX11_feed_27 : decode cX11_feed 27 = .ok (.getfield 39, 3) := by decide +kernel
theorem dX11_feed_30 : decode cX11_feed 30 = .ok (.aload_n 0, 1) := by decide +kernel
theorem dX11_feed_31 : decode cX11_feed 31 = .ok (.getfield 157, 3) := by decide +kernel
theorem dX11_feed_34 : decode cX11_feed 34 = .ok (.iload_n 1, 1) := by decide +kernel
theorem dX11_feed_35 : decode cX11_feed 35 = .ok (.iastore, 1) := by decide +kernel
theorem dX11_feed_36 : decode cX11_feed 36 = .ok (.aload_n 0, 1) := by decide +kernel
theorem dX11_feed_37 : decode cX11_feed 37 = .ok (.dup, 1) := by decide +kernel
theorem dX11_feed_38 : decode cX11_feed 38 = .ok (.getfield 157, 3) := by decide +kernel
theorem dX11_feed_41 : decode cX11_feed 41 = .ok (.iconst 1, 1) := by decide +kernel
theorem dX11_feed_42 : decode cX11_feed 42 = .ok (.iadd, 1) := by decide +kernel
theorem dX11_feed_43 : decode cX11_feed 43 = .ok (.putfield 157, 3) := by decide +kernel
theorem dX11_feed_46 : decode cX11_feed 46 = .ok (.aload_n 0, 1) := by decide +kernel
theorem dX11_feed_47 : decode cX11_feed 47 = .ok (.getfield 157, 3) := by decide +kernel
theorem dX11_feed_50 : decode cX11_feed 50 = .ok (.ireturn, 1) := by decide +kernel
theorem dX11_byteAt_0 : decode cX11_byteAt 0 = .ok (.aload_n 0, 1) := by decide +kernel
theorem dX11_byteAt_1 : decode cX11_byteAt 1 = .ok (.getfield 160, 3) := by decide +kernel
theorem dX11_byteAt_4 : decode cX11_byteAt 4 = .ok (.aload_n 0, 1) := by decide +kernel
theorem dX11_byteAt_5 : decode cX11_byteAt 5 = .ok (.getfield 163, 3) := by decide +kernel
theorem dX11_byteAt_8 : decode cX11_byteAt 8 = .ok (.if_icmp .ge 39, 3) := by decide +kernel
theorem dX11_byteAt_11 : decode cX11_byteAt 11 = .ok (.aload_n 0, 1) := by decide +kernel
theorem dX11_byteAt_12 : decode cX11_byteAt 12 = .ok (.getfield 166, 3) := by decide +kernel
theorem dX11_byteAt_15 : decode cX11_byteAt 15 = .ok (.ifCond .ge 15, 3) := by decide +kernel
theorem dX11_byteAt_18 : decode cX11_byteAt 18 = .ok (.aload_n 0, 1) := by decide +kernel
theorem dX11_byteAt_19 : decode cX11_byteAt 19 = .ok (.getfield 39, 3) := by decide +kernel
theorem dX11_byteAt_22 : decode cX11_byteAt 22 = .ok (.aload_n 0, 1) := by decide +kernel
theorem dX11_byteAt_23 : decode cX11_byteAt 23 = .ok (.getfield 160, 3) := by decide +kernel
theorem dX11_byteAt_26 : decode cX11_byteAt 26 = .ok (.iaload, 1) := by decide +kernel
theorem dX11_byteAt_27 : decode cX11_byteAt 27 = .ok (.goto 21, 3) := by decide +kernel
theorem dX11_byteAt_30 : decode cX11_byteAt 30 = .ok (.aload_n 0, 1) := by decide +kernel
theorem dX11_byteAt_31 : decode cX11_byteAt 31 = .ok (.getfield 42, 3) := by decide +kernel
theorem dX11_byteAt_34 : decode cX11_byteAt 34 = .ok (.aload_n 0, 1) := by decide +kernel
theorem dX11_byteAt_35 : decode cX11_byteAt 35 = .ok (.getfield 166, 3) := by decide +kernel
theorem dX11_byteAt_38 : decode cX11_byteAt 38 = .ok (.aload_n 0, 1) := by decide +kernel
theorem dX11_byteAt_39 : decode cX11_byteAt 39 = .ok (.getfield 160, 3) := by decide +kernel
theorem dX11_byteAt_42 : decode cX11_byteAt 42 = .ok (.iadd, 1) := by decide +kernel
theorem dX11_byteAt_43 : decode cX11_byteAt 43 = .ok (.iaload, 1) := by decide +kernel
theorem dX11_byteAt_44 : decode cX11_byteAt 44 = .ok (.goto 4, 3) := by decide +kernel
theorem dX11_byteAt_47 : decode cX11_byteAt 47 = .ok (.iconst 0, 1) := by decide +kernel
theorem dX11_byteAt_48 : decode cX11_byteAt 48 = .ok (.ireturn, 1) := by decide +kernel
theorem dX11_wrong_0 : decode cX11_wrong 0 = .ok (.aload_n 0, 1) := by decide +kernel
theorem dX11_wrong_1 : decode cX11_wrong 1 = .ok (.aload_n 0, 1) := by decide +kernel
theorem dX11_wrong_2 : decode cX11_wrong 2 = .ok (.getfield 169, 3) := by decide +kernel
theorem dX11_wrong_5 : decode cX11_wrong 5 = .ok (.ifCond .ge 10, 3) := by decide +kernel
theorem dX11_wrong_8 : decode cX11_wrong 8 = .ok (.aload_n 0, 1) := by decide +kernel
theorem dX11_wrong_9 : decode cX11_wrong 9 = .ok (.getfield 160, 3) := by decide +kernel
theorem dX11_wrong_12 : decode cX11_wrong 12 = .ok (.goto 7, 3) := by decide +kernel
theorem dX11_wrong_15 : decode cX11_wrong 15 = .ok (.aload_n 0, 1) := by decide +kernel
theorem dX11_wrong_16 : decode cX11_wrong 16 = .ok (.getfield 169, 3) := by decide +kernel
theorem dX11_wrong_19 : decode cX11_wrong 19 = .ok (.putfield 169, 3) := by decide +kernel
theorem dX11_wrong_22 : decode cX11_wrong 22 = .ok (.iconst 0, 1) := by decide +kernel
theorem dX11_wrong_23 : decode cX11_wrong 23 = .ok (.ireturn, 1) := by decide +kernel
theorem dX11_takes_0 : decode cX11_takes 0 = .ok (.aload_n 0, 1) := by decide +kernel
theorem dX11_takes_1 : decode cX11_takes 1 = .ok (.getfield 169, 3) := by decide +kernel
theorem dX11_takes_4 : decode cX11_takes 4 = .ok (.ifCond .ge 11, 3) := by decide +kernel
theorem dX11_takes_7 : decode cX11_takes 7 = .ok (.aload_n 0, 1) := by decide +kernel
theorem dX11_takes_8 : decode cX11_takes 8 = .ok (.invokevirtual 172, 3) := by decide +kernel
theorem dX11_takes_11 : decode cX11_takes 11 = .ok (.iload_n 1, 1) := by decide +kernel
theorem dX11_takes_12 : decode cX11_takes 12 = .ok (.if_icmp .eq 5, 3) := by decide +kernel
theorem dX11_takes_15 : decode cX11_takes 15 = .ok (.iconst 0, 1) := by decide +kernel
theorem dX11_takes_16 : decode cX11_takes 16 = .ok (.ireturn, 1) := by decide +kernel
theorem dX11_takes_17 : decode cX11_takes 17 = .ok (.aload_n 0, 1) := by decide +kernel
theorem dX11_takes_18 : decode cX11_takes 18 = .ok (.dup, 1) := by decide +kernel
theorem dX11_takes_19 : decode cX11_takes 19 = .ok (.getfield 160, 3) := by decide +kernel
theorem dX11_takes_22 : decode cX11_takes 22 = .ok (.iconst 1, 1) := by decide +kernel
theorem dX11_takes_23 : decode cX11_takes 23 = .ok (.iadd, 1) := by decide +kernel
theorem dX11_takes_24 : decode cX11_takes 24 = .ok (.putfield 160, 3) := by decide +kernel
theorem dX11_takes_27 : decode cX11_takes 27 = .ok (.iconst 1, 1) := by decide +kernel
theorem dX11_takes_28 : decode cX11_takes 28 = .ok (.ireturn, 1) := by decide +kernel
theorem dX11_either_0 : decode cX11_either 0 = .ok (.aload_n 0, 1) := by decide +kernel
theorem dX11_either_1 : decode cX11_either 1 = .ok (.invokevirtual 176, 3) := by decide +kernel
theorem dX11_either_4 : decode cX11_either 4 = .ok (.istore_n 1, 1) := by decide +kernel
theorem dX11_either_5 : decode cX11_either 5 = .ok (.aload_n 0, 1) := by decide +kernel
theorem dX11_either_6 : decode cX11_either 6 = .ok (.bipush 124, 2) := by decide +kernel
theorem dX11_either_8 : decode cX11_either 8 = .ok (.invokevirtual 179, 3) := by decide +kernel
theorem dX11_either_11 : decode cX11_either 11 = .ok (.ifCond .eq 25, 3) := by decide +kernel
theorem dX11_either_14 : decode cX11_either 14 = .ok (.aload_n 0, 1) := by decide +kernel
theorem dX11_either_15 : decode cX11_either 15 = .ok (.invokevirtual 176, 3) := by decide +kernel
theorem dX11_either_18 : decode cX11_either 18 = .ok (.istore_n 2, 1) := by decide +kernel
theorem dX11_either_19 : decode cX11_either 19 = .ok (.iload_n 1, 1) := by decide +kernel
theorem dX11_either_20 : decode cX11_either 20 = .ok (.ifCond .ne 7, 3) := by decide +kernel
theorem dX11_either_23 : decode cX11_either 23 = .ok (.iload_n 2, 1) := by decide +kernel
theorem dX11_either_24 : decode cX11_either 24 = .ok (.ifCond .eq 7, 3) := by decide +kernel
theorem dX11_either_27 : decode cX11_either 27 = .ok (.iconst 1, 1) := by decide +kernel
theorem dX11_either_28 : decode cX11_either 28 = .ok (.goto 4, 3) := by decide +kernel
theorem dX11_either_31 : decode cX11_either 31 = .ok (.iconst 0, 1) := by decide +kernel
theorem dX11_either_32 : decode cX11_either 32 = .ok (.istore_n 1, 1) := by decide +kernel
theorem dX11_either_33 : decode cX11_either 33 = .ok (.goto (-28), 3) := by decide +kernel
theorem dX11_either_36 : decode cX11_either 36 = .ok (.iload_n 1, 1) := by decide +kernel
theorem dX11_either_37 : decode cX11_either 37 = .ok (.ireturn, 1) := by decide +kernel
theorem dX11_both_0 : decode cX11_both 0 = .ok (.aload_n 0, 1) := by decide +kernel
theorem dX11_both_1 : decode cX11_both 1 = .ok (.invokevirtual 182, 3) := by decide +kernel
theorem dX11_both_4 : decode cX11_both 4 = .ok (.istore_n 1, 1) := by decide +kernel
theorem dX11_both_5 : decode cX11_both 5 = .ok (.aload_n 0, 1) := by decide +kernel
theorem dX11_both_6 : decode cX11_both 6 = .ok (.bipush 38, 2) := by decide +kernel
theorem dX11_both_8 : decode cX11_both 8 = .ok (.invokevirtual 179, 3) := by decide +kernel
theorem dX11_both_11 : decode cX11_both 11 = .ok (.ifCond .eq 25, 3) := by decide +kernel
theorem dX11_both_14 : decode cX11_both 14 = .ok (.aload_n 0, 1) := by decide +kernel
theorem dX11_both_15 : decode cX11_both 15 = .ok (.invokevirtual 182, 3) := by decide +kernel
theorem dX11_both_18 : decode cX11_both 18 = .ok (.istore_n 2, 1) := by decide +kernel
theorem dX11_both_19 : decode cX11_both 19 = .ok (.iload_n 1, 1) := by decide +kernel
theorem dX11_both_20 : decode cX11_both 20 = .ok (.ifCond .eq 11, 3) := by decide +kernel
theorem dX11_both_23 : decode cX11_both 23 = .ok (.iload_n 2, 1) := by decide +kernel
theorem dX11_both_24 : decode cX11_both 24 = .ok (.ifCond .eq 7, 3) := by decide +kernel
theorem dX11_both_27 : decode cX11_both 27 = .ok (.iconst 1, 1) := by decide +kernel
theorem dX11_both_28 : decode cX11_both 28 = .ok (.goto 4, 3) := by decide +kernel
theorem dX11_both_31 : decode cX11_both 31 = .ok (.iconst 0, 1) := by decide +kernel
theorem dX11_both_32 : decode cX11_both 32 = .ok (.istore_n 1, 1) := by decide +kernel
theorem dX11_both_33 : decode cX11_both 33 = .ok (.goto (-28), 3) := by decide +kernel
theorem dX11_both_36 : decode cX11_both 36 = .ok (.iload_n 1, 1) := by decide +kernel
theorem dX11_both_37 : decode cX11_both 37 = .ok (.ireturn, 1) := by decide +kernel
theorem dX11_compared_0 : decode cX11_compared 0 = .ok (.aload_n 0, 1) := by decide +kernel
theorem dX11_compared_1 : decode cX11_compared 1 = .ok (.invokevirtual 185, 3) := by decide +kernel
theorem dX11_compared_4 : decode cX11_compared 4 = .ok (.istore_n 1, 1) := by decide +kernel
theorem dX11_compared_5 : decode cX11_compared 5 = .ok (.aload_n 0, 1) := by decide +kernel
theorem dX11_compared_6 : decode cX11_compared 6 = .ok (.invokevirtual 172, 3) := by decide +kernel
theorem dX11_compared_9 : decode cX11_compared 9 = .ok (.istore_n 2, 1) := by decide +kernel
theorem dX11_compared_10 : decode cX11_compared 10 = .ok (.aload_n 0, 1) := by decide +kernel
theorem dX11_compared_11 : decode cX11_compared 11 = .ok (.getfield 169, 3) := by decide +kernel
theorem dX11_compared_14 : decode cX11_compared 14 = .ok (.ifCond .ge 21, 3) := by decide +kernel
theorem dX11_compared_17 : decode cX11_compared 17 = .ok (.iload_n 2, 1) := by decide +kernel
theorem dX11_compared_18 : decode cX11_compared 18 = .ok (.bipush 60, 2) := by decide +kernel
theorem dX11_compared_20 : decode cX11_compared 20 = .ok (.if_icmp .eq 17, 3) := by decide +kernel
theorem dX11_compared_23 : decode cX11_compared 23 = .ok (.iload_n 2, 1) := by decide +kernel
theorem dX11_compared_24 : decode cX11_compared 24 = .ok (.bipush 61, 2) := by decide +kernel
theorem dX11_compared_26 : decode cX11_compared 26 = .ok (.if_icmp .eq 11, 3) := by decide +kernel
theorem dX11_compared_29 : decode cX11_compared 29 = .ok (.iload_n 2, 1) := by decide +kernel
theorem dX11_compared_30 : decode cX11_compared 30 = .ok (.bipush 62, 2) := by decide +kernel
theorem dX11_compared_32 : decode cX11_compared 32 = .ok (.if_icmp .eq 5, 3) := by decide +kernel
theorem dX11_compared_35 : decode cX11_compared 35 = .ok (.iload_n 1, 1) := by decide +kernel
theorem dX11_compared_36 : decode cX11_compared 36 = .ok (.ireturn, 1) := by decide +kernel
theorem dX11_compared_37 : decode cX11_compared 37 = .ok (.aload_n 0, 1) := by decide +kernel
theorem dX11_compared_38 : decode cX11_compared 38 = .ok (.dup, 1) := by decide +kernel
theorem dX11_compared_39 : decode cX11_compared 39 = .ok (.getfield 160, 3) := by decide +kernel
theorem dX11_compared_42 : decode cX11_compared 42 = .ok (.iconst 1, 1) := by decide +kernel
theorem dX11_compared_43 : decode cX11_compared 43 = .ok (.iadd, 1) := by decide +kernel
theorem dX11_compared_44 : decode cX11_compared 44 = .ok (.putfield 160, 3) := by decide +kernel
theorem dX11_compared_47 : decode cX11_compared 47 = .ok (.aload_n 0, 1) := by decide +kernel
theorem dX11_compared_48 : decode cX11_compared 48 = .ok (.invokevirtual 185, 3) := by decide +kernel
theorem dX11_compared_51 : decode cX11_compared 51 = .ok (.istore_n 3, 1) := by decide +kernel
theorem dX11_compared_52 : decode cX11_compared 52 = .ok (.iload_n 2, 1) := by decide +kernel
theorem dX11_compared_53 : decode cX11_compared 53 = .ok (.bipush 60, 2) := by decide +kernel
theorem dX11_compared_55 : decode cX11_compared 55 = .ok (.if_icmp .ne 11, 3) := by decide +kernel
theorem dX11_compared_58 : decode cX11_compared 58 = .ok (.iload_n 1, 1) := by decide +kernel
theorem dX11_compared_59 : decode cX11_compared 59 = .ok (.iload_n 3, 1) := by decide +kernel
theorem dX11_compared_60 : decode cX11_compared 60 = .ok (.if_icmp .ge 29, 3) := by decide +kernel
theorem dX11_compared_63 : decode cX11_compared 63 = .ok (.goto 22, 3) := by decide +kernel
theorem dX11_compared_66 : decode cX11_compared 66 = .ok (.iload_n 2, 1) := by decide +kernel
theorem dX11_compared_67 : decode cX11_compared 67 = .ok (.bipush 61, 2) := by decide +kernel
theorem dX11_compared_69 : decode cX11_compared 69 = .ok (.if_icmp .ne 11, 3) := by decide +kernel
theorem dX11_compared_72 : decode cX11_compared 72 = .ok (.iload_n 1, 1) := by decide +kernel
theorem dX11_compared_73 : decode cX11_compared 73 = .ok (.iload_n 3, 1) := by decide +kernel
theorem dX11_compared_74 : decode cX11_compared 74 = .ok (.if_icmp .ne 15, 3) := by decide +kernel
theorem dX11_compared_77 : decode cX11_compared 77 = .ok (.goto 8, 3) := by decide +kernel
theorem dX11_compared_80 : decode cX11_compared 80 = .ok (.iload_n 1, 1) := by decide +kernel
theorem dX11_compared_81 : decode cX11_compared 81 = .ok (.iload_n 3, 1) := by decide +kernel
theorem dX11_compared_82 : decode cX11_compared 82 = .ok (.if_icmp .le 7, 3) := by decide +kernel
theorem dX11_compared_85 : decode cX11_compared 85 = .ok (.iconst 1, 1) := by decide +kernel
theorem dX11_compared_86 : decode cX11_compared 86 = .ok (.goto 4, 3) := by decide +kernel
theorem dX11_compared_89 : decode cX11_compared 89 = .ok (.iconst 0, 1) := by decide +kernel
theorem dX11_compared_90 : decode cX11_compared 90 = .ok (.ireturn, 1) := by decide +kernel
theorem dX11_sums_0 : decode cX11_sums 0 = .ok (.aload_n 0, 1) := by decide +kernel
theorem dX11_sums_1 : decode cX11_sums 1 = .ok (.invokevirtual 187, 3) := by decide +kernel
theorem dX11_sums_4 : decode cX11_sums 4 = .ok (.istore_n 1, 1) := by decide +kernel
theorem dX11_sums_5 : decode cX11_sums 5 = .ok (.aload_n 0, 1) := by decide +kernel
theorem dX11_sums_6 : decode cX11_sums 6 = .ok (.getfield 169, 3) := by decide +kernel
theorem dX11_sums_9 : decode cX11_sums 9 = .ok (.ifCond .ge 68, 3) := by decide +kernel
theorem dX11_sums_12 : decode cX11_sums 12 = .ok (.aload_n 0, 1) := by decide +kernel
theorem dX11_sums_13 : decode cX11_sums 13 = .ok (.invokevirtual 172, 3) := by decide +kernel
theorem dX11_sums_16 : decode cX11_sums 16 = .ok (.bipush 43, 2) := by decide +kernel
theorem dX11_sums_18 : decode cX11_sums 18 = .ok (.if_icmp .eq 12, 3) := by decide +kernel
theorem dX11_sums_21 : decode cX11_sums 21 = .ok (.aload_n 0, 1) := by decide +kernel
theorem dX11_sums_22 : decode cX11_sums 22 = .ok (.invokevirtual 172, 3) := by decide +kernel
theorem dX11_sums_25 : decode cX11_sums 25 = .ok (.bipush 45, 2) := by decide +kernel
theorem dX11_sums_27 : decode cX11_sums 27 = .ok (.if_icmp .ne 50, 3) := by decide +kernel
theorem dX11_sums_30 : decode cX11_sums 30 = .ok (.aload_n 0, 1) := by decide +kernel
theorem dX11_sums_31 : decode cX11_sums 31 = .ok (.invokevirtual 172, 3) := by decide +kernel
theorem dX11_sums_34 : decode cX11_sums 34 = .ok (.bipush 43, 2) := by decide +kernel
theorem dX11_sums_36 : decode cX11_sums 36 = .ok (.if_icmp .ne 7, 3) := by decide +kernel
theorem dX11_sums_39 : decode cX11_sums 39 = .ok (.iconst 1, 1) := by decide +kernel
theorem dX11_sums_40 : decode cX11_sums 40 = .ok (.goto 4, 3) := by decide +kernel
theorem dX11_sums_43 : decode cX11_sums 43 = .ok (.iconst 0, 1) := by decide +kernel
theorem dX11_sums_44 : decode cX11_sums 44 = .ok (.istore_n 2, 1) := by decide +kernel
theorem dX11_sums_45 : decode cX11_sums 45 = .ok (.aload_n 0, 1) := by decide +kernel
theorem dX11_sums_46 : decode cX11_sums 46 = .ok (.dup, 1) := by decide +kernel
theorem dX11_sums_47 : decode cX11_sums 47 = .ok (.getfield 160, 3) := by decide +kernel
theorem dX11_sums_50 : decode cX11_sums 50 = .ok (.iconst 1, 1) := by decide +kernel
theorem dX11_sums_51 : decode cX11_sums 51 = .ok (.iadd, 1) := by decide +kernel
theorem dX11_sums_52 : decode cX11_sums 52 = .ok (.putfield 160, 3) := by decide +kernel
theorem dX11_sums_55 : decode cX11_sums 55 = .ok (.aload_n 0, 1) := by decide +kernel
theorem dX11_sums_56 : decode cX11_sums 56 = .ok (.invokevirtual 187, 3) := by decide +kernel
theorem dX11_sums_59 : decode cX11_sums 59 = .ok (.istore_n 3, 1) := by decide +kernel
theorem dX11_sums_60 : decode cX11_sums 60 = .ok (.iload_n 2, 1) := by decide +kernel
theorem dX11_sums_61 : decode cX11_sums 61 = .ok (.ifCond .eq 9, 3) := by decide +kernel
theorem dX11_sums_64 : decode cX11_sums 64 = .ok (.iload_n 1, 1) := by decide +kernel
theorem dX11_sums_65 : decode cX11_sums 65 = .ok (.iload_n 3, 1) := by decide +kernel
theorem dX11_sums_66 : decode cX11_sums 66 = .ok (.iadd, 1) := by decide +kernel
theorem dX11_sums_67 : decode cX11_sums 67 = .ok (.goto 6, 3) := by decide +kernel
theorem dX11_sums_70 : decode cX11_sums 70 = .ok (.iload_n 1, 1) := by decide +kernel
theorem dX11_sums_71 : decode cX11_sums 71 = .ok (.iload_n 3, 1) := by decide +kernel
theorem dX11_sums_72 : decode cX11_sums 72 = .ok (.isub, 1) := by decide +kernel
theorem dX11_sums_73 : decode cX11_sums 73 = .ok (.istore_n 1, 1) := by decide +kernel
theorem dX11_sums_74 : decode cX11_sums 74 = .ok (.goto (-69), 3) := by decide +kernel
theorem dX11_sums_77 : decode cX11_sums 77 = .ok (.iload_n 1, 1) := by decide +kernel
theorem dX11_sums_78 : decode cX11_sums 78 = .ok (.ireturn, 1) := by decide +kernel
theorem dX11_product_0 : decode cX11_product 0 = .ok (.aload_n 0, 1) := by decide +kernel
theorem dX11_product_1 : decode cX11_product 1 = .ok (.invokevirtual 190, 3) := by decide +kernel
theorem dX11_product_4 : decode cX11_product 4 = .ok (.istore_n 1, 1) := by decide +kernel
theorem dX11_product_5 : decode cX11_product 5 = .ok (.aload_n 0, 1) := by decide +kernel
theorem dX11_product_6 : decode cX11_product 6 = .ok (.invokevirtual 172, 3) := by decide +kernel
theorem dX11_product_9 : decode cX11_product 9 = .ok (.istore_n 2, 1) := by decide +kernel
theorem dX11_product_10 : decode cX11_product 10 = .ok (.aload_n 0, 1) := by decide +kernel
theorem dX11_product_11 : decode cX11_product 11 = .ok (.getfield 169, 3) := by decide +kernel
theorem dX11_product_14 : decode cX11_product 14 = .ok (.ifCond .ge 80, 3) := by decide +kernel
theorem dX11_product_17 : decode cX11_product 17 = .ok (.iload_n 2, 1) := by decide +kernel
theorem dX11_product_18 : decode cX11_product 18 = .ok (.bipush 42, 2) := by decide +kernel
theorem dX11_product_20 : decode cX11_product 20 = .ok (.if_icmp .eq 15, 3) := by decide +kernel
theorem dX11_product_23 : decode cX11_product 23 = .ok (.iload_n 2, 1) := by decide +kernel
theorem dX11_product_24 : decode cX11_product 24 = .ok (.bipush 47, 2) := by decide +kernel
theorem dX11_product_26 : decode cX11_product 26 = .ok (.if_icmp .eq 9, 3) := by decide +kernel
theorem dX11_product_29 : decode cX11_product 29 = .ok (.iload_n 2, 1) := by decide +kernel
theorem dX11_product_30 : decode cX11_product 30 = .ok (.bipush 37, 2) := by decide +kernel
theorem dX11_product_32 : decode cX11_product 32 = .ok (.if_icmp .ne 62, 3) := by decide +kernel
theorem dX11_product_35 : decode cX11_product 35 = .ok (.aload_n 0, 1) := by decide +kernel
theorem dX11_product_36 : decode cX11_product 36 = .ok (.dup, 1) := by decide +kernel
theorem dX11_product_37 : decode cX11_product 37 = .ok (.getfield 160, 3) := by decide +kernel
theorem dX11_product_40 : decode cX11_product 40 = .ok (.iconst 1, 1) := by decide +kernel
theorem dX11_product_41 : decode cX11_product 41 = .ok (.iadd, 1) := by decide +kernel
theorem dX11_product_42 : decode cX11_product 42 = .ok (.putfield 160, 3) := by decide +kernel
theorem dX11_product_45 : decode cX11_product 45 = .ok (.aload_n 0, 1) := by decide +kernel
theorem dX11_product_46 : decode cX11_product 46 = .ok (.invokevirtual 190, 3) := by decide +kernel
theorem dX11_product_49 : decode cX11_product 49 = .ok (.istore_n 3, 1) := by decide +kernel
theorem dX11_product_50 : decode cX11_product 50 = .ok (.iload_n 2, 1) := by decide +kernel
theorem dX11_product_51 : decode cX11_product 51 = .ok (.bipush 42, 2) := by decide +kernel
theorem dX11_product_53 : decode cX11_product 53 = .ok (.if_icmp .ne 9, 3) := by decide +kernel
theorem dX11_product_56 : decode cX11_product 56 = .ok (.iload_n 1, 1) := by decide +kernel
theorem dX11_product_57 : decode cX11_product 57 = .ok (.iload_n 3, 1) := by decide +kernel
theorem dX11_product_58 : decode cX11_product 58 = .ok (.imul, 1) := by decide +kernel
theorem dX11_product_59 : decode cX11_product 59 = .ok (.goto 26, 3) := by decide +kernel
theorem dX11_product_62 : decode cX11_product 62 = .ok (.iload_n 3, 1) := by decide +kernel
theorem dX11_product_63 : decode cX11_product 63 = .ok (.ifCond .ne 7, 3) := by decide +kernel
theorem dX11_product_66 : decode cX11_product 66 = .ok (.iconst 0, 1) := by decide +kernel
theorem dX11_product_67 : decode cX11_product 67 = .ok (.goto 18, 3) := by decide +kernel
theorem dX11_product_70 : decode cX11_product 70 = .ok (.iload_n 2, 1) := by decide +kernel
theorem dX11_product_71 : decode cX11_product 71 = .ok (.bipush 47, 2) := by decide +kernel
theorem dX11_product_73 : decode cX11_product 73 = .ok (.if_icmp .ne 9, 3) := by decide +kernel
theorem dX11_product_76 : decode cX11_product 76 = .ok (.iload_n 1, 1) := by decide +kernel
theorem dX11_product_77 : decode cX11_product 77 = .ok (.iload_n 3, 1) := by decide +kernel
theorem dX11_product_78 : decode cX11_product 78 = .ok (.idiv, 1) := by decide +kernel
theorem dX11_product_79 : decode cX11_product 79 = .ok (.goto 6, 3) := by decide +kernel
theorem dX11_product_82 : decode cX11_product 82 = .ok (.iload_n 1, 1) := by decide +kernel
theorem dX11_product_83 : decode cX11_product 83 = .ok (.iload_n 3, 1) := by decide +kernel
theorem dX11_product_84 : decode cX11_product 84 = .ok (.irem, 1) := by decide +kernel
theorem dX11_product_85 : decode cX11_product 85 = .ok (.istore_n 1, 1) := by decide +kernel
theorem dX11_product_86 : decode cX11_product 86 = .ok (.aload_n 0, 1) := by decide +kernel
theorem dX11_product_87 : decode cX11_product 87 = .ok (.invokevirtual 172, 3) := by decide +kernel
theorem dX11_product_90 : decode cX11_product 90 = .ok (.istore_n 2, 1) := by decide +kernel
theorem dX11_product_91 : decode cX11_product 91 = .ok (.goto (-81), 3) := by decide +kernel
theorem dX11_product_94 : decode cX11_product 94 = .ok (.iload_n 1, 1) := by decide +kernel
theorem dX11_product_95 : decode cX11_product 95 = .ok (.ireturn, 1) := by decide +kernel
theorem dX11_nameOf_0 : decode cX11_nameOf 0 = .ok (.iload_n 0, 1) := by decide +kernel
theorem dX11_nameOf_1 : decode cX11_nameOf 1 = .ok (.tableswitch 91 100 115 #[79, 91, 91, 91, 91, 91, 91, 87, 91, 91, 81, 83, 91, 91, 89, 85], 79) := by decide +kernel
theorem dX11_nameOf_80 : decode cX11_nameOf 80 = .ok (.iconst 0, 1) := by decide +kernel
theorem dX11_nameOf_81 : decode cX11_nameOf 81 = .ok (.ireturn, 1) := by decide +kernel
theorem dX11_nameOf_82 : decode cX11_nameOf 82 = .ok (.iconst 1, 1) := by decide +kernel
theorem dX11_nameOf_83 : decode cX11_nameOf 83 = .ok (.ireturn, 1) := by decide +kernel
theorem dX11_nameOf_84 : decode cX11_nameOf 84 = .ok (.iconst 2, 1) := by decide +kernel
theorem dX11_nameOf_85 : decode cX11_nameOf 85 = .ok (.ireturn, 1) := by decide +kernel
theorem dX11_nameOf_86 : decode cX11_nameOf 86 = .ok (.iconst 3, 1) := by decide +kernel
theorem dX11_nameOf_87 : decode cX11_nameOf 87 = .ok (.ireturn, 1) := by decide +kernel
theorem dX11_nameOf_88 : decode cX11_nameOf 88 = .ok (.iconst 4, 1) := by decide +kernel
theorem dX11_nameOf_89 : decode cX11_nameOf 89 = .ok (.ireturn, 1) := by decide +kernel
theorem dX11_nameOf_90 : decode cX11_nameOf 90 = .ok (.iconst 5, 1) := by decide +kernel
theorem dX11_nameOf_91 : decode cX11_nameOf 91 = .ok (.ireturn, 1) := by decide +kernel
theorem dX11_nameOf_92 : decode cX11_nameOf 92 = .ok (.iconst (-1), 1) := by decide +kernel
theorem dX11_nameOf_93 : decode cX11_nameOf 93 = .ok (.ireturn, 1) := by decide +kernel
theorem dX11_one_0 : decode cX11_one 0 = .ok (.aload_n 0, 1) := by decide +kernel
theorem dX11_one_1 : decode cX11_one 1 = .ok (.getfield 169, 3) := by decide +kernel
theorem dX11_one_4 : decode cX11_one 4 = .ok (.ifCond .lt 5, 3) := by decide +kernel
theorem dX11_one_7 : decode cX11_one 7 = .ok (.iconst 0, 1) := by decide +kernel
theorem dX11_one_8 : decode cX11_one 8 = .ok (.ireturn, 1) := by decide +kernel
theorem dX11_one_9 : decode cX11_one 9 = .ok (.aload_n 0, 1) := by decide +kernel
theorem dX11_one_10 : decode cX11_one 10 = .ok (.invokevirtual 172, 3) := by decide +kernel
theorem dX11_one_13 : decode cX11_one 13 = .ok (.istore_n 1, 1) := by decide +kernel
theorem dX11_one_14 : decode cX11_one 14 = .ok (.iload_n 1, 1) := by decide +kernel
theorem dX11_one_15 : decode cX11_one 15 = .ok (.bipush 33, 2) := by decide +kernel
theorem dX11_one_17 : decode cX11_one 17 = .ok (.if_icmp .eq 15, 3) := by decide +kernel
theorem dX11_one_20 : decode cX11_one 20 = .ok (.iload_n 1, 1) := by decide +kernel
theorem dX11_one_21 : decode cX11_one 21 = .ok (.bipush 45, 2) := by decide +kernel
theorem dX11_one_23 : decode cX11_one 23 = .ok (.if_icmp .eq 9, 3) := by decide +kernel
theorem dX11_one_26 : decode cX11_one 26 = .ok (.iload_n 1, 1) := by decide +kernel
theorem dX11_one_27 : decode cX11_one 27 = .ok (.bipush 40, 2) := by decide +kernel
theorem dX11_one_29 : decode cX11_one 29 = .ok (.if_icmp .ne 116, 3) := by decide +kernel
theorem dX11_one_32 : decode cX11_one 32 = .ok (.aload_n 0, 1) := by decide +kernel
theorem dX11_one_33 : decode cX11_one 33 = .ok (.getfield 193, 3) := by decide +kernel
theorem dX11_one_36 : decode cX11_one 36 = .ok (.bipush 6, 2) := by decide +kernel
theorem dX11_one_38 : decode cX11_one 38 = .ok (.if_icmp .ne 8, 3) := by decide +kernel
theorem dX11_one_41 : decode cX11_one 41 = .ok (.aload_n 0, 1) := by decide +kernel
theorem dX11_one_42 : decode cX11_one 42 = .ok (.invokevirtual 196, 3) := by decide +kernel
theorem dX11_one_45 : decode cX11_one 45 = .ok (.ireturn, 1) := by decide +kernel
theorem dX11_one_46 : decode cX11_one 46 = .ok (.aload_n 0, 1) := by decide +kernel
theorem dX11_one_47 : decode cX11_one 47 = .ok (.dup, 1) := by decide +kernel
theorem dX11_one_48 : decode cX11_one 48 = .ok (.getfield 193, 3) := by decide +kernel
theorem dX11_one_51 : decode cX11_one 51 = .ok (.iconst 1, 1) := by decide +kernel
theorem dX11_one_52 : decode cX11_one 52 = .ok (.iadd, 1) := by decide +kernel
theorem dX11_one_53 : decode cX11_one 53 = .ok (.putfield 193, 3) := by decide +kernel
theorem dX11_one_56 : decode cX11_one 56 = .ok (.aload_n 0, 1) := by decide +kernel
theorem dX11_one_57 : decode cX11_one 57 = .ok (.dup, 1) := by decide +kernel
theorem dX11_one_58 : decode cX11_one 58 = .ok (.getfield 160, 3) := by decide +kernel
theorem dX11_one_61 : decode cX11_one 61 = .ok (.iconst 1, 1) := by decide +kernel
theorem dX11_one_62 : decode cX11_one 62 = .ok (.iadd, 1) := by decide +kernel
theorem dX11_one_63 : decode cX11_one 63 = .ok (.putfield 160, 3) := by decide +kernel
theorem dX11_one_66 : decode cX11_one 66 = .ok (.iload_n 1, 1) := by decide +kernel
theorem dX11_one_67 : decode cX11_one 67 = .ok (.bipush 40, 2) := by decide +kernel
theorem dX11_one_69 : decode cX11_one 69 = .ok (.if_icmp .ne 10, 3) := by decide +kernel
theorem dX11_one_72 : decode cX11_one 72 = .ok (.aload_n 0, 1) := by decide +kernel
theorem dX11_one_73 : decode cX11_one 73 = .ok (.invokevirtual 199, 3) := by decide +kernel
theorem dX11_one_76 : decode cX11_one 76 = .ok (.goto 7, 3) := by decide +kernel
theorem dX11_one_79 : decode cX11_one 79 = .ok (.aload_n 0, 1) := by decide +kernel
theorem dX11_one_80 : decode cX11_one 80 = .ok (.invokevirtual 190, 3) := by decide +kernel
theorem dX11_one_83 : decode cX11_one 83 = .ok (.istore_n 2, 1) := by decide +kernel
theorem dX11_one_84 : decode cX11_one 84 = .ok (.iload_n 1, 1) := by decide +kernel
theorem dX11_one_85 : decode cX11_one 85 = .ok (.bipush 40, 2) := by decide +kernel
theorem dX11_one_87 : decode cX11_one 87 = .ok (.if_icmp .ne 17, 3) := by decide +kernel
theorem dX11_one_90 : decode cX11_one 90 = .ok (.aload_n 0, 1) := by decide +kernel
theorem dX11_one_91 : decode cX11_one 91 = .ok (.bipush 41, 2) := by decide +kernel
theorem dX11_one_93 : decode cX11_one 93 = .ok (.invokevirtual 179, 3) := by decide +kernel
theorem dX11_one_96 : decode cX11_one 96 = .ok (.ifCond .ne 8, 3) := by decide +kernel
theorem dX11_one_99 : decode cX11_one 99 = .ok (.aload_n 0, 1) := by decide +kernel
theorem dX11_one_100 : decode cX11_one 100 = .ok (.invokevirtual 196, 3) := by decide +kernel
theorem dX11_one_103 : decode cX11_one 103 = .ok (.ireturn, 1) := by decide +kernel
theorem dX11_one_104 : decode cX11_one 104 = .ok (.aload_n 0, 1) := by decide +kernel
theorem dX11_one_105 : decode cX11_one 105 = .ok (.dup, 1) := by decide +kernel
theorem dX11_one_106 : decode cX11_one 106 = .ok (.getfield 193, 3) := by decide +kernel
theorem dX11_one_109 : decode cX11_one 109 = .ok (.iconst 1, 1) := by decide +kernel
theorem dX11_one_110 : decode cX11_one 110 = .ok (.isub, 1) := by decide +kernel
theorem dX11_one_111 : decode cX11_one 111 = .ok (.putfield 193, 3) := by decide +kernel
theorem dX11_one_114 : decode cX11_one 114 = .ok (.iload_n 1, 1) := by decide +kernel
theorem dX11_one_115 : decode cX11_one 115 = .ok (.bipush 40, 2) := by decide +kernel
theorem dX11_one_117 : decode cX11_one 117 = .ok (.if_icmp .ne 7, 3) := by decide +kernel
theorem dX11_one_120 : decode cX11_one 120 = .ok (.iload_n 2, 1) := by decide +kernel
theorem dX11_one_121 : decode cX11_one 121 = .ok (.goto 23, 3) := by decide +kernel
theorem dX11_one_124 : decode cX11_one 124 = .ok (.iload_n 1, 1) := by decide +kernel
theorem dX11_one_125 : decode cX11_one 125 = .ok (.bipush 45, 2) := by decide +kernel
theorem dX11_one_127 : decode cX11_one 127 = .ok (.if_icmp .ne 8, 3) := by decide +kernel
theorem dX11_one_130 : decode cX11_one 130 = .ok (.iload_n 2, 1) := by decide +kernel
theorem dX11_one_131 : decode cX11_one 131 = .ok (.ineg, 1) := by decide +kernel
theorem dX11_one_132 : decode cX11_one 132 = .ok (.goto 12, 3) := by decide +kernel
theorem dX11_one_135 : decode cX11_one 135 = .ok (.iload_n 2, 1) := by decide +kernel
theorem dX11_one_136 : decode cX11_one 136 = .ok (.ifCond .ne 7, 3) := by decide +kernel
theorem dX11_one_139 : decode cX11_one 139 = .ok (.iconst 1, 1) := by decide +kernel
theorem dX11_one_140 : decode cX11_one 140 = .ok (.goto 4, 3) := by decide +kernel
theorem dX11_one_143 : decode cX11_one 143 = .ok (.iconst 0, 1) := by decide +kernel
theorem dX11_one_144 : decode cX11_one 144 = .ok (.ireturn, 1) := by decide +kernel
theorem dX11_one_145 : decode cX11_one 145 = .ok (.iload_n 1, 1) := by decide +kernel
theorem dX11_one_146 : decode cX11_one 146 = .ok (.invokestatic 202, 3) := by decide +kernel
theorem dX11_one_149 : decode cX11_one 149 = .ok (.istore_n 2, 1) := by decide +kernel
theorem dX11_one_150 : decode cX11_one 150 = .ok (.iload_n 2, 1) := by decide +kernel
theorem dX11_one_151 : decode cX11_one 151 = .ok (.ifCond .lt 20, 3) := by decide +kernel
theorem dX11_one_154 : decode cX11_one 154 = .ok (.aload_n 0, 1) := by decide +kernel
theorem dX11_one_155 : decode cX11_one 155 = .ok (.dup, 1) := by decide +kernel
theorem dX11_one_156 : decode cX11_one 156 = .ok (.getfield 160, 3) := by decide +kernel
theorem dX11_one_159 : decode cX11_one 159 = .ok (.iconst 1, 1) := by decide +kernel
theorem dX11_one_160 : decode cX11_one 160 = .ok (.iadd, 1) := by decide +kernel
theorem dX11_one_161 : decode cX11_one 161 = .ok (.putfield 160, 3) := by decide +kernel
theorem dX11_one_164 : decode cX11_one 164 = .ok (.aload_n 0, 1) := by decide +kernel
theorem dX11_one_165 : decode cX11_one 165 = .ok (.getfield 45, 3) := by decide +kernel
theorem dX11_one_168 : decode cX11_one 168 = .ok (.iload_n 2, 1) := by decide +kernel
theorem dX11_one_169 : decode cX11_one 169 = .ok (.iaload, 1) := by decide +kernel
theorem dX11_one_170 : decode cX11_one 170 = .ok (.ireturn, 1) := by decide +kernel
theorem dX11_one_171 : decode cX11_one 171 = .ok (.iconst 0, 1) := by decide +kernel
theorem dX11_one_172 : decode cX11_one 172 = .ok (.istore_n 3, 1) := by decide +kernel
theorem dX11_one_173 : decode cX11_one 173 = .ok (.iconst 0, 1) := by decide +kernel
theorem dX11_one_174 : decode cX11_one 174 = .ok (.istore 4, 2) := by decide +kernel
theorem dX11_one_176 : decode cX11_one 176 = .ok (.iload 4, 2) := by decide +kernel
theorem dX11_one_178 : decode cX11_one 178 = .ok (.iconst 4, 1) := by decide +kernel
theorem dX11_one_179 : decode cX11_one 179 = .ok (.if_icmp .ge 50, 3) := by decide +kernel
theorem dX11_one_182 : decode cX11_one 182 = .ok (.aload_n 0, 1) := by decide +kernel
theorem dX11_one_183 : decode cX11_one 183 = .ok (.invokevirtual 172, 3) := by decide +kernel
theorem dX11_one_186 : decode cX11_one 186 = .ok (.bipush 48, 2) := by decide +kernel
theorem dX11_one_188 : decode cX11_one 188 = .ok (.if_icmp .lt 41, 3) := by decide +kernel
theorem dX11_one_191 : decode cX11_one 191 = .ok (.aload_n 0, 1) := by decide +kernel
theorem dX11_one_192 : decode cX11_one 192 = .ok (.invokevirtual 172, 3) := by decide +kernel
theorem dX11_one_195 : decode cX11_one 195 = .ok (.bipush 57, 2) := by decide +kernel
theorem dX11_one_197 : decode cX11_one 197 = .ok (.if_icmp .gt 32, 3) := by decide +kernel
theorem dX11_one_200 : decode cX11_one 200 = .ok (.bipush 10, 2) := by decide +kernel
theorem dX11_one_202 : decode cX11_one 202 = .ok (.iload_n 3, 1) := by decide +kernel
theorem dX11_one_203 : decode cX11_one 203 = .ok (.imul, 1) := by decide +kernel
theorem dX11_one_204 : decode cX11_one 204 = .ok (.aload_n 0, 1) := by decide +kernel
theorem dX11_one_205 : decode cX11_one 205 = .ok (.invokevirtual 172, 3) := by decide +kernel
theorem dX11_one_208 : decode cX11_one 208 = .ok (.iadd, 1) := by decide +kernel
theorem dX11_one_209 : decode cX11_one 209 = .ok (.bipush 48, 2) := by decide +kernel
theorem dX11_one_211 : decode cX11_one 211 = .ok (.isub, 1) := by decide +kernel
theorem dX11_one_212 : decode cX11_one 212 = .ok (.istore_n 3, 1) := by decide +kernel
theorem dX11_one_213 : decode cX11_one 213 = .ok (.iinc 4 1, 3) := by decide +kernel
theorem dX11_one_216 : decode cX11_one 216 = .ok (.aload_n 0, 1) := by decide +kernel
theorem dX11_one_217 : decode cX11_one 217 = .ok (.dup, 1) := by decide +kernel
theorem dX11_one_218 : decode cX11_one 218 = .ok (.getfield 160, 3) := by decide +kernel
theorem dX11_one_221 : decode cX11_one 221 = .ok (.iconst 1, 1) := by decide +kernel
theorem dX11_one_222 : decode cX11_one 222 = .ok (.iadd, 1) := by decide +kernel
theorem dX11_one_223 : decode cX11_one 223 = .ok (.putfield 160, 3) := by decide +kernel
theorem dX11_one_226 : decode cX11_one 226 = .ok (.goto (-50), 3) := by decide +kernel
theorem dX11_one_229 : decode cX11_one 229 = .ok (.iload 4, 2) := by decide +kernel
theorem dX11_one_231 : decode cX11_one 231 = .ok (.ifCond .ne 10, 3) := by decide +kernel
theorem dX11_one_234 : decode cX11_one 234 = .ok (.aload_n 0, 1) := by decide +kernel
theorem dX11_one_235 : decode cX11_one 235 = .ok (.invokevirtual 196, 3) := by decide +kernel
theorem dX11_one_238 : decode cX11_one 238 = .ok (.goto 4, 3) := by decide +kernel
theorem dX11_one_241 : decode cX11_one 241 = .ok (.iload_n 3, 1) := by decide +kernel
theorem dX11_one_242 : decode cX11_one 242 = .ok (.ireturn, 1) := by decide +kernel
theorem dX11_workOut_0 : decode cX11_workOut 0 = .ok (.aload_n 0, 1) := by decide +kernel
theorem dX11_workOut_1 : decode cX11_workOut 1 = .ok (.iload_n 1, 1) := by decide +kernel
theorem dX11_workOut_2 : decode cX11_workOut 2 = .ok (.putfield 166, 3) := by decide +kernel
theorem dX11_workOut_5 : decode cX11_workOut 5 = .ok (.aload_n 0, 1) := by decide +kernel
theorem dX11_workOut_6 : decode cX11_workOut 6 = .ok (.iconst 0, 1) := by decide +kernel
theorem dX11_workOut_7 : decode cX11_workOut 7 = .ok (.putfield 160, 3) := by decide +kernel
theorem dX11_workOut_10 : decode cX11_workOut 10 = .ok (.aload_n 0, 1) := by decide +kernel
theorem dX11_workOut_11 : decode cX11_workOut 11 = .ok (.iload_n 2, 1) := by decide +kernel
theorem dX11_workOut_12 : decode cX11_workOut 12 = .ok (.putfield 163, 3) := by decide +kernel
theorem dX11_workOut_15 : decode cX11_workOut 15 = .ok (.aload_n 0, 1) := by decide +kernel
theorem dX11_workOut_16 : decode cX11_workOut 16 = .ok (.iconst (-1), 1) := by decide +kernel
theorem dX11_workOut_17 : decode cX11_workOut 17 = .ok (.putfield 169, 3) := by decide +kernel
theorem dX11_workOut_20 : decode cX11_workOut 20 = .ok (.aload_n 0, 1) := by decide +kernel
theorem dX11_workOut_21 : decode cX11_workOut 21 = .ok (.iconst 0, 1) := by decide +kernel
theorem dX11_workOut_22 : decode cX11_workOut 22 = .ok (.putfield 193, 3) := by decide +kernel
theorem dX11_workOut_25 : decode cX11_workOut 25 = .ok (.iconst 0, 1) := by decide +kernel
theorem dX11_workOut_26 : decode cX11_workOut 26 = .ok (.istore_n 3, 1) := by decide +kernel
theorem dX11_workOut_27 : decode cX11_workOut 27 = .ok (.iconst 0, 1) := by decide +kernel
theorem dX11_workOut_28 : decode cX11_workOut 28 = .ok (.istore 4, 2) := by decide +kernel
theorem dX11_workOut_30 : decode cX11_workOut 30 = .ok (.iconst 1, 1) := by decide +kernel
theorem dX11_workOut_31 : decode cX11_workOut 31 = .ok (.istore 5, 2) := by decide +kernel
theorem dX11_workOut_33 : decode cX11_workOut 33 = .ok (.iload 5, 2) := by decide +kernel
theorem dX11_workOut_35 : decode cX11_workOut 35 = .ok (.ifCond .eq 72, 3) := by decide +kernel
theorem dX11_workOut_38 : decode cX11_workOut 38 = .ok (.aload_n 0, 1) := by decide +kernel
theorem dX11_workOut_39 : decode cX11_workOut 39 = .ok (.invokevirtual 199, 3) := by decide +kernel
theorem dX11_workOut_42 : decode cX11_workOut 42 = .ok (.istore 6, 2) := by decide +kernel
theorem dX11_workOut_44 : decode cX11_workOut 44 = .ok (.iconst 1, 1) := by decide +kernel
theorem dX11_workOut_45 : decode cX11_workOut 45 = .ok (.istore 7, 2) := by decide +kernel
theorem dX11_workOut_47 : decode cX11_workOut 47 = .ok (.aload_n 0, 1) := by decide +kernel
theorem dX11_workOut_48 : decode cX11_workOut 48 = .ok (.bipush 63, 2) := by decide +kernel
theorem dX11_workOut_50 : decode cX11_workOut 50 = .ok (.invokevirtual 179, 3) := by decide +kernel
theorem dX11_workOut_53 : decode cX11_workOut 53 = .ok (.ifCond .eq 21, 3) := by decide +kernel
theorem dX11_workOut_56 : decode cX11_workOut 56 = .ok (.iload 6, 2) := by decide +kernel
theorem dX11_workOut_58 : decode cX11_workOut 58 = .ok (.ifCond .eq 7, 3) := by decide +kernel
theorem dX11_workOut_61 : decode cX11_workOut 61 = .ok (.iconst 1, 1) := by decide +kernel
theorem dX11_workOut_62 : decode cX11_workOut 62 = .ok (.goto 4, 3) := by decide +kernel
theorem dX11_workOut_65 : decode cX11_workOut 65 = .ok (.iconst 0, 1) := by decide +kernel
theorem dX11_workOut_66 : decode cX11_workOut 66 = .ok (.istore 7, 2) := by decide +kernel
theorem dX11_workOut_68 : decode cX11_workOut 68 = .ok (.aload_n 0, 1) := by decide +kernel
theorem dX11_workOut_69 : decode cX11_workOut 69 = .ok (.invokevirtual 199, 3) := by decide +kernel
theorem dX11_workOut_72 : decode cX11_workOut 72 = .ok (.istore 6, 2) := by decide +kernel
theorem dX11_workOut_74 : decode cX11_workOut 74 = .ok (.aload_n 0, 1) := by decide +kernel
theorem dX11_workOut_75 : decode cX11_workOut 75 = .ok (.getfield 169, 3) := by decide +kernel
theorem dX11_workOut_78 : decode cX11_workOut 78 = .ok (.ifCond .ge 18, 3) := by decide +kernel
theorem dX11_workOut_81 : decode cX11_workOut 81 = .ok (.iload 7, 2) := by decide +kernel
theorem dX11_workOut_83 : decode cX11_workOut 83 = .ok (.ifCond .eq 13, 3) := by decide +kernel
theorem dX11_workOut_86 : decode cX11_workOut 86 = .ok (.iload_n 3, 1) := by decide +kernel
theorem dX11_workOut_87 : decode cX11_workOut 87 = .ok (.ifCond .ne 9, 3) := by decide +kernel
theorem dX11_workOut_90 : decode cX11_workOut 90 = .ok (.iconst 1, 1) := by decide +kernel
theorem dX11_workOut_91 : decode cX11_workOut 91 = .ok (.istore_n 3, 1) := by decide +kernel
theorem dX11_workOut_92 : decode cX11_workOut 92 = .ok (.iload 6, 2) := by decide +kernel
theorem dX11_workOut_94 : decode cX11_workOut 94 = .ok (.istore 4, 2) := by decide +kernel
theorem dX11_workOut_96 : decode cX11_workOut 96 = .ok (.aload_n 0, 1) := by decide +kernel
