theorem dX11_workOut_97 : decode cX11_workOut 97 = .ok (.bipush 59, 2) := by decide +kernel
theorem dX11_workOut_99 : decode cX11_workOut 99 = .ok (.invokevirtual 179, 3) := by decide +kernel
theorem dX11_workOut_102 : decode cX11_workOut 102 = .ok (.istore 5, 2) := by decide +kernel
theorem dX11_workOut_104 : decode cX11_workOut 104 = .ok (.goto (-71), 3) := by decide +kernel
theorem dX11_workOut_107 : decode cX11_workOut 107 = .ok (.aload_n 0, 1) := by decide +kernel
theorem dX11_workOut_108 : decode cX11_workOut 108 = .ok (.getfield 169, 3) := by decide +kernel
theorem dX11_workOut_111 : decode cX11_workOut 111 = .ok (.ifCond .ge 19, 3) := by decide +kernel
theorem dX11_workOut_114 : decode cX11_workOut 114 = .ok (.aload_n 0, 1) := by decide +kernel
theorem dX11_workOut_115 : decode cX11_workOut 115 = .ok (.getfield 160, 3) := by decide +kernel
theorem dX11_workOut_118 : decode cX11_workOut 118 = .ok (.aload_n 0, 1) := by decide +kernel
theorem dX11_workOut_119 : decode cX11_workOut 119 = .ok (.getfield 163, 3) := by decide +kernel
theorem dX11_workOut_122 : decode cX11_workOut 122 = .ok (.if_icmp .ge 8, 3) := by decide +kernel
theorem dX11_workOut_125 : decode cX11_workOut 125 = .ok (.aload_n 0, 1) := by decide +kernel
theorem dX11_workOut_126 : decode cX11_workOut 126 = .ok (.invokevirtual 196, 3) := by decide +kernel
theorem dX11_workOut_129 : decode cX11_workOut 129 = .ok (.ireturn, 1) := by decide +kernel
theorem dX11_workOut_130 : decode cX11_workOut 130 = .ok (.iload 4, 2) := by decide +kernel
theorem dX11_workOut_132 : decode cX11_workOut 132 = .ok (.ireturn, 1) := by decide +kernel
theorem dX11_law_0 : decode cX11_law 0 = .ok (.aload_n 0, 1) := by decide +kernel
theorem dX11_law_1 : decode cX11_law 1 = .ok (.iconst (-1), 1) := by decide +kernel
theorem dX11_law_2 : decode cX11_law 2 = .ok (.aload_n 0, 1) := by decide +kernel
theorem dX11_law_3 : decode cX11_law 3 = .ok (.getfield 157, 3) := by decide +kernel
theorem dX11_law_6 : decode cX11_law 6 = .ok (.invokevirtual 205, 3) := by decide +kernel
theorem dX11_law_9 : decode cX11_law 9 = .ok (.istore_n 1, 1) := by decide +kernel
theorem dX11_law_10 : decode cX11_law 10 = .ok (.aload_n 0, 1) := by decide +kernel
theorem dX11_law_11 : decode cX11_law 11 = .ok (.getfield 157, 3) := by decide +kernel
theorem dX11_law_14 : decode cX11_law 14 = .ok (.istore_n 2, 1) := by decide +kernel
theorem dX11_law_15 : decode cX11_law 15 = .ok (.aload_n 0, 1) := by decide +kernel
theorem dX11_law_16 : decode cX11_law 16 = .ok (.iconst 0, 1) := by decide +kernel
theorem dX11_law_17 : decode cX11_law 17 = .ok (.putfield 157, 3) := by decide +kernel
theorem dX11_law_20 : decode cX11_law 20 = .ok (.aload_n 0, 1) := by decide +kernel
theorem dX11_law_21 : decode cX11_law 21 = .ok (.getfield 169, 3) := by decide +kernel
theorem dX11_law_24 : decode cX11_law 24 = .ok (.ifCond .lt 11, 3) := by decide +kernel
theorem dX11_law_27 : decode cX11_law 27 = .ok (.bipush (-100), 2) := by decide +kernel
theorem dX11_law_29 : decode cX11_law 29 = .ok (.aload_n 0, 1) := by decide +kernel
theorem dX11_law_30 : decode cX11_law 30 = .ok (.getfield 169, 3) := by decide +kernel
theorem dX11_law_33 : decode cX11_law 33 = .ok (.isub, 1) := by decide +kernel
theorem dX11_law_34 : decode cX11_law 34 = .ok (.ireturn, 1) := by decide +kernel
theorem dX11_law_35 : decode cX11_law 35 = .ok (.iconst 0, 1) := by decide +kernel
theorem dX11_law_36 : decode cX11_law 36 = .ok (.istore_n 3, 1) := by decide +kernel
theorem dX11_law_37 : decode cX11_law 37 = .ok (.iload_n 3, 1) := by decide +kernel
theorem dX11_law_38 : decode cX11_law 38 = .ok (.iload_n 2, 1) := by decide +kernel
theorem dX11_law_39 : decode cX11_law 39 = .ok (.if_icmp .ge 21, 3) := by decide +kernel
theorem dX11_law_42 : decode cX11_law 42 = .ok (.aload_n 0, 1) := by decide +kernel
theorem dX11_law_43 : decode cX11_law 43 = .ok (.getfield 42, 3) := by decide +kernel
theorem dX11_law_46 : decode cX11_law 46 = .ok (.iload_n 3, 1) := by decide +kernel
theorem dX11_law_47 : decode cX11_law 47 = .ok (.aload_n 0, 1) := by decide +kernel
theorem dX11_law_48 : decode cX11_law 48 = .ok (.getfield 39, 3) := by decide +kernel
theorem dX11_law_51 : decode cX11_law 51 = .ok (.iload_n 3, 1) := by decide +kernel
theorem dX11_law_52 : decode cX11_law 52 = .ok (.iaload, 1) := by decide +kernel
theorem dX11_law_53 : decode cX11_law 53 = .ok (.iastore, 1) := by decide +kernel
theorem dX11_law_54 : decode cX11_law 54 = .ok (.iinc 3 1, 3) := by decide +kernel
theorem dX11_law_57 : decode cX11_law 57 = .ok (.goto (-20), 3) := by decide +kernel
theorem dX11_law_60 : decode cX11_law 60 = .ok (.aload_n 0, 1) := by decide +kernel
theorem dX11_law_61 : decode cX11_law 61 = .ok (.iload_n 2, 1) := by decide +kernel
theorem dX11_law_62 : decode cX11_law 62 = .ok (.putfield 95, 3) := by decide +kernel
theorem dX11_law_65 : decode cX11_law 65 = .ok (.iconst 1, 1) := by decide +kernel
theorem dX11_law_66 : decode cX11_law 66 = .ok (.ireturn, 1) := by decide +kernel
theorem dX11_rankOf_0 : decode cX11_rankOf 0 = .ok (.aload_n 0, 1) := by decide +kernel
theorem dX11_rankOf_1 : decode cX11_rankOf 1 = .ok (.getfield 24, 3) := by decide +kernel
theorem dX11_rankOf_4 : decode cX11_rankOf 4 = .ok (.bipush 49, 2) := by decide +kernel
theorem dX11_rankOf_6 : decode cX11_rankOf 6 = .ok (.aload_n 0, 1) := by decide +kernel
theorem dX11_rankOf_7 : decode cX11_rankOf 7 = .ok (.getfield 11, 3) := by decide +kernel
theorem dX11_rankOf_10 : decode cX11_rankOf 10 = .ok (.iload_n 1, 1) := by decide +kernel
theorem dX11_rankOf_11 : decode cX11_rankOf 11 = .ok (.iaload, 1) := by decide +kernel
theorem dX11_rankOf_12 : decode cX11_rankOf 12 = .ok (.imul, 1) := by decide +kernel
theorem dX11_rankOf_13 : decode cX11_rankOf 13 = .ok (.iload_n 3, 1) := by decide +kernel
theorem dX11_rankOf_14 : decode cX11_rankOf 14 = .ok (.iadd, 1) := by decide +kernel
theorem dX11_rankOf_15 : decode cX11_rankOf 15 = .ok (.iaload, 1) := by decide +kernel
theorem dX11_rankOf_16 : decode cX11_rankOf 16 = .ok (.istore 4, 2) := by decide +kernel
theorem dX11_rankOf_18 : decode cX11_rankOf 18 = .ok (.aload_n 0, 1) := by decide +kernel
theorem dX11_rankOf_19 : decode cX11_rankOf 19 = .ok (.getfield 95, 3) := by decide +kernel
theorem dX11_rankOf_22 : decode cX11_rankOf 22 = .ok (.ifCond .ge 7, 3) := by decide +kernel
theorem dX11_rankOf_25 : decode cX11_rankOf 25 = .ok (.iload 4, 2) := by decide +kernel
theorem dX11_rankOf_27 : decode cX11_rankOf 27 = .ok (.ineg, 1) := by decide +kernel
theorem dX11_rankOf_28 : decode cX11_rankOf 28 = .ok (.ireturn, 1) := by decide +kernel
theorem dX11_rankOf_29 : decode cX11_rankOf 29 = .ok (.iconst 0, 1) := by decide +kernel
theorem dX11_rankOf_30 : decode cX11_rankOf 30 = .ok (.istore 5, 2) := by decide +kernel
theorem dX11_rankOf_32 : decode cX11_rankOf 32 = .ok (.iconst 0, 1) := by decide +kernel
theorem dX11_rankOf_33 : decode cX11_rankOf 33 = .ok (.istore 6, 2) := by decide +kernel
theorem dX11_rankOf_35 : decode cX11_rankOf 35 = .ok (.iconst 0, 1) := by decide +kernel
theorem dX11_rankOf_36 : decode cX11_rankOf 36 = .ok (.istore 7, 2) := by decide +kernel
theorem dX11_rankOf_38 : decode cX11_rankOf 38 = .ok (.iload 7, 2) := by decide +kernel
theorem dX11_rankOf_40 : decode cX11_rankOf 40 = .ok (.bipush 49, 2) := by decide +kernel
theorem dX11_rankOf_42 : decode cX11_rankOf 42 = .ok (.if_icmp .ge 67, 3) := by decide +kernel
theorem dX11_rankOf_45 : decode cX11_rankOf 45 = .ok (.iload 5, 2) := by decide +kernel
theorem dX11_rankOf_47 : decode cX11_rankOf 47 = .ok (.iload_n 3, 1) := by decide +kernel
theorem dX11_rankOf_48 : decode cX11_rankOf 48 = .ok (.iload 7, 2) := by decide +kernel
theorem dX11_rankOf_50 : decode cX11_rankOf 50 = .ok (.invokestatic 99, 3) := by decide +kernel
theorem dX11_rankOf_53 : decode cX11_rankOf 53 = .ok (.ifCond .eq 16, 3) := by decide +kernel
theorem dX11_rankOf_56 : decode cX11_rankOf 56 = .ok (.aload_n 0, 1) := by decide +kernel
theorem dX11_rankOf_57 : decode cX11_rankOf 57 = .ok (.iload 7, 2) := by decide +kernel
theorem dX11_rankOf_59 : decode cX11_rankOf 59 = .ok (.invokevirtual 147, 3) := by decide +kernel
theorem dX11_rankOf_62 : decode cX11_rankOf 62 = .ok (.ifCond .eq 7, 3) := by decide +kernel
theorem dX11_rankOf_65 : decode cX11_rankOf 65 = .ok (.iconst 1, 1) := by decide +kernel
theorem dX11_rankOf_66 : decode cX11_rankOf 66 = .ok (.goto 4, 3) := by decide +kernel
theorem dX11_rankOf_69 : decode cX11_rankOf 69 = .ok (.iconst 0, 1) := by decide +kernel
theorem dX11_rankOf_70 : decode cX11_rankOf 70 = .ok (.iadd, 1) := by decide +kernel
theorem dX11_rankOf_71 : decode cX11_rankOf 71 = .ok (.istore 5, 2) := by decide +kernel
theorem dX11_rankOf_73 : decode cX11_rankOf 73 = .ok (.iload 6, 2) := by decide +kernel
theorem dX11_rankOf_75 : decode cX11_rankOf 75 = .ok (.iload_n 3, 1) := by decide +kernel
theorem dX11_rankOf_76 : decode cX11_rankOf 76 = .ok (.iload 7, 2) := by decide +kernel
theorem dX11_rankOf_78 : decode cX11_rankOf 78 = .ok (.invokestatic 99, 3) := by decide +kernel
theorem dX11_rankOf_81 : decode cX11_rankOf 81 = .ok (.ifCond .eq 18, 3) := by decide +kernel
theorem dX11_rankOf_84 : decode cX11_rankOf 84 = .ok (.aload_n 0, 1) := by decide +kernel
theorem dX11_rankOf_85 : decode cX11_rankOf 85 = .ok (.getfield 33, 3) := by decide +kernel
theorem dX11_rankOf_88 : decode cX11_rankOf 88 = .ok (.iload 7, 2) := by decide +kernel
theorem dX11_rankOf_90 : decode cX11_rankOf 90 = .ok (.iaload, 1) := by decide +kernel
theorem dX11_rankOf_91 : decode cX11_rankOf 91 = .ok (.iload_n 1, 1) := by decide +kernel
theorem dX11_rankOf_92 : decode cX11_rankOf 92 = .ok (.if_icmp .ne 7, 3) := by decide +kernel
theorem dX11_rankOf_95 : decode cX11_rankOf 95 = .ok (.iconst 1, 1) := by decide +kernel
theorem dX11_rankOf_96 : decode cX11_rankOf 96 = .ok (.goto 4, 3) := by decide +kernel
theorem dX11_rankOf_99 : decode cX11_rankOf 99 = .ok (.iconst 0, 1) := by decide +kernel
theorem dX11_rankOf_100 : decode cX11_rankOf 100 = .ok (.iadd, 1) := by decide +kernel
theorem dX11_rankOf_101 : decode cX11_rankOf 101 = .ok (.istore 6, 2) := by decide +kernel
theorem dX11_rankOf_103 : decode cX11_rankOf 103 = .ok (.iinc 7 1, 3) := by decide +kernel
theorem dX11_rankOf_106 : decode cX11_rankOf 106 = .ok (.goto (-68), 3) := by decide +kernel
theorem dX11_rankOf_109 : decode cX11_rankOf 109 = .ok (.aload_n 0, 1) := by decide +kernel
theorem dX11_rankOf_110 : decode cX11_rankOf 110 = .ok (.getfield 45, 3) := by decide +kernel
theorem dX11_rankOf_113 : decode cX11_rankOf 113 = .ok (.iconst 0, 1) := by decide +kernel
theorem dX11_rankOf_114 : decode cX11_rankOf 114 = .ok (.iload 4, 2) := by decide +kernel
theorem dX11_rankOf_116 : decode cX11_rankOf 116 = .ok (.iastore, 1) := by decide +kernel
theorem dX11_rankOf_117 : decode cX11_rankOf 117 = .ok (.aload_n 0, 1) := by decide +kernel
theorem dX11_rankOf_118 : decode cX11_rankOf 118 = .ok (.getfield 45, 3) := by decide +kernel
theorem dX11_rankOf_121 : decode cX11_rankOf 121 = .ok (.iconst 1, 1) := by decide +kernel
theorem dX11_rankOf_122 : decode cX11_rankOf 122 = .ok (.iload 5, 2) := by decide +kernel
theorem dX11_rankOf_124 : decode cX11_rankOf 124 = .ok (.iastore, 1) := by decide +kernel
theorem dX11_rankOf_125 : decode cX11_rankOf 125 = .ok (.aload_n 0, 1) := by decide +kernel
theorem dX11_rankOf_126 : decode cX11_rankOf 126 = .ok (.getfield 45, 3) := by decide +kernel
theorem dX11_rankOf_129 : decode cX11_rankOf 129 = .ok (.iconst 2, 1) := by decide +kernel
theorem dX11_rankOf_130 : decode cX11_rankOf 130 = .ok (.iload 6, 2) := by decide +kernel
theorem dX11_rankOf_132 : decode cX11_rankOf 132 = .ok (.iastore, 1) := by decide +kernel
theorem dX11_rankOf_133 : decode cX11_rankOf 133 = .ok (.aload_n 0, 1) := by decide +kernel
theorem dX11_rankOf_134 : decode cX11_rankOf 134 = .ok (.getfield 45, 3) := by decide +kernel
theorem dX11_rankOf_137 : decode cX11_rankOf 137 = .ok (.iconst 3, 1) := by decide +kernel
theorem dX11_rankOf_138 : decode cX11_rankOf 138 = .ok (.iload_n 2, 1) := by decide +kernel
theorem dX11_rankOf_139 : decode cX11_rankOf 139 = .ok (.iastore, 1) := by decide +kernel
theorem dX11_rankOf_140 : decode cX11_rankOf 140 = .ok (.aload_n 0, 1) := by decide +kernel
theorem dX11_rankOf_141 : decode cX11_rankOf 141 = .ok (.getfield 45, 3) := by decide +kernel
theorem dX11_rankOf_144 : decode cX11_rankOf 144 = .ok (.iconst 4, 1) := by decide +kernel
theorem dX11_rankOf_145 : decode cX11_rankOf 145 = .ok (.iload_n 1, 1) := by decide +kernel
theorem dX11_rankOf_146 : decode cX11_rankOf 146 = .ok (.iastore, 1) := by decide +kernel
theorem dX11_rankOf_147 : decode cX11_rankOf 147 = .ok (.aload_n 0, 1) := by decide +kernel
theorem dX11_rankOf_148 : decode cX11_rankOf 148 = .ok (.getfield 45, 3) := by decide +kernel
theorem dX11_rankOf_151 : decode cX11_rankOf 151 = .ok (.iconst 5, 1) := by decide +kernel
theorem dX11_rankOf_152 : decode cX11_rankOf 152 = .ok (.iload_n 3, 1) := by decide +kernel
theorem dX11_rankOf_153 : decode cX11_rankOf 153 = .ok (.bipush 7, 2) := by decide +kernel
theorem dX11_rankOf_155 : decode cX11_rankOf 155 = .ok (.idiv, 1) := by decide +kernel
theorem dX11_rankOf_156 : decode cX11_rankOf 156 = .ok (.iastore, 1) := by decide +kernel
theorem dX11_rankOf_157 : decode cX11_rankOf 157 = .ok (.aload_n 0, 1) := by decide +kernel
theorem dX11_rankOf_158 : decode cX11_rankOf 158 = .ok (.iconst 0, 1) := by decide +kernel
theorem dX11_rankOf_159 : decode cX11_rankOf 159 = .ok (.aload_n 0, 1) := by decide +kernel
theorem dX11_rankOf_160 : decode cX11_rankOf 160 = .ok (.getfield 95, 3) := by decide +kernel
theorem dX11_rankOf_163 : decode cX11_rankOf 163 = .ok (.invokevirtual 205, 3) := by decide +kernel
theorem dX11_rankOf_166 : decode cX11_rankOf 166 = .ok (.ireturn, 1) := by decide +kernel
theorem dX11_whereOf_0 : decode cX11_whereOf 0 = .ok (.bipush (-2), 2) := by decide +kernel
theorem dX11_whereOf_2 : decode cX11_whereOf 2 = .ok (.istore_n 3, 1) := by decide +kernel
theorem dX11_whereOf_3 : decode cX11_whereOf 3 = .ok (.iconst 0, 1) := by decide +kernel
theorem dX11_whereOf_4 : decode cX11_whereOf 4 = .ok (.istore 4, 2) := by decide +kernel
theorem dX11_whereOf_6 : decode cX11_whereOf 6 = .ok (.iconst 0, 1) := by decide +kernel
theorem dX11_whereOf_7 : decode cX11_whereOf 7 = .ok (.istore 5, 2) := by decide +kernel
theorem dX11_whereOf_9 : decode cX11_whereOf 9 = .ok (.iload 5, 2) := by decide +kernel
theorem dX11_whereOf_11 : decode cX11_whereOf 11 = .ok (.bipush 49, 2) := by decide +kernel
theorem dX11_whereOf_13 : decode cX11_whereOf 13 = .ok (.if_icmp .ge 72, 3) := by decide +kernel
theorem dX11_whereOf_16 : decode cX11_whereOf 16 = .ok (.aload_n 0, 1) := by decide +kernel
theorem dX11_whereOf_17 : decode cX11_whereOf 17 = .ok (.iload 5, 2) := by decide +kernel
theorem dX11_whereOf_19 : decode cX11_whereOf 19 = .ok (.invokevirtual 147, 3) := by decide +kernel
theorem dX11_whereOf_22 : decode cX11_whereOf 22 = .ok (.ifCond .ne 57, 3) := by decide +kernel
theorem dX11_whereOf_25 : decode cX11_whereOf 25 = .ok (.aload_n 0, 1) := by decide +kernel
theorem dX11_whereOf_26 : decode cX11_whereOf 26 = .ok (.iload_n 1, 1) := by decide +kernel
theorem dX11_whereOf_27 : decode cX11_whereOf 27 = .ok (.iload_n 2, 1) := by decide +kernel
theorem dX11_whereOf_28 : decode cX11_whereOf 28 = .ok (.iload 5, 2) := by decide +kernel
theorem dX11_whereOf_30 : decode cX11_whereOf 30 = .ok (.invokevirtual 208, 3) := by decide +kernel
theorem dX11_whereOf_33 : decode cX11_whereOf 33 = .ok (.istore 6, 2) := by decide +kernel
theorem dX11_whereOf_35 : decode cX11_whereOf 35 = .ok (.iload_n 3, 1) := by decide +kernel
theorem dX11_whereOf_36 : decode cX11_whereOf 36 = .ok (.ifCond .lt 10, 3) := by decide +kernel
theorem dX11_whereOf_39 : decode cX11_whereOf 39 = .ok (.iload 6, 2) := by decide +kernel
theorem dX11_whereOf_41 : decode cX11_whereOf 41 = .ok (.iload 4, 2) := by decide +kernel
theorem dX11_whereOf_43 : decode cX11_whereOf 43 = .ok (.if_icmp .le 7, 3) := by decide +kernel
theorem dX11_whereOf_46 : decode cX11_whereOf 46 = .ok (.iconst 1, 1) := by decide +kernel
theorem dX11_whereOf_47 : decode cX11_whereOf 47 = .ok (.goto 4, 3) := by decide +kernel
theorem dX11_whereOf_50 : decode cX11_whereOf 50 = .ok (.iconst 0, 1) := by decide +kernel
theorem dX11_whereOf_51 : decode cX11_whereOf 51 = .ok (.istore 7, 2) := by decide +kernel
theorem dX11_whereOf_53 : decode cX11_whereOf 53 = .ok (.iload 7, 2) := by decide +kernel
theorem dX11_whereOf_55 : decode cX11_whereOf 55 = .ok (.ifCond .eq 8, 3) := by decide +kernel
theorem dX11_whereOf_58 : decode cX11_whereOf 58 = .ok (.iload 5, 2) := by decide +kernel
theorem dX11_whereOf_60 : decode cX11_whereOf 60 = .ok (.goto 4, 3) := by decide +kernel
theorem dX11_whereOf_63 : decode cX11_whereOf 63 = .ok (.iload_n 3, 1) := by decide +kernel
theorem dX11_whereOf_64 : decode cX11_whereOf 64 = .ok (.istore_n 3, 1) := by decide +kernel
theorem dX11_whereOf_65 : decode cX11_whereOf 65 = .ok (.iload 7, 2) := by decide +kernel
theorem dX11_whereOf_67 : decode cX11_whereOf 67 = .ok (.ifCond .eq 8, 3) := by decide +kernel
theorem dX11_whereOf_70 : decode cX11_whereOf 70 = .ok (.iload 6, 2) := by decide +kernel
theorem dX11_whereOf_72 : decode cX11_whereOf 72 = .ok (.goto 5, 3) := by decide +kernel
theorem dX11_whereOf_75 : decode cX11_whereOf 75 = .ok (.iload 4, 2) := by decide +kernel
theorem dX11_whereOf_77 : decode cX11_whereOf 77 = .ok (.istore 4, 2) := by decide +kernel
theorem dX11_whereOf_79 : decode cX11_whereOf 79 = .ok (.iinc 5 1, 3) := by decide +kernel
theorem dX11_whereOf_82 : decode cX11_whereOf 82 = .ok (.goto (-73), 3) := by decide +kernel
theorem dX11_whereOf_85 : decode cX11_whereOf 85 = .ok (.iload_n 3, 1) := by decide +kernel
theorem dX11_whereOf_86 : decode cX11_whereOf 86 = .ok (.ireturn, 1) := by decide +kernel
theorem dX11_sells_0 : decode cX11_sells 0 = .ok (.aload_n 0, 1) := by decide +kernel
theorem dX11_sells_1 : decode cX11_sells 1 = .ok (.iload_n 1, 1) := by decide +kernel
theorem dX11_sells_2 : decode cX11_sells 2 = .ok (.iload_n 2, 1) := by decide +kernel
theorem dX11_sells_3 : decode cX11_sells 3 = .ok (.invokevirtual 212, 3) := by decide +kernel
theorem dX11_sells_6 : decode cX11_sells 6 = .ok (.istore_n 3, 1) := by decide +kernel
theorem dX11_sells_7 : decode cX11_sells 7 = .ok (.iload_n 3, 1) := by decide +kernel
theorem dX11_sells_8 : decode cX11_sells 8 = .ok (.ifCond .lt 17, 3) := by decide +kernel
theorem dX11_sells_11 : decode cX11_sells 11 = .ok (.aload_n 0, 1) := by decide +kernel
theorem dX11_sells_12 : decode cX11_sells 12 = .ok (.getfield 33, 3) := by decide +kernel
theorem dX11_sells_15 : decode cX11_sells 15 = .ok (.iload_n 3, 1) := by decide +kernel
theorem dX11_sells_16 : decode cX11_sells 16 = .ok (.iload_n 1, 1) := by decide +kernel
theorem dX11_sells_17 : decode cX11_sells 17 = .ok (.iastore, 1) := by decide +kernel
theorem dX11_sells_18 : decode cX11_sells 18 = .ok (.aload_n 0, 1) := by decide +kernel
theorem dX11_sells_19 : decode cX11_sells 19 = .ok (.getfield 36, 3) := by decide +kernel
theorem dX11_sells_22 : decode cX11_sells 22 = .ok (.iload_n 3, 1) := by decide +kernel
theorem dX11_sells_23 : decode cX11_sells 23 = .ok (.iload_n 2, 1) := by decide +kernel
theorem dX11_sells_24 : decode cX11_sells 24 = .ok (.iastore, 1) := by decide +kernel
theorem dX11_sells_25 : decode cX11_sells 25 = .ok (.iload_n 3, 1) := by decide +kernel
theorem dX11_sells_26 : decode cX11_sells 26 = .ok (.ireturn, 1) := by decide +kernel
theorem dX11_isAs_0 : decode cX11_isAs 0 = .ok (.iload_n 1, 1) := by decide +kernel
theorem dX11_isAs_1 : decode cX11_isAs 1 = .ok (.ifCond .lt 30, 3) := by decide +kernel
theorem dX11_isAs_4 : decode cX11_isAs 4 = .ok (.aload_n 0, 1) := by decide +kernel
theorem dX11_isAs_5 : decode cX11_isAs 5 = .ok (.iload_n 1, 1) := by decide +kernel
theorem dX11_isAs_6 : decode cX11_isAs 6 = .ok (.bipush 10, 2) := by decide +kernel
theorem dX11_isAs_8 : decode cX11_isAs 8 = .ok (.idiv, 1) := by decide +kernel
theorem dX11_isAs_9 : decode cX11_isAs 9 = .ok (.i2l, 1) := by decide +kernel
theorem dX11_isAs_10 : decode cX11_isAs 10 = .ok (.invokevirtual 128, 3) := by decide +kernel
theorem dX11_isAs_13 : decode cX11_isAs 13 = .ok (.ifCond .eq 18, 3) := by decide +kernel
theorem dX11_isAs_16 : decode cX11_isAs 16 = .ok (.iload_n 1, 1) := by decide +kernel
theorem dX11_isAs_17 : decode cX11_isAs 17 = .ok (.bipush 10, 2) := by decide +kernel
theorem dX11_isAs_19 : decode cX11_isAs 19 = .ok (.irem, 1) := by decide +kernel
theorem dX11_isAs_20 : decode cX11_isAs 20 = .ok (.i2l, 1) := by decide +kernel
theorem dX11_isAs_21 : decode cX11_isAs 21 = .ok (.invokestatic 215, 3) := by decide +kernel
theorem dX11_isAs_24 : decode cX11_isAs 24 = .ok (.ifCond .eq 7, 3) := by decide +kernel
theorem dX11_isAs_27 : decode cX11_isAs 27 = .ok (.iconst 1, 1) := by decide +kernel
theorem dX11_isAs_28 : decode cX11_isAs 28 = .ok (.goto 4, 3) := by decide +kernel
theorem dX11_isAs_31 : decode cX11_isAs 31 = .ok (.iconst 0, 1) := by decide +kernel
theorem dX11_isAs_32 : decode cX11_isAs 32 = .ok (.ireturn, 1) := by decide +kernel
theorem dX11_where_0 : decode cX11_where 0 = .ok (.aload_n 0, 1) := by decide +kernel
theorem dX11_where_1 : decode cX11_where 1 = .ok (.iload_n 1, 1) := by decide +kernel
theorem dX11_where_2 : decode cX11_where 2 = .ok (.invokevirtual 218, 3) := by decide +kernel
theorem dX11_where_5 : decode cX11_where 5 = .ok (.ifCond .ne 5, 3) := by decide +kernel
theorem dX11_where_8 : decode cX11_where 8 = .ok (.iconst (-1), 1) := by decide +kernel
theorem dX11_where_9 : decode cX11_where 9 = .ok (.ireturn, 1) := by decide +kernel
theorem dX11_where_10 : decode cX11_where 10 = .ok (.aload_n 0, 1) := by decide +kernel
theorem dX11_where_11 : decode cX11_where 11 = .ok (.invokevirtual 140, 3) := by decide +kernel
theorem dX11_where_14 : decode cX11_where 14 = .ok (.aload_n 0, 1) := by decide +kernel
theorem dX11_where_15 : decode cX11_where 15 = .ok (.iload_n 1, 1) := by decide +kernel
theorem dX11_where_16 : decode cX11_where 16 = .ok (.bipush 10, 2) := by decide +kernel
theorem dX11_where_18 : decode cX11_where 18 = .ok (.idiv, 1) := by decide +kernel
theorem dX11_where_19 : decode cX11_where 19 = .ok (.iload_n 1, 1) := by decide +kernel
theorem dX11_where_20 : decode cX11_where 20 = .ok (.bipush 10, 2) := by decide +kernel
theorem dX11_where_22 : decode cX11_where 22 = .ok (.irem, 1) := by decide +kernel
theorem dX11_where_23 : decode cX11_where 23 = .ok (.invokevirtual 212, 3) := by decide +kernel
theorem dX11_where_26 : decode cX11_where 26 = .ok (.ireturn, 1) := by decide +kernel
theorem dX11_bytesIs_0 : decode cX11_bytesIs 0 = .ok (.iload_n 1, 1) := by decide +kernel
theorem dX11_bytesIs_1 : decode cX11_bytesIs 1 = .ok (.invokestatic 124, 3) := by decide +kernel
theorem dX11_bytesIs_4 : decode cX11_bytesIs 4 = .ok (.ifCond .ne 7, 3) := by decide +kernel
theorem dX11_bytesIs_7 : decode cX11_bytesIs 7 = .ok (.iconst (-1), 1) := by decide +kernel
theorem dX11_bytesIs_8 : decode cX11_bytesIs 8 = .ok (.goto 34, 3) := by decide +kernel
theorem dX11_bytesIs_11 : decode cX11_bytesIs 11 = .ok (.aload_n 0, 1) := by decide +kernel
theorem dX11_bytesIs_12 : decode cX11_bytesIs 12 = .ok (.getfield 82, 3) := by decide +kernel
theorem dX11_bytesIs_15 : decode cX11_bytesIs 15 = .ok (.iload_n 1, 1) := by decide +kernel
theorem dX11_bytesIs_16 : decode cX11_bytesIs 16 = .ok (.iaload, 1) := by decide +kernel
theorem dX11_bytesIs_17 : decode cX11_bytesIs 17 = .ok (.ifCond .ge 8, 3) := by decide +kernel
theorem dX11_bytesIs_20 : decode cX11_bytesIs 20 = .ok (.bipush (-11), 2) := by decide +kernel
theorem dX11_bytesIs_22 : decode cX11_bytesIs 22 = .ok (.goto 20, 3) := by decide +kernel
theorem dX11_bytesIs_25 : decode cX11_bytesIs 25 = .ok (.aload_n 0, 1) := by decide +kernel
theorem dX11_bytesIs_26 : decode cX11_bytesIs 26 = .ok (.getfield 82, 3) := by decide +kernel
theorem dX11_bytesIs_29 : decode cX11_bytesIs 29 = .ok (.iload_n 1, 1) := by decide +kernel
theorem dX11_bytesIs_30 : decode cX11_bytesIs 30 = .ok (.iaload, 1) := by decide +kernel
theorem dX11_bytesIs_31 : decode cX11_bytesIs 31 = .ok (.bipush 50, 2) := by decide +kernel
theorem dX11_bytesIs_33 : decode cX11_bytesIs 33 = .ok (.if_icmp .ne 7, 3) := by decide +kernel
theorem dX11_bytesIs_36 : decode cX11_bytesIs 36 = .ok (.iconst 1, 1) := by decide +kernel
theorem dX11_bytesIs_37 : decode cX11_bytesIs 37 = .ok (.goto 5, 3) := by decide +kernel
theorem dX11_bytesIs_40 : decode cX11_bytesIs 40 = .ok (.bipush (-12), 2) := by decide +kernel
theorem dX11_bytesIs_42 : decode cX11_bytesIs 42 = .ok (.ireturn, 1) := by decide +kernel
theorem dX11_itemAt_0 : decode cX11_itemAt 0 = .ok (.aload_n 0, 1) := by decide +kernel
theorem dX11_itemAt_1 : decode cX11_itemAt 1 = .ok (.getfield 88, 3) := by decide +kernel
theorem dX11_itemAt_4 : decode cX11_itemAt 4 = .ok (.bipush 60, 2) := by decide +kernel
theorem dX11_itemAt_6 : decode cX11_itemAt 6 = .ok (.iload_n 1, 1) := by decide +kernel
theorem dX11_itemAt_7 : decode cX11_itemAt 7 = .ok (.imul, 1) := by decide +kernel
theorem dX11_itemAt_8 : decode cX11_itemAt 8 = .ok (.iload_n 2, 1) := by decide +kernel
theorem dX11_itemAt_9 : decode cX11_itemAt 9 = .ok (.iadd, 1) := by decide +kernel
theorem dX11_itemAt_10 : decode cX11_itemAt 10 = .ok (.laload, 1) := by decide +kernel
theorem dX11_itemAt_11 : decode cX11_itemAt 11 = .ok (.lreturn, 1) := by decide +kernel
theorem dX11_salesOf_0 : decode cX11_salesOf 0 = .ok (.iconst 0, 1) := by decide +kernel
theorem dX11_salesOf_1 : decode cX11_salesOf 1 = .ok (.istore_n 2, 1) := by decide +kernel
theorem dX11_salesOf_2 : decode cX11_salesOf 2 = .ok (.iconst 2, 1) := by decide +kernel
theorem dX11_salesOf_3 : decode cX11_salesOf 3 = .ok (.iload_n 2, 1) := by decide +kernel
theorem dX11_salesOf_4 : decode cX11_salesOf 4 = .ok (.imul, 1) := by decide +kernel
theorem dX11_salesOf_5 : decode cX11_salesOf 5 = .ok (.iconst 1, 1) := by decide +kernel
theorem dX11_salesOf_6 : decode cX11_salesOf 6 = .ok (.iadd, 1) := by decide +kernel
theorem dX11_salesOf_7 : decode cX11_salesOf 7 = .ok (.aload_n 0, 1) := by decide +kernel
theorem dX11_salesOf_8 : decode cX11_salesOf 8 = .ok (.getfield 85, 3) := by decide +kernel
theorem dX11_salesOf_11 : decode cX11_salesOf 11 = .ok (.iload_n 1, 1) := by decide +kernel
theorem dX11_salesOf_12 : decode cX11_salesOf 12 = .ok (.iaload, 1) := by decide +kernel
theorem dX11_salesOf_13 : decode cX11_salesOf 13 = .ok (.if_icmp .ge 40, 3) := by decide +kernel
theorem dX11_salesOf_16 : decode cX11_salesOf 16 = .ok (.aload_n 0, 1) := by decide +kernel
theorem dX11_salesOf_17 : decode cX11_salesOf 17 = .ok (.aload_n 0, 1) := by decide +kernel
theorem dX11_salesOf_18 : decode cX11_salesOf 18 = .ok (.iload_n 1, 1) := by decide +kernel
theorem dX11_salesOf_19 : decode cX11_salesOf 19 = .ok (.iconst 2, 1) := by decide +kernel
theorem dX11_salesOf_20 : decode cX11_salesOf 20 = .ok (.iload_n 2, 1) := by decide +kernel
theorem dX11_salesOf_21 : decode cX11_salesOf 21 = .ok (.imul, 1) := by decide +kernel
theorem dX11_salesOf_22 : decode cX11_salesOf 22 = .ok (.invokevirtual 221, 3) := by decide +kernel
theorem dX11_salesOf_25 : decode cX11_salesOf 25 = .ok (.invokevirtual 128, 3) := by decide +kernel
theorem dX11_salesOf_28 : decode cX11_salesOf 28 = .ok (.ifCond .eq 25, 3) := by decide +kernel
theorem dX11_salesOf_31 : decode cX11_salesOf 31 = .ok (.aload_n 0, 1) := by decide +kernel
theorem dX11_salesOf_32 : decode cX11_salesOf 32 = .ok (.iload_n 1, 1) := by decide +kernel
theorem dX11_salesOf_33 : decode cX11_salesOf 33 = .ok (.iconst 2, 1) := by decide +kernel
theorem dX11_salesOf_34 : decode cX11_salesOf 34 = .ok (.iload_n 2, 1) := by decide +kernel
theorem dX11_salesOf_35 : decode cX11_salesOf 35 = .ok (.imul, 1) := by decide +kernel
theorem dX11_salesOf_36 : decode cX11_salesOf 36 = .ok (.iconst 1, 1) := by decide +kernel
theorem dX11_salesOf_37 : decode cX11_salesOf 37 = .ok (.iadd, 1) := by decide +kernel
theorem dX11_salesOf_38 : decode cX11_salesOf 38 = .ok (.invokevirtual 221, 3) := by decide +kernel
theorem dX11_salesOf_41 : decode cX11_salesOf 41 = .ok (.invokestatic 215, 3) := by decide +kernel
theorem dX11_salesOf_44 : decode cX11_salesOf 44 = .ok (.ifCond .eq 9, 3) := by decide +kernel
theorem dX11_salesOf_47 : decode cX11_salesOf 47 = .ok (.iinc 2 1, 3) := by decide +kernel
theorem dX11_salesOf_50 : decode cX11_salesOf 50 = .ok (.goto (-48), 3) := by decide +kernel
theorem dX11_salesOf_53 : decode cX11_salesOf 53 = .ok (.iload_n 2, 1) := by decide +kernel
theorem dX11_salesOf_54 : decode cX11_salesOf 54 = .ok (.ireturn, 1) := by decide +kernel
theorem dX11_sellsAt_0 : decode cX11_sellsAt 0 = .ok (.aload_n 0, 1) := by decide +kernel
theorem dX11_sellsAt_1 : decode cX11_sellsAt 1 = .ok (.aload_n 0, 1) := by decide +kernel
theorem dX11_sellsAt_2 : decode cX11_sellsAt 2 = .ok (.iload_n 1, 1) := by decide +kernel
theorem dX11_sellsAt_3 : decode cX11_sellsAt 3 = .ok (.iconst 2, 1) := by decide +kernel
theorem dX11_sellsAt_4 : decode cX11_sellsAt 4 = .ok (.iload_n 2, 1) := by decide +kernel
theorem dX11_sellsAt_5 : decode cX11_sellsAt 5 = .ok (.imul, 1) := by decide +kernel
theorem dX11_sellsAt_6 : decode cX11_sellsAt 6 = .ok (.invokevirtual 221, 3) := by decide +kernel
theorem dX11_sellsAt_9 : decode cX11_sellsAt 9 = .ok (.l2i, 1) := by decide +kernel
theorem dX11_sellsAt_10 : decode cX11_sellsAt 10 = .ok (.aload_n 0, 1) := by decide +kernel
theorem dX11_sellsAt_11 : decode cX11_sellsAt 11 = .ok (.iload_n 1, 1) := by decide +kernel
theorem dX11_sellsAt_12 : decode cX11_sellsAt 12 = .ok (.iconst 2, 1) := by decide +kernel
theorem dX11_sellsAt_13 : decode cX11_sellsAt 13 = .ok (.iload_n 2, 1) := by decide +kernel
theorem dX11_sellsAt_14 : decode cX11_sellsAt 14 = .ok (.imul, 1) := by decide +kernel
theorem dX11_sellsAt_15 : decode cX11_sellsAt 15 = .ok (.iconst 1, 1) := by decide +kernel
theorem dX11_sellsAt_16 : decode cX11_sellsAt 16 = .ok (.iadd, 1) := by decide +kernel
theorem dX11_sellsAt_17 : decode cX11_sellsAt 17 = .ok (.invokevirtual 221, 3) := by decide +kernel
theorem dX11_sellsAt_20 : decode cX11_sellsAt 20 = .ok (.l2i, 1) := by decide +kernel
theorem dX11_sellsAt_21 : decode cX11_sellsAt 21 = .ok (.invokevirtual 225, 3) := by decide +kernel
theorem dX11_sellsAt_24 : decode cX11_sellsAt 24 = .ok (.ireturn, 1) := by decide +kernel
theorem dX11_sales_0 : decode cX11_sales 0 = .ok (.aload_n 0, 1) := by decide +kernel
theorem dX11_sales_1 : decode cX11_sales 1 = .ok (.iload_n 1, 1) := by decide +kernel
theorem dX11_sales_2 : decode cX11_sales 2 = .ok (.invokevirtual 228, 3) := by decide +kernel
theorem dX11_sales_5 : decode cX11_sales 5 = .ok (.iconst (-1), 1) := by decide +kernel
theorem dX11_sales_6 : decode cX11_sales 6 = .ok (.if_icmp .eq 8, 3) := by decide +kernel
theorem dX11_sales_9 : decode cX11_sales 9 = .ok (.iload_n 2, 1) := by decide +kernel
theorem dX11_sales_10 : decode cX11_sales 10 = .ok (.iconst (-1), 1) := by decide +kernel
theorem dX11_sales_11 : decode cX11_sales 11 = .ok (.if_icmp .ge 5, 3) := by decide +kernel
theorem dX11_sales_14 : decode cX11_sales 14 = .ok (.iconst (-1), 1) := by decide +kernel
theorem dX11_sales_15 : decode cX11_sales 15 = .ok (.ireturn, 1) := by decide +kernel
theorem dX11_sales_16 : decode cX11_sales 16 = .ok (.aload_n 0, 1) := by decide +kernel
theorem dX11_sales_17 : decode cX11_sales 17 = .ok (.iload_n 1, 1) := by decide +kernel
theorem dX11_sales_18 : decode cX11_sales 18 = .ok (.invokevirtual 228, 3) := by decide +kernel
theorem dX11_sales_21 : decode cX11_sales 21 = .ok (.ifCond .ge 9, 3) := by decide +kernel
theorem dX11_sales_24 : decode cX11_sales 24 = .ok (.aload_n 0, 1) := by decide +kernel
theorem dX11_sales_25 : decode cX11_sales 25 = .ok (.iload_n 1, 1) := by decide +kernel
theorem dX11_sales_26 : decode cX11_sales 26 = .ok (.invokevirtual 228, 3) := by decide +kernel
theorem dX11_sales_29 : decode cX11_sales 29 = .ok (.ireturn, 1) := by decide +kernel
theorem dX11_sales_30 : decode cX11_sales 30 = .ok (.aload_n 0, 1) := by decide +kernel
theorem dX11_sales_31 : decode cX11_sales 31 = .ok (.invokevirtual 140, 3) := by decide +kernel
theorem dX11_sales_34 : decode cX11_sales 34 = .ok (.aload_n 0, 1) := by decide +kernel
theorem dX11_sales_35 : decode cX11_sales 35 = .ok (.iload_n 1, 1) := by decide +kernel
theorem dX11_sales_36 : decode cX11_sales 36 = .ok (.invokevirtual 231, 3) := by decide +kernel
theorem dX11_sales_39 : decode cX11_sales 39 = .ok (.istore_n 3, 1) := by decide +kernel
theorem dX11_sales_40 : decode cX11_sales 40 = .ok (.bipush (-2), 2) := by decide +kernel
theorem dX11_sales_42 : decode cX11_sales 42 = .ok (.istore 4, 2) := by decide +kernel
theorem dX11_sales_44 : decode cX11_sales 44 = .ok (.iconst 0, 1) := by decide +kernel
theorem dX11_sales_45 : decode cX11_sales 45 = .ok (.istore 5, 2) := by decide +kernel
theorem dX11_sales_47 : decode cX11_sales 47 = .ok (.iconst 1, 1) := by decide +kernel
theorem dX11_sales_48 : decode cX11_sales 48 = .ok (.istore 6, 2) := by decide +kernel
theorem dX11_sales_50 : decode cX11_sales 50 = .ok (.iconst 0, 1) := by decide +kernel
theorem dX11_sales_51 : decode cX11_sales 51 = .ok (.istore 7, 2) := by decide +kernel
theorem dX11_sales_53 : decode cX11_sales 53 = .ok (.iload 7, 2) := by decide +kernel
theorem dX11_sales_55 : decode cX11_sales 55 = .ok (.iload_n 3, 1) := by decide +kernel
theorem dX11_sales_56 : decode cX11_sales 56 = .ok (.if_icmp .ge 70, 3) := by decide +kernel
theorem dX11_sales_59 : decode cX11_sales 59 = .ok (.iload 6, 2) := by decide +kernel
theorem dX11_sales_61 : decode cX11_sales 61 = .ok (.ifCond .eq 65, 3) := by decide +kernel
theorem dX11_sales_64 : decode cX11_sales 64 = .ok (.aload_n 0, 1) := by decide +kernel
theorem dX11_sales_65 : decode cX11_sales 65 = .ok (.iload_n 1, 1) := by decide +kernel
theorem dX11_sales_66 : decode cX11_sales 66 = .ok (.iload 7, 2) := by decide +kernel
theorem dX11_sales_68 : decode cX11_sales 68 = .ok (.invokevirtual 234, 3) := by decide +kernel
theorem dX11_sales_71 : decode cX11_sales 71 = .ok (.istore 8, 2) := by decide +kernel
theorem dX11_sales_73 : decode cX11_sales 73 = .ok (.iload 8, 2) := by decide +kernel
theorem dX11_sales_75 : decode cX11_sales 75 = .ok (.ifCond .lt 7, 3) := by decide +kernel
theorem dX11_sales_78 : decode cX11_sales 78 = .ok (.iconst 1, 1) := by decide +kernel
theorem dX11_sales_79 : decode cX11_sales 79 = .ok (.goto 4, 3) := by decide +kernel
theorem dX11_sales_82 : decode cX11_sales 82 = .ok (.iconst 0, 1) := by decide +kernel
theorem dX11_sales_83 : decode cX11_sales 83 = .ok (.istore 6, 2) := by decide +kernel
theorem dX11_sales_85 : decode cX11_sales 85 = .ok (.iload 5, 2) := by decide +kernel
theorem dX11_sales_87 : decode cX11_sales 87 = .ok (.iload 6, 2) := by decide +kernel
theorem dX11_sales_89 : decode cX11_sales 89 = .ok (.ifCond .eq 7, 3) := by decide +kernel
theorem dX11_sales_92 : decode cX11_sales 92 = .ok (.iconst 1, 1) := by decide +kernel
theorem dX11_sales_93 : decode cX11_sales 93 = .ok (.goto 4, 3) := by decide +kernel
theorem dX11_sales_96 : decode cX11_sales 96 = .ok (.iconst 0, 1) := by decide +kernel
theorem dX11_sales_97 : decode cX11_sales 97 = .ok (.iadd, 1) := by decide +kernel
theorem dX11_sales_98 : decode cX11_sales 98 = .ok (.istore 5, 2) := by decide +kernel
theorem dX11_sales_100 : decode cX11_sales 100 = .ok (.iload 6, 2) := by decide +kernel
theorem dX11_sales_102 : decode cX11_sales 102 = .ok (.ifCond .eq 14, 3) := by decide +kernel
theorem dX11_sales_105 : decode cX11_sales 105 = .ok (.iload 7, 2) := by decide +kernel
theorem dX11_sales_107 : decode cX11_sales 107 = .ok (.iload_n 2, 1) := by decide +kernel
theorem dX11_sales_108 : decode cX11_sales 108 = .ok (.if_icmp .ne 8, 3) := by decide +kernel
theorem dX11_sales_111 : decode cX11_sales 111 = .ok (.iload 8, 2) := by decide +kernel
theorem dX11_sales_113 : decode cX11_sales 113 = .ok (.goto 5, 3) := by decide +kernel
theorem dX11_sales_116 : decode cX11_sales 116 = .ok (.iload 4, 2) := by decide +kernel
theorem dX11_sales_118 : decode cX11_sales 118 = .ok (.istore 4, 2) := by decide +kernel
theorem dX11_sales_120 : decode cX11_sales 120 = .ok (.iinc 7 1, 3) := by decide +kernel
theorem dX11_sales_123 : decode cX11_sales 123 = .ok (.goto (-70), 3) := by decide +kernel
theorem dX11_sales_126 : decode cX11_sales 126 = .ok (.iload_n 2, 1) := by decide +kernel
theorem dX11_sales_127 : decode cX11_sales 127 = .ok (.ifCond .ge 8, 3) := by decide +kernel
theorem dX11_sales_130 : decode cX11_sales 130 = .ok (.iload 5, 2) := by decide +kernel
theorem dX11_sales_132 : decode cX11_sales 132 = .ok (.goto 5, 3) := by decide +kernel
theorem dX11_sales_135 : decode cX11_sales 135 = .ok (.iload 4, 2) := by decide +kernel
theorem dX11_sales_137 : decode cX11_sales 137 = .ok (.ireturn, 1) := by decide +kernel
theorem dX11_balance_0 : decode cX11_balance 0 = .ok (.aload_n 0, 1) := by decide +kernel
theorem dX11_balance_1 : decode cX11_balance 1 = .ok (.iload_n 1, 1) := by decide +kernel
theorem dX11_balance_2 : decode cX11_balance 2 = .ok (.invokevirtual 228, 3) := by decide +kernel
theorem dX11_balance_5 : decode cX11_balance 5 = .ok (.iconst (-1), 1) := by decide +kernel
theorem dX11_balance_6 : decode cX11_balance 6 = .ok (.if_icmp .eq 12, 3) := by decide +kernel
theorem dX11_balance_9 : decode cX11_balance 9 = .ok (.aload_n 0, 1) := by decide +kernel
theorem dX11_balance_10 : decode cX11_balance 10 = .ok (.iload_n 2, 1) := by decide +kernel
theorem dX11_balance_11 : decode cX11_balance 11 = .ok (.i2l, 1) := by decide +kernel
theorem dX11_balance_12 : decode cX11_balance 12 = .ok (.invokevirtual 128, 3) := by decide +kernel
theorem dX11_balance_15 : decode cX11_balance 15 = .ok (.ifCond .ne 5, 3) := by decide +kernel
theorem dX11_balance_18 : decode cX11_balance 18 = .ok (.iconst (-1), 1) := by decide +kernel
theorem dX11_balance_19 : decode cX11_balance 19 = .ok (.ireturn, 1) := by decide +kernel
theorem dX11_balance_20 : decode cX11_balance 20 = .ok (.aload_n 0, 1) := by decide +kernel
theorem dX11_balance_21 : decode cX11_balance 21 = .ok (.iload_n 1, 1) := by decide +kernel
theorem dX11_balance_22 : decode cX11_balance 22 = .ok (.invokevirtual 228, 3) := by decide +kernel
theorem dX11_balance_25 : decode cX11_balance 25 = .ok (.ifCond .ge 9, 3) := by decide +kernel
theorem dX11_balance_28 : decode cX11_balance 28 = .ok (.aload_n 0, 1) := by decide +kernel
theorem dX11_balance_29 : decode cX11_balance 29 = .ok (.iload_n 1, 1) := by decide +kernel
theorem dX11_balance_30 : decode cX11_balance 30 = .ok (.invokevirtual 228, 3) := by decide +kernel
theorem dX11_balance_33 : decode cX11_balance 33 = .ok (.ireturn, 1) := by decide +kernel
theorem dX11_balance_34 : decode cX11_balance 34 = .ok (.aload_n 0, 1) := by decide +kernel
theorem dX11_balance_35 : decode cX11_balance 35 = .ok (.iload_n 1, 1) := by decide +kernel
theorem dX11_balance_36 : decode cX11_balance 36 = .ok (.iconst (-1), 1) := by decide +kernel
theorem dX11_balance_37 : decode cX11_balance 37 = .ok (.invokevirtual 237, 3) := by decide +kernel
theorem dX11_balance_40 : decode cX11_balance 40 = .ok (.pop, 1) := by decide +kernel
theorem dX11_balance_41 : decode cX11_balance 41 = .ok (.aload_n 0, 1) := by decide +kernel
theorem dX11_balance_42 : decode cX11_balance 42 = .ok (.iload_n 2, 1) := by decide +kernel
theorem dX11_balance_43 : decode cX11_balance 43 = .ok (.invokevirtual 143, 3) := by decide +kernel
theorem dX11_balance_46 : decode cX11_balance 46 = .ok (.ireturn, 1) := by decide +kernel
theorem dX11_eatsOne_0 : decode cX11_eatsOne 0 = .ok (.iconst 0, 1) := by decide +kernel
theorem dX11_eatsOne_1 : decode cX11_eatsOne 1 = .ok (.istore_n 1, 1) := by decide +kernel
theorem dX11_eatsOne_2 : decode cX11_eatsOne 2 = .ok (.iconst 0, 1) := by decide +kernel
theorem dX11_eatsOne_3 : decode cX11_eatsOne 3 = .ok (.istore_n 2, 1) := by decide +kernel
theorem dX11_eatsOne_4 : decode cX11_eatsOne 4 = .ok (.iload_n 2, 1) := by decide +kernel
theorem dX11_eatsOne_5 : decode cX11_eatsOne 5 = .ok (.bipush 49, 2) := by decide +kernel
theorem dX11_eatsOne_7 : decode cX11_eatsOne 7 = .ok (.if_icmp .ge 45, 3) := by decide +kernel
theorem dX11_eatsOne_10 : decode cX11_eatsOne 10 = .ok (.aload_n 0, 1) := by decide +kernel
theorem dX11_eatsOne_11 : decode cX11_eatsOne 11 = .ok (.getfield 48, 3) := by decide +kernel
theorem dX11_eatsOne_14 : decode cX11_eatsOne 14 = .ok (.iload_n 2, 1) := by decide +kernel
theorem dX11_eatsOne_15 : decode cX11_eatsOne 15 = .ok (.aload_n 0, 1) := by decide +kernel
theorem dX11_eatsOne_16 : decode cX11_eatsOne 16 = .ok (.iload_n 2, 1) := by decide +kernel
theorem dX11_eatsOne_17 : decode cX11_eatsOne 17 = .ok (.invokevirtual 152, 3) := by decide +kernel
theorem dX11_eatsOne_20 : decode cX11_eatsOne 20 = .ok (.bastore, 1) := by decide +kernel
theorem dX11_eatsOne_21 : decode cX11_eatsOne 21 = .ok (.iload_n 1, 1) := by decide +kernel
theorem dX11_eatsOne_22 : decode cX11_eatsOne 22 = .ok (.aload_n 0, 1) := by decide +kernel
theorem dX11_eatsOne_23 : decode cX11_eatsOne 23 = .ok (.iload_n 2, 1) := by decide +kernel
theorem dX11_eatsOne_24 : decode cX11_eatsOne 24 = .ok (.invokevirtual 147, 3) := by decide +kernel
theorem dX11_eatsOne_27 : decode cX11_eatsOne 27 = .ok (.ifCond .eq 16, 3) := by decide +kernel
theorem dX11_eatsOne_30 : decode cX11_eatsOne 30 = .ok (.aload_n 0, 1) := by decide +kernel
theorem dX11_eatsOne_31 : decode cX11_eatsOne 31 = .ok (.getfield 48, 3) := by decide +kernel
theorem dX11_eatsOne_34 : decode cX11_eatsOne 34 = .ok (.iload_n 2, 1) := by decide +kernel
theorem dX11_eatsOne_35 : decode cX11_eatsOne 35 = .ok (.baload, 1) := by decide +kernel
theorem dX11_eatsOne_36 : decode cX11_eatsOne 36 = .ok (.ifCond .ne 7, 3) := by decide +kernel
theorem dX11_eatsOne_39 : decode cX11_eatsOne 39 = .ok (.iconst 1, 1) := by decide +kernel
theorem dX11_eatsOne_40 : decode cX11_eatsOne 40 = .ok (.goto 4, 3) := by decide +kernel
theorem dX11_eatsOne_43 : decode cX11_eatsOne 43 = .ok (.iconst 0, 1) := by decide +kernel
theorem dX11_eatsOne_44 : decode cX11_eatsOne 44 = .ok (.ior, 1) := by decide +kernel
theorem dX11_eatsOne_45 : decode cX11_eatsOne 45 = .ok (.istore_n 1, 1) := by decide +kernel
theorem dX11_eatsOne_46 : decode cX11_eatsOne 46 = .ok (.iinc 2 1, 3) := by decide +kernel
theorem dX11_eatsOne_49 : decode cX11_eatsOne 49 = .ok (.goto (-45), 3) := by decide +kernel
theorem dX11_eatsOne_52 : decode cX11_eatsOne 52 = .ok (.iconst (-1), 1) := by decide +kernel
theorem dX11_eatsOne_53 : decode cX11_eatsOne 53 = .ok (.istore_n 2, 1) := by decide +kernel
theorem dX11_eatsOne_54 : decode cX11_eatsOne 54 = .ok (.iconst 0, 1) := by decide +kernel
theorem dX11_eatsOne_55 : decode cX11_eatsOne 55 = .ok (.istore_n 3, 1) := by decide +kernel
theorem dX11_eatsOne_56 : decode cX11_eatsOne 56 = .ok (.iload_n 3, 1) := by decide +kernel
theorem dX11_eatsOne_57 : decode cX11_eatsOne 57 = .ok (.bipush 49, 2) := by decide +kernel
theorem dX11_eatsOne_59 : decode cX11_eatsOne 59 = .ok (.if_icmp .ge 67, 3) := by decide +kernel
theorem dX11_eatsOne_62 : decode cX11_eatsOne 62 = .ok (.aload_n 0, 1) := by decide +kernel
theorem dX11_eatsOne_63 : decode cX11_eatsOne 63 = .ok (.iload_n 3, 1) := by decide +kernel
theorem dX11_eatsOne_64 : decode cX11_eatsOne 64 = .ok (.invokevirtual 147, 3) := by decide +kernel
theorem dX11_eatsOne_67 : decode cX11_eatsOne 67 = .ok (.ifCond .eq 20, 3) := by decide +kernel
theorem dX11_eatsOne_70 : decode cX11_eatsOne 70 = .ok (.iload_n 1, 1) := by decide +kernel
theorem dX11_eatsOne_71 : decode cX11_eatsOne 71 = .ok (.ifCond .eq 12, 3) := by decide +kernel
theorem dX11_eatsOne_74 : decode cX11_eatsOne 74 = .ok (.aload_n 0, 1) := by decide +kernel
theorem dX11_eatsOne_75 : decode cX11_eatsOne 75 = .ok (.getfield 48, 3) := by decide +kernel
theorem dX11_eatsOne_78 : decode cX11_eatsOne 78 = .ok (.iload_n 3, 1) := by decide +kernel
theorem dX11_eatsOne_79 : decode cX11_eatsOne 79 = .ok (.baload, 1) := by decide +kernel
theorem dX11_eatsOne_80 : decode cX11_eatsOne 80 = .ok (.ifCond .ne 7, 3) := by decide +kernel
theorem dX11_eatsOne_83 : decode cX11_eatsOne 83 = .ok (.iconst 1, 1) := by decide +kernel
theorem dX11_eatsOne_84 : decode cX11_eatsOne 84 = .ok (.goto 4, 3) := by decide +kernel
theorem dX11_eatsOne_87 : decode cX11_eatsOne 87 = .ok (.iconst 0, 1) := by decide +kernel
theorem dX11_eatsOne_88 : decode cX11_eatsOne 88 = .ok (.istore 4, 2) := by decide +kernel
theorem dX11_eatsOne_90 : decode cX11_eatsOne 90 = .ok (.iload 4, 2) := by decide +kernel
theorem dX11_eatsOne_92 : decode cX11_eatsOne 92 = .ok (.ifCond .eq 26, 3) := by decide +kernel
theorem dX11_eatsOne_95 : decode cX11_eatsOne 95 = .ok (.iload_n 2, 1) := by decide +kernel
theorem dX11_eatsOne_96 : decode cX11_eatsOne 96 = .ok (.ifCond .lt 18, 3) := by decide +kernel
theorem dX11_eatsOne_99 : decode cX11_eatsOne 99 = .ok (.aload_n 0, 1) := by decide +kernel
theorem dX11_eatsOne_100 : decode cX11_eatsOne 100 = .ok (.getfield 36, 3) := by decide +kernel
theorem dX11_eatsOne_103 : decode cX11_eatsOne 103 = .ok (.iload_n 3, 1) := by decide +kernel
theorem dX11_eatsOne_104 : decode cX11_eatsOne 104 = .ok (.iaload, 1) := by decide +kernel
theorem dX11_eatsOne_105 : decode cX11_eatsOne 105 = .ok (.aload_n 0, 1) := by decide +kernel
theorem dX11_eatsOne_106 : decode cX11_eatsOne 106 = .ok (.getfield 36, 3) := by decide +kernel
theorem dX11_eatsOne_109 : decode cX11_eatsOne 109 = .ok (.iload_n 2, 1) := by decide +kernel
theorem dX11_eatsOne_110 : decode cX11_eatsOne 110 = .ok (.iaload, 1) := by decide +kernel
theorem dX11_eatsOne_111 : decode cX11_eatsOne 111 = .ok (.if_icmp .gt 7, 3) := by decide +kernel
theorem dX11_eatsOne_114 : decode cX11_eatsOne 114 = .ok (.iload_n 3, 1) := by decide +kernel
theorem dX11_eatsOne_115 : decode cX11_eatsOne 115 = .ok (.goto 4, 3) := by decide +kernel
theorem dX11_eatsOne_118 : decode cX11_eatsOne 118 = .ok (.iload_n 2, 1) := by decide +kernel
theorem dX11_eatsOne_119 : decode cX11_eatsOne 119 = .ok (.istore_n 2, 1) := by decide +kernel
theorem dX11_eatsOne_120 : decode cX11_eatsOne 120 = .ok (.iinc 3 1, 3) := by decide +kernel
theorem dX11_eatsOne_123 : decode cX11_eatsOne 123 = .ok (.goto (-67), 3) := by decide +kernel
theorem dX11_eatsOne_126 : decode cX11_eatsOne 126 = .ok (.iload_n 2, 1) := by decide +kernel
theorem dX11_eatsOne_127 : decode cX11_eatsOne 127 = .ok (.ifCond .lt 17, 3) := by decide +kernel
theorem dX11_eatsOne_130 : decode cX11_eatsOne 130 = .ok (.aload_n 0, 1) := by decide +kernel
theorem dX11_eatsOne_131 : decode cX11_eatsOne 131 = .ok (.getfield 33, 3) := by decide +kernel
theorem dX11_eatsOne_134 : decode cX11_eatsOne 134 = .ok (.iload_n 2, 1) := by decide +kernel
theorem dX11_eatsOne_135 : decode cX11_eatsOne 135 = .ok (.iconst (-1), 1) := by decide +kernel
theorem dX11_eatsOne_136 : decode cX11_eatsOne 136 = .ok (.iastore, 1) := by decide +kernel
theorem dX11_eatsOne_137 : decode cX11_eatsOne 137 = .ok (.aload_n 0, 1) := by decide +kernel
theorem dX11_eatsOne_138 : decode cX11_eatsOne 138 = .ok (.getfield 36, 3) := by decide +kernel
theorem dX11_eatsOne_141 : decode cX11_eatsOne 141 = .ok (.iload_n 2, 1) := by decide +kernel
theorem dX11_eatsOne_142 : decode cX11_eatsOne 142 = .ok (.iconst 0, 1) := by decide +kernel
theorem dX11_eatsOne_143 : decode cX11_eatsOne 143 = .ok (.iastore, 1) := by decide +kernel
theorem dX11_eatsOne_144 : decode cX11_eatsOne 144 = .ok (.iload_n 2, 1) := by decide +kernel
theorem dX11_eatsOne_145 : decode cX11_eatsOne 145 = .ok (.ifCond .lt 7, 3) := by decide +kernel
theorem dX11_eatsOne_148 : decode cX11_eatsOne 148 = .ok (.iconst 1, 1) := by decide +kernel
theorem dX11_eatsOne_149 : decode cX11_eatsOne 149 = .ok (.goto 4, 3) := by decide +kernel
theorem dX11_eatsOne_152 : decode cX11_eatsOne 152 = .ok (.iconst 0, 1) := by decide +kernel
theorem dX11_eatsOne_153 : decode cX11_eatsOne 153 = .ok (.ireturn, 1) := by decide +kernel
theorem dX11_winters_0 : decode cX11_winters 0 = .ok (.iconst 0, 1) := by decide +kernel
theorem dX11_winters_1 : decode cX11_winters 1 = .ok (.istore_n 2, 1) := by decide +kernel
theorem dX11_winters_2 : decode cX11_winters 2 = .ok (.iload_n 2, 1) := by decide +kernel
theorem dX11_winters_3 : decode cX11_winters 3 = .ok (.iload_n 1, 1) := by decide +kernel
theorem dX11_winters_4 : decode cX11_winters 4 = .ok (.if_icmp .ge 16, 3) := by decide +kernel
theorem dX11_winters_7 : decode cX11_winters 7 = .ok (.aload_n 0, 1) := by decide +kernel
theorem dX11_winters_8 : decode cX11_winters 8 = .ok (.invokevirtual 240, 3) := by decide +kernel
theorem dX11_winters_11 : decode cX11_winters 11 = .ok (.ifCond .eq 9, 3) := by decide +kernel
theorem dX11_winters_14 : decode cX11_winters 14 = .ok (.iinc 2 1, 3) := by decide +kernel
theorem dX11_winters_17 : decode cX11_winters 17 = .ok (.goto (-15), 3) := by decide +kernel
theorem dX11_winters_20 : decode cX11_winters 20 = .ok (.iload_n 2, 1) := by decide +kernel
theorem dX11_winters_21 : decode cX11_winters 21 = .ok (.ireturn, 1) := by decide +kernel
theorem dX11_winter_0 : decode cX11_winter 0 = .ok (.iload_n 1, 1) := by decide +kernel
theorem dX11_winter_1 : decode cX11_winter 1 = .ok (.i2l, 1) := by decide +kernel
theorem dX11_winter_2 : decode cX11_winter 2 = .ok (.lconst 0, 1) := by decide +kernel
theorem dX11_winter_3 : decode cX11_winter 3 = .ok (.ldc2_w 244, 3) := by decide +kernel
theorem dX11_winter_6 : decode cX11_winter 6 = .ok (.invokestatic 111, 3) := by decide +kernel
theorem dX11_winter_9 : decode cX11_winter 9 = .ok (.ifCond .eq 12, 3) := by decide +kernel
theorem dX11_winter_12 : decode cX11_winter 12 = .ok (.aload_n 0, 1) := by decide +kernel
theorem dX11_winter_13 : decode cX11_winter 13 = .ok (.iload_n 2, 1) := by decide +kernel
theorem dX11_winter_14 : decode cX11_winter 14 = .ok (.i2l, 1) := by decide +kernel
theorem dX11_winter_15 : decode cX11_winter 15 = .ok (.invokevirtual 128, 3) := by decide +kernel
theorem dX11_winter_18 : decode cX11_winter 18 = .ok (.ifCond .ne 5, 3) := by decide +kernel
theorem dX11_winter_21 : decode cX11_winter 21 = .ok (.iconst (-1), 1) := by decide +kernel
theorem dX11_winter_22 : decode cX11_winter 22 = .ok (.ireturn, 1) := by decide +kernel
theorem dX11_winter_23 : decode cX11_winter 23 = .ok (.aload_n 0, 1) := by decide +kernel
theorem dX11_winter_24 : decode cX11_winter 24 = .ok (.invokevirtual 140, 3) := by decide +kernel
theorem dX11_winter_27 : decode cX11_winter 27 = .ok (.aload_n 0, 1) := by decide +kernel
theorem dX11_winter_28 : decode cX11_winter 28 = .ok (.iload_n 1, 1) := by decide +kernel
theorem dX11_winter_29 : decode cX11_winter 29 = .ok (.invokevirtual 246, 3) := by decide +kernel
theorem dX11_winter_32 : decode cX11_winter 32 = .ok (.pop, 1) := by decide +kernel
theorem dX11_winter_33 : decode cX11_winter 33 = .ok (.aload_n 0, 1) := by decide +kernel
theorem dX11_winter_34 : decode cX11_winter 34 = .ok (.iload_n 2, 1) := by decide +kernel
theorem dX11_winter_35 : decode cX11_winter 35 = .ok (.invokevirtual 143, 3) := by decide +kernel
theorem dX11_winter_38 : decode cX11_winter 38 = .ok (.ireturn, 1) := by decide +kernel
theorem dX11_outlasts_0 : decode cX11_outlasts 0 = .ok (.aload_n 0, 1) := by decide +kernel
theorem dX11_outlasts_1 : decode cX11_outlasts 1 = .ok (.iload_n 1, 1) := by decide +kernel
theorem dX11_outlasts_2 : decode cX11_outlasts 2 = .ok (.i2l, 1) := by decide +kernel
theorem dX11_outlasts_3 : decode cX11_outlasts 3 = .ok (.invokevirtual 128, 3) := by decide +kernel
theorem dX11_outlasts_6 : decode cX11_outlasts 6 = .ok (.ifCond .eq 15, 3) := by decide +kernel
theorem dX11_outlasts_9 : decode cX11_outlasts 9 = .ok (.iload_n 2, 1) := by decide +kernel
theorem dX11_outlasts_10 : decode cX11_outlasts 10 = .ok (.i2l, 1) := by decide +kernel
theorem dX11_outlasts_11 : decode cX11_outlasts 11 = .ok (.lconst 1, 1) := by decide +kernel
theorem dX11_outlasts_12 : decode cX11_outlasts 12 = .ok (.ldc2_w 249, 3) := by decide +kernel
theorem dX11_outlasts_15 : decode cX11_outlasts 15 = .ok (.invokestatic 111, 3) := by decide +kernel
theorem dX11_outlasts_18 : decode cX11_outlasts 18 = .ok (.ifCond .ne 5, 3) := by decide +kernel
theorem dX11_outlasts_21 : decode cX11_outlasts 21 = .ok (.iconst (-1), 1) := by decide +kernel
theorem dX11_outlasts_22 : decode cX11_outlasts 22 = .ok (.ireturn, 1) := by decide +kernel
theorem dX11_outlasts_23 : decode cX11_outlasts 23 = .ok (.aload_n 0, 1) := by decide +kernel
theorem dX11_outlasts_24 : decode cX11_outlasts 24 = .ok (.invokevirtual 140, 3) := by decide +kernel
theorem dX11_outlasts_27 : decode cX11_outlasts 27 = .ok (.bipush (-2), 2) := by decide +kernel
theorem dX11_outlasts_29 : decode cX11_outlasts 29 = .ok (.istore_n 3, 1) := by decide +kernel
theorem dX11_outlasts_30 : decode cX11_outlasts 30 = .ok (.iconst 0, 1) := by decide +kernel
theorem dX11_outlasts_31 : decode cX11_outlasts 31 = .ok (.istore 4, 2) := by decide +kernel
theorem dX11_outlasts_33 : decode cX11_outlasts 33 = .ok (.iload 4, 2) := by decide +kernel
theorem dX11_outlasts_35 : decode cX11_outlasts 35 = .ok (.bipush 49, 2) := by decide +kernel
theorem dX11_outlasts_37 : decode cX11_outlasts 37 = .ok (.if_icmp .gt 30, 3) := by decide +kernel
theorem dX11_outlasts_40 : decode cX11_outlasts 40 = .ok (.aload_n 0, 1) := by decide +kernel
theorem dX11_outlasts_41 : decode cX11_outlasts 41 = .ok (.iload_n 1, 1) := by decide +kernel
theorem dX11_outlasts_42 : decode cX11_outlasts 42 = .ok (.invokevirtual 143, 3) := by decide +kernel
theorem dX11_outlasts_45 : decode cX11_outlasts 45 = .ok (.iload_n 2, 1) := by decide +kernel
theorem dX11_outlasts_46 : decode cX11_outlasts 46 = .ok (.if_icmp .lt 8, 3) := by decide +kernel
theorem dX11_outlasts_49 : decode cX11_outlasts 49 = .ok (.iload 4, 2) := by decide +kernel
theorem dX11_outlasts_51 : decode cX11_outlasts 51 = .ok (.goto 4, 3) := by decide +kernel
theorem dX11_outlasts_54 : decode cX11_outlasts 54 = .ok (.iload_n 3, 1) := by decide +kernel
theorem dX11_outlasts_55 : decode cX11_outlasts 55 = .ok (.istore_n 3, 1) := by decide +kernel
theorem dX11_outlasts_56 : decode cX11_outlasts 56 = .ok (.aload_n 0, 1) := by decide +kernel
theorem dX11_outlasts_57 : decode cX11_outlasts 57 = .ok (.invokevirtual 240, 3) := by decide +kernel
theorem dX11_outlasts_60 : decode cX11_outlasts 60 = .ok (.pop, 1) := by decide +kernel
theorem dX11_outlasts_61 : decode cX11_outlasts 61 = .ok (.iinc 4 1, 3) := by decide +kernel
theorem dX11_outlasts_64 : decode cX11_outlasts 64 = .ok (.goto (-31), 3) := by decide +kernel
theorem dX11_outlasts_67 : decode cX11_outlasts 67 = .ok (.iload_n 3, 1) := by decide +kernel
theorem dX11_outlasts_68 : decode cX11_outlasts 68 = .ok (.ireturn, 1) := by decide +kernel
theorem dX11_ordersOn_0 : decode cX11_ordersOn 0 = .ok (.iload_n 2, 1) := by decide +kernel
theorem dX11_ordersOn_1 : decode cX11_ordersOn 1 = .ok (.iload 4, 2) := by decide +kernel
theorem dX11_ordersOn_3 : decode cX11_ordersOn 3 = .ok (.if_icmp .ne 133, 3) := by decide +kernel
theorem dX11_ordersOn_6 : decode cX11_ordersOn 6 = .ok (.aload_n 0, 1) := by decide +kernel
theorem dX11_ordersOn_7 : decode cX11_ordersOn 7 = .ok (.invokevirtual 140, 3) := by decide +kernel
theorem dX11_ordersOn_10 : decode cX11_ordersOn 10 = .ok (.aload_n 0, 1) := by decide +kernel
theorem dX11_ordersOn_11 : decode cX11_ordersOn 11 = .ok (.iload_n 1, 1) := by decide +kernel
theorem dX11_ordersOn_12 : decode cX11_ordersOn 12 = .ok (.invokevirtual 231, 3) := by decide +kernel
theorem dX11_ordersOn_15 : decode cX11_ordersOn 15 = .ok (.istore 7, 2) := by decide +kernel
theorem dX11_ordersOn_17 : decode cX11_ordersOn 17 = .ok (.iconst 1, 1) := by decide +kernel
theorem dX11_ordersOn_18 : decode cX11_ordersOn 18 = .ok (.istore 8, 2) := by decide +kernel
theorem dX11_ordersOn_20 : decode cX11_ordersOn 20 = .ok (.iconst 0, 1) := by decide +kernel
theorem dX11_ordersOn_21 : decode cX11_ordersOn 21 = .ok (.istore 9, 2) := by decide +kernel
theorem dX11_ordersOn_23 : decode cX11_ordersOn 23 = .ok (.iload 9, 2) := by decide +kernel
theorem dX11_ordersOn_25 : decode cX11_ordersOn 25 = .ok (.iload 7, 2) := by decide +kernel
theorem dX11_ordersOn_27 : decode cX11_ordersOn 27 = .ok (.if_icmp .ge 48, 3) := by decide +kernel
theorem dX11_ordersOn_30 : decode cX11_ordersOn 30 = .ok (.iload 8, 2) := by decide +kernel
theorem dX11_ordersOn_32 : decode cX11_ordersOn 32 = .ok (.ifCond .eq 43, 3) := by decide +kernel
theorem dX11_ordersOn_35 : decode cX11_ordersOn 35 = .ok (.aload_n 0, 1) := by decide +kernel
theorem dX11_ordersOn_36 : decode cX11_ordersOn 36 = .ok (.iload_n 1, 1) := by decide +kernel
theorem dX11_ordersOn_37 : decode cX11_ordersOn 37 = .ok (.iload 9, 2) := by decide +kernel
theorem dX11_ordersOn_39 : decode cX11_ordersOn 39 = .ok (.iload 4, 2) := by decide +kernel
theorem dX11_ordersOn_41 : decode cX11_ordersOn 41 = .ok (.if_icmp .ge 13, 3) := by decide +kernel
theorem dX11_ordersOn_44 : decode cX11_ordersOn 44 = .ok (.aload_n 0, 1) := by decide +kernel
theorem dX11_ordersOn_45 : decode cX11_ordersOn 45 = .ok (.getfield 52, 3) := by decide +kernel
theorem dX11_ordersOn_48 : decode cX11_ordersOn 48 = .ok (.iload 9, 2) := by decide +kernel
theorem dX11_ordersOn_50 : decode cX11_ordersOn 50 = .ok (.iaload, 1) := by decide +kernel
theorem dX11_ordersOn_51 : decode cX11_ordersOn 51 = .ok (.goto 5, 3) := by decide +kernel
theorem dX11_ordersOn_54 : decode cX11_ordersOn 54 = .ok (.iload 9, 2) := by decide +kernel
theorem dX11_ordersOn_56 : decode cX11_ordersOn 56 = .ok (.invokevirtual 234, 3) := by decide +kernel
theorem dX11_ordersOn_59 : decode cX11_ordersOn 59 = .ok (.ifCond .lt 7, 3) := by decide +kernel
theorem dX11_ordersOn_62 : decode cX11_ordersOn 62 = .ok (.iconst 1, 1) := by decide +kernel
theorem dX11_ordersOn_63 : decode cX11_ordersOn 63 = .ok (.goto 4, 3) := by decide +kernel
theorem dX11_ordersOn_66 : decode cX11_ordersOn 66 = .ok (.iconst 0, 1) := by decide +kernel
theorem dX11_ordersOn_67 : decode cX11_ordersOn 67 = .ok (.istore 8, 2) := by decide +kernel
theorem dX11_ordersOn_69 : decode cX11_ordersOn 69 = .ok (.iinc 9 1, 3) := by decide +kernel
theorem dX11_ordersOn_72 : decode cX11_ordersOn 72 = .ok (.goto (-49), 3) := by decide +kernel
theorem dX11_ordersOn_75 : decode cX11_ordersOn 75 = .ok (.aload_n 0, 1) := by decide +kernel
theorem dX11_ordersOn_76 : decode cX11_ordersOn 76 = .ok (.iload 6, 2) := by decide +kernel
theorem dX11_ordersOn_78 : decode cX11_ordersOn 78 = .ok (.invokevirtual 246, 3) := by decide +kernel
theorem dX11_ordersOn_81 : decode cX11_ordersOn 81 = .ok (.pop, 1) := by decide +kernel
theorem dX11_ordersOn_82 : decode cX11_ordersOn 82 = .ok (.aload_n 0, 1) := by decide +kernel
theorem dX11_ordersOn_83 : decode cX11_ordersOn 83 = .ok (.iload 5, 2) := by decide +kernel
theorem dX11_ordersOn_85 : decode cX11_ordersOn 85 = .ok (.invokevirtual 143, 3) := by decide +kernel
theorem dX11_ordersOn_88 : decode cX11_ordersOn 88 = .ok (.istore 9, 2) := by decide +kernel
theorem dX11_ordersOn_90 : decode cX11_ordersOn 90 = .ok (.iload 9, 2) := by decide +kernel
theorem dX11_ordersOn_92 : decode cX11_ordersOn 92 = .ok (.aload_n 0, 1) := by decide +kernel
theorem dX11_ordersOn_93 : decode cX11_ordersOn 93 = .ok (.getfield 251, 3) := by decide +kernel
theorem dX11_ordersOn_96 : decode cX11_ordersOn 96 = .ok (.if_icmp .le 39, 3) := by decide +kernel
theorem dX11_ordersOn_99 : decode cX11_ordersOn 99 = .ok (.aload_n 0, 1) := by decide +kernel
theorem dX11_ordersOn_100 : decode cX11_ordersOn 100 = .ok (.iload 9, 2) := by decide +kernel
theorem dX11_ordersOn_102 : decode cX11_ordersOn 102 = .ok (.putfield 251, 3) := by decide +kernel
theorem dX11_ordersOn_105 : decode cX11_ordersOn 105 = .ok (.iconst 0, 1) := by decide +kernel
theorem dX11_ordersOn_106 : decode cX11_ordersOn 106 = .ok (.istore 10, 2) := by decide +kernel
theorem dX11_ordersOn_108 : decode cX11_ordersOn 108 = .ok (.iload 10, 2) := by decide +kernel
theorem dX11_ordersOn_110 : decode cX11_ordersOn 110 = .ok (.iload 4, 2) := by decide +kernel
theorem dX11_ordersOn_112 : decode cX11_ordersOn 112 = .ok (.if_icmp .ge 23, 3) := by decide +kernel
theorem dX11_ordersOn_115 : decode cX11_ordersOn 115 = .ok (.aload_n 0, 1) := by decide +kernel
theorem dX11_ordersOn_116 : decode cX11_ordersOn 116 = .ok (.getfield 55, 3) := by decide +kernel
theorem dX11_ordersOn_119 : decode cX11_ordersOn 119 = .ok (.iload 10, 2) := by decide +kernel
theorem dX11_ordersOn_121 : decode cX11_ordersOn 121 = .ok (.aload_n 0, 1) := by decide +kernel
theorem dX11_ordersOn_122 : decode cX11_ordersOn 122 = .ok (.getfield 52, 3) := by decide +kernel
theorem dX11_ordersOn_125 : decode cX11_ordersOn 125 = .ok (.iload 10, 2) := by decide +kernel
theorem dX11_ordersOn_127 : decode cX11_ordersOn 127 = .ok (.iaload, 1) := by decide +kernel
theorem dX11_ordersOn_128 : decode cX11_ordersOn 128 = .ok (.iastore, 1) := by decide +kernel
theorem dX11_ordersOn_129 : decode cX11_ordersOn 129 = .ok (.iinc 10 1, 3) := by decide +kernel
theorem dX11_ordersOn_132 : decode cX11_ordersOn 132 = .ok (.goto (-24), 3) := by decide +kernel
theorem dX11_ordersOn_135 : decode cX11_ordersOn 135 = .ok (.return_, 1) := by decide +kernel
theorem dX11_ordersOn_136 : decode cX11_ordersOn 136 = .ok (.iconst 0, 1) := by decide +kernel
theorem dX11_ordersOn_137 : decode cX11_ordersOn 137 = .ok (.istore 7, 2) := by decide +kernel
theorem dX11_ordersOn_139 : decode cX11_ordersOn 139 = .ok (.iload 7, 2) := by decide +kernel
theorem dX11_ordersOn_141 : decode cX11_ordersOn 141 = .ok (.iload 4, 2) := by decide +kernel
theorem dX11_ordersOn_143 : decode cX11_ordersOn 143 = .ok (.if_icmp .ge 46, 3) := by decide +kernel
theorem dX11_ordersOn_146 : decode cX11_ordersOn 146 = .ok (.iload_n 3, 1) := by decide +kernel
theorem dX11_ordersOn_147 : decode cX11_ordersOn 147 = .ok (.iload 7, 2) := by decide +kernel
theorem dX11_ordersOn_149 : decode cX11_ordersOn 149 = .ok (.invokestatic 254, 3) := by decide +kernel
theorem dX11_ordersOn_152 : decode cX11_ordersOn 152 = .ok (.ifCond .ne 31, 3) := by decide +kernel
theorem dX11_ordersOn_155 : decode cX11_ordersOn 155 = .ok (.aload_n 0, 1) := by decide +kernel
theorem dX11_ordersOn_156 : decode cX11_ordersOn 156 = .ok (.getfield 52, 3) := by decide +kernel
theorem dX11_ordersOn_159 : decode cX11_ordersOn 159 = .ok (.iload_n 2, 1) := by decide +kernel
theorem dX11_ordersOn_160 : decode cX11_ordersOn 160 = .ok (.iload 7, 2) := by decide +kernel
theorem dX11_ordersOn_162 : decode cX11_ordersOn 162 = .ok (.iastore, 1) := by decide +kernel
theorem dX11_ordersOn_163 : decode cX11_ordersOn 163 = .ok (.aload_n 0, 1) := by decide +kernel
theorem dX11_ordersOn_164 : decode cX11_ordersOn 164 = .ok (.iload_n 1, 1) := by decide +kernel
theorem dX11_ordersOn_165 : decode cX11_ordersOn 165 = .ok (.iload_n 2, 1) := by decide +kernel
theorem dX11_ordersOn_166 : decode cX11_ordersOn 166 = .ok (.iconst 1, 1) := by decide +kernel
theorem dX11_ordersOn_167 : decode cX11_ordersOn 167 = .ok (.iadd, 1) := by decide +kernel
theorem dX11_ordersOn_168 : decode cX11_ordersOn 168 = .ok (.iload_n 3, 1) := by decide +kernel
theorem dX11_ordersOn_169 : decode cX11_ordersOn 169 = .ok (.iconst 1, 1) := by decide +kernel
theorem dX11_ordersOn_170 : decode cX11_ordersOn 170 = .ok (.iload 7, 2) := by decide +kernel
theorem dX11_ordersOn_172 : decode cX11_ordersOn 172 = .ok (.ishl, 1) := by decide +kernel
theorem dX11_ordersOn_173 : decode cX11_ordersOn 173 = .ok (.ior, 1) := by decide +kernel
theorem dX11_ordersOn_174 : decode cX11_ordersOn 174 = .ok (.iload 4, 2) := by decide +kernel
theorem dX11_ordersOn_176 : decode cX11_ordersOn 176 = .ok (.iload 5, 2) := by decide +kernel
theorem dX11_ordersOn_178 : decode cX11_ordersOn 178 = .ok (.iload 6, 2) := by decide +kernel
theorem dX11_ordersOn_180 : decode cX11_ordersOn 180 = .ok (.invokevirtual 257, 3) := by decide +kernel
theorem dX11_ordersOn_183 : decode cX11_ordersOn 183 = .ok (.iinc 7 1, 3) := by decide +kernel
theorem dX11_ordersOn_186 : decode cX11_ordersOn 186 = .ok (.goto (-47), 3) := by decide +kernel
theorem dX11_ordersOn_189 : decode cX11_ordersOn 189 = .ok (.return_, 1) := by decide +kernel
theorem dX11_order_0 : decode cX11_order 0 = .ok (.aload_n 0, 1) := by decide +kernel
theorem dX11_order_1 : decode cX11_order 1 = .ok (.iload_n 1, 1) := by decide +kernel
theorem dX11_order_2 : decode cX11_order 2 = .ok (.invokevirtual 228, 3) := by decide +kernel
theorem dX11_order_5 : decode cX11_order 5 = .ok (.iconst (-1), 1) := by decide +kernel
theorem dX11_order_6 : decode cX11_order 6 = .ok (.if_icmp .eq 39, 3) := by decide +kernel
theorem dX11_order_9 : decode cX11_order 9 = .ok (.iload_n 2, 1) := by decide +kernel
theorem dX11_order_10 : decode cX11_order 10 = .ok (.ifCond .lt 35, 3) := by decide +kernel
theorem dX11_order_13 : decode cX11_order 13 = .ok (.aload_n 0, 1) := by decide +kernel
theorem dX11_order_14 : decode cX11_order 14 = .ok (.iload_n 2, 1) := by decide +kernel
theorem dX11_order_15 : decode cX11_order 15 = .ok (.bipush 100, 2) := by decide +kernel
theorem dX11_order_17 : decode cX11_order 17 = .ok (.idiv, 1) := by decide +kernel
theorem dX11_order_18 : decode cX11_order 18 = .ok (.i2l, 1) := by decide +kernel
theorem dX11_order_19 : decode cX11_order 19 = .ok (.invokevirtual 128, 3) := by decide +kernel
theorem dX11_order_22 : decode cX11_order 22 = .ok (.ifCond .eq 23, 3) := by decide +kernel
theorem dX11_order_25 : decode cX11_order 25 = .ok (.iload_n 2, 1) := by decide +kernel
theorem dX11_order_26 : decode cX11_order 26 = .ok (.bipush 100, 2) := by decide +kernel
theorem dX11_order_28 : decode cX11_order 28 = .ok (.irem, 1) := by decide +kernel
theorem dX11_order_29 : decode cX11_order 29 = .ok (.i2l, 1) := by decide +kernel
theorem dX11_order_30 : decode cX11_order 30 = .ok (.lconst 0, 1) := by decide +kernel
theorem dX11_order_31 : decode cX11_order 31 = .ok (.ldc2_w 244, 3) := by decide +kernel
theorem dX11_order_34 : decode cX11_order 34 = .ok (.invokestatic 111, 3) := by decide +kernel
theorem dX11_order_37 : decode cX11_order 37 = .ok (.ifCond .eq 8, 3) := by decide +kernel
theorem dX11_order_40 : decode cX11_order 40 = .ok (.iload_n 3, 1) := by decide +kernel
theorem dX11_order_41 : decode cX11_order 41 = .ok (.iconst (-1), 1) := by decide +kernel
theorem dX11_order_42 : decode cX11_order 42 = .ok (.if_icmp .ge 5, 3) := by decide +kernel
theorem dX11_order_45 : decode cX11_order 45 = .ok (.iconst (-1), 1) := by decide +kernel
theorem dX11_order_46 : decode cX11_order 46 = .ok (.ireturn, 1) := by decide +kernel
theorem dX11_order_47 : decode cX11_order 47 = .ok (.aload_n 0, 1) := by decide +kernel
theorem dX11_order_48 : decode cX11_order 48 = .ok (.iload_n 1, 1) := by decide +kernel
theorem dX11_order_49 : decode cX11_order 49 = .ok (.invokevirtual 228, 3) := by decide +kernel
theorem dX11_order_52 : decode cX11_order 52 = .ok (.ifCond .ge 9, 3) := by decide +kernel
theorem dX11_order_55 : decode cX11_order 55 = .ok (.aload_n 0, 1) := by decide +kernel
theorem dX11_order_56 : decode cX11_order 56 = .ok (.iload_n 1, 1) := by decide +kernel
theorem dX11_order_57 : decode cX11_order 57 = .ok (.invokevirtual 228, 3) := by decide +kernel
theorem dX11_order_60 : decode cX11_order 60 = .ok (.ireturn, 1) := by decide +kernel
theorem dX11_order_61 : decode cX11_order 61 = .ok (.aload_n 0, 1) := by decide +kernel
theorem dX11_order_62 : decode cX11_order 62 = .ok (.iload_n 1, 1) := by decide +kernel
theorem dX11_order_63 : decode cX11_order 63 = .ok (.invokevirtual 231, 3) := by decide +kernel
theorem dX11_order_66 : decode cX11_order 66 = .ok (.iconst 5, 1) := by decide +kernel
theorem dX11_order_67 : decode cX11_order 67 = .ok (.if_icmp .ge 11, 3) := by decide +kernel
theorem dX11_order_70 : decode cX11_order 70 = .ok (.aload_n 0, 1) := by decide +kernel
theorem dX11_order_71 : decode cX11_order 71 = .ok (.iload_n 1, 1) := by decide +kernel
theorem dX11_order_72 : decode cX11_order 72 = .ok (.invokevirtual 231, 3) := by decide +kernel
theorem dX11_order_75 : decode cX11_order 75 = .ok (.goto 4, 3) := by decide +kernel
theorem dX11_order_78 : decode cX11_order 78 = .ok (.iconst 5, 1) := by decide +kernel
theorem dX11_order_79 : decode cX11_order 79 = .ok (.istore 4, 2) := by decide +kernel
theorem dX11_order_81 : decode cX11_order 81 = .ok (.aload_n 0, 1) := by decide +kernel
theorem dX11_order_82 : decode cX11_order 82 = .ok (.iconst (-1), 1) := by decide +kernel
theorem dX11_order_83 : decode cX11_order 83 = .ok (.putfield 251, 3) := by decide +kernel
theorem dX11_order_86 : decode cX11_order 86 = .ok (.aload_n 0, 1) := by decide +kernel
theorem dX11_order_87 : decode cX11_order 87 = .ok (.iload_n 1, 1) := by decide +kernel
theorem dX11_order_88 : decode cX11_order 88 = .ok (.iconst 0, 1) := by decide +kernel
theorem dX11_order_89 : decode cX11_order 89 = .ok (.iconst 0, 1) := by decide +kernel
theorem dX11_order_90 : decode cX11_order 90 = .ok (.iload 4, 2) := by decide +kernel
theorem dX11_order_92 : decode cX11_order 92 = .ok (.iload_n 2, 1) := by decide +kernel
theorem dX11_order_93 : decode cX11_order 93 = .ok (.bipush 100, 2) := by decide +kernel
theorem dX11_order_95 : decode cX11_order 95 = .ok (.idiv, 1) := by decide +kernel
theorem dX11_order_96 : decode cX11_order 96 = .ok (.iload_n 2, 1) := by decide +kernel
theorem dX11_order_97 : decode cX11_order 97 = .ok (.bipush 100, 2) := by decide +kernel
theorem dX11_order_99 : decode cX11_order 99 = .ok (.irem, 1) := by decide +kernel
theorem dX11_order_100 : decode cX11_order 100 = .ok (.invokevirtual 257, 3) := by decide +kernel
theorem dX11_order_103 : decode cX11_order 103 = .ok (.iload_n 3, 1) := by decide +kernel
theorem dX11_order_104 : decode cX11_order 104 = .ok (.ifCond .ge 10, 3) := by decide +kernel
theorem dX11_order_107 : decode cX11_order 107 = .ok (.aload_n 0, 1) := by decide +kernel
theorem dX11_order_108 : decode cX11_order 108 = .ok (.getfield 251, 3) := by decide +kernel
theorem dX11_order_111 : decode cX11_order 111 = .ok (.goto 20, 3) := by decide +kernel
theorem dX11_order_114 : decode cX11_order 114 = .ok (.iload_n 3, 1) := by decide +kernel
theorem dX11_order_115 : decode cX11_order 115 = .ok (.iload 4, 2) := by decide +kernel
theorem dX11_order_117 : decode cX11_order 117 = .ok (.if_icmp .ge 12, 3) := by decide +kernel
theorem dX11_order_120 : decode cX11_order 120 = .ok (.aload_n 0, 1) := by decide +kernel
theorem dX11_order_121 : decode cX11_order 121 = .ok (.getfield 55, 3) := by decide +kernel
theorem dX11_order_124 : decode cX11_order 124 = .ok (.iload_n 3, 1) := by decide +kernel
theorem dX11_order_125 : decode cX11_order 125 = .ok (.iaload, 1) := by decide +kernel
theorem dX11_order_126 : decode cX11_order 126 = .ok (.goto 5, 3) := by decide +kernel
theorem dX11_order_129 : decode cX11_order 129 = .ok (.bipush (-2), 2) := by decide +kernel
theorem dX11_order_131 : decode cX11_order 131 = .ok (.ireturn, 1) := by decide +kernel
theorem dX11_heats_0 : decode cX11_heats 0 = .ok (.iconst 0, 1) := by decide +kernel
theorem dX11_heats_1 : decode cX11_heats 1 = .ok (.istore_n 1, 1) := by decide +kernel
theorem dX11_heats_2 : decode cX11_heats 2 = .ok (.iconst 0, 1) := by decide +kernel
theorem dX11_heats_3 : decode cX11_heats 3 = .ok (.istore_n 2, 1) := by decide +kernel
theorem dX11_heats_4 : decode cX11_heats 4 = .ok (.iload_n 2, 1) := by decide +kernel
theorem dX11_heats_5 : decode cX11_heats 5 = .ok (.bipush 49, 2) := by decide +kernel
theorem dX11_heats_7 : decode cX11_heats 7 = .ok (.if_icmp .ge 20, 3) := by decide +kernel
theorem dX11_heats_10 : decode cX11_heats 10 = .ok (.aload_n 0, 1) := by decide +kernel
theorem dX11_heats_11 : decode cX11_heats 11 = .ok (.getfield 48, 3) := by decide +kernel
theorem dX11_heats_14 : decode cX11_heats 14 = .ok (.iload_n 2, 1) := by decide +kernel
theorem dX11_heats_15 : decode cX11_heats 15 = .ok (.aload_n 0, 1) := by decide +kernel
theorem dX11_heats_16 : decode cX11_heats 16 = .ok (.iload_n 2, 1) := by decide +kernel
theorem dX11_heats_17 : decode cX11_heats 17 = .ok (.invokevirtual 152, 3) := by decide +kernel
theorem dX11_heats_20 : decode cX11_heats 20 = .ok (.bastore, 1) := by decide +kernel
theorem dX11_heats_21 : decode cX11_heats 21 = .ok (.iinc 2 1, 3) := by decide +kernel
theorem dX11_heats_24 : decode cX11_heats 24 = .ok (.goto (-20), 3) := by decide +kernel
theorem dX11_heats_27 : decode cX11_heats 27 = .ok (.iconst 0, 1) := by decide +kernel
theorem dX11_heats_28 : decode cX11_heats 28 = .ok (.istore_n 2, 1) := by decide +kernel
theorem dX11_heats_29 : decode cX11_heats 29 = .ok (.iload_n 2, 1) := by decide +kernel
theorem dX11_heats_30 : decode cX11_heats 30 = .ok (.bipush 49, 2) := by decide +kernel
theorem dX11_heats_32 : decode cX11_heats 32 = .ok (.if_icmp .ge 130, 3) := by decide +kernel
theorem dX11_heats_35 : decode cX11_heats 35 = .ok (.iload_n 2, 1) := by decide +kernel
theorem dX11_heats_36 : decode cX11_heats 36 = .ok (.iconst 1, 1) := by decide +kernel
theorem dX11_heats_37 : decode cX11_heats 37 = .ok (.iadd, 1) := by decide +kernel
theorem dX11_heats_38 : decode cX11_heats 38 = .ok (.istore_n 3, 1) := by decide +kernel
theorem dX11_heats_39 : decode cX11_heats 39 = .ok (.iload_n 3, 1) := by decide +kernel
theorem dX11_heats_40 : decode cX11_heats 40 = .ok (.bipush 49, 2) := by decide +kernel
theorem dX11_heats_42 : decode cX11_heats 42 = .ok (.if_icmp .ge 114, 3) := by decide +kernel
theorem dX11_heats_45 : decode cX11_heats 45 = .ok (.iload_n 2, 1) := by decide +kernel
theorem dX11_heats_46 : decode cX11_heats 46 = .ok (.iload_n 3, 1) := by decide +kernel
theorem dX11_heats_47 : decode cX11_heats 47 = .ok (.invokestatic 99, 3) := by decide +kernel
theorem dX11_heats_50 : decode cX11_heats 50 = .ok (.ifCond .eq 100, 3) := by decide +kernel
theorem dX11_heats_53 : decode cX11_heats 53 = .ok (.aload_n 0, 1) := by decide +kernel
theorem dX11_heats_54 : decode cX11_heats 54 = .ok (.iload_n 2, 1) := by decide +kernel
theorem dX11_heats_55 : decode cX11_heats 55 = .ok (.invokevirtual 147, 3) := by decide +kernel
theorem dX11_heats_58 : decode cX11_heats 58 = .ok (.ifCond .eq 92, 3) := by decide +kernel
theorem dX11_heats_61 : decode cX11_heats 61 = .ok (.aload_n 0, 1) := by decide +kernel
theorem dX11_heats_62 : decode cX11_heats 62 = .ok (.iload_n 3, 1) := by decide +kernel
theorem dX11_heats_63 : decode cX11_heats 63 = .ok (.invokevirtual 147, 3) := by decide +kernel
theorem dX11_heats_66 : decode cX11_heats 66 = .ok (.ifCond .eq 84, 3) := by decide +kernel
theorem dX11_heats_69 : decode cX11_heats 69 = .ok (.aload_n 0, 1) := by decide +kernel
theorem dX11_heats_70 : decode cX11_heats 70 = .ok (.getfield 48, 3) := by decide +kernel
theorem dX11_heats_73 : decode cX11_heats 73 = .ok (.iload_n 2, 1) := by decide +kernel
theorem dX11_heats_74 : decode cX11_heats 74 = .ok (.baload, 1) := by decide +kernel
theorem dX11_heats_75 : decode cX11_heats 75 = .ok (.ifCond .ne 75, 3) := by decide +kernel
theorem dX11_heats_78 : decode cX11_heats 78 = .ok (.aload_n 0, 1) := by decide +kernel
theorem dX11_heats_79 : decode cX11_heats 79 = .ok (.getfield 48, 3) := by decide +kernel
theorem dX11_heats_82 : decode cX11_heats 82 = .ok (.iload_n 3, 1) := by decide +kernel
theorem dX11_heats_83 : decode cX11_heats 83 = .ok (.baload, 1) := by decide +kernel
theorem dX11_heats_84 : decode cX11_heats 84 = .ok (.ifCond .ne 66, 3) := by decide +kernel
theorem dX11_heats_87 : decode cX11_heats 87 = .ok (.aload_n 0, 1) := by decide +kernel
theorem dX11_heats_88 : decode cX11_heats 88 = .ok (.getfield 33, 3) := by decide +kernel
theorem dX11_heats_91 : decode cX11_heats 91 = .ok (.iload_n 2, 1) := by decide +kernel
theorem dX11_heats_92 : decode cX11_heats 92 = .ok (.iaload, 1) := by decide +kernel
theorem dX11_heats_93 : decode cX11_heats 93 = .ok (.aload_n 0, 1) := by decide +kernel
theorem dX11_heats_94 : decode cX11_heats 94 = .ok (.getfield 33, 3) := by decide +kernel
theorem dX11_heats_97 : decode cX11_heats 97 = .ok (.iload_n 3, 1) := by decide +kernel
theorem dX11_heats_98 : decode cX11_heats 98 = .ok (.iaload, 1) := by decide +kernel
theorem dX11_heats_99 : decode cX11_heats 99 = .ok (.if_icmp .eq 51, 3) := by decide +kernel
theorem dX11_heats_102 : decode cX11_heats 102 = .ok (.aload_n 0, 1) := by decide +kernel
theorem dX11_heats_103 : decode cX11_heats 103 = .ok (.getfield 36, 3) := by decide +kernel
theorem dX11_heats_106 : decode cX11_heats 106 = .ok (.iload_n 2, 1) := by decide +kernel
theorem dX11_heats_107 : decode cX11_heats 107 = .ok (.iaload, 1) := by decide +kernel
theorem dX11_heats_108 : decode cX11_heats 108 = .ok (.aload_n 0, 1) := by decide +kernel
theorem dX11_heats_109 : decode cX11_heats 109 = .ok (.getfield 36, 3) := by decide +kernel
theorem dX11_heats_112 : decode cX11_heats 112 = .ok (.iload_n 3, 1) := by decide +kernel
theorem dX11_heats_113 : decode cX11_heats 113 = .ok (.iaload, 1) := by decide +kernel
theorem dX11_heats_114 : decode cX11_heats 114 = .ok (.if_icmp .ge 7, 3) := by decide +kernel
theorem dX11_heats_117 : decode cX11_heats 117 = .ok (.iload_n 2, 1) := by decide +kernel
theorem dX11_heats_118 : decode cX11_heats 118 = .ok (.goto 4, 3) := by decide +kernel
theorem dX11_heats_121 : decode cX11_heats 121 = .ok (.iload_n 3, 1) := by decide +kernel
theorem dX11_heats_122 : decode cX11_heats 122 = .ok (.istore 4, 2) := by decide +kernel
theorem dX11_heats_124 : decode cX11_heats 124 = .ok (.aload_n 0, 1) := by decide +kernel
theorem dX11_heats_125 : decode cX11_heats 125 = .ok (.getfield 33, 3) := by decide +kernel
theorem dX11_heats_128 : decode cX11_heats 128 = .ok (.iload 4, 2) := by decide +kernel
theorem dX11_heats_130 : decode cX11_heats 130 = .ok (.aload_n 0, 1) := by decide +kernel
theorem dX11_heats_131 : decode cX11_heats 131 = .ok (.getfield 33, 3) := by decide +kernel
theorem dX11_heats_134 : decode cX11_heats 134 = .ok (.iload 4, 2) := by decide +kernel
theorem dX11_heats_136 : decode cX11_heats 136 = .ok (.iload_n 2, 1) := by decide +kernel
theorem dX11_heats_137 : decode cX11_heats 137 = .ok (.if_icmp .ne 7, 3) := by decide +kernel
theorem dX11_heats_140 : decode cX11_heats 140 = .ok (.iload_n 3, 1) := by decide +kernel
theorem dX11_heats_141 : decode cX11_heats 141 = .ok (.goto 4, 3) := by decide +kernel
theorem dX11_heats_144 : decode cX11_heats 144 = .ok (.iload_n 2, 1) := by decide +kernel
theorem dX11_heats_145 : decode cX11_heats 145 = .ok (.iaload, 1) := by decide +kernel
theorem dX11_heats_146 : decode cX11_heats 146 = .ok (.iastore, 1) := by decide +kernel
theorem dX11_heats_147 : decode cX11_heats 147 = .ok (.iinc 1 1, 3) := by decide +kernel
theorem dX11_heats_150 : decode cX11_heats 150 = .ok (.iinc 3 1, 3) := by decide +kernel
theorem dX11_heats_153 : decode cX11_heats 153 = .ok (.goto (-114), 3) := by decide +kernel
theorem dX11_heats_156 : decode cX11_heats 156 = .ok (.iinc 2 1, 3) := by decide +kernel
theorem dX11_heats_159 : decode cX11_heats 159 = .ok (.goto (-130), 3) := by decide +kernel
theorem dX11_heats_162 : decode cX11_heats 162 = .ok (.iload_n 1, 1) := by decide +kernel
theorem dX11_heats_163 : decode cX11_heats 163 = .ok (.ireturn, 1) := by decide +kernel
theorem dX11_heat_0 : decode cX11_heat 0 = .ok (.iload_n 1, 1) := by decide +kernel
theorem dX11_heat_1 : decode cX11_heat 1 = .ok (.iconst (-1), 1) := by decide +kernel
theorem dX11_heat_2 : decode cX11_heat 2 = .ok (.if_icmp .eq 14, 3) := by decide +kernel
theorem dX11_heat_5 : decode cX11_heat 5 = .ok (.aload_n 0, 1) := by decide +kernel
theorem dX11_heat_6 : decode cX11_heat 6 = .ok (.iload_n 1, 1) := by decide +kernel
theorem dX11_heat_7 : decode cX11_heat 7 = .ok (.i2l, 1) := by decide +kernel
theorem dX11_heat_8 : decode cX11_heat 8 = .ok (.invokevirtual 128, 3) := by decide +kernel
theorem dX11_heat_11 : decode cX11_heat 11 = .ok (.ifCond .ne 5, 3) := by decide +kernel
theorem dX11_heat_14 : decode cX11_heat 14 = .ok (.iconst (-1), 1) := by decide +kernel
theorem dX11_heat_15 : decode cX11_heat 15 = .ok (.ireturn, 1) := by decide +kernel
theorem dX11_heat_16 : decode cX11_heat 16 = .ok (.aload_n 0, 1) := by decide +kernel
theorem dX11_heat_17 : decode cX11_heat 17 = .ok (.invokevirtual 140, 3) := by decide +kernel
theorem dX11_heat_20 : decode cX11_heat 20 = .ok (.aload_n 0, 1) := by decide +kernel
theorem dX11_heat_21 : decode cX11_heat 21 = .ok (.invokevirtual 261, 3) := by decide +kernel
theorem dX11_heat_24 : decode cX11_heat 24 = .ok (.istore_n 2, 1) := by decide +kernel
theorem dX11_heat_25 : decode cX11_heat 25 = .ok (.iload_n 1, 1) := by decide +kernel
theorem dX11_heat_26 : decode cX11_heat 26 = .ok (.ifCond .ge 7, 3) := by decide +kernel
theorem dX11_heat_29 : decode cX11_heat 29 = .ok (.iload_n 2, 1) := by decide +kernel
theorem dX11_heat_30 : decode cX11_heat 30 = .ok (.goto 8, 3) := by decide +kernel
theorem dX11_heat_33 : decode cX11_heat 33 = .ok (.aload_n 0, 1) := by decide +kernel
theorem dX11_heat_34 : decode cX11_heat 34 = .ok (.iload_n 1, 1) := by decide +kernel
theorem dX11_heat_35 : decode cX11_heat 35 = .ok (.invokevirtual 143, 3) := by decide +kernel
theorem dX11_heat_38 : decode cX11_heat 38 = .ok (.ireturn, 1) := by decide +kernel
theorem dX11_swarms_0 : decode cX11_swarms 0 = .ok (.iconst 0, 1) := by decide +kernel
theorem dX11_swarms_1 : decode cX11_swarms 1 = .ok (.istore_n 3, 1) := by decide +kernel
theorem dX11_swarms_2 : decode cX11_swarms 2 = .ok (.iconst 0, 1) := by decide +kernel
theorem dX11_swarms_3 : decode cX11_swarms 3 = .ok (.istore 4, 2) := by decide +kernel
theorem dX11_swarms_5 : decode cX11_swarms 5 = .ok (.iload 4, 2) := by decide +kernel
theorem dX11_swarms_7 : decode cX11_swarms 7 = .ok (.bipush 49, 2) := by decide +kernel
theorem dX11_swarms_9 : decode cX11_swarms 9 = .ok (.if_icmp .ge 53, 3) := by decide +kernel
theorem dX11_swarms_12 : decode cX11_swarms 12 = .ok (.aload_n 0, 1) := by decide +kernel
theorem dX11_swarms_13 : decode cX11_swarms 13 = .ok (.getfield 24, 3) := by decide +kernel
theorem dX11_swarms_16 : decode cX11_swarms 16 = .ok (.bipush 49, 2) := by decide +kernel
theorem dX11_swarms_18 : decode cX11_swarms 18 = .ok (.iload_n 1, 1) := by decide +kernel
theorem dX11_swarms_19 : decode cX11_swarms 19 = .ok (.imul, 1) := by decide +kernel
theorem dX11_swarms_20 : decode cX11_swarms 20 = .ok (.iload 4, 2) := by decide +kernel
theorem dX11_swarms_22 : decode cX11_swarms 22 = .ok (.iadd, 1) := by decide +kernel
theorem dX11_swarms_23 : decode cX11_swarms 23 = .ok (.iaload, 1) := by decide +kernel
theorem dX11_swarms_24 : decode cX11_swarms 24 = .ok (.iload_n 2, 1) := by decide +kernel
theorem dX11_swarms_25 : decode cX11_swarms 25 = .ok (.if_icmp .gt 31, 3) := by decide +kernel
theorem dX11_swarms_28 : decode cX11_swarms 28 = .ok (.aload_n 0, 1) := by decide +kernel
theorem dX11_swarms_29 : decode cX11_swarms 29 = .ok (.iload 4, 2) := by decide +kernel
theorem dX11_swarms_31 : decode cX11_swarms 31 = .ok (.invokevirtual 147, 3) := by decide +kernel
theorem dX11_swarms_34 : decode cX11_swarms 34 = .ok (.ifCond .eq 22, 3) := by decide +kernel
theorem dX11_swarms_37 : decode cX11_swarms 37 = .ok (.aload_n 0, 1) := by decide +kernel
theorem dX11_swarms_38 : decode cX11_swarms 38 = .ok (.getfield 33, 3) := by decide +kernel
theorem dX11_swarms_41 : decode cX11_swarms 41 = .ok (.iload 4, 2) := by decide +kernel
theorem dX11_swarms_43 : decode cX11_swarms 43 = .ok (.iconst (-1), 1) := by decide +kernel
theorem dX11_swarms_44 : decode cX11_swarms 44 = .ok (.iastore, 1) := by decide +kernel
theorem dX11_swarms_45 : decode cX11_swarms 45 = .ok (.aload_n 0, 1) := by decide +kernel
theorem dX11_swarms_46 : decode cX11_swarms 46 = .ok (.getfield 36, 3) := by decide +kernel
theorem dX11_swarms_49 : decode cX11_swarms 49 = .ok (.iload 4, 2) := by decide +kernel
theorem dX11_swarms_51 : decode cX11_swarms 51 = .ok (.iconst 0, 1) := by decide +kernel
theorem dX11_swarms_52 : decode cX11_swarms 52 = .ok (.iastore, 1) := by decide +kernel
theorem dX11_swarms_53 : decode cX11_swarms 53 = .ok (.iinc 3 1, 3) := by decide +kernel
theorem dX11_swarms_56 : decode cX11_swarms 56 = .ok (.iinc 4 1, 3) := by decide +kernel
theorem dX11_swarms_59 : decode cX11_swarms 59 = .ok (.goto (-54), 3) := by decide +kernel
theorem dX11_swarms_62 : decode cX11_swarms 62 = .ok (.iload_n 3, 1) := by decide +kernel
theorem dX11_swarms_63 : decode cX11_swarms 63 = .ok (.ireturn, 1) := by decide +kernel
theorem dX11_isCm_0 : decode cX11_isCm 0 = .ok (.iload_n 0, 1) := by decide +kernel
theorem dX11_isCm_1 : decode cX11_isCm 1 = .ok (.ifCond .lt 26, 3) := by decide +kernel
theorem dX11_isCm_4 : decode cX11_isCm 4 = .ok (.iload_n 0, 1) := by decide +kernel
theorem dX11_isCm_5 : decode cX11_isCm 5 = .ok (.bipush 10, 2) := by decide +kernel
theorem dX11_isCm_7 : decode cX11_isCm 7 = .ok (.idiv, 1) := by decide +kernel
theorem dX11_isCm_8 : decode cX11_isCm 8 = .ok (.i2l, 1) := by decide +kernel
theorem dX11_isCm_9 : decode cX11_isCm 9 = .ok (.invokestatic 120, 3) := by decide +kernel
theorem dX11_isCm_12 : decode cX11_isCm 12 = .ok (.ifCond .eq 15, 3) := by decide +kernel
theorem dX11_isCm_15 : decode cX11_isCm 15 = .ok (.iload_n 0, 1) := by decide +kernel
theorem dX11_isCm_16 : decode cX11_isCm 16 = .ok (.bipush 10, 2) := by decide +kernel
theorem dX11_isCm_18 : decode cX11_isCm 18 = .ok (.irem, 1) := by decide +kernel
theorem dX11_isCm_19 : decode cX11_isCm 19 = .ok (.iconst 3, 1) := by decide +kernel
theorem dX11_isCm_20 : decode cX11_isCm 20 = .ok (.if_icmp .gt 7, 3) := by decide +kernel
theorem dX11_isCm_23 : decode cX11_isCm 23 = .ok (.iconst 1, 1) := by decide +kernel
theorem dX11_isCm_24 : decode cX11_isCm 24 = .ok (.goto 4, 3) := by decide +kernel
theorem dX11_isCm_27 : decode cX11_isCm 27 = .ok (.iconst 0, 1) := by decide +kernel
theorem dX11_isCm_28 : decode cX11_isCm 28 = .ok (.ireturn, 1) := by decide +kernel
theorem dX11_swarm_0 : decode cX11_swarm 0 = .ok (.iload_n 1, 1) := by decide +kernel
theorem dX11_swarm_1 : decode cX11_swarm 1 = .ok (.invokestatic 264, 3) := by decide +kernel
theorem dX11_swarm_4 : decode cX11_swarm 4 = .ok (.ifCond .eq 17, 3) := by decide +kernel
theorem dX11_swarm_7 : decode cX11_swarm 7 = .ok (.iload_n 2, 1) := by decide +kernel
theorem dX11_swarm_8 : decode cX11_swarm 8 = .ok (.iconst (-1), 1) := by decide +kernel
theorem dX11_swarm_9 : decode cX11_swarm 9 = .ok (.if_icmp .eq 14, 3) := by decide +kernel
theorem dX11_swarm_12 : decode cX11_swarm 12 = .ok (.aload_n 0, 1) := by decide +kernel
theorem dX11_swarm_13 : decode cX11_swarm 13 = .ok (.iload_n 2, 1) := by decide +kernel
theorem dX11_swarm_14 : decode cX11_swarm 14 = .ok (.i2l, 1) := by decide +kernel
theorem dX11_swarm_15 : decode cX11_swarm 15 = .ok (.invokevirtual 128, 3) := by decide +kernel
theorem dX11_swarm_18 : decode cX11_swarm 18 = .ok (.ifCond .ne 5, 3) := by decide +kernel
theorem dX11_swarm_21 : decode cX11_swarm 21 = .ok (.iconst (-1), 1) := by decide +kernel
theorem dX11_swarm_22 : decode cX11_swarm 22 = .ok (.ireturn, 1) := by decide +kernel
theorem dX11_swarm_23 : decode cX11_swarm 23 = .ok (.aload_n 0, 1) := by decide +kernel
theorem dX11_swarm_24 : decode cX11_swarm 24 = .ok (.invokevirtual 140, 3) := by decide +kernel
theorem dX11_swarm_27 : decode cX11_swarm 27 = .ok (.aload_n 0, 1) := by decide +kernel
theorem dX11_swarm_28 : decode cX11_swarm 28 = .ok (.iload_n 1, 1) := by decide +kernel
theorem dX11_swarm_29 : decode cX11_swarm 29 = .ok (.bipush 10, 2) := by decide +kernel
theorem dX11_swarm_31 : decode cX11_swarm 31 = .ok (.idiv, 1) := by decide +kernel
theorem dX11_swarm_32 : decode cX11_swarm 32 = .ok (.iload_n 1, 1) := by decide +kernel
theorem dX11_swarm_33 : decode cX11_swarm 33 = .ok (.bipush 10, 2) := by decide +kernel
theorem dX11_swarm_35 : decode cX11_swarm 35 = .ok (.irem, 1) := by decide +kernel
theorem dX11_swarm_36 : decode cX11_swarm 36 = .ok (.invokevirtual 267, 3) := by decide +kernel
theorem dX11_swarm_39 : decode cX11_swarm 39 = .ok (.istore_n 3, 1) := by decide +kernel
theorem dX11_swarm_40 : decode cX11_swarm 40 = .ok (.iload_n 2, 1) := by decide +kernel
theorem dX11_swarm_41 : decode cX11_swarm 41 = .ok (.ifCond .ge 7, 3) := by decide +kernel
theorem dX11_swarm_44 : decode cX11_swarm 44 = .ok (.iload_n 3, 1) := by decide +kernel
theorem dX11_swarm_45 : decode cX11_swarm 45 = .ok (.goto 8, 3) := by decide +kernel
theorem dX11_swarm_48 : decode cX11_swarm 48 = .ok (.aload_n 0, 1) := by decide +kernel
theorem dX11_swarm_49 : decode cX11_swarm 49 = .ok (.iload_n 2, 1) := by decide +kernel
theorem dX11_swarm_50 : decode cX11_swarm 50 = .ok (.invokevirtual 143, 3) := by decide +kernel
theorem dX11_swarm_53 : decode cX11_swarm 53 = .ok (.ireturn, 1) := by decide +kernel
theorem dX11_least_0 : decode cX11_least 0 = .ok (.aload_n 0, 1) := by decide +kernel
theorem dX11_least_1 : decode cX11_least 1 = .ok (.iload_n 1, 1) := by decide +kernel
theorem dX11_least_2 : decode cX11_least 2 = .ok (.i2l, 1) := by decide +kernel
theorem dX11_least_3 : decode cX11_least 3 = .ok (.invokevirtual 128, 3) := by decide +kernel
theorem dX11_least_6 : decode cX11_least 6 = .ok (.ifCond .eq 27, 3) := by decide +kernel
theorem dX11_least_9 : decode cX11_least 9 = .ok (.iload_n 2, 1) := by decide +kernel
theorem dX11_least_10 : decode cX11_least 10 = .ok (.i2l, 1) := by decide +kernel
theorem dX11_least_11 : decode cX11_least 11 = .ok (.lconst 1, 1) := by decide +kernel
theorem dX11_least_12 : decode cX11_least 12 = .ok (.ldc2_w 270, 3) := by decide +kernel
theorem dX11_least_15 : decode cX11_least 15 = .ok (.invokestatic 111, 3) := by decide +kernel
theorem dX11_least_18 : decode cX11_least 18 = .ok (.ifCond .eq 15, 3) := by decide +kernel
theorem dX11_least_21 : decode cX11_least 21 = .ok (.iload_n 3, 1) := by decide +kernel
theorem dX11_least_22 : decode cX11_least 22 = .ok (.i2l, 1) := by decide +kernel
theorem dX11_least_23 : decode cX11_least 23 = .ok (.lconst 0, 1) := by decide +kernel
theorem dX11_least_24 : decode cX11_least 24 = .ok (.ldc2_w 131, 3) := by decide +kernel
theorem dX11_least_27 : decode cX11_least 27 = .ok (.invokestatic 111, 3) := by decide +kernel
theorem dX11_least_30 : decode cX11_least 30 = .ok (.ifCond .ne 5, 3) := by decide +kernel
theorem dX11_least_33 : decode cX11_least 33 = .ok (.iconst (-1), 1) := by decide +kernel
theorem dX11_least_34 : decode cX11_least 34 = .ok (.ireturn, 1) := by decide +kernel
theorem dX11_least_35 : decode cX11_least 35 = .ok (.bipush (-2), 2) := by decide +kernel
theorem dX11_least_37 : decode cX11_least 37 = .ok (.istore 4, 2) := by decide +kernel
theorem dX11_least_39 : decode cX11_least 39 = .ok (.bipush (-2), 2) := by decide +kernel
theorem dX11_least_41 : decode cX11_least 41 = .ok (.istore 5, 2) := by decide +kernel
theorem dX11_least_43 : decode cX11_least 43 = .ok (.iconst 0, 1) := by decide +kernel
theorem dX11_least_44 : decode cX11_least 44 = .ok (.istore 6, 2) := by decide +kernel
theorem dX11_least_46 : decode cX11_least 46 = .ok (.iload 6, 2) := by decide +kernel
theorem dX11_least_48 : decode cX11_least 48 = .ok (.iconst 3, 1) := by decide +kernel
theorem dX11_least_49 : decode cX11_least 49 = .ok (.if_icmp .gt 88, 3) := by decide +kernel
theorem dX11_least_52 : decode cX11_least 52 = .ok (.iconst 0, 1) := by decide +kernel
theorem dX11_least_53 : decode cX11_least 53 = .ok (.istore 7, 2) := by decide +kernel
theorem dX11_least_55 : decode cX11_least 55 = .ok (.iload 7, 2) := by decide +kernel
theorem dX11_least_57 : decode cX11_least 57 = .ok (.bipush 49, 2) := by decide +kernel
theorem dX11_least_59 : decode cX11_least 59 = .ok (.if_icmp .ge 72, 3) := by decide +kernel
theorem dX11_least_62 : decode cX11_least 62 = .ok (.aload_n 0, 1) := by decide +kernel
theorem dX11_least_63 : decode cX11_least 63 = .ok (.invokevirtual 140, 3) := by decide +kernel
theorem dX11_least_66 : decode cX11_least 66 = .ok (.aload_n 0, 1) := by decide +kernel
theorem dX11_least_67 : decode cX11_least 67 = .ok (.iload_n 1, 1) := by decide +kernel
theorem dX11_least_68 : decode cX11_least 68 = .ok (.invokevirtual 143, 3) := by decide +kernel
theorem dX11_least_71 : decode cX11_least 71 = .ok (.istore 8, 2) := by decide +kernel
theorem dX11_least_73 : decode cX11_least 73 = .ok (.aload_n 0, 1) := by decide +kernel
theorem dX11_least_74 : decode cX11_least 74 = .ok (.iload 7, 2) := by decide +kernel
theorem dX11_least_76 : decode cX11_least 76 = .ok (.iload 6, 2) := by decide +kernel
theorem dX11_least_78 : decode cX11_least 78 = .ok (.invokevirtual 267, 3) := by decide +kernel
theorem dX11_least_81 : decode cX11_least 81 = .ok (.istore 9, 2) := by decide +kernel
theorem dX11_least_83 : decode cX11_least 83 = .ok (.iload 8, 2) := by decide +kernel
theorem dX11_least_85 : decode cX11_least 85 = .ok (.aload_n 0, 1) := by decide +kernel
theorem dX11_least_86 : decode cX11_least 86 = .ok (.iload_n 1, 1) := by decide +kernel
theorem dX11_least_87 : decode cX11_least 87 = .ok (.invokevirtual 143, 3) := by decide +kernel
theorem dX11_least_90 : decode cX11_least 90 = .ok (.isub, 1) := by decide +kernel
theorem dX11_least_91 : decode cX11_least 91 = .ok (.istore 10, 2) := by decide +kernel
theorem dX11_least_93 : decode cX11_least 93 = .ok (.iload 9, 2) := by decide +kernel
theorem dX11_least_95 : decode cX11_least 95 = .ok (.iload_n 2, 1) := by decide +kernel
theorem dX11_least_96 : decode cX11_least 96 = .ok (.if_icmp .lt 29, 3) := by decide +kernel
theorem dX11_least_99 : decode cX11_least 99 = .ok (.iload 4, 2) := by decide +kernel
theorem dX11_least_101 : decode cX11_least 101 = .ok (.ifCond .lt 10, 3) := by decide +kernel
theorem dX11_least_104 : decode cX11_least 104 = .ok (.iload 10, 2) := by decide +kernel
theorem dX11_least_106 : decode cX11_least 106 = .ok (.iload 5, 2) := by decide +kernel
theorem dX11_least_108 : decode cX11_least 108 = .ok (.if_icmp .ge 17, 3) := by decide +kernel
theorem dX11_least_111 : decode cX11_least 111 = .ok (.bipush 10, 2) := by decide +kernel
theorem dX11_least_113 : decode cX11_least 113 = .ok (.iload 7, 2) := by decide +kernel
theorem dX11_least_115 : decode cX11_least 115 = .ok (.imul, 1) := by decide +kernel
theorem dX11_least_116 : decode cX11_least 116 = .ok (.iload 6, 2) := by decide +kernel
theorem dX11_least_118 : decode cX11_least 118 = .ok (.iadd, 1) := by decide +kernel
theorem dX11_least_119 : decode cX11_least 119 = .ok (.istore 4, 2) := by decide +kernel
theorem dX11_least_121 : decode cX11_least 121 = .ok (.iload 10, 2) := by decide +kernel
theorem dX11_least_123 : decode cX11_least 123 = .ok (.istore 5, 2) := by decide +kernel
theorem dX11_least_125 : decode cX11_least 125 = .ok (.iinc 7 1, 3) := by decide +kernel
theorem dX11_least_128 : decode cX11_least 128 = .ok (.goto (-73), 3) := by decide +kernel
theorem dX11_least_131 : decode cX11_least 131 = .ok (.iinc 6 1, 3) := by decide +kernel
theorem dX11_least_134 : decode cX11_least 134 = .ok (.goto (-88), 3) := by decide +kernel
theorem dX11_least_137 : decode cX11_least 137 = .ok (.iload_n 3, 1) := by decide +kernel
theorem dX11_least_138 : decode cX11_least 138 = .ok (.ifCond .eq 8, 3) := by decide +kernel
theorem dX11_least_141 : decode cX11_least 141 = .ok (.iload 4, 2) := by decide +kernel
theorem dX11_least_143 : decode cX11_least 143 = .ok (.ifCond .ge 8, 3) := by decide +kernel
theorem dX11_least_146 : decode cX11_least 146 = .ok (.iload 5, 2) := by decide +kernel
theorem dX11_least_148 : decode cX11_least 148 = .ok (.goto 21, 3) := by decide +kernel
theorem dX11_least_151 : decode cX11_least 151 = .ok (.iload_n 3, 1) := by decide +kernel
theorem dX11_least_152 : decode cX11_least 152 = .ok (.iconst 1, 1) := by decide +kernel
theorem dX11_least_153 : decode cX11_least 153 = .ok (.if_icmp .ne 11, 3) := by decide +kernel
theorem dX11_least_156 : decode cX11_least 156 = .ok (.iload 4, 2) := by decide +kernel
theorem dX11_least_158 : decode cX11_least 158 = .ok (.bipush 10, 2) := by decide +kernel
theorem dX11_least_160 : decode cX11_least 160 = .ok (.idiv, 1) := by decide +kernel
theorem dX11_least_161 : decode cX11_least 161 = .ok (.goto 8, 3) := by decide +kernel
theorem dX11_least_164 : decode cX11_least 164 = .ok (.iload 4, 2) := by decide +kernel
theorem dX11_least_166 : decode cX11_least 166 = .ok (.bipush 10, 2) := by decide +kernel
theorem dX11_least_168 : decode cX11_least 168 = .ok (.irem, 1) := by decide +kernel
theorem dX11_least_169 : decode cX11_least 169 = .ok (.ireturn, 1) := by decide +kernel
theorem dX11_commonOf_0 : decode cX11_commonOf 0 = .ok (.lload_n 0, 1) := by decide +kernel
theorem dX11_commonOf_1 : decode cX11_commonOf 1 = .ok (.lstore 4, 2) := by decide +kernel
theorem dX11_commonOf_3 : decode cX11_commonOf 3 = .ok (.lload_n 2, 1) := by decide +kernel
theorem dX11_commonOf_4 : decode cX11_commonOf 4 = .ok (.lstore 6, 2) := by decide +kernel
theorem dX11_commonOf_6 : decode cX11_commonOf 6 = .ok (.lload 6, 2) := by decide +kernel
theorem dX11_commonOf_8 : decode cX11_commonOf 8 = .ok (.lconst 0, 1) := by decide +kernel
theorem dX11_commonOf_9 : decode cX11_commonOf 9 = .ok (.lcmp, 1) := by decide +kernel
theorem dX11_commonOf_10 : decode cX11_commonOf 10 = .ok (.ifCond .eq 21, 3) := by decide +kernel
theorem dX11_commonOf_13 : decode cX11_commonOf 13 = .ok (.lload 4, 2) := by decide +kernel
theorem dX11_commonOf_15 : decode cX11_commonOf 15 = .ok (.lload 6, 2) := by decide +kernel
theorem dX11_commonOf_17 : decode cX11_commonOf 17 = .ok (.lrem, 1) := by decide +kernel
theorem dX11_commonOf_18 : decode cX11_commonOf 18 = .ok (.lstore 8, 2) := by decide +kernel
theorem dX11_commonOf_20 : decode cX11_commonOf 20 = .ok (.lload 6, 2) := by decide +kernel
theorem dX11_commonOf_22 : decode cX11_commonOf 22 = .ok (.lstore 4, 2) := by decide +kernel
theorem dX11_commonOf_24 : decode cX11_commonOf 24 = .ok (.lload 8, 2) := by decide +kernel
theorem dX11_commonOf_26 : decode cX11_commonOf 26 = .ok (.lstore 6, 2) := by decide +kernel
theorem dX11_commonOf_28 : decode cX11_commonOf 28 = .ok (.goto (-22), 3) := by decide +kernel
theorem dX11_commonOf_31 : decode cX11_commonOf 31 = .ok (.lload 4, 2) := by decide +kernel
theorem dX11_commonOf_33 : decode cX11_commonOf 33 = .ok (.lreturn, 1) := by decide +kernel
theorem dX11_partOf_0 : decode cX11_partOf 0 = .ok (.lload_n 0, 1) := by decide +kernel
theorem dX11_partOf_1 : decode cX11_partOf 1 = .ok (.lconst 0, 1) := by decide +kernel
theorem dX11_partOf_2 : decode cX11_partOf 2 = .ok (.lcmp, 1) := by decide +kernel
theorem dX11_partOf_3 : decode cX11_partOf 3 = .ok (.ifCond .ne 7, 3) := by decide +kernel
theorem dX11_partOf_6 : decode cX11_partOf 6 = .ok (.iload 4, 2) := by decide +kernel
theorem dX11_partOf_8 : decode cX11_partOf 8 = .ok (.i2l, 1) := by decide +kernel
theorem dX11_partOf_9 : decode cX11_partOf 9 = .ok (.lreturn, 1) := by decide +kernel
theorem dX11_partOf_10 : decode cX11_partOf 10 = .ok (.lload_n 2, 1) := by decide +kernel
theorem dX11_partOf_11 : decode cX11_partOf 11 = .ok (.lload_n 0, 1) := by decide +kernel
theorem dX11_partOf_12 : decode cX11_partOf 12 = .ok (.invokestatic 272, 3) := by decide +kernel
theorem dX11_partOf_15 : decode cX11_partOf 15 = .ok (.lstore 5, 2) := by decide +kernel
theorem dX11_partOf_17 : decode cX11_partOf 17 = .ok (.iload 4, 2) := by decide +kernel
theorem dX11_partOf_19 : decode cX11_partOf 19 = .ok (.ifCond .ne 10, 3) := by decide +kernel
theorem dX11_partOf_22 : decode cX11_partOf 22 = .ok (.lload_n 0, 1) := by decide +kernel
theorem dX11_partOf_23 : decode cX11_partOf 23 = .ok (.lload 5, 2) := by decide +kernel
theorem dX11_partOf_25 : decode cX11_partOf 25 = .ok (.ldiv, 1) := by decide +kernel
theorem dX11_partOf_26 : decode cX11_partOf 26 = .ok (.goto 7, 3) := by decide +kernel
theorem dX11_partOf_29 : decode cX11_partOf 29 = .ok (.lload_n 2, 1) := by decide +kernel
theorem dX11_partOf_30 : decode cX11_partOf 30 = .ok (.lload 5, 2) := by decide +kernel
theorem dX11_partOf_32 : decode cX11_partOf 32 = .ok (.ldiv, 1) := by decide +kernel
theorem dX11_partOf_33 : decode cX11_partOf 33 = .ok (.lreturn, 1) := by decide +kernel
theorem dX11_heardBy_0 : decode cX11_heardBy 0 = .ok (.lconst 1, 1) := by decide +kernel
theorem dX11_heardBy_1 : decode cX11_heardBy 1 = .ok (.lstore 4, 2) := by decide +kernel
theorem dX11_heardBy_3 : decode cX11_heardBy 3 = .ok (.iconst 0, 1) := by decide +kernel
theorem dX11_heardBy_4 : decode cX11_heardBy 4 = .ok (.istore 6, 2) := by decide +kernel
theorem dX11_heardBy_6 : decode cX11_heardBy 6 = .ok (.iload 6, 2) := by decide +kernel
theorem dX11_heardBy_8 : decode cX11_heardBy 8 = .ok (.iconst 3, 1) := by decide +kernel
theorem dX11_heardBy_9 : decode cX11_heardBy 9 = .ok (.if_icmp .ge 64, 3) := by decide +kernel
theorem dX11_heardBy_12 : decode cX11_heardBy 12 = .ok (.iload_n 1, 1) := by decide +kernel
theorem dX11_heardBy_13 : decode cX11_heardBy 13 = .ok (.iload 6, 2) := by decide +kernel
theorem dX11_heardBy_15 : decode cX11_heardBy 15 = .ok (.invokestatic 254, 3) := by decide +kernel
theorem dX11_heardBy_18 : decode cX11_heardBy 18 = .ok (.lload_n 2, 1) := by decide +kernel
theorem dX11_heardBy_19 : decode cX11_heardBy 19 = .ok (.l2i, 1) := by decide +kernel
theorem dX11_heardBy_20 : decode cX11_heardBy 20 = .ok (.iload 6, 2) := by decide +kernel
theorem dX11_heardBy_22 : decode cX11_heardBy 22 = .ok (.invokestatic 254, 3) := by decide +kernel
theorem dX11_heardBy_25 : decode cX11_heardBy 25 = .ok (.if_icmp .eq 7, 3) := by decide +kernel
theorem dX11_heardBy_28 : decode cX11_heardBy 28 = .ok (.iconst 1, 1) := by decide +kernel
theorem dX11_heardBy_29 : decode cX11_heardBy 29 = .ok (.goto 4, 3) := by decide +kernel
theorem dX11_heardBy_32 : decode cX11_heardBy 32 = .ok (.iconst 0, 1) := by decide +kernel
theorem dX11_heardBy_33 : decode cX11_heardBy 33 = .ok (.istore 7, 2) := by decide +kernel
theorem dX11_heardBy_35 : decode cX11_heardBy 35 = .ok (.lload 4, 2) := by decide +kernel
theorem dX11_heardBy_37 : decode cX11_heardBy 37 = .ok (.iload 7, 2) := by decide +kernel
theorem dX11_heardBy_39 : decode cX11_heardBy 39 = .ok (.ifCond .eq 14, 3) := by decide +kernel
theorem dX11_heardBy_42 : decode cX11_heardBy 42 = .ok (.aload_n 0, 1) := by decide +kernel
theorem dX11_heardBy_43 : decode cX11_heardBy 43 = .ok (.getfield 11, 3) := by decide +kernel
theorem dX11_heardBy_46 : decode cX11_heardBy 46 = .ok (.bipush 7, 2) := by decide +kernel
theorem dX11_heardBy_48 : decode cX11_heardBy 48 = .ok (.iaload, 1) := by decide +kernel
theorem dX11_heardBy_49 : decode cX11_heardBy 49 = .ok (.i2l, 1) := by decide +kernel
theorem dX11_heardBy_50 : decode cX11_heardBy 50 = .ok (.goto 14, 3) := by decide +kernel
theorem dX11_heardBy_53 : decode cX11_heardBy 53 = .ok (.bipush 12, 2) := by decide +kernel
theorem dX11_heardBy_55 : decode cX11_heardBy 55 = .ok (.aload_n 0, 1) := by decide +kernel
theorem dX11_heardBy_56 : decode cX11_heardBy 56 = .ok (.getfield 11, 3) := by decide +kernel
theorem dX11_heardBy_59 : decode cX11_heardBy 59 = .ok (.bipush 7, 2) := by decide +kernel
theorem dX11_heardBy_61 : decode cX11_heardBy 61 = .ok (.iaload, 1) := by decide +kernel
theorem dX11_heardBy_62 : decode cX11_heardBy 62 = .ok (.isub, 1) := by decide +kernel
theorem dX11_heardBy_63 : decode cX11_heardBy 63 = .ok (.i2l, 1) := by decide +kernel
theorem dX11_heardBy_64 : decode cX11_heardBy 64 = .ok (.lmul, 1) := by decide +kernel
theorem dX11_heardBy_65 : decode cX11_heardBy 65 = .ok (.lstore 4, 2) := by decide +kernel
theorem dX11_heardBy_67 : decode cX11_heardBy 67 = .ok (.iinc 6 1, 3) := by decide +kernel
theorem dX11_heardBy_70 : decode cX11_heardBy 70 = .ok (.goto (-64), 3) := by decide +kernel
theorem dX11_heardBy_73 : decode cX11_heardBy 73 = .ok (.lload 4, 2) := by decide +kernel
theorem dX11_heardBy_75 : decode cX11_heardBy 75 = .ok (.lreturn, 1) := by decide +kernel
theorem dX11_dance_0 : decode cX11_dance 0 = .ok (.iload_n 1, 1) := by decide +kernel
theorem dX11_dance_1 : decode cX11_dance 1 = .ok (.i2l, 1) := by decide +kernel
theorem dX11_dance_2 : decode cX11_dance 2 = .ok (.lconst 0, 1) := by decide +kernel
theorem dX11_dance_3 : decode cX11_dance 3 = .ok (.ldc2_w 276, 3) := by decide +kernel
theorem dX11_dance_6 : decode cX11_dance 6 = .ok (.invokestatic 111, 3) := by decide +kernel
theorem dX11_dance_9 : decode cX11_dance 9 = .ok (.ifCond .eq 21, 3) := by decide +kernel
theorem dX11_dance_12 : decode cX11_dance 12 = .ok (.iload_n 2, 1) := by decide +kernel
theorem dX11_dance_13 : decode cX11_dance 13 = .ok (.i2l, 1) := by decide +kernel
theorem dX11_dance_14 : decode cX11_dance 14 = .ok (.invokestatic 215, 3) := by decide +kernel
theorem dX11_dance_17 : decode cX11_dance 17 = .ok (.ifCond .eq 13, 3) := by decide +kernel
theorem dX11_dance_20 : decode cX11_dance 20 = .ok (.iload_n 3, 1) := by decide +kernel
theorem dX11_dance_21 : decode cX11_dance 21 = .ok (.i2l, 1) := by decide +kernel
theorem dX11_dance_22 : decode cX11_dance 22 = .ok (.lconst 0, 1) := by decide +kernel
theorem dX11_dance_23 : decode cX11_dance 23 = .ok (.lconst 1, 1) := by decide +kernel
theorem dX11_dance_24 : decode cX11_dance 24 = .ok (.invokestatic 111, 3) := by decide +kernel
theorem dX11_dance_27 : decode cX11_dance 27 = .ok (.ifCond .ne 7, 3) := by decide +kernel
theorem dX11_dance_30 : decode cX11_dance 30 = .ok (.ldc2_w 278, 3) := by decide +kernel
theorem dX11_dance_33 : decode cX11_dance 33 = .ok (.lreturn, 1) := by decide +kernel
theorem dX11_dance_34 : decode cX11_dance 34 = .ok (.lconst 0, 1) := by decide +kernel
theorem dX11_dance_35 : decode cX11_dance 35 = .ok (.lstore 4, 2) := by decide +kernel
theorem dX11_dance_37 : decode cX11_dance 37 = .ok (.iconst 1, 1) := by decide +kernel
theorem dX11_dance_38 : decode cX11_dance 38 = .ok (.istore 6, 2) := by decide +kernel
theorem dX11_dance_40 : decode cX11_dance 40 = .ok (.iload 6, 2) := by decide +kernel
theorem dX11_dance_42 : decode cX11_dance 42 = .ok (.bipush 6, 2) := by decide +kernel
theorem dX11_dance_44 : decode cX11_dance 44 = .ok (.if_icmp .gt 22, 3) := by decide +kernel
theorem dX11_dance_47 : decode cX11_dance 47 = .ok (.lload 4, 2) := by decide +kernel
theorem dX11_dance_49 : decode cX11_dance 49 = .ok (.aload_n 0, 1) := by decide +kernel
theorem dX11_dance_50 : decode cX11_dance 50 = .ok (.iload 6, 2) := by decide +kernel
theorem dX11_dance_52 : decode cX11_dance 52 = .ok (.iload_n 1, 1) := by decide +kernel
theorem dX11_dance_53 : decode cX11_dance 53 = .ok (.i2l, 1) := by decide +kernel
theorem dX11_dance_54 : decode cX11_dance 54 = .ok (.invokevirtual 280, 3) := by decide +kernel
theorem dX11_dance_57 : decode cX11_dance 57 = .ok (.ladd, 1) := by decide +kernel
theorem dX11_dance_58 : decode cX11_dance 58 = .ok (.lstore 4, 2) := by decide +kernel
theorem dX11_dance_60 : decode cX11_dance 60 = .ok (.iinc 6 1, 3) := by decide +kernel
theorem dX11_dance_63 : decode cX11_dance 63 = .ok (.goto (-23), 3) := by decide +kernel
theorem dX11_dance_66 : decode cX11_dance 66 = .ok (.lload 4, 2) := by decide +kernel
theorem dX11_dance_68 : decode cX11_dance 68 = .ok (.lconst 0, 1) := by decide +kernel
theorem dX11_dance_69 : decode cX11_dance 69 = .ok (.lcmp, 1) := by decide +kernel
theorem dX11_dance_70 : decode cX11_dance 70 = .ok (.ifCond .ne 9, 3) := by decide +kernel
theorem dX11_dance_73 : decode cX11_dance 73 = .ok (.ldc2_w 284, 3) := by decide +kernel
theorem dX11_dance_76 : decode cX11_dance 76 = .ok (.goto 16, 3) := by decide +kernel
theorem dX11_dance_79 : decode cX11_dance 79 = .ok (.aload_n 0, 1) := by decide +kernel
theorem dX11_dance_80 : decode cX11_dance 80 = .ok (.iload_n 2, 1) := by decide +kernel
theorem dX11_dance_81 : decode cX11_dance 81 = .ok (.iload_n 1, 1) := by decide +kernel
theorem dX11_dance_82 : decode cX11_dance 82 = .ok (.i2l, 1) := by decide +kernel
theorem dX11_dance_83 : decode cX11_dance 83 = .ok (.invokevirtual 280, 3) := by decide +kernel
theorem dX11_dance_86 : decode cX11_dance 86 = .ok (.lload 4, 2) := by decide +kernel
theorem dX11_dance_88 : decode cX11_dance 88 = .ok (.iload_n 3, 1) := by decide +kernel
theorem dX11_dance_89 : decode cX11_dance 89 = .ok (.invokestatic 286, 3) := by decide +kernel
theorem dX11_dance_92 : decode cX11_dance 92 = .ok (.lreturn, 1) := by decide +kernel
theorem dX11_heardRow_0 : decode cX11_heardRow 0 = .ok (.lconst 1, 1) := by decide +kernel
theorem dX11_heardRow_1 : decode cX11_heardRow 1 = .ok (.lstore_n 3, 1) := by decide +kernel
theorem dX11_heardRow_2 : decode cX11_heardRow 2 = .ok (.iconst 0, 1) := by decide +kernel
theorem dX11_heardRow_3 : decode cX11_heardRow 3 = .ok (.istore 5, 2) := by decide +kernel
theorem dX11_heardRow_5 : decode cX11_heardRow 5 = .ok (.iload 5, 2) := by decide +kernel
theorem dX11_heardRow_7 : decode cX11_heardRow 7 = .ok (.aload_n 0, 1) := by decide +kernel
theorem dX11_heardRow_8 : decode cX11_heardRow 8 = .ok (.getfield 85, 3) := by decide +kernel
theorem dX11_heardRow_11 : decode cX11_heardRow 11 = .ok (.iload_n 1, 1) := by decide +kernel
theorem dX11_heardRow_12 : decode cX11_heardRow 12 = .ok (.iaload, 1) := by decide +kernel
theorem dX11_heardRow_13 : decode cX11_heardRow 13 = .ok (.if_icmp .ge 47, 3) := by decide +kernel
theorem dX11_heardRow_16 : decode cX11_heardRow 16 = .ok (.iload 5, 2) := by decide +kernel
theorem dX11_heardRow_18 : decode cX11_heardRow 18 = .ok (.iconst 4, 1) := by decide +kernel
theorem dX11_heardRow_19 : decode cX11_heardRow 19 = .ok (.if_icmp .ge 41, 3) := by decide +kernel
theorem dX11_heardRow_22 : decode cX11_heardRow 22 = .ok (.aload_n 0, 1) := by decide +kernel
theorem dX11_heardRow_23 : decode cX11_heardRow 23 = .ok (.iload_n 1, 1) := by decide +kernel
theorem dX11_heardRow_24 : decode cX11_heardRow 24 = .ok (.iload 5, 2) := by decide +kernel
theorem dX11_heardRow_26 : decode cX11_heardRow 26 = .ok (.invokevirtual 221, 3) := by decide +kernel
theorem dX11_heardRow_29 : decode cX11_heardRow 29 = .ok (.lconst 0, 1) := by decide +kernel
theorem dX11_heardRow_30 : decode cX11_heardRow 30 = .ok (.ldc2_w 276, 3) := by decide +kernel
theorem dX11_heardRow_33 : decode cX11_heardRow 33 = .ok (.invokestatic 111, 3) := by decide +kernel
theorem dX11_heardRow_36 : decode cX11_heardRow 36 = .ok (.ifCond .eq 24, 3) := by decide +kernel
theorem dX11_heardRow_39 : decode cX11_heardRow 39 = .ok (.lload_n 3, 1) := by decide +kernel
theorem dX11_heardRow_40 : decode cX11_heardRow 40 = .ok (.aload_n 0, 1) := by decide +kernel
theorem dX11_heardRow_41 : decode cX11_heardRow 41 = .ok (.iload_n 2, 1) := by decide +kernel
theorem dX11_heardRow_42 : decode cX11_heardRow 42 = .ok (.aload_n 0, 1) := by decide +kernel
theorem dX11_heardRow_43 : decode cX11_heardRow 43 = .ok (.iload_n 1, 1) := by decide +kernel
theorem dX11_heardRow_44 : decode cX11_heardRow 44 = .ok (.iload 5, 2) := by decide +kernel
theorem dX11_heardRow_46 : decode cX11_heardRow 46 = .ok (.invokevirtual 221, 3) := by decide +kernel
theorem dX11_heardRow_49 : decode cX11_heardRow 49 = .ok (.invokevirtual 280, 3) := by decide +kernel
theorem dX11_heardRow_52 : decode cX11_heardRow 52 = .ok (.lmul, 1) := by decide +kernel
theorem dX11_heardRow_53 : decode cX11_heardRow 53 = .ok (.lstore_n 3, 1) := by decide +kernel
theorem dX11_heardRow_54 : decode cX11_heardRow 54 = .ok (.iinc 5 1, 3) := by decide +kernel
theorem dX11_heardRow_57 : decode cX11_heardRow 57 = .ok (.goto (-52), 3) := by decide +kernel
theorem dX11_heardRow_60 : decode cX11_heardRow 60 = .ok (.lload_n 3, 1) := by decide +kernel
theorem dX11_heardRow_61 : decode cX11_heardRow 61 = .ok (.lreturn, 1) := by decide +kernel
theorem dX11_dances_0 : decode cX11_dances 0 = .ok (.aload_n 0, 1) := by decide +kernel
theorem dX11_dances_1 : decode cX11_dances 1 = .ok (.iload_n 1, 1) := by decide +kernel
theorem dX11_dances_2 : decode cX11_dances 2 = .ok (.invokevirtual 228, 3) := by decide +kernel
theorem dX11_dances_5 : decode cX11_dances 5 = .ok (.iconst 1, 1) := by decide +kernel
theorem dX11_dances_6 : decode cX11_dances 6 = .ok (.if_icmp .ne 28, 3) := by decide +kernel
theorem dX11_dances_9 : decode cX11_dances 9 = .ok (.iload_n 3, 1) := by decide +kernel
theorem dX11_dances_10 : decode cX11_dances 10 = .ok (.i2l, 1) := by decide +kernel
theorem dX11_dances_11 : decode cX11_dances 11 = .ok (.lconst 0, 1) := by decide +kernel
theorem dX11_dances_12 : decode cX11_dances 12 = .ok (.ldc2_w 131, 3) := by decide +kernel
theorem dX11_dances_15 : decode cX11_dances 15 = .ok (.invokestatic 111, 3) := by decide +kernel
theorem dX11_dances_18 : decode cX11_dances 18 = .ok (.ifCond .eq 16, 3) := by decide +kernel
theorem dX11_dances_21 : decode cX11_dances 21 = .ok (.iload_n 3, 1) := by decide +kernel
theorem dX11_dances_22 : decode cX11_dances 22 = .ok (.iconst 2, 1) := by decide +kernel
theorem dX11_dances_23 : decode cX11_dances 23 = .ok (.if_icmp .ge 15, 3) := by decide +kernel
theorem dX11_dances_26 : decode cX11_dances 26 = .ok (.iload_n 2, 1) := by decide +kernel
theorem dX11_dances_27 : decode cX11_dances 27 = .ok (.i2l, 1) := by decide +kernel
theorem dX11_dances_28 : decode cX11_dances 28 = .ok (.invokestatic 215, 3) := by decide +kernel
theorem dX11_dances_31 : decode cX11_dances 31 = .ok (.ifCond .ne 7, 3) := by decide +kernel
theorem dX11_dances_34 : decode cX11_dances 34 = .ok (.ldc2_w 278, 3) := by decide +kernel
theorem dX11_dances_37 : decode cX11_dances 37 = .ok (.lreturn, 1) := by decide +kernel
theorem dX11_dances_38 : decode cX11_dances 38 = .ok (.lconst 0, 1) := by decide +kernel
theorem dX11_dances_39 : decode cX11_dances 39 = .ok (.lstore 4, 2) := by decide +kernel
theorem dX11_dances_41 : decode cX11_dances 41 = .ok (.iconst 1, 1) := by decide +kernel
theorem dX11_dances_42 : decode cX11_dances 42 = .ok (.istore 6, 2) := by decide +kernel
theorem dX11_dances_44 : decode cX11_dances 44 = .ok (.iconst 1, 1) := by decide +kernel
theorem dX11_dances_45 : decode cX11_dances 45 = .ok (.istore 7, 2) := by decide +kernel
theorem dX11_dances_47 : decode cX11_dances 47 = .ok (.iload 7, 2) := by decide +kernel
theorem dX11_dances_49 : decode cX11_dances 49 = .ok (.bipush 6, 2) := by decide +kernel
theorem dX11_dances_51 : decode cX11_dances 51 = .ok (.if_icmp .gt 48, 3) := by decide +kernel
theorem dX11_dances_54 : decode cX11_dances 54 = .ok (.lload 4, 2) := by decide +kernel
theorem dX11_dances_56 : decode cX11_dances 56 = .ok (.aload_n 0, 1) := by decide +kernel
theorem dX11_dances_57 : decode cX11_dances 57 = .ok (.iload_n 1, 1) := by decide +kernel
theorem dX11_dances_58 : decode cX11_dances 58 = .ok (.iload 7, 2) := by decide +kernel
theorem dX11_dances_60 : decode cX11_dances 60 = .ok (.invokevirtual 290, 3) := by decide +kernel
theorem dX11_dances_63 : decode cX11_dances 63 = .ok (.ladd, 1) := by decide +kernel
theorem dX11_dances_64 : decode cX11_dances 64 = .ok (.lstore 4, 2) := by decide +kernel
theorem dX11_dances_66 : decode cX11_dances 66 = .ok (.aload_n 0, 1) := by decide +kernel
theorem dX11_dances_67 : decode cX11_dances 67 = .ok (.iload_n 1, 1) := by decide +kernel
theorem dX11_dances_68 : decode cX11_dances 68 = .ok (.iload 7, 2) := by decide +kernel
theorem dX11_dances_70 : decode cX11_dances 70 = .ok (.invokevirtual 290, 3) := by decide +kernel
theorem dX11_dances_73 : decode cX11_dances 73 = .ok (.aload_n 0, 1) := by decide +kernel
theorem dX11_dances_74 : decode cX11_dances 74 = .ok (.iload_n 1, 1) := by decide +kernel
theorem dX11_dances_75 : decode cX11_dances 75 = .ok (.iload 6, 2) := by decide +kernel
theorem dX11_dances_77 : decode cX11_dances 77 = .ok (.invokevirtual 290, 3) := by decide +kernel
theorem dX11_dances_80 : decode cX11_dances 80 = .ok (.lcmp, 1) := by decide +kernel
theorem dX11_dances_81 : decode cX11_dances 81 = .ok (.ifCond .le 8, 3) := by decide +kernel
theorem dX11_dances_84 : decode cX11_dances 84 = .ok (.iload 7, 2) := by decide +kernel
theorem dX11_dances_86 : decode cX11_dances 86 = .ok (.goto 5, 3) := by decide +kernel
theorem dX11_dances_89 : decode cX11_dances 89 = .ok (.iload 6, 2) := by decide +kernel
theorem dX11_dances_91 : decode cX11_dances 91 = .ok (.istore 6, 2) := by decide +kernel
theorem dX11_dances_93 : decode cX11_dances 93 = .ok (.iinc 7 1, 3) := by decide +kernel
theorem dX11_dances_96 : decode cX11_dances 96 = .ok (.goto (-49), 3) := by decide +kernel
theorem dX11_dances_99 : decode cX11_dances 99 = .ok (.lload 4, 2) := by decide +kernel
theorem dX11_dances_101 : decode cX11_dances 101 = .ok (.lconst 0, 1) := by decide +kernel
theorem dX11_dances_102 : decode cX11_dances 102 = .ok (.lcmp, 1) := by decide +kernel
theorem dX11_dances_103 : decode cX11_dances 103 = .ok (.ifCond .ne 9, 3) := by decide +kernel
theorem dX11_dances_106 : decode cX11_dances 106 = .ok (.ldc2_w 284, 3) := by decide +kernel
theorem dX11_dances_109 : decode cX11_dances 109 = .ok (.goto 26, 3) := by decide +kernel
theorem dX11_dances_112 : decode cX11_dances 112 = .ok (.iload_n 3, 1) := by decide +kernel
theorem dX11_dances_113 : decode cX11_dances 113 = .ok (.iconst 2, 1) := by decide +kernel
theorem dX11_dances_114 : decode cX11_dances 114 = .ok (.if_icmp .ne 9, 3) := by decide +kernel
theorem dX11_dances_117 : decode cX11_dances 117 = .ok (.iload 6, 2) := by decide +kernel
theorem dX11_dances_119 : decode cX11_dances 119 = .ok (.i2l, 1) := by decide +kernel
theorem dX11_dances_120 : decode cX11_dances 120 = .ok (.goto 15, 3) := by decide +kernel
theorem dX11_dances_123 : decode cX11_dances 123 = .ok (.aload_n 0, 1) := by decide +kernel
theorem dX11_dances_124 : decode cX11_dances 124 = .ok (.iload_n 1, 1) := by decide +kernel
theorem dX11_dances_125 : decode cX11_dances 125 = .ok (.iload_n 2, 1) := by decide +kernel
theorem dX11_dances_126 : decode cX11_dances 126 = .ok (.invokevirtual 290, 3) := by decide +kernel
theorem dX11_dances_129 : decode cX11_dances 129 = .ok (.lload 4, 2) := by decide +kernel
theorem dX11_dances_131 : decode cX11_dances 131 = .ok (.iload_n 3, 1) := by decide +kernel
theorem dX11_dances_132 : decode cX11_dances 132 = .ok (.invokestatic 286, 3) := by decide +kernel
theorem dX11_dances_135 : decode cX11_dances 135 = .ok (.lreturn, 1) := by decide +kernel
theorem dX11_right_0 : decode cX11_right 0 = .ok (.iload_n 1, 1) := by decide +kernel
theorem dX11_right_1 : decode cX11_right 1 = .ok (.i2l, 1) := by decide +kernel
theorem dX11_right_2 : decode cX11_right 2 = .ok (.invokestatic 215, 3) := by decide +kernel
theorem dX11_right_5 : decode cX11_right 5 = .ok (.ifCond .eq 30, 3) := by decide +kernel
theorem dX11_right_8 : decode cX11_right 8 = .ok (.iload_n 2, 1) := by decide +kernel
theorem dX11_right_9 : decode cX11_right 9 = .ok (.i2l, 1) := by decide +kernel
theorem dX11_right_10 : decode cX11_right 10 = .ok (.lconst 0, 1) := by decide +kernel
theorem dX11_right_11 : decode cX11_right 11 = .ok (.lconst 1, 1) := by decide +kernel
theorem dX11_right_12 : decode cX11_right 12 = .ok (.invokestatic 111, 3) := by decide +kernel
theorem dX11_right_15 : decode cX11_right 15 = .ok (.ifCond .eq 20, 3) := by decide +kernel
theorem dX11_right_18 : decode cX11_right 18 = .ok (.aload_n 0, 1) := by decide +kernel
theorem dX11_right_19 : decode cX11_right 19 = .ok (.iload_n 1, 1) := by decide +kernel
theorem dX11_right_20 : decode cX11_right 20 = .ok (.iload_n 1, 1) := by decide +kernel
theorem dX11_right_21 : decode cX11_right 21 = .ok (.i2l, 1) := by decide +kernel
theorem dX11_right_22 : decode cX11_right 22 = .ok (.invokevirtual 280, 3) := by decide +kernel
theorem dX11_right_25 : decode cX11_right 25 = .ok (.ldc2_w 293, 3) := by decide +kernel
theorem dX11_right_28 : decode cX11_right 28 = .ok (.iload_n 2, 1) := by decide +kernel
theorem dX11_right_29 : decode cX11_right 29 = .ok (.invokestatic 286, 3) := by decide +kernel
theorem dX11_right_32 : decode cX11_right 32 = .ok (.goto 6, 3) := by decide +kernel
theorem dX11_right_35 : decode cX11_right 35 = .ok (.ldc2_w 278, 3) := by decide +kernel
theorem dX11_right_38 : decode cX11_right 38 = .ok (.lreturn, 1) := by decide +kernel
theorem dX11_asksGaps_0 : decode cX11_asksGaps 0 = .ok (.aload_n 0, 1) := by decide +kernel
theorem dX11_asksGaps_1 : decode cX11_asksGaps 1 = .ok (.invokevirtual 140, 3) := by decide +kernel
theorem dX11_asksGaps_4 : decode cX11_asksGaps 4 = .ok (.aload_n 0, 1) := by decide +kernel
theorem dX11_asksGaps_5 : decode cX11_asksGaps 5 = .ok (.iconst 0, 1) := by decide +kernel
theorem dX11_asksGaps_6 : decode cX11_asksGaps 6 = .ok (.putfield 295, 3) := by decide +kernel
theorem dX11_asksGaps_9 : decode cX11_asksGaps 9 = .ok (.aload_n 0, 1) := by decide +kernel
theorem dX11_asksGaps_10 : decode cX11_asksGaps 10 = .ok (.aload_n 0, 1) := by decide +kernel
theorem dX11_asksGaps_11 : decode cX11_asksGaps 11 = .ok (.iload_n 2, 1) := by decide +kernel
theorem dX11_asksGaps_12 : decode cX11_asksGaps 12 = .ok (.invokevirtual 143, 3) := by decide +kernel
theorem dX11_asksGaps_15 : decode cX11_asksGaps 15 = .ok (.putfield 298, 3) := by decide +kernel
theorem dX11_asksGaps_18 : decode cX11_asksGaps 18 = .ok (.aload_n 0, 1) := by decide +kernel
theorem dX11_asksGaps_19 : decode cX11_asksGaps 19 = .ok (.iconst 0, 1) := by decide +kernel
theorem dX11_asksGaps_20 : decode cX11_asksGaps 20 = .ok (.putfield 301, 3) := by decide +kernel
theorem dX11_asksGaps_23 : decode cX11_asksGaps 23 = .ok (.iconst 1, 1) := by decide +kernel
theorem dX11_asksGaps_24 : decode cX11_asksGaps 24 = .ok (.istore_n 3, 1) := by decide +kernel
theorem dX11_asksGaps_25 : decode cX11_asksGaps 25 = .ok (.iload_n 3, 1) := by decide +kernel
theorem dX11_asksGaps_26 : decode cX11_asksGaps 26 = .ok (.ifCond .eq 198, 3) := by decide +kernel
theorem dX11_asksGaps_29 : decode cX11_asksGaps 29 = .ok (.aload_n 0, 1) := by decide +kernel
theorem dX11_asksGaps_30 : decode cX11_asksGaps 30 = .ok (.getfield 295, 3) := by decide +kernel
theorem dX11_asksGaps_33 : decode cX11_asksGaps 33 = .ok (.bipush 10, 2) := by decide +kernel
theorem dX11_asksGaps_35 : decode cX11_asksGaps 35 = .ok (.if_icmp .ge 189, 3) := by decide +kernel
theorem dX11_asksGaps_38 : decode cX11_asksGaps 38 = .ok (.aload_n 0, 1) := by decide +kernel
theorem dX11_asksGaps_39 : decode cX11_asksGaps 39 = .ok (.getfield 295, 3) := by decide +kernel
theorem dX11_asksGaps_42 : decode cX11_asksGaps 42 = .ok (.aload_n 0, 1) := by decide +kernel
theorem dX11_asksGaps_43 : decode cX11_asksGaps 43 = .ok (.getfield 85, 3) := by decide +kernel
theorem dX11_asksGaps_46 : decode cX11_asksGaps 46 = .ok (.iload_n 1, 1) := by decide +kernel
theorem dX11_asksGaps_47 : decode cX11_asksGaps 47 = .ok (.iaload, 1) := by decide +kernel
theorem dX11_asksGaps_48 : decode cX11_asksGaps 48 = .ok (.if_icmp .ge 176, 3) := by decide +kernel
theorem dX11_asksGaps_51 : decode cX11_asksGaps 51 = .ok (.aload_n 0, 1) := by decide +kernel
theorem dX11_asksGaps_52 : decode cX11_asksGaps 52 = .ok (.iload_n 1, 1) := by decide +kernel
theorem dX11_asksGaps_53 : decode cX11_asksGaps 53 = .ok (.aload_n 0, 1) := by decide +kernel
theorem dX11_asksGaps_54 : decode cX11_asksGaps 54 = .ok (.getfield 295, 3) := by decide +kernel
theorem dX11_asksGaps_57 : decode cX11_asksGaps 57 = .ok (.invokevirtual 221, 3) := by decide +kernel
theorem dX11_asksGaps_60 : decode cX11_asksGaps 60 = .ok (.lstore 4, 2) := by decide +kernel
theorem dX11_asksGaps_62 : decode cX11_asksGaps 62 = .ok (.lload 4, 2) := by decide +kernel
theorem dX11_asksGaps_64 : decode cX11_asksGaps 64 = .ok (.invokestatic 120, 3) := by decide +kernel
theorem dX11_asksGaps_67 : decode cX11_asksGaps 67 = .ok (.ifCond .eq 17, 3) := by decide +kernel
theorem dX11_asksGaps_70 : decode cX11_asksGaps 70 = .ok (.aload_n 0, 1) := by decide +kernel
theorem dX11_asksGaps_71 : decode cX11_asksGaps 71 = .ok (.lload 4, 2) := by decide +kernel
theorem dX11_asksGaps_73 : decode cX11_asksGaps 73 = .ok (.l2i, 1) := by decide +kernel
theorem dX11_asksGaps_74 : decode cX11_asksGaps 74 = .ok (.invokevirtual 147, 3) := by decide +kernel
theorem dX11_asksGaps_77 : decode cX11_asksGaps 77 = .ok (.ifCond .eq 7, 3) := by decide +kernel
theorem dX11_asksGaps_80 : decode cX11_asksGaps 80 = .ok (.iconst 1, 1) := by decide +kernel
theorem dX11_asksGaps_81 : decode cX11_asksGaps 81 = .ok (.goto 4, 3) := by decide +kernel
theorem dX11_asksGaps_84 : decode cX11_asksGaps 84 = .ok (.iconst 0, 1) := by decide +kernel
theorem dX11_asksGaps_85 : decode cX11_asksGaps 85 = .ok (.istore_n 3, 1) := by decide +kernel
theorem dX11_asksGaps_86 : decode cX11_asksGaps 86 = .ok (.iconst 0, 1) := by decide +kernel
theorem dX11_asksGaps_87 : decode cX11_asksGaps 87 = .ok (.istore 6, 2) := by decide +kernel
theorem dX11_asksGaps_89 : decode cX11_asksGaps 89 = .ok (.iload 6, 2) := by decide +kernel
theorem dX11_asksGaps_91 : decode cX11_asksGaps 91 = .ok (.aload_n 0, 1) := by decide +kernel
theorem dX11_asksGaps_92 : decode cX11_asksGaps 92 = .ok (.getfield 295, 3) := by decide +kernel
theorem dX11_asksGaps_95 : decode cX11_asksGaps 95 = .ok (.if_icmp .ge 31, 3) := by decide +kernel
theorem dX11_asksGaps_98 : decode cX11_asksGaps 98 = .ok (.iload_n 3, 1) := by decide +kernel
theorem dX11_asksGaps_99 : decode cX11_asksGaps 99 = .ok (.aload_n 0, 1) := by decide +kernel
theorem dX11_asksGaps_100 : decode cX11_asksGaps 100 = .ok (.getfield 58, 3) := by decide +kernel
theorem dX11_asksGaps_103 : decode cX11_asksGaps 103 = .ok (.iload 6, 2) := by decide +kernel
theorem dX11_asksGaps_105 : decode cX11_asksGaps 105 = .ok (.iaload, 1) := by decide +kernel
theorem dX11_asksGaps_106 : decode cX11_asksGaps 106 = .ok (.i2l, 1) := by decide +kernel
theorem dX11_asksGaps_107 : decode cX11_asksGaps 107 = .ok (.lload 4, 2) := by decide +kernel
theorem dX11_asksGaps_109 : decode cX11_asksGaps 109 = .ok (.lcmp, 1) := by decide +kernel
theorem dX11_asksGaps_110 : decode cX11_asksGaps 110 = .ok (.ifCond .eq 7, 3) := by decide +kernel
theorem dX11_asksGaps_113 : decode cX11_asksGaps 113 = .ok (.iconst 1, 1) := by decide +kernel
theorem dX11_asksGaps_114 : decode cX11_asksGaps 114 = .ok (.goto 4, 3) := by decide +kernel
theorem dX11_asksGaps_117 : decode cX11_asksGaps 117 = .ok (.iconst 0, 1) := by decide +kernel
theorem dX11_asksGaps_118 : decode cX11_asksGaps 118 = .ok (.iand, 1) := by decide +kernel
theorem dX11_asksGaps_119 : decode cX11_asksGaps 119 = .ok (.istore_n 3, 1) := by decide +kernel
theorem dX11_asksGaps_120 : decode cX11_asksGaps 120 = .ok (.iinc 6 1, 3) := by decide +kernel
theorem dX11_asksGaps_123 : decode cX11_asksGaps 123 = .ok (.goto (-34), 3) := by decide +kernel
theorem dX11_asksGaps_126 : decode cX11_asksGaps 126 = .ok (.iload_n 3, 1) := by decide +kernel
theorem dX11_asksGaps_127 : decode cX11_asksGaps 127 = .ok (.ifCond .eq 94, 3) := by decide +kernel
theorem dX11_asksGaps_130 : decode cX11_asksGaps 130 = .ok (.aload_n 0, 1) := by decide +kernel
theorem dX11_asksGaps_131 : decode cX11_asksGaps 131 = .ok (.getfield 58, 3) := by decide +kernel
theorem dX11_asksGaps_134 : decode cX11_asksGaps 134 = .ok (.aload_n 0, 1) := by decide +kernel
theorem dX11_asksGaps_135 : decode cX11_asksGaps 135 = .ok (.getfield 295, 3) := by decide +kernel
theorem dX11_asksGaps_138 : decode cX11_asksGaps 138 = .ok (.lload 4, 2) := by decide +kernel
theorem dX11_asksGaps_140 : decode cX11_asksGaps 140 = .ok (.l2i, 1) := by decide +kernel
theorem dX11_asksGaps_141 : decode cX11_asksGaps 141 = .ok (.iastore, 1) := by decide +kernel
theorem dX11_asksGaps_142 : decode cX11_asksGaps 142 = .ok (.aload_n 0, 1) := by decide +kernel
theorem dX11_asksGaps_143 : decode cX11_asksGaps 143 = .ok (.getfield 33, 3) := by decide +kernel
theorem dX11_asksGaps_146 : decode cX11_asksGaps 146 = .ok (.lload 4, 2) := by decide +kernel
theorem dX11_asksGaps_148 : decode cX11_asksGaps 148 = .ok (.l2i, 1) := by decide +kernel
theorem dX11_asksGaps_149 : decode cX11_asksGaps 149 = .ok (.iaload, 1) := by decide +kernel
theorem dX11_asksGaps_150 : decode cX11_asksGaps 150 = .ok (.iload_n 2, 1) := by decide +kernel
theorem dX11_asksGaps_151 : decode cX11_asksGaps 151 = .ok (.if_icmp .ne 7, 3) := by decide +kernel
theorem dX11_asksGaps_154 : decode cX11_asksGaps 154 = .ok (.iconst 1, 1) := by decide +kernel
theorem dX11_asksGaps_155 : decode cX11_asksGaps 155 = .ok (.goto 4, 3) := by decide +kernel
theorem dX11_asksGaps_158 : decode cX11_asksGaps 158 = .ok (.iconst 0, 1) := by decide +kernel
theorem dX11_asksGaps_159 : decode cX11_asksGaps 159 = .ok (.istore 6, 2) := by decide +kernel
theorem dX11_asksGaps_161 : decode cX11_asksGaps 161 = .ok (.aload_n 0, 1) := by decide +kernel
theorem dX11_asksGaps_162 : decode cX11_asksGaps 162 = .ok (.dup, 1) := by decide +kernel
theorem dX11_asksGaps_163 : decode cX11_asksGaps 163 = .ok (.getfield 298, 3) := by decide +kernel
theorem dX11_asksGaps_166 : decode cX11_asksGaps 166 = .ok (.iload 6, 2) := by decide +kernel
theorem dX11_asksGaps_168 : decode cX11_asksGaps 168 = .ok (.ifCond .eq 14, 3) := by decide +kernel
theorem dX11_asksGaps_171 : decode cX11_asksGaps 171 = .ok (.aload_n 0, 1) := by decide +kernel
theorem dX11_asksGaps_172 : decode cX11_asksGaps 172 = .ok (.getfield 36, 3) := by decide +kernel
theorem dX11_asksGaps_175 : decode cX11_asksGaps 175 = .ok (.lload 4, 2) := by decide +kernel
theorem dX11_asksGaps_177 : decode cX11_asksGaps 177 = .ok (.l2i, 1) := by decide +kernel
theorem dX11_asksGaps_178 : decode cX11_asksGaps 178 = .ok (.iaload, 1) := by decide +kernel
theorem dX11_asksGaps_179 : decode cX11_asksGaps 179 = .ok (.goto 4, 3) := by decide +kernel
theorem dX11_asksGaps_182 : decode cX11_asksGaps 182 = .ok (.iconst 0, 1) := by decide +kernel
theorem dX11_asksGaps_183 : decode cX11_asksGaps 183 = .ok (.isub, 1) := by decide +kernel
theorem dX11_asksGaps_184 : decode cX11_asksGaps 184 = .ok (.putfield 298, 3) := by decide +kernel
theorem dX11_asksGaps_187 : decode cX11_asksGaps 187 = .ok (.aload_n 0, 1) := by decide +kernel
theorem dX11_asksGaps_188 : decode cX11_asksGaps 188 = .ok (.dup, 1) := by decide +kernel
theorem dX11_asksGaps_189 : decode cX11_asksGaps 189 = .ok (.getfield 301, 3) := by decide +kernel
theorem dX11_asksGaps_192 : decode cX11_asksGaps 192 = .ok (.iload 6, 2) := by decide +kernel
theorem dX11_asksGaps_194 : decode cX11_asksGaps 194 = .ok (.ifCond .eq 12, 3) := by decide +kernel
theorem dX11_asksGaps_197 : decode cX11_asksGaps 197 = .ok (.iconst 1, 1) := by decide +kernel
theorem dX11_asksGaps_198 : decode cX11_asksGaps 198 = .ok (.aload_n 0, 1) := by decide +kernel
theorem dX11_asksGaps_199 : decode cX11_asksGaps 199 = .ok (.getfield 295, 3) := by decide +kernel
theorem dX11_asksGaps_202 : decode cX11_asksGaps 202 = .ok (.ishl, 1) := by decide +kernel
theorem dX11_asksGaps_203 : decode cX11_asksGaps 203 = .ok (.goto 4, 3) := by decide +kernel
theorem dX11_asksGaps_206 : decode cX11_asksGaps 206 = .ok (.iconst 0, 1) := by decide +kernel
theorem dX11_asksGaps_207 : decode cX11_asksGaps 207 = .ok (.ior, 1) := by decide +kernel
theorem dX11_asksGaps_208 : decode cX11_asksGaps 208 = .ok (.putfield 301, 3) := by decide +kernel
theorem dX11_asksGaps_211 : decode cX11_asksGaps 211 = .ok (.aload_n 0, 1) := by decide +kernel
theorem dX11_asksGaps_212 : decode cX11_asksGaps 212 = .ok (.dup, 1) := by decide +kernel
theorem dX11_asksGaps_213 : decode cX11_asksGaps 213 = .ok (.getfield 295, 3) := by decide +kernel
theorem dX11_asksGaps_216 : decode cX11_asksGaps 216 = .ok (.iconst 1, 1) := by decide +kernel
theorem dX11_asksGaps_217 : decode cX11_asksGaps 217 = .ok (.iadd, 1) := by decide +kernel
theorem dX11_asksGaps_218 : decode cX11_asksGaps 218 = .ok (.putfield 295, 3) := by decide +kernel
theorem dX11_asksGaps_221 : decode cX11_asksGaps 221 = .ok (.goto (-196), 3) := by decide +kernel
theorem dX11_asksGaps_224 : decode cX11_asksGaps 224 = .ok (.return_, 1) := by decide +kernel
theorem dX11_sumBy_0 : decode cX11_sumBy 0 = .ok (.aload_n 0, 1) := by decide +kernel
theorem dX11_sumBy_1 : decode cX11_sumBy 1 = .ok (.getfield 298, 3) := by decide +kernel
theorem dX11_sumBy_4 : decode cX11_sumBy 4 = .ok (.istore_n 2, 1) := by decide +kernel
theorem dX11_sumBy_5 : decode cX11_sumBy 5 = .ok (.iconst 0, 1) := by decide +kernel
theorem dX11_sumBy_6 : decode cX11_sumBy 6 = .ok (.istore_n 3, 1) := by decide +kernel
theorem dX11_sumBy_7 : decode cX11_sumBy 7 = .ok (.iload_n 3, 1) := by decide +kernel
theorem dX11_sumBy_8 : decode cX11_sumBy 8 = .ok (.aload_n 0, 1) := by decide +kernel
theorem dX11_sumBy_9 : decode cX11_sumBy 9 = .ok (.getfield 295, 3) := by decide +kernel
theorem dX11_sumBy_12 : decode cX11_sumBy 12 = .ok (.if_icmp .ge 35, 3) := by decide +kernel
theorem dX11_sumBy_15 : decode cX11_sumBy 15 = .ok (.iload_n 2, 1) := by decide +kernel
theorem dX11_sumBy_16 : decode cX11_sumBy 16 = .ok (.iload_n 1, 1) := by decide +kernel
theorem dX11_sumBy_17 : decode cX11_sumBy 17 = .ok (.iload_n 3, 1) := by decide +kernel
theorem dX11_sumBy_18 : decode cX11_sumBy 18 = .ok (.invokestatic 254, 3) := by decide +kernel
theorem dX11_sumBy_21 : decode cX11_sumBy 21 = .ok (.ifCond .eq 17, 3) := by decide +kernel
theorem dX11_sumBy_24 : decode cX11_sumBy 24 = .ok (.aload_n 0, 1) := by decide +kernel
theorem dX11_sumBy_25 : decode cX11_sumBy 25 = .ok (.getfield 36, 3) := by decide +kernel
theorem dX11_sumBy_28 : decode cX11_sumBy 28 = .ok (.aload_n 0, 1) := by decide +kernel
theorem dX11_sumBy_29 : decode cX11_sumBy 29 = .ok (.getfield 58, 3) := by decide +kernel
theorem dX11_sumBy_32 : decode cX11_sumBy 32 = .ok (.iload_n 3, 1) := by decide +kernel
theorem dX11_sumBy_33 : decode cX11_sumBy 33 = .ok (.iaload, 1) := by decide +kernel
theorem dX11_sumBy_34 : decode cX11_sumBy 34 = .ok (.iaload, 1) := by decide +kernel
theorem dX11_sumBy_35 : decode cX11_sumBy 35 = .ok (.goto 4, 3) := by decide +kernel
theorem dX11_sumBy_38 : decode cX11_sumBy 38 = .ok (.iconst 0, 1) := by decide +kernel
theorem dX11_sumBy_39 : decode cX11_sumBy 39 = .ok (.iadd, 1) := by decide +kernel
theorem dX11_sumBy_40 : decode cX11_sumBy 40 = .ok (.istore_n 2, 1) := by decide +kernel
theorem dX11_sumBy_41 : decode cX11_sumBy 41 = .ok (.iinc 3 1, 3) := by decide +kernel
theorem dX11_sumBy_44 : decode cX11_sumBy 44 = .ok (.goto (-37), 3) := by decide +kernel
theorem dX11_sumBy_47 : decode cX11_sumBy 47 = .ok (.iload_n 2, 1) := by decide +kernel
theorem dX11_sumBy_48 : decode cX11_sumBy 48 = .ok (.ireturn, 1) := by decide +kernel
theorem dX11_read_0 : decode cX11_read 0 = .ok (.aload_n 0, 1) := by decide +kernel
theorem dX11_read_1 : decode cX11_read 1 = .ok (.iload_n 1, 1) := by decide +kernel
theorem dX11_read_2 : decode cX11_read 2 = .ok (.invokevirtual 228, 3) := by decide +kernel
theorem dX11_read_5 : decode cX11_read 5 = .ok (.iconst (-1), 1) := by decide +kernel
theorem dX11_read_6 : decode cX11_read 6 = .ok (.if_icmp .eq 37, 3) := by decide +kernel
theorem dX11_read_9 : decode cX11_read 9 = .ok (.aload_n 0, 1) := by decide +kernel
theorem dX11_read_10 : decode cX11_read 10 = .ok (.iload_n 2, 1) := by decide +kernel
theorem dX11_read_11 : decode cX11_read 11 = .ok (.i2l, 1) := by decide +kernel
theorem dX11_read_12 : decode cX11_read 12 = .ok (.invokevirtual 128, 3) := by decide +kernel
theorem dX11_read_15 : decode cX11_read 15 = .ok (.ifCond .eq 28, 3) := by decide +kernel
theorem dX11_read_18 : decode cX11_read 18 = .ok (.iload_n 3, 1) := by decide +kernel
theorem dX11_read_19 : decode cX11_read 19 = .ok (.i2l, 1) := by decide +kernel
theorem dX11_read_20 : decode cX11_read 20 = .ok (.lconst 0, 1) := by decide +kernel
theorem dX11_read_21 : decode cX11_read 21 = .ok (.ldc2_w 304, 3) := by decide +kernel
theorem dX11_read_24 : decode cX11_read 24 = .ok (.invokestatic 111, 3) := by decide +kernel
theorem dX11_read_27 : decode cX11_read 27 = .ok (.ifCond .eq 16, 3) := by decide +kernel
theorem dX11_read_30 : decode cX11_read 30 = .ok (.iload 4, 2) := by decide +kernel
theorem dX11_read_32 : decode cX11_read 32 = .ok (.i2l, 1) := by decide +kernel
theorem dX11_read_33 : decode cX11_read 33 = .ok (.lconst 0, 1) := by decide +kernel
theorem dX11_read_34 : decode cX11_read 34 = .ok (.ldc2_w 131, 3) := by decide +kernel
theorem dX11_read_37 : decode cX11_read 37 = .ok (.invokestatic 111, 3) := by decide +kernel
theorem dX11_read_40 : decode cX11_read 40 = .ok (.ifCond .ne 5, 3) := by decide +kernel
theorem dX11_read_43 : decode cX11_read 43 = .ok (.iconst (-1), 1) := by decide +kernel
theorem dX11_read_44 : decode cX11_read 44 = .ok (.ireturn, 1) := by decide +kernel
theorem dX11_read_45 : decode cX11_read 45 = .ok (.aload_n 0, 1) := by decide +kernel
theorem dX11_read_46 : decode cX11_read 46 = .ok (.iload_n 1, 1) := by decide +kernel
theorem dX11_read_47 : decode cX11_read 47 = .ok (.invokevirtual 228, 3) := by decide +kernel
theorem dX11_read_50 : decode cX11_read 50 = .ok (.ifCond .ge 9, 3) := by decide +kernel
theorem dX11_read_53 : decode cX11_read 53 = .ok (.aload_n 0, 1) := by decide +kernel
theorem dX11_read_54 : decode cX11_read 54 = .ok (.iload_n 1, 1) := by decide +kernel
theorem dX11_read_55 : decode cX11_read 55 = .ok (.invokevirtual 228, 3) := by decide +kernel
theorem dX11_read_58 : decode cX11_read 58 = .ok (.ireturn, 1) := by decide +kernel
theorem dX11_read_59 : decode cX11_read 59 = .ok (.aload_n 0, 1) := by decide +kernel
theorem dX11_read_60 : decode cX11_read 60 = .ok (.iload_n 1, 1) := by decide +kernel
theorem dX11_read_61 : decode cX11_read 61 = .ok (.iload_n 2, 1) := by decide +kernel
theorem dX11_read_62 : decode cX11_read 62 = .ok (.invokevirtual 306, 3) := by decide +kernel
theorem dX11_read_65 : decode cX11_read 65 = .ok (.iconst 0, 1) := by decide +kernel
theorem dX11_read_66 : decode cX11_read 66 = .ok (.istore 5, 2) := by decide +kernel
theorem dX11_read_68 : decode cX11_read 68 = .ok (.bipush (-2), 2) := by decide +kernel
theorem dX11_read_70 : decode cX11_read 70 = .ok (.istore 6, 2) := by decide +kernel
theorem dX11_read_72 : decode cX11_read 72 = .ok (.iconst 1, 1) := by decide +kernel
theorem dX11_read_73 : decode cX11_read 73 = .ok (.aload_n 0, 1) := by decide +kernel
theorem dX11_read_74 : decode cX11_read 74 = .ok (.getfield 295, 3) := by decide +kernel
theorem dX11_read_77 : decode cX11_read 77 = .ok (.ishl, 1) := by decide +kernel
theorem dX11_read_78 : decode cX11_read 78 = .ok (.iconst 1, 1) := by decide +kernel
theorem dX11_read_79 : decode cX11_read 79 = .ok (.isub, 1) := by decide +kernel
theorem dX11_read_80 : decode cX11_read 80 = .ok (.istore 7, 2) := by decide +kernel
theorem dX11_read_82 : decode cX11_read 82 = .ok (.iconst 0, 1) := by decide +kernel
theorem dX11_read_83 : decode cX11_read 83 = .ok (.istore 8, 2) := by decide +kernel
theorem dX11_read_85 : decode cX11_read 85 = .ok (.iload 8, 2) := by decide +kernel
theorem dX11_read_87 : decode cX11_read 87 = .ok (.iconst 1, 1) := by decide +kernel
theorem dX11_read_88 : decode cX11_read 88 = .ok (.aload_n 0, 1) := by decide +kernel
theorem dX11_read_89 : decode cX11_read 89 = .ok (.getfield 295, 3) := by decide +kernel
theorem dX11_read_92 : decode cX11_read 92 = .ok (.ishl, 1) := by decide +kernel
theorem dX11_read_93 : decode cX11_read 93 = .ok (.if_icmp .ge 43, 3) := by decide +kernel
theorem dX11_read_96 : decode cX11_read 96 = .ok (.aload_n 0, 1) := by decide +kernel
theorem dX11_read_97 : decode cX11_read 97 = .ok (.iload 8, 2) := by decide +kernel
theorem dX11_read_99 : decode cX11_read 99 = .ok (.invokevirtual 310, 3) := by decide +kernel
theorem dX11_read_102 : decode cX11_read 102 = .ok (.iload_n 3, 1) := by decide +kernel
theorem dX11_read_103 : decode cX11_read 103 = .ok (.if_icmp .ne 27, 3) := by decide +kernel
theorem dX11_read_106 : decode cX11_read 106 = .ok (.iload 5, 2) := by decide +kernel
theorem dX11_read_108 : decode cX11_read 108 = .ok (.ifCond .ne 8, 3) := by decide +kernel
theorem dX11_read_111 : decode cX11_read 111 = .ok (.iload 8, 2) := by decide +kernel
theorem dX11_read_113 : decode cX11_read 113 = .ok (.goto 5, 3) := by decide +kernel
theorem dX11_read_116 : decode cX11_read 116 = .ok (.iload 6, 2) := by decide +kernel
theorem dX11_read_118 : decode cX11_read 118 = .ok (.istore 6, 2) := by decide +kernel
theorem dX11_read_120 : decode cX11_read 120 = .ok (.iinc 5 1, 3) := by decide +kernel
theorem dX11_read_123 : decode cX11_read 123 = .ok (.iload 7, 2) := by decide +kernel
theorem dX11_read_125 : decode cX11_read 125 = .ok (.iload 8, 2) := by decide +kernel
theorem dX11_read_127 : decode cX11_read 127 = .ok (.iand, 1) := by decide +kernel
theorem dX11_read_128 : decode cX11_read 128 = .ok (.istore 7, 2) := by decide +kernel
theorem dX11_read_130 : decode cX11_read 130 = .ok (.iinc 8 1, 3) := by decide +kernel
theorem dX11_read_133 : decode cX11_read 133 = .ok (.goto (-48), 3) := by decide +kernel
theorem dX11_read_136 : decode cX11_read 136 = .ok (.iload 4, 2) := by decide +kernel
theorem dX11_read_138 : decode cX11_read 138 = .ok (.ifCond .ne 8, 3) := by decide +kernel
theorem dX11_read_141 : decode cX11_read 141 = .ok (.iload 5, 2) := by decide +kernel
theorem dX11_read_143 : decode cX11_read 143 = .ok (.goto 25, 3) := by decide +kernel
theorem dX11_read_146 : decode cX11_read 146 = .ok (.iload 4, 2) := by decide +kernel
theorem dX11_read_148 : decode cX11_read 148 = .ok (.iconst 1, 1) := by decide +kernel
theorem dX11_read_149 : decode cX11_read 149 = .ok (.if_icmp .ne 17, 3) := by decide +kernel
theorem dX11_read_152 : decode cX11_read 152 = .ok (.iload 5, 2) := by decide +kernel
theorem dX11_read_154 : decode cX11_read 154 = .ok (.ifCond .ne 7, 3) := by decide +kernel
theorem dX11_read_157 : decode cX11_read 157 = .ok (.iconst 0, 1) := by decide +kernel
theorem dX11_read_158 : decode cX11_read 158 = .ok (.goto 10, 3) := by decide +kernel
theorem dX11_read_161 : decode cX11_read 161 = .ok (.iload 7, 2) := by decide +kernel
theorem dX11_read_163 : decode cX11_read 163 = .ok (.goto 5, 3) := by decide +kernel
theorem dX11_read_166 : decode cX11_read 166 = .ok (.iload 6, 2) := by decide +kernel
theorem dX11_read_168 : decode cX11_read 168 = .ok (.ireturn, 1) := by decide +kernel
theorem dX11_open_0 : decode cX11_open 0 = .ok (.aload_n 0, 1) := by decide +kernel
theorem dX11_open_1 : decode cX11_open 1 = .ok (.iload_n 1, 1) := by decide +kernel
theorem dX11_open_2 : decode cX11_open 2 = .ok (.invokevirtual 228, 3) := by decide +kernel
theorem dX11_open_5 : decode cX11_open 5 = .ok (.iconst (-1), 1) := by decide +kernel
theorem dX11_open_6 : decode cX11_open 6 = .ok (.if_icmp .eq 12, 3) := by decide +kernel
theorem dX11_open_9 : decode cX11_open 9 = .ok (.aload_n 0, 1) := by decide +kernel
theorem dX11_open_10 : decode cX11_open 10 = .ok (.iload_n 2, 1) := by decide +kernel
theorem dX11_open_11 : decode cX11_open 11 = .ok (.i2l, 1) := by decide +kernel
theorem dX11_open_12 : decode cX11_open 12 = .ok (.invokevirtual 128, 3) := by decide +kernel
theorem dX11_open_15 : decode cX11_open 15 = .ok (.ifCond .ne 5, 3) := by decide +kernel
theorem dX11_open_18 : decode cX11_open 18 = .ok (.iconst (-1), 1) := by decide +kernel
theorem dX11_open_19 : decode cX11_open 19 = .ok (.ireturn, 1) := by decide +kernel
theorem dX11_open_20 : decode cX11_open 20 = .ok (.aload_n 0, 1) := by decide +kernel
theorem dX11_open_21 : decode cX11_open 21 = .ok (.iload_n 1, 1) := by decide +kernel
theorem dX11_open_22 : decode cX11_open 22 = .ok (.invokevirtual 228, 3) := by decide +kernel
theorem dX11_open_25 : decode cX11_open 25 = .ok (.ifCond .ge 9, 3) := by decide +kernel
theorem dX11_open_28 : decode cX11_open 28 = .ok (.aload_n 0, 1) := by decide +kernel
theorem dX11_open_29 : decode cX11_open 29 = .ok (.iload_n 1, 1) := by decide +kernel
theorem dX11_open_30 : decode cX11_open 30 = .ok (.invokevirtual 228, 3) := by decide +kernel
theorem dX11_open_33 : decode cX11_open 33 = .ok (.ireturn, 1) := by decide +kernel
theorem dX11_open_34 : decode cX11_open 34 = .ok (.aload_n 0, 1) := by decide +kernel
theorem dX11_open_35 : decode cX11_open 35 = .ok (.iload_n 1, 1) := by decide +kernel
theorem dX11_open_36 : decode cX11_open 36 = .ok (.iload_n 2, 1) := by decide +kernel
theorem dX11_open_37 : decode cX11_open 37 = .ok (.invokevirtual 306, 3) := by decide +kernel
theorem dX11_open_40 : decode cX11_open 40 = .ok (.aload_n 0, 1) := by decide +kernel
theorem dX11_open_41 : decode cX11_open 41 = .ok (.aload_n 0, 1) := by decide +kernel
theorem dX11_open_42 : decode cX11_open 42 = .ok (.getfield 301, 3) := by decide +kernel
theorem dX11_open_45 : decode cX11_open 45 = .ok (.invokevirtual 310, 3) := by decide +kernel
theorem dX11_open_48 : decode cX11_open 48 = .ok (.istore_n 3, 1) := by decide +kernel
theorem dX11_open_49 : decode cX11_open 49 = .ok (.iconst 0, 1) := by decide +kernel
theorem dX11_open_50 : decode cX11_open 50 = .ok (.istore 4, 2) := by decide +kernel
theorem dX11_open_52 : decode cX11_open 52 = .ok (.iload 4, 2) := by decide +kernel
theorem dX11_open_54 : decode cX11_open 54 = .ok (.iconst 1, 1) := by decide +kernel
theorem dX11_open_55 : decode cX11_open 55 = .ok (.aload_n 0, 1) := by decide +kernel
theorem dX11_open_56 : decode cX11_open 56 = .ok (.getfield 295, 3) := by decide +kernel
theorem dX11_open_59 : decode cX11_open 59 = .ok (.ishl, 1) := by decide +kernel
theorem dX11_open_60 : decode cX11_open 60 = .ok (.if_icmp .ge 31, 3) := by decide +kernel
theorem dX11_open_63 : decode cX11_open 63 = .ok (.aload_n 0, 1) := by decide +kernel
theorem dX11_open_64 : decode cX11_open 64 = .ok (.getfield 61, 3) := by decide +kernel
theorem dX11_open_67 : decode cX11_open 67 = .ok (.iload 4, 2) := by decide +kernel
theorem dX11_open_69 : decode cX11_open 69 = .ok (.aload_n 0, 1) := by decide +kernel
theorem dX11_open_70 : decode cX11_open 70 = .ok (.iload 4, 2) := by decide +kernel
theorem dX11_open_72 : decode cX11_open 72 = .ok (.invokevirtual 310, 3) := by decide +kernel
theorem dX11_open_75 : decode cX11_open 75 = .ok (.iload_n 3, 1) := by decide +kernel
theorem dX11_open_76 : decode cX11_open 76 = .ok (.if_icmp .ne 7, 3) := by decide +kernel
theorem dX11_open_79 : decode cX11_open 79 = .ok (.iconst 1, 1) := by decide +kernel
theorem dX11_open_80 : decode cX11_open 80 = .ok (.goto 4, 3) := by decide +kernel
theorem dX11_open_83 : decode cX11_open 83 = .ok (.iconst 0, 1) := by decide +kernel
theorem dX11_open_84 : decode cX11_open 84 = .ok (.bastore, 1) := by decide +kernel
theorem dX11_open_85 : decode cX11_open 85 = .ok (.iinc 4 1, 3) := by decide +kernel
theorem dX11_open_88 : decode cX11_open 88 = .ok (.goto (-36), 3) := by decide +kernel
theorem dX11_open_91 : decode cX11_open 91 = .ok (.iconst 1, 1) := by decide +kernel
theorem dX11_open_92 : decode cX11_open 92 = .ok (.aload_n 0, 1) := by decide +kernel
theorem dX11_open_93 : decode cX11_open 93 = .ok (.getfield 295, 3) := by decide +kernel
theorem dX11_open_96 : decode cX11_open 96 = .ok (.ishl, 1) := by decide +kernel
theorem dX11_open_97 : decode cX11_open 97 = .ok (.iconst 1, 1) := by decide +kernel
theorem dX11_open_98 : decode cX11_open 98 = .ok (.isub, 1) := by decide +kernel
theorem dX11_open_99 : decode cX11_open 99 = .ok (.istore 4, 2) := by decide +kernel
theorem dX11_open_101 : decode cX11_open 101 = .ok (.iconst 0, 1) := by decide +kernel
theorem dX11_open_102 : decode cX11_open 102 = .ok (.istore 5, 2) := by decide +kernel
theorem dX11_open_104 : decode cX11_open 104 = .ok (.iload 5, 2) := by decide +kernel
theorem dX11_open_106 : decode cX11_open 106 = .ok (.iconst 1, 1) := by decide +kernel
theorem dX11_open_107 : decode cX11_open 107 = .ok (.aload_n 0, 1) := by decide +kernel
theorem dX11_open_108 : decode cX11_open 108 = .ok (.getfield 295, 3) := by decide +kernel
theorem dX11_open_111 : decode cX11_open 111 = .ok (.ishl, 1) := by decide +kernel
theorem dX11_open_112 : decode cX11_open 112 = .ok (.if_icmp .ge 93, 3) := by decide +kernel
theorem dX11_open_115 : decode cX11_open 115 = .ok (.iload 5, 2) := by decide +kernel
theorem dX11_open_117 : decode cX11_open 117 = .ok (.invokestatic 313, 3) := by decide +kernel
theorem dX11_open_120 : decode cX11_open 120 = .ok (.iload 4, 2) := by decide +kernel
theorem dX11_open_122 : decode cX11_open 122 = .ok (.invokestatic 313, 3) := by decide +kernel
theorem dX11_open_125 : decode cX11_open 125 = .ok (.if_icmp .ge 74, 3) := by decide +kernel
theorem dX11_open_128 : decode cX11_open 128 = .ok (.iconst 0, 1) := by decide +kernel
theorem dX11_open_129 : decode cX11_open 129 = .ok (.istore 6, 2) := by decide +kernel
theorem dX11_open_131 : decode cX11_open 131 = .ok (.iconst 0, 1) := by decide +kernel
theorem dX11_open_132 : decode cX11_open 132 = .ok (.istore 7, 2) := by decide +kernel
theorem dX11_open_134 : decode cX11_open 134 = .ok (.iload 7, 2) := by decide +kernel
theorem dX11_open_136 : decode cX11_open 136 = .ok (.iconst 1, 1) := by decide +kernel
theorem dX11_open_137 : decode cX11_open 137 = .ok (.aload_n 0, 1) := by decide +kernel
theorem dX11_open_138 : decode cX11_open 138 = .ok (.getfield 295, 3) := by decide +kernel
theorem dX11_open_141 : decode cX11_open 141 = .ok (.ishl, 1) := by decide +kernel
theorem dX11_open_142 : decode cX11_open 142 = .ok (.if_icmp .ge 42, 3) := by decide +kernel
theorem dX11_open_145 : decode cX11_open 145 = .ok (.iload 6, 2) := by decide +kernel
theorem dX11_open_147 : decode cX11_open 147 = .ok (.aload_n 0, 1) := by decide +kernel
theorem dX11_open_148 : decode cX11_open 148 = .ok (.getfield 61, 3) := by decide +kernel
theorem dX11_open_151 : decode cX11_open 151 = .ok (.iload 7, 2) := by decide +kernel
theorem dX11_open_153 : decode cX11_open 153 = .ok (.baload, 1) := by decide +kernel
theorem dX11_open_154 : decode cX11_open 154 = .ok (.ifCond .eq 20, 3) := by decide +kernel
theorem dX11_open_157 : decode cX11_open 157 = .ok (.iload 7, 2) := by decide +kernel
theorem dX11_open_159 : decode cX11_open 159 = .ok (.aload_n 0, 1) := by decide +kernel
theorem dX11_open_160 : decode cX11_open 160 = .ok (.getfield 301, 3) := by decide +kernel
theorem dX11_open_163 : decode cX11_open 163 = .ok (.ixor, 1) := by decide +kernel
theorem dX11_open_164 : decode cX11_open 164 = .ok (.iload 5, 2) := by decide +kernel
theorem dX11_open_166 : decode cX11_open 166 = .ok (.iand, 1) := by decide +kernel
theorem dX11_open_167 : decode cX11_open 167 = .ok (.ifCond .ne 7, 3) := by decide +kernel
theorem dX11_open_170 : decode cX11_open 170 = .ok (.iconst 1, 1) := by decide +kernel
theorem dX11_open_171 : decode cX11_open 171 = .ok (.goto 4, 3) := by decide +kernel
theorem dX11_open_174 : decode cX11_open 174 = .ok (.iconst 0, 1) := by decide +kernel
theorem dX11_open_175 : decode cX11_open 175 = .ok (.iadd, 1) := by decide +kernel
theorem dX11_open_176 : decode cX11_open 176 = .ok (.istore 6, 2) := by decide +kernel
theorem dX11_open_178 : decode cX11_open 178 = .ok (.iinc 7 1, 3) := by decide +kernel
theorem dX11_open_181 : decode cX11_open 181 = .ok (.goto (-47), 3) := by decide +kernel
theorem dX11_open_184 : decode cX11_open 184 = .ok (.iload 6, 2) := by decide +kernel
theorem dX11_open_186 : decode cX11_open 186 = .ok (.iconst 1, 1) := by decide +kernel
theorem dX11_open_187 : decode cX11_open 187 = .ok (.if_icmp .ne 8, 3) := by decide +kernel
theorem dX11_open_190 : decode cX11_open 190 = .ok (.iload 5, 2) := by decide +kernel
theorem dX11_open_192 : decode cX11_open 192 = .ok (.goto 5, 3) := by decide +kernel
theorem dX11_open_195 : decode cX11_open 195 = .ok (.iload 4, 2) := by decide +kernel
theorem dX11_open_197 : decode cX11_open 197 = .ok (.istore 4, 2) := by decide +kernel
theorem dX11_open_199 : decode cX11_open 199 = .ok (.iinc 5 1, 3) := by decide +kernel
theorem dX11_open_202 : decode cX11_open 202 = .ok (.goto (-98), 3) := by decide +kernel
theorem dX11_open_205 : decode cX11_open 205 = .ok (.iload 4, 2) := by decide +kernel
theorem dX11_open_207 : decode cX11_open 207 = .ok (.ireturn, 1) := by decide +kernel
theorem dX11_pass_0 : decode cX11_pass 0 = .ok (.iload_n 1, 1) := by decide +kernel
theorem dX11_pass_1 : decode cX11_pass 1 = .ok (.i2l, 1) := by decide +kernel
theorem dX11_pass_2 : decode cX11_pass 2 = .ok (.lconst 0, 1) := by decide +kernel
theorem dX11_pass_3 : decode cX11_pass 3 = .ok (.ldc2_w 316, 3) := by decide +kernel
theorem dX11_pass_6 : decode cX11_pass 6 = .ok (.invokestatic 111, 3) := by decide +kernel
theorem dX11_pass_9 : decode cX11_pass 9 = .ok (.ifCond .eq 23, 3) := by decide +kernel
theorem dX11_pass_12 : decode cX11_pass 12 = .ok (.iload_n 2, 1) := by decide +kernel
theorem dX11_pass_13 : decode cX11_pass 13 = .ok (.i2l, 1) := by decide +kernel
theorem dX11_pass_14 : decode cX11_pass 14 = .ok (.lconst 0, 1) := by decide +kernel
theorem dX11_pass_15 : decode cX11_pass 15 = .ok (.lconst 1, 1) := by decide +kernel
theorem dX11_pass_16 : decode cX11_pass 16 = .ok (.invokestatic 111, 3) := by decide +kernel
theorem dX11_pass_19 : decode cX11_pass 19 = .ok (.ifCond .eq 13, 3) := by decide +kernel
theorem dX11_pass_22 : decode cX11_pass 22 = .ok (.iload_n 3, 1) := by decide +kernel
theorem dX11_pass_23 : decode cX11_pass 23 = .ok (.i2l, 1) := by decide +kernel
theorem dX11_pass_24 : decode cX11_pass 24 = .ok (.lconst 0, 1) := by decide +kernel
theorem dX11_pass_25 : decode cX11_pass 25 = .ok (.lconst 1, 1) := by decide +kernel
theorem dX11_pass_26 : decode cX11_pass 26 = .ok (.invokestatic 111, 3) := by decide +kernel
theorem dX11_pass_29 : decode cX11_pass 29 = .ok (.ifCond .ne 7, 3) := by decide +kernel
theorem dX11_pass_32 : decode cX11_pass 32 = .ok (.ldc2_w 278, 3) := by decide +kernel
theorem dX11_pass_35 : decode cX11_pass 35 = .ok (.lreturn, 1) := by decide +kernel
theorem dX11_pass_36 : decode cX11_pass 36 = .ok (.bipush 12, 2) := by decide +kernel
theorem dX11_pass_38 : decode cX11_pass 38 = .ok (.aload_n 0, 1) := by decide +kernel
theorem dX11_pass_39 : decode cX11_pass 39 = .ok (.getfield 11, 3) := by decide +kernel
theorem dX11_pass_42 : decode cX11_pass 42 = .ok (.bipush 6, 2) := by decide +kernel
theorem dX11_pass_44 : decode cX11_pass 44 = .ok (.iaload, 1) := by decide +kernel
theorem dX11_pass_45 : decode cX11_pass 45 = .ok (.isub, 1) := by decide +kernel
theorem dX11_pass_46 : decode cX11_pass 46 = .ok (.istore 4, 2) := by decide +kernel
theorem dX11_pass_48 : decode cX11_pass 48 = .ok (.iload_n 2, 1) := by decide +kernel
theorem dX11_pass_49 : decode cX11_pass 49 = .ok (.iconst 1, 1) := by decide +kernel
theorem dX11_pass_50 : decode cX11_pass 50 = .ok (.if_icmp .ne 16, 3) := by decide +kernel
theorem dX11_pass_53 : decode cX11_pass 53 = .ok (.iload_n 1, 1) := by decide +kernel
theorem dX11_pass_54 : decode cX11_pass 54 = .ok (.iload 4, 2) := by decide +kernel
theorem dX11_pass_56 : decode cX11_pass 56 = .ok (.imul, 1) := by decide +kernel
theorem dX11_pass_57 : decode cX11_pass 57 = .ok (.i2l, 1) := by decide +kernel
theorem dX11_pass_58 : decode cX11_pass 58 = .ok (.ldc2_w 318, 3) := by decide +kernel
theorem dX11_pass_61 : decode cX11_pass 61 = .ok (.iload_n 3, 1) := by decide +kernel
theorem dX11_pass_62 : decode cX11_pass 62 = .ok (.invokestatic 286, 3) := by decide +kernel
theorem dX11_pass_65 : decode cX11_pass 65 = .ok (.lreturn, 1) := by decide +kernel
theorem dX11_pass_66 : decode cX11_pass 66 = .ok (.lconst 1, 1) := by decide +kernel
theorem dX11_pass_67 : decode cX11_pass 67 = .ok (.lstore 5, 2) := by decide +kernel
theorem dX11_pass_69 : decode cX11_pass 69 = .ok (.lconst 1, 1) := by decide +kernel
theorem dX11_pass_70 : decode cX11_pass 70 = .ok (.lstore 7, 2) := by decide +kernel
theorem dX11_pass_72 : decode cX11_pass 72 = .ok (.iconst 0, 1) := by decide +kernel
theorem dX11_pass_73 : decode cX11_pass 73 = .ok (.istore 9, 2) := by decide +kernel
theorem dX11_pass_75 : decode cX11_pass 75 = .ok (.iload 9, 2) := by decide +kernel
theorem dX11_pass_77 : decode cX11_pass 77 = .ok (.iload_n 1, 1) := by decide +kernel
theorem dX11_pass_78 : decode cX11_pass 78 = .ok (.if_icmp .ge 25, 3) := by decide +kernel
theorem dX11_pass_81 : decode cX11_pass 81 = .ok (.lload 5, 2) := by decide +kernel
theorem dX11_pass_83 : decode cX11_pass 83 = .ok (.iload 4, 2) := by decide +kernel
theorem dX11_pass_85 : decode cX11_pass 85 = .ok (.i2l, 1) := by decide +kernel
theorem dX11_pass_86 : decode cX11_pass 86 = .ok (.lmul, 1) := by decide +kernel
theorem dX11_pass_87 : decode cX11_pass 87 = .ok (.lstore 5, 2) := by decide +kernel
theorem dX11_pass_89 : decode cX11_pass 89 = .ok (.lload 7, 2) := by decide +kernel
theorem dX11_pass_91 : decode cX11_pass 91 = .ok (.ldc2_w 318, 3) := by decide +kernel
theorem dX11_pass_94 : decode cX11_pass 94 = .ok (.lmul, 1) := by decide +kernel
theorem dX11_pass_95 : decode cX11_pass 95 = .ok (.lstore 7, 2) := by decide +kernel
theorem dX11_pass_97 : decode cX11_pass 97 = .ok (.iinc 9 1, 3) := by decide +kernel
theorem dX11_pass_100 : decode cX11_pass 100 = .ok (.goto (-25), 3) := by decide +kernel
theorem dX11_pass_103 : decode cX11_pass 103 = .ok (.lload 5, 2) := by decide +kernel
theorem dX11_pass_105 : decode cX11_pass 105 = .ok (.lload 7, 2) := by decide +kernel
theorem dX11_pass_107 : decode cX11_pass 107 = .ok (.iload_n 3, 1) := by decide +kernel
theorem dX11_pass_108 : decode cX11_pass 108 = .ok (.invokestatic 286, 3) := by decide +kernel
theorem dX11_pass_111 : decode cX11_pass 111 = .ok (.lreturn, 1) := by decide +kernel
theorem dX11_mostFalse_0 : decode cX11_mostFalse 0 = .ok (.iload_n 1, 1) := by decide +kernel
theorem dX11_mostFalse_1 : decode cX11_mostFalse 1 = .ok (.i2l, 1) := by decide +kernel
theorem dX11_mostFalse_2 : decode cX11_mostFalse 2 = .ok (.lconst 0, 1) := by decide +kernel
theorem dX11_mostFalse_3 : decode cX11_mostFalse 3 = .ok (.ldc2_w 318, 3) := by decide +kernel
theorem dX11_mostFalse_6 : decode cX11_mostFalse 6 = .ok (.invokestatic 111, 3) := by decide +kernel
theorem dX11_mostFalse_9 : decode cX11_mostFalse 9 = .ok (.ifCond .ne 5, 3) := by decide +kernel
theorem dX11_mostFalse_12 : decode cX11_mostFalse 12 = .ok (.iconst (-1), 1) := by decide +kernel
theorem dX11_mostFalse_13 : decode cX11_mostFalse 13 = .ok (.ireturn, 1) := by decide +kernel
theorem dX11_mostFalse_14 : decode cX11_mostFalse 14 = .ok (.iconst 0, 1) := by decide +kernel
theorem dX11_mostFalse_15 : decode cX11_mostFalse 15 = .ok (.istore_n 2, 1) := by decide +kernel
theorem dX11_mostFalse_16 : decode cX11_mostFalse 16 = .ok (.lconst 1, 1) := by decide +kernel
theorem dX11_mostFalse_17 : decode cX11_mostFalse 17 = .ok (.lstore_n 3, 1) := by decide +kernel
theorem dX11_mostFalse_18 : decode cX11_mostFalse 18 = .ok (.lconst 1, 1) := by decide +kernel
theorem dX11_mostFalse_19 : decode cX11_mostFalse 19 = .ok (.lstore 5, 2) := by decide +kernel
theorem dX11_mostFalse_21 : decode cX11_mostFalse 21 = .ok (.iconst 1, 1) := by decide +kernel
theorem dX11_mostFalse_22 : decode cX11_mostFalse 22 = .ok (.istore 7, 2) := by decide +kernel
theorem dX11_mostFalse_24 : decode cX11_mostFalse 24 = .ok (.iload 7, 2) := by decide +kernel
theorem dX11_mostFalse_26 : decode cX11_mostFalse 26 = .ok (.bipush 8, 2) := by decide +kernel
theorem dX11_mostFalse_28 : decode cX11_mostFalse 28 = .ok (.if_icmp .gt 52, 3) := by decide +kernel
theorem dX11_mostFalse_31 : decode cX11_mostFalse 31 = .ok (.lload_n 3, 1) := by decide +kernel
theorem dX11_mostFalse_32 : decode cX11_mostFalse 32 = .ok (.bipush 12, 2) := by decide +kernel
theorem dX11_mostFalse_34 : decode cX11_mostFalse 34 = .ok (.aload_n 0, 1) := by decide +kernel
theorem dX11_mostFalse_35 : decode cX11_mostFalse 35 = .ok (.getfield 11, 3) := by decide +kernel
theorem dX11_mostFalse_38 : decode cX11_mostFalse 38 = .ok (.bipush 6, 2) := by decide +kernel
theorem dX11_mostFalse_40 : decode cX11_mostFalse 40 = .ok (.iaload, 1) := by decide +kernel
theorem dX11_mostFalse_41 : decode cX11_mostFalse 41 = .ok (.isub, 1) := by decide +kernel
theorem dX11_mostFalse_42 : decode cX11_mostFalse 42 = .ok (.i2l, 1) := by decide +kernel
theorem dX11_mostFalse_43 : decode cX11_mostFalse 43 = .ok (.lmul, 1) := by decide +kernel
theorem dX11_mostFalse_44 : decode cX11_mostFalse 44 = .ok (.lstore_n 3, 1) := by decide +kernel
theorem dX11_mostFalse_45 : decode cX11_mostFalse 45 = .ok (.lload 5, 2) := by decide +kernel
theorem dX11_mostFalse_47 : decode cX11_mostFalse 47 = .ok (.ldc2_w 318, 3) := by decide +kernel
theorem dX11_mostFalse_50 : decode cX11_mostFalse 50 = .ok (.lmul, 1) := by decide +kernel
theorem dX11_mostFalse_51 : decode cX11_mostFalse 51 = .ok (.lstore 5, 2) := by decide +kernel
theorem dX11_mostFalse_53 : decode cX11_mostFalse 53 = .ok (.ldc2_w 318, 3) := by decide +kernel
theorem dX11_mostFalse_56 : decode cX11_mostFalse 56 = .ok (.lload_n 3, 1) := by decide +kernel
theorem dX11_mostFalse_57 : decode cX11_mostFalse 57 = .ok (.lmul, 1) := by decide +kernel
theorem dX11_mostFalse_58 : decode cX11_mostFalse 58 = .ok (.iload_n 1, 1) := by decide +kernel
theorem dX11_mostFalse_59 : decode cX11_mostFalse 59 = .ok (.i2l, 1) := by decide +kernel
theorem dX11_mostFalse_60 : decode cX11_mostFalse 60 = .ok (.lload 5, 2) := by decide +kernel
theorem dX11_mostFalse_62 : decode cX11_mostFalse 62 = .ok (.lmul, 1) := by decide +kernel
theorem dX11_mostFalse_63 : decode cX11_mostFalse 63 = .ok (.lcmp, 1) := by decide +kernel
theorem dX11_mostFalse_64 : decode cX11_mostFalse 64 = .ok (.ifCond .lt 8, 3) := by decide +kernel
theorem dX11_mostFalse_67 : decode cX11_mostFalse 67 = .ok (.iload 7, 2) := by decide +kernel
theorem dX11_mostFalse_69 : decode cX11_mostFalse 69 = .ok (.goto 4, 3) := by decide +kernel
theorem dX11_mostFalse_72 : decode cX11_mostFalse 72 = .ok (.iload_n 2, 1) := by decide +kernel
theorem dX11_mostFalse_73 : decode cX11_mostFalse 73 = .ok (.istore_n 2, 1) := by decide +kernel
theorem dX11_mostFalse_74 : decode cX11_mostFalse 74 = .ok (.iinc 7 1, 3) := by decide +kernel
theorem dX11_mostFalse_77 : decode cX11_mostFalse 77 = .ok (.goto (-53), 3) := by decide +kernel
theorem dX11_mostFalse_80 : decode cX11_mostFalse 80 = .ok (.iload_n 2, 1) := by decide +kernel
theorem dX11_mostFalse_81 : decode cX11_mostFalse 81 = .ok (.ireturn, 1) := by decide +kernel
theorem dX11_isSo_0 : decode cX11_isSo 0 = .ok (.iconst 3, 1) := by decide +kernel
theorem dX11_isSo_1 : decode cX11_isSo 1 = .ok (.iload_n 2, 1) := by decide +kernel
theorem dX11_isSo_2 : decode cX11_isSo 2 = .ok (.imul, 1) := by decide +kernel
theorem dX11_isSo_3 : decode cX11_isSo 3 = .ok (.iconst 2, 1) := by decide +kernel
theorem dX11_isSo_4 : decode cX11_isSo 4 = .ok (.iadd, 1) := by decide +kernel
theorem dX11_isSo_5 : decode cX11_isSo 5 = .ok (.aload_n 0, 1) := by decide +kernel
theorem dX11_isSo_6 : decode cX11_isSo 6 = .ok (.getfield 85, 3) := by decide +kernel
theorem dX11_isSo_9 : decode cX11_isSo 9 = .ok (.iload_n 1, 1) := by decide +kernel
theorem dX11_isSo_10 : decode cX11_isSo 10 = .ok (.iaload, 1) := by decide +kernel
theorem dX11_isSo_11 : decode cX11_isSo 11 = .ok (.if_icmp .ge 34, 3) := by decide +kernel
theorem dX11_isSo_14 : decode cX11_isSo 14 = .ok (.aload_n 0, 1) := by decide +kernel
theorem dX11_isSo_15 : decode cX11_isSo 15 = .ok (.aload_n 0, 1) := by decide +kernel
theorem dX11_isSo_16 : decode cX11_isSo 16 = .ok (.iload_n 1, 1) := by decide +kernel
theorem dX11_isSo_17 : decode cX11_isSo 17 = .ok (.iconst 3, 1) := by decide +kernel
theorem dX11_isSo_18 : decode cX11_isSo 18 = .ok (.iload_n 2, 1) := by decide +kernel
theorem dX11_isSo_19 : decode cX11_isSo 19 = .ok (.imul, 1) := by decide +kernel
theorem dX11_isSo_20 : decode cX11_isSo 20 = .ok (.invokevirtual 221, 3) := by decide +kernel
theorem dX11_isSo_23 : decode cX11_isSo 23 = .ok (.invokevirtual 128, 3) := by decide +kernel
theorem dX11_isSo_26 : decode cX11_isSo 26 = .ok (.ifCond .eq 19, 3) := by decide +kernel
theorem dX11_isSo_29 : decode cX11_isSo 29 = .ok (.aload_n 0, 1) := by decide +kernel
theorem dX11_isSo_30 : decode cX11_isSo 30 = .ok (.iload_n 1, 1) := by decide +kernel
theorem dX11_isSo_31 : decode cX11_isSo 31 = .ok (.iconst 3, 1) := by decide +kernel
theorem dX11_isSo_32 : decode cX11_isSo 32 = .ok (.iload_n 2, 1) := by decide +kernel
theorem dX11_isSo_33 : decode cX11_isSo 33 = .ok (.imul, 1) := by decide +kernel
theorem dX11_isSo_34 : decode cX11_isSo 34 = .ok (.iconst 1, 1) := by decide +kernel
theorem dX11_isSo_35 : decode cX11_isSo 35 = .ok (.iadd, 1) := by decide +kernel
theorem dX11_isSo_36 : decode cX11_isSo 36 = .ok (.invokevirtual 221, 3) := by decide +kernel
theorem dX11_isSo_39 : decode cX11_isSo 39 = .ok (.invokestatic 215, 3) := by decide +kernel
theorem dX11_isSo_42 : decode cX11_isSo 42 = .ok (.ifCond .ne 5, 3) := by decide +kernel
theorem dX11_isSo_45 : decode cX11_isSo 45 = .ok (.iconst 0, 1) := by decide +kernel
theorem dX11_isSo_46 : decode cX11_isSo 46 = .ok (.ireturn, 1) := by decide +kernel
theorem dX11_isSo_47 : decode cX11_isSo 47 = .ok (.aload_n 0, 1) := by decide +kernel
theorem dX11_isSo_48 : decode cX11_isSo 48 = .ok (.aload_n 0, 1) := by decide +kernel
theorem dX11_isSo_49 : decode cX11_isSo 49 = .ok (.iload_n 1, 1) := by decide +kernel
theorem dX11_isSo_50 : decode cX11_isSo 50 = .ok (.iconst 3, 1) := by decide +kernel
theorem dX11_isSo_51 : decode cX11_isSo 51 = .ok (.iload_n 2, 1) := by decide +kernel
theorem dX11_isSo_52 : decode cX11_isSo 52 = .ok (.imul, 1) := by decide +kernel
theorem dX11_isSo_53 : decode cX11_isSo 53 = .ok (.invokevirtual 221, 3) := by decide +kernel
theorem dX11_isSo_56 : decode cX11_isSo 56 = .ok (.l2i, 1) := by decide +kernel
theorem dX11_isSo_57 : decode cX11_isSo 57 = .ok (.aload_n 0, 1) := by decide +kernel
theorem dX11_isSo_58 : decode cX11_isSo 58 = .ok (.iload_n 1, 1) := by decide +kernel
theorem dX11_isSo_59 : decode cX11_isSo 59 = .ok (.iconst 3, 1) := by decide +kernel
theorem dX11_isSo_60 : decode cX11_isSo 60 = .ok (.iload_n 2, 1) := by decide +kernel
theorem dX11_isSo_61 : decode cX11_isSo 61 = .ok (.imul, 1) := by decide +kernel
theorem dX11_isSo_62 : decode cX11_isSo 62 = .ok (.iconst 1, 1) := by decide +kernel
theorem dX11_isSo_63 : decode cX11_isSo 63 = .ok (.iadd, 1) := by decide +kernel
theorem dX11_isSo_64 : decode cX11_isSo 64 = .ok (.invokevirtual 221, 3) := by decide +kernel
theorem dX11_isSo_67 : decode cX11_isSo 67 = .ok (.l2i, 1) := by decide +kernel
theorem dX11_isSo_68 : decode cX11_isSo 68 = .ok (.invokevirtual 225, 3) := by decide +kernel
theorem dX11_isSo_71 : decode cX11_isSo 71 = .ok (.istore_n 3, 1) := by decide +kernel
theorem dX11_isSo_72 : decode cX11_isSo 72 = .ok (.iload_n 3, 1) := by decide +kernel
theorem dX11_isSo_73 : decode cX11_isSo 73 = .ok (.ifCond .lt 23, 3) := by decide +kernel
theorem dX11_isSo_76 : decode cX11_isSo 76 = .ok (.aload_n 0, 1) := by decide +kernel
theorem dX11_isSo_77 : decode cX11_isSo 77 = .ok (.iload_n 1, 1) := by decide +kernel
theorem dX11_isSo_78 : decode cX11_isSo 78 = .ok (.iconst 3, 1) := by decide +kernel
theorem dX11_isSo_79 : decode cX11_isSo 79 = .ok (.iload_n 2, 1) := by decide +kernel
theorem dX11_isSo_80 : decode cX11_isSo 80 = .ok (.imul, 1) := by decide +kernel
theorem dX11_isSo_81 : decode cX11_isSo 81 = .ok (.iconst 2, 1) := by decide +kernel
theorem dX11_isSo_82 : decode cX11_isSo 82 = .ok (.iadd, 1) := by decide +kernel
theorem dX11_isSo_83 : decode cX11_isSo 83 = .ok (.invokevirtual 221, 3) := by decide +kernel
theorem dX11_isSo_86 : decode cX11_isSo 86 = .ok (.iload_n 3, 1) := by decide +kernel
theorem dX11_isSo_87 : decode cX11_isSo 87 = .ok (.i2l, 1) := by decide +kernel
theorem dX11_isSo_88 : decode cX11_isSo 88 = .ok (.lcmp, 1) := by decide +kernel
theorem dX11_isSo_89 : decode cX11_isSo 89 = .ok (.ifCond .ne 7, 3) := by decide +kernel
theorem dX11_isSo_92 : decode cX11_isSo 92 = .ok (.iconst 1, 1) := by decide +kernel
theorem dX11_isSo_93 : decode cX11_isSo 93 = .ok (.goto 4, 3) := by decide +kernel
theorem dX11_isSo_96 : decode cX11_isSo 96 = .ok (.iconst 0, 1) := by decide +kernel
theorem dX11_isSo_97 : decode cX11_isSo 97 = .ok (.ireturn, 1) := by decide +kernel
theorem dX11_judge_0 : decode cX11_judge 0 = .ok (.aload_n 0, 1) := by decide +kernel
theorem dX11_judge_1 : decode cX11_judge 1 = .ok (.iload_n 1, 1) := by decide +kernel
theorem dX11_judge_2 : decode cX11_judge 2 = .ok (.invokevirtual 228, 3) := by decide +kernel
theorem dX11_judge_5 : decode cX11_judge 5 = .ok (.ifCond .ge 9, 3) := by decide +kernel
theorem dX11_judge_8 : decode cX11_judge 8 = .ok (.aload_n 0, 1) := by decide +kernel
theorem dX11_judge_9 : decode cX11_judge 9 = .ok (.iload_n 1, 1) := by decide +kernel
theorem dX11_judge_10 : decode cX11_judge 10 = .ok (.invokevirtual 228, 3) := by decide +kernel
theorem dX11_judge_13 : decode cX11_judge 13 = .ok (.ireturn, 1) := by decide +kernel
theorem dX11_judge_14 : decode cX11_judge 14 = .ok (.aload_n 0, 1) := by decide +kernel
theorem dX11_judge_15 : decode cX11_judge 15 = .ok (.invokevirtual 140, 3) := by decide +kernel
theorem dX11_judge_18 : decode cX11_judge 18 = .ok (.iconst 0, 1) := by decide +kernel
theorem dX11_judge_19 : decode cX11_judge 19 = .ok (.istore_n 2, 1) := by decide +kernel
theorem dX11_judge_20 : decode cX11_judge 20 = .ok (.iconst 3, 1) := by decide +kernel
theorem dX11_judge_21 : decode cX11_judge 21 = .ok (.iload_n 2, 1) := by decide +kernel
theorem dX11_judge_22 : decode cX11_judge 22 = .ok (.imul, 1) := by decide +kernel
theorem dX11_judge_23 : decode cX11_judge 23 = .ok (.aload_n 0, 1) := by decide +kernel
theorem dX11_judge_24 : decode cX11_judge 24 = .ok (.getfield 85, 3) := by decide +kernel
theorem dX11_judge_27 : decode cX11_judge 27 = .ok (.iload_n 1, 1) := by decide +kernel
theorem dX11_judge_28 : decode cX11_judge 28 = .ok (.iaload, 1) := by decide +kernel
theorem dX11_judge_29 : decode cX11_judge 29 = .ok (.if_icmp .ge 20, 3) := by decide +kernel
theorem dX11_judge_32 : decode cX11_judge 32 = .ok (.aload_n 0, 1) := by decide +kernel
theorem dX11_judge_33 : decode cX11_judge 33 = .ok (.iload_n 1, 1) := by decide +kernel
theorem dX11_judge_34 : decode cX11_judge 34 = .ok (.iload_n 2, 1) := by decide +kernel
theorem dX11_judge_35 : decode cX11_judge 35 = .ok (.invokevirtual 320, 3) := by decide +kernel
theorem dX11_judge_38 : decode cX11_judge 38 = .ok (.ifCond .ne 5, 3) := by decide +kernel
theorem dX11_judge_41 : decode cX11_judge 41 = .ok (.iload_n 2, 1) := by decide +kernel
theorem dX11_judge_42 : decode cX11_judge 42 = .ok (.ireturn, 1) := by decide +kernel
theorem dX11_judge_43 : decode cX11_judge 43 = .ok (.iinc 2 1, 3) := by decide +kernel
theorem dX11_judge_46 : decode cX11_judge 46 = .ok (.goto (-26), 3) := by decide +kernel
theorem dX11_judge_49 : decode cX11_judge 49 = .ok (.bipush (-2), 2) := by decide +kernel
theorem dX11_judge_51 : decode cX11_judge 51 = .ok (.ireturn, 1) := by decide +kernel
theorem dX11_drawn_0 : decode cX11_drawn 0 = .ok (.iload_n 2, 1) := by decide +kernel
theorem dX11_drawn_1 : decode cX11_drawn 1 = .ok (.ifCond .lt 43, 3) := by decide +kernel
theorem dX11_drawn_4 : decode cX11_drawn 4 = .ok (.iload_n 2, 1) := by decide +kernel
theorem dX11_drawn_5 : decode cX11_drawn 5 = .ok (.bipush 100, 2) := by decide +kernel
theorem dX11_drawn_7 : decode cX11_drawn 7 = .ok (.idiv, 1) := by decide +kernel
theorem dX11_drawn_8 : decode cX11_drawn 8 = .ok (.i2l, 1) := by decide +kernel
theorem dX11_drawn_9 : decode cX11_drawn 9 = .ok (.lconst 1, 1) := by decide +kernel
theorem dX11_drawn_10 : decode cX11_drawn 10 = .ok (.ldc2_w 323, 3) := by decide +kernel
theorem dX11_drawn_13 : decode cX11_drawn 13 = .ok (.invokestatic 111, 3) := by decide +kernel
theorem dX11_drawn_16 : decode cX11_drawn 16 = .ok (.ifCond .eq 28, 3) := by decide +kernel
theorem dX11_drawn_19 : decode cX11_drawn 19 = .ok (.iload_n 2, 1) := by decide +kernel
theorem dX11_drawn_20 : decode cX11_drawn 20 = .ok (.bipush 100, 2) := by decide +kernel
theorem dX11_drawn_22 : decode cX11_drawn 22 = .ok (.irem, 1) := by decide +kernel
theorem dX11_drawn_23 : decode cX11_drawn 23 = .ok (.i2l, 1) := by decide +kernel
theorem dX11_drawn_24 : decode cX11_drawn 24 = .ok (.lconst 0, 1) := by decide +kernel
theorem dX11_drawn_25 : decode cX11_drawn 25 = .ok (.ldc2_w 244, 3) := by decide +kernel
theorem dX11_drawn_28 : decode cX11_drawn 28 = .ok (.invokestatic 111, 3) := by decide +kernel
theorem dX11_drawn_31 : decode cX11_drawn 31 = .ok (.ifCond .eq 13, 3) := by decide +kernel
theorem dX11_drawn_34 : decode cX11_drawn 34 = .ok (.iload_n 3, 1) := by decide +kernel
theorem dX11_drawn_35 : decode cX11_drawn 35 = .ok (.i2l, 1) := by decide +kernel
theorem dX11_drawn_36 : decode cX11_drawn 36 = .ok (.lconst 0, 1) := by decide +kernel
theorem dX11_drawn_37 : decode cX11_drawn 37 = .ok (.lconst 1, 1) := by decide +kernel
theorem dX11_drawn_38 : decode cX11_drawn 38 = .ok (.invokestatic 111, 3) := by decide +kernel
theorem dX11_drawn_41 : decode cX11_drawn 41 = .ok (.ifCond .ne 5, 3) := by decide +kernel
theorem dX11_drawn_44 : decode cX11_drawn 44 = .ok (.iconst (-1), 1) := by decide +kernel
theorem dX11_drawn_45 : decode cX11_drawn 45 = .ok (.ireturn, 1) := by decide +kernel
theorem dX11_drawn_46 : decode cX11_drawn 46 = .ok (.aload_n 0, 1) := by decide +kernel
theorem dX11_drawn_47 : decode cX11_drawn 47 = .ok (.getfield 117, 3) := by decide +kernel
theorem dX11_drawn_50 : decode cX11_drawn 50 = .ok (.ifCond .ne 6, 3) := by decide +kernel
theorem dX11_drawn_53 : decode cX11_drawn 53 = .ok (.bipush (-5), 2) := by decide +kernel
theorem dX11_drawn_55 : decode cX11_drawn 55 = .ok (.ireturn, 1) := by decide +kernel
theorem dX11_drawn_56 : decode cX11_drawn 56 = .ok (.aload_n 0, 1) := by decide +kernel
theorem dX11_drawn_57 : decode cX11_drawn 57 = .ok (.invokevirtual 140, 3) := by decide +kernel
theorem dX11_drawn_60 : decode cX11_drawn 60 = .ok (.iload_n 1, 1) := by decide +kernel
theorem dX11_drawn_61 : decode cX11_drawn 61 = .ok (.istore 4, 2) := by decide +kernel
theorem dX11_drawn_63 : decode cX11_drawn 63 = .ok (.iconst 0, 1) := by decide +kernel
theorem dX11_drawn_64 : decode cX11_drawn 64 = .ok (.istore 5, 2) := by decide +kernel
theorem dX11_drawn_66 : decode cX11_drawn 66 = .ok (.iconst 0, 1) := by decide +kernel
theorem dX11_drawn_67 : decode cX11_drawn 67 = .ok (.istore 6, 2) := by decide +kernel
theorem dX11_drawn_69 : decode cX11_drawn 69 = .ok (.iload 6, 2) := by decide +kernel
theorem dX11_drawn_71 : decode cX11_drawn 71 = .ok (.iload_n 2, 1) := by decide +kernel
theorem dX11_drawn_72 : decode cX11_drawn 72 = .ok (.bipush 100, 2) := by decide +kernel
theorem dX11_drawn_74 : decode cX11_drawn 74 = .ok (.idiv, 1) := by decide +kernel
theorem dX11_drawn_75 : decode cX11_drawn 75 = .ok (.if_icmp .ge 74, 3) := by decide +kernel
theorem dX11_drawn_78 : decode cX11_drawn 78 = .ok (.iload 4, 2) := by decide +kernel
theorem dX11_drawn_80 : decode cX11_drawn 80 = .ok (.ldc_w 325, 3) := by decide +kernel
theorem dX11_drawn_83 : decode cX11_drawn 83 = .ok (.imul, 1) := by decide +kernel
theorem dX11_drawn_84 : decode cX11_drawn 84 = .ok (.sipush 12345, 3) := by decide +kernel
theorem dX11_drawn_87 : decode cX11_drawn 87 = .ok (.iadd, 1) := by decide +kernel
theorem dX11_drawn_88 : decode cX11_drawn 88 = .ok (.istore 4, 2) := by decide +kernel
theorem dX11_drawn_90 : decode cX11_drawn 90 = .ok (.iload 4, 2) := by decide +kernel
theorem dX11_drawn_92 : decode cX11_drawn 92 = .ok (.bipush 8, 2) := by decide +kernel
theorem dX11_drawn_94 : decode cX11_drawn 94 = .ok (.iushr, 1) := by decide +kernel
theorem dX11_drawn_95 : decode cX11_drawn 95 = .ok (.aload_n 0, 1) := by decide +kernel
theorem dX11_drawn_96 : decode cX11_drawn 96 = .ok (.getfield 117, 3) := by decide +kernel
theorem dX11_drawn_99 : decode cX11_drawn 99 = .ok (.irem, 1) := by decide +kernel
theorem dX11_drawn_100 : decode cX11_drawn 100 = .ok (.istore 7, 2) := by decide +kernel
theorem dX11_drawn_102 : decode cX11_drawn 102 = .ok (.iload 4, 2) := by decide +kernel
theorem dX11_drawn_104 : decode cX11_drawn 104 = .ok (.ldc_w 325, 3) := by decide +kernel
theorem dX11_drawn_107 : decode cX11_drawn 107 = .ok (.imul, 1) := by decide +kernel
theorem dX11_drawn_108 : decode cX11_drawn 108 = .ok (.sipush 12345, 3) := by decide +kernel
theorem dX11_drawn_111 : decode cX11_drawn 111 = .ok (.iadd, 1) := by decide +kernel
theorem dX11_drawn_112 : decode cX11_drawn 112 = .ok (.istore 4, 2) := by decide +kernel
theorem dX11_drawn_114 : decode cX11_drawn 114 = .ok (.iload 5, 2) := by decide +kernel
theorem dX11_drawn_116 : decode cX11_drawn 116 = .ok (.aload_n 0, 1) := by decide +kernel
theorem dX11_drawn_117 : decode cX11_drawn 117 = .ok (.iload 7, 2) := by decide +kernel
theorem dX11_drawn_119 : decode cX11_drawn 119 = .ok (.iconst 1, 1) := by decide +kernel
theorem dX11_drawn_120 : decode cX11_drawn 120 = .ok (.iload 4, 2) := by decide +kernel
theorem dX11_drawn_122 : decode cX11_drawn 122 = .ok (.bipush 8, 2) := by decide +kernel
theorem dX11_drawn_124 : decode cX11_drawn 124 = .ok (.iushr, 1) := by decide +kernel
theorem dX11_drawn_125 : decode cX11_drawn 125 = .ok (.bipush 6, 2) := by decide +kernel
theorem dX11_drawn_127 : decode cX11_drawn 127 = .ok (.irem, 1) := by decide +kernel
theorem dX11_drawn_128 : decode cX11_drawn 128 = .ok (.iadd, 1) := by decide +kernel
theorem dX11_drawn_129 : decode cX11_drawn 129 = .ok (.invokevirtual 225, 3) := by decide +kernel
theorem dX11_drawn_132 : decode cX11_drawn 132 = .ok (.ifCond .ge 7, 3) := by decide +kernel
theorem dX11_drawn_135 : decode cX11_drawn 135 = .ok (.iconst 1, 1) := by decide +kernel
theorem dX11_drawn_136 : decode cX11_drawn 136 = .ok (.goto 4, 3) := by decide +kernel
theorem dX11_drawn_139 : decode cX11_drawn 139 = .ok (.iconst 0, 1) := by decide +kernel
theorem dX11_drawn_140 : decode cX11_drawn 140 = .ok (.iadd, 1) := by decide +kernel
theorem dX11_drawn_141 : decode cX11_drawn 141 = .ok (.istore 5, 2) := by decide +kernel
theorem dX11_drawn_143 : decode cX11_drawn 143 = .ok (.iinc 6 1, 3) := by decide +kernel
theorem dX11_drawn_146 : decode cX11_drawn 146 = .ok (.goto (-77), 3) := by decide +kernel
theorem dX11_drawn_149 : decode cX11_drawn 149 = .ok (.aload_n 0, 1) := by decide +kernel
theorem dX11_drawn_150 : decode cX11_drawn 150 = .ok (.iload_n 2, 1) := by decide +kernel
theorem dX11_drawn_151 : decode cX11_drawn 151 = .ok (.bipush 100, 2) := by decide +kernel
theorem dX11_drawn_153 : decode cX11_drawn 153 = .ok (.irem, 1) := by decide +kernel
theorem dX11_drawn_154 : decode cX11_drawn 154 = .ok (.invokevirtual 246, 3) := by decide +kernel
theorem dX11_drawn_157 : decode cX11_drawn 157 = .ok (.pop, 1) := by decide +kernel
theorem dX11_drawn_158 : decode cX11_drawn 158 = .ok (.iconst 0, 1) := by decide +kernel
theorem dX11_drawn_159 : decode cX11_drawn 159 = .ok (.istore 6, 2) := by decide +kernel
theorem dX11_drawn_161 : decode cX11_drawn 161 = .ok (.iconst 0, 1) := by decide +kernel
theorem dX11_drawn_162 : decode cX11_drawn 162 = .ok (.istore 7, 2) := by decide +kernel
theorem dX11_drawn_164 : decode cX11_drawn 164 = .ok (.iload 7, 2) := by decide +kernel
theorem dX11_drawn_166 : decode cX11_drawn 166 = .ok (.bipush 49, 2) := by decide +kernel
theorem dX11_drawn_168 : decode cX11_drawn 168 = .ok (.if_icmp .ge 21, 3) := by decide +kernel
theorem dX11_drawn_171 : decode cX11_drawn 171 = .ok (.iload 6, 2) := by decide +kernel
theorem dX11_drawn_173 : decode cX11_drawn 173 = .ok (.aload_n 0, 1) := by decide +kernel
theorem dX11_drawn_174 : decode cX11_drawn 174 = .ok (.getfield 36, 3) := by decide +kernel
theorem dX11_drawn_177 : decode cX11_drawn 177 = .ok (.iload 7, 2) := by decide +kernel
theorem dX11_drawn_179 : decode cX11_drawn 179 = .ok (.iaload, 1) := by decide +kernel
theorem dX11_drawn_180 : decode cX11_drawn 180 = .ok (.iadd, 1) := by decide +kernel
theorem dX11_drawn_181 : decode cX11_drawn 181 = .ok (.istore 6, 2) := by decide +kernel
theorem dX11_drawn_183 : decode cX11_drawn 183 = .ok (.iinc 7 1, 3) := by decide +kernel
theorem dX11_drawn_186 : decode cX11_drawn 186 = .ok (.goto (-22), 3) := by decide +kernel
theorem dX11_drawn_189 : decode cX11_drawn 189 = .ok (.iload_n 3, 1) := by decide +kernel
theorem dX11_drawn_190 : decode cX11_drawn 190 = .ok (.ifCond .ne 8, 3) := by decide +kernel
theorem dX11_drawn_193 : decode cX11_drawn 193 = .ok (.iload 6, 2) := by decide +kernel
theorem dX11_drawn_195 : decode cX11_drawn 195 = .ok (.goto 5, 3) := by decide +kernel
theorem dX11_drawn_198 : decode cX11_drawn 198 = .ok (.iload 5, 2) := by decide +kernel
theorem dX11_drawn_200 : decode cX11_drawn 200 = .ok (.ireturn, 1) := by decide +kernel
theorem dX11_sale_0 : decode cX11_sale 0 = .ok (.aload_n 0, 1) := by decide +kernel
theorem dX11_sale_1 : decode cX11_sale 1 = .ok (.iload_n 1, 1) := by decide +kernel
theorem dX11_sale_2 : decode cX11_sale 2 = .ok (.invokevirtual 218, 3) := by decide +kernel
theorem dX11_sale_5 : decode cX11_sale 5 = .ok (.ifCond .ne 5, 3) := by decide +kernel
theorem dX11_sale_8 : decode cX11_sale 8 = .ok (.iconst (-1), 1) := by decide +kernel
theorem dX11_sale_9 : decode cX11_sale 9 = .ok (.ireturn, 1) := by decide +kernel
theorem dX11_sale_10 : decode cX11_sale 10 = .ok (.aload_n 0, 1) := by decide +kernel
theorem dX11_sale_11 : decode cX11_sale 11 = .ok (.invokevirtual 140, 3) := by decide +kernel
theorem dX11_sale_14 : decode cX11_sale 14 = .ok (.aload_n 0, 1) := by decide +kernel
theorem dX11_sale_15 : decode cX11_sale 15 = .ok (.iload_n 1, 1) := by decide +kernel
theorem dX11_sale_16 : decode cX11_sale 16 = .ok (.bipush 10, 2) := by decide +kernel
theorem dX11_sale_18 : decode cX11_sale 18 = .ok (.idiv, 1) := by decide +kernel
theorem dX11_sale_19 : decode cX11_sale 19 = .ok (.iload_n 1, 1) := by decide +kernel
theorem dX11_sale_20 : decode cX11_sale 20 = .ok (.bipush 10, 2) := by decide +kernel
theorem dX11_sale_22 : decode cX11_sale 22 = .ok (.irem, 1) := by decide +kernel
theorem dX11_sale_23 : decode cX11_sale 23 = .ok (.invokevirtual 225, 3) := by decide +kernel
theorem dX11_sale_26 : decode cX11_sale 26 = .ok (.istore_n 2, 1) := by decide +kernel
theorem dX11_sale_27 : decode cX11_sale 27 = .ok (.iload_n 2, 1) := by decide +kernel
theorem dX11_sale_28 : decode cX11_sale 28 = .ok (.ifCond .ge 6, 3) := by decide +kernel
theorem dX11_sale_31 : decode cX11_sale 31 = .ok (.bipush (-3), 2) := by decide +kernel
theorem dX11_sale_33 : decode cX11_sale 33 = .ok (.ireturn, 1) := by decide +kernel
theorem dX11_sale_34 : decode cX11_sale 34 = .ok (.aload_n 0, 1) := by decide +kernel
theorem dX11_sale_35 : decode cX11_sale 35 = .ok (.invokevirtual 326, 3) := by decide +kernel
theorem dX11_sale_38 : decode cX11_sale 38 = .ok (.aload_n 0, 1) := by decide +kernel
theorem dX11_sale_39 : decode cX11_sale 39 = .ok (.getfield 64, 3) := by decide +kernel
theorem dX11_sale_42 : decode cX11_sale 42 = .ok (.iconst 0, 1) := by decide +kernel
theorem dX11_sale_43 : decode cX11_sale 43 = .ok (.dup2, 1) := by decide +kernel
theorem dX11_sale_44 : decode cX11_sale 44 = .ok (.iaload, 1) := by decide +kernel
theorem dX11_sale_45 : decode cX11_sale 45 = .ok (.iconst 1, 1) := by decide +kernel
theorem dX11_sale_46 : decode cX11_sale 46 = .ok (.iadd, 1) := by decide +kernel
theorem dX11_sale_47 : decode cX11_sale 47 = .ok (.iastore, 1) := by decide +kernel
theorem dX11_sale_48 : decode cX11_sale 48 = .ok (.aload_n 0, 1) := by decide +kernel
theorem dX11_sale_49 : decode cX11_sale 49 = .ok (.getfield 64, 3) := by decide +kernel
theorem dX11_sale_52 : decode cX11_sale 52 = .ok (.iconst 1, 1) := by decide +kernel
theorem dX11_sale_53 : decode cX11_sale 53 = .ok (.dup2, 1) := by decide +kernel
theorem dX11_sale_54 : decode cX11_sale 54 = .ok (.iaload, 1) := by decide +kernel
theorem dX11_sale_55 : decode cX11_sale 55 = .ok (.iload_n 1, 1) := by decide +kernel
theorem dX11_sale_56 : decode cX11_sale 56 = .ok (.bipush 10, 2) := by decide +kernel
theorem dX11_sale_58 : decode cX11_sale 58 = .ok (.irem, 1) := by decide +kernel
theorem dX11_sale_59 : decode cX11_sale 59 = .ok (.iadd, 1) := by decide +kernel
theorem dX11_sale_60 : decode cX11_sale 60 = .ok (.iastore, 1) := by decide +kernel
theorem dX11_sale_61 : decode cX11_sale 61 = .ok (.iload_n 2, 1) := by decide +kernel
theorem dX11_sale_62 : decode cX11_sale 62 = .ok (.ireturn, 1) := by decide +kernel
theorem dX11_eat_0 : decode cX11_eat 0 = .ok (.iload_n 1, 1) := by decide +kernel
theorem dX11_eat_1 : decode cX11_eat 1 = .ok (.i2l, 1) := by decide +kernel
theorem dX11_eat_2 : decode cX11_eat 2 = .ok (.lconst 0, 1) := by decide +kernel
theorem dX11_eat_3 : decode cX11_eat 3 = .ok (.ldc2_w 244, 3) := by decide +kernel
theorem dX11_eat_6 : decode cX11_eat 6 = .ok (.invokestatic 111, 3) := by decide +kernel
theorem dX11_eat_9 : decode cX11_eat 9 = .ok (.ifCond .ne 5, 3) := by decide +kernel
theorem dX11_eat_12 : decode cX11_eat 12 = .ok (.iconst (-1), 1) := by decide +kernel
theorem dX11_eat_13 : decode cX11_eat 13 = .ok (.ireturn, 1) := by decide +kernel
theorem dX11_eat_14 : decode cX11_eat 14 = .ok (.aload_n 0, 1) := by decide +kernel
theorem dX11_eat_15 : decode cX11_eat 15 = .ok (.invokevirtual 140, 3) := by decide +kernel
theorem dX11_eat_18 : decode cX11_eat 18 = .ok (.aload_n 0, 1) := by decide +kernel
theorem dX11_eat_19 : decode cX11_eat 19 = .ok (.iload_n 1, 1) := by decide +kernel
theorem dX11_eat_20 : decode cX11_eat 20 = .ok (.invokevirtual 246, 3) := by decide +kernel
theorem dX11_eat_23 : decode cX11_eat 23 = .ok (.istore_n 2, 1) := by decide +kernel
theorem dX11_eat_24 : decode cX11_eat 24 = .ok (.aload_n 0, 1) := by decide +kernel
theorem dX11_eat_25 : decode cX11_eat 25 = .ok (.invokevirtual 326, 3) := by decide +kernel
theorem dX11_eat_28 : decode cX11_eat 28 = .ok (.aload_n 0, 1) := by decide +kernel
theorem dX11_eat_29 : decode cX11_eat 29 = .ok (.getfield 64, 3) := by decide +kernel
theorem dX11_eat_32 : decode cX11_eat 32 = .ok (.iconst 2, 1) := by decide +kernel
theorem dX11_eat_33 : decode cX11_eat 33 = .ok (.dup2, 1) := by decide +kernel
theorem dX11_eat_34 : decode cX11_eat 34 = .ok (.iaload, 1) := by decide +kernel
theorem dX11_eat_35 : decode cX11_eat 35 = .ok (.iload_n 2, 1) := by decide +kernel
theorem dX11_eat_36 : decode cX11_eat 36 = .ok (.iadd, 1) := by decide +kernel
theorem dX11_eat_37 : decode cX11_eat 37 = .ok (.iastore, 1) := by decide +kernel
theorem dX11_eat_38 : decode cX11_eat 38 = .ok (.aload_n 0, 1) := by decide +kernel
theorem dX11_eat_39 : decode cX11_eat 39 = .ok (.getfield 64, 3) := by decide +kernel
theorem dX11_eat_42 : decode cX11_eat 42 = .ok (.iconst 5, 1) := by decide +kernel
theorem dX11_eat_43 : decode cX11_eat 43 = .ok (.dup2, 1) := by decide +kernel
theorem dX11_eat_44 : decode cX11_eat 44 = .ok (.iaload, 1) := by decide +kernel
theorem dX11_eat_45 : decode cX11_eat 45 = .ok (.iconst 1, 1) := by decide +kernel
theorem dX11_eat_46 : decode cX11_eat 46 = .ok (.iadd, 1) := by decide +kernel
theorem dX11_eat_47 : decode cX11_eat 47 = .ok (.iastore, 1) := by decide +kernel
theorem dX11_eat_48 : decode cX11_eat 48 = .ok (.iload_n 2, 1) := by decide +kernel
theorem dX11_eat_49 : decode cX11_eat 49 = .ok (.ireturn, 1) := by decide +kernel
theorem dX11_run_0 : decode cX11_run 0 = .ok (.aload_n 0, 1) := by decide +kernel
theorem dX11_run_1 : decode cX11_run 1 = .ok (.invokevirtual 140, 3) := by decide +kernel
theorem dX11_run_4 : decode cX11_run 4 = .ok (.aload_n 0, 1) := by decide +kernel
theorem dX11_run_5 : decode cX11_run 5 = .ok (.invokevirtual 261, 3) := by decide +kernel
theorem dX11_run_8 : decode cX11_run 8 = .ok (.istore_n 1, 1) := by decide +kernel
theorem dX11_run_9 : decode cX11_run 9 = .ok (.aload_n 0, 1) := by decide +kernel
theorem dX11_run_10 : decode cX11_run 10 = .ok (.invokevirtual 326, 3) := by decide +kernel
theorem dX11_run_13 : decode cX11_run 13 = .ok (.aload_n 0, 1) := by decide +kernel
theorem dX11_run_14 : decode cX11_run 14 = .ok (.getfield 64, 3) := by decide +kernel
theorem dX11_run_17 : decode cX11_run 17 = .ok (.iconst 3, 1) := by decide +kernel
theorem dX11_run_18 : decode cX11_run 18 = .ok (.dup2, 1) := by decide +kernel
theorem dX11_run_19 : decode cX11_run 19 = .ok (.iaload, 1) := by decide +kernel
theorem dX11_run_20 : decode cX11_run 20 = .ok (.iload_n 1, 1) := by decide +kernel
theorem dX11_run_21 : decode cX11_run 21 = .ok (.iadd, 1) := by decide +kernel
theorem dX11_run_22 : decode cX11_run 22 = .ok (.iastore, 1) := by decide +kernel
theorem dX11_run_23 : decode cX11_run 23 = .ok (.iload_n 1, 1) := by decide +kernel
theorem dX11_run_24 : decode cX11_run 24 = .ok (.ireturn, 1) := by decide +kernel
theorem dX11_fly_0 : decode cX11_fly 0 = .ok (.iload_n 1, 1) := by decide +kernel
theorem dX11_fly_1 : decode cX11_fly 1 = .ok (.invokestatic 264, 3) := by decide +kernel
theorem dX11_fly_4 : decode cX11_fly 4 = .ok (.ifCond .ne 5, 3) := by decide +kernel
theorem dX11_fly_7 : decode cX11_fly 7 = .ok (.iconst (-1), 1) := by decide +kernel
theorem dX11_fly_8 : decode cX11_fly 8 = .ok (.ireturn, 1) := by decide +kernel
theorem dX11_fly_9 : decode cX11_fly 9 = .ok (.aload_n 0, 1) := by decide +kernel
theorem dX11_fly_10 : decode cX11_fly 10 = .ok (.invokevirtual 140, 3) := by decide +kernel
theorem dX11_fly_13 : decode cX11_fly 13 = .ok (.aload_n 0, 1) := by decide +kernel
theorem dX11_fly_14 : decode cX11_fly 14 = .ok (.iload_n 1, 1) := by decide +kernel
theorem dX11_fly_15 : decode cX11_fly 15 = .ok (.bipush 10, 2) := by decide +kernel
theorem dX11_fly_17 : decode cX11_fly 17 = .ok (.idiv, 1) := by decide +kernel
theorem dX11_fly_18 : decode cX11_fly 18 = .ok (.iload_n 1, 1) := by decide +kernel
theorem dX11_fly_19 : decode cX11_fly 19 = .ok (.bipush 10, 2) := by decide +kernel
theorem dX11_fly_21 : decode cX11_fly 21 = .ok (.irem, 1) := by decide +kernel
theorem dX11_fly_22 : decode cX11_fly 22 = .ok (.invokevirtual 267, 3) := by decide +kernel
theorem dX11_fly_25 : decode cX11_fly 25 = .ok (.istore_n 2, 1) := by decide +kernel
theorem dX11_fly_26 : decode cX11_fly 26 = .ok (.aload_n 0, 1) := by decide +kernel
theorem dX11_fly_27 : decode cX11_fly 27 = .ok (.invokevirtual 326, 3) := by decide +kernel
theorem dX11_fly_30 : decode cX11_fly 30 = .ok (.aload_n 0, 1) := by decide +kernel
theorem dX11_fly_31 : decode cX11_fly 31 = .ok (.getfield 64, 3) := by decide +kernel
theorem dX11_fly_34 : decode cX11_fly 34 = .ok (.iconst 4, 1) := by decide +kernel
theorem dX11_fly_35 : decode cX11_fly 35 = .ok (.dup2, 1) := by decide +kernel
theorem dX11_fly_36 : decode cX11_fly 36 = .ok (.iaload, 1) := by decide +kernel
theorem dX11_fly_37 : decode cX11_fly 37 = .ok (.iload_n 2, 1) := by decide +kernel
theorem dX11_fly_38 : decode cX11_fly 38 = .ok (.iadd, 1) := by decide +kernel
theorem dX11_fly_39 : decode cX11_fly 39 = .ok (.iastore, 1) := by decide +kernel
theorem dX11_fly_40 : decode cX11_fly 40 = .ok (.iload_n 2, 1) := by decide +kernel
theorem dX11_fly_41 : decode cX11_fly 41 = .ok (.ireturn, 1) := by decide +kernel
theorem dX11_led_0 : decode cX11_led 0 = .ok (.iload_n 1, 1) := by decide +kernel
theorem dX11_led_1 : decode cX11_led 1 = .ok (.i2l, 1) := by decide +kernel
theorem dX11_led_2 : decode cX11_led 2 = .ok (.lconst 0, 1) := by decide +kernel
theorem dX11_led_3 : decode cX11_led 3 = .ok (.ldc2_w 329, 3) := by decide +kernel
theorem dX11_led_6 : decode cX11_led 6 = .ok (.invokestatic 111, 3) := by decide +kernel
theorem dX11_led_9 : decode cX11_led 9 = .ok (.ifCond .eq 12, 3) := by decide +kernel
theorem dX11_led_12 : decode cX11_led 12 = .ok (.aload_n 0, 1) := by decide +kernel
theorem dX11_led_13 : decode cX11_led 13 = .ok (.getfield 64, 3) := by decide +kernel
theorem dX11_led_16 : decode cX11_led 16 = .ok (.iload_n 1, 1) := by decide +kernel
theorem dX11_led_17 : decode cX11_led 17 = .ok (.iaload, 1) := by decide +kernel
theorem dX11_led_18 : decode cX11_led 18 = .ok (.goto 4, 3) := by decide +kernel
theorem dX11_led_21 : decode cX11_led 21 = .ok (.iconst (-1), 1) := by decide +kernel
theorem dX11_led_22 : decode cX11_led 22 = .ok (.ireturn, 1) := by decide +kernel
theorem dX11_image_0 : decode cX11_image 0 = .ok (.aload_n 0, 1) := by decide +kernel
theorem dX11_image_1 : decode cX11_image 1 = .ok (.iconst 1, 1) := by decide +kernel
theorem dX11_image_2 : decode cX11_image 2 = .ok (.putfield 331, 3) := by decide +kernel
theorem dX11_image_5 : decode cX11_image 5 = .ok (.iconst 0, 1) := by decide +kernel
theorem dX11_image_6 : decode cX11_image 6 = .ok (.istore_n 1, 1) := by decide +kernel
theorem dX11_image_7 : decode cX11_image 7 = .ok (.iload_n 1, 1) := by decide +kernel
theorem dX11_image_8 : decode cX11_image 8 = .ok (.bipush 49, 2) := by decide +kernel
theorem dX11_image_10 : decode cX11_image 10 = .ok (.if_icmp .ge 33, 3) := by decide +kernel
theorem dX11_image_13 : decode cX11_image 13 = .ok (.aload_n 0, 1) := by decide +kernel
theorem dX11_image_14 : decode cX11_image 14 = .ok (.getfield 67, 3) := by decide +kernel
theorem dX11_image_17 : decode cX11_image 17 = .ok (.iload_n 1, 1) := by decide +kernel
theorem dX11_image_18 : decode cX11_image 18 = .ok (.aload_n 0, 1) := by decide +kernel
theorem dX11_image_19 : decode cX11_image 19 = .ok (.getfield 27, 3) := by decide +kernel
theorem dX11_image_22 : decode cX11_image 22 = .ok (.iload_n 1, 1) := by decide +kernel
theorem dX11_image_23 : decode cX11_image 23 = .ok (.iaload, 1) := by decide +kernel
theorem dX11_image_24 : decode cX11_image 24 = .ok (.iastore, 1) := by decide +kernel
theorem dX11_image_25 : decode cX11_image 25 = .ok (.aload_n 0, 1) := by decide +kernel
theorem dX11_image_26 : decode cX11_image 26 = .ok (.getfield 70, 3) := by decide +kernel
theorem dX11_image_29 : decode cX11_image 29 = .ok (.iload_n 1, 1) := by decide +kernel
theorem dX11_image_30 : decode cX11_image 30 = .ok (.aload_n 0, 1) := by decide +kernel
theorem dX11_image_31 : decode cX11_image 31 = .ok (.getfield 30, 3) := by decide +kernel
theorem dX11_image_34 : decode cX11_image 34 = .ok (.iload_n 1, 1) := by decide +kernel
theorem dX11_image_35 : decode cX11_image 35 = .ok (.iaload, 1) := by decide +kernel
theorem dX11_image_36 : decode cX11_image 36 = .ok (.iastore, 1) := by decide +kernel
theorem dX11_image_37 : decode cX11_image 37 = .ok (.iinc 1 1, 3) := by decide +kernel
theorem dX11_image_40 : decode cX11_image 40 = .ok (.goto (-33), 3) := by decide +kernel
theorem dX11_image_43 : decode cX11_image 43 = .ok (.iconst 0, 1) := by decide +kernel
theorem dX11_image_44 : decode cX11_image 44 = .ok (.istore_n 1, 1) := by decide +kernel
theorem dX11_image_45 : decode cX11_image 45 = .ok (.iload_n 1, 1) := by decide +kernel
theorem dX11_image_46 : decode cX11_image 46 = .ok (.bipush 6, 2) := by decide +kernel
theorem dX11_image_48 : decode cX11_image 48 = .ok (.if_icmp .ge 21, 3) := by decide +kernel
theorem dX11_image_51 : decode cX11_image 51 = .ok (.aload_n 0, 1) := by decide +kernel
theorem dX11_image_52 : decode cX11_image 52 = .ok (.getfield 73, 3) := by decide +kernel
theorem dX11_image_55 : decode cX11_image 55 = .ok (.iload_n 1, 1) := by decide +kernel
theorem dX11_image_56 : decode cX11_image 56 = .ok (.aload_n 0, 1) := by decide +kernel
theorem dX11_image_57 : decode cX11_image 57 = .ok (.getfield 64, 3) := by decide +kernel
theorem dX11_image_60 : decode cX11_image 60 = .ok (.iload_n 1, 1) := by decide +kernel
theorem dX11_image_61 : decode cX11_image 61 = .ok (.iaload, 1) := by decide +kernel
theorem dX11_image_62 : decode cX11_image 62 = .ok (.iastore, 1) := by decide +kernel
theorem dX11_image_63 : decode cX11_image 63 = .ok (.iinc 1 1, 3) := by decide +kernel
theorem dX11_image_66 : decode cX11_image 66 = .ok (.goto (-21), 3) := by decide +kernel
theorem dX11_image_69 : decode cX11_image 69 = .ok (.aload_n 0, 1) := by decide +kernel
theorem dX11_image_70 : decode cX11_image 70 = .ok (.getfield 64, 3) := by decide +kernel
theorem dX11_image_73 : decode cX11_image 73 = .ok (.iconst 0, 1) := by decide +kernel
theorem dX11_image_74 : decode cX11_image 74 = .ok (.iaload, 1) := by decide +kernel
theorem dX11_image_75 : decode cX11_image 75 = .ok (.ireturn, 1) := by decide +kernel
theorem dX11_back_0 : decode cX11_back 0 = .ok (.aload_n 0, 1) := by decide +kernel
theorem dX11_back_1 : decode cX11_back 1 = .ok (.getfield 331, 3) := by decide +kernel
theorem dX11_back_4 : decode cX11_back 4 = .ok (.ifCond .ne 6, 3) := by decide +kernel
theorem dX11_back_7 : decode cX11_back 7 = .ok (.bipush (-5), 2) := by decide +kernel
theorem dX11_back_9 : decode cX11_back 9 = .ok (.ireturn, 1) := by decide +kernel
theorem dX11_back_10 : decode cX11_back 10 = .ok (.iconst 0, 1) := by decide +kernel
theorem dX11_back_11 : decode cX11_back 11 = .ok (.istore_n 1, 1) := by decide +kernel
theorem dX11_back_12 : decode cX11_back 12 = .ok (.iload_n 1, 1) := by decide +kernel
theorem dX11_back_13 : decode cX11_back 13 = .ok (.bipush 49, 2) := by decide +kernel
theorem dX11_back_15 : decode cX11_back 15 = .ok (.if_icmp .ge 33, 3) := by decide +kernel
theorem dX11_back_18 : decode cX11_back 18 = .ok (.aload_n 0, 1) := by decide +kernel
theorem dX11_back_19 : decode cX11_back 19 = .ok (.getfield 27, 3) := by decide +kernel
theorem dX11_back_22 : decode cX11_back 22 = .ok (.iload_n 1, 1) := by decide +kernel
theorem dX11_back_23 : decode cX11_back 23 = .ok (.aload_n 0, 1) := by decide +kernel
theorem dX11_back_24 : decode cX11_back 24 = .ok (.getfield 67, 3) := by decide +kernel
theorem dX11_back_27 : decode cX11_back 27 = .ok (.iload_n 1, 1) := by decide +kernel
theorem dX11_back_28 : decode cX11_back 28 = .ok (.iaload, 1) := by decide +kernel
theorem dX11_back_29 : decode cX11_back 29 = .ok (.iastore, 1) := by decide +kernel
theorem dX11_back_30 : decode cX11_back 30 = .ok (.aload_n 0, 1) := by decide +kernel
theorem dX11_back_31 : decode cX11_back 31 = .ok (.getfield 30, 3) := by decide +kernel
theorem dX11_back_34 : decode cX11_back 34 = .ok (.iload_n 1, 1) := by decide +kernel
