theorem dX11_bestScore_71 : decode cX11_bestScore 71 = .ok (.getfield 39, 3) := by decide +kernel
theorem dX11_bestScore_74 : decode cX11_bestScore 74 = .ok (.iconst 3, 1) := by decide +kernel
theorem dX11_bestScore_75 : decode cX11_bestScore 75 = .ok (.iaload, 1) := by decide +kernel
theorem dX11_bestScore_76 : decode cX11_bestScore 76 = .ok (.if_icmp .ge 54, 3) := by decide +kernel
theorem dX11_bestScore_79 : decode cX11_bestScore 79 = .ok (.aload_n 0, 1) := by decide +kernel
theorem dX11_bestScore_80 : decode cX11_bestScore 80 = .ok (.getfield 39, 3) := by decide +kernel
theorem dX11_bestScore_83 : decode cX11_bestScore 83 = .ok (.bipush 41, 2) := by decide +kernel
theorem dX11_bestScore_85 : decode cX11_bestScore 85 = .ok (.iload 6, 2) := by decide +kernel
theorem dX11_bestScore_87 : decode cX11_bestScore 87 = .ok (.iadd, 1) := by decide +kernel
theorem dX11_bestScore_88 : decode cX11_bestScore 88 = .ok (.dup2, 1) := by decide +kernel
theorem dX11_bestScore_89 : decode cX11_bestScore 89 = .ok (.iaload, 1) := by decide +kernel
theorem dX11_bestScore_90 : decode cX11_bestScore 90 = .ok (.iconst 1, 1) := by decide +kernel
theorem dX11_bestScore_91 : decode cX11_bestScore 91 = .ok (.iload 7, 2) := by decide +kernel
theorem dX11_bestScore_93 : decode cX11_bestScore 93 = .ok (.ishl, 1) := by decide +kernel
theorem dX11_bestScore_94 : decode cX11_bestScore 94 = .ok (.ixor, 1) := by decide +kernel
theorem dX11_bestScore_95 : decode cX11_bestScore 95 = .ok (.iastore, 1) := by decide +kernel
theorem dX11_bestScore_96 : decode cX11_bestScore 96 = .ok (.aload_n 0, 1) := by decide +kernel
theorem dX11_bestScore_97 : decode cX11_bestScore 97 = .ok (.iload_n 1, 1) := by decide +kernel
theorem dX11_bestScore_98 : decode cX11_bestScore 98 = .ok (.invokevirtual 400, 3) := by decide +kernel
theorem dX11_bestScore_101 : decode cX11_bestScore 101 = .ok (.istore 8, 2) := by decide +kernel
theorem dX11_bestScore_103 : decode cX11_bestScore 103 = .ok (.iload 8, 2) := by decide +kernel
theorem dX11_bestScore_105 : decode cX11_bestScore 105 = .ok (.iload 5, 2) := by decide +kernel
theorem dX11_bestScore_107 : decode cX11_bestScore 107 = .ok (.if_icmp .lt 6, 3) := by decide +kernel
theorem dX11_bestScore_110 : decode cX11_bestScore 110 = .ok (.goto 14, 3) := by decide +kernel
theorem dX11_bestScore_113 : decode cX11_bestScore 113 = .ok (.iload 6, 2) := by decide +kernel
theorem dX11_bestScore_115 : decode cX11_bestScore 115 = .ok (.istore_n 3, 1) := by decide +kernel
theorem dX11_bestScore_116 : decode cX11_bestScore 116 = .ok (.iload 7, 2) := by decide +kernel
theorem dX11_bestScore_118 : decode cX11_bestScore 118 = .ok (.istore 4, 2) := by decide +kernel
theorem dX11_bestScore_120 : decode cX11_bestScore 120 = .ok (.iload 8, 2) := by decide +kernel
theorem dX11_bestScore_122 : decode cX11_bestScore 122 = .ok (.istore 5, 2) := by decide +kernel
theorem dX11_bestScore_124 : decode cX11_bestScore 124 = .ok (.iinc 7 1, 3) := by decide +kernel
theorem dX11_bestScore_127 : decode cX11_bestScore 127 = .ok (.goto (-59), 3) := by decide +kernel
theorem dX11_bestScore_130 : decode cX11_bestScore 130 = .ok (.iinc 6 1, 3) := by decide +kernel
theorem dX11_bestScore_133 : decode cX11_bestScore 133 = .ok (.goto (-79), 3) := by decide +kernel
theorem dX11_bestScore_136 : decode cX11_bestScore 136 = .ok (.iload_n 2, 1) := by decide +kernel
theorem dX11_bestScore_137 : decode cX11_bestScore 137 = .ok (.ifCond .ne 8, 3) := by decide +kernel
theorem dX11_bestScore_140 : decode cX11_bestScore 140 = .ok (.iload 5, 2) := by decide +kernel
theorem dX11_bestScore_142 : decode cX11_bestScore 142 = .ok (.goto 14, 3) := by decide +kernel
theorem dX11_bestScore_145 : decode cX11_bestScore 145 = .ok (.iload_n 2, 1) := by decide +kernel
theorem dX11_bestScore_146 : decode cX11_bestScore 146 = .ok (.iconst 1, 1) := by decide +kernel
theorem dX11_bestScore_147 : decode cX11_bestScore 147 = .ok (.if_icmp .ne 7, 3) := by decide +kernel
theorem dX11_bestScore_150 : decode cX11_bestScore 150 = .ok (.iload_n 3, 1) := by decide +kernel
theorem dX11_bestScore_151 : decode cX11_bestScore 151 = .ok (.goto 5, 3) := by decide +kernel
theorem dX11_bestScore_154 : decode cX11_bestScore 154 = .ok (.iload 4, 2) := by decide +kernel
theorem dX11_bestScore_156 : decode cX11_bestScore 156 = .ok (.ireturn, 1) := by decide +kernel
theorem dX11_fillsRow_0 : decode cX11_fillsRow 0 = .ok (.iload_n 1, 1) := by decide +kernel
theorem dX11_fillsRow_1 : decode cX11_fillsRow 1 = .ok (.istore_n 3, 1) := by decide +kernel
theorem dX11_fillsRow_2 : decode cX11_fillsRow 2 = .ok (.iload_n 2, 1) := by decide +kernel
theorem dX11_fillsRow_3 : decode cX11_fillsRow 3 = .ok (.iconst 1, 1) := by decide +kernel
theorem dX11_fillsRow_4 : decode cX11_fillsRow 4 = .ok (.isub, 1) := by decide +kernel
theorem dX11_fillsRow_5 : decode cX11_fillsRow 5 = .ok (.istore 4, 2) := by decide +kernel
theorem dX11_fillsRow_7 : decode cX11_fillsRow 7 = .ok (.iload 4, 2) := by decide +kernel
theorem dX11_fillsRow_9 : decode cX11_fillsRow 9 = .ok (.ifCond .lt 53, 3) := by decide +kernel
theorem dX11_fillsRow_12 : decode cX11_fillsRow 12 = .ok (.aload_n 0, 1) := by decide +kernel
theorem dX11_fillsRow_13 : decode cX11_fillsRow 13 = .ok (.getfield 64, 3) := by decide +kernel
theorem dX11_fillsRow_16 : decode cX11_fillsRow 16 = .ok (.iload 4, 2) := by decide +kernel
theorem dX11_fillsRow_18 : decode cX11_fillsRow 18 = .ok (.iload_n 3, 1) := by decide +kernel
theorem dX11_fillsRow_19 : decode cX11_fillsRow 19 = .ok (.iconst 1, 1) := by decide +kernel
theorem dX11_fillsRow_20 : decode cX11_fillsRow 20 = .ok (.aload_n 0, 1) := by decide +kernel
theorem dX11_fillsRow_21 : decode cX11_fillsRow 21 = .ok (.getfield 39, 3) := by decide +kernel
theorem dX11_fillsRow_24 : decode cX11_fillsRow 24 = .ok (.iconst 3, 1) := by decide +kernel
theorem dX11_fillsRow_25 : decode cX11_fillsRow 25 = .ok (.iaload, 1) := by decide +kernel
theorem dX11_fillsRow_26 : decode cX11_fillsRow 26 = .ok (.ishl, 1) := by decide +kernel
theorem dX11_fillsRow_27 : decode cX11_fillsRow 27 = .ok (.irem, 1) := by decide +kernel
theorem dX11_fillsRow_28 : decode cX11_fillsRow 28 = .ok (.iastore, 1) := by decide +kernel
theorem dX11_fillsRow_29 : decode cX11_fillsRow 29 = .ok (.iload_n 3, 1) := by decide +kernel
theorem dX11_fillsRow_30 : decode cX11_fillsRow 30 = .ok (.iconst 1, 1) := by decide +kernel
theorem dX11_fillsRow_31 : decode cX11_fillsRow 31 = .ok (.aload_n 0, 1) := by decide +kernel
theorem dX11_fillsRow_32 : decode cX11_fillsRow 32 = .ok (.getfield 39, 3) := by decide +kernel
theorem dX11_fillsRow_35 : decode cX11_fillsRow 35 = .ok (.iconst 3, 1) := by decide +kernel
theorem dX11_fillsRow_36 : decode cX11_fillsRow 36 = .ok (.iaload, 1) := by decide +kernel
theorem dX11_fillsRow_37 : decode cX11_fillsRow 37 = .ok (.ishl, 1) := by decide +kernel
theorem dX11_fillsRow_38 : decode cX11_fillsRow 38 = .ok (.idiv, 1) := by decide +kernel
theorem dX11_fillsRow_39 : decode cX11_fillsRow 39 = .ok (.istore_n 3, 1) := by decide +kernel
theorem dX11_fillsRow_40 : decode cX11_fillsRow 40 = .ok (.aload_n 0, 1) := by decide +kernel
theorem dX11_fillsRow_41 : decode cX11_fillsRow 41 = .ok (.aload_n 0, 1) := by decide +kernel
theorem dX11_fillsRow_42 : decode cX11_fillsRow 42 = .ok (.getfield 64, 3) := by decide +kernel
theorem dX11_fillsRow_45 : decode cX11_fillsRow 45 = .ok (.iload 4, 2) := by decide +kernel
theorem dX11_fillsRow_47 : decode cX11_fillsRow 47 = .ok (.iaload, 1) := by decide +kernel
theorem dX11_fillsRow_48 : decode cX11_fillsRow 48 = .ok (.invokevirtual 385, 3) := by decide +kernel
theorem dX11_fillsRow_51 : decode cX11_fillsRow 51 = .ok (.ifCond .ne 5, 3) := by decide +kernel
theorem dX11_fillsRow_54 : decode cX11_fillsRow 54 = .ok (.iconst 0, 1) := by decide +kernel
theorem dX11_fillsRow_55 : decode cX11_fillsRow 55 = .ok (.ireturn, 1) := by decide +kernel
theorem dX11_fillsRow_56 : decode cX11_fillsRow 56 = .ok (.iinc 4 (-1), 3) := by decide +kernel
theorem dX11_fillsRow_59 : decode cX11_fillsRow 59 = .ok (.goto (-52), 3) := by decide +kernel
theorem dX11_fillsRow_62 : decode cX11_fillsRow 62 = .ok (.iconst 1, 1) := by decide +kernel
theorem dX11_fillsRow_63 : decode cX11_fillsRow 63 = .ok (.ireturn, 1) := by decide +kernel
theorem dX11_weighsRow_0 : decode cX11_weighsRow 0 = .ok (.iconst 0, 1) := by decide +kernel
theorem dX11_weighsRow_1 : decode cX11_weighsRow 1 = .ok (.istore_n 2, 1) := by decide +kernel
theorem dX11_weighsRow_2 : decode cX11_weighsRow 2 = .ok (.iload_n 2, 1) := by decide +kernel
theorem dX11_weighsRow_3 : decode cX11_weighsRow 3 = .ok (.iload_n 1, 1) := by decide +kernel
theorem dX11_weighsRow_4 : decode cX11_weighsRow 4 = .ok (.if_icmp .ge 24, 3) := by decide +kernel
theorem dX11_weighsRow_7 : decode cX11_weighsRow 7 = .ok (.aload_n 0, 1) := by decide +kernel
theorem dX11_weighsRow_8 : decode cX11_weighsRow 8 = .ok (.aload_n 0, 1) := by decide +kernel
theorem dX11_weighsRow_9 : decode cX11_weighsRow 9 = .ok (.getfield 64, 3) := by decide +kernel
theorem dX11_weighsRow_12 : decode cX11_weighsRow 12 = .ok (.iload_n 2, 1) := by decide +kernel
theorem dX11_weighsRow_13 : decode cX11_weighsRow 13 = .ok (.iaload, 1) := by decide +kernel
theorem dX11_weighsRow_14 : decode cX11_weighsRow 14 = .ok (.putfield 49, 3) := by decide +kernel
theorem dX11_weighsRow_17 : decode cX11_weighsRow 17 = .ok (.aload_n 0, 1) := by decide +kernel
theorem dX11_weighsRow_18 : decode cX11_weighsRow 18 = .ok (.invokevirtual 362, 3) := by decide +kernel
theorem dX11_weighsRow_21 : decode cX11_weighsRow 21 = .ok (.pop, 1) := by decide +kernel
theorem dX11_weighsRow_22 : decode cX11_weighsRow 22 = .ok (.iinc 2 1, 3) := by decide +kernel
theorem dX11_weighsRow_25 : decode cX11_weighsRow 25 = .ok (.goto (-23), 3) := by decide +kernel
theorem dX11_weighsRow_28 : decode cX11_weighsRow 28 = .ok (.aload_n 0, 1) := by decide +kernel
theorem dX11_weighsRow_29 : decode cX11_weighsRow 29 = .ok (.iconst (-1), 1) := by decide +kernel
theorem dX11_weighsRow_30 : decode cX11_weighsRow 30 = .ok (.putfield 49, 3) := by decide +kernel
theorem dX11_weighsRow_33 : decode cX11_weighsRow 33 = .ok (.aload_n 0, 1) := by decide +kernel
theorem dX11_weighsRow_34 : decode cX11_weighsRow 34 = .ok (.aload_n 0, 1) := by decide +kernel
theorem dX11_weighsRow_35 : decode cX11_weighsRow 35 = .ok (.iconst 3, 1) := by decide +kernel
theorem dX11_weighsRow_36 : decode cX11_weighsRow 36 = .ok (.invokevirtual 340, 3) := by decide +kernel
theorem dX11_weighsRow_39 : decode cX11_weighsRow 39 = .ok (.putfield 403, 3) := by decide +kernel
theorem dX11_weighsRow_42 : decode cX11_weighsRow 42 = .ok (.aload_n 0, 1) := by decide +kernel
theorem dX11_weighsRow_43 : decode cX11_weighsRow 43 = .ok (.aload_n 0, 1) := by decide +kernel
theorem dX11_weighsRow_44 : decode cX11_weighsRow 44 = .ok (.getfield 39, 3) := by decide +kernel
theorem dX11_weighsRow_47 : decode cX11_weighsRow 47 = .ok (.bipush 53, 2) := by decide +kernel
theorem dX11_weighsRow_49 : decode cX11_weighsRow 49 = .ok (.iaload, 1) := by decide +kernel
theorem dX11_weighsRow_50 : decode cX11_weighsRow 50 = .ok (.putfield 406, 3) := by decide +kernel
theorem dX11_weighsRow_53 : decode cX11_weighsRow 53 = .ok (.aload_n 0, 1) := by decide +kernel
theorem dX11_weighsRow_54 : decode cX11_weighsRow 54 = .ok (.invokevirtual 382, 3) := by decide +kernel
theorem dX11_weighsRow_57 : decode cX11_weighsRow 57 = .ok (.return_, 1) := by decide +kernel
theorem dX11_row_0 : decode cX11_row 0 = .ok (.aload_n 0, 1) := by decide +kernel
theorem dX11_row_1 : decode cX11_row 1 = .ok (.invokevirtual 294, 3) := by decide +kernel
theorem dX11_row_4 : decode cX11_row 4 = .ok (.ifCond .eq 27, 3) := by decide +kernel
theorem dX11_row_7 : decode cX11_row 7 = .ok (.iload_n 1, 1) := by decide +kernel
theorem dX11_row_8 : decode cX11_row 8 = .ok (.i2l, 1) := by decide +kernel
theorem dX11_row_9 : decode cX11_row 9 = .ok (.lconst 1, 1) := by decide +kernel
theorem dX11_row_10 : decode cX11_row 10 = .ok (.ldc2_w 409, 3) := by decide +kernel
theorem dX11_row_13 : decode cX11_row 13 = .ok (.invokestatic 130, 3) := by decide +kernel
theorem dX11_row_16 : decode cX11_row 16 = .ok (.ifCond .eq 15, 3) := by decide +kernel
theorem dX11_row_19 : decode cX11_row 19 = .ok (.iload_n 2, 1) := by decide +kernel
theorem dX11_row_20 : decode cX11_row 20 = .ok (.i2l, 1) := by decide +kernel
theorem dX11_row_21 : decode cX11_row 21 = .ok (.lconst 0, 1) := by decide +kernel
theorem dX11_row_22 : decode cX11_row 22 = .ok (.ldc2_w 411, 3) := by decide +kernel
theorem dX11_row_25 : decode cX11_row 25 = .ok (.invokestatic 130, 3) := by decide +kernel
theorem dX11_row_28 : decode cX11_row 28 = .ok (.ifCond .ne 7, 3) := by decide +kernel
theorem dX11_row_31 : decode cX11_row 31 = .ok (.sipush (-10000), 3) := by decide +kernel
theorem dX11_row_34 : decode cX11_row 34 = .ok (.ireturn, 1) := by decide +kernel
theorem dX11_row_35 : decode cX11_row 35 = .ok (.iconst (-1), 1) := by decide +kernel
theorem dX11_row_36 : decode cX11_row 36 = .ok (.istore_n 3, 1) := by decide +kernel
theorem dX11_row_37 : decode cX11_row 37 = .ok (.iconst 0, 1) := by decide +kernel
theorem dX11_row_38 : decode cX11_row 38 = .ok (.istore 4, 2) := by decide +kernel
theorem dX11_row_40 : decode cX11_row 40 = .ok (.iconst 0, 1) := by decide +kernel
theorem dX11_row_41 : decode cX11_row 41 = .ok (.istore 5, 2) := by decide +kernel
theorem dX11_row_43 : decode cX11_row 43 = .ok (.aload_n 0, 1) := by decide +kernel
theorem dX11_row_44 : decode cX11_row 44 = .ok (.invokevirtual 376, 3) := by decide +kernel
theorem dX11_row_47 : decode cX11_row 47 = .ok (.iconst 0, 1) := by decide +kernel
theorem dX11_row_48 : decode cX11_row 48 = .ok (.istore 6, 2) := by decide +kernel
theorem dX11_row_50 : decode cX11_row 50 = .ok (.iload 6, 2) := by decide +kernel
theorem dX11_row_52 : decode cX11_row 52 = .ok (.iconst 1, 1) := by decide +kernel
theorem dX11_row_53 : decode cX11_row 53 = .ok (.iload_n 1, 1) := by decide +kernel
theorem dX11_row_54 : decode cX11_row 54 = .ok (.aload_n 0, 1) := by decide +kernel
theorem dX11_row_55 : decode cX11_row 55 = .ok (.getfield 39, 3) := by decide +kernel
theorem dX11_row_58 : decode cX11_row 58 = .ok (.iconst 3, 1) := by decide +kernel
theorem dX11_row_59 : decode cX11_row 59 = .ok (.iaload, 1) := by decide +kernel
theorem dX11_row_60 : decode cX11_row 60 = .ok (.imul, 1) := by decide +kernel
theorem dX11_row_61 : decode cX11_row 61 = .ok (.ishl, 1) := by decide +kernel
theorem dX11_row_62 : decode cX11_row 62 = .ok (.if_icmp .ge 76, 3) := by decide +kernel
theorem dX11_row_65 : decode cX11_row 65 = .ok (.aload_n 0, 1) := by decide +kernel
theorem dX11_row_66 : decode cX11_row 66 = .ok (.iload 6, 2) := by decide +kernel
theorem dX11_row_68 : decode cX11_row 68 = .ok (.iload_n 1, 1) := by decide +kernel
theorem dX11_row_69 : decode cX11_row 69 = .ok (.invokevirtual 413, 3) := by decide +kernel
theorem dX11_row_72 : decode cX11_row 72 = .ok (.ifCond .ne 6, 3) := by decide +kernel
theorem dX11_row_75 : decode cX11_row 75 = .ok (.goto 57, 3) := by decide +kernel
theorem dX11_row_78 : decode cX11_row 78 = .ok (.aload_n 0, 1) := by decide +kernel
theorem dX11_row_79 : decode cX11_row 79 = .ok (.iload_n 1, 1) := by decide +kernel
theorem dX11_row_80 : decode cX11_row 80 = .ok (.invokevirtual 416, 3) := by decide +kernel
theorem dX11_row_83 : decode cX11_row 83 = .ok (.iload_n 3, 1) := by decide +kernel
theorem dX11_row_84 : decode cX11_row 84 = .ok (.ifCond .lt 33, 3) := by decide +kernel
theorem dX11_row_87 : decode cX11_row 87 = .ok (.aload_n 0, 1) := by decide +kernel
theorem dX11_row_88 : decode cX11_row 88 = .ok (.getfield 403, 3) := by decide +kernel
theorem dX11_row_91 : decode cX11_row 91 = .ok (.iload 4, 2) := by decide +kernel
theorem dX11_row_93 : decode cX11_row 93 = .ok (.if_icmp .gt 39, 3) := by decide +kernel
theorem dX11_row_96 : decode cX11_row 96 = .ok (.aload_n 0, 1) := by decide +kernel
theorem dX11_row_97 : decode cX11_row 97 = .ok (.getfield 403, 3) := by decide +kernel
theorem dX11_row_100 : decode cX11_row 100 = .ok (.iload 4, 2) := by decide +kernel
theorem dX11_row_102 : decode cX11_row 102 = .ok (.if_icmp .ne 15, 3) := by decide +kernel
theorem dX11_row_105 : decode cX11_row 105 = .ok (.aload_n 0, 1) := by decide +kernel
theorem dX11_row_106 : decode cX11_row 106 = .ok (.getfield 406, 3) := by decide +kernel
theorem dX11_row_109 : decode cX11_row 109 = .ok (.iload 5, 2) := by decide +kernel
theorem dX11_row_111 : decode cX11_row 111 = .ok (.if_icmp .gt 6, 3) := by decide +kernel
theorem dX11_row_114 : decode cX11_row 114 = .ok (.goto 18, 3) := by decide +kernel
theorem dX11_row_117 : decode cX11_row 117 = .ok (.iload 6, 2) := by decide +kernel
theorem dX11_row_119 : decode cX11_row 119 = .ok (.istore_n 3, 1) := by decide +kernel
theorem dX11_row_120 : decode cX11_row 120 = .ok (.aload_n 0, 1) := by decide +kernel
theorem dX11_row_121 : decode cX11_row 121 = .ok (.getfield 403, 3) := by decide +kernel
theorem dX11_row_124 : decode cX11_row 124 = .ok (.istore 4, 2) := by decide +kernel
theorem dX11_row_126 : decode cX11_row 126 = .ok (.aload_n 0, 1) := by decide +kernel
theorem dX11_row_127 : decode cX11_row 127 = .ok (.getfield 406, 3) := by decide +kernel
theorem dX11_row_130 : decode cX11_row 130 = .ok (.istore 5, 2) := by decide +kernel
theorem dX11_row_132 : decode cX11_row 132 = .ok (.iinc 6 1, 3) := by decide +kernel
theorem dX11_row_135 : decode cX11_row 135 = .ok (.goto (-85), 3) := by decide +kernel
theorem dX11_row_138 : decode cX11_row 138 = .ok (.aload_n 0, 1) := by decide +kernel
theorem dX11_row_139 : decode cX11_row 139 = .ok (.iload_n 3, 1) := by decide +kernel
theorem dX11_row_140 : decode cX11_row 140 = .ok (.iload_n 1, 1) := by decide +kernel
theorem dX11_row_141 : decode cX11_row 141 = .ok (.invokevirtual 413, 3) := by decide +kernel
theorem dX11_row_144 : decode cX11_row 144 = .ok (.pop, 1) := by decide +kernel
theorem dX11_row_145 : decode cX11_row 145 = .ok (.iload_n 2, 1) := by decide +kernel
theorem dX11_row_146 : decode cX11_row 146 = .ok (.ifCond .ne 8, 3) := by decide +kernel
theorem dX11_row_149 : decode cX11_row 149 = .ok (.iload 4, 2) := by decide +kernel
theorem dX11_row_151 : decode cX11_row 151 = .ok (.goto 33, 3) := by decide +kernel
theorem dX11_row_154 : decode cX11_row 154 = .ok (.iload_n 2, 1) := by decide +kernel
theorem dX11_row_155 : decode cX11_row 155 = .ok (.iconst 1, 1) := by decide +kernel
theorem dX11_row_156 : decode cX11_row 156 = .ok (.if_icmp .ne 8, 3) := by decide +kernel
theorem dX11_row_159 : decode cX11_row 159 = .ok (.iload 5, 2) := by decide +kernel
theorem dX11_row_161 : decode cX11_row 161 = .ok (.goto 23, 3) := by decide +kernel
theorem dX11_row_164 : decode cX11_row 164 = .ok (.iload_n 2, 1) := by decide +kernel
theorem dX11_row_165 : decode cX11_row 165 = .ok (.iconst 2, 1) := by decide +kernel
theorem dX11_row_166 : decode cX11_row 166 = .ok (.isub, 1) := by decide +kernel
theorem dX11_row_167 : decode cX11_row 167 = .ok (.iload_n 1, 1) := by decide +kernel
theorem dX11_row_168 : decode cX11_row 168 = .ok (.if_icmp .ge 14, 3) := by decide +kernel
theorem dX11_row_171 : decode cX11_row 171 = .ok (.aload_n 0, 1) := by decide +kernel
theorem dX11_row_172 : decode cX11_row 172 = .ok (.getfield 64, 3) := by decide +kernel
theorem dX11_row_175 : decode cX11_row 175 = .ok (.iload_n 2, 1) := by decide +kernel
theorem dX11_row_176 : decode cX11_row 176 = .ok (.iconst 2, 1) := by decide +kernel
theorem dX11_row_177 : decode cX11_row 177 = .ok (.isub, 1) := by decide +kernel
theorem dX11_row_178 : decode cX11_row 178 = .ok (.iaload, 1) := by decide +kernel
theorem dX11_row_179 : decode cX11_row 179 = .ok (.goto 5, 3) := by decide +kernel
theorem dX11_row_182 : decode cX11_row 182 = .ok (.bipush (-2), 2) := by decide +kernel
theorem dX11_row_184 : decode cX11_row 184 = .ok (.ireturn, 1) := by decide +kernel
theorem dX11_isAnyCrowd_0 : decode cX11_isAnyCrowd 0 = .ok (.iconst 0, 1) := by decide +kernel
theorem dX11_isAnyCrowd_1 : decode cX11_isAnyCrowd 1 = .ok (.istore_n 1, 1) := by decide +kernel
theorem dX11_isAnyCrowd_2 : decode cX11_isAnyCrowd 2 = .ok (.iload_n 1, 1) := by decide +kernel
theorem dX11_isAnyCrowd_3 : decode cX11_isAnyCrowd 3 = .ok (.aload_n 0, 1) := by decide +kernel
theorem dX11_isAnyCrowd_4 : decode cX11_isAnyCrowd 4 = .ok (.getfield 39, 3) := by decide +kernel
theorem dX11_isAnyCrowd_7 : decode cX11_isAnyCrowd 7 = .ok (.iconst 3, 1) := by decide +kernel
theorem dX11_isAnyCrowd_8 : decode cX11_isAnyCrowd 8 = .ok (.iaload, 1) := by decide +kernel
theorem dX11_isAnyCrowd_9 : decode cX11_isAnyCrowd 9 = .ok (.if_icmp .ge 21, 3) := by decide +kernel
theorem dX11_isAnyCrowd_12 : decode cX11_isAnyCrowd 12 = .ok (.aload_n 0, 1) := by decide +kernel
theorem dX11_isAnyCrowd_13 : decode cX11_isAnyCrowd 13 = .ok (.iload_n 1, 1) := by decide +kernel
theorem dX11_isAnyCrowd_14 : decode cX11_isAnyCrowd 14 = .ok (.invokevirtual 312, 3) := by decide +kernel
theorem dX11_isAnyCrowd_17 : decode cX11_isAnyCrowd 17 = .ok (.bipush 20, 2) := by decide +kernel
theorem dX11_isAnyCrowd_19 : decode cX11_isAnyCrowd 19 = .ok (.if_icmp .le 5, 3) := by decide +kernel
theorem dX11_isAnyCrowd_22 : decode cX11_isAnyCrowd 22 = .ok (.iconst 1, 1) := by decide +kernel
theorem dX11_isAnyCrowd_23 : decode cX11_isAnyCrowd 23 = .ok (.ireturn, 1) := by decide +kernel
theorem dX11_isAnyCrowd_24 : decode cX11_isAnyCrowd 24 = .ok (.iinc 1 1, 3) := by decide +kernel
theorem dX11_isAnyCrowd_27 : decode cX11_isAnyCrowd 27 = .ok (.goto (-25), 3) := by decide +kernel
theorem dX11_isAnyCrowd_30 : decode cX11_isAnyCrowd 30 = .ok (.iconst 0, 1) := by decide +kernel
theorem dX11_isAnyCrowd_31 : decode cX11_isAnyCrowd 31 = .ok (.ireturn, 1) := by decide +kernel
theorem dX11_leastRoom_0 : decode cX11_leastRoom 0 = .ok (.aload_n 0, 1) := by decide +kernel
theorem dX11_leastRoom_1 : decode cX11_leastRoom 1 = .ok (.invokevirtual 294, 3) := by decide +kernel
theorem dX11_leastRoom_4 : decode cX11_leastRoom 4 = .ok (.ifCond .eq 15, 3) := by decide +kernel
theorem dX11_leastRoom_7 : decode cX11_leastRoom 7 = .ok (.iload_n 1, 1) := by decide +kernel
theorem dX11_leastRoom_8 : decode cX11_leastRoom 8 = .ok (.i2l, 1) := by decide +kernel
theorem dX11_leastRoom_9 : decode cX11_leastRoom 9 = .ok (.lconst 1, 1) := by decide +kernel
theorem dX11_leastRoom_10 : decode cX11_leastRoom 10 = .ok (.ldc2_w 419, 3) := by decide +kernel
theorem dX11_leastRoom_13 : decode cX11_leastRoom 13 = .ok (.invokestatic 130, 3) := by decide +kernel
theorem dX11_leastRoom_16 : decode cX11_leastRoom 16 = .ok (.ifCond .ne 5, 3) := by decide +kernel
theorem dX11_leastRoom_19 : decode cX11_leastRoom 19 = .ok (.iconst (-1), 1) := by decide +kernel
theorem dX11_leastRoom_20 : decode cX11_leastRoom 20 = .ok (.ireturn, 1) := by decide +kernel
theorem dX11_leastRoom_21 : decode cX11_leastRoom 21 = .ok (.aload_n 0, 1) := by decide +kernel
theorem dX11_leastRoom_22 : decode cX11_leastRoom 22 = .ok (.getfield 39, 3) := by decide +kernel
theorem dX11_leastRoom_25 : decode cX11_leastRoom 25 = .ok (.iconst 2, 1) := by decide +kernel
theorem dX11_leastRoom_26 : decode cX11_leastRoom 26 = .ok (.iaload, 1) := by decide +kernel
theorem dX11_leastRoom_27 : decode cX11_leastRoom 27 = .ok (.istore_n 2, 1) := by decide +kernel
theorem dX11_leastRoom_28 : decode cX11_leastRoom 28 = .ok (.bipush (-2), 2) := by decide +kernel
theorem dX11_leastRoom_30 : decode cX11_leastRoom 30 = .ok (.istore_n 3, 1) := by decide +kernel
theorem dX11_leastRoom_31 : decode cX11_leastRoom 31 = .ok (.aload_n 0, 1) := by decide +kernel
theorem dX11_leastRoom_32 : decode cX11_leastRoom 32 = .ok (.invokevirtual 376, 3) := by decide +kernel
theorem dX11_leastRoom_35 : decode cX11_leastRoom 35 = .ok (.iconst 1, 1) := by decide +kernel
theorem dX11_leastRoom_36 : decode cX11_leastRoom 36 = .ok (.istore 4, 2) := by decide +kernel
theorem dX11_leastRoom_38 : decode cX11_leastRoom 38 = .ok (.iload 4, 2) := by decide +kernel
theorem dX11_leastRoom_40 : decode cX11_leastRoom 40 = .ok (.bipush 9, 2) := by decide +kernel
theorem dX11_leastRoom_42 : decode cX11_leastRoom 42 = .ok (.if_icmp .gt 75, 3) := by decide +kernel
theorem dX11_leastRoom_45 : decode cX11_leastRoom 45 = .ok (.iload_n 3, 1) := by decide +kernel
theorem dX11_leastRoom_46 : decode cX11_leastRoom 46 = .ok (.ifCond .ge 71, 3) := by decide +kernel
theorem dX11_leastRoom_49 : decode cX11_leastRoom 49 = .ok (.iconst 1, 1) := by decide +kernel
theorem dX11_leastRoom_50 : decode cX11_leastRoom 50 = .ok (.istore 5, 2) := by decide +kernel
theorem dX11_leastRoom_52 : decode cX11_leastRoom 52 = .ok (.aload_n 0, 1) := by decide +kernel
theorem dX11_leastRoom_53 : decode cX11_leastRoom 53 = .ok (.getfield 39, 3) := by decide +kernel
theorem dX11_leastRoom_56 : decode cX11_leastRoom 56 = .ok (.iconst 2, 1) := by decide +kernel
theorem dX11_leastRoom_57 : decode cX11_leastRoom 57 = .ok (.iload 4, 2) := by decide +kernel
theorem dX11_leastRoom_59 : decode cX11_leastRoom 59 = .ok (.iastore, 1) := by decide +kernel
theorem dX11_leastRoom_60 : decode cX11_leastRoom 60 = .ok (.iconst 0, 1) := by decide +kernel
theorem dX11_leastRoom_61 : decode cX11_leastRoom 61 = .ok (.istore 6, 2) := by decide +kernel
theorem dX11_leastRoom_63 : decode cX11_leastRoom 63 = .ok (.iload 6, 2) := by decide +kernel
theorem dX11_leastRoom_65 : decode cX11_leastRoom 65 = .ok (.iload_n 1, 1) := by decide +kernel
theorem dX11_leastRoom_66 : decode cX11_leastRoom 66 = .ok (.if_icmp .ge 33, 3) := by decide +kernel
theorem dX11_leastRoom_69 : decode cX11_leastRoom 69 = .ok (.aload_n 0, 1) := by decide +kernel
theorem dX11_leastRoom_70 : decode cX11_leastRoom 70 = .ok (.invokevirtual 362, 3) := by decide +kernel
theorem dX11_leastRoom_73 : decode cX11_leastRoom 73 = .ok (.pop, 1) := by decide +kernel
theorem dX11_leastRoom_74 : decode cX11_leastRoom 74 = .ok (.iload 5, 2) := by decide +kernel
theorem dX11_leastRoom_76 : decode cX11_leastRoom 76 = .ok (.ifCond .eq 14, 3) := by decide +kernel
theorem dX11_leastRoom_79 : decode cX11_leastRoom 79 = .ok (.aload_n 0, 1) := by decide +kernel
theorem dX11_leastRoom_80 : decode cX11_leastRoom 80 = .ok (.invokevirtual 421, 3) := by decide +kernel
theorem dX11_leastRoom_83 : decode cX11_leastRoom 83 = .ok (.ifCond .ne 7, 3) := by decide +kernel
theorem dX11_leastRoom_86 : decode cX11_leastRoom 86 = .ok (.iconst 1, 1) := by decide +kernel
theorem dX11_leastRoom_87 : decode cX11_leastRoom 87 = .ok (.goto 4, 3) := by decide +kernel
theorem dX11_leastRoom_90 : decode cX11_leastRoom 90 = .ok (.iconst 0, 1) := by decide +kernel
theorem dX11_leastRoom_91 : decode cX11_leastRoom 91 = .ok (.istore 5, 2) := by decide +kernel
theorem dX11_leastRoom_93 : decode cX11_leastRoom 93 = .ok (.iinc 6 1, 3) := by decide +kernel
theorem dX11_leastRoom_96 : decode cX11_leastRoom 96 = .ok (.goto (-33), 3) := by decide +kernel
theorem dX11_leastRoom_99 : decode cX11_leastRoom 99 = .ok (.iload 5, 2) := by decide +kernel
theorem dX11_leastRoom_101 : decode cX11_leastRoom 101 = .ok (.ifCond .eq 6, 3) := by decide +kernel
theorem dX11_leastRoom_104 : decode cX11_leastRoom 104 = .ok (.iload 4, 2) := by decide +kernel
theorem dX11_leastRoom_106 : decode cX11_leastRoom 106 = .ok (.istore_n 3, 1) := by decide +kernel
theorem dX11_leastRoom_107 : decode cX11_leastRoom 107 = .ok (.aload_n 0, 1) := by decide +kernel
theorem dX11_leastRoom_108 : decode cX11_leastRoom 108 = .ok (.invokevirtual 382, 3) := by decide +kernel
theorem dX11_leastRoom_111 : decode cX11_leastRoom 111 = .ok (.iinc 4 1, 3) := by decide +kernel
theorem dX11_leastRoom_114 : decode cX11_leastRoom 114 = .ok (.goto (-76), 3) := by decide +kernel
theorem dX11_leastRoom_117 : decode cX11_leastRoom 117 = .ok (.aload_n 0, 1) := by decide +kernel
theorem dX11_leastRoom_118 : decode cX11_leastRoom 118 = .ok (.getfield 39, 3) := by decide +kernel
theorem dX11_leastRoom_121 : decode cX11_leastRoom 121 = .ok (.iconst 2, 1) := by decide +kernel
theorem dX11_leastRoom_122 : decode cX11_leastRoom 122 = .ok (.iload_n 2, 1) := by decide +kernel
theorem dX11_leastRoom_123 : decode cX11_leastRoom 123 = .ok (.iastore, 1) := by decide +kernel
theorem dX11_leastRoom_124 : decode cX11_leastRoom 124 = .ok (.iload_n 3, 1) := by decide +kernel
theorem dX11_leastRoom_125 : decode cX11_leastRoom 125 = .ok (.ireturn, 1) := by decide +kernel
theorem dX11_shut_0 : decode cX11_shut 0 = .ok (.aload_n 0, 1) := by decide +kernel
theorem dX11_shut_1 : decode cX11_shut 1 = .ok (.invokevirtual 294, 3) := by decide +kernel
theorem dX11_shut_4 : decode cX11_shut 4 = .ok (.ifCond .eq 25, 3) := by decide +kernel
theorem dX11_shut_7 : decode cX11_shut 7 = .ok (.iload_n 1, 1) := by decide +kernel
theorem dX11_shut_8 : decode cX11_shut 8 = .ok (.i2l, 1) := by decide +kernel
theorem dX11_shut_9 : decode cX11_shut 9 = .ok (.lconst 1, 1) := by decide +kernel
theorem dX11_shut_10 : decode cX11_shut 10 = .ok (.ldc2_w 419, 3) := by decide +kernel
theorem dX11_shut_13 : decode cX11_shut 13 = .ok (.invokestatic 130, 3) := by decide +kernel
theorem dX11_shut_16 : decode cX11_shut 16 = .ok (.ifCond .eq 13, 3) := by decide +kernel
theorem dX11_shut_19 : decode cX11_shut 19 = .ok (.iload_n 2, 1) := by decide +kernel
theorem dX11_shut_20 : decode cX11_shut 20 = .ok (.i2l, 1) := by decide +kernel
theorem dX11_shut_21 : decode cX11_shut 21 = .ok (.lconst 0, 1) := by decide +kernel
theorem dX11_shut_22 : decode cX11_shut 22 = .ok (.lconst 1, 1) := by decide +kernel
theorem dX11_shut_23 : decode cX11_shut 23 = .ok (.invokestatic 130, 3) := by decide +kernel
theorem dX11_shut_26 : decode cX11_shut 26 = .ok (.ifCond .ne 6, 3) := by decide +kernel
theorem dX11_shut_29 : decode cX11_shut 29 = .ok (.bipush (-2), 2) := by decide +kernel
theorem dX11_shut_31 : decode cX11_shut 31 = .ok (.ireturn, 1) := by decide +kernel
theorem dX11_shut_32 : decode cX11_shut 32 = .ok (.aload_n 0, 1) := by decide +kernel
theorem dX11_shut_33 : decode cX11_shut 33 = .ok (.invokevirtual 376, 3) := by decide +kernel
theorem dX11_shut_36 : decode cX11_shut 36 = .ok (.iconst (-1), 1) := by decide +kernel
theorem dX11_shut_37 : decode cX11_shut 37 = .ok (.istore_n 3, 1) := by decide +kernel
theorem dX11_shut_38 : decode cX11_shut 38 = .ok (.aload_n 0, 1) := by decide +kernel
theorem dX11_shut_39 : decode cX11_shut 39 = .ok (.iload_n 1, 1) := by decide +kernel
theorem dX11_shut_40 : decode cX11_shut 40 = .ok (.invokevirtual 400, 3) := by decide +kernel
theorem dX11_shut_43 : decode cX11_shut 43 = .ok (.istore 4, 2) := by decide +kernel
theorem dX11_shut_45 : decode cX11_shut 45 = .ok (.iconst 0, 1) := by decide +kernel
theorem dX11_shut_46 : decode cX11_shut 46 = .ok (.istore 5, 2) := by decide +kernel
theorem dX11_shut_48 : decode cX11_shut 48 = .ok (.iload 5, 2) := by decide +kernel
theorem dX11_shut_50 : decode cX11_shut 50 = .ok (.aload_n 0, 1) := by decide +kernel
theorem dX11_shut_51 : decode cX11_shut 51 = .ok (.getfield 39, 3) := by decide +kernel
theorem dX11_shut_54 : decode cX11_shut 54 = .ok (.iconst 3, 1) := by decide +kernel
theorem dX11_shut_55 : decode cX11_shut 55 = .ok (.iaload, 1) := by decide +kernel
theorem dX11_shut_56 : decode cX11_shut 56 = .ok (.if_icmp .ge 67, 3) := by decide +kernel
theorem dX11_shut_59 : decode cX11_shut 59 = .ok (.aload_n 0, 1) := by decide +kernel
theorem dX11_shut_60 : decode cX11_shut 60 = .ok (.iload 5, 2) := by decide +kernel
theorem dX11_shut_62 : decode cX11_shut 62 = .ok (.putfield 46, 3) := by decide +kernel
theorem dX11_shut_65 : decode cX11_shut 65 = .ok (.aload_n 0, 1) := by decide +kernel
theorem dX11_shut_66 : decode cX11_shut 66 = .ok (.getfield 39, 3) := by decide +kernel
theorem dX11_shut_69 : decode cX11_shut 69 = .ok (.bipush 11, 2) := by decide +kernel
theorem dX11_shut_71 : decode cX11_shut 71 = .ok (.iconst 5, 1) := by decide +kernel
theorem dX11_shut_72 : decode cX11_shut 72 = .ok (.iload 5, 2) := by decide +kernel
theorem dX11_shut_74 : decode cX11_shut 74 = .ok (.imul, 1) := by decide +kernel
theorem dX11_shut_75 : decode cX11_shut 75 = .ok (.iadd, 1) := by decide +kernel
theorem dX11_shut_76 : decode cX11_shut 76 = .ok (.iconst 0, 1) := by decide +kernel
theorem dX11_shut_77 : decode cX11_shut 77 = .ok (.iastore, 1) := by decide +kernel
theorem dX11_shut_78 : decode cX11_shut 78 = .ok (.aload_n 0, 1) := by decide +kernel
theorem dX11_shut_79 : decode cX11_shut 79 = .ok (.getfield 39, 3) := by decide +kernel
theorem dX11_shut_82 : decode cX11_shut 82 = .ok (.bipush 11, 2) := by decide +kernel
theorem dX11_shut_84 : decode cX11_shut 84 = .ok (.iconst 5, 1) := by decide +kernel
theorem dX11_shut_85 : decode cX11_shut 85 = .ok (.iload 5, 2) := by decide +kernel
theorem dX11_shut_87 : decode cX11_shut 87 = .ok (.imul, 1) := by decide +kernel
theorem dX11_shut_88 : decode cX11_shut 88 = .ok (.iadd, 1) := by decide +kernel
theorem dX11_shut_89 : decode cX11_shut 89 = .ok (.iconst 3, 1) := by decide +kernel
theorem dX11_shut_90 : decode cX11_shut 90 = .ok (.iadd, 1) := by decide +kernel
theorem dX11_shut_91 : decode cX11_shut 91 = .ok (.iconst 0, 1) := by decide +kernel
theorem dX11_shut_92 : decode cX11_shut 92 = .ok (.iastore, 1) := by decide +kernel
theorem dX11_shut_93 : decode cX11_shut 93 = .ok (.aload_n 0, 1) := by decide +kernel
theorem dX11_shut_94 : decode cX11_shut 94 = .ok (.iload_n 1, 1) := by decide +kernel
theorem dX11_shut_95 : decode cX11_shut 95 = .ok (.invokevirtual 400, 3) := by decide +kernel
theorem dX11_shut_98 : decode cX11_shut 98 = .ok (.istore 6, 2) := by decide +kernel
theorem dX11_shut_100 : decode cX11_shut 100 = .ok (.iload 6, 2) := by decide +kernel
theorem dX11_shut_102 : decode cX11_shut 102 = .ok (.iload 4, 2) := by decide +kernel
theorem dX11_shut_104 : decode cX11_shut 104 = .ok (.if_icmp .lt 6, 3) := by decide +kernel
theorem dX11_shut_107 : decode cX11_shut 107 = .ok (.goto 10, 3) := by decide +kernel
theorem dX11_shut_110 : decode cX11_shut 110 = .ok (.iload 5, 2) := by decide +kernel
theorem dX11_shut_112 : decode cX11_shut 112 = .ok (.istore_n 3, 1) := by decide +kernel
theorem dX11_shut_113 : decode cX11_shut 113 = .ok (.iload 6, 2) := by decide +kernel
theorem dX11_shut_115 : decode cX11_shut 115 = .ok (.istore 4, 2) := by decide +kernel
theorem dX11_shut_117 : decode cX11_shut 117 = .ok (.iinc 5 1, 3) := by decide +kernel
theorem dX11_shut_120 : decode cX11_shut 120 = .ok (.goto (-72), 3) := by decide +kernel
theorem dX11_shut_123 : decode cX11_shut 123 = .ok (.aload_n 0, 1) := by decide +kernel
theorem dX11_shut_124 : decode cX11_shut 124 = .ok (.iconst (-1), 1) := by decide +kernel
theorem dX11_shut_125 : decode cX11_shut 125 = .ok (.putfield 46, 3) := by decide +kernel
theorem dX11_shut_128 : decode cX11_shut 128 = .ok (.iload_n 2, 1) := by decide +kernel
theorem dX11_shut_129 : decode cX11_shut 129 = .ok (.ifCond .ne 7, 3) := by decide +kernel
theorem dX11_shut_132 : decode cX11_shut 132 = .ok (.iload_n 3, 1) := by decide +kernel
theorem dX11_shut_133 : decode cX11_shut 133 = .ok (.goto 5, 3) := by decide +kernel
theorem dX11_shut_136 : decode cX11_shut 136 = .ok (.iload 4, 2) := by decide +kernel
theorem dX11_shut_138 : decode cX11_shut 138 = .ok (.ireturn, 1) := by decide +kernel
theorem dX11_longest_0 : decode cX11_longest 0 = .ok (.aload_n 0, 1) := by decide +kernel
theorem dX11_longest_1 : decode cX11_longest 1 = .ok (.invokevirtual 294, 3) := by decide +kernel
theorem dX11_longest_4 : decode cX11_longest 4 = .ok (.ifCond .eq 27, 3) := by decide +kernel
theorem dX11_longest_7 : decode cX11_longest 7 = .ok (.iload_n 1, 1) := by decide +kernel
theorem dX11_longest_8 : decode cX11_longest 8 = .ok (.i2l, 1) := by decide +kernel
theorem dX11_longest_9 : decode cX11_longest 9 = .ok (.lconst 1, 1) := by decide +kernel
theorem dX11_longest_10 : decode cX11_longest 10 = .ok (.ldc2_w 372, 3) := by decide +kernel
theorem dX11_longest_13 : decode cX11_longest 13 = .ok (.invokestatic 130, 3) := by decide +kernel
theorem dX11_longest_16 : decode cX11_longest 16 = .ok (.ifCond .eq 15, 3) := by decide +kernel
theorem dX11_longest_19 : decode cX11_longest 19 = .ok (.iload_n 2, 1) := by decide +kernel
theorem dX11_longest_20 : decode cX11_longest 20 = .ok (.i2l, 1) := by decide +kernel
theorem dX11_longest_21 : decode cX11_longest 21 = .ok (.lconst 0, 1) := by decide +kernel
theorem dX11_longest_22 : decode cX11_longest 22 = .ok (.ldc2_w 374, 3) := by decide +kernel
theorem dX11_longest_25 : decode cX11_longest 25 = .ok (.invokestatic 130, 3) := by decide +kernel
theorem dX11_longest_28 : decode cX11_longest 28 = .ok (.ifCond .ne 5, 3) := by decide +kernel
theorem dX11_longest_31 : decode cX11_longest 31 = .ok (.iconst (-1), 1) := by decide +kernel
theorem dX11_longest_32 : decode cX11_longest 32 = .ok (.ireturn, 1) := by decide +kernel
theorem dX11_longest_33 : decode cX11_longest 33 = .ok (.iconst (-1), 1) := by decide +kernel
theorem dX11_longest_34 : decode cX11_longest 34 = .ok (.istore_n 3, 1) := by decide +kernel
theorem dX11_longest_35 : decode cX11_longest 35 = .ok (.bipush (-2), 2) := by decide +kernel
theorem dX11_longest_37 : decode cX11_longest 37 = .ok (.istore 4, 2) := by decide +kernel
theorem dX11_longest_39 : decode cX11_longest 39 = .ok (.bipush (-2), 2) := by decide +kernel
theorem dX11_longest_41 : decode cX11_longest 41 = .ok (.istore 5, 2) := by decide +kernel
theorem dX11_longest_43 : decode cX11_longest 43 = .ok (.aload_n 0, 1) := by decide +kernel
theorem dX11_longest_44 : decode cX11_longest 44 = .ok (.invokevirtual 376, 3) := by decide +kernel
theorem dX11_longest_47 : decode cX11_longest 47 = .ok (.iconst 0, 1) := by decide +kernel
theorem dX11_longest_48 : decode cX11_longest 48 = .ok (.istore 6, 2) := by decide +kernel
theorem dX11_longest_50 : decode cX11_longest 50 = .ok (.iload 6, 2) := by decide +kernel
theorem dX11_longest_52 : decode cX11_longest 52 = .ok (.iload_n 1, 1) := by decide +kernel
theorem dX11_longest_53 : decode cX11_longest 53 = .ok (.if_icmp .ge 69, 3) := by decide +kernel
theorem dX11_longest_56 : decode cX11_longest 56 = .ok (.aload_n 0, 1) := by decide +kernel
theorem dX11_longest_57 : decode cX11_longest 57 = .ok (.invokevirtual 362, 3) := by decide +kernel
theorem dX11_longest_60 : decode cX11_longest 60 = .ok (.pop, 1) := by decide +kernel
theorem dX11_longest_61 : decode cX11_longest 61 = .ok (.iconst 0, 1) := by decide +kernel
theorem dX11_longest_62 : decode cX11_longest 62 = .ok (.istore 7, 2) := by decide +kernel
theorem dX11_longest_64 : decode cX11_longest 64 = .ok (.iload 7, 2) := by decide +kernel
theorem dX11_longest_66 : decode cX11_longest 66 = .ok (.aload_n 0, 1) := by decide +kernel
theorem dX11_longest_67 : decode cX11_longest 67 = .ok (.getfield 39, 3) := by decide +kernel
theorem dX11_longest_70 : decode cX11_longest 70 = .ok (.iconst 3, 1) := by decide +kernel
theorem dX11_longest_71 : decode cX11_longest 71 = .ok (.iaload, 1) := by decide +kernel
theorem dX11_longest_72 : decode cX11_longest 72 = .ok (.if_icmp .ge 44, 3) := by decide +kernel
theorem dX11_longest_75 : decode cX11_longest 75 = .ok (.aload_n 0, 1) := by decide +kernel
theorem dX11_longest_76 : decode cX11_longest 76 = .ok (.iload 7, 2) := by decide +kernel
theorem dX11_longest_78 : decode cX11_longest 78 = .ok (.invokevirtual 312, 3) := by decide +kernel
theorem dX11_longest_81 : decode cX11_longest 81 = .ok (.iload_n 3, 1) := by decide +kernel
theorem dX11_longest_82 : decode cX11_longest 82 = .ok (.if_icmp .gt 6, 3) := by decide +kernel
theorem dX11_longest_85 : decode cX11_longest 85 = .ok (.goto 25, 3) := by decide +kernel
theorem dX11_longest_88 : decode cX11_longest 88 = .ok (.aload_n 0, 1) := by decide +kernel
theorem dX11_longest_89 : decode cX11_longest 89 = .ok (.iload 7, 2) := by decide +kernel
theorem dX11_longest_91 : decode cX11_longest 91 = .ok (.invokevirtual 312, 3) := by decide +kernel
theorem dX11_longest_94 : decode cX11_longest 94 = .ok (.istore_n 3, 1) := by decide +kernel
theorem dX11_longest_95 : decode cX11_longest 95 = .ok (.aload_n 0, 1) := by decide +kernel
theorem dX11_longest_96 : decode cX11_longest 96 = .ok (.getfield 39, 3) := by decide +kernel
theorem dX11_longest_99 : decode cX11_longest 99 = .ok (.bipush 10, 2) := by decide +kernel
theorem dX11_longest_101 : decode cX11_longest 101 = .ok (.iaload, 1) := by decide +kernel
theorem dX11_longest_102 : decode cX11_longest 102 = .ok (.iconst 1, 1) := by decide +kernel
theorem dX11_longest_103 : decode cX11_longest 103 = .ok (.isub, 1) := by decide +kernel
theorem dX11_longest_104 : decode cX11_longest 104 = .ok (.istore 4, 2) := by decide +kernel
theorem dX11_longest_106 : decode cX11_longest 106 = .ok (.iload 7, 2) := by decide +kernel
theorem dX11_longest_108 : decode cX11_longest 108 = .ok (.istore 5, 2) := by decide +kernel
theorem dX11_longest_110 : decode cX11_longest 110 = .ok (.iinc 7 1, 3) := by decide +kernel
theorem dX11_longest_113 : decode cX11_longest 113 = .ok (.goto (-49), 3) := by decide +kernel
theorem dX11_longest_116 : decode cX11_longest 116 = .ok (.iinc 6 1, 3) := by decide +kernel
theorem dX11_longest_119 : decode cX11_longest 119 = .ok (.goto (-69), 3) := by decide +kernel
theorem dX11_longest_122 : decode cX11_longest 122 = .ok (.aload_n 0, 1) := by decide +kernel
theorem dX11_longest_123 : decode cX11_longest 123 = .ok (.invokevirtual 382, 3) := by decide +kernel
theorem dX11_longest_126 : decode cX11_longest 126 = .ok (.iload_n 2, 1) := by decide +kernel
theorem dX11_longest_127 : decode cX11_longest 127 = .ok (.ifCond .ne 15, 3) := by decide +kernel
theorem dX11_longest_130 : decode cX11_longest 130 = .ok (.iload_n 3, 1) := by decide +kernel
theorem dX11_longest_131 : decode cX11_longest 131 = .ok (.ifCond .ge 7, 3) := by decide +kernel
theorem dX11_longest_134 : decode cX11_longest 134 = .ok (.iconst 0, 1) := by decide +kernel
theorem dX11_longest_135 : decode cX11_longest 135 = .ok (.goto 19, 3) := by decide +kernel
theorem dX11_longest_138 : decode cX11_longest 138 = .ok (.iload_n 3, 1) := by decide +kernel
theorem dX11_longest_139 : decode cX11_longest 139 = .ok (.goto 15, 3) := by decide +kernel
theorem dX11_longest_142 : decode cX11_longest 142 = .ok (.iload_n 2, 1) := by decide +kernel
theorem dX11_longest_143 : decode cX11_longest 143 = .ok (.iconst 1, 1) := by decide +kernel
theorem dX11_longest_144 : decode cX11_longest 144 = .ok (.if_icmp .ne 8, 3) := by decide +kernel
theorem dX11_longest_147 : decode cX11_longest 147 = .ok (.iload 4, 2) := by decide +kernel
theorem dX11_longest_149 : decode cX11_longest 149 = .ok (.goto 5, 3) := by decide +kernel
theorem dX11_longest_152 : decode cX11_longest 152 = .ok (.iload 5, 2) := by decide +kernel
theorem dX11_longest_154 : decode cX11_longest 154 = .ok (.ireturn, 1) := by decide +kernel
theorem dX11_isAlone_0 : decode cX11_isAlone 0 = .ok (.iconst 0, 1) := by decide +kernel
theorem dX11_isAlone_1 : decode cX11_isAlone 1 = .ok (.istore_n 2, 1) := by decide +kernel
theorem dX11_isAlone_2 : decode cX11_isAlone 2 = .ok (.iload_n 2, 1) := by decide +kernel
theorem dX11_isAlone_3 : decode cX11_isAlone 3 = .ok (.aload_n 0, 1) := by decide +kernel
theorem dX11_isAlone_4 : decode cX11_isAlone 4 = .ok (.getfield 39, 3) := by decide +kernel
theorem dX11_isAlone_7 : decode cX11_isAlone 7 = .ok (.iconst 3, 1) := by decide +kernel
theorem dX11_isAlone_8 : decode cX11_isAlone 8 = .ok (.iaload, 1) := by decide +kernel
theorem dX11_isAlone_9 : decode cX11_isAlone 9 = .ok (.if_icmp .ge 38, 3) := by decide +kernel
theorem dX11_isAlone_12 : decode cX11_isAlone 12 = .ok (.iload_n 2, 1) := by decide +kernel
theorem dX11_isAlone_13 : decode cX11_isAlone 13 = .ok (.iload_n 1, 1) := by decide +kernel
theorem dX11_isAlone_14 : decode cX11_isAlone 14 = .ok (.if_icmp .ne 7, 3) := by decide +kernel
theorem dX11_isAlone_17 : decode cX11_isAlone 17 = .ok (.iconst 1, 1) := by decide +kernel
theorem dX11_isAlone_18 : decode cX11_isAlone 18 = .ok (.goto 4, 3) := by decide +kernel
theorem dX11_isAlone_21 : decode cX11_isAlone 21 = .ok (.iconst 0, 1) := by decide +kernel
theorem dX11_isAlone_22 : decode cX11_isAlone 22 = .ok (.aload_n 0, 1) := by decide +kernel
theorem dX11_isAlone_23 : decode cX11_isAlone 23 = .ok (.getfield 52, 3) := by decide +kernel
theorem dX11_isAlone_26 : decode cX11_isAlone 26 = .ok (.iload_n 2, 1) := by decide +kernel
theorem dX11_isAlone_27 : decode cX11_isAlone 27 = .ok (.iaload, 1) := by decide +kernel
theorem dX11_isAlone_28 : decode cX11_isAlone 28 = .ok (.ifCond .le 7, 3) := by decide +kernel
theorem dX11_isAlone_31 : decode cX11_isAlone 31 = .ok (.iconst 1, 1) := by decide +kernel
theorem dX11_isAlone_32 : decode cX11_isAlone 32 = .ok (.goto 4, 3) := by decide +kernel
theorem dX11_isAlone_35 : decode cX11_isAlone 35 = .ok (.iconst 0, 1) := by decide +kernel
theorem dX11_isAlone_36 : decode cX11_isAlone 36 = .ok (.if_icmp .eq 5, 3) := by decide +kernel
theorem dX11_isAlone_39 : decode cX11_isAlone 39 = .ok (.iconst 0, 1) := by decide +kernel
theorem dX11_isAlone_40 : decode cX11_isAlone 40 = .ok (.ireturn, 1) := by decide +kernel
theorem dX11_isAlone_41 : decode cX11_isAlone 41 = .ok (.iinc 2 1, 3) := by decide +kernel
theorem dX11_isAlone_44 : decode cX11_isAlone 44 = .ok (.goto (-42), 3) := by decide +kernel
theorem dX11_isAlone_47 : decode cX11_isAlone 47 = .ok (.iconst 1, 1) := by decide +kernel
theorem dX11_isAlone_48 : decode cX11_isAlone 48 = .ok (.ireturn, 1) := by decide +kernel
theorem dX11_cadenza_0 : decode cX11_cadenza 0 = .ok (.aload_n 0, 1) := by decide +kernel
theorem dX11_cadenza_1 : decode cX11_cadenza 1 = .ok (.iload_n 1, 1) := by decide +kernel
theorem dX11_cadenza_2 : decode cX11_cadenza 2 = .ok (.invokevirtual 309, 3) := by decide +kernel
theorem dX11_cadenza_5 : decode cX11_cadenza 5 = .ok (.ifCond .ne 5, 3) := by decide +kernel
theorem dX11_cadenza_8 : decode cX11_cadenza 8 = .ok (.iconst (-1), 1) := by decide +kernel
theorem dX11_cadenza_9 : decode cX11_cadenza 9 = .ok (.ireturn, 1) := by decide +kernel
theorem dX11_cadenza_10 : decode cX11_cadenza 10 = .ok (.bipush (-2), 2) := by decide +kernel
theorem dX11_cadenza_12 : decode cX11_cadenza 12 = .ok (.istore_n 2, 1) := by decide +kernel
theorem dX11_cadenza_13 : decode cX11_cadenza 13 = .ok (.aload_n 0, 1) := by decide +kernel
theorem dX11_cadenza_14 : decode cX11_cadenza 14 = .ok (.invokevirtual 376, 3) := by decide +kernel
theorem dX11_cadenza_17 : decode cX11_cadenza 17 = .ok (.iconst 0, 1) := by decide +kernel
theorem dX11_cadenza_18 : decode cX11_cadenza 18 = .ok (.istore_n 3, 1) := by decide +kernel
theorem dX11_cadenza_19 : decode cX11_cadenza 19 = .ok (.iload_n 3, 1) := by decide +kernel
theorem dX11_cadenza_20 : decode cX11_cadenza 20 = .ok (.sipush 200, 3) := by decide +kernel
theorem dX11_cadenza_23 : decode cX11_cadenza 23 = .ok (.if_icmp .ge 36, 3) := by decide +kernel
theorem dX11_cadenza_26 : decode cX11_cadenza 26 = .ok (.iload_n 2, 1) := by decide +kernel
theorem dX11_cadenza_27 : decode cX11_cadenza 27 = .ok (.ifCond .ge 32, 3) := by decide +kernel
theorem dX11_cadenza_30 : decode cX11_cadenza 30 = .ok (.aload_n 0, 1) := by decide +kernel
theorem dX11_cadenza_31 : decode cX11_cadenza 31 = .ok (.invokevirtual 362, 3) := by decide +kernel
theorem dX11_cadenza_34 : decode cX11_cadenza 34 = .ok (.pop, 1) := by decide +kernel
theorem dX11_cadenza_35 : decode cX11_cadenza 35 = .ok (.aload_n 0, 1) := by decide +kernel
theorem dX11_cadenza_36 : decode cX11_cadenza 36 = .ok (.iload_n 1, 1) := by decide +kernel
theorem dX11_cadenza_37 : decode cX11_cadenza 37 = .ok (.invokevirtual 424, 3) := by decide +kernel
theorem dX11_cadenza_40 : decode cX11_cadenza 40 = .ok (.ifCond .eq 13, 3) := by decide +kernel
theorem dX11_cadenza_43 : decode cX11_cadenza 43 = .ok (.aload_n 0, 1) := by decide +kernel
theorem dX11_cadenza_44 : decode cX11_cadenza 44 = .ok (.getfield 39, 3) := by decide +kernel
theorem dX11_cadenza_47 : decode cX11_cadenza 47 = .ok (.bipush 10, 2) := by decide +kernel
theorem dX11_cadenza_49 : decode cX11_cadenza 49 = .ok (.iaload, 1) := by decide +kernel
theorem dX11_cadenza_50 : decode cX11_cadenza 50 = .ok (.iconst 1, 1) := by decide +kernel
theorem dX11_cadenza_51 : decode cX11_cadenza 51 = .ok (.isub, 1) := by decide +kernel
theorem dX11_cadenza_52 : decode cX11_cadenza 52 = .ok (.istore_n 2, 1) := by decide +kernel
theorem dX11_cadenza_53 : decode cX11_cadenza 53 = .ok (.iinc 3 1, 3) := by decide +kernel
theorem dX11_cadenza_56 : decode cX11_cadenza 56 = .ok (.goto (-37), 3) := by decide +kernel
theorem dX11_cadenza_59 : decode cX11_cadenza 59 = .ok (.aload_n 0, 1) := by decide +kernel
theorem dX11_cadenza_60 : decode cX11_cadenza 60 = .ok (.invokevirtual 382, 3) := by decide +kernel
theorem dX11_cadenza_63 : decode cX11_cadenza 63 = .ok (.iload_n 2, 1) := by decide +kernel
theorem dX11_cadenza_64 : decode cX11_cadenza 64 = .ok (.ireturn, 1) := by decide +kernel
theorem dX11_isRest_0 : decode cX11_isRest 0 = .ok (.iconst 0, 1) := by decide +kernel
theorem dX11_isRest_1 : decode cX11_isRest 1 = .ok (.istore_n 3, 1) := by decide +kernel
theorem dX11_isRest_2 : decode cX11_isRest 2 = .ok (.iload_n 3, 1) := by decide +kernel
theorem dX11_isRest_3 : decode cX11_isRest 3 = .ok (.iconst 5, 1) := by decide +kernel
theorem dX11_isRest_4 : decode cX11_isRest 4 = .ok (.if_icmp .ge 69, 3) := by decide +kernel
theorem dX11_isRest_7 : decode cX11_isRest 7 = .ok (.aload_n 0, 1) := by decide +kernel
theorem dX11_isRest_8 : decode cX11_isRest 8 = .ok (.getfield 67, 3) := by decide +kernel
theorem dX11_isRest_11 : decode cX11_isRest 11 = .ok (.iconst 2, 1) := by decide +kernel
theorem dX11_isRest_12 : decode cX11_isRest 12 = .ok (.iconst 5, 1) := by decide +kernel
theorem dX11_isRest_13 : decode cX11_isRest 13 = .ok (.iload_n 3, 1) := by decide +kernel
theorem dX11_isRest_14 : decode cX11_isRest 14 = .ok (.imul, 1) := by decide +kernel
theorem dX11_isRest_15 : decode cX11_isRest 15 = .ok (.iload_n 2, 1) := by decide +kernel
theorem dX11_isRest_16 : decode cX11_isRest 16 = .ok (.iadd, 1) := by decide +kernel
theorem dX11_isRest_17 : decode cX11_isRest 17 = .ok (.imul, 1) := by decide +kernel
theorem dX11_isRest_18 : decode cX11_isRest 18 = .ok (.iaload, 1) := by decide +kernel
theorem dX11_isRest_19 : decode cX11_isRest 19 = .ok (.aload_n 0, 1) := by decide +kernel
theorem dX11_isRest_20 : decode cX11_isRest 20 = .ok (.getfield 67, 3) := by decide +kernel
theorem dX11_isRest_23 : decode cX11_isRest 23 = .ok (.iconst 2, 1) := by decide +kernel
theorem dX11_isRest_24 : decode cX11_isRest 24 = .ok (.iconst 5, 1) := by decide +kernel
theorem dX11_isRest_25 : decode cX11_isRest 25 = .ok (.iload_n 1, 1) := by decide +kernel
theorem dX11_isRest_26 : decode cX11_isRest 26 = .ok (.imul, 1) := by decide +kernel
theorem dX11_isRest_27 : decode cX11_isRest 27 = .ok (.iload_n 2, 1) := by decide +kernel
theorem dX11_isRest_28 : decode cX11_isRest 28 = .ok (.iadd, 1) := by decide +kernel
theorem dX11_isRest_29 : decode cX11_isRest 29 = .ok (.imul, 1) := by decide +kernel
theorem dX11_isRest_30 : decode cX11_isRest 30 = .ok (.iaload, 1) := by decide +kernel
theorem dX11_isRest_31 : decode cX11_isRest 31 = .ok (.if_icmp .gt 34, 3) := by decide +kernel
theorem dX11_isRest_34 : decode cX11_isRest 34 = .ok (.aload_n 0, 1) := by decide +kernel
theorem dX11_isRest_35 : decode cX11_isRest 35 = .ok (.getfield 67, 3) := by decide +kernel
theorem dX11_isRest_38 : decode cX11_isRest 38 = .ok (.iconst 2, 1) := by decide +kernel
theorem dX11_isRest_39 : decode cX11_isRest 39 = .ok (.iconst 5, 1) := by decide +kernel
theorem dX11_isRest_40 : decode cX11_isRest 40 = .ok (.iload_n 1, 1) := by decide +kernel
theorem dX11_isRest_41 : decode cX11_isRest 41 = .ok (.imul, 1) := by decide +kernel
theorem dX11_isRest_42 : decode cX11_isRest 42 = .ok (.iload_n 3, 1) := by decide +kernel
theorem dX11_isRest_43 : decode cX11_isRest 43 = .ok (.iadd, 1) := by decide +kernel
theorem dX11_isRest_44 : decode cX11_isRest 44 = .ok (.imul, 1) := by decide +kernel
theorem dX11_isRest_45 : decode cX11_isRest 45 = .ok (.iconst 1, 1) := by decide +kernel
theorem dX11_isRest_46 : decode cX11_isRest 46 = .ok (.iadd, 1) := by decide +kernel
theorem dX11_isRest_47 : decode cX11_isRest 47 = .ok (.iaload, 1) := by decide +kernel
theorem dX11_isRest_48 : decode cX11_isRest 48 = .ok (.aload_n 0, 1) := by decide +kernel
theorem dX11_isRest_49 : decode cX11_isRest 49 = .ok (.getfield 67, 3) := by decide +kernel
theorem dX11_isRest_52 : decode cX11_isRest 52 = .ok (.iconst 2, 1) := by decide +kernel
theorem dX11_isRest_53 : decode cX11_isRest 53 = .ok (.iconst 5, 1) := by decide +kernel
theorem dX11_isRest_54 : decode cX11_isRest 54 = .ok (.iload_n 1, 1) := by decide +kernel
theorem dX11_isRest_55 : decode cX11_isRest 55 = .ok (.imul, 1) := by decide +kernel
theorem dX11_isRest_56 : decode cX11_isRest 56 = .ok (.iload_n 2, 1) := by decide +kernel
theorem dX11_isRest_57 : decode cX11_isRest 57 = .ok (.iadd, 1) := by decide +kernel
theorem dX11_isRest_58 : decode cX11_isRest 58 = .ok (.imul, 1) := by decide +kernel
theorem dX11_isRest_59 : decode cX11_isRest 59 = .ok (.iconst 1, 1) := by decide +kernel
theorem dX11_isRest_60 : decode cX11_isRest 60 = .ok (.iadd, 1) := by decide +kernel
theorem dX11_isRest_61 : decode cX11_isRest 61 = .ok (.iaload, 1) := by decide +kernel
theorem dX11_isRest_62 : decode cX11_isRest 62 = .ok (.if_icmp .le 5, 3) := by decide +kernel
theorem dX11_isRest_65 : decode cX11_isRest 65 = .ok (.iconst 0, 1) := by decide +kernel
theorem dX11_isRest_66 : decode cX11_isRest 66 = .ok (.ireturn, 1) := by decide +kernel
theorem dX11_isRest_67 : decode cX11_isRest 67 = .ok (.iinc 3 1, 3) := by decide +kernel
theorem dX11_isRest_70 : decode cX11_isRest 70 = .ok (.goto (-68), 3) := by decide +kernel
theorem dX11_isRest_73 : decode cX11_isRest 73 = .ok (.iconst 1, 1) := by decide +kernel
theorem dX11_isRest_74 : decode cX11_isRest 74 = .ok (.ireturn, 1) := by decide +kernel
theorem dX11_hasThen_0 : decode cX11_hasThen 0 = .ok (.aload_n 0, 1) := by decide +kernel
theorem dX11_hasThen_1 : decode cX11_hasThen 1 = .ok (.iload_n 1, 1) := by decide +kernel
theorem dX11_hasThen_2 : decode cX11_hasThen 2 = .ok (.invokevirtual 315, 3) := by decide +kernel
theorem dX11_hasThen_5 : decode cX11_hasThen 5 = .ok (.iload_n 2, 1) := by decide +kernel
theorem dX11_hasThen_6 : decode cX11_hasThen 6 = .ok (.isub, 1) := by decide +kernel
theorem dX11_hasThen_7 : decode cX11_hasThen 7 = .ok (.aload_n 0, 1) := by decide +kernel
theorem dX11_hasThen_8 : decode cX11_hasThen 8 = .ok (.iload_n 1, 1) := by decide +kernel
theorem dX11_hasThen_9 : decode cX11_hasThen 9 = .ok (.invokevirtual 312, 3) := by decide +kernel
theorem dX11_hasThen_12 : decode cX11_hasThen 12 = .ok (.iconst 3, 1) := by decide +kernel
theorem dX11_hasThen_13 : decode cX11_hasThen 13 = .ok (.idiv, 1) := by decide +kernel
theorem dX11_hasThen_14 : decode cX11_hasThen 14 = .ok (.isub, 1) := by decide +kernel
theorem dX11_hasThen_15 : decode cX11_hasThen 15 = .ok (.ireturn, 1) := by decide +kernel
theorem dX11_fillsRests_0 : decode cX11_fillsRests 0 = .ok (.aload_n 0, 1) := by decide +kernel
theorem dX11_fillsRests_1 : decode cX11_fillsRests 1 = .ok (.getfield 39, 3) := by decide +kernel
theorem dX11_fillsRests_4 : decode cX11_fillsRests 4 = .ok (.bipush 54, 2) := by decide +kernel
theorem dX11_fillsRests_6 : decode cX11_fillsRests 6 = .ok (.iload_n 1, 1) := by decide +kernel
theorem dX11_fillsRests_7 : decode cX11_fillsRests 7 = .ok (.iadd, 1) := by decide +kernel
theorem dX11_fillsRests_8 : decode cX11_fillsRests 8 = .ok (.iaload, 1) := by decide +kernel
theorem dX11_fillsRests_9 : decode cX11_fillsRests 9 = .ok (.istore 4, 2) := by decide +kernel
theorem dX11_fillsRests_11 : decode cX11_fillsRests 11 = .ok (.aload_n 0, 1) := by decide +kernel
theorem dX11_fillsRests_12 : decode cX11_fillsRests 12 = .ok (.getfield 39, 3) := by decide +kernel
theorem dX11_fillsRests_15 : decode cX11_fillsRests 15 = .ok (.bipush 54, 2) := by decide +kernel
theorem dX11_fillsRests_17 : decode cX11_fillsRests 17 = .ok (.iload_n 2, 1) := by decide +kernel
theorem dX11_fillsRests_18 : decode cX11_fillsRests 18 = .ok (.iadd, 1) := by decide +kernel
theorem dX11_fillsRests_19 : decode cX11_fillsRests 19 = .ok (.iaload, 1) := by decide +kernel
theorem dX11_fillsRests_20 : decode cX11_fillsRests 20 = .ok (.istore 5, 2) := by decide +kernel
theorem dX11_fillsRests_22 : decode cX11_fillsRests 22 = .ok (.aload_n 0, 1) := by decide +kernel
theorem dX11_fillsRests_23 : decode cX11_fillsRests 23 = .ok (.iload_n 1, 1) := by decide +kernel
theorem dX11_fillsRests_24 : decode cX11_fillsRests 24 = .ok (.invokevirtual 315, 3) := by decide +kernel
theorem dX11_fillsRests_27 : decode cX11_fillsRests 27 = .ok (.istore 6, 2) := by decide +kernel
theorem dX11_fillsRests_29 : decode cX11_fillsRests 29 = .ok (.aload_n 0, 1) := by decide +kernel
theorem dX11_fillsRests_30 : decode cX11_fillsRests 30 = .ok (.iload_n 2, 1) := by decide +kernel
theorem dX11_fillsRests_31 : decode cX11_fillsRests 31 = .ok (.invokevirtual 315, 3) := by decide +kernel
theorem dX11_fillsRests_34 : decode cX11_fillsRests 34 = .ok (.istore 7, 2) := by decide +kernel
theorem dX11_fillsRests_36 : decode cX11_fillsRests 36 = .ok (.aload_n 0, 1) := by decide +kernel
theorem dX11_fillsRests_37 : decode cX11_fillsRests 37 = .ok (.invokevirtual 376, 3) := by decide +kernel
theorem dX11_fillsRests_40 : decode cX11_fillsRests 40 = .ok (.iconst 0, 1) := by decide +kernel
theorem dX11_fillsRests_41 : decode cX11_fillsRests 41 = .ok (.istore 8, 2) := by decide +kernel
theorem dX11_fillsRests_43 : decode cX11_fillsRests 43 = .ok (.iload 8, 2) := by decide +kernel
theorem dX11_fillsRests_45 : decode cX11_fillsRests 45 = .ok (.bipush 25, 2) := by decide +kernel
theorem dX11_fillsRests_47 : decode cX11_fillsRests 47 = .ok (.if_icmp .ge 86, 3) := by decide +kernel
theorem dX11_fillsRests_50 : decode cX11_fillsRests 50 = .ok (.aload_n 0, 1) := by decide +kernel
theorem dX11_fillsRests_51 : decode cX11_fillsRests 51 = .ok (.getfield 39, 3) := by decide +kernel
theorem dX11_fillsRests_54 : decode cX11_fillsRests 54 = .ok (.bipush 54, 2) := by decide +kernel
theorem dX11_fillsRests_56 : decode cX11_fillsRests 56 = .ok (.iload_n 1, 1) := by decide +kernel
theorem dX11_fillsRests_57 : decode cX11_fillsRests 57 = .ok (.iadd, 1) := by decide +kernel
theorem dX11_fillsRests_58 : decode cX11_fillsRests 58 = .ok (.iconst 1, 1) := by decide +kernel
theorem dX11_fillsRests_59 : decode cX11_fillsRests 59 = .ok (.iconst 2, 1) := by decide +kernel
theorem dX11_fillsRests_60 : decode cX11_fillsRests 60 = .ok (.iload 8, 2) := by decide +kernel
theorem dX11_fillsRests_62 : decode cX11_fillsRests 62 = .ok (.iconst 5, 1) := by decide +kernel
theorem dX11_fillsRests_63 : decode cX11_fillsRests 63 = .ok (.idiv, 1) := by decide +kernel
theorem dX11_fillsRests_64 : decode cX11_fillsRests 64 = .ok (.imul, 1) := by decide +kernel
theorem dX11_fillsRests_65 : decode cX11_fillsRests 65 = .ok (.iadd, 1) := by decide +kernel
theorem dX11_fillsRests_66 : decode cX11_fillsRests 66 = .ok (.iastore, 1) := by decide +kernel
theorem dX11_fillsRests_67 : decode cX11_fillsRests 67 = .ok (.aload_n 0, 1) := by decide +kernel
theorem dX11_fillsRests_68 : decode cX11_fillsRests 68 = .ok (.getfield 39, 3) := by decide +kernel
theorem dX11_fillsRests_71 : decode cX11_fillsRests 71 = .ok (.bipush 54, 2) := by decide +kernel
theorem dX11_fillsRests_73 : decode cX11_fillsRests 73 = .ok (.iload_n 2, 1) := by decide +kernel
theorem dX11_fillsRests_74 : decode cX11_fillsRests 74 = .ok (.iadd, 1) := by decide +kernel
theorem dX11_fillsRests_75 : decode cX11_fillsRests 75 = .ok (.iconst 1, 1) := by decide +kernel
theorem dX11_fillsRests_76 : decode cX11_fillsRests 76 = .ok (.iconst 2, 1) := by decide +kernel
theorem dX11_fillsRests_77 : decode cX11_fillsRests 77 = .ok (.iload 8, 2) := by decide +kernel
theorem dX11_fillsRests_79 : decode cX11_fillsRests 79 = .ok (.iconst 5, 1) := by decide +kernel
theorem dX11_fillsRests_80 : decode cX11_fillsRests 80 = .ok (.irem, 1) := by decide +kernel
theorem dX11_fillsRests_81 : decode cX11_fillsRests 81 = .ok (.imul, 1) := by decide +kernel
theorem dX11_fillsRests_82 : decode cX11_fillsRests 82 = .ok (.iadd, 1) := by decide +kernel
theorem dX11_fillsRests_83 : decode cX11_fillsRests 83 = .ok (.iastore, 1) := by decide +kernel
theorem dX11_fillsRests_84 : decode cX11_fillsRests 84 = .ok (.aload_n 0, 1) := by decide +kernel
theorem dX11_fillsRests_85 : decode cX11_fillsRests 85 = .ok (.iload_n 3, 1) := by decide +kernel
theorem dX11_fillsRests_86 : decode cX11_fillsRests 86 = .ok (.invokevirtual 379, 3) := by decide +kernel
theorem dX11_fillsRests_89 : decode cX11_fillsRests 89 = .ok (.aload_n 0, 1) := by decide +kernel
theorem dX11_fillsRests_90 : decode cX11_fillsRests 90 = .ok (.getfield 67, 3) := by decide +kernel
theorem dX11_fillsRests_93 : decode cX11_fillsRests 93 = .ok (.iconst 2, 1) := by decide +kernel
theorem dX11_fillsRests_94 : decode cX11_fillsRests 94 = .ok (.iload 8, 2) := by decide +kernel
theorem dX11_fillsRests_96 : decode cX11_fillsRests 96 = .ok (.imul, 1) := by decide +kernel
theorem dX11_fillsRests_97 : decode cX11_fillsRests 97 = .ok (.aload_n 0, 1) := by decide +kernel
theorem dX11_fillsRests_98 : decode cX11_fillsRests 98 = .ok (.iload_n 1, 1) := by decide +kernel
theorem dX11_fillsRests_99 : decode cX11_fillsRests 99 = .ok (.iload 6, 2) := by decide +kernel
theorem dX11_fillsRests_101 : decode cX11_fillsRests 101 = .ok (.invokevirtual 427, 3) := by decide +kernel
theorem dX11_fillsRests_104 : decode cX11_fillsRests 104 = .ok (.iastore, 1) := by decide +kernel
theorem dX11_fillsRests_105 : decode cX11_fillsRests 105 = .ok (.aload_n 0, 1) := by decide +kernel
theorem dX11_fillsRests_106 : decode cX11_fillsRests 106 = .ok (.getfield 67, 3) := by decide +kernel
theorem dX11_fillsRests_109 : decode cX11_fillsRests 109 = .ok (.iconst 2, 1) := by decide +kernel
theorem dX11_fillsRests_110 : decode cX11_fillsRests 110 = .ok (.iload 8, 2) := by decide +kernel
theorem dX11_fillsRests_112 : decode cX11_fillsRests 112 = .ok (.imul, 1) := by decide +kernel
theorem dX11_fillsRests_113 : decode cX11_fillsRests 113 = .ok (.iconst 1, 1) := by decide +kernel
theorem dX11_fillsRests_114 : decode cX11_fillsRests 114 = .ok (.iadd, 1) := by decide +kernel
theorem dX11_fillsRests_115 : decode cX11_fillsRests 115 = .ok (.aload_n 0, 1) := by decide +kernel
theorem dX11_fillsRests_116 : decode cX11_fillsRests 116 = .ok (.iload_n 2, 1) := by decide +kernel
theorem dX11_fillsRests_117 : decode cX11_fillsRests 117 = .ok (.iload 7, 2) := by decide +kernel
theorem dX11_fillsRests_119 : decode cX11_fillsRests 119 = .ok (.invokevirtual 427, 3) := by decide +kernel
theorem dX11_fillsRests_122 : decode cX11_fillsRests 122 = .ok (.iastore, 1) := by decide +kernel
theorem dX11_fillsRests_123 : decode cX11_fillsRests 123 = .ok (.aload_n 0, 1) := by decide +kernel
theorem dX11_fillsRests_124 : decode cX11_fillsRests 124 = .ok (.invokevirtual 382, 3) := by decide +kernel
theorem dX11_fillsRests_127 : decode cX11_fillsRests 127 = .ok (.iinc 8 1, 3) := by decide +kernel
theorem dX11_fillsRests_130 : decode cX11_fillsRests 130 = .ok (.goto (-87), 3) := by decide +kernel
theorem dX11_fillsRests_133 : decode cX11_fillsRests 133 = .ok (.aload_n 0, 1) := by decide +kernel
theorem dX11_fillsRests_134 : decode cX11_fillsRests 134 = .ok (.getfield 39, 3) := by decide +kernel
theorem dX11_fillsRests_137 : decode cX11_fillsRests 137 = .ok (.bipush 54, 2) := by decide +kernel
theorem dX11_fillsRests_139 : decode cX11_fillsRests 139 = .ok (.iload_n 1, 1) := by decide +kernel
theorem dX11_fillsRests_140 : decode cX11_fillsRests 140 = .ok (.iadd, 1) := by decide +kernel
theorem dX11_fillsRests_141 : decode cX11_fillsRests 141 = .ok (.iload 4, 2) := by decide +kernel
theorem dX11_fillsRests_143 : decode cX11_fillsRests 143 = .ok (.iastore, 1) := by decide +kernel
theorem dX11_fillsRests_144 : decode cX11_fillsRests 144 = .ok (.aload_n 0, 1) := by decide +kernel
theorem dX11_fillsRests_145 : decode cX11_fillsRests 145 = .ok (.getfield 39, 3) := by decide +kernel
theorem dX11_fillsRests_148 : decode cX11_fillsRests 148 = .ok (.bipush 54, 2) := by decide +kernel
theorem dX11_fillsRests_150 : decode cX11_fillsRests 150 = .ok (.iload_n 2, 1) := by decide +kernel
theorem dX11_fillsRests_151 : decode cX11_fillsRests 151 = .ok (.iadd, 1) := by decide +kernel
theorem dX11_fillsRests_152 : decode cX11_fillsRests 152 = .ok (.iload 5, 2) := by decide +kernel
theorem dX11_fillsRests_154 : decode cX11_fillsRests 154 = .ok (.iastore, 1) := by decide +kernel
theorem dX11_fillsRests_155 : decode cX11_fillsRests 155 = .ok (.return_, 1) := by decide +kernel
theorem dX11_rests_0 : decode cX11_rests 0 = .ok (.aload_n 0, 1) := by decide +kernel
theorem dX11_rests_1 : decode cX11_rests 1 = .ok (.iload_n 1, 1) := by decide +kernel
theorem dX11_rests_2 : decode cX11_rests 2 = .ok (.invokevirtual 309, 3) := by decide +kernel
theorem dX11_rests_5 : decode cX11_rests 5 = .ok (.ifCond .eq 41, 3) := by decide +kernel
theorem dX11_rests_8 : decode cX11_rests 8 = .ok (.aload_n 0, 1) := by decide +kernel
theorem dX11_rests_9 : decode cX11_rests 9 = .ok (.iload_n 2, 1) := by decide +kernel
theorem dX11_rests_10 : decode cX11_rests 10 = .ok (.invokevirtual 309, 3) := by decide +kernel
theorem dX11_rests_13 : decode cX11_rests 13 = .ok (.ifCond .eq 33, 3) := by decide +kernel
theorem dX11_rests_16 : decode cX11_rests 16 = .ok (.iload_n 1, 1) := by decide +kernel
theorem dX11_rests_17 : decode cX11_rests 17 = .ok (.iload_n 2, 1) := by decide +kernel
theorem dX11_rests_18 : decode cX11_rests 18 = .ok (.if_icmp .eq 28, 3) := by decide +kernel
theorem dX11_rests_21 : decode cX11_rests 21 = .ok (.iload_n 3, 1) := by decide +kernel
theorem dX11_rests_22 : decode cX11_rests 22 = .ok (.i2l, 1) := by decide +kernel
theorem dX11_rests_23 : decode cX11_rests 23 = .ok (.lconst 1, 1) := by decide +kernel
theorem dX11_rests_24 : decode cX11_rests 24 = .ok (.ldc2_w 368, 3) := by decide +kernel
theorem dX11_rests_27 : decode cX11_rests 27 = .ok (.invokestatic 130, 3) := by decide +kernel
theorem dX11_rests_30 : decode cX11_rests 30 = .ok (.ifCond .eq 16, 3) := by decide +kernel
theorem dX11_rests_33 : decode cX11_rests 33 = .ok (.iload 4, 2) := by decide +kernel
theorem dX11_rests_35 : decode cX11_rests 35 = .ok (.i2l, 1) := by decide +kernel
theorem dX11_rests_36 : decode cX11_rests 36 = .ok (.lconst 0, 1) := by decide +kernel
theorem dX11_rests_37 : decode cX11_rests 37 = .ok (.ldc2_w 374, 3) := by decide +kernel
theorem dX11_rests_40 : decode cX11_rests 40 = .ok (.invokestatic 130, 3) := by decide +kernel
theorem dX11_rests_43 : decode cX11_rests 43 = .ok (.ifCond .ne 5, 3) := by decide +kernel
theorem dX11_rests_46 : decode cX11_rests 46 = .ok (.iconst (-1), 1) := by decide +kernel
theorem dX11_rests_47 : decode cX11_rests 47 = .ok (.ireturn, 1) := by decide +kernel
theorem dX11_rests_48 : decode cX11_rests 48 = .ok (.aload_n 0, 1) := by decide +kernel
theorem dX11_rests_49 : decode cX11_rests 49 = .ok (.iload_n 1, 1) := by decide +kernel
theorem dX11_rests_50 : decode cX11_rests 50 = .ok (.iload_n 2, 1) := by decide +kernel
theorem dX11_rests_51 : decode cX11_rests 51 = .ok (.iload_n 3, 1) := by decide +kernel
theorem dX11_rests_52 : decode cX11_rests 52 = .ok (.invokevirtual 431, 3) := by decide +kernel
theorem dX11_rests_55 : decode cX11_rests 55 = .ok (.iconst 0, 1) := by decide +kernel
theorem dX11_rests_56 : decode cX11_rests 56 = .ok (.istore 5, 2) := by decide +kernel
theorem dX11_rests_58 : decode cX11_rests 58 = .ok (.iconst (-1), 1) := by decide +kernel
theorem dX11_rests_59 : decode cX11_rests 59 = .ok (.istore 6, 2) := by decide +kernel
theorem dX11_rests_61 : decode cX11_rests 61 = .ok (.bipush 24, 2) := by decide +kernel
theorem dX11_rests_63 : decode cX11_rests 63 = .ok (.istore 7, 2) := by decide +kernel
theorem dX11_rests_65 : decode cX11_rests 65 = .ok (.iload 7, 2) := by decide +kernel
theorem dX11_rests_67 : decode cX11_rests 67 = .ok (.ifCond .lt 34, 3) := by decide +kernel
theorem dX11_rests_70 : decode cX11_rests 70 = .ok (.aload_n 0, 1) := by decide +kernel
theorem dX11_rests_71 : decode cX11_rests 71 = .ok (.iload 7, 2) := by decide +kernel
theorem dX11_rests_73 : decode cX11_rests 73 = .ok (.iconst 5, 1) := by decide +kernel
theorem dX11_rests_74 : decode cX11_rests 74 = .ok (.idiv, 1) := by decide +kernel
theorem dX11_rests_75 : decode cX11_rests 75 = .ok (.iload 7, 2) := by decide +kernel
theorem dX11_rests_77 : decode cX11_rests 77 = .ok (.iconst 5, 1) := by decide +kernel
theorem dX11_rests_78 : decode cX11_rests 78 = .ok (.irem, 1) := by decide +kernel
theorem dX11_rests_79 : decode cX11_rests 79 = .ok (.invokevirtual 435, 3) := by decide +kernel
theorem dX11_rests_82 : decode cX11_rests 82 = .ok (.ifCond .ne 6, 3) := by decide +kernel
theorem dX11_rests_85 : decode cX11_rests 85 = .ok (.goto 10, 3) := by decide +kernel
theorem dX11_rests_88 : decode cX11_rests 88 = .ok (.iload 7, 2) := by decide +kernel
theorem dX11_rests_90 : decode cX11_rests 90 = .ok (.istore 6, 2) := by decide +kernel
theorem dX11_rests_92 : decode cX11_rests 92 = .ok (.iinc 5 1, 3) := by decide +kernel
theorem dX11_rests_95 : decode cX11_rests 95 = .ok (.iinc 7 (-1), 3) := by decide +kernel
theorem dX11_rests_98 : decode cX11_rests 98 = .ok (.goto (-33), 3) := by decide +kernel
theorem dX11_rests_101 : decode cX11_rests 101 = .ok (.iload 4, 2) := by decide +kernel
theorem dX11_rests_103 : decode cX11_rests 103 = .ok (.ifCond .ne 6, 3) := by decide +kernel
theorem dX11_rests_106 : decode cX11_rests 106 = .ok (.iload 5, 2) := by decide +kernel
theorem dX11_rests_108 : decode cX11_rests 108 = .ok (.ireturn, 1) := by decide +kernel
theorem dX11_rests_109 : decode cX11_rests 109 = .ok (.iload 6, 2) := by decide +kernel
theorem dX11_rests_111 : decode cX11_rests 111 = .ok (.ifCond .ge 8, 3) := by decide +kernel
theorem dX11_rests_114 : decode cX11_rests 114 = .ok (.bipush (-2), 2) := by decide +kernel
theorem dX11_rests_116 : decode cX11_rests 116 = .ok (.goto 28, 3) := by decide +kernel
theorem dX11_rests_119 : decode cX11_rests 119 = .ok (.iload 4, 2) := by decide +kernel
theorem dX11_rests_121 : decode cX11_rests 121 = .ok (.iconst 1, 1) := by decide +kernel
theorem dX11_rests_122 : decode cX11_rests 122 = .ok (.if_icmp .ne 14, 3) := by decide +kernel
theorem dX11_rests_125 : decode cX11_rests 125 = .ok (.iconst 1, 1) := by decide +kernel
theorem dX11_rests_126 : decode cX11_rests 126 = .ok (.iconst 2, 1) := by decide +kernel
theorem dX11_rests_127 : decode cX11_rests 127 = .ok (.iload 6, 2) := by decide +kernel
theorem dX11_rests_129 : decode cX11_rests 129 = .ok (.iconst 5, 1) := by decide +kernel
theorem dX11_rests_130 : decode cX11_rests 130 = .ok (.idiv, 1) := by decide +kernel
theorem dX11_rests_131 : decode cX11_rests 131 = .ok (.imul, 1) := by decide +kernel
theorem dX11_rests_132 : decode cX11_rests 132 = .ok (.iadd, 1) := by decide +kernel
theorem dX11_rests_133 : decode cX11_rests 133 = .ok (.goto 11, 3) := by decide +kernel
theorem dX11_rests_136 : decode cX11_rests 136 = .ok (.iconst 1, 1) := by decide +kernel
theorem dX11_rests_137 : decode cX11_rests 137 = .ok (.iconst 2, 1) := by decide +kernel
theorem dX11_rests_138 : decode cX11_rests 138 = .ok (.iload 6, 2) := by decide +kernel
theorem dX11_rests_140 : decode cX11_rests 140 = .ok (.iconst 5, 1) := by decide +kernel
theorem dX11_rests_141 : decode cX11_rests 141 = .ok (.irem, 1) := by decide +kernel
theorem dX11_rests_142 : decode cX11_rests 142 = .ok (.imul, 1) := by decide +kernel
theorem dX11_rests_143 : decode cX11_rests 143 = .ok (.iadd, 1) := by decide +kernel
theorem dX11_rests_144 : decode cX11_rests 144 = .ok (.ireturn, 1) := by decide +kernel
theorem dX11_areAlike_0 : decode cX11_areAlike 0 = .ok (.iload_n 2, 1) := by decide +kernel
theorem dX11_areAlike_1 : decode cX11_areAlike 1 = .ok (.iload_n 1, 1) := by decide +kernel
theorem dX11_areAlike_2 : decode cX11_areAlike 2 = .ok (.isub, 1) := by decide +kernel
theorem dX11_areAlike_3 : decode cX11_areAlike 3 = .ok (.aload_n 0, 1) := by decide +kernel
theorem dX11_areAlike_4 : decode cX11_areAlike 4 = .ok (.getfield 39, 3) := by decide +kernel
theorem dX11_areAlike_7 : decode cX11_areAlike 7 = .ok (.iconst 1, 1) := by decide +kernel
theorem dX11_areAlike_8 : decode cX11_areAlike 8 = .ok (.iaload, 1) := by decide +kernel
theorem dX11_areAlike_9 : decode cX11_areAlike 9 = .ok (.irem, 1) := by decide +kernel
theorem dX11_areAlike_10 : decode cX11_areAlike 10 = .ok (.ifCond .eq 5, 3) := by decide +kernel
theorem dX11_areAlike_13 : decode cX11_areAlike 13 = .ok (.iconst 0, 1) := by decide +kernel
theorem dX11_areAlike_14 : decode cX11_areAlike 14 = .ok (.ireturn, 1) := by decide +kernel
theorem dX11_areAlike_15 : decode cX11_areAlike 15 = .ok (.iconst 0, 1) := by decide +kernel
theorem dX11_areAlike_16 : decode cX11_areAlike 16 = .ok (.istore_n 3, 1) := by decide +kernel
theorem dX11_areAlike_17 : decode cX11_areAlike 17 = .ok (.iload_n 3, 1) := by decide +kernel
theorem dX11_areAlike_18 : decode cX11_areAlike 18 = .ok (.aload_n 0, 1) := by decide +kernel
theorem dX11_areAlike_19 : decode cX11_areAlike 19 = .ok (.getfield 39, 3) := by decide +kernel
theorem dX11_areAlike_22 : decode cX11_areAlike 22 = .ok (.iconst 3, 1) := by decide +kernel
theorem dX11_areAlike_23 : decode cX11_areAlike 23 = .ok (.iaload, 1) := by decide +kernel
theorem dX11_areAlike_24 : decode cX11_areAlike 24 = .ok (.if_icmp .ge 36, 3) := by decide +kernel
theorem dX11_areAlike_27 : decode cX11_areAlike 27 = .ok (.aload_n 0, 1) := by decide +kernel
theorem dX11_areAlike_28 : decode cX11_areAlike 28 = .ok (.getfield 70, 3) := by decide +kernel
theorem dX11_areAlike_31 : decode cX11_areAlike 31 = .ok (.bipush 6, 2) := by decide +kernel
theorem dX11_areAlike_33 : decode cX11_areAlike 33 = .ok (.iload_n 1, 1) := by decide +kernel
theorem dX11_areAlike_34 : decode cX11_areAlike 34 = .ok (.imul, 1) := by decide +kernel
theorem dX11_areAlike_35 : decode cX11_areAlike 35 = .ok (.iload_n 3, 1) := by decide +kernel
theorem dX11_areAlike_36 : decode cX11_areAlike 36 = .ok (.iadd, 1) := by decide +kernel
theorem dX11_areAlike_37 : decode cX11_areAlike 37 = .ok (.iaload, 1) := by decide +kernel
theorem dX11_areAlike_38 : decode cX11_areAlike 38 = .ok (.aload_n 0, 1) := by decide +kernel
theorem dX11_areAlike_39 : decode cX11_areAlike 39 = .ok (.getfield 70, 3) := by decide +kernel
theorem dX11_areAlike_42 : decode cX11_areAlike 42 = .ok (.bipush 6, 2) := by decide +kernel
theorem dX11_areAlike_44 : decode cX11_areAlike 44 = .ok (.iload_n 2, 1) := by decide +kernel
theorem dX11_areAlike_45 : decode cX11_areAlike 45 = .ok (.imul, 1) := by decide +kernel
theorem dX11_areAlike_46 : decode cX11_areAlike 46 = .ok (.iload_n 3, 1) := by decide +kernel
theorem dX11_areAlike_47 : decode cX11_areAlike 47 = .ok (.iadd, 1) := by decide +kernel
theorem dX11_areAlike_48 : decode cX11_areAlike 48 = .ok (.iaload, 1) := by decide +kernel
theorem dX11_areAlike_49 : decode cX11_areAlike 49 = .ok (.if_icmp .eq 5, 3) := by decide +kernel
theorem dX11_areAlike_52 : decode cX11_areAlike 52 = .ok (.iconst 0, 1) := by decide +kernel
theorem dX11_areAlike_53 : decode cX11_areAlike 53 = .ok (.ireturn, 1) := by decide +kernel
theorem dX11_areAlike_54 : decode cX11_areAlike 54 = .ok (.iinc 3 1, 3) := by decide +kernel
theorem dX11_areAlike_57 : decode cX11_areAlike 57 = .ok (.goto (-40), 3) := by decide +kernel
theorem dX11_areAlike_60 : decode cX11_areAlike 60 = .ok (.iconst 1, 1) := by decide +kernel
theorem dX11_areAlike_61 : decode cX11_areAlike 61 = .ok (.ireturn, 1) := by decide +kernel
theorem dX11_ring_0 : decode cX11_ring 0 = .ok (.aload_n 0, 1) := by decide +kernel
theorem dX11_ring_1 : decode cX11_ring 1 = .ok (.invokevirtual 294, 3) := by decide +kernel
theorem dX11_ring_4 : decode cX11_ring 4 = .ok (.ifCond .eq 13, 3) := by decide +kernel
theorem dX11_ring_7 : decode cX11_ring 7 = .ok (.iload_n 1, 1) := by decide +kernel
theorem dX11_ring_8 : decode cX11_ring 8 = .ok (.i2l, 1) := by decide +kernel
theorem dX11_ring_9 : decode cX11_ring 9 = .ok (.lconst 0, 1) := by decide +kernel
theorem dX11_ring_10 : decode cX11_ring 10 = .ok (.lconst 1, 1) := by decide +kernel
theorem dX11_ring_11 : decode cX11_ring 11 = .ok (.invokestatic 130, 3) := by decide +kernel
theorem dX11_ring_14 : decode cX11_ring 14 = .ok (.ifCond .ne 5, 3) := by decide +kernel
theorem dX11_ring_17 : decode cX11_ring 17 = .ok (.iconst (-1), 1) := by decide +kernel
theorem dX11_ring_18 : decode cX11_ring 18 = .ok (.ireturn, 1) := by decide +kernel
theorem dX11_ring_19 : decode cX11_ring 19 = .ok (.aload_n 0, 1) := by decide +kernel
theorem dX11_ring_20 : decode cX11_ring 20 = .ok (.invokevirtual 376, 3) := by decide +kernel
theorem dX11_ring_23 : decode cX11_ring 23 = .ok (.iconst 0, 1) := by decide +kernel
theorem dX11_ring_24 : decode cX11_ring 24 = .ok (.istore_n 2, 1) := by decide +kernel
theorem dX11_ring_25 : decode cX11_ring 25 = .ok (.iload_n 2, 1) := by decide +kernel
theorem dX11_ring_26 : decode cX11_ring 26 = .ok (.bipush 60, 2) := by decide +kernel
theorem dX11_ring_28 : decode cX11_ring 28 = .ok (.if_icmp .gt 48, 3) := by decide +kernel
theorem dX11_ring_31 : decode cX11_ring 31 = .ok (.iconst 0, 1) := by decide +kernel
theorem dX11_ring_32 : decode cX11_ring 32 = .ok (.istore_n 3, 1) := by decide +kernel
theorem dX11_ring_33 : decode cX11_ring 33 = .ok (.iload_n 3, 1) := by decide +kernel
theorem dX11_ring_34 : decode cX11_ring 34 = .ok (.aload_n 0, 1) := by decide +kernel
theorem dX11_ring_35 : decode cX11_ring 35 = .ok (.getfield 39, 3) := by decide +kernel
theorem dX11_ring_38 : decode cX11_ring 38 = .ok (.iconst 3, 1) := by decide +kernel
theorem dX11_ring_39 : decode cX11_ring 39 = .ok (.iaload, 1) := by decide +kernel
theorem dX11_ring_40 : decode cX11_ring 40 = .ok (.if_icmp .ge 25, 3) := by decide +kernel
theorem dX11_ring_43 : decode cX11_ring 43 = .ok (.aload_n 0, 1) := by decide +kernel
theorem dX11_ring_44 : decode cX11_ring 44 = .ok (.getfield 70, 3) := by decide +kernel
theorem dX11_ring_47 : decode cX11_ring 47 = .ok (.bipush 6, 2) := by decide +kernel
theorem dX11_ring_49 : decode cX11_ring 49 = .ok (.iload_n 2, 1) := by decide +kernel
theorem dX11_ring_50 : decode cX11_ring 50 = .ok (.imul, 1) := by decide +kernel
theorem dX11_ring_51 : decode cX11_ring 51 = .ok (.iload_n 3, 1) := by decide +kernel
theorem dX11_ring_52 : decode cX11_ring 52 = .ok (.iadd, 1) := by decide +kernel
theorem dX11_ring_53 : decode cX11_ring 53 = .ok (.aload_n 0, 1) := by decide +kernel
theorem dX11_ring_54 : decode cX11_ring 54 = .ok (.iload_n 3, 1) := by decide +kernel
theorem dX11_ring_55 : decode cX11_ring 55 = .ok (.invokevirtual 312, 3) := by decide +kernel
theorem dX11_ring_58 : decode cX11_ring 58 = .ok (.iastore, 1) := by decide +kernel
theorem dX11_ring_59 : decode cX11_ring 59 = .ok (.iinc 3 1, 3) := by decide +kernel
theorem dX11_ring_62 : decode cX11_ring 62 = .ok (.goto (-29), 3) := by decide +kernel
theorem dX11_ring_65 : decode cX11_ring 65 = .ok (.aload_n 0, 1) := by decide +kernel
theorem dX11_ring_66 : decode cX11_ring 66 = .ok (.invokevirtual 362, 3) := by decide +kernel
theorem dX11_ring_69 : decode cX11_ring 69 = .ok (.pop, 1) := by decide +kernel
theorem dX11_ring_70 : decode cX11_ring 70 = .ok (.iinc 2 1, 3) := by decide +kernel
theorem dX11_ring_73 : decode cX11_ring 73 = .ok (.goto (-48), 3) := by decide +kernel
theorem dX11_ring_76 : decode cX11_ring 76 = .ok (.aload_n 0, 1) := by decide +kernel
theorem dX11_ring_77 : decode cX11_ring 77 = .ok (.invokevirtual 382, 3) := by decide +kernel
theorem dX11_ring_80 : decode cX11_ring 80 = .ok (.iconst 0, 1) := by decide +kernel
theorem dX11_ring_81 : decode cX11_ring 81 = .ok (.istore_n 2, 1) := by decide +kernel
theorem dX11_ring_82 : decode cX11_ring 82 = .ok (.iload_n 2, 1) := by decide +kernel
theorem dX11_ring_83 : decode cX11_ring 83 = .ok (.bipush 60, 2) := by decide +kernel
theorem dX11_ring_85 : decode cX11_ring 85 = .ok (.if_icmp .ge 54, 3) := by decide +kernel
theorem dX11_ring_88 : decode cX11_ring 88 = .ok (.iload_n 2, 1) := by decide +kernel
theorem dX11_ring_89 : decode cX11_ring 89 = .ok (.iconst 1, 1) := by decide +kernel
theorem dX11_ring_90 : decode cX11_ring 90 = .ok (.iadd, 1) := by decide +kernel
theorem dX11_ring_91 : decode cX11_ring 91 = .ok (.istore_n 3, 1) := by decide +kernel
theorem dX11_ring_92 : decode cX11_ring 92 = .ok (.iload_n 3, 1) := by decide +kernel
theorem dX11_ring_93 : decode cX11_ring 93 = .ok (.bipush 60, 2) := by decide +kernel
theorem dX11_ring_95 : decode cX11_ring 95 = .ok (.if_icmp .gt 38, 3) := by decide +kernel
theorem dX11_ring_98 : decode cX11_ring 98 = .ok (.aload_n 0, 1) := by decide +kernel
theorem dX11_ring_99 : decode cX11_ring 99 = .ok (.iload_n 2, 1) := by decide +kernel
theorem dX11_ring_100 : decode cX11_ring 100 = .ok (.iload_n 3, 1) := by decide +kernel
theorem dX11_ring_101 : decode cX11_ring 101 = .ok (.invokevirtual 438, 3) := by decide +kernel
theorem dX11_ring_104 : decode cX11_ring 104 = .ok (.ifCond .eq 23, 3) := by decide +kernel
theorem dX11_ring_107 : decode cX11_ring 107 = .ok (.iload_n 1, 1) := by decide +kernel
theorem dX11_ring_108 : decode cX11_ring 108 = .ok (.ifCond .ne 15, 3) := by decide +kernel
theorem dX11_ring_111 : decode cX11_ring 111 = .ok (.aload_n 0, 1) := by decide +kernel
theorem dX11_ring_112 : decode cX11_ring 112 = .ok (.getfield 39, 3) := by decide +kernel
theorem dX11_ring_115 : decode cX11_ring 115 = .ok (.bipush 10, 2) := by decide +kernel
theorem dX11_ring_117 : decode cX11_ring 117 = .ok (.iaload, 1) := by decide +kernel
theorem dX11_ring_118 : decode cX11_ring 118 = .ok (.iload_n 2, 1) := by decide +kernel
theorem dX11_ring_119 : decode cX11_ring 119 = .ok (.iadd, 1) := by decide +kernel
theorem dX11_ring_120 : decode cX11_ring 120 = .ok (.goto 6, 3) := by decide +kernel
theorem dX11_ring_123 : decode cX11_ring 123 = .ok (.iload_n 3, 1) := by decide +kernel
theorem dX11_ring_124 : decode cX11_ring 124 = .ok (.iload_n 2, 1) := by decide +kernel
theorem dX11_ring_125 : decode cX11_ring 125 = .ok (.isub, 1) := by decide +kernel
theorem dX11_ring_126 : decode cX11_ring 126 = .ok (.ireturn, 1) := by decide +kernel
theorem dX11_ring_127 : decode cX11_ring 127 = .ok (.iinc 3 1, 3) := by decide +kernel
theorem dX11_ring_130 : decode cX11_ring 130 = .ok (.goto (-38), 3) := by decide +kernel
theorem dX11_ring_133 : decode cX11_ring 133 = .ok (.iinc 2 1, 3) := by decide +kernel
theorem dX11_ring_136 : decode cX11_ring 136 = .ok (.goto (-54), 3) := by decide +kernel
theorem dX11_ring_139 : decode cX11_ring 139 = .ok (.bipush (-2), 2) := by decide +kernel
theorem dX11_ring_141 : decode cX11_ring 141 = .ok (.ireturn, 1) := by decide +kernel
theorem dX11_pence_0 : decode cX11_pence 0 = .ok (.aload_n 0, 1) := by decide +kernel
theorem dX11_pence_1 : decode cX11_pence 1 = .ok (.iload_n 2, 1) := by decide +kernel
theorem dX11_pence_2 : decode cX11_pence 2 = .ok (.invokevirtual 309, 3) := by decide +kernel
theorem dX11_pence_5 : decode cX11_pence 5 = .ok (.ifCond .eq 15, 3) := by decide +kernel
theorem dX11_pence_8 : decode cX11_pence 8 = .ok (.iload_n 1, 1) := by decide +kernel
theorem dX11_pence_9 : decode cX11_pence 9 = .ok (.i2l, 1) := by decide +kernel
theorem dX11_pence_10 : decode cX11_pence 10 = .ok (.lconst 0, 1) := by decide +kernel
theorem dX11_pence_11 : decode cX11_pence 11 = .ok (.ldc2_w 441, 3) := by decide +kernel
theorem dX11_pence_14 : decode cX11_pence 14 = .ok (.invokestatic 130, 3) := by decide +kernel
theorem dX11_pence_17 : decode cX11_pence 17 = .ok (.ifCond .ne 5, 3) := by decide +kernel
theorem dX11_pence_20 : decode cX11_pence 20 = .ok (.iconst (-1), 1) := by decide +kernel
theorem dX11_pence_21 : decode cX11_pence 21 = .ok (.ireturn, 1) := by decide +kernel
theorem dX11_pence_22 : decode cX11_pence 22 = .ok (.aload_n 0, 1) := by decide +kernel
theorem dX11_pence_23 : decode cX11_pence 23 = .ok (.iconst 3, 1) := by decide +kernel
theorem dX11_pence_24 : decode cX11_pence 24 = .ok (.invokevirtual 340, 3) := by decide +kernel
theorem dX11_pence_27 : decode cX11_pence 27 = .ok (.istore_n 3, 1) := by decide +kernel
theorem dX11_pence_28 : decode cX11_pence 28 = .ok (.iload_n 3, 1) := by decide +kernel
theorem dX11_pence_29 : decode cX11_pence 29 = .ok (.ifCond .ne 5, 3) := by decide +kernel
theorem dX11_pence_32 : decode cX11_pence 32 = .ok (.iconst 0, 1) := by decide +kernel
theorem dX11_pence_33 : decode cX11_pence 33 = .ok (.ireturn, 1) := by decide +kernel
theorem dX11_pence_34 : decode cX11_pence 34 = .ok (.iload_n 1, 1) := by decide +kernel
theorem dX11_pence_35 : decode cX11_pence 35 = .ok (.aload_n 0, 1) := by decide +kernel
theorem dX11_pence_36 : decode cX11_pence 36 = .ok (.iload_n 2, 1) := by decide +kernel
theorem dX11_pence_37 : decode cX11_pence 37 = .ok (.invokevirtual 318, 3) := by decide +kernel
theorem dX11_pence_40 : decode cX11_pence 40 = .ok (.imul, 1) := by decide +kernel
theorem dX11_pence_41 : decode cX11_pence 41 = .ok (.istore 4, 2) := by decide +kernel
theorem dX11_pence_43 : decode cX11_pence 43 = .ok (.iload_n 1, 1) := by decide +kernel
theorem dX11_pence_44 : decode cX11_pence 44 = .ok (.istore 5, 2) := by decide +kernel
theorem dX11_pence_46 : decode cX11_pence 46 = .ok (.iconst 0, 1) := by decide +kernel
theorem dX11_pence_47 : decode cX11_pence 47 = .ok (.istore 6, 2) := by decide +kernel
theorem dX11_pence_49 : decode cX11_pence 49 = .ok (.iconst 0, 1) := by decide +kernel
theorem dX11_pence_50 : decode cX11_pence 50 = .ok (.istore 7, 2) := by decide +kernel
theorem dX11_pence_52 : decode cX11_pence 52 = .ok (.iload 7, 2) := by decide +kernel
theorem dX11_pence_54 : decode cX11_pence 54 = .ok (.aload_n 0, 1) := by decide +kernel
theorem dX11_pence_55 : decode cX11_pence 55 = .ok (.getfield 39, 3) := by decide +kernel
theorem dX11_pence_58 : decode cX11_pence 58 = .ok (.iconst 3, 1) := by decide +kernel
theorem dX11_pence_59 : decode cX11_pence 59 = .ok (.iaload, 1) := by decide +kernel
theorem dX11_pence_60 : decode cX11_pence 60 = .ok (.if_icmp .ge 66, 3) := by decide +kernel
theorem dX11_pence_63 : decode cX11_pence 63 = .ok (.iload_n 1, 1) := by decide +kernel
theorem dX11_pence_64 : decode cX11_pence 64 = .ok (.aload_n 0, 1) := by decide +kernel
theorem dX11_pence_65 : decode cX11_pence 65 = .ok (.iload 7, 2) := by decide +kernel
theorem dX11_pence_67 : decode cX11_pence 67 = .ok (.invokevirtual 318, 3) := by decide +kernel
theorem dX11_pence_70 : decode cX11_pence 70 = .ok (.imul, 1) := by decide +kernel
theorem dX11_pence_71 : decode cX11_pence 71 = .ok (.istore 8, 2) := by decide +kernel
theorem dX11_pence_73 : decode cX11_pence 73 = .ok (.iload 5, 2) := by decide +kernel
theorem dX11_pence_75 : decode cX11_pence 75 = .ok (.iload 8, 2) := by decide +kernel
theorem dX11_pence_77 : decode cX11_pence 77 = .ok (.iload_n 3, 1) := by decide +kernel
theorem dX11_pence_78 : decode cX11_pence 78 = .ok (.idiv, 1) := by decide +kernel
theorem dX11_pence_79 : decode cX11_pence 79 = .ok (.isub, 1) := by decide +kernel
theorem dX11_pence_80 : decode cX11_pence 80 = .ok (.istore 5, 2) := by decide +kernel
theorem dX11_pence_82 : decode cX11_pence 82 = .ok (.iload 6, 2) := by decide +kernel
theorem dX11_pence_84 : decode cX11_pence 84 = .ok (.iload 8, 2) := by decide +kernel
theorem dX11_pence_86 : decode cX11_pence 86 = .ok (.iload_n 3, 1) := by decide +kernel
theorem dX11_pence_87 : decode cX11_pence 87 = .ok (.irem, 1) := by decide +kernel
theorem dX11_pence_88 : decode cX11_pence 88 = .ok (.iload 4, 2) := by decide +kernel
theorem dX11_pence_90 : decode cX11_pence 90 = .ok (.iload_n 3, 1) := by decide +kernel
theorem dX11_pence_91 : decode cX11_pence 91 = .ok (.irem, 1) := by decide +kernel
theorem dX11_pence_92 : decode cX11_pence 92 = .ok (.if_icmp .gt 20, 3) := by decide +kernel
theorem dX11_pence_95 : decode cX11_pence 95 = .ok (.iload 8, 2) := by decide +kernel
theorem dX11_pence_97 : decode cX11_pence 97 = .ok (.iload_n 3, 1) := by decide +kernel
theorem dX11_pence_98 : decode cX11_pence 98 = .ok (.irem, 1) := by decide +kernel
theorem dX11_pence_99 : decode cX11_pence 99 = .ok (.iload 4, 2) := by decide +kernel
theorem dX11_pence_101 : decode cX11_pence 101 = .ok (.iload_n 3, 1) := by decide +kernel
theorem dX11_pence_102 : decode cX11_pence 102 = .ok (.irem, 1) := by decide +kernel
theorem dX11_pence_103 : decode cX11_pence 103 = .ok (.if_icmp .ne 13, 3) := by decide +kernel
theorem dX11_pence_106 : decode cX11_pence 106 = .ok (.iload 7, 2) := by decide +kernel
theorem dX11_pence_108 : decode cX11_pence 108 = .ok (.iload_n 2, 1) := by decide +kernel
theorem dX11_pence_109 : decode cX11_pence 109 = .ok (.if_icmp .ge 7, 3) := by decide +kernel
theorem dX11_pence_112 : decode cX11_pence 112 = .ok (.iconst 1, 1) := by decide +kernel
theorem dX11_pence_113 : decode cX11_pence 113 = .ok (.goto 4, 3) := by decide +kernel
theorem dX11_pence_116 : decode cX11_pence 116 = .ok (.iconst 0, 1) := by decide +kernel
theorem dX11_pence_117 : decode cX11_pence 117 = .ok (.iadd, 1) := by decide +kernel
theorem dX11_pence_118 : decode cX11_pence 118 = .ok (.istore 6, 2) := by decide +kernel
theorem dX11_pence_120 : decode cX11_pence 120 = .ok (.iinc 7 1, 3) := by decide +kernel
theorem dX11_pence_123 : decode cX11_pence 123 = .ok (.goto (-71), 3) := by decide +kernel
theorem dX11_pence_126 : decode cX11_pence 126 = .ok (.iload 4, 2) := by decide +kernel
theorem dX11_pence_128 : decode cX11_pence 128 = .ok (.iload_n 3, 1) := by decide +kernel
theorem dX11_pence_129 : decode cX11_pence 129 = .ok (.idiv, 1) := by decide +kernel
theorem dX11_pence_130 : decode cX11_pence 130 = .ok (.iload 6, 2) := by decide +kernel
theorem dX11_pence_132 : decode cX11_pence 132 = .ok (.iload 5, 2) := by decide +kernel
theorem dX11_pence_134 : decode cX11_pence 134 = .ok (.if_icmp .ge 7, 3) := by decide +kernel
theorem dX11_pence_137 : decode cX11_pence 137 = .ok (.iconst 1, 1) := by decide +kernel
theorem dX11_pence_138 : decode cX11_pence 138 = .ok (.goto 4, 3) := by decide +kernel
theorem dX11_pence_141 : decode cX11_pence 141 = .ok (.iconst 0, 1) := by decide +kernel
theorem dX11_pence_142 : decode cX11_pence 142 = .ok (.iadd, 1) := by decide +kernel
theorem dX11_pence_143 : decode cX11_pence 143 = .ok (.ireturn, 1) := by decide +kernel
theorem dX11_note_0 : decode cX11_note 0 = .ok (.iload_n 1, 1) := by decide +kernel
theorem dX11_note_1 : decode cX11_note 1 = .ok (.iconst (-1), 1) := by decide +kernel
theorem dX11_note_2 : decode cX11_note 2 = .ok (.if_icmp .ne 13, 3) := by decide +kernel
theorem dX11_note_5 : decode cX11_note 5 = .ok (.aload_n 0, 1) := by decide +kernel
theorem dX11_note_6 : decode cX11_note 6 = .ok (.getfield 39, 3) := by decide +kernel
theorem dX11_note_9 : decode cX11_note 9 = .ok (.bipush 120, 2) := by decide +kernel
theorem dX11_note_11 : decode cX11_note 11 = .ok (.iconst 0, 1) := by decide +kernel
theorem dX11_note_12 : decode cX11_note 12 = .ok (.iastore, 1) := by decide +kernel
theorem dX11_note_13 : decode cX11_note 13 = .ok (.iconst 0, 1) := by decide +kernel
theorem dX11_note_14 : decode cX11_note 14 = .ok (.ireturn, 1) := by decide +kernel
theorem dX11_note_15 : decode cX11_note 15 = .ok (.iload_n 1, 1) := by decide +kernel
theorem dX11_note_16 : decode cX11_note 16 = .ok (.i2l, 1) := by decide +kernel
theorem dX11_note_17 : decode cX11_note 17 = .ok (.lconst 0, 1) := by decide +kernel
theorem dX11_note_18 : decode cX11_note 18 = .ok (.ldc2_w 419, 3) := by decide +kernel
theorem dX11_note_21 : decode cX11_note 21 = .ok (.invokestatic 130, 3) := by decide +kernel
theorem dX11_note_24 : decode cX11_note 24 = .ok (.ifCond .eq 35, 3) := by decide +kernel
theorem dX11_note_27 : decode cX11_note 27 = .ok (.aload_n 0, 1) := by decide +kernel
theorem dX11_note_28 : decode cX11_note 28 = .ok (.iload_n 2, 1) := by decide +kernel
theorem dX11_note_29 : decode cX11_note 29 = .ok (.invokevirtual 309, 3) := by decide +kernel
theorem dX11_note_32 : decode cX11_note 32 = .ok (.ifCond .eq 27, 3) := by decide +kernel
theorem dX11_note_35 : decode cX11_note 35 = .ok (.iload_n 3, 1) := by decide +kernel
theorem dX11_note_36 : decode cX11_note 36 = .ok (.i2l, 1) := by decide +kernel
theorem dX11_note_37 : decode cX11_note 37 = .ok (.lconst 0, 1) := by decide +kernel
theorem dX11_note_38 : decode cX11_note 38 = .ok (.ldc2_w 443, 3) := by decide +kernel
theorem dX11_note_41 : decode cX11_note 41 = .ok (.invokestatic 130, 3) := by decide +kernel
theorem dX11_note_44 : decode cX11_note 44 = .ok (.ifCond .eq 15, 3) := by decide +kernel
theorem dX11_note_47 : decode cX11_note 47 = .ok (.aload_n 0, 1) := by decide +kernel
theorem dX11_note_48 : decode cX11_note 48 = .ok (.getfield 39, 3) := by decide +kernel
theorem dX11_note_51 : decode cX11_note 51 = .ok (.bipush 120, 2) := by decide +kernel
theorem dX11_note_53 : decode cX11_note 53 = .ok (.iaload, 1) := by decide +kernel
theorem dX11_note_54 : decode cX11_note 54 = .ok (.bipush 10, 2) := by decide +kernel
theorem dX11_note_56 : decode cX11_note 56 = .ok (.if_icmp .ne 6, 3) := by decide +kernel
theorem dX11_note_59 : decode cX11_note 59 = .ok (.bipush (-2), 2) := by decide +kernel
theorem dX11_note_61 : decode cX11_note 61 = .ok (.ireturn, 1) := by decide +kernel
theorem dX11_note_62 : decode cX11_note 62 = .ok (.bipush 90, 2) := by decide +kernel
theorem dX11_note_64 : decode cX11_note 64 = .ok (.iconst 3, 1) := by decide +kernel
theorem dX11_note_65 : decode cX11_note 65 = .ok (.aload_n 0, 1) := by decide +kernel
theorem dX11_note_66 : decode cX11_note 66 = .ok (.getfield 39, 3) := by decide +kernel
theorem dX11_note_69 : decode cX11_note 69 = .ok (.bipush 120, 2) := by decide +kernel
theorem dX11_note_71 : decode cX11_note 71 = .ok (.iaload, 1) := by decide +kernel
theorem dX11_note_72 : decode cX11_note 72 = .ok (.imul, 1) := by decide +kernel
theorem dX11_note_73 : decode cX11_note 73 = .ok (.iadd, 1) := by decide +kernel
theorem dX11_note_74 : decode cX11_note 74 = .ok (.istore 4, 2) := by decide +kernel
theorem dX11_note_76 : decode cX11_note 76 = .ok (.aload_n 0, 1) := by decide +kernel
theorem dX11_note_77 : decode cX11_note 77 = .ok (.getfield 39, 3) := by decide +kernel
theorem dX11_note_80 : decode cX11_note 80 = .ok (.iload 4, 2) := by decide +kernel
theorem dX11_note_82 : decode cX11_note 82 = .ok (.iload_n 1, 1) := by decide +kernel
theorem dX11_note_83 : decode cX11_note 83 = .ok (.iastore, 1) := by decide +kernel
theorem dX11_note_84 : decode cX11_note 84 = .ok (.aload_n 0, 1) := by decide +kernel
theorem dX11_note_85 : decode cX11_note 85 = .ok (.getfield 39, 3) := by decide +kernel
theorem dX11_note_88 : decode cX11_note 88 = .ok (.iload 4, 2) := by decide +kernel
theorem dX11_note_90 : decode cX11_note 90 = .ok (.iconst 1, 1) := by decide +kernel
theorem dX11_note_91 : decode cX11_note 91 = .ok (.iadd, 1) := by decide +kernel
theorem dX11_note_92 : decode cX11_note 92 = .ok (.iload_n 2, 1) := by decide +kernel
theorem dX11_note_93 : decode cX11_note 93 = .ok (.iastore, 1) := by decide +kernel
theorem dX11_note_94 : decode cX11_note 94 = .ok (.aload_n 0, 1) := by decide +kernel
theorem dX11_note_95 : decode cX11_note 95 = .ok (.getfield 39, 3) := by decide +kernel
theorem dX11_note_98 : decode cX11_note 98 = .ok (.iload 4, 2) := by decide +kernel
theorem dX11_note_100 : decode cX11_note 100 = .ok (.iconst 2, 1) := by decide +kernel
theorem dX11_note_101 : decode cX11_note 101 = .ok (.iadd, 1) := by decide +kernel
theorem dX11_note_102 : decode cX11_note 102 = .ok (.iload_n 3, 1) := by decide +kernel
theorem dX11_note_103 : decode cX11_note 103 = .ok (.iastore, 1) := by decide +kernel
theorem dX11_note_104 : decode cX11_note 104 = .ok (.aload_n 0, 1) := by decide +kernel
theorem dX11_note_105 : decode cX11_note 105 = .ok (.getfield 39, 3) := by decide +kernel
theorem dX11_note_108 : decode cX11_note 108 = .ok (.bipush 120, 2) := by decide +kernel
theorem dX11_note_110 : decode cX11_note 110 = .ok (.dup2, 1) := by decide +kernel
theorem dX11_note_111 : decode cX11_note 111 = .ok (.iaload, 1) := by decide +kernel
theorem dX11_note_112 : decode cX11_note 112 = .ok (.iconst 1, 1) := by decide +kernel
theorem dX11_note_113 : decode cX11_note 113 = .ok (.iadd, 1) := by decide +kernel
theorem dX11_note_114 : decode cX11_note 114 = .ok (.iastore, 1) := by decide +kernel
theorem dX11_note_115 : decode cX11_note 115 = .ok (.aload_n 0, 1) := by decide +kernel
theorem dX11_note_116 : decode cX11_note 116 = .ok (.getfield 39, 3) := by decide +kernel
theorem dX11_note_119 : decode cX11_note 119 = .ok (.bipush 120, 2) := by decide +kernel
theorem dX11_note_121 : decode cX11_note 121 = .ok (.iaload, 1) := by decide +kernel
theorem dX11_note_122 : decode cX11_note 122 = .ok (.ireturn, 1) := by decide +kernel
theorem dX11_areNotesSo_0 : decode cX11_areNotesSo 0 = .ok (.iconst 0, 1) := by decide +kernel
theorem dX11_areNotesSo_1 : decode cX11_areNotesSo 1 = .ok (.istore_n 2, 1) := by decide +kernel
theorem dX11_areNotesSo_2 : decode cX11_areNotesSo 2 = .ok (.iload_n 2, 1) := by decide +kernel
theorem dX11_areNotesSo_3 : decode cX11_areNotesSo 3 = .ok (.iconst 3, 1) := by decide +kernel
theorem dX11_areNotesSo_4 : decode cX11_areNotesSo 4 = .ok (.aload_n 0, 1) := by decide +kernel
theorem dX11_areNotesSo_5 : decode cX11_areNotesSo 5 = .ok (.getfield 39, 3) := by decide +kernel
theorem dX11_areNotesSo_8 : decode cX11_areNotesSo 8 = .ok (.bipush 120, 2) := by decide +kernel
theorem dX11_areNotesSo_10 : decode cX11_areNotesSo 10 = .ok (.iaload, 1) := by decide +kernel
theorem dX11_areNotesSo_11 : decode cX11_areNotesSo 11 = .ok (.imul, 1) := by decide +kernel
theorem dX11_areNotesSo_12 : decode cX11_areNotesSo 12 = .ok (.if_icmp .ge 54, 3) := by decide +kernel
theorem dX11_areNotesSo_15 : decode cX11_areNotesSo 15 = .ok (.aload_n 0, 1) := by decide +kernel
theorem dX11_areNotesSo_16 : decode cX11_areNotesSo 16 = .ok (.getfield 39, 3) := by decide +kernel
theorem dX11_areNotesSo_19 : decode cX11_areNotesSo 19 = .ok (.bipush 90, 2) := by decide +kernel
theorem dX11_areNotesSo_21 : decode cX11_areNotesSo 21 = .ok (.iload_n 2, 1) := by decide +kernel
theorem dX11_areNotesSo_22 : decode cX11_areNotesSo 22 = .ok (.iadd, 1) := by decide +kernel
theorem dX11_areNotesSo_23 : decode cX11_areNotesSo 23 = .ok (.iaload, 1) := by decide +kernel
theorem dX11_areNotesSo_24 : decode cX11_areNotesSo 24 = .ok (.iload_n 1, 1) := by decide +kernel
theorem dX11_areNotesSo_25 : decode cX11_areNotesSo 25 = .ok (.if_icmp .ne 35, 3) := by decide +kernel
theorem dX11_areNotesSo_28 : decode cX11_areNotesSo 28 = .ok (.aload_n 0, 1) := by decide +kernel
theorem dX11_areNotesSo_29 : decode cX11_areNotesSo 29 = .ok (.getfield 52, 3) := by decide +kernel
theorem dX11_areNotesSo_32 : decode cX11_areNotesSo 32 = .ok (.aload_n 0, 1) := by decide +kernel
theorem dX11_areNotesSo_33 : decode cX11_areNotesSo 33 = .ok (.getfield 39, 3) := by decide +kernel
theorem dX11_areNotesSo_36 : decode cX11_areNotesSo 36 = .ok (.bipush 90, 2) := by decide +kernel
theorem dX11_areNotesSo_38 : decode cX11_areNotesSo 38 = .ok (.iload_n 2, 1) := by decide +kernel
theorem dX11_areNotesSo_39 : decode cX11_areNotesSo 39 = .ok (.iadd, 1) := by decide +kernel
theorem dX11_areNotesSo_40 : decode cX11_areNotesSo 40 = .ok (.iconst 1, 1) := by decide +kernel
theorem dX11_areNotesSo_41 : decode cX11_areNotesSo 41 = .ok (.iadd, 1) := by decide +kernel
theorem dX11_areNotesSo_42 : decode cX11_areNotesSo 42 = .ok (.iaload, 1) := by decide +kernel
theorem dX11_areNotesSo_43 : decode cX11_areNotesSo 43 = .ok (.iaload, 1) := by decide +kernel
theorem dX11_areNotesSo_44 : decode cX11_areNotesSo 44 = .ok (.aload_n 0, 1) := by decide +kernel
theorem dX11_areNotesSo_45 : decode cX11_areNotesSo 45 = .ok (.getfield 39, 3) := by decide +kernel
theorem dX11_areNotesSo_48 : decode cX11_areNotesSo 48 = .ok (.bipush 90, 2) := by decide +kernel
theorem dX11_areNotesSo_50 : decode cX11_areNotesSo 50 = .ok (.iload_n 2, 1) := by decide +kernel
theorem dX11_areNotesSo_51 : decode cX11_areNotesSo 51 = .ok (.iadd, 1) := by decide +kernel
theorem dX11_areNotesSo_52 : decode cX11_areNotesSo 52 = .ok (.iconst 2, 1) := by decide +kernel
theorem dX11_areNotesSo_53 : decode cX11_areNotesSo 53 = .ok (.iadd, 1) := by decide +kernel
theorem dX11_areNotesSo_54 : decode cX11_areNotesSo 54 = .ok (.iaload, 1) := by decide +kernel
theorem dX11_areNotesSo_55 : decode cX11_areNotesSo 55 = .ok (.if_icmp .eq 5, 3) := by decide +kernel
theorem dX11_areNotesSo_58 : decode cX11_areNotesSo 58 = .ok (.iconst 0, 1) := by decide +kernel
theorem dX11_areNotesSo_59 : decode cX11_areNotesSo 59 = .ok (.ireturn, 1) := by decide +kernel
theorem dX11_areNotesSo_60 : decode cX11_areNotesSo 60 = .ok (.iinc 2 3, 3) := by decide +kernel
theorem dX11_areNotesSo_63 : decode cX11_areNotesSo 63 = .ok (.goto (-61), 3) := by decide +kernel
theorem dX11_areNotesSo_66 : decode cX11_areNotesSo 66 = .ok (.iconst 1, 1) := by decide +kernel
theorem dX11_areNotesSo_67 : decode cX11_areNotesSo 67 = .ok (.ireturn, 1) := by decide +kernel
theorem dX11_fillsFits_0 : decode cX11_fillsFits 0 = .ok (.aload_n 0, 1) := by decide +kernel
theorem dX11_fillsFits_1 : decode cX11_fillsFits 1 = .ok (.getfield 42, 3) := by decide +kernel
theorem dX11_fillsFits_4 : decode cX11_fillsFits 4 = .ok (.istore_n 2, 1) := by decide +kernel
theorem dX11_fillsFits_5 : decode cX11_fillsFits 5 = .ok (.aload_n 0, 1) := by decide +kernel
theorem dX11_fillsFits_6 : decode cX11_fillsFits 6 = .ok (.invokevirtual 376, 3) := by decide +kernel
theorem dX11_fillsFits_9 : decode cX11_fillsFits 9 = .ok (.iconst 0, 1) := by decide +kernel
theorem dX11_fillsFits_10 : decode cX11_fillsFits 10 = .ok (.istore_n 3, 1) := by decide +kernel
theorem dX11_fillsFits_11 : decode cX11_fillsFits 11 = .ok (.iload_n 3, 1) := by decide +kernel
theorem dX11_fillsFits_12 : decode cX11_fillsFits 12 = .ok (.aload_n 0, 1) := by decide +kernel
theorem dX11_fillsFits_13 : decode cX11_fillsFits 13 = .ok (.getfield 267, 3) := by decide +kernel
theorem dX11_fillsFits_16 : decode cX11_fillsFits 16 = .ok (.if_icmp .gt 118, 3) := by decide +kernel
theorem dX11_fillsFits_19 : decode cX11_fillsFits 19 = .ok (.aload_n 0, 1) := by decide +kernel
theorem dX11_fillsFits_20 : decode cX11_fillsFits 20 = .ok (.iload_n 3, 1) := by decide +kernel
theorem dX11_fillsFits_21 : decode cX11_fillsFits 21 = .ok (.iconst 1, 1) := by decide +kernel
theorem dX11_fillsFits_22 : decode cX11_fillsFits 22 = .ok (.isub, 1) := by decide +kernel
theorem dX11_fillsFits_23 : decode cX11_fillsFits 23 = .ok (.putfield 42, 3) := by decide +kernel
theorem dX11_fillsFits_26 : decode cX11_fillsFits 26 = .ok (.aload_n 0, 1) := by decide +kernel
theorem dX11_fillsFits_27 : decode cX11_fillsFits 27 = .ok (.invokevirtual 273, 3) := by decide +kernel
theorem dX11_fillsFits_30 : decode cX11_fillsFits 30 = .ok (.iconst 1, 1) := by decide +kernel
theorem dX11_fillsFits_31 : decode cX11_fillsFits 31 = .ok (.istore 4, 2) := by decide +kernel
theorem dX11_fillsFits_33 : decode cX11_fillsFits 33 = .ok (.iconst 0, 1) := by decide +kernel
theorem dX11_fillsFits_34 : decode cX11_fillsFits 34 = .ok (.istore 5, 2) := by decide +kernel
theorem dX11_fillsFits_36 : decode cX11_fillsFits 36 = .ok (.iload 5, 2) := by decide +kernel
theorem dX11_fillsFits_38 : decode cX11_fillsFits 38 = .ok (.bipush 60, 2) := by decide +kernel
theorem dX11_fillsFits_40 : decode cX11_fillsFits 40 = .ok (.if_icmp .gt 80, 3) := by decide +kernel
theorem dX11_fillsFits_43 : decode cX11_fillsFits 43 = .ok (.aload_n 0, 1) := by decide +kernel
theorem dX11_fillsFits_44 : decode cX11_fillsFits 44 = .ok (.invokevirtual 362, 3) := by decide +kernel
theorem dX11_fillsFits_47 : decode cX11_fillsFits 47 = .ok (.pop, 1) := by decide +kernel
theorem dX11_fillsFits_48 : decode cX11_fillsFits 48 = .ok (.iload 4, 2) := by decide +kernel
theorem dX11_fillsFits_50 : decode cX11_fillsFits 50 = .ok (.ifCond .eq 16, 3) := by decide +kernel
theorem dX11_fillsFits_53 : decode cX11_fillsFits 53 = .ok (.aload_n 0, 1) := by decide +kernel
theorem dX11_fillsFits_54 : decode cX11_fillsFits 54 = .ok (.iload 5, 2) := by decide +kernel
theorem dX11_fillsFits_56 : decode cX11_fillsFits 56 = .ok (.invokevirtual 445, 3) := by decide +kernel
theorem dX11_fillsFits_59 : decode cX11_fillsFits 59 = .ok (.ifCond .eq 7, 3) := by decide +kernel
theorem dX11_fillsFits_62 : decode cX11_fillsFits 62 = .ok (.iconst 1, 1) := by decide +kernel
theorem dX11_fillsFits_63 : decode cX11_fillsFits 63 = .ok (.goto 4, 3) := by decide +kernel
theorem dX11_fillsFits_66 : decode cX11_fillsFits 66 = .ok (.iconst 0, 1) := by decide +kernel
theorem dX11_fillsFits_67 : decode cX11_fillsFits 67 = .ok (.istore 4, 2) := by decide +kernel
theorem dX11_fillsFits_69 : decode cX11_fillsFits 69 = .ok (.iconst 0, 1) := by decide +kernel
theorem dX11_fillsFits_70 : decode cX11_fillsFits 70 = .ok (.istore 6, 2) := by decide +kernel
theorem dX11_fillsFits_72 : decode cX11_fillsFits 72 = .ok (.iload 6, 2) := by decide +kernel
theorem dX11_fillsFits_74 : decode cX11_fillsFits 74 = .ok (.aload_n 0, 1) := by decide +kernel
theorem dX11_fillsFits_75 : decode cX11_fillsFits 75 = .ok (.getfield 39, 3) := by decide +kernel
theorem dX11_fillsFits_78 : decode cX11_fillsFits 78 = .ok (.iconst 3, 1) := by decide +kernel
theorem dX11_fillsFits_79 : decode cX11_fillsFits 79 = .ok (.iaload, 1) := by decide +kernel
theorem dX11_fillsFits_80 : decode cX11_fillsFits 80 = .ok (.if_icmp .ge 34, 3) := by decide +kernel
theorem dX11_fillsFits_83 : decode cX11_fillsFits 83 = .ok (.iload 5, 2) := by decide +kernel
theorem dX11_fillsFits_85 : decode cX11_fillsFits 85 = .ok (.iload_n 1, 1) := by decide +kernel
theorem dX11_fillsFits_86 : decode cX11_fillsFits 86 = .ok (.if_icmp .ne 28, 3) := by decide +kernel
theorem dX11_fillsFits_89 : decode cX11_fillsFits 89 = .ok (.aload_n 0, 1) := by decide +kernel
theorem dX11_fillsFits_90 : decode cX11_fillsFits 90 = .ok (.getfield 77, 3) := by decide +kernel
theorem dX11_fillsFits_93 : decode cX11_fillsFits 93 = .ok (.bipush 6, 2) := by decide +kernel
theorem dX11_fillsFits_95 : decode cX11_fillsFits 95 = .ok (.iload_n 3, 1) := by decide +kernel
theorem dX11_fillsFits_96 : decode cX11_fillsFits 96 = .ok (.imul, 1) := by decide +kernel
theorem dX11_fillsFits_97 : decode cX11_fillsFits 97 = .ok (.iload 6, 2) := by decide +kernel
theorem dX11_fillsFits_99 : decode cX11_fillsFits 99 = .ok (.iadd, 1) := by decide +kernel
theorem dX11_fillsFits_100 : decode cX11_fillsFits 100 = .ok (.aload_n 0, 1) := by decide +kernel
theorem dX11_fillsFits_101 : decode cX11_fillsFits 101 = .ok (.getfield 52, 3) := by decide +kernel
theorem dX11_fillsFits_104 : decode cX11_fillsFits 104 = .ok (.iload 6, 2) := by decide +kernel
theorem dX11_fillsFits_106 : decode cX11_fillsFits 106 = .ok (.iaload, 1) := by decide +kernel
theorem dX11_fillsFits_107 : decode cX11_fillsFits 107 = .ok (.iastore, 1) := by decide +kernel
theorem dX11_fillsFits_108 : decode cX11_fillsFits 108 = .ok (.iinc 6 1, 3) := by decide +kernel
theorem dX11_fillsFits_111 : decode cX11_fillsFits 111 = .ok (.goto (-39), 3) := by decide +kernel
theorem dX11_fillsFits_114 : decode cX11_fillsFits 114 = .ok (.iinc 5 1, 3) := by decide +kernel
theorem dX11_fillsFits_117 : decode cX11_fillsFits 117 = .ok (.goto (-81), 3) := by decide +kernel
theorem dX11_fillsFits_120 : decode cX11_fillsFits 120 = .ok (.aload_n 0, 1) := by decide +kernel
theorem dX11_fillsFits_121 : decode cX11_fillsFits 121 = .ok (.getfield 73, 3) := by decide +kernel
theorem dX11_fillsFits_124 : decode cX11_fillsFits 124 = .ok (.iload_n 3, 1) := by decide +kernel
theorem dX11_fillsFits_125 : decode cX11_fillsFits 125 = .ok (.iload 4, 2) := by decide +kernel
theorem dX11_fillsFits_127 : decode cX11_fillsFits 127 = .ok (.bastore, 1) := by decide +kernel
theorem dX11_fillsFits_128 : decode cX11_fillsFits 128 = .ok (.iinc 3 1, 3) := by decide +kernel
theorem dX11_fillsFits_131 : decode cX11_fillsFits 131 = .ok (.goto (-120), 3) := by decide +kernel
theorem dX11_fillsFits_134 : decode cX11_fillsFits 134 = .ok (.aload_n 0, 1) := by decide +kernel
theorem dX11_fillsFits_135 : decode cX11_fillsFits 135 = .ok (.iload_n 2, 1) := by decide +kernel
theorem dX11_fillsFits_136 : decode cX11_fillsFits 136 = .ok (.putfield 42, 3) := by decide +kernel
theorem dX11_fillsFits_139 : decode cX11_fillsFits 139 = .ok (.aload_n 0, 1) := by decide +kernel
theorem dX11_fillsFits_140 : decode cX11_fillsFits 140 = .ok (.invokevirtual 382, 3) := by decide +kernel
theorem dX11_fillsFits_143 : decode cX11_fillsFits 143 = .ok (.return_, 1) := by decide +kernel
theorem dX11_ruled_0 : decode cX11_ruled 0 = .ok (.aload_n 0, 1) := by decide +kernel
theorem dX11_ruled_1 : decode cX11_ruled 1 = .ok (.invokevirtual 294, 3) := by decide +kernel
theorem dX11_ruled_4 : decode cX11_ruled 4 = .ok (.ifCond .eq 13, 3) := by decide +kernel
theorem dX11_ruled_7 : decode cX11_ruled 7 = .ok (.iload_n 1, 1) := by decide +kernel
theorem dX11_ruled_8 : decode cX11_ruled 8 = .ok (.i2l, 1) := by decide +kernel
theorem dX11_ruled_9 : decode cX11_ruled 9 = .ok (.lconst 0, 1) := by decide +kernel
theorem dX11_ruled_10 : decode cX11_ruled 10 = .ok (.lconst 1, 1) := by decide +kernel
theorem dX11_ruled_11 : decode cX11_ruled 11 = .ok (.invokestatic 130, 3) := by decide +kernel
theorem dX11_ruled_14 : decode cX11_ruled 14 = .ok (.ifCond .ne 6, 3) := by decide +kernel
theorem dX11_ruled_17 : decode cX11_ruled 17 = .ok (.bipush (-3), 2) := by decide +kernel
theorem dX11_ruled_19 : decode cX11_ruled 19 = .ok (.ireturn, 1) := by decide +kernel
theorem dX11_ruled_20 : decode cX11_ruled 20 = .ok (.aload_n 0, 1) := by decide +kernel
theorem dX11_ruled_21 : decode cX11_ruled 21 = .ok (.iconst 0, 1) := by decide +kernel
theorem dX11_ruled_22 : decode cX11_ruled 22 = .ok (.invokevirtual 448, 3) := by decide +kernel
theorem dX11_ruled_25 : decode cX11_ruled 25 = .ok (.iconst 0, 1) := by decide +kernel
theorem dX11_ruled_26 : decode cX11_ruled 26 = .ok (.istore_n 2, 1) := by decide +kernel
theorem dX11_ruled_27 : decode cX11_ruled 27 = .ok (.bipush (-2), 2) := by decide +kernel
theorem dX11_ruled_29 : decode cX11_ruled 29 = .ok (.istore_n 3, 1) := by decide +kernel
theorem dX11_ruled_30 : decode cX11_ruled 30 = .ok (.aload_n 0, 1) := by decide +kernel
theorem dX11_ruled_31 : decode cX11_ruled 31 = .ok (.getfield 267, 3) := by decide +kernel
theorem dX11_ruled_34 : decode cX11_ruled 34 = .ok (.istore 4, 2) := by decide +kernel
theorem dX11_ruled_36 : decode cX11_ruled 36 = .ok (.iload 4, 2) := by decide +kernel
theorem dX11_ruled_38 : decode cX11_ruled 38 = .ok (.ifCond .lt 30, 3) := by decide +kernel
theorem dX11_ruled_41 : decode cX11_ruled 41 = .ok (.aload_n 0, 1) := by decide +kernel
theorem dX11_ruled_42 : decode cX11_ruled 42 = .ok (.getfield 73, 3) := by decide +kernel
theorem dX11_ruled_45 : decode cX11_ruled 45 = .ok (.iload 4, 2) := by decide +kernel
theorem dX11_ruled_47 : decode cX11_ruled 47 = .ok (.baload, 1) := by decide +kernel
theorem dX11_ruled_48 : decode cX11_ruled 48 = .ok (.ifCond .ne 6, 3) := by decide +kernel
theorem dX11_ruled_51 : decode cX11_ruled 51 = .ok (.goto 11, 3) := by decide +kernel
theorem dX11_ruled_54 : decode cX11_ruled 54 = .ok (.iload 4, 2) := by decide +kernel
theorem dX11_ruled_56 : decode cX11_ruled 56 = .ok (.iconst 1, 1) := by decide +kernel
theorem dX11_ruled_57 : decode cX11_ruled 57 = .ok (.isub, 1) := by decide +kernel
theorem dX11_ruled_58 : decode cX11_ruled 58 = .ok (.istore_n 3, 1) := by decide +kernel
theorem dX11_ruled_59 : decode cX11_ruled 59 = .ok (.iinc 2 1, 3) := by decide +kernel
theorem dX11_ruled_62 : decode cX11_ruled 62 = .ok (.iinc 4 (-1), 3) := by decide +kernel
theorem dX11_ruled_65 : decode cX11_ruled 65 = .ok (.goto (-29), 3) := by decide +kernel
theorem dX11_ruled_68 : decode cX11_ruled 68 = .ok (.iload_n 1, 1) := by decide +kernel
theorem dX11_ruled_69 : decode cX11_ruled 69 = .ok (.ifCond .ne 7, 3) := by decide +kernel
theorem dX11_ruled_72 : decode cX11_ruled 72 = .ok (.iload_n 2, 1) := by decide +kernel
theorem dX11_ruled_73 : decode cX11_ruled 73 = .ok (.goto 4, 3) := by decide +kernel
theorem dX11_ruled_76 : decode cX11_ruled 76 = .ok (.iload_n 3, 1) := by decide +kernel
theorem dX11_ruled_77 : decode cX11_ruled 77 = .ok (.ireturn, 1) := by decide +kernel
theorem dX11_alikeAt_0 : decode cX11_alikeAt 0 = .ok (.iconst 0, 1) := by decide +kernel
theorem dX11_alikeAt_1 : decode cX11_alikeAt 1 = .ok (.istore_n 2, 1) := by decide +kernel
theorem dX11_alikeAt_2 : decode cX11_alikeAt 2 = .ok (.iconst 0, 1) := by decide +kernel
theorem dX11_alikeAt_3 : decode cX11_alikeAt 3 = .ok (.istore_n 3, 1) := by decide +kernel
theorem dX11_alikeAt_4 : decode cX11_alikeAt 4 = .ok (.iload_n 3, 1) := by decide +kernel
theorem dX11_alikeAt_5 : decode cX11_alikeAt 5 = .ok (.aload_n 0, 1) := by decide +kernel
theorem dX11_alikeAt_6 : decode cX11_alikeAt 6 = .ok (.getfield 267, 3) := by decide +kernel
theorem dX11_alikeAt_9 : decode cX11_alikeAt 9 = .ok (.if_icmp .gt 98, 3) := by decide +kernel
theorem dX11_alikeAt_12 : decode cX11_alikeAt 12 = .ok (.iconst 0, 1) := by decide +kernel
theorem dX11_alikeAt_13 : decode cX11_alikeAt 13 = .ok (.istore 4, 2) := by decide +kernel
theorem dX11_alikeAt_15 : decode cX11_alikeAt 15 = .ok (.iconst 0, 1) := by decide +kernel
theorem dX11_alikeAt_16 : decode cX11_alikeAt 16 = .ok (.istore 5, 2) := by decide +kernel
theorem dX11_alikeAt_18 : decode cX11_alikeAt 18 = .ok (.iload 5, 2) := by decide +kernel
theorem dX11_alikeAt_20 : decode cX11_alikeAt 20 = .ok (.aload_n 0, 1) := by decide +kernel
theorem dX11_alikeAt_21 : decode cX11_alikeAt 21 = .ok (.getfield 267, 3) := by decide +kernel
theorem dX11_alikeAt_24 : decode cX11_alikeAt 24 = .ok (.if_icmp .gt 64, 3) := by decide +kernel
theorem dX11_alikeAt_27 : decode cX11_alikeAt 27 = .ok (.aload_n 0, 1) := by decide +kernel
theorem dX11_alikeAt_28 : decode cX11_alikeAt 28 = .ok (.getfield 73, 3) := by decide +kernel
theorem dX11_alikeAt_31 : decode cX11_alikeAt 31 = .ok (.iload_n 3, 1) := by decide +kernel
theorem dX11_alikeAt_32 : decode cX11_alikeAt 32 = .ok (.baload, 1) := by decide +kernel
theorem dX11_alikeAt_33 : decode cX11_alikeAt 33 = .ok (.ifCond .eq 55, 3) := by decide +kernel
theorem dX11_alikeAt_36 : decode cX11_alikeAt 36 = .ok (.iload 4, 2) := by decide +kernel
theorem dX11_alikeAt_38 : decode cX11_alikeAt 38 = .ok (.aload_n 0, 1) := by decide +kernel
theorem dX11_alikeAt_39 : decode cX11_alikeAt 39 = .ok (.getfield 73, 3) := by decide +kernel
theorem dX11_alikeAt_42 : decode cX11_alikeAt 42 = .ok (.iload 5, 2) := by decide +kernel
theorem dX11_alikeAt_44 : decode cX11_alikeAt 44 = .ok (.baload, 1) := by decide +kernel
theorem dX11_alikeAt_45 : decode cX11_alikeAt 45 = .ok (.ifCond .eq 33, 3) := by decide +kernel
theorem dX11_alikeAt_48 : decode cX11_alikeAt 48 = .ok (.aload_n 0, 1) := by decide +kernel
theorem dX11_alikeAt_49 : decode cX11_alikeAt 49 = .ok (.getfield 77, 3) := by decide +kernel
theorem dX11_alikeAt_52 : decode cX11_alikeAt 52 = .ok (.bipush 6, 2) := by decide +kernel
theorem dX11_alikeAt_54 : decode cX11_alikeAt 54 = .ok (.iload_n 3, 1) := by decide +kernel
theorem dX11_alikeAt_55 : decode cX11_alikeAt 55 = .ok (.imul, 1) := by decide +kernel
theorem dX11_alikeAt_56 : decode cX11_alikeAt 56 = .ok (.iload_n 1, 1) := by decide +kernel
theorem dX11_alikeAt_57 : decode cX11_alikeAt 57 = .ok (.iadd, 1) := by decide +kernel
theorem dX11_alikeAt_58 : decode cX11_alikeAt 58 = .ok (.iaload, 1) := by decide +kernel
theorem dX11_alikeAt_59 : decode cX11_alikeAt 59 = .ok (.aload_n 0, 1) := by decide +kernel
theorem dX11_alikeAt_60 : decode cX11_alikeAt 60 = .ok (.getfield 77, 3) := by decide +kernel
theorem dX11_alikeAt_63 : decode cX11_alikeAt 63 = .ok (.bipush 6, 2) := by decide +kernel
theorem dX11_alikeAt_65 : decode cX11_alikeAt 65 = .ok (.iload 5, 2) := by decide +kernel
theorem dX11_alikeAt_67 : decode cX11_alikeAt 67 = .ok (.imul, 1) := by decide +kernel
theorem dX11_alikeAt_68 : decode cX11_alikeAt 68 = .ok (.iload_n 1, 1) := by decide +kernel
theorem dX11_alikeAt_69 : decode cX11_alikeAt 69 = .ok (.iadd, 1) := by decide +kernel
theorem dX11_alikeAt_70 : decode cX11_alikeAt 70 = .ok (.iaload, 1) := by decide +kernel
theorem dX11_alikeAt_71 : decode cX11_alikeAt 71 = .ok (.if_icmp .ne 7, 3) := by decide +kernel
theorem dX11_alikeAt_74 : decode cX11_alikeAt 74 = .ok (.iconst 1, 1) := by decide +kernel
theorem dX11_alikeAt_75 : decode cX11_alikeAt 75 = .ok (.goto 4, 3) := by decide +kernel
theorem dX11_alikeAt_78 : decode cX11_alikeAt 78 = .ok (.iconst 0, 1) := by decide +kernel
theorem dX11_alikeAt_79 : decode cX11_alikeAt 79 = .ok (.iadd, 1) := by decide +kernel
theorem dX11_alikeAt_80 : decode cX11_alikeAt 80 = .ok (.istore 4, 2) := by decide +kernel
theorem dX11_alikeAt_82 : decode cX11_alikeAt 82 = .ok (.iinc 5 1, 3) := by decide +kernel
theorem dX11_alikeAt_85 : decode cX11_alikeAt 85 = .ok (.goto (-67), 3) := by decide +kernel
theorem dX11_alikeAt_88 : decode cX11_alikeAt 88 = .ok (.iload 4, 2) := by decide +kernel
theorem dX11_alikeAt_90 : decode cX11_alikeAt 90 = .ok (.iload_n 2, 1) := by decide +kernel
theorem dX11_alikeAt_91 : decode cX11_alikeAt 91 = .ok (.if_icmp .le 8, 3) := by decide +kernel
theorem dX11_alikeAt_94 : decode cX11_alikeAt 94 = .ok (.iload 4, 2) := by decide +kernel
theorem dX11_alikeAt_96 : decode cX11_alikeAt 96 = .ok (.goto 4, 3) := by decide +kernel
theorem dX11_alikeAt_99 : decode cX11_alikeAt 99 = .ok (.iload_n 2, 1) := by decide +kernel
theorem dX11_alikeAt_100 : decode cX11_alikeAt 100 = .ok (.istore_n 2, 1) := by decide +kernel
theorem dX11_alikeAt_101 : decode cX11_alikeAt 101 = .ok (.iinc 3 1, 3) := by decide +kernel
theorem dX11_alikeAt_104 : decode cX11_alikeAt 104 = .ok (.goto (-100), 3) := by decide +kernel
theorem dX11_alikeAt_107 : decode cX11_alikeAt 107 = .ok (.iload_n 2, 1) := by decide +kernel
theorem dX11_alikeAt_108 : decode cX11_alikeAt 108 = .ok (.ireturn, 1) := by decide +kernel
theorem dX11_look_0 : decode cX11_look 0 = .ok (.aload_n 0, 1) := by decide +kernel
theorem dX11_look_1 : decode cX11_look 1 = .ok (.invokevirtual 294, 3) := by decide +kernel
theorem dX11_look_4 : decode cX11_look 4 = .ok (.ifCond .eq 25, 3) := by decide +kernel
theorem dX11_look_7 : decode cX11_look 7 = .ok (.iload_n 1, 1) := by decide +kernel
theorem dX11_look_8 : decode cX11_look 8 = .ok (.i2l, 1) := by decide +kernel
theorem dX11_look_9 : decode cX11_look 9 = .ok (.lconst 0, 1) := by decide +kernel
theorem dX11_look_10 : decode cX11_look 10 = .ok (.ldc2_w 419, 3) := by decide +kernel
theorem dX11_look_13 : decode cX11_look 13 = .ok (.invokestatic 130, 3) := by decide +kernel
theorem dX11_look_16 : decode cX11_look 16 = .ok (.ifCond .eq 13, 3) := by decide +kernel
theorem dX11_look_19 : decode cX11_look 19 = .ok (.iload_n 2, 1) := by decide +kernel
theorem dX11_look_20 : decode cX11_look 20 = .ok (.i2l, 1) := by decide +kernel
theorem dX11_look_21 : decode cX11_look 21 = .ok (.lconst 0, 1) := by decide +kernel
theorem dX11_look_22 : decode cX11_look 22 = .ok (.lconst 1, 1) := by decide +kernel
theorem dX11_look_23 : decode cX11_look 23 = .ok (.invokestatic 130, 3) := by decide +kernel
theorem dX11_look_26 : decode cX11_look 26 = .ok (.ifCond .ne 5, 3) := by decide +kernel
theorem dX11_look_29 : decode cX11_look 29 = .ok (.iconst (-1), 1) := by decide +kernel
theorem dX11_look_30 : decode cX11_look 30 = .ok (.ireturn, 1) := by decide +kernel
theorem dX11_look_31 : decode cX11_look 31 = .ok (.aload_n 0, 1) := by decide +kernel
theorem dX11_look_32 : decode cX11_look 32 = .ok (.iload_n 1, 1) := by decide +kernel
theorem dX11_look_33 : decode cX11_look 33 = .ok (.invokevirtual 448, 3) := by decide +kernel
theorem dX11_look_36 : decode cX11_look 36 = .ok (.bipush (-2), 2) := by decide +kernel
theorem dX11_look_38 : decode cX11_look 38 = .ok (.istore_n 3, 1) := by decide +kernel
theorem dX11_look_39 : decode cX11_look 39 = .ok (.bipush (-2), 2) := by decide +kernel
theorem dX11_look_41 : decode cX11_look 41 = .ok (.istore 4, 2) := by decide +kernel
theorem dX11_look_43 : decode cX11_look 43 = .ok (.iconst 0, 1) := by decide +kernel
theorem dX11_look_44 : decode cX11_look 44 = .ok (.istore 5, 2) := by decide +kernel
theorem dX11_look_46 : decode cX11_look 46 = .ok (.iload 5, 2) := by decide +kernel
theorem dX11_look_48 : decode cX11_look 48 = .ok (.aload_n 0, 1) := by decide +kernel
theorem dX11_look_49 : decode cX11_look 49 = .ok (.getfield 39, 3) := by decide +kernel
theorem dX11_look_52 : decode cX11_look 52 = .ok (.iconst 3, 1) := by decide +kernel
theorem dX11_look_53 : decode cX11_look 53 = .ok (.iaload, 1) := by decide +kernel
theorem dX11_look_54 : decode cX11_look 54 = .ok (.if_icmp .ge 43, 3) := by decide +kernel
theorem dX11_look_57 : decode cX11_look 57 = .ok (.aload_n 0, 1) := by decide +kernel
theorem dX11_look_58 : decode cX11_look 58 = .ok (.iload 5, 2) := by decide +kernel
theorem dX11_look_60 : decode cX11_look 60 = .ok (.invokevirtual 451, 3) := by decide +kernel
theorem dX11_look_63 : decode cX11_look 63 = .ok (.istore 6, 2) := by decide +kernel
theorem dX11_look_65 : decode cX11_look 65 = .ok (.iload 6, 2) := by decide +kernel
theorem dX11_look_67 : decode cX11_look 67 = .ok (.ifCond .eq 24, 3) := by decide +kernel
theorem dX11_look_70 : decode cX11_look 70 = .ok (.iload_n 3, 1) := by decide +kernel
theorem dX11_look_71 : decode cX11_look 71 = .ok (.ifCond .lt 13, 3) := by decide +kernel
theorem dX11_look_74 : decode cX11_look 74 = .ok (.iload 6, 2) := by decide +kernel
theorem dX11_look_76 : decode cX11_look 76 = .ok (.iload 4, 2) := by decide +kernel
theorem dX11_look_78 : decode cX11_look 78 = .ok (.if_icmp .lt 6, 3) := by decide +kernel
theorem dX11_look_81 : decode cX11_look 81 = .ok (.goto 10, 3) := by decide +kernel
theorem dX11_look_84 : decode cX11_look 84 = .ok (.iload 5, 2) := by decide +kernel
theorem dX11_look_86 : decode cX11_look 86 = .ok (.istore_n 3, 1) := by decide +kernel
theorem dX11_look_87 : decode cX11_look 87 = .ok (.iload 6, 2) := by decide +kernel
theorem dX11_look_89 : decode cX11_look 89 = .ok (.istore 4, 2) := by decide +kernel
theorem dX11_look_91 : decode cX11_look 91 = .ok (.iinc 5 1, 3) := by decide +kernel
theorem dX11_look_94 : decode cX11_look 94 = .ok (.goto (-48), 3) := by decide +kernel
theorem dX11_look_97 : decode cX11_look 97 = .ok (.iload_n 2, 1) := by decide +kernel
theorem dX11_look_98 : decode cX11_look 98 = .ok (.ifCond .ne 7, 3) := by decide +kernel
theorem dX11_look_101 : decode cX11_look 101 = .ok (.iload_n 3, 1) := by decide +kernel
theorem dX11_look_102 : decode cX11_look 102 = .ok (.goto 5, 3) := by decide +kernel
theorem dX11_look_105 : decode cX11_look 105 = .ok (.iload 4, 2) := by decide +kernel
theorem dX11_look_107 : decode cX11_look 107 = .ok (.ireturn, 1) := by decide +kernel
theorem dX11_seed_0 : decode cX11_seed 0 = .ok (.iload_n 1, 1) := by decide +kernel
theorem dX11_seed_1 : decode cX11_seed 1 = .ok (.ifCond .ge 5, 3) := by decide +kernel
theorem dX11_seed_4 : decode cX11_seed 4 = .ok (.iconst (-1), 1) := by decide +kernel
theorem dX11_seed_5 : decode cX11_seed 5 = .ok (.ireturn, 1) := by decide +kernel
theorem dX11_seed_6 : decode cX11_seed 6 = .ok (.aload_n 0, 1) := by decide +kernel
theorem dX11_seed_7 : decode cX11_seed 7 = .ok (.getfield 454, 3) := by decide +kernel
theorem dX11_seed_10 : decode cX11_seed 10 = .ok (.istore_n 2, 1) := by decide +kernel
theorem dX11_seed_11 : decode cX11_seed 11 = .ok (.aload_n 0, 1) := by decide +kernel
theorem dX11_seed_12 : decode cX11_seed 12 = .ok (.iload_n 1, 1) := by decide +kernel
theorem dX11_seed_13 : decode cX11_seed 13 = .ok (.putfield 454, 3) := by decide +kernel
theorem dX11_seed_16 : decode cX11_seed 16 = .ok (.iload_n 2, 1) := by decide +kernel
theorem dX11_seed_17 : decode cX11_seed 17 = .ok (.ireturn, 1) := by decide +kernel
theorem dX11_draw_0 : decode cX11_draw 0 = .ok (.aload_n 0, 1) := by decide +kernel
theorem dX11_draw_1 : decode cX11_draw 1 = .ok (.aload_n 0, 1) := by decide +kernel
theorem dX11_draw_2 : decode cX11_draw 2 = .ok (.getfield 457, 3) := by decide +kernel
theorem dX11_draw_5 : decode cX11_draw 5 = .ok (.ldc2_w 461, 3) := by decide +kernel
theorem dX11_draw_8 : decode cX11_draw 8 = .ok (.lmul, 1) := by decide +kernel
theorem dX11_draw_9 : decode cX11_draw 9 = .ok (.ldc2_w 463, 3) := by decide +kernel
theorem dX11_draw_12 : decode cX11_draw 12 = .ok (.ladd, 1) := by decide +kernel
theorem dX11_draw_13 : decode cX11_draw 13 = .ok (.ldc2_w 465, 3) := by decide +kernel
theorem dX11_draw_16 : decode cX11_draw 16 = .ok (.lrem, 1) := by decide +kernel
theorem dX11_draw_17 : decode cX11_draw 17 = .ok (.putfield 457, 3) := by decide +kernel
theorem dX11_draw_20 : decode cX11_draw 20 = .ok (.aload_n 0, 1) := by decide +kernel
theorem dX11_draw_21 : decode cX11_draw 21 = .ok (.getfield 457, 3) := by decide +kernel
theorem dX11_draw_24 : decode cX11_draw 24 = .ok (.ldc2_w 467, 3) := by decide +kernel
theorem dX11_draw_27 : decode cX11_draw 27 = .ok (.ldiv, 1) := by decide +kernel
theorem dX11_draw_28 : decode cX11_draw 28 = .ok (.iload_n 1, 1) := by decide +kernel
theorem dX11_draw_29 : decode cX11_draw 29 = .ok (.i2l, 1) := by decide +kernel
theorem dX11_draw_30 : decode cX11_draw 30 = .ok (.lrem, 1) := by decide +kernel
theorem dX11_draw_31 : decode cX11_draw 31 = .ok (.l2i, 1) := by decide +kernel
theorem dX11_draw_32 : decode cX11_draw 32 = .ok (.ireturn, 1) := by decide +kernel
theorem dX11_mornings_0 : decode cX11_mornings 0 = .ok (.aload_n 0, 1) := by decide +kernel
theorem dX11_mornings_1 : decode cX11_mornings 1 = .ok (.invokevirtual 294, 3) := by decide +kernel
theorem dX11_mornings_4 : decode cX11_mornings 4 = .ok (.ifCond .eq 50, 3) := by decide +kernel
theorem dX11_mornings_7 : decode cX11_mornings 7 = .ok (.iload_n 1, 1) := by decide +kernel
theorem dX11_mornings_8 : decode cX11_mornings 8 = .ok (.i2l, 1) := by decide +kernel
theorem dX11_mornings_9 : decode cX11_mornings 9 = .ok (.lconst 1, 1) := by decide +kernel
theorem dX11_mornings_10 : decode cX11_mornings 10 = .ok (.ldc2_w 469, 3) := by decide +kernel
theorem dX11_mornings_13 : decode cX11_mornings 13 = .ok (.invokestatic 130, 3) := by decide +kernel
theorem dX11_mornings_16 : decode cX11_mornings 16 = .ok (.ifCond .eq 38, 3) := by decide +kernel
theorem dX11_mornings_19 : decode cX11_mornings 19 = .ok (.iload_n 2, 1) := by decide +kernel
theorem dX11_mornings_20 : decode cX11_mornings 20 = .ok (.i2l, 1) := by decide +kernel
theorem dX11_mornings_21 : decode cX11_mornings 21 = .ok (.lconst 1, 1) := by decide +kernel
theorem dX11_mornings_22 : decode cX11_mornings 22 = .ok (.ldc2_w 419, 3) := by decide +kernel
theorem dX11_mornings_25 : decode cX11_mornings 25 = .ok (.invokestatic 130, 3) := by decide +kernel
theorem dX11_mornings_28 : decode cX11_mornings 28 = .ok (.ifCond .eq 26, 3) := by decide +kernel
theorem dX11_mornings_31 : decode cX11_mornings 31 = .ok (.iload_n 3, 1) := by decide +kernel
theorem dX11_mornings_32 : decode cX11_mornings 32 = .ok (.i2l, 1) := by decide +kernel
theorem dX11_mornings_33 : decode cX11_mornings 33 = .ok (.lconst 0, 1) := by decide +kernel
theorem dX11_mornings_34 : decode cX11_mornings 34 = .ok (.ldc2_w 372, 3) := by decide +kernel
theorem dX11_mornings_37 : decode cX11_mornings 37 = .ok (.invokestatic 130, 3) := by decide +kernel
theorem dX11_mornings_40 : decode cX11_mornings 40 = .ok (.ifCond .eq 14, 3) := by decide +kernel
theorem dX11_mornings_43 : decode cX11_mornings 43 = .ok (.iload 4, 2) := by decide +kernel
theorem dX11_mornings_45 : decode cX11_mornings 45 = .ok (.i2l, 1) := by decide +kernel
theorem dX11_mornings_46 : decode cX11_mornings 46 = .ok (.lconst 0, 1) := by decide +kernel
theorem dX11_mornings_47 : decode cX11_mornings 47 = .ok (.lconst 1, 1) := by decide +kernel
theorem dX11_mornings_48 : decode cX11_mornings 48 = .ok (.invokestatic 130, 3) := by decide +kernel
theorem dX11_mornings_51 : decode cX11_mornings 51 = .ok (.ifCond .ne 7, 3) := by decide +kernel
theorem dX11_mornings_54 : decode cX11_mornings 54 = .ok (.ldc_w 471, 3) := by decide +kernel
theorem dX11_mornings_57 : decode cX11_mornings 57 = .ok (.ireturn, 1) := by decide +kernel
theorem dX11_mornings_58 : decode cX11_mornings 58 = .ok (.aload_n 0, 1) := by decide +kernel
theorem dX11_mornings_59 : decode cX11_mornings 59 = .ok (.aload_n 0, 1) := by decide +kernel
theorem dX11_mornings_60 : decode cX11_mornings 60 = .ok (.getfield 454, 3) := by decide +kernel
theorem dX11_mornings_63 : decode cX11_mornings 63 = .ok (.i2l, 1) := by decide +kernel
theorem dX11_mornings_64 : decode cX11_mornings 64 = .ok (.putfield 457, 3) := by decide +kernel
theorem dX11_mornings_67 : decode cX11_mornings 67 = .ok (.iconst 0, 1) := by decide +kernel
theorem dX11_mornings_68 : decode cX11_mornings 68 = .ok (.istore 5, 2) := by decide +kernel
theorem dX11_mornings_70 : decode cX11_mornings 70 = .ok (.iconst 0, 1) := by decide +kernel
theorem dX11_mornings_71 : decode cX11_mornings 71 = .ok (.istore 6, 2) := by decide +kernel
theorem dX11_mornings_73 : decode cX11_mornings 73 = .ok (.aload_n 0, 1) := by decide +kernel
theorem dX11_mornings_74 : decode cX11_mornings 74 = .ok (.iconst 2, 1) := by decide +kernel
theorem dX11_mornings_75 : decode cX11_mornings 75 = .ok (.invokevirtual 340, 3) := by decide +kernel
theorem dX11_mornings_78 : decode cX11_mornings 78 = .ok (.istore 7, 2) := by decide +kernel
theorem dX11_mornings_80 : decode cX11_mornings 80 = .ok (.aload_n 0, 1) := by decide +kernel
theorem dX11_mornings_81 : decode cX11_mornings 81 = .ok (.invokevirtual 376, 3) := by decide +kernel
theorem dX11_mornings_84 : decode cX11_mornings 84 = .ok (.iconst 0, 1) := by decide +kernel
theorem dX11_mornings_85 : decode cX11_mornings 85 = .ok (.istore 8, 2) := by decide +kernel
theorem dX11_mornings_87 : decode cX11_mornings 87 = .ok (.iload 8, 2) := by decide +kernel
theorem dX11_mornings_89 : decode cX11_mornings 89 = .ok (.iload_n 1, 1) := by decide +kernel
theorem dX11_mornings_90 : decode cX11_mornings 90 = .ok (.if_icmp .ge 100, 3) := by decide +kernel
theorem dX11_mornings_93 : decode cX11_mornings 93 = .ok (.iconst 0, 1) := by decide +kernel
theorem dX11_mornings_94 : decode cX11_mornings 94 = .ok (.istore 9, 2) := by decide +kernel
theorem dX11_mornings_96 : decode cX11_mornings 96 = .ok (.iload 9, 2) := by decide +kernel
theorem dX11_mornings_98 : decode cX11_mornings 98 = .ok (.iload_n 2, 1) := by decide +kernel
theorem dX11_mornings_99 : decode cX11_mornings 99 = .ok (.if_icmp .ge 48, 3) := by decide +kernel
theorem dX11_mornings_102 : decode cX11_mornings 102 = .ok (.aload_n 0, 1) := by decide +kernel
theorem dX11_mornings_103 : decode cX11_mornings 103 = .ok (.bipush 100, 2) := by decide +kernel
theorem dX11_mornings_105 : decode cX11_mornings 105 = .ok (.invokevirtual 472, 3) := by decide +kernel
theorem dX11_mornings_108 : decode cX11_mornings 108 = .ok (.iload_n 3, 1) := by decide +kernel
theorem dX11_mornings_109 : decode cX11_mornings 109 = .ok (.if_icmp .ge 27, 3) := by decide +kernel
theorem dX11_mornings_112 : decode cX11_mornings 112 = .ok (.aload_n 0, 1) := by decide +kernel
theorem dX11_mornings_113 : decode cX11_mornings 113 = .ok (.getfield 39, 3) := by decide +kernel
theorem dX11_mornings_116 : decode cX11_mornings 116 = .ok (.iconst 3, 1) := by decide +kernel
theorem dX11_mornings_117 : decode cX11_mornings 117 = .ok (.iaload, 1) := by decide +kernel
theorem dX11_mornings_118 : decode cX11_mornings 118 = .ok (.ifCond .le 18, 3) := by decide +kernel
theorem dX11_mornings_121 : decode cX11_mornings 121 = .ok (.aload_n 0, 1) := by decide +kernel
theorem dX11_mornings_122 : decode cX11_mornings 122 = .ok (.aload_n 0, 1) := by decide +kernel
theorem dX11_mornings_123 : decode cX11_mornings 123 = .ok (.aload_n 0, 1) := by decide +kernel
theorem dX11_mornings_124 : decode cX11_mornings 124 = .ok (.getfield 39, 3) := by decide +kernel
theorem dX11_mornings_127 : decode cX11_mornings 127 = .ok (.iconst 3, 1) := by decide +kernel
theorem dX11_mornings_128 : decode cX11_mornings 128 = .ok (.iaload, 1) := by decide +kernel
theorem dX11_mornings_129 : decode cX11_mornings 129 = .ok (.invokevirtual 472, 3) := by decide +kernel
theorem dX11_mornings_132 : decode cX11_mornings 132 = .ok (.iconst 3, 1) := by decide +kernel
theorem dX11_mornings_133 : decode cX11_mornings 133 = .ok (.invokevirtual 350, 3) := by decide +kernel
theorem dX11_mornings_136 : decode cX11_mornings 136 = .ok (.aload_n 0, 1) := by decide +kernel
theorem dX11_mornings_137 : decode cX11_mornings 137 = .ok (.invokevirtual 362, 3) := by decide +kernel
theorem dX11_mornings_140 : decode cX11_mornings 140 = .ok (.pop, 1) := by decide +kernel
theorem dX11_mornings_141 : decode cX11_mornings 141 = .ok (.iinc 9 1, 3) := by decide +kernel
theorem dX11_mornings_144 : decode cX11_mornings 144 = .ok (.goto (-48), 3) := by decide +kernel
theorem dX11_mornings_147 : decode cX11_mornings 147 = .ok (.iload 5, 2) := by decide +kernel
theorem dX11_mornings_149 : decode cX11_mornings 149 = .ok (.aload_n 0, 1) := by decide +kernel
theorem dX11_mornings_150 : decode cX11_mornings 150 = .ok (.iconst 2, 1) := by decide +kernel
theorem dX11_mornings_151 : decode cX11_mornings 151 = .ok (.invokevirtual 340, 3) := by decide +kernel
theorem dX11_mornings_154 : decode cX11_mornings 154 = .ok (.iload 7, 2) := by decide +kernel
theorem dX11_mornings_156 : decode cX11_mornings 156 = .ok (.isub, 1) := by decide +kernel
theorem dX11_mornings_157 : decode cX11_mornings 157 = .ok (.iadd, 1) := by decide +kernel
theorem dX11_mornings_158 : decode cX11_mornings 158 = .ok (.istore 5, 2) := by decide +kernel
theorem dX11_mornings_160 : decode cX11_mornings 160 = .ok (.iload 6, 2) := by decide +kernel
theorem dX11_mornings_162 : decode cX11_mornings 162 = .ok (.aload_n 0, 1) := by decide +kernel
theorem dX11_mornings_163 : decode cX11_mornings 163 = .ok (.getfield 39, 3) := by decide +kernel
theorem dX11_mornings_166 : decode cX11_mornings 166 = .ok (.bipush 53, 2) := by decide +kernel
theorem dX11_mornings_168 : decode cX11_mornings 168 = .ok (.iaload, 1) := by decide +kernel
theorem dX11_mornings_169 : decode cX11_mornings 169 = .ok (.aload_n 0, 1) := by decide +kernel
theorem dX11_mornings_170 : decode cX11_mornings 170 = .ok (.getfield 58, 3) := by decide +kernel
theorem dX11_mornings_173 : decode cX11_mornings 173 = .ok (.bipush 43, 2) := by decide +kernel
theorem dX11_mornings_175 : decode cX11_mornings 175 = .ok (.iaload, 1) := by decide +kernel
theorem dX11_mornings_176 : decode cX11_mornings 176 = .ok (.isub, 1) := by decide +kernel
theorem dX11_mornings_177 : decode cX11_mornings 177 = .ok (.iadd, 1) := by decide +kernel
theorem dX11_mornings_178 : decode cX11_mornings 178 = .ok (.istore 6, 2) := by decide +kernel
theorem dX11_mornings_180 : decode cX11_mornings 180 = .ok (.aload_n 0, 1) := by decide +kernel
theorem dX11_mornings_181 : decode cX11_mornings 181 = .ok (.invokevirtual 382, 3) := by decide +kernel
theorem dX11_mornings_184 : decode cX11_mornings 184 = .ok (.iinc 8 1, 3) := by decide +kernel
theorem dX11_mornings_187 : decode cX11_mornings 187 = .ok (.goto (-100), 3) := by decide +kernel
theorem dX11_mornings_190 : decode cX11_mornings 190 = .ok (.iload 4, 2) := by decide +kernel
theorem dX11_mornings_192 : decode cX11_mornings 192 = .ok (.ifCond .ne 8, 3) := by decide +kernel
theorem dX11_mornings_195 : decode cX11_mornings 195 = .ok (.iload 5, 2) := by decide +kernel
theorem dX11_mornings_197 : decode cX11_mornings 197 = .ok (.goto 5, 3) := by decide +kernel
theorem dX11_mornings_200 : decode cX11_mornings 200 = .ok (.iload 6, 2) := by decide +kernel
theorem dX11_mornings_202 : decode cX11_mornings 202 = .ok (.ireturn, 1) := by decide +kernel
theorem dX11_count_0 : decode cX11_count 0 = .ok (.iload_n 1, 1) := by decide +kernel
theorem dX11_count_1 : decode cX11_count 1 = .ok (.tableswitch 144 0 13 #[71, 71, 71, 80, 85, 90, 98, 103, 109, 115, 121, 129, 134, 139], 71) := by decide +kernel
theorem dX11_count_72 : decode cX11_count 72 = .ok (.aload_n 0, 1) := by decide +kernel
theorem dX11_count_73 : decode cX11_count 73 = .ok (.getfield 39, 3) := by decide +kernel
theorem dX11_count_76 : decode cX11_count 76 = .ok (.iload_n 1, 1) := by decide +kernel
theorem dX11_count_77 : decode cX11_count 77 = .ok (.iconst 1, 1) := by decide +kernel
theorem dX11_count_78 : decode cX11_count 78 = .ok (.iadd, 1) := by decide +kernel
theorem dX11_count_79 : decode cX11_count 79 = .ok (.iaload, 1) := by decide +kernel
theorem dX11_count_80 : decode cX11_count 80 = .ok (.ireturn, 1) := by decide +kernel
theorem dX11_count_81 : decode cX11_count 81 = .ok (.aload_n 0, 1) := by decide +kernel
theorem dX11_count_82 : decode cX11_count 82 = .ok (.getfield 267, 3) := by decide +kernel
theorem dX11_count_85 : decode cX11_count 85 = .ok (.ireturn, 1) := by decide +kernel
theorem dX11_count_86 : decode cX11_count 86 = .ok (.aload_n 0, 1) := by decide +kernel
theorem dX11_count_87 : decode cX11_count 87 = .ok (.getfield 42, 3) := by decide +kernel
theorem dX11_count_90 : decode cX11_count 90 = .ok (.ireturn, 1) := by decide +kernel
theorem dX11_count_91 : decode cX11_count 91 = .ok (.aload_n 0, 1) := by decide +kernel
theorem dX11_count_92 : decode cX11_count 92 = .ok (.getfield 39, 3) := by decide +kernel
theorem dX11_count_95 : decode cX11_count 95 = .ok (.bipush 10, 2) := by decide +kernel
theorem dX11_count_97 : decode cX11_count 97 = .ok (.iaload, 1) := by decide +kernel
theorem dX11_count_98 : decode cX11_count 98 = .ok (.ireturn, 1) := by decide +kernel
theorem dX11_count_99 : decode cX11_count 99 = .ok (.aload_n 0, 1) := by decide +kernel
theorem dX11_count_100 : decode cX11_count 100 = .ok (.invokevirtual 331, 3) := by decide +kernel
theorem dX11_count_103 : decode cX11_count 103 = .ok (.ireturn, 1) := by decide +kernel
theorem dX11_count_104 : decode cX11_count 104 = .ok (.aload_n 0, 1) := by decide +kernel
theorem dX11_count_105 : decode cX11_count 105 = .ok (.iconst 0, 1) := by decide +kernel
theorem dX11_count_106 : decode cX11_count 106 = .ok (.invokevirtual 340, 3) := by decide +kernel
theorem dX11_count_109 : decode cX11_count 109 = .ok (.ireturn, 1) := by decide +kernel
theorem dX11_count_110 : decode cX11_count 110 = .ok (.aload_n 0, 1) := by decide +kernel
theorem dX11_count_111 : decode cX11_count 111 = .ok (.iconst 2, 1) := by decide +kernel
theorem dX11_count_112 : decode cX11_count 112 = .ok (.invokevirtual 340, 3) := by decide +kernel
theorem dX11_count_115 : decode cX11_count 115 = .ok (.ireturn, 1) := by decide +kernel
theorem dX11_count_116 : decode cX11_count 116 = .ok (.aload_n 0, 1) := by decide +kernel
theorem dX11_count_117 : decode cX11_count 117 = .ok (.iconst 3, 1) := by decide +kernel
theorem dX11_count_118 : decode cX11_count 118 = .ok (.invokevirtual 340, 3) := by decide +kernel
theorem dX11_count_121 : decode cX11_count 121 = .ok (.ireturn, 1) := by decide +kernel
theorem dX11_count_122 : decode cX11_count 122 = .ok (.aload_n 0, 1) := by decide +kernel
theorem dX11_count_123 : decode cX11_count 123 = .ok (.getfield 39, 3) := by decide +kernel
theorem dX11_count_126 : decode cX11_count 126 = .ok (.bipush 120, 2) := by decide +kernel
theorem dX11_count_128 : decode cX11_count 128 = .ok (.iaload, 1) := by decide +kernel
theorem dX11_count_129 : decode cX11_count 129 = .ok (.ireturn, 1) := by decide +kernel
theorem dX11_count_130 : decode cX11_count 130 = .ok (.aload_n 0, 1) := by decide +kernel
theorem dX11_count_131 : decode cX11_count 131 = .ok (.getfield 276, 3) := by decide +kernel
theorem dX11_count_134 : decode cX11_count 134 = .ok (.ireturn, 1) := by decide +kernel
theorem dX11_count_135 : decode cX11_count 135 = .ok (.aload_n 0, 1) := by decide +kernel
theorem dX11_count_136 : decode cX11_count 136 = .ok (.getfield 454, 3) := by decide +kernel
theorem dX11_count_139 : decode cX11_count 139 = .ok (.ireturn, 1) := by decide +kernel
theorem dX11_count_140 : decode cX11_count 140 = .ok (.aload_n 0, 1) := by decide +kernel
theorem dX11_count_141 : decode cX11_count 141 = .ok (.getfield 92, 3) := by decide +kernel
theorem dX11_count_144 : decode cX11_count 144 = .ok (.ireturn, 1) := by decide +kernel
theorem dX11_count_145 : decode cX11_count 145 = .ok (.iconst (-1), 1) := by decide +kernel
theorem dX11_count_146 : decode cX11_count 146 = .ok (.ireturn, 1) := by decide +kernel
theorem dX11_image_0 : decode cX11_image 0 = .ok (.iload_n 1, 1) := by decide +kernel
theorem dX11_image_1 : decode cX11_image 1 = .ok (.i2l, 1) := by decide +kernel
theorem dX11_image_2 : decode cX11_image 2 = .ok (.lconst 0, 1) := by decide +kernel
theorem dX11_image_3 : decode cX11_image 3 = .ok (.ldc2_w 409, 3) := by decide +kernel
theorem dX11_image_6 : decode cX11_image 6 = .ok (.invokestatic 130, 3) := by decide +kernel
theorem dX11_image_9 : decode cX11_image 9 = .ok (.ifCond .ne 5, 3) := by decide +kernel
theorem dX11_image_12 : decode cX11_image 12 = .ok (.iconst (-1), 1) := by decide +kernel
theorem dX11_image_13 : decode cX11_image 13 = .ok (.ireturn, 1) := by decide +kernel
theorem dX11_image_14 : decode cX11_image 14 = .ok (.aload_n 0, 1) := by decide +kernel
theorem dX11_image_15 : decode cX11_image 15 = .ok (.getfield 89, 3) := by decide +kernel
theorem dX11_image_18 : decode cX11_image 18 = .ok (.iload_n 1, 1) := by decide +kernel
theorem dX11_image_19 : decode cX11_image 19 = .ok (.iconst 1, 1) := by decide +kernel
theorem dX11_image_20 : decode cX11_image 20 = .ok (.bastore, 1) := by decide +kernel
theorem dX11_image_21 : decode cX11_image 21 = .ok (.aload_n 0, 1) := by decide +kernel
theorem dX11_image_22 : decode cX11_image 22 = .ok (.getfield 83, 3) := by decide +kernel
theorem dX11_image_25 : decode cX11_image 25 = .ok (.iload_n 1, 1) := by decide +kernel
theorem dX11_image_26 : decode cX11_image 26 = .ok (.aload_n 0, 1) := by decide +kernel
theorem dX11_image_27 : decode cX11_image 27 = .ok (.getfield 42, 3) := by decide +kernel
theorem dX11_image_30 : decode cX11_image 30 = .ok (.iastore, 1) := by decide +kernel
theorem dX11_image_31 : decode cX11_image 31 = .ok (.aload_n 0, 1) := by decide +kernel
theorem dX11_image_32 : decode cX11_image 32 = .ok (.getfield 86, 3) := by decide +kernel
theorem dX11_image_35 : decode cX11_image 35 = .ok (.iload_n 1, 1) := by decide +kernel
theorem dX11_image_36 : decode cX11_image 36 = .ok (.aload_n 0, 1) := by decide +kernel
theorem dX11_image_37 : decode cX11_image 37 = .ok (.getfield 454, 3) := by decide +kernel
theorem dX11_image_40 : decode cX11_image 40 = .ok (.iastore, 1) := by decide +kernel
theorem dX11_image_41 : decode cX11_image 41 = .ok (.iconst 0, 1) := by decide +kernel
theorem dX11_image_42 : decode cX11_image 42 = .ok (.istore_n 2, 1) := by decide +kernel
theorem dX11_image_43 : decode cX11_image 43 = .ok (.iload_n 2, 1) := by decide +kernel
theorem dX11_image_44 : decode cX11_image 44 = .ok (.bipush 121, 2) := by decide +kernel
theorem dX11_image_46 : decode cX11_image 46 = .ok (.if_icmp .ge 26, 3) := by decide +kernel
theorem dX11_image_49 : decode cX11_image 49 = .ok (.aload_n 0, 1) := by decide +kernel
theorem dX11_image_50 : decode cX11_image 50 = .ok (.getfield 80, 3) := by decide +kernel
theorem dX11_image_53 : decode cX11_image 53 = .ok (.bipush 121, 2) := by decide +kernel
theorem dX11_image_55 : decode cX11_image 55 = .ok (.iload_n 1, 1) := by decide +kernel
theorem dX11_image_56 : decode cX11_image 56 = .ok (.imul, 1) := by decide +kernel
theorem dX11_image_57 : decode cX11_image 57 = .ok (.iload_n 2, 1) := by decide +kernel
theorem dX11_image_58 : decode cX11_image 58 = .ok (.iadd, 1) := by decide +kernel
theorem dX11_image_59 : decode cX11_image 59 = .ok (.aload_n 0, 1) := by decide +kernel
theorem dX11_image_60 : decode cX11_image 60 = .ok (.getfield 39, 3) := by decide +kernel
theorem dX11_image_63 : decode cX11_image 63 = .ok (.iload_n 2, 1) := by decide +kernel
theorem dX11_image_64 : decode cX11_image 64 = .ok (.iaload, 1) := by decide +kernel
theorem dX11_image_65 : decode cX11_image 65 = .ok (.iastore, 1) := by decide +kernel
theorem dX11_image_66 : decode cX11_image 66 = .ok (.iinc 2 1, 3) := by decide +kernel
theorem dX11_image_69 : decode cX11_image 69 = .ok (.goto (-26), 3) := by decide +kernel
theorem dX11_image_72 : decode cX11_image 72 = .ok (.aload_n 0, 1) := by decide +kernel
theorem dX11_image_73 : decode cX11_image 73 = .ok (.getfield 39, 3) := by decide +kernel
theorem dX11_image_76 : decode cX11_image 76 = .ok (.bipush 10, 2) := by decide +kernel
theorem dX11_image_78 : decode cX11_image 78 = .ok (.iaload, 1) := by decide +kernel
theorem dX11_image_79 : decode cX11_image 79 = .ok (.ireturn, 1) := by decide +kernel
theorem dX11_back_0 : decode cX11_back 0 = .ok (.iload_n 1, 1) := by decide +kernel
theorem dX11_back_1 : decode cX11_back 1 = .ok (.i2l, 1) := by decide +kernel
theorem dX11_back_2 : decode cX11_back 2 = .ok (.lconst 0, 1) := by decide +kernel
theorem dX11_back_3 : decode cX11_back 3 = .ok (.ldc2_w 409, 3) := by decide +kernel
theorem dX11_back_6 : decode cX11_back 6 = .ok (.invokestatic 130, 3) := by decide +kernel
theorem dX11_back_9 : decode cX11_back 9 = .ok (.ifCond .eq 12, 3) := by decide +kernel
theorem dX11_back_12 : decode cX11_back 12 = .ok (.aload_n 0, 1) := by decide +kernel
theorem dX11_back_13 : decode cX11_back 13 = .ok (.getfield 89, 3) := by decide +kernel
theorem dX11_back_16 : decode cX11_back 16 = .ok (.iload_n 1, 1) := by decide +kernel
theorem dX11_back_17 : decode cX11_back 17 = .ok (.baload, 1) := by decide +kernel
theorem dX11_back_18 : decode cX11_back 18 = .ok (.ifCond .ne 5, 3) := by decide +kernel
theorem dX11_back_21 : decode cX11_back 21 = .ok (.iconst (-1), 1) := by decide +kernel
theorem dX11_back_22 : decode cX11_back 22 = .ok (.ireturn, 1) := by decide +kernel
theorem dX11_back_23 : decode cX11_back 23 = .ok (.aload_n 0, 1) := by decide +kernel
theorem dX11_back_24 : decode cX11_back 24 = .ok (.aload_n 0, 1) := by decide +kernel
theorem dX11_back_25 : decode cX11_back 25 = .ok (.getfield 83, 3) := by decide +kernel
theorem dX11_back_28 : decode cX11_back 28 = .ok (.iload_n 1, 1) := by decide +kernel
theorem dX11_back_29 : decode cX11_back 29 = .ok (.iaload, 1) := by decide +kernel
theorem dX11_back_30 : decode cX11_back 30 = .ok (.putfield 42, 3) := by decide +kernel
theorem dX11_back_33 : decode cX11_back 33 = .ok (.aload_n 0, 1) := by decide +kernel
theorem dX11_back_34 : decode cX11_back 34 = .ok (.aload_n 0, 1) := by decide +kernel
theorem dX11_back_35 : decode cX11_back 35 = .ok (.getfield 86, 3) := by decide +kernel
theorem dX11_back_38 : decode cX11_back 38 = .ok (.iload_n 1, 1) := by decide +kernel
theorem dX11_back_39 : decode cX11_back 39 = .ok (.iaload, 1) := by decide +kernel
theorem dX11_back_40 : decode cX11_back 40 = .ok (.putfield 454, 3) := by decide +kernel
theorem dX11_back_43 : decode cX11_back 43 = .ok (.aload_n 0, 1) := by decide +kernel
theorem dX11_back_44 : decode cX11_back 44 = .ok (.iconst 0, 1) := by decide +kernel
theorem dX11_back_45 : decode cX11_back 45 = .ok (.putfield 276, 3) := by decide +kernel
theorem dX11_back_48 : decode cX11_back 48 = .ok (.iconst 0, 1) := by decide +kernel
theorem dX11_back_49 : decode cX11_back 49 = .ok (.istore_n 2, 1) := by decide +kernel
theorem dX11_back_50 : decode cX11_back 50 = .ok (.iload_n 2, 1) := by decide +kernel
theorem dX11_back_51 : decode cX11_back 51 = .ok (.bipush 121, 2) := by decide +kernel
theorem dX11_back_53 : decode cX11_back 53 = .ok (.if_icmp .ge 26, 3) := by decide +kernel
theorem dX11_back_56 : decode cX11_back 56 = .ok (.aload_n 0, 1) := by decide +kernel
theorem dX11_back_57 : decode cX11_back 57 = .ok (.getfield 39, 3) := by decide +kernel
theorem dX11_back_60 : decode cX11_back 60 = .ok (.iload_n 2, 1) := by decide +kernel
theorem dX11_back_61 : decode cX11_back 61 = .ok (.aload_n 0, 1) := by decide +kernel
theorem dX11_back_62 : decode cX11_back 62 = .ok (.getfield 80, 3) := by decide +kernel
theorem dX11_back_65 : decode cX11_back 65 = .ok (.bipush 121, 2) := by decide +kernel
theorem dX11_back_67 : decode cX11_back 67 = .ok (.iload_n 1, 1) := by decide +kernel
theorem dX11_back_68 : decode cX11_back 68 = .ok (.imul, 1) := by decide +kernel
theorem dX11_back_69 : decode cX11_back 69 = .ok (.iload_n 2, 1) := by decide +kernel
theorem dX11_back_70 : decode cX11_back 70 = .ok (.iadd, 1) := by decide +kernel
theorem dX11_back_71 : decode cX11_back 71 = .ok (.iaload, 1) := by decide +kernel
theorem dX11_back_72 : decode cX11_back 72 = .ok (.iastore, 1) := by decide +kernel
theorem dX11_back_73 : decode cX11_back 73 = .ok (.iinc 2 1, 3) := by decide +kernel
theorem dX11_back_76 : decode cX11_back 76 = .ok (.goto (-26), 3) := by decide +kernel
theorem dX11_back_79 : decode cX11_back 79 = .ok (.aload_n 0, 1) := by decide +kernel
theorem dX11_back_80 : decode cX11_back 80 = .ok (.getfield 39, 3) := by decide +kernel
theorem dX11_back_83 : decode cX11_back 83 = .ok (.bipush 10, 2) := by decide +kernel
theorem dX11_back_85 : decode cX11_back 85 = .ok (.iaload, 1) := by decide +kernel
theorem dX11_back_86 : decode cX11_back 86 = .ok (.ireturn, 1) := by decide +kernel
