theorem dX10_init_0 : decode cX10_init 0 = .ok (.aload_n 0, 1) := by decide +kernel
theorem dX10_init_1 : decode cX10_init 1 = .ok (.invokespecial 1, 3) := by decide +kernel
theorem dX10_init_4 : decode cX10_init 4 = .ok (.aload_n 0, 1) := by decide +kernel
theorem dX10_init_5 : decode cX10_init 5 = .ok (.new 7, 3) := by decide +kernel
theorem dX10_init_8 : decode cX10_init 8 = .ok (.dup, 1) := by decide +kernel
theorem dX10_init_9 : decode cX10_init 9 = .ok (.invokespecial 9, 3) := by decide +kernel
theorem dX10_init_12 : decode cX10_init 12 = .ok (.putfield 10, 3) := by decide +kernel
theorem dX10_init_15 : decode cX10_init 15 = .ok (.aload_n 0, 1) := by decide +kernel
theorem dX10_init_16 : decode cX10_init 16 = .ok (.new 16, 3) := by decide +kernel
theorem dX10_init_19 : decode cX10_init 19 = .ok (.dup, 1) := by decide +kernel
theorem dX10_init_20 : decode cX10_init 20 = .ok (.invokespecial 18, 3) := by decide +kernel
theorem dX10_init_23 : decode cX10_init 23 = .ok (.putfield 19, 3) := by decide +kernel
theorem dX10_init_26 : decode cX10_init 26 = .ok (.aload_n 0, 1) := by decide +kernel
theorem dX10_init_27 : decode cX10_init 27 = .ok (.new 16, 3) := by decide +kernel
theorem dX10_init_30 : decode cX10_init 30 = .ok (.dup, 1) := by decide +kernel
theorem dX10_init_31 : decode cX10_init 31 = .ok (.invokespecial 18, 3) := by decide +kernel
theorem dX10_init_34 : decode cX10_init 34 = .ok (.putfield 23, 3) := by decide +kernel
theorem dX10_init_37 : decode cX10_init 37 = .ok (.aload_n 0, 1) := by decide +kernel
theorem dX10_init_38 : decode cX10_init 38 = .ok (.new 16, 3) := by decide +kernel
theorem dX10_init_41 : decode cX10_init 41 = .ok (.dup, 1) := by decide +kernel
theorem dX10_init_42 : decode cX10_init 42 = .ok (.invokespecial 18, 3) := by decide +kernel
theorem dX10_init_45 : decode cX10_init 45 = .ok (.putfield 26, 3) := by decide +kernel
theorem dX10_init_48 : decode cX10_init 48 = .ok (.aload_n 0, 1) := by decide +kernel
theorem dX10_init_49 : decode cX10_init 49 = .ok (.new 29, 3) := by decide +kernel
theorem dX10_init_52 : decode cX10_init 52 = .ok (.dup, 1) := by decide +kernel
theorem dX10_init_53 : decode cX10_init 53 = .ok (.aload_n 0, 1) := by decide +kernel
theorem dX10_init_54 : decode cX10_init 54 = .ok (.getfield 10, 3) := by decide +kernel
theorem dX10_init_57 : decode cX10_init 57 = .ok (.aload_n 0, 1) := by decide +kernel
theorem dX10_init_58 : decode cX10_init 58 = .ok (.getfield 26, 3) := by decide +kernel
theorem dX10_init_61 : decode cX10_init 61 = .ok (.invokespecial 31, 3) := by decide +kernel
theorem dX10_init_64 : decode cX10_init 64 = .ok (.putfield 34, 3) := by decide +kernel
theorem dX10_init_67 : decode cX10_init 67 = .ok (.aload_n 0, 1) := by decide +kernel
theorem dX10_init_68 : decode cX10_init 68 = .ok (.new 38, 3) := by decide +kernel
theorem dX10_init_71 : decode cX10_init 71 = .ok (.dup, 1) := by decide +kernel
theorem dX10_init_72 : decode cX10_init 72 = .ok (.aload_n 0, 1) := by decide +kernel
theorem dX10_init_73 : decode cX10_init 73 = .ok (.getfield 10, 3) := by decide +kernel
theorem dX10_init_76 : decode cX10_init 76 = .ok (.invokespecial 40, 3) := by decide +kernel
theorem dX10_init_79 : decode cX10_init 79 = .ok (.putfield 43, 3) := by decide +kernel
theorem dX10_init_82 : decode cX10_init 82 = .ok (.aload_n 0, 1) := by decide +kernel
theorem dX10_init_83 : decode cX10_init 83 = .ok (.bipush 6, 2) := by decide +kernel
theorem dX10_init_85 : decode cX10_init 85 = .ok (.anewarray 47, 3) := by decide +kernel
theorem dX10_init_88 : decode cX10_init 88 = .ok (.putfield 49, 3) := by decide +kernel
theorem dX10_init_91 : decode cX10_init 91 = .ok (.aload_n 0, 1) := by decide +kernel
theorem dX10_init_92 : decode cX10_init 92 = .ok (.new 53, 3) := by decide +kernel
theorem dX10_init_95 : decode cX10_init 95 = .ok (.dup, 1) := by decide +kernel
theorem dX10_init_96 : decode cX10_init 96 = .ok (.invokespecial 55, 3) := by decide +kernel
theorem dX10_init_99 : decode cX10_init 99 = .ok (.putfield 56, 3) := by decide +kernel
theorem dX10_init_102 : decode cX10_init 102 = .ok (.aload_n 0, 1) := by decide +kernel
theorem dX10_init_103 : decode cX10_init 103 = .ok (.new 60, 3) := by decide +kernel
theorem dX10_init_106 : decode cX10_init 106 = .ok (.dup, 1) := by decide +kernel
theorem dX10_init_107 : decode cX10_init 107 = .ok (.invokespecial 62, 3) := by decide +kernel
theorem dX10_init_110 : decode cX10_init 110 = .ok (.putfield 63, 3) := by decide +kernel
theorem dX10_init_113 : decode cX10_init 113 = .ok (.aload_n 0, 1) := by decide +kernel
theorem dX10_init_114 : decode cX10_init 114 = .ok (.iconst 4, 1) := by decide +kernel
theorem dX10_init_115 : decode cX10_init 115 = .ok (.anewarray 67, 3) := by decide +kernel
theorem dX10_init_118 : decode cX10_init 118 = .ok (.putfield 69, 3) := by decide +kernel
theorem dX10_init_121 : decode cX10_init 121 = .ok (.aload_n 0, 1) := by decide +kernel
theorem dX10_init_122 : decode cX10_init 122 = .ok (.new 73, 3) := by decide +kernel
theorem dX10_init_125 : decode cX10_init 125 = .ok (.dup, 1) := by decide +kernel
theorem dX10_init_126 : decode cX10_init 126 = .ok (.invokespecial 75, 3) := by decide +kernel
theorem dX10_init_129 : decode cX10_init 129 = .ok (.putfield 76, 3) := by decide +kernel
theorem dX10_init_132 : decode cX10_init 132 = .ok (.aload_n 0, 1) := by decide +kernel
theorem dX10_init_133 : decode cX10_init 133 = .ok (.bipush 6, 2) := by decide +kernel
theorem dX10_init_135 : decode cX10_init 135 = .ok (.newarray .int, 2) := by decide +kernel
theorem dX10_init_137 : decode cX10_init 137 = .ok (.putfield 80, 3) := by decide +kernel
theorem dX10_init_140 : decode cX10_init 140 = .ok (.aload_n 0, 1) := by decide +kernel
theorem dX10_init_141 : decode cX10_init 141 = .ok (.getstatic 84, 3) := by decide +kernel
theorem dX10_init_144 : decode cX10_init 144 = .ok (.arraylength, 1) := by decide +kernel
theorem dX10_init_145 : decode cX10_init 145 = .ok (.getstatic 84, 3) := by decide +kernel
theorem dX10_init_148 : decode cX10_init 148 = .ok (.arraylength, 1) := by decide +kernel
theorem dX10_init_149 : decode cX10_init 149 = .ok (.imul, 1) := by decide +kernel
theorem dX10_init_150 : decode cX10_init 150 = .ok (.newarray .int, 2) := by decide +kernel
theorem dX10_init_152 : decode cX10_init 152 = .ok (.putfield 87, 3) := by decide +kernel
theorem dX10_init_155 : decode cX10_init 155 = .ok (.aload_n 0, 1) := by decide +kernel
theorem dX10_init_156 : decode cX10_init 156 = .ok (.getstatic 84, 3) := by decide +kernel
theorem dX10_init_159 : decode cX10_init 159 = .ok (.arraylength, 1) := by decide +kernel
theorem dX10_init_160 : decode cX10_init 160 = .ok (.getstatic 84, 3) := by decide +kernel
theorem dX10_init_163 : decode cX10_init 163 = .ok (.arraylength, 1) := by decide +kernel
theorem dX10_init_164 : decode cX10_init 164 = .ok (.imul, 1) := by decide +kernel
theorem dX10_init_165 : decode cX10_init 165 = .ok (.newarray .int, 2) := by decide +kernel
theorem dX10_init_167 : decode cX10_init 167 = .ok (.putfield 90, 3) := by decide +kernel
theorem dX10_init_170 : decode cX10_init 170 = .ok (.aload_n 0, 1) := by decide +kernel
theorem dX10_init_171 : decode cX10_init 171 = .ok (.sipush 366, 3) := by decide +kernel
theorem dX10_init_174 : decode cX10_init 174 = .ok (.newarray .int, 2) := by decide +kernel
theorem dX10_init_176 : decode cX10_init 176 = .ok (.putfield 93, 3) := by decide +kernel
theorem dX10_init_179 : decode cX10_init 179 = .ok (.aload_n 0, 1) := by decide +kernel
theorem dX10_init_180 : decode cX10_init 180 = .ok (.bipush 42, 2) := by decide +kernel
theorem dX10_init_182 : decode cX10_init 182 = .ok (.newarray .int, 2) := by decide +kernel
theorem dX10_init_184 : decode cX10_init 184 = .ok (.putfield 96, 3) := by decide +kernel
theorem dX10_init_187 : decode cX10_init 187 = .ok (.aload_n 0, 1) := by decide +kernel
theorem dX10_init_188 : decode cX10_init 188 = .ok (.iconst 0, 1) := by decide +kernel
theorem dX10_init_189 : decode cX10_init 189 = .ok (.putfield 99, 3) := by decide +kernel
theorem dX10_init_192 : decode cX10_init 192 = .ok (.aload_n 0, 1) := by decide +kernel
theorem dX10_init_193 : decode cX10_init 193 = .ok (.iconst (-1), 1) := by decide +kernel
theorem dX10_init_194 : decode cX10_init 194 = .ok (.putfield 103, 3) := by decide +kernel
theorem dX10_init_197 : decode cX10_init 197 = .ok (.aload_n 0, 1) := by decide +kernel
theorem dX10_init_198 : decode cX10_init 198 = .ok (.iconst 0, 1) := by decide +kernel
theorem dX10_init_199 : decode cX10_init 199 = .ok (.putfield 106, 3) := by decide +kernel
theorem dX10_init_202 : decode cX10_init 202 = .ok (.iconst 0, 1) := by decide +kernel
theorem dX10_init_203 : decode cX10_init 203 = .ok (.istore_n 1, 1) := by decide +kernel
theorem dX10_init_204 : decode cX10_init 204 = .ok (.iload_n 1, 1) := by decide +kernel
theorem dX10_init_205 : decode cX10_init 205 = .ok (.iconst 4, 1) := by decide +kernel
theorem dX10_init_206 : decode cX10_init 206 = .ok (.if_icmp .ge 22, 3) := by decide +kernel
theorem dX10_init_209 : decode cX10_init 209 = .ok (.aload_n 0, 1) := by decide +kernel
theorem dX10_init_210 : decode cX10_init 210 = .ok (.getfield 69, 3) := by decide +kernel
theorem dX10_init_213 : decode cX10_init 213 = .ok (.iload_n 1, 1) := by decide +kernel
theorem dX10_init_214 : decode cX10_init 214 = .ok (.new 67, 3) := by decide +kernel
theorem dX10_init_217 : decode cX10_init 217 = .ok (.dup, 1) := by decide +kernel
theorem dX10_init_218 : decode cX10_init 218 = .ok (.invokespecial 109, 3) := by decide +kernel
theorem dX10_init_221 : decode cX10_init 221 = .ok (.aastore, 1) := by decide +kernel
theorem dX10_init_222 : decode cX10_init 222 = .ok (.iinc 1 1, 3) := by decide +kernel
theorem dX10_init_225 : decode cX10_init 225 = .ok (.goto (-21), 3) := by decide +kernel
theorem dX10_init_228 : decode cX10_init 228 = .ok (.return_, 1) := by decide +kernel
theorem dX10_feed_0 : decode cX10_feed 0 = .ok (.aload_n 0, 1) := by decide +kernel
theorem dX10_feed_1 : decode cX10_feed 1 = .ok (.getfield 10, 3) := by decide +kernel
theorem dX10_feed_4 : decode cX10_feed 4 = .ok (.getfield 110, 3) := by decide +kernel
theorem dX10_feed_7 : decode cX10_feed 7 = .ok (.bipush 20, 2) := by decide +kernel
theorem dX10_feed_9 : decode cX10_feed 9 = .ok (.iadd, 1) := by decide +kernel
theorem dX10_feed_10 : decode cX10_feed 10 = .ok (.sipush 400, 3) := by decide +kernel
theorem dX10_feed_13 : decode cX10_feed 13 = .ok (.if_icmp .le 5, 3) := by decide +kernel
theorem dX10_feed_16 : decode cX10_feed 16 = .ok (.iconst (-1), 1) := by decide +kernel
theorem dX10_feed_17 : decode cX10_feed 17 = .ok (.ireturn, 1) := by decide +kernel
theorem dX10_feed_18 : decode cX10_feed 18 = .ok (.aload_n 0, 1) := by decide +kernel
theorem dX10_feed_19 : decode cX10_feed 19 = .ok (.getfield 10, 3) := by decide +kernel
theorem dX10_feed_22 : decode cX10_feed 22 = .ok (.iload_n 1, 1) := by decide +kernel
theorem dX10_feed_23 : decode cX10_feed 23 = .ok (.invokevirtual 113, 3) := by decide +kernel
theorem dX10_feed_26 : decode cX10_feed 26 = .ok (.aload_n 0, 1) := by decide +kernel
theorem dX10_feed_27 : decode cX10_feed 27 = .ok (.getfield 10, 3) := by decide +kernel
theorem dX10_feed_30 : decode cX10_feed 30 = .ok (.iload_n 2, 1) := by decide +kernel
theorem dX10_feed_31 : decode cX10_feed 31 = .ok (.invokevirtual 113, 3) := by decide +kernel
theorem dX10_feed_34 : decode cX10_feed 34 = .ok (.aload_n 0, 1) := by decide +kernel
theorem dX10_feed_35 : decode cX10_feed 35 = .ok (.getfield 10, 3) := by decide +kernel
theorem dX10_feed_38 : decode cX10_feed 38 = .ok (.iload_n 3, 1) := by decide +kernel
theorem dX10_feed_39 : decode cX10_feed 39 = .ok (.invokevirtual 113, 3) := by decide +kernel
theorem dX10_feed_42 : decode cX10_feed 42 = .ok (.aload_n 0, 1) := by decide +kernel
theorem dX10_feed_43 : decode cX10_feed 43 = .ok (.getfield 10, 3) := by decide +kernel
theorem dX10_feed_46 : decode cX10_feed 46 = .ok (.iload 4, 2) := by decide +kernel
theorem dX10_feed_48 : decode cX10_feed 48 = .ok (.invokevirtual 113, 3) := by decide +kernel
theorem dX10_feed_51 : decode cX10_feed 51 = .ok (.aload_n 0, 1) := by decide +kernel
theorem dX10_feed_52 : decode cX10_feed 52 = .ok (.getfield 10, 3) := by decide +kernel
theorem dX10_feed_55 : decode cX10_feed 55 = .ok (.iload 5, 2) := by decide +kernel
theorem dX10_feed_57 : decode cX10_feed 57 = .ok (.invokevirtual 113, 3) := by decide +kernel
theorem dX10_feed_60 : decode cX10_feed 60 = .ok (.aload_n 0, 1) := by decide +kernel
theorem dX10_feed_61 : decode cX10_feed 61 = .ok (.getfield 10, 3) := by decide +kernel
theorem dX10_feed_64 : decode cX10_feed 64 = .ok (.getfield 110, 3) := by decide +kernel
theorem dX10_feed_67 : decode cX10_feed 67 = .ok (.ireturn, 1) := by decide +kernel
theorem dX10_end_0 : decode cX10_end 0 = .ok (.iload_n 1, 1) := by decide +kernel
theorem dX10_end_1 : decode cX10_end 1 = .ok (.ifCond .lt 14, 3) := by decide +kernel
theorem dX10_end_4 : decode cX10_end 4 = .ok (.iload_n 1, 1) := by decide +kernel
theorem dX10_end_5 : decode cX10_end 5 = .ok (.aload_n 0, 1) := by decide +kernel
theorem dX10_end_6 : decode cX10_end 6 = .ok (.getfield 10, 3) := by decide +kernel
theorem dX10_end_9 : decode cX10_end 9 = .ok (.getfield 110, 3) := by decide +kernel
theorem dX10_end_12 : decode cX10_end 12 = .ok (.if_icmp .le 5, 3) := by decide +kernel
theorem dX10_end_15 : decode cX10_end 15 = .ok (.iconst (-1), 1) := by decide +kernel
theorem dX10_end_16 : decode cX10_end 16 = .ok (.ireturn, 1) := by decide +kernel
theorem dX10_end_17 : decode cX10_end 17 = .ok (.aload_n 0, 1) := by decide +kernel
theorem dX10_end_18 : decode cX10_end 18 = .ok (.getfield 10, 3) := by decide +kernel
theorem dX10_end_21 : decode cX10_end 21 = .ok (.iload_n 1, 1) := by decide +kernel
theorem dX10_end_22 : decode cX10_end 22 = .ok (.putfield 110, 3) := by decide +kernel
theorem dX10_end_25 : decode cX10_end 25 = .ok (.iload_n 1, 1) := by decide +kernel
theorem dX10_end_26 : decode cX10_end 26 = .ok (.ireturn, 1) := by decide +kernel
theorem dX10_junction_0 : decode cX10_junction 0 = .ok (.aload_n 0, 1) := by decide +kernel
theorem dX10_junction_1 : decode cX10_junction 1 = .ok (.getfield 26, 3) := by decide +kernel
theorem dX10_junction_4 : decode cX10_junction 4 = .ok (.invokevirtual 117, 3) := by decide +kernel
theorem dX10_junction_7 : decode cX10_junction 7 = .ok (.aload_n 0, 1) := by decide +kernel
theorem dX10_junction_8 : decode cX10_junction 8 = .ok (.getfield 34, 3) := by decide +kernel
theorem dX10_junction_11 : decode cX10_junction 11 = .ok (.invokevirtual 120, 3) := by decide +kernel
theorem dX10_junction_14 : decode cX10_junction 14 = .ok (.istore_n 1, 1) := by decide +kernel
theorem dX10_junction_15 : decode cX10_junction 15 = .ok (.aload_n 0, 1) := by decide +kernel
theorem dX10_junction_16 : decode cX10_junction 16 = .ok (.getfield 10, 3) := by decide +kernel
theorem dX10_junction_19 : decode cX10_junction 19 = .ok (.iconst 0, 1) := by decide +kernel
theorem dX10_junction_20 : decode cX10_junction 20 = .ok (.putfield 110, 3) := by decide +kernel
theorem dX10_junction_23 : decode cX10_junction 23 = .ok (.iload_n 1, 1) := by decide +kernel
theorem dX10_junction_24 : decode cX10_junction 24 = .ok (.ifCond .eq 8, 3) := by decide +kernel
theorem dX10_junction_27 : decode cX10_junction 27 = .ok (.bipush (-2), 2) := by decide +kernel
theorem dX10_junction_29 : decode cX10_junction 29 = .ok (.iload_n 1, 1) := by decide +kernel
theorem dX10_junction_30 : decode cX10_junction 30 = .ok (.isub, 1) := by decide +kernel
theorem dX10_junction_31 : decode cX10_junction 31 = .ok (.ireturn, 1) := by decide +kernel
theorem dX10_junction_32 : decode cX10_junction 32 = .ok (.aload_n 0, 1) := by decide +kernel
theorem dX10_junction_33 : decode cX10_junction 33 = .ok (.getfield 23, 3) := by decide +kernel
theorem dX10_junction_36 : decode cX10_junction 36 = .ok (.aload_n 0, 1) := by decide +kernel
theorem dX10_junction_37 : decode cX10_junction 37 = .ok (.getfield 26, 3) := by decide +kernel
theorem dX10_junction_40 : decode cX10_junction 40 = .ok (.invokevirtual 124, 3) := by decide +kernel
theorem dX10_junction_43 : decode cX10_junction 43 = .ok (.aload_n 0, 1) := by decide +kernel
theorem dX10_junction_44 : decode cX10_junction 44 = .ok (.getfield 19, 3) := by decide +kernel
theorem dX10_junction_47 : decode cX10_junction 47 = .ok (.aload_n 0, 1) := by decide +kernel
theorem dX10_junction_48 : decode cX10_junction 48 = .ok (.getfield 26, 3) := by decide +kernel
theorem dX10_junction_51 : decode cX10_junction 51 = .ok (.invokevirtual 124, 3) := by decide +kernel
theorem dX10_junction_54 : decode cX10_junction 54 = .ok (.aload_n 0, 1) := by decide +kernel
theorem dX10_junction_55 : decode cX10_junction 55 = .ok (.getfield 63, 3) := by decide +kernel
theorem dX10_junction_58 : decode cX10_junction 58 = .ok (.iconst 0, 1) := by decide +kernel
theorem dX10_junction_59 : decode cX10_junction 59 = .ok (.putfield 128, 3) := by decide +kernel
theorem dX10_junction_62 : decode cX10_junction 62 = .ok (.aload_n 0, 1) := by decide +kernel
theorem dX10_junction_63 : decode cX10_junction 63 = .ok (.getfield 56, 3) := by decide +kernel
theorem dX10_junction_66 : decode cX10_junction 66 = .ok (.iconst 0, 1) := by decide +kernel
theorem dX10_junction_67 : decode cX10_junction 67 = .ok (.putfield 131, 3) := by decide +kernel
theorem dX10_junction_70 : decode cX10_junction 70 = .ok (.aload_n 0, 1) := by decide +kernel
theorem dX10_junction_71 : decode cX10_junction 71 = .ok (.getfield 19, 3) := by decide +kernel
theorem dX10_junction_74 : decode cX10_junction 74 = .ok (.getfield 132, 3) := by decide +kernel
theorem dX10_junction_77 : decode cX10_junction 77 = .ok (.ireturn, 1) := by decide +kernel
theorem dX10_rule_0 : decode cX10_rule 0 = .ok (.aload_n 0, 1) := by decide +kernel
theorem dX10_rule_1 : decode cX10_rule 1 = .ok (.getfield 99, 3) := by decide +kernel
theorem dX10_rule_4 : decode cX10_rule 4 = .ok (.bipush 6, 2) := by decide +kernel
theorem dX10_rule_6 : decode cX10_rule 6 = .ok (.if_icmp .lt 5, 3) := by decide +kernel
theorem dX10_rule_9 : decode cX10_rule 9 = .ok (.iconst (-1), 1) := by decide +kernel
theorem dX10_rule_10 : decode cX10_rule 10 = .ok (.ireturn, 1) := by decide +kernel
theorem dX10_rule_11 : decode cX10_rule 11 = .ok (.aload_n 0, 1) := by decide +kernel
theorem dX10_rule_12 : decode cX10_rule 12 = .ok (.getfield 43, 3) := by decide +kernel
theorem dX10_rule_15 : decode cX10_rule 15 = .ok (.invokevirtual 135, 3) := by decide +kernel
theorem dX10_rule_18 : decode cX10_rule 18 = .ok (.aload_n 0, 1) := by decide +kernel
theorem dX10_rule_19 : decode cX10_rule 19 = .ok (.getfield 43, 3) := by decide +kernel
theorem dX10_rule_22 : decode cX10_rule 22 = .ok (.invokevirtual 138, 3) := by decide +kernel
theorem dX10_rule_25 : decode cX10_rule 25 = .ok (.istore_n 1, 1) := by decide +kernel
theorem dX10_rule_26 : decode cX10_rule 26 = .ok (.aload_n 0, 1) := by decide +kernel
theorem dX10_rule_27 : decode cX10_rule 27 = .ok (.getfield 10, 3) := by decide +kernel
theorem dX10_rule_30 : decode cX10_rule 30 = .ok (.iconst 0, 1) := by decide +kernel
theorem dX10_rule_31 : decode cX10_rule 31 = .ok (.putfield 110, 3) := by decide +kernel
theorem dX10_rule_34 : decode cX10_rule 34 = .ok (.iload_n 1, 1) := by decide +kernel
theorem dX10_rule_35 : decode cX10_rule 35 = .ok (.ifCond .eq 8, 3) := by decide +kernel
theorem dX10_rule_38 : decode cX10_rule 38 = .ok (.bipush (-2), 2) := by decide +kernel
theorem dX10_rule_40 : decode cX10_rule 40 = .ok (.iload_n 1, 1) := by decide +kernel
theorem dX10_rule_41 : decode cX10_rule 41 = .ok (.isub, 1) := by decide +kernel
theorem dX10_rule_42 : decode cX10_rule 42 = .ok (.ireturn, 1) := by decide +kernel
theorem dX10_rule_43 : decode cX10_rule 43 = .ok (.aload_n 0, 1) := by decide +kernel
theorem dX10_rule_44 : decode cX10_rule 44 = .ok (.getfield 49, 3) := by decide +kernel
theorem dX10_rule_47 : decode cX10_rule 47 = .ok (.aload_n 0, 1) := by decide +kernel
theorem dX10_rule_48 : decode cX10_rule 48 = .ok (.getfield 99, 3) := by decide +kernel
theorem dX10_rule_51 : decode cX10_rule 51 = .ok (.aload_n 0, 1) := by decide +kernel
theorem dX10_rule_52 : decode cX10_rule 52 = .ok (.getfield 43, 3) := by decide +kernel
theorem dX10_rule_55 : decode cX10_rule 55 = .ok (.invokevirtual 139, 3) := by decide +kernel
theorem dX10_rule_58 : decode cX10_rule 58 = .ok (.aastore, 1) := by decide +kernel
theorem dX10_rule_59 : decode cX10_rule 59 = .ok (.aload_n 0, 1) := by decide +kernel
theorem dX10_rule_60 : decode cX10_rule 60 = .ok (.dup, 1) := by decide +kernel
theorem dX10_rule_61 : decode cX10_rule 61 = .ok (.getfield 99, 3) := by decide +kernel
theorem dX10_rule_64 : decode cX10_rule 64 = .ok (.iconst 1, 1) := by decide +kernel
theorem dX10_rule_65 : decode cX10_rule 65 = .ok (.iadd, 1) := by decide +kernel
theorem dX10_rule_66 : decode cX10_rule 66 = .ok (.putfield 99, 3) := by decide +kernel
theorem dX10_rule_69 : decode cX10_rule 69 = .ok (.aload_n 0, 1) := by decide +kernel
theorem dX10_rule_70 : decode cX10_rule 70 = .ok (.getfield 99, 3) := by decide +kernel
theorem dX10_rule_73 : decode cX10_rule 73 = .ok (.iconst 1, 1) := by decide +kernel
theorem dX10_rule_74 : decode cX10_rule 74 = .ok (.isub, 1) := by decide +kernel
theorem dX10_rule_75 : decode cX10_rule 75 = .ok (.ireturn, 1) := by decide +kernel
theorem dX10_force_0 : decode cX10_force 0 = .ok (.iload_n 1, 1) := by decide +kernel
theorem dX10_force_1 : decode cX10_force 1 = .ok (.iconst (-1), 1) := by decide +kernel
theorem dX10_force_2 : decode cX10_force 2 = .ok (.aload_n 0, 1) := by decide +kernel
theorem dX10_force_3 : decode cX10_force 3 = .ok (.getfield 99, 3) := by decide +kernel
theorem dX10_force_6 : decode cX10_force 6 = .ok (.iconst 1, 1) := by decide +kernel
theorem dX10_force_7 : decode cX10_force 7 = .ok (.isub, 1) := by decide +kernel
theorem dX10_force_8 : decode cX10_force 8 = .ok (.invokestatic 143, 3) := by decide +kernel
theorem dX10_force_11 : decode cX10_force 11 = .ok (.ifCond .ne 6, 3) := by decide +kernel
theorem dX10_force_14 : decode cX10_force 14 = .ok (.bipush (-2), 2) := by decide +kernel
theorem dX10_force_16 : decode cX10_force 16 = .ok (.ireturn, 1) := by decide +kernel
theorem dX10_force_17 : decode cX10_force 17 = .ok (.aload_n 0, 1) := by decide +kernel
theorem dX10_force_18 : decode cX10_force 18 = .ok (.getfield 103, 3) := by decide +kernel
theorem dX10_force_21 : decode cX10_force 21 = .ok (.istore_n 2, 1) := by decide +kernel
theorem dX10_force_22 : decode cX10_force 22 = .ok (.aload_n 0, 1) := by decide +kernel
theorem dX10_force_23 : decode cX10_force 23 = .ok (.iload_n 1, 1) := by decide +kernel
theorem dX10_force_24 : decode cX10_force 24 = .ok (.putfield 103, 3) := by decide +kernel
theorem dX10_force_27 : decode cX10_force 27 = .ok (.iload_n 2, 1) := by decide +kernel
theorem dX10_force_28 : decode cX10_force 28 = .ok (.ireturn, 1) := by decide +kernel
theorem dX10_road_0 : decode cX10_road 0 = .ok (.aload_n 0, 1) := by decide +kernel
theorem dX10_road_1 : decode cX10_road 1 = .ok (.getfield 19, 3) := by decide +kernel
theorem dX10_road_4 : decode cX10_road 4 = .ok (.iload_n 1, 1) := by decide +kernel
theorem dX10_road_5 : decode cX10_road 5 = .ok (.invokevirtual 147, 3) := by decide +kernel
theorem dX10_road_8 : decode cX10_road 8 = .ok (.ifCond .ne 5, 3) := by decide +kernel
theorem dX10_road_11 : decode cX10_road 11 = .ok (.iconst (-1), 1) := by decide +kernel
theorem dX10_road_12 : decode cX10_road 12 = .ok (.ireturn, 1) := by decide +kernel
theorem dX10_road_13 : decode cX10_road 13 = .ok (.iload_n 2, 1) := by decide +kernel
theorem dX10_road_14 : decode cX10_road 14 = .ok (.tableswitch 111 0 6 #[42, 52, 62, 72, 82, 92, 102], 42) := by decide +kernel
theorem dX10_road_56 : decode cX10_road 56 = .ok (.aload_n 0, 1) := by decide +kernel
theorem dX10_road_57 : decode cX10_road 57 = .ok (.getfield 19, 3) := by decide +kernel
theorem dX10_road_60 : decode cX10_road 60 = .ok (.getfield 151, 3) := by decide +kernel
theorem dX10_road_63 : decode cX10_road 63 = .ok (.iload_n 1, 1) := by decide +kernel
theorem dX10_road_64 : decode cX10_road 64 = .ok (.iaload, 1) := by decide +kernel
theorem dX10_road_65 : decode cX10_road 65 = .ok (.ireturn, 1) := by decide +kernel
theorem dX10_road_66 : decode cX10_road 66 = .ok (.aload_n 0, 1) := by decide +kernel
theorem dX10_road_67 : decode cX10_road 67 = .ok (.getfield 19, 3) := by decide +kernel
theorem dX10_road_70 : decode cX10_road 70 = .ok (.getfield 154, 3) := by decide +kernel
theorem dX10_road_73 : decode cX10_road 73 = .ok (.iload_n 1, 1) := by decide +kernel
theorem dX10_road_74 : decode cX10_road 74 = .ok (.iaload, 1) := by decide +kernel
theorem dX10_road_75 : decode cX10_road 75 = .ok (.ireturn, 1) := by decide +kernel
theorem dX10_road_76 : decode cX10_road 76 = .ok (.aload_n 0, 1) := by decide +kernel
theorem dX10_road_77 : decode cX10_road 77 = .ok (.getfield 19, 3) := by decide +kernel
theorem dX10_road_80 : decode cX10_road 80 = .ok (.getfield 157, 3) := by decide +kernel
theorem dX10_road_83 : decode cX10_road 83 = .ok (.iload_n 1, 1) := by decide +kernel
theorem dX10_road_84 : decode cX10_road 84 = .ok (.iaload, 1) := by decide +kernel
theorem dX10_road_85 : decode cX10_road 85 = .ok (.ireturn, 1) := by decide +kernel
theorem dX10_road_86 : decode cX10_road 86 = .ok (.aload_n 0, 1) := by decide +kernel
theorem dX10_road_87 : decode cX10_road 87 = .ok (.getfield 19, 3) := by decide +kernel
theorem dX10_road_90 : decode cX10_road 90 = .ok (.getfield 160, 3) := by decide +kernel
theorem dX10_road_93 : decode cX10_road 93 = .ok (.iload_n 1, 1) := by decide +kernel
theorem dX10_road_94 : decode cX10_road 94 = .ok (.iaload, 1) := by decide +kernel
theorem dX10_road_95 : decode cX10_road 95 = .ok (.ireturn, 1) := by decide +kernel
theorem dX10_road_96 : decode cX10_road 96 = .ok (.aload_n 0, 1) := by decide +kernel
theorem dX10_road_97 : decode cX10_road 97 = .ok (.getfield 19, 3) := by decide +kernel
theorem dX10_road_100 : decode cX10_road 100 = .ok (.getfield 163, 3) := by decide +kernel
theorem dX10_road_103 : decode cX10_road 103 = .ok (.iload_n 1, 1) := by decide +kernel
theorem dX10_road_104 : decode cX10_road 104 = .ok (.iaload, 1) := by decide +kernel
theorem dX10_road_105 : decode cX10_road 105 = .ok (.ireturn, 1) := by decide +kernel
theorem dX10_road_106 : decode cX10_road 106 = .ok (.aload_n 0, 1) := by decide +kernel
theorem dX10_road_107 : decode cX10_road 107 = .ok (.getfield 19, 3) := by decide +kernel
theorem dX10_road_110 : decode cX10_road 110 = .ok (.getfield 166, 3) := by decide +kernel
theorem dX10_road_113 : decode cX10_road 113 = .ok (.iload_n 1, 1) := by decide +kernel
theorem dX10_road_114 : decode cX10_road 114 = .ok (.iaload, 1) := by decide +kernel
theorem dX10_road_115 : decode cX10_road 115 = .ok (.ireturn, 1) := by decide +kernel
theorem dX10_road_116 : decode cX10_road 116 = .ok (.aload_n 0, 1) := by decide +kernel
theorem dX10_road_117 : decode cX10_road 117 = .ok (.getfield 19, 3) := by decide +kernel
theorem dX10_road_120 : decode cX10_road 120 = .ok (.iload_n 1, 1) := by decide +kernel
theorem dX10_road_121 : decode cX10_road 121 = .ok (.invokevirtual 169, 3) := by decide +kernel
theorem dX10_road_124 : decode cX10_road 124 = .ok (.ireturn, 1) := by decide +kernel
theorem dX10_road_125 : decode cX10_road 125 = .ok (.iconst (-1), 1) := by decide +kernel
theorem dX10_road_126 : decode cX10_road 126 = .ok (.ireturn, 1) := by decide +kernel
theorem dX10_scored_0 : decode cX10_scored 0 = .ok (.aload_n 0, 1) := by decide +kernel
theorem dX10_scored_1 : decode cX10_scored 1 = .ok (.getfield 19, 3) := by decide +kernel
theorem dX10_scored_4 : decode cX10_scored 4 = .ok (.iload_n 1, 1) := by decide +kernel
theorem dX10_scored_5 : decode cX10_scored 5 = .ok (.invokevirtual 173, 3) := by decide +kernel
theorem dX10_scored_8 : decode cX10_scored 8 = .ok (.ifCond .eq 15, 3) := by decide +kernel
theorem dX10_scored_11 : decode cX10_scored 11 = .ok (.aload_n 0, 1) := by decide +kernel
theorem dX10_scored_12 : decode cX10_scored 12 = .ok (.getfield 19, 3) := by decide +kernel
theorem dX10_scored_15 : decode cX10_scored 15 = .ok (.getfield 176, 3) := by decide +kernel
theorem dX10_scored_18 : decode cX10_scored 18 = .ok (.iload_n 1, 1) := by decide +kernel
theorem dX10_scored_19 : decode cX10_scored 19 = .ok (.iaload, 1) := by decide +kernel
theorem dX10_scored_20 : decode cX10_scored 20 = .ok (.goto 4, 3) := by decide +kernel
theorem dX10_scored_23 : decode cX10_scored 23 = .ok (.iconst (-1), 1) := by decide +kernel
theorem dX10_scored_24 : decode cX10_scored 24 = .ok (.ireturn, 1) := by decide +kernel
theorem dX10_count_0 : decode cX10_count 0 = .ok (.iload_n 1, 1) := by decide +kernel
theorem dX10_count_1 : decode cX10_count 1 = .ok (.tableswitch 195 0 13 #[71, 79, 87, 95, 100, 105, 113, 121, 136, 151, 166, 174, 182, 187], 71) := by decide +kernel
theorem dX10_count_72 : decode cX10_count 72 = .ok (.aload_n 0, 1) := by decide +kernel
theorem dX10_count_73 : decode cX10_count 73 = .ok (.getfield 19, 3) := by decide +kernel
theorem dX10_count_76 : decode cX10_count 76 = .ok (.getfield 179, 3) := by decide +kernel
theorem dX10_count_79 : decode cX10_count 79 = .ok (.ireturn, 1) := by decide +kernel
theorem dX10_count_80 : decode cX10_count 80 = .ok (.aload_n 0, 1) := by decide +kernel
theorem dX10_count_81 : decode cX10_count 81 = .ok (.getfield 19, 3) := by decide +kernel
theorem dX10_count_84 : decode cX10_count 84 = .ok (.getfield 182, 3) := by decide +kernel
theorem dX10_count_87 : decode cX10_count 87 = .ok (.ireturn, 1) := by decide +kernel
theorem dX10_count_88 : decode cX10_count 88 = .ok (.aload_n 0, 1) := by decide +kernel
theorem dX10_count_89 : decode cX10_count 89 = .ok (.getfield 19, 3) := by decide +kernel
theorem dX10_count_92 : decode cX10_count 92 = .ok (.getfield 132, 3) := by decide +kernel
theorem dX10_count_95 : decode cX10_count 95 = .ok (.ireturn, 1) := by decide +kernel
theorem dX10_count_96 : decode cX10_count 96 = .ok (.aload_n 0, 1) := by decide +kernel
theorem dX10_count_97 : decode cX10_count 97 = .ok (.getfield 99, 3) := by decide +kernel
theorem dX10_count_100 : decode cX10_count 100 = .ok (.ireturn, 1) := by decide +kernel
theorem dX10_count_101 : decode cX10_count 101 = .ok (.aload_n 0, 1) := by decide +kernel
theorem dX10_count_102 : decode cX10_count 102 = .ok (.getfield 103, 3) := by decide +kernel
theorem dX10_count_105 : decode cX10_count 105 = .ok (.ireturn, 1) := by decide +kernel
theorem dX10_count_106 : decode cX10_count 106 = .ok (.aload_n 0, 1) := by decide +kernel
theorem dX10_count_107 : decode cX10_count 107 = .ok (.getfield 19, 3) := by decide +kernel
theorem dX10_count_110 : decode cX10_count 110 = .ok (.getfield 185, 3) := by decide +kernel
theorem dX10_count_113 : decode cX10_count 113 = .ok (.ireturn, 1) := by decide +kernel
theorem dX10_count_114 : decode cX10_count 114 = .ok (.aload_n 0, 1) := by decide +kernel
theorem dX10_count_115 : decode cX10_count 115 = .ok (.getfield 19, 3) := by decide +kernel
theorem dX10_count_118 : decode cX10_count 118 = .ok (.invokevirtual 188, 3) := by decide +kernel
theorem dX10_count_121 : decode cX10_count 121 = .ok (.ireturn, 1) := by decide +kernel
theorem dX10_count_122 : decode cX10_count 122 = .ok (.aload_n 0, 1) := by decide +kernel
theorem dX10_count_123 : decode cX10_count 123 = .ok (.getfield 19, 3) := by decide +kernel
theorem dX10_count_126 : decode cX10_count 126 = .ok (.aload_n 0, 1) := by decide +kernel
theorem dX10_count_127 : decode cX10_count 127 = .ok (.getfield 19, 3) := by decide +kernel
theorem dX10_count_130 : decode cX10_count 130 = .ok (.getfield 151, 3) := by decide +kernel
theorem dX10_count_133 : decode cX10_count 133 = .ok (.invokevirtual 191, 3) := by decide +kernel
theorem dX10_count_136 : decode cX10_count 136 = .ok (.ireturn, 1) := by decide +kernel
theorem dX10_count_137 : decode cX10_count 137 = .ok (.aload_n 0, 1) := by decide +kernel
theorem dX10_count_138 : decode cX10_count 138 = .ok (.getfield 19, 3) := by decide +kernel
theorem dX10_count_141 : decode cX10_count 141 = .ok (.aload_n 0, 1) := by decide +kernel
theorem dX10_count_142 : decode cX10_count 142 = .ok (.getfield 19, 3) := by decide +kernel
theorem dX10_count_145 : decode cX10_count 145 = .ok (.getfield 163, 3) := by decide +kernel
theorem dX10_count_148 : decode cX10_count 148 = .ok (.invokevirtual 191, 3) := by decide +kernel
theorem dX10_count_151 : decode cX10_count 151 = .ok (.ireturn, 1) := by decide +kernel
theorem dX10_count_152 : decode cX10_count 152 = .ok (.aload_n 0, 1) := by decide +kernel
theorem dX10_count_153 : decode cX10_count 153 = .ok (.getfield 19, 3) := by decide +kernel
theorem dX10_count_156 : decode cX10_count 156 = .ok (.aload_n 0, 1) := by decide +kernel
theorem dX10_count_157 : decode cX10_count 157 = .ok (.getfield 19, 3) := by decide +kernel
theorem dX10_count_160 : decode cX10_count 160 = .ok (.getfield 166, 3) := by decide +kernel
theorem dX10_count_163 : decode cX10_count 163 = .ok (.invokevirtual 191, 3) := by decide +kernel
theorem dX10_count_166 : decode cX10_count 166 = .ok (.ireturn, 1) := by decide +kernel
theorem dX10_count_167 : decode cX10_count 167 = .ok (.aload_n 0, 1) := by decide +kernel
theorem dX10_count_168 : decode cX10_count 168 = .ok (.getfield 63, 3) := by decide +kernel
theorem dX10_count_171 : decode cX10_count 171 = .ok (.getfield 128, 3) := by decide +kernel
theorem dX10_count_174 : decode cX10_count 174 = .ok (.ireturn, 1) := by decide +kernel
theorem dX10_count_175 : decode cX10_count 175 = .ok (.aload_n 0, 1) := by decide +kernel
theorem dX10_count_176 : decode cX10_count 176 = .ok (.getfield 56, 3) := by decide +kernel
theorem dX10_count_179 : decode cX10_count 179 = .ok (.getfield 131, 3) := by decide +kernel
theorem dX10_count_182 : decode cX10_count 182 = .ok (.ireturn, 1) := by decide +kernel
theorem dX10_count_183 : decode cX10_count 183 = .ok (.aload_n 0, 1) := by decide +kernel
theorem dX10_count_184 : decode cX10_count 184 = .ok (.getfield 106, 3) := by decide +kernel
theorem dX10_count_187 : decode cX10_count 187 = .ok (.ireturn, 1) := by decide +kernel
theorem dX10_count_188 : decode cX10_count 188 = .ok (.aload_n 0, 1) := by decide +kernel
theorem dX10_count_189 : decode cX10_count 189 = .ok (.getfield 10, 3) := by decide +kernel
theorem dX10_count_192 : decode cX10_count 192 = .ok (.getfield 110, 3) := by decide +kernel
theorem dX10_count_195 : decode cX10_count 195 = .ok (.ireturn, 1) := by decide +kernel
theorem dX10_count_196 : decode cX10_count 196 = .ok (.iconst (-1), 1) := by decide +kernel
theorem dX10_count_197 : decode cX10_count 197 = .ok (.ireturn, 1) := by decide +kernel
theorem dX10_heard_0 : decode cX10_heard 0 = .ok (.aload_n 0, 1) := by decide +kernel
theorem dX10_heard_1 : decode cX10_heard 1 = .ok (.getfield 19, 3) := by decide +kernel
theorem dX10_heard_4 : decode cX10_heard 4 = .ok (.getfield 195, 3) := by decide +kernel
theorem dX10_heard_7 : decode cX10_heard 7 = .ok (.ireturn, 1) := by decide +kernel
theorem dX10_beat_0 : decode cX10_beat 0 = .ok (.aload_n 0, 1) := by decide +kernel
theorem dX10_beat_1 : decode cX10_beat 1 = .ok (.getfield 19, 3) := by decide +kernel
theorem dX10_beat_4 : decode cX10_beat 4 = .ok (.invokevirtual 198, 3) := by decide +kernel
theorem dX10_beat_7 : decode cX10_beat 7 = .ok (.ifCond .eq 16, 3) := by decide +kernel
theorem dX10_beat_10 : decode cX10_beat 10 = .ok (.aload_n 0, 1) := by decide +kernel
theorem dX10_beat_11 : decode cX10_beat 11 = .ok (.getfield 19, 3) := by decide +kernel
theorem dX10_beat_14 : decode cX10_beat 14 = .ok (.getfield 185, 3) := by decide +kernel
theorem dX10_beat_17 : decode cX10_beat 17 = .ok (.sipush 999, 3) := by decide +kernel
theorem dX10_beat_20 : decode cX10_beat 20 = .ok (.if_icmp .lt 5, 3) := by decide +kernel
theorem dX10_beat_23 : decode cX10_beat 23 = .ok (.iconst (-1), 1) := by decide +kernel
theorem dX10_beat_24 : decode cX10_beat 24 = .ok (.ireturn, 1) := by decide +kernel
theorem dX10_beat_25 : decode cX10_beat 25 = .ok (.aload_n 0, 1) := by decide +kernel
theorem dX10_beat_26 : decode cX10_beat 26 = .ok (.getfield 56, 3) := by decide +kernel
theorem dX10_beat_29 : decode cX10_beat 29 = .ok (.aload_n 0, 1) := by decide +kernel
theorem dX10_beat_30 : decode cX10_beat 30 = .ok (.getfield 19, 3) := by decide +kernel
theorem dX10_beat_33 : decode cX10_beat 33 = .ok (.invokevirtual 202, 3) := by decide +kernel
theorem dX10_beat_36 : decode cX10_beat 36 = .ok (.aload_n 0, 1) := by decide +kernel
theorem dX10_beat_37 : decode cX10_beat 37 = .ok (.getfield 19, 3) := by decide +kernel
theorem dX10_beat_40 : decode cX10_beat 40 = .ok (.aload_n 0, 1) := by decide +kernel
theorem dX10_beat_41 : decode cX10_beat 41 = .ok (.aload_n 0, 1) := by decide +kernel
theorem dX10_beat_42 : decode cX10_beat 42 = .ok (.getfield 103, 3) := by decide +kernel
theorem dX10_beat_45 : decode cX10_beat 45 = .ok (.invokevirtual 205, 3) := by decide +kernel
theorem dX10_beat_48 : decode cX10_beat 48 = .ok (.invokevirtual 209, 3) := by decide +kernel
theorem dX10_beat_51 : decode cX10_beat 51 = .ok (.ireturn, 1) := by decide +kernel
theorem dX10_come_0 : decode cX10_come 0 = .ok (.aload_n 0, 1) := by decide +kernel
theorem dX10_come_1 : decode cX10_come 1 = .ok (.getfield 19, 3) := by decide +kernel
theorem dX10_come_4 : decode cX10_come 4 = .ok (.iload_n 1, 1) := by decide +kernel
theorem dX10_come_5 : decode cX10_come 5 = .ok (.invokevirtual 147, 3) := by decide +kernel
theorem dX10_come_8 : decode cX10_come 8 = .ok (.ifCond .eq 13, 3) := by decide +kernel
theorem dX10_come_11 : decode cX10_come 11 = .ok (.iload_n 2, 1) := by decide +kernel
theorem dX10_come_12 : decode cX10_come 12 = .ok (.iconst 1, 1) := by decide +kernel
theorem dX10_come_13 : decode cX10_come 13 = .ok (.bipush 20, 2) := by decide +kernel
theorem dX10_come_15 : decode cX10_come 15 = .ok (.invokestatic 143, 3) := by decide +kernel
theorem dX10_come_18 : decode cX10_come 18 = .ok (.ifCond .ne 5, 3) := by decide +kernel
theorem dX10_come_21 : decode cX10_come 21 = .ok (.iconst (-1), 1) := by decide +kernel
theorem dX10_come_22 : decode cX10_come 22 = .ok (.ireturn, 1) := by decide +kernel
theorem dX10_come_23 : decode cX10_come 23 = .ok (.aload_n 0, 1) := by decide +kernel
theorem dX10_come_24 : decode cX10_come 24 = .ok (.getfield 56, 3) := by decide +kernel
theorem dX10_come_27 : decode cX10_come 27 = .ok (.aload_n 0, 1) := by decide +kernel
theorem dX10_come_28 : decode cX10_come 28 = .ok (.getfield 19, 3) := by decide +kernel
theorem dX10_come_31 : decode cX10_come 31 = .ok (.invokevirtual 202, 3) := by decide +kernel
theorem dX10_come_34 : decode cX10_come 34 = .ok (.aload_n 0, 1) := by decide +kernel
theorem dX10_come_35 : decode cX10_come 35 = .ok (.getfield 19, 3) := by decide +kernel
theorem dX10_come_38 : decode cX10_come 38 = .ok (.iload_n 1, 1) := by decide +kernel
theorem dX10_come_39 : decode cX10_come 39 = .ok (.iload_n 2, 1) := by decide +kernel
theorem dX10_come_40 : decode cX10_come 40 = .ok (.invokevirtual 213, 3) := by decide +kernel
theorem dX10_come_43 : decode cX10_come 43 = .ok (.aload_n 0, 1) := by decide +kernel
theorem dX10_come_44 : decode cX10_come 44 = .ok (.getfield 19, 3) := by decide +kernel
theorem dX10_come_47 : decode cX10_come 47 = .ok (.getfield 151, 3) := by decide +kernel
theorem dX10_come_50 : decode cX10_come 50 = .ok (.iload_n 1, 1) := by decide +kernel
theorem dX10_come_51 : decode cX10_come 51 = .ok (.iaload, 1) := by decide +kernel
theorem dX10_come_52 : decode cX10_come 52 = .ok (.ireturn, 1) := by decide +kernel
theorem dX10_wave_0 : decode cX10_wave 0 = .ok (.aload_n 0, 1) := by decide +kernel
theorem dX10_wave_1 : decode cX10_wave 1 = .ok (.getfield 19, 3) := by decide +kernel
theorem dX10_wave_4 : decode cX10_wave 4 = .ok (.iload_n 1, 1) := by decide +kernel
theorem dX10_wave_5 : decode cX10_wave 5 = .ok (.invokevirtual 147, 3) := by decide +kernel
theorem dX10_wave_8 : decode cX10_wave 8 = .ok (.ifCond .eq 15, 3) := by decide +kernel
theorem dX10_wave_11 : decode cX10_wave 11 = .ok (.aload_n 0, 1) := by decide +kernel
theorem dX10_wave_12 : decode cX10_wave 12 = .ok (.getfield 19, 3) := by decide +kernel
theorem dX10_wave_15 : decode cX10_wave 15 = .ok (.getfield 151, 3) := by decide +kernel
theorem dX10_wave_18 : decode cX10_wave 18 = .ok (.iload_n 1, 1) := by decide +kernel
theorem dX10_wave_19 : decode cX10_wave 19 = .ok (.iaload, 1) := by decide +kernel
theorem dX10_wave_20 : decode cX10_wave 20 = .ok (.ifCond .gt 5, 3) := by decide +kernel
theorem dX10_wave_23 : decode cX10_wave 23 = .ok (.iconst (-1), 1) := by decide +kernel
theorem dX10_wave_24 : decode cX10_wave 24 = .ok (.ireturn, 1) := by decide +kernel
theorem dX10_wave_25 : decode cX10_wave 25 = .ok (.aload_n 0, 1) := by decide +kernel
theorem dX10_wave_26 : decode cX10_wave 26 = .ok (.getfield 56, 3) := by decide +kernel
theorem dX10_wave_29 : decode cX10_wave 29 = .ok (.aload_n 0, 1) := by decide +kernel
theorem dX10_wave_30 : decode cX10_wave 30 = .ok (.getfield 19, 3) := by decide +kernel
theorem dX10_wave_33 : decode cX10_wave 33 = .ok (.invokevirtual 202, 3) := by decide +kernel
theorem dX10_wave_36 : decode cX10_wave 36 = .ok (.aload_n 0, 1) := by decide +kernel
theorem dX10_wave_37 : decode cX10_wave 37 = .ok (.getfield 19, 3) := by decide +kernel
theorem dX10_wave_40 : decode cX10_wave 40 = .ok (.iload_n 1, 1) := by decide +kernel
theorem dX10_wave_41 : decode cX10_wave 41 = .ok (.invokevirtual 217, 3) := by decide +kernel
theorem dX10_wave_44 : decode cX10_wave 44 = .ok (.ireturn, 1) := by decide +kernel
theorem dX10_score_0 : decode cX10_score 0 = .ok (.aload_n 0, 1) := by decide +kernel
theorem dX10_score_1 : decode cX10_score 1 = .ok (.getfield 19, 3) := by decide +kernel
theorem dX10_score_4 : decode cX10_score 4 = .ok (.iload_n 1, 1) := by decide +kernel
theorem dX10_score_5 : decode cX10_score 5 = .ok (.invokevirtual 173, 3) := by decide +kernel
theorem dX10_score_8 : decode cX10_score 8 = .ok (.ifCond .eq 14, 3) := by decide +kernel
theorem dX10_score_11 : decode cX10_score 11 = .ok (.aload_n 0, 1) := by decide +kernel
theorem dX10_score_12 : decode cX10_score 12 = .ok (.getfield 19, 3) := by decide +kernel
theorem dX10_score_15 : decode cX10_score 15 = .ok (.iload_n 2, 1) := by decide +kernel
theorem dX10_score_16 : decode cX10_score 16 = .ok (.invokevirtual 147, 3) := by decide +kernel
theorem dX10_score_19 : decode cX10_score 19 = .ok (.ifCond .ne 5, 3) := by decide +kernel
theorem dX10_score_22 : decode cX10_score 22 = .ok (.iconst (-1), 1) := by decide +kernel
theorem dX10_score_23 : decode cX10_score 23 = .ok (.ireturn, 1) := by decide +kernel
theorem dX10_score_24 : decode cX10_score 24 = .ok (.aload_n 0, 1) := by decide +kernel
theorem dX10_score_25 : decode cX10_score 25 = .ok (.getfield 56, 3) := by decide +kernel
theorem dX10_score_28 : decode cX10_score 28 = .ok (.aload_n 0, 1) := by decide +kernel
theorem dX10_score_29 : decode cX10_score 29 = .ok (.getfield 19, 3) := by decide +kernel
theorem dX10_score_32 : decode cX10_score 32 = .ok (.invokevirtual 202, 3) := by decide +kernel
theorem dX10_score_35 : decode cX10_score 35 = .ok (.aload_n 0, 1) := by decide +kernel
theorem dX10_score_36 : decode cX10_score 36 = .ok (.getfield 19, 3) := by decide +kernel
theorem dX10_score_39 : decode cX10_score 39 = .ok (.getfield 176, 3) := by decide +kernel
theorem dX10_score_42 : decode cX10_score 42 = .ok (.iload_n 1, 1) := by decide +kernel
theorem dX10_score_43 : decode cX10_score 43 = .ok (.dup2, 1) := by decide +kernel
theorem dX10_score_44 : decode cX10_score 44 = .ok (.iaload, 1) := by decide +kernel
theorem dX10_score_45 : decode cX10_score 45 = .ok (.iconst 1, 1) := by decide +kernel
theorem dX10_score_46 : decode cX10_score 46 = .ok (.iload_n 2, 1) := by decide +kernel
theorem dX10_score_47 : decode cX10_score 47 = .ok (.ishl, 1) := by decide +kernel
theorem dX10_score_48 : decode cX10_score 48 = .ok (.ixor, 1) := by decide +kernel
theorem dX10_score_49 : decode cX10_score 49 = .ok (.iastore, 1) := by decide +kernel
theorem dX10_score_50 : decode cX10_score 50 = .ok (.aload_n 0, 1) := by decide +kernel
theorem dX10_score_51 : decode cX10_score 51 = .ok (.getfield 19, 3) := by decide +kernel
theorem dX10_score_54 : decode cX10_score 54 = .ok (.getfield 176, 3) := by decide +kernel
theorem dX10_score_57 : decode cX10_score 57 = .ok (.iload_n 1, 1) := by decide +kernel
theorem dX10_score_58 : decode cX10_score 58 = .ok (.iaload, 1) := by decide +kernel
theorem dX10_score_59 : decode cX10_score 59 = .ok (.iload_n 2, 1) := by decide +kernel
theorem dX10_score_60 : decode cX10_score 60 = .ok (.ishr, 1) := by decide +kernel
theorem dX10_score_61 : decode cX10_score 61 = .ok (.iconst 1, 1) := by decide +kernel
theorem dX10_score_62 : decode cX10_score 62 = .ok (.iand, 1) := by decide +kernel
theorem dX10_score_63 : decode cX10_score 63 = .ok (.ireturn, 1) := by decide +kernel
theorem dX10_tune_0 : decode cX10_tune 0 = .ok (.aload_n 0, 1) := by decide +kernel
theorem dX10_tune_1 : decode cX10_tune 1 = .ok (.getfield 19, 3) := by decide +kernel
theorem dX10_tune_4 : decode cX10_tune 4 = .ok (.iload_n 1, 1) := by decide +kernel
theorem dX10_tune_5 : decode cX10_tune 5 = .ok (.invokevirtual 147, 3) := by decide +kernel
theorem dX10_tune_8 : decode cX10_tune 8 = .ok (.ifCond .eq 26, 3) := by decide +kernel
theorem dX10_tune_11 : decode cX10_tune 11 = .ok (.iload_n 2, 1) := by decide +kernel
theorem dX10_tune_12 : decode cX10_tune 12 = .ok (.iconst 0, 1) := by decide +kernel
theorem dX10_tune_13 : decode cX10_tune 13 = .ok (.bipush 11, 2) := by decide +kernel
theorem dX10_tune_15 : decode cX10_tune 15 = .ok (.invokestatic 143, 3) := by decide +kernel
theorem dX10_tune_18 : decode cX10_tune 18 = .ok (.ifCond .eq 16, 3) := by decide +kernel
theorem dX10_tune_21 : decode cX10_tune 21 = .ok (.aload_n 0, 1) := by decide +kernel
theorem dX10_tune_22 : decode cX10_tune 22 = .ok (.getfield 19, 3) := by decide +kernel
theorem dX10_tune_25 : decode cX10_tune 25 = .ok (.getfield 157, 3) := by decide +kernel
theorem dX10_tune_28 : decode cX10_tune 28 = .ok (.iload_n 1, 1) := by decide +kernel
theorem dX10_tune_29 : decode cX10_tune 29 = .ok (.iaload, 1) := by decide +kernel
theorem dX10_tune_30 : decode cX10_tune 30 = .ok (.iload_n 2, 1) := by decide +kernel
theorem dX10_tune_31 : decode cX10_tune 31 = .ok (.if_icmp .ne 5, 3) := by decide +kernel
theorem dX10_tune_34 : decode cX10_tune 34 = .ok (.iconst (-1), 1) := by decide +kernel
theorem dX10_tune_35 : decode cX10_tune 35 = .ok (.ireturn, 1) := by decide +kernel
theorem dX10_tune_36 : decode cX10_tune 36 = .ok (.aload_n 0, 1) := by decide +kernel
theorem dX10_tune_37 : decode cX10_tune 37 = .ok (.getfield 56, 3) := by decide +kernel
theorem dX10_tune_40 : decode cX10_tune 40 = .ok (.aload_n 0, 1) := by decide +kernel
theorem dX10_tune_41 : decode cX10_tune 41 = .ok (.getfield 19, 3) := by decide +kernel
theorem dX10_tune_44 : decode cX10_tune 44 = .ok (.invokevirtual 202, 3) := by decide +kernel
theorem dX10_tune_47 : decode cX10_tune 47 = .ok (.aload_n 0, 1) := by decide +kernel
theorem dX10_tune_48 : decode cX10_tune 48 = .ok (.getfield 19, 3) := by decide +kernel
theorem dX10_tune_51 : decode cX10_tune 51 = .ok (.getfield 157, 3) := by decide +kernel
theorem dX10_tune_54 : decode cX10_tune 54 = .ok (.iload_n 1, 1) := by decide +kernel
theorem dX10_tune_55 : decode cX10_tune 55 = .ok (.iaload, 1) := by decide +kernel
theorem dX10_tune_56 : decode cX10_tune 56 = .ok (.istore_n 3, 1) := by decide +kernel
theorem dX10_tune_57 : decode cX10_tune 57 = .ok (.aload_n 0, 1) := by decide +kernel
theorem dX10_tune_58 : decode cX10_tune 58 = .ok (.getfield 19, 3) := by decide +kernel
theorem dX10_tune_61 : decode cX10_tune 61 = .ok (.getfield 157, 3) := by decide +kernel
theorem dX10_tune_64 : decode cX10_tune 64 = .ok (.iload_n 1, 1) := by decide +kernel
theorem dX10_tune_65 : decode cX10_tune 65 = .ok (.iload_n 2, 1) := by decide +kernel
theorem dX10_tune_66 : decode cX10_tune 66 = .ok (.iastore, 1) := by decide +kernel
theorem dX10_tune_67 : decode cX10_tune 67 = .ok (.iload_n 3, 1) := by decide +kernel
theorem dX10_tune_68 : decode cX10_tune 68 = .ok (.ireturn, 1) := by decide +kernel
theorem dX10_undo_0 : decode cX10_undo 0 = .ok (.aload_n 0, 1) := by decide +kernel
theorem dX10_undo_1 : decode cX10_undo 1 = .ok (.getfield 56, 3) := by decide +kernel
theorem dX10_undo_4 : decode cX10_undo 4 = .ok (.getfield 131, 3) := by decide +kernel
theorem dX10_undo_7 : decode cX10_undo 7 = .ok (.ifCond .ne 5, 3) := by decide +kernel
theorem dX10_undo_10 : decode cX10_undo 10 = .ok (.iconst (-1), 1) := by decide +kernel
theorem dX10_undo_11 : decode cX10_undo 11 = .ok (.ireturn, 1) := by decide +kernel
theorem dX10_undo_12 : decode cX10_undo 12 = .ok (.aload_n 0, 1) := by decide +kernel
theorem dX10_undo_13 : decode cX10_undo 13 = .ok (.getfield 56, 3) := by decide +kernel
theorem dX10_undo_16 : decode cX10_undo 16 = .ok (.aload_n 0, 1) := by decide +kernel
theorem dX10_undo_17 : decode cX10_undo 17 = .ok (.getfield 19, 3) := by decide +kernel
theorem dX10_undo_20 : decode cX10_undo 20 = .ok (.invokevirtual 220, 3) := by decide +kernel
theorem dX10_undo_23 : decode cX10_undo 23 = .ok (.aload_n 0, 1) := by decide +kernel
theorem dX10_undo_24 : decode cX10_undo 24 = .ok (.getfield 56, 3) := by decide +kernel
theorem dX10_undo_27 : decode cX10_undo 27 = .ok (.getfield 131, 3) := by decide +kernel
theorem dX10_undo_30 : decode cX10_undo 30 = .ok (.ireturn, 1) := by decide +kernel
theorem dX10_ahead_0 : decode cX10_ahead 0 = .ok (.iload_n 2, 1) := by decide +kernel
theorem dX10_ahead_1 : decode cX10_ahead 1 = .ok (.iconst 0, 1) := by decide +kernel
theorem dX10_ahead_2 : decode cX10_ahead 2 = .ok (.bipush 100, 2) := by decide +kernel
theorem dX10_ahead_4 : decode cX10_ahead 4 = .ok (.invokestatic 143, 3) := by decide +kernel
theorem dX10_ahead_7 : decode cX10_ahead 7 = .ok (.ifCond .eq 32, 3) := by decide +kernel
theorem dX10_ahead_10 : decode cX10_ahead 10 = .ok (.iload_n 3, 1) := by decide +kernel
theorem dX10_ahead_11 : decode cX10_ahead 11 = .ok (.iconst 0, 1) := by decide +kernel
theorem dX10_ahead_12 : decode cX10_ahead 12 = .ok (.iconst 2, 1) := by decide +kernel
theorem dX10_ahead_13 : decode cX10_ahead 13 = .ok (.invokestatic 143, 3) := by decide +kernel
theorem dX10_ahead_16 : decode cX10_ahead 16 = .ok (.ifCond .eq 23, 3) := by decide +kernel
theorem dX10_ahead_19 : decode cX10_ahead 19 = .ok (.iload_n 3, 1) := by decide +kernel
theorem dX10_ahead_20 : decode cX10_ahead 20 = .ok (.iconst 2, 1) := by decide +kernel
theorem dX10_ahead_21 : decode cX10_ahead 21 = .ok (.if_icmp .eq 14, 3) := by decide +kernel
theorem dX10_ahead_24 : decode cX10_ahead 24 = .ok (.aload_n 0, 1) := by decide +kernel
theorem dX10_ahead_25 : decode cX10_ahead 25 = .ok (.getfield 19, 3) := by decide +kernel
theorem dX10_ahead_28 : decode cX10_ahead 28 = .ok (.iload_n 1, 1) := by decide +kernel
theorem dX10_ahead_29 : decode cX10_ahead 29 = .ok (.invokevirtual 147, 3) := by decide +kernel
theorem dX10_ahead_32 : decode cX10_ahead 32 = .ok (.ifCond .eq 7, 3) := by decide +kernel
theorem dX10_ahead_35 : decode cX10_ahead 35 = .ok (.iconst 1, 1) := by decide +kernel
theorem dX10_ahead_36 : decode cX10_ahead 36 = .ok (.goto 4, 3) := by decide +kernel
theorem dX10_ahead_39 : decode cX10_ahead 39 = .ok (.iconst 0, 1) := by decide +kernel
theorem dX10_ahead_40 : decode cX10_ahead 40 = .ok (.istore 4, 2) := by decide +kernel
theorem dX10_ahead_42 : decode cX10_ahead 42 = .ok (.aload_n 0, 1) := by decide +kernel
theorem dX10_ahead_43 : decode cX10_ahead 43 = .ok (.getfield 19, 3) := by decide +kernel
theorem dX10_ahead_46 : decode cX10_ahead 46 = .ok (.invokevirtual 198, 3) := by decide +kernel
theorem dX10_ahead_49 : decode cX10_ahead 49 = .ok (.ifCond .eq 8, 3) := by decide +kernel
theorem dX10_ahead_52 : decode cX10_ahead 52 = .ok (.iload 4, 2) := by decide +kernel
theorem dX10_ahead_54 : decode cX10_ahead 54 = .ok (.ifCond .ne 7, 3) := by decide +kernel
theorem dX10_ahead_57 : decode cX10_ahead 57 = .ok (.sipush (-10000), 3) := by decide +kernel
theorem dX10_ahead_60 : decode cX10_ahead 60 = .ok (.ireturn, 1) := by decide +kernel
theorem dX10_ahead_61 : decode cX10_ahead 61 = .ok (.aload_n 0, 1) := by decide +kernel
theorem dX10_ahead_62 : decode cX10_ahead 62 = .ok (.getfield 26, 3) := by decide +kernel
theorem dX10_ahead_65 : decode cX10_ahead 65 = .ok (.aload_n 0, 1) := by decide +kernel
theorem dX10_ahead_66 : decode cX10_ahead 66 = .ok (.getfield 19, 3) := by decide +kernel
theorem dX10_ahead_69 : decode cX10_ahead 69 = .ok (.invokevirtual 124, 3) := by decide +kernel
theorem dX10_ahead_72 : decode cX10_ahead 72 = .ok (.aload_n 0, 1) := by decide +kernel
theorem dX10_ahead_73 : decode cX10_ahead 73 = .ok (.getfield 26, 3) := by decide +kernel
theorem dX10_ahead_76 : decode cX10_ahead 76 = .ok (.iload_n 2, 1) := by decide +kernel
theorem dX10_ahead_77 : decode cX10_ahead 77 = .ok (.aload_n 0, 1) := by decide +kernel
theorem dX10_ahead_78 : decode cX10_ahead 78 = .ok (.aload_n 0, 1) := by decide +kernel
theorem dX10_ahead_79 : decode cX10_ahead 79 = .ok (.getfield 103, 3) := by decide +kernel
theorem dX10_ahead_82 : decode cX10_ahead 82 = .ok (.invokevirtual 205, 3) := by decide +kernel
theorem dX10_ahead_85 : decode cX10_ahead 85 = .ok (.invokevirtual 223, 3) := by decide +kernel
theorem dX10_ahead_88 : decode cX10_ahead 88 = .ok (.iload_n 3, 1) := by decide +kernel
theorem dX10_ahead_89 : decode cX10_ahead 89 = .ok (.iconst 2, 1) := by decide +kernel
theorem dX10_ahead_90 : decode cX10_ahead 90 = .ok (.if_icmp .ne 11, 3) := by decide +kernel
theorem dX10_ahead_93 : decode cX10_ahead 93 = .ok (.aload_n 0, 1) := by decide +kernel
theorem dX10_ahead_94 : decode cX10_ahead 94 = .ok (.getfield 26, 3) := by decide +kernel
theorem dX10_ahead_97 : decode cX10_ahead 97 = .ok (.getfield 195, 3) := by decide +kernel
theorem dX10_ahead_100 : decode cX10_ahead 100 = .ok (.ireturn, 1) := by decide +kernel
theorem dX10_ahead_101 : decode cX10_ahead 101 = .ok (.iload_n 3, 1) := by decide +kernel
theorem dX10_ahead_102 : decode cX10_ahead 102 = .ok (.ifCond .ne 15, 3) := by decide +kernel
theorem dX10_ahead_105 : decode cX10_ahead 105 = .ok (.aload_n 0, 1) := by decide +kernel
theorem dX10_ahead_106 : decode cX10_ahead 106 = .ok (.getfield 26, 3) := by decide +kernel
theorem dX10_ahead_109 : decode cX10_ahead 109 = .ok (.getfield 151, 3) := by decide +kernel
theorem dX10_ahead_112 : decode cX10_ahead 112 = .ok (.iload_n 1, 1) := by decide +kernel
theorem dX10_ahead_113 : decode cX10_ahead 113 = .ok (.iaload, 1) := by decide +kernel
theorem dX10_ahead_114 : decode cX10_ahead 114 = .ok (.goto 12, 3) := by decide +kernel
theorem dX10_ahead_117 : decode cX10_ahead 117 = .ok (.aload_n 0, 1) := by decide +kernel
theorem dX10_ahead_118 : decode cX10_ahead 118 = .ok (.getfield 26, 3) := by decide +kernel
theorem dX10_ahead_121 : decode cX10_ahead 121 = .ok (.getfield 163, 3) := by decide +kernel
theorem dX10_ahead_124 : decode cX10_ahead 124 = .ok (.iload_n 1, 1) := by decide +kernel
theorem dX10_ahead_125 : decode cX10_ahead 125 = .ok (.iaload, 1) := by decide +kernel
theorem dX10_ahead_126 : decode cX10_ahead 126 = .ok (.ireturn, 1) := by decide +kernel
theorem dX10_clear_0 : decode cX10_clear 0 = .ok (.aload_n 0, 1) := by decide +kernel
theorem dX10_clear_1 : decode cX10_clear 1 = .ok (.getfield 19, 3) := by decide +kernel
theorem dX10_clear_4 : decode cX10_clear 4 = .ok (.iload_n 1, 1) := by decide +kernel
theorem dX10_clear_5 : decode cX10_clear 5 = .ok (.invokevirtual 147, 3) := by decide +kernel
theorem dX10_clear_8 : decode cX10_clear 8 = .ok (.ifCond .ne 5, 3) := by decide +kernel
theorem dX10_clear_11 : decode cX10_clear 11 = .ok (.iconst (-1), 1) := by decide +kernel
theorem dX10_clear_12 : decode cX10_clear 12 = .ok (.ireturn, 1) := by decide +kernel
theorem dX10_clear_13 : decode cX10_clear 13 = .ok (.aload_n 0, 1) := by decide +kernel
theorem dX10_clear_14 : decode cX10_clear 14 = .ok (.getfield 26, 3) := by decide +kernel
theorem dX10_clear_17 : decode cX10_clear 17 = .ok (.aload_n 0, 1) := by decide +kernel
theorem dX10_clear_18 : decode cX10_clear 18 = .ok (.getfield 19, 3) := by decide +kernel
theorem dX10_clear_21 : decode cX10_clear 21 = .ok (.invokevirtual 124, 3) := by decide +kernel
theorem dX10_clear_24 : decode cX10_clear 24 = .ok (.iconst 0, 1) := by decide +kernel
theorem dX10_clear_25 : decode cX10_clear 25 = .ok (.istore_n 2, 1) := by decide +kernel
theorem dX10_clear_26 : decode cX10_clear 26 = .ok (.iload_n 2, 1) := by decide +kernel
theorem dX10_clear_27 : decode cX10_clear 27 = .ok (.sipush 200, 3) := by decide +kernel
theorem dX10_clear_30 : decode cX10_clear 30 = .ok (.if_icmp .ge 47, 3) := by decide +kernel
theorem dX10_clear_33 : decode cX10_clear 33 = .ok (.aload_n 0, 1) := by decide +kernel
theorem dX10_clear_34 : decode cX10_clear 34 = .ok (.getfield 26, 3) := by decide +kernel
theorem dX10_clear_37 : decode cX10_clear 37 = .ok (.aload_n 0, 1) := by decide +kernel
theorem dX10_clear_38 : decode cX10_clear 38 = .ok (.aload_n 0, 1) := by decide +kernel
theorem dX10_clear_39 : decode cX10_clear 39 = .ok (.getfield 103, 3) := by decide +kernel
theorem dX10_clear_42 : decode cX10_clear 42 = .ok (.invokevirtual 205, 3) := by decide +kernel
theorem dX10_clear_45 : decode cX10_clear 45 = .ok (.invokevirtual 209, 3) := by decide +kernel
theorem dX10_clear_48 : decode cX10_clear 48 = .ok (.pop, 1) := by decide +kernel
theorem dX10_clear_49 : decode cX10_clear 49 = .ok (.aload_n 0, 1) := by decide +kernel
theorem dX10_clear_50 : decode cX10_clear 50 = .ok (.getfield 26, 3) := by decide +kernel
theorem dX10_clear_53 : decode cX10_clear 53 = .ok (.getfield 151, 3) := by decide +kernel
theorem dX10_clear_56 : decode cX10_clear 56 = .ok (.iload_n 1, 1) := by decide +kernel
theorem dX10_clear_57 : decode cX10_clear 57 = .ok (.iaload, 1) := by decide +kernel
theorem dX10_clear_58 : decode cX10_clear 58 = .ok (.ifCond .ne 13, 3) := by decide +kernel
theorem dX10_clear_61 : decode cX10_clear 61 = .ok (.aload_n 0, 1) := by decide +kernel
theorem dX10_clear_62 : decode cX10_clear 62 = .ok (.getfield 19, 3) := by decide +kernel
theorem dX10_clear_65 : decode cX10_clear 65 = .ok (.getfield 185, 3) := by decide +kernel
theorem dX10_clear_68 : decode cX10_clear 68 = .ok (.iload_n 2, 1) := by decide +kernel
theorem dX10_clear_69 : decode cX10_clear 69 = .ok (.iadd, 1) := by decide +kernel
theorem dX10_clear_70 : decode cX10_clear 70 = .ok (.ireturn, 1) := by decide +kernel
theorem dX10_clear_71 : decode cX10_clear 71 = .ok (.iinc 2 1, 3) := by decide +kernel
theorem dX10_clear_74 : decode cX10_clear 74 = .ok (.goto (-48), 3) := by decide +kernel
theorem dX10_clear_77 : decode cX10_clear 77 = .ok (.bipush (-2), 2) := by decide +kernel
theorem dX10_clear_79 : decode cX10_clear 79 = .ok (.ireturn, 1) := by decide +kernel
theorem dX10_chord_0 : decode cX10_chord 0 = .ok (.aload_n 0, 1) := by decide +kernel
theorem dX10_chord_1 : decode cX10_chord 1 = .ok (.getfield 19, 3) := by decide +kernel
theorem dX10_chord_4 : decode cX10_chord 4 = .ok (.invokevirtual 198, 3) := by decide +kernel
theorem dX10_chord_7 : decode cX10_chord 7 = .ok (.ifCond .eq 12, 3) := by decide +kernel
theorem dX10_chord_10 : decode cX10_chord 10 = .ok (.iload_n 1, 1) := by decide +kernel
theorem dX10_chord_11 : decode cX10_chord 11 = .ok (.iconst 0, 1) := by decide +kernel
theorem dX10_chord_12 : decode cX10_chord 12 = .ok (.iconst 1, 1) := by decide +kernel
theorem dX10_chord_13 : decode cX10_chord 13 = .ok (.invokestatic 143, 3) := by decide +kernel
theorem dX10_chord_16 : decode cX10_chord 16 = .ok (.ifCond .ne 5, 3) := by decide +kernel
theorem dX10_chord_19 : decode cX10_chord 19 = .ok (.iconst (-1), 1) := by decide +kernel
theorem dX10_chord_20 : decode cX10_chord 20 = .ok (.ireturn, 1) := by decide +kernel
theorem dX10_chord_21 : decode cX10_chord 21 = .ok (.iconst 0, 1) := by decide +kernel
theorem dX10_chord_22 : decode cX10_chord 22 = .ok (.istore_n 2, 1) := by decide +kernel
theorem dX10_chord_23 : decode cX10_chord 23 = .ok (.iconst 0, 1) := by decide +kernel
theorem dX10_chord_24 : decode cX10_chord 24 = .ok (.istore_n 3, 1) := by decide +kernel
theorem dX10_chord_25 : decode cX10_chord 25 = .ok (.iconst 1, 1) := by decide +kernel
theorem dX10_chord_26 : decode cX10_chord 26 = .ok (.istore 4, 2) := by decide +kernel
theorem dX10_chord_28 : decode cX10_chord 28 = .ok (.iload 4, 2) := by decide +kernel
theorem dX10_chord_30 : decode cX10_chord 30 = .ok (.iconst 1, 1) := by decide +kernel
theorem dX10_chord_31 : decode cX10_chord 31 = .ok (.aload_n 0, 1) := by decide +kernel
theorem dX10_chord_32 : decode cX10_chord 32 = .ok (.getfield 19, 3) := by decide +kernel
theorem dX10_chord_35 : decode cX10_chord 35 = .ok (.getfield 132, 3) := by decide +kernel
theorem dX10_chord_38 : decode cX10_chord 38 = .ok (.ishl, 1) := by decide +kernel
theorem dX10_chord_39 : decode cX10_chord 39 = .ok (.if_icmp .ge 74, 3) := by decide +kernel
theorem dX10_chord_42 : decode cX10_chord 42 = .ok (.aload_n 0, 1) := by decide +kernel
theorem dX10_chord_43 : decode cX10_chord 43 = .ok (.getfield 19, 3) := by decide +kernel
theorem dX10_chord_46 : decode cX10_chord 46 = .ok (.iload 4, 2) := by decide +kernel
theorem dX10_chord_48 : decode cX10_chord 48 = .ok (.invokevirtual 227, 3) := by decide +kernel
theorem dX10_chord_51 : decode cX10_chord 51 = .ok (.istore 5, 2) := by decide +kernel
theorem dX10_chord_53 : decode cX10_chord 53 = .ok (.iload 5, 2) := by decide +kernel
theorem dX10_chord_55 : decode cX10_chord 55 = .ok (.iload_n 3, 1) := by decide +kernel
theorem dX10_chord_56 : decode cX10_chord 56 = .ok (.if_icmp .gt 21, 3) := by decide +kernel
theorem dX10_chord_59 : decode cX10_chord 59 = .ok (.iload 5, 2) := by decide +kernel
theorem dX10_chord_61 : decode cX10_chord 61 = .ok (.iload_n 3, 1) := by decide +kernel
theorem dX10_chord_62 : decode cX10_chord 62 = .ok (.if_icmp .ne 19, 3) := by decide +kernel
theorem dX10_chord_65 : decode cX10_chord 65 = .ok (.iload 4, 2) := by decide +kernel
theorem dX10_chord_67 : decode cX10_chord 67 = .ok (.invokestatic 230, 3) := by decide +kernel
theorem dX10_chord_70 : decode cX10_chord 70 = .ok (.iload_n 2, 1) := by decide +kernel
theorem dX10_chord_71 : decode cX10_chord 71 = .ok (.invokestatic 230, 3) := by decide +kernel
theorem dX10_chord_74 : decode cX10_chord 74 = .ok (.if_icmp .ge 7, 3) := by decide +kernel
theorem dX10_chord_77 : decode cX10_chord 77 = .ok (.iconst 1, 1) := by decide +kernel
theorem dX10_chord_78 : decode cX10_chord 78 = .ok (.goto 4, 3) := by decide +kernel
theorem dX10_chord_81 : decode cX10_chord 81 = .ok (.iconst 0, 1) := by decide +kernel
theorem dX10_chord_82 : decode cX10_chord 82 = .ok (.istore 6, 2) := by decide +kernel
theorem dX10_chord_84 : decode cX10_chord 84 = .ok (.iload 6, 2) := by decide +kernel
theorem dX10_chord_86 : decode cX10_chord 86 = .ok (.ifCond .eq 21, 3) := by decide +kernel
theorem dX10_chord_89 : decode cX10_chord 89 = .ok (.aload_n 0, 1) := by decide +kernel
theorem dX10_chord_90 : decode cX10_chord 90 = .ok (.getfield 19, 3) := by decide +kernel
theorem dX10_chord_93 : decode cX10_chord 93 = .ok (.iload 4, 2) := by decide +kernel
theorem dX10_chord_95 : decode cX10_chord 95 = .ok (.invokevirtual 235, 3) := by decide +kernel
theorem dX10_chord_98 : decode cX10_chord 98 = .ok (.ifCond .eq 9, 3) := by decide +kernel
theorem dX10_chord_101 : decode cX10_chord 101 = .ok (.iload 4, 2) := by decide +kernel
theorem dX10_chord_103 : decode cX10_chord 103 = .ok (.istore_n 2, 1) := by decide +kernel
theorem dX10_chord_104 : decode cX10_chord 104 = .ok (.iload 5, 2) := by decide +kernel
theorem dX10_chord_106 : decode cX10_chord 106 = .ok (.istore_n 3, 1) := by decide +kernel
theorem dX10_chord_107 : decode cX10_chord 107 = .ok (.iinc 4 1, 3) := by decide +kernel
theorem dX10_chord_110 : decode cX10_chord 110 = .ok (.goto (-82), 3) := by decide +kernel
theorem dX10_chord_113 : decode cX10_chord 113 = .ok (.iload_n 1, 1) := by decide +kernel
theorem dX10_chord_114 : decode cX10_chord 114 = .ok (.ifCond .ne 7, 3) := by decide +kernel
theorem dX10_chord_117 : decode cX10_chord 117 = .ok (.iload_n 3, 1) := by decide +kernel
theorem dX10_chord_118 : decode cX10_chord 118 = .ok (.goto 4, 3) := by decide +kernel
theorem dX10_chord_121 : decode cX10_chord 121 = .ok (.iload_n 2, 1) := by decide +kernel
theorem dX10_chord_122 : decode cX10_chord 122 = .ok (.ireturn, 1) := by decide +kernel
theorem dX10_beats_0 : decode cX10_beats 0 = .ok (.aload_n 0, 1) := by decide +kernel
theorem dX10_beats_1 : decode cX10_beats 1 = .ok (.getfield 19, 3) := by decide +kernel
theorem dX10_beats_4 : decode cX10_beats 4 = .ok (.invokevirtual 198, 3) := by decide +kernel
theorem dX10_beats_7 : decode cX10_beats 7 = .ok (.ifCond .eq 12, 3) := by decide +kernel
theorem dX10_beats_10 : decode cX10_beats 10 = .ok (.iload_n 1, 1) := by decide +kernel
theorem dX10_beats_11 : decode cX10_beats 11 = .ok (.iconst (-1), 1) := by decide +kernel
theorem dX10_beats_12 : decode cX10_beats 12 = .ok (.iconst 5, 1) := by decide +kernel
theorem dX10_beats_13 : decode cX10_beats 13 = .ok (.invokestatic 143, 3) := by decide +kernel
theorem dX10_beats_16 : decode cX10_beats 16 = .ok (.ifCond .ne 6, 3) := by decide +kernel
theorem dX10_beats_19 : decode cX10_beats 19 = .ok (.bipush (-3), 2) := by decide +kernel
theorem dX10_beats_21 : decode cX10_beats 21 = .ok (.ireturn, 1) := by decide +kernel
theorem dX10_beats_22 : decode cX10_beats 22 = .ok (.iconst 0, 1) := by decide +kernel
theorem dX10_beats_23 : decode cX10_beats 23 = .ok (.istore_n 2, 1) := by decide +kernel
theorem dX10_beats_24 : decode cX10_beats 24 = .ok (.aload_n 0, 1) := by decide +kernel
theorem dX10_beats_25 : decode cX10_beats 25 = .ok (.iconst 0, 1) := by decide +kernel
theorem dX10_beats_26 : decode cX10_beats 26 = .ok (.iload_n 2, 1) := by decide +kernel
theorem dX10_beats_27 : decode cX10_beats 27 = .ok (.invokevirtual 238, 3) := by decide +kernel
theorem dX10_beats_30 : decode cX10_beats 30 = .ok (.ifCond .ne 15, 3) := by decide +kernel
theorem dX10_beats_33 : decode cX10_beats 33 = .ok (.iload_n 2, 1) := by decide +kernel
theorem dX10_beats_34 : decode cX10_beats 34 = .ok (.bipush 6, 2) := by decide +kernel
theorem dX10_beats_36 : decode cX10_beats 36 = .ok (.if_icmp .ge 9, 3) := by decide +kernel
theorem dX10_beats_39 : decode cX10_beats 39 = .ok (.iinc 2 1, 3) := by decide +kernel
theorem dX10_beats_42 : decode cX10_beats 42 = .ok (.goto (-18), 3) := by decide +kernel
theorem dX10_beats_45 : decode cX10_beats 45 = .ok (.iload_n 1, 1) := by decide +kernel
theorem dX10_beats_46 : decode cX10_beats 46 = .ok (.iconst (-1), 1) := by decide +kernel
theorem dX10_beats_47 : decode cX10_beats 47 = .ok (.if_icmp .ne 5, 3) := by decide +kernel
theorem dX10_beats_50 : decode cX10_beats 50 = .ok (.iload_n 2, 1) := by decide +kernel
theorem dX10_beats_51 : decode cX10_beats 51 = .ok (.ireturn, 1) := by decide +kernel
theorem dX10_beats_52 : decode cX10_beats 52 = .ok (.aload_n 0, 1) := by decide +kernel
theorem dX10_beats_53 : decode cX10_beats 53 = .ok (.getfield 19, 3) := by decide +kernel
theorem dX10_beats_56 : decode cX10_beats 56 = .ok (.iload_n 1, 1) := by decide +kernel
theorem dX10_beats_57 : decode cX10_beats 57 = .ok (.invokevirtual 147, 3) := by decide +kernel
theorem dX10_beats_60 : decode cX10_beats 60 = .ok (.ifCond .eq 12, 3) := by decide +kernel
theorem dX10_beats_63 : decode cX10_beats 63 = .ok (.aload_n 0, 1) := by decide +kernel
theorem dX10_beats_64 : decode cX10_beats 64 = .ok (.getfield 80, 3) := by decide +kernel
theorem dX10_beats_67 : decode cX10_beats 67 = .ok (.iload_n 1, 1) := by decide +kernel
theorem dX10_beats_68 : decode cX10_beats 68 = .ok (.iaload, 1) := by decide +kernel
theorem dX10_beats_69 : decode cX10_beats 69 = .ok (.goto 5, 3) := by decide +kernel
theorem dX10_beats_72 : decode cX10_beats 72 = .ok (.bipush (-2), 2) := by decide +kernel
theorem dX10_beats_74 : decode cX10_beats 74 = .ok (.ireturn, 1) := by decide +kernel
theorem dX10_share_0 : decode cX10_share 0 = .ok (.aload_n 0, 1) := by decide +kernel
theorem dX10_share_1 : decode cX10_share 1 = .ok (.getfield 19, 3) := by decide +kernel
theorem dX10_share_4 : decode cX10_share 4 = .ok (.iload_n 1, 1) := by decide +kernel
theorem dX10_share_5 : decode cX10_share 5 = .ok (.invokevirtual 147, 3) := by decide +kernel
theorem dX10_share_8 : decode cX10_share 8 = .ok (.ifCond .ne 5, 3) := by decide +kernel
theorem dX10_share_11 : decode cX10_share 11 = .ok (.iconst 1, 1) := by decide +kernel
theorem dX10_share_12 : decode cX10_share 12 = .ok (.ireturn, 1) := by decide +kernel
theorem dX10_share_13 : decode cX10_share 13 = .ok (.iconst 0, 1) := by decide +kernel
theorem dX10_share_14 : decode cX10_share 14 = .ok (.istore_n 3, 1) := by decide +kernel
theorem dX10_share_15 : decode cX10_share 15 = .ok (.iload_n 3, 1) := by decide +kernel
theorem dX10_share_16 : decode cX10_share 16 = .ok (.iload_n 2, 1) := by decide +kernel
theorem dX10_share_17 : decode cX10_share 17 = .ok (.if_icmp .ge 37, 3) := by decide +kernel
theorem dX10_share_20 : decode cX10_share 20 = .ok (.aload_n 0, 1) := by decide +kernel
theorem dX10_share_21 : decode cX10_share 21 = .ok (.getfield 80, 3) := by decide +kernel
theorem dX10_share_24 : decode cX10_share 24 = .ok (.iload_n 1, 1) := by decide +kernel
theorem dX10_share_25 : decode cX10_share 25 = .ok (.iload_n 3, 1) := by decide +kernel
theorem dX10_share_26 : decode cX10_share 26 = .ok (.iastore, 1) := by decide +kernel
theorem dX10_share_27 : decode cX10_share 27 = .ok (.aload_n 0, 1) := by decide +kernel
theorem dX10_share_28 : decode cX10_share 28 = .ok (.iload_n 1, 1) := by decide +kernel
theorem dX10_share_29 : decode cX10_share 29 = .ok (.invokevirtual 242, 3) := by decide +kernel
theorem dX10_share_32 : decode cX10_share 32 = .ok (.ifCond .eq 16, 3) := by decide +kernel
theorem dX10_share_35 : decode cX10_share 35 = .ok (.aload_n 0, 1) := by decide +kernel
theorem dX10_share_36 : decode cX10_share 36 = .ok (.iload_n 1, 1) := by decide +kernel
theorem dX10_share_37 : decode cX10_share 37 = .ok (.iconst 1, 1) := by decide +kernel
theorem dX10_share_38 : decode cX10_share 38 = .ok (.iadd, 1) := by decide +kernel
theorem dX10_share_39 : decode cX10_share 39 = .ok (.iload_n 2, 1) := by decide +kernel
theorem dX10_share_40 : decode cX10_share 40 = .ok (.invokevirtual 238, 3) := by decide +kernel
theorem dX10_share_43 : decode cX10_share 43 = .ok (.ifCond .eq 5, 3) := by decide +kernel
theorem dX10_share_46 : decode cX10_share 46 = .ok (.iconst 1, 1) := by decide +kernel
theorem dX10_share_47 : decode cX10_share 47 = .ok (.ireturn, 1) := by decide +kernel
theorem dX10_share_48 : decode cX10_share 48 = .ok (.iinc 3 1, 3) := by decide +kernel
theorem dX10_share_51 : decode cX10_share 51 = .ok (.goto (-36), 3) := by decide +kernel
theorem dX10_share_54 : decode cX10_share 54 = .ok (.iconst 0, 1) := by decide +kernel
theorem dX10_share_55 : decode cX10_share 55 = .ok (.ireturn, 1) := by decide +kernel
theorem dX10_isFree_0 : decode cX10_isFree 0 = .ok (.iconst 0, 1) := by decide +kernel
theorem dX10_isFree_1 : decode cX10_isFree 1 = .ok (.istore_n 2, 1) := by decide +kernel
theorem dX10_isFree_2 : decode cX10_isFree 2 = .ok (.iload_n 2, 1) := by decide +kernel
theorem dX10_isFree_3 : decode cX10_isFree 3 = .ok (.iload_n 1, 1) := by decide +kernel
theorem dX10_isFree_4 : decode cX10_isFree 4 = .ok (.if_icmp .ge 43, 3) := by decide +kernel
theorem dX10_isFree_7 : decode cX10_isFree 7 = .ok (.aload_n 0, 1) := by decide +kernel
theorem dX10_isFree_8 : decode cX10_isFree 8 = .ok (.getfield 80, 3) := by decide +kernel
theorem dX10_isFree_11 : decode cX10_isFree 11 = .ok (.iload_n 2, 1) := by decide +kernel
theorem dX10_isFree_12 : decode cX10_isFree 12 = .ok (.iaload, 1) := by decide +kernel
theorem dX10_isFree_13 : decode cX10_isFree 13 = .ok (.aload_n 0, 1) := by decide +kernel
theorem dX10_isFree_14 : decode cX10_isFree 14 = .ok (.getfield 80, 3) := by decide +kernel
theorem dX10_isFree_17 : decode cX10_isFree 17 = .ok (.iload_n 1, 1) := by decide +kernel
theorem dX10_isFree_18 : decode cX10_isFree 18 = .ok (.iaload, 1) := by decide +kernel
theorem dX10_isFree_19 : decode cX10_isFree 19 = .ok (.if_icmp .ne 22, 3) := by decide +kernel
theorem dX10_isFree_22 : decode cX10_isFree 22 = .ok (.aload_n 0, 1) := by decide +kernel
theorem dX10_isFree_23 : decode cX10_isFree 23 = .ok (.getfield 19, 3) := by decide +kernel
theorem dX10_isFree_26 : decode cX10_isFree 26 = .ok (.getfield 160, 3) := by decide +kernel
theorem dX10_isFree_29 : decode cX10_isFree 29 = .ok (.iload_n 1, 1) := by decide +kernel
theorem dX10_isFree_30 : decode cX10_isFree 30 = .ok (.iaload, 1) := by decide +kernel
theorem dX10_isFree_31 : decode cX10_isFree 31 = .ok (.iload_n 2, 1) := by decide +kernel
theorem dX10_isFree_32 : decode cX10_isFree 32 = .ok (.ishr, 1) := by decide +kernel
theorem dX10_isFree_33 : decode cX10_isFree 33 = .ok (.iconst 1, 1) := by decide +kernel
theorem dX10_isFree_34 : decode cX10_isFree 34 = .ok (.iand, 1) := by decide +kernel
theorem dX10_isFree_35 : decode cX10_isFree 35 = .ok (.iconst 1, 1) := by decide +kernel
theorem dX10_isFree_36 : decode cX10_isFree 36 = .ok (.if_icmp .ne 5, 3) := by decide +kernel
theorem dX10_isFree_39 : decode cX10_isFree 39 = .ok (.iconst 0, 1) := by decide +kernel
theorem dX10_isFree_40 : decode cX10_isFree 40 = .ok (.ireturn, 1) := by decide +kernel
theorem dX10_isFree_41 : decode cX10_isFree 41 = .ok (.iinc 2 1, 3) := by decide +kernel
theorem dX10_isFree_44 : decode cX10_isFree 44 = .ok (.goto (-42), 3) := by decide +kernel
theorem dX10_isFree_47 : decode cX10_isFree 47 = .ok (.iconst 1, 1) := by decide +kernel
theorem dX10_isFree_48 : decode cX10_isFree 48 = .ok (.ireturn, 1) := by decide +kernel
theorem dX10_bestScore_0 : decode cX10_bestScore 0 = .ok (.aload_n 0, 1) := by decide +kernel
theorem dX10_bestScore_1 : decode cX10_bestScore 1 = .ok (.getfield 19, 3) := by decide +kernel
theorem dX10_bestScore_4 : decode cX10_bestScore 4 = .ok (.invokevirtual 198, 3) := by decide +kernel
theorem dX10_bestScore_7 : decode cX10_bestScore 7 = .ok (.ifCond .eq 22, 3) := by decide +kernel
theorem dX10_bestScore_10 : decode cX10_bestScore 10 = .ok (.iload_n 1, 1) := by decide +kernel
theorem dX10_bestScore_11 : decode cX10_bestScore 11 = .ok (.iconst 1, 1) := by decide +kernel
theorem dX10_bestScore_12 : decode cX10_bestScore 12 = .ok (.bipush 30, 2) := by decide +kernel
theorem dX10_bestScore_14 : decode cX10_bestScore 14 = .ok (.invokestatic 143, 3) := by decide +kernel
theorem dX10_bestScore_17 : decode cX10_bestScore 17 = .ok (.ifCond .eq 12, 3) := by decide +kernel
theorem dX10_bestScore_20 : decode cX10_bestScore 20 = .ok (.iload_n 2, 1) := by decide +kernel
theorem dX10_bestScore_21 : decode cX10_bestScore 21 = .ok (.iconst 0, 1) := by decide +kernel
theorem dX10_bestScore_22 : decode cX10_bestScore 22 = .ok (.iconst 2, 1) := by decide +kernel
theorem dX10_bestScore_23 : decode cX10_bestScore 23 = .ok (.invokestatic 143, 3) := by decide +kernel
theorem dX10_bestScore_26 : decode cX10_bestScore 26 = .ok (.ifCond .ne 5, 3) := by decide +kernel
theorem dX10_bestScore_29 : decode cX10_bestScore 29 = .ok (.iconst (-1), 1) := by decide +kernel
theorem dX10_bestScore_30 : decode cX10_bestScore 30 = .ok (.ireturn, 1) := by decide +kernel
theorem dX10_bestScore_31 : decode cX10_bestScore 31 = .ok (.bipush (-2), 2) := by decide +kernel
theorem dX10_bestScore_33 : decode cX10_bestScore 33 = .ok (.istore_n 3, 1) := by decide +kernel
theorem dX10_bestScore_34 : decode cX10_bestScore 34 = .ok (.bipush (-2), 2) := by decide +kernel
theorem dX10_bestScore_36 : decode cX10_bestScore 36 = .ok (.istore 4, 2) := by decide +kernel
theorem dX10_bestScore_38 : decode cX10_bestScore 38 = .ok (.aload_n 0, 1) := by decide +kernel
theorem dX10_bestScore_39 : decode cX10_bestScore 39 = .ok (.iconst 0, 1) := by decide +kernel
theorem dX10_bestScore_40 : decode cX10_bestScore 40 = .ok (.iconst 0, 1) := by decide +kernel
theorem dX10_bestScore_41 : decode cX10_bestScore 41 = .ok (.iload_n 1, 1) := by decide +kernel
theorem dX10_bestScore_42 : decode cX10_bestScore 42 = .ok (.invokevirtual 245, 3) := by decide +kernel
theorem dX10_bestScore_45 : decode cX10_bestScore 45 = .ok (.istore 5, 2) := by decide +kernel
theorem dX10_bestScore_47 : decode cX10_bestScore 47 = .ok (.iconst 0, 1) := by decide +kernel
theorem dX10_bestScore_48 : decode cX10_bestScore 48 = .ok (.istore 6, 2) := by decide +kernel
theorem dX10_bestScore_50 : decode cX10_bestScore 50 = .ok (.iload 6, 2) := by decide +kernel
theorem dX10_bestScore_52 : decode cX10_bestScore 52 = .ok (.aload_n 0, 1) := by decide +kernel
theorem dX10_bestScore_53 : decode cX10_bestScore 53 = .ok (.getfield 19, 3) := by decide +kernel
theorem dX10_bestScore_56 : decode cX10_bestScore 56 = .ok (.getfield 179, 3) := by decide +kernel
theorem dX10_bestScore_59 : decode cX10_bestScore 59 = .ok (.if_icmp .ge 61, 3) := by decide +kernel
theorem dX10_bestScore_62 : decode cX10_bestScore 62 = .ok (.iconst 0, 1) := by decide +kernel
theorem dX10_bestScore_63 : decode cX10_bestScore 63 = .ok (.istore 7, 2) := by decide +kernel
theorem dX10_bestScore_65 : decode cX10_bestScore 65 = .ok (.iload 7, 2) := by decide +kernel
theorem dX10_bestScore_67 : decode cX10_bestScore 67 = .ok (.aload_n 0, 1) := by decide +kernel
theorem dX10_bestScore_68 : decode cX10_bestScore 68 = .ok (.getfield 19, 3) := by decide +kernel
theorem dX10_bestScore_71 : decode cX10_bestScore 71 = .ok (.getfield 132, 3) := by decide +kernel
theorem dX10_bestScore_74 : decode cX10_bestScore 74 = .ok (.if_icmp .ge 40, 3) := by decide +kernel
theorem dX10_bestScore_77 : decode cX10_bestScore 77 = .ok (.aload_n 0, 1) := by decide +kernel
theorem dX10_bestScore_78 : decode cX10_bestScore 78 = .ok (.iload 6, 2) := by decide +kernel
theorem dX10_bestScore_80 : decode cX10_bestScore 80 = .ok (.iconst 1, 1) := by decide +kernel
theorem dX10_bestScore_81 : decode cX10_bestScore 81 = .ok (.iload 7, 2) := by decide +kernel
theorem dX10_bestScore_83 : decode cX10_bestScore 83 = .ok (.ishl, 1) := by decide +kernel
theorem dX10_bestScore_84 : decode cX10_bestScore 84 = .ok (.iload_n 1, 1) := by decide +kernel
theorem dX10_bestScore_85 : decode cX10_bestScore 85 = .ok (.invokevirtual 245, 3) := by decide +kernel
theorem dX10_bestScore_88 : decode cX10_bestScore 88 = .ok (.istore 8, 2) := by decide +kernel
theorem dX10_bestScore_90 : decode cX10_bestScore 90 = .ok (.iload 8, 2) := by decide +kernel
theorem dX10_bestScore_92 : decode cX10_bestScore 92 = .ok (.iload 5, 2) := by decide +kernel
theorem dX10_bestScore_94 : decode cX10_bestScore 94 = .ok (.if_icmp .ge 14, 3) := by decide +kernel
theorem dX10_bestScore_97 : decode cX10_bestScore 97 = .ok (.iload 8, 2) := by decide +kernel
theorem dX10_bestScore_99 : decode cX10_bestScore 99 = .ok (.istore 5, 2) := by decide +kernel
theorem dX10_bestScore_101 : decode cX10_bestScore 101 = .ok (.iload 6, 2) := by decide +kernel
theorem dX10_bestScore_103 : decode cX10_bestScore 103 = .ok (.istore_n 3, 1) := by decide +kernel
theorem dX10_bestScore_104 : decode cX10_bestScore 104 = .ok (.iload 7, 2) := by decide +kernel
theorem dX10_bestScore_106 : decode cX10_bestScore 106 = .ok (.istore 4, 2) := by decide +kernel
theorem dX10_bestScore_108 : decode cX10_bestScore 108 = .ok (.iinc 7 1, 3) := by decide +kernel
theorem dX10_bestScore_111 : decode cX10_bestScore 111 = .ok (.goto (-46), 3) := by decide +kernel
theorem dX10_bestScore_114 : decode cX10_bestScore 114 = .ok (.iinc 6 1, 3) := by decide +kernel
theorem dX10_bestScore_117 : decode cX10_bestScore 117 = .ok (.goto (-67), 3) := by decide +kernel
theorem dX10_bestScore_120 : decode cX10_bestScore 120 = .ok (.iload_n 2, 1) := by decide +kernel
theorem dX10_bestScore_121 : decode cX10_bestScore 121 = .ok (.ifCond .ne 6, 3) := by decide +kernel
theorem dX10_bestScore_124 : decode cX10_bestScore 124 = .ok (.iload 5, 2) := by decide +kernel
theorem dX10_bestScore_126 : decode cX10_bestScore 126 = .ok (.ireturn, 1) := by decide +kernel
theorem dX10_bestScore_127 : decode cX10_bestScore 127 = .ok (.iload_n 2, 1) := by decide +kernel
theorem dX10_bestScore_128 : decode cX10_bestScore 128 = .ok (.iconst 1, 1) := by decide +kernel
theorem dX10_bestScore_129 : decode cX10_bestScore 129 = .ok (.if_icmp .ne 7, 3) := by decide +kernel
theorem dX10_bestScore_132 : decode cX10_bestScore 132 = .ok (.iload_n 3, 1) := by decide +kernel
theorem dX10_bestScore_133 : decode cX10_bestScore 133 = .ok (.goto 5, 3) := by decide +kernel
theorem dX10_bestScore_136 : decode cX10_bestScore 136 = .ok (.iload 4, 2) := by decide +kernel
theorem dX10_bestScore_138 : decode cX10_bestScore 138 = .ok (.ireturn, 1) := by decide +kernel
theorem dX10_waitedWith_0 : decode cX10_waitedWith 0 = .ok (.aload_n 0, 1) := by decide +kernel
theorem dX10_waitedWith_1 : decode cX10_waitedWith 1 = .ok (.getfield 26, 3) := by decide +kernel
theorem dX10_waitedWith_4 : decode cX10_waitedWith 4 = .ok (.aload_n 0, 1) := by decide +kernel
theorem dX10_waitedWith_5 : decode cX10_waitedWith 5 = .ok (.getfield 19, 3) := by decide +kernel
theorem dX10_waitedWith_8 : decode cX10_waitedWith 8 = .ok (.invokevirtual 124, 3) := by decide +kernel
theorem dX10_waitedWith_11 : decode cX10_waitedWith 11 = .ok (.aload_n 0, 1) := by decide +kernel
theorem dX10_waitedWith_12 : decode cX10_waitedWith 12 = .ok (.getfield 26, 3) := by decide +kernel
theorem dX10_waitedWith_15 : decode cX10_waitedWith 15 = .ok (.iload_n 1, 1) := by decide +kernel
theorem dX10_waitedWith_16 : decode cX10_waitedWith 16 = .ok (.invokevirtual 173, 3) := by decide +kernel
theorem dX10_waitedWith_19 : decode cX10_waitedWith 19 = .ok (.ifCond .eq 16, 3) := by decide +kernel
theorem dX10_waitedWith_22 : decode cX10_waitedWith 22 = .ok (.aload_n 0, 1) := by decide +kernel
theorem dX10_waitedWith_23 : decode cX10_waitedWith 23 = .ok (.getfield 26, 3) := by decide +kernel
theorem dX10_waitedWith_26 : decode cX10_waitedWith 26 = .ok (.getfield 176, 3) := by decide +kernel
theorem dX10_waitedWith_29 : decode cX10_waitedWith 29 = .ok (.iload_n 1, 1) := by decide +kernel
theorem dX10_waitedWith_30 : decode cX10_waitedWith 30 = .ok (.dup2, 1) := by decide +kernel
theorem dX10_waitedWith_31 : decode cX10_waitedWith 31 = .ok (.iaload, 1) := by decide +kernel
theorem dX10_waitedWith_32 : decode cX10_waitedWith 32 = .ok (.iload_n 2, 1) := by decide +kernel
theorem dX10_waitedWith_33 : decode cX10_waitedWith 33 = .ok (.ixor, 1) := by decide +kernel
theorem dX10_waitedWith_34 : decode cX10_waitedWith 34 = .ok (.iastore, 1) := by decide +kernel
theorem dX10_waitedWith_35 : decode cX10_waitedWith 35 = .ok (.aload_n 0, 1) := by decide +kernel
theorem dX10_waitedWith_36 : decode cX10_waitedWith 36 = .ok (.getfield 26, 3) := by decide +kernel
theorem dX10_waitedWith_39 : decode cX10_waitedWith 39 = .ok (.iload_n 3, 1) := by decide +kernel
theorem dX10_waitedWith_40 : decode cX10_waitedWith 40 = .ok (.aload_n 0, 1) := by decide +kernel
theorem dX10_waitedWith_41 : decode cX10_waitedWith 41 = .ok (.aload_n 0, 1) := by decide +kernel
theorem dX10_waitedWith_42 : decode cX10_waitedWith 42 = .ok (.getfield 103, 3) := by decide +kernel
theorem dX10_waitedWith_45 : decode cX10_waitedWith 45 = .ok (.invokevirtual 205, 3) := by decide +kernel
theorem dX10_waitedWith_48 : decode cX10_waitedWith 48 = .ok (.invokevirtual 223, 3) := by decide +kernel
theorem dX10_waitedWith_51 : decode cX10_waitedWith 51 = .ok (.aload_n 0, 1) := by decide +kernel
theorem dX10_waitedWith_52 : decode cX10_waitedWith 52 = .ok (.getfield 26, 3) := by decide +kernel
theorem dX10_waitedWith_55 : decode cX10_waitedWith 55 = .ok (.aload_n 0, 1) := by decide +kernel
theorem dX10_waitedWith_56 : decode cX10_waitedWith 56 = .ok (.getfield 26, 3) := by decide +kernel
theorem dX10_waitedWith_59 : decode cX10_waitedWith 59 = .ok (.getfield 166, 3) := by decide +kernel
theorem dX10_waitedWith_62 : decode cX10_waitedWith 62 = .ok (.invokevirtual 191, 3) := by decide +kernel
theorem dX10_waitedWith_65 : decode cX10_waitedWith 65 = .ok (.ireturn, 1) := by decide +kernel
theorem dX10_row_0 : decode cX10_row 0 = .ok (.aload_n 0, 1) := by decide +kernel
theorem dX10_row_1 : decode cX10_row 1 = .ok (.getfield 19, 3) := by decide +kernel
theorem dX10_row_4 : decode cX10_row 4 = .ok (.invokevirtual 198, 3) := by decide +kernel
theorem dX10_row_7 : decode cX10_row 7 = .ok (.ifCond .eq 21, 3) := by decide +kernel
theorem dX10_row_10 : decode cX10_row 10 = .ok (.iload_n 1, 1) := by decide +kernel
theorem dX10_row_11 : decode cX10_row 11 = .ok (.iconst 1, 1) := by decide +kernel
theorem dX10_row_12 : decode cX10_row 12 = .ok (.iconst 3, 1) := by decide +kernel
theorem dX10_row_13 : decode cX10_row 13 = .ok (.invokestatic 143, 3) := by decide +kernel
theorem dX10_row_16 : decode cX10_row 16 = .ok (.ifCond .eq 12, 3) := by decide +kernel
theorem dX10_row_19 : decode cX10_row 19 = .ok (.iload_n 2, 1) := by decide +kernel
theorem dX10_row_20 : decode cX10_row 20 = .ok (.iconst 0, 1) := by decide +kernel
theorem dX10_row_21 : decode cX10_row 21 = .ok (.iconst 4, 1) := by decide +kernel
theorem dX10_row_22 : decode cX10_row 22 = .ok (.invokestatic 143, 3) := by decide +kernel
theorem dX10_row_25 : decode cX10_row 25 = .ok (.ifCond .ne 7, 3) := by decide +kernel
theorem dX10_row_28 : decode cX10_row 28 = .ok (.sipush (-10000), 3) := by decide +kernel
theorem dX10_row_31 : decode cX10_row 31 = .ok (.ireturn, 1) := by decide +kernel
theorem dX10_row_32 : decode cX10_row 32 = .ok (.iload_n 2, 1) := by decide +kernel
theorem dX10_row_33 : decode cX10_row 33 = .ok (.iconst 2, 1) := by decide +kernel
theorem dX10_row_34 : decode cX10_row 34 = .ok (.isub, 1) := by decide +kernel
theorem dX10_row_35 : decode cX10_row 35 = .ok (.iload_n 1, 1) := by decide +kernel
theorem dX10_row_36 : decode cX10_row 36 = .ok (.if_icmp .lt 6, 3) := by decide +kernel
theorem dX10_row_39 : decode cX10_row 39 = .ok (.bipush (-2), 2) := by decide +kernel
theorem dX10_row_41 : decode cX10_row 41 = .ok (.ireturn, 1) := by decide +kernel
theorem dX10_row_42 : decode cX10_row 42 = .ok (.aload_n 0, 1) := by decide +kernel
theorem dX10_row_43 : decode cX10_row 43 = .ok (.getfield 76, 3) := by decide +kernel
theorem dX10_row_46 : decode cX10_row 46 = .ok (.aload_n 0, 1) := by decide +kernel
theorem dX10_row_47 : decode cX10_row 47 = .ok (.getfield 19, 3) := by decide +kernel
theorem dX10_row_50 : decode cX10_row 50 = .ok (.aload_n 0, 1) := by decide +kernel
theorem dX10_row_51 : decode cX10_row 51 = .ok (.getfield 26, 3) := by decide +kernel
theorem dX10_row_54 : decode cX10_row 54 = .ok (.iload_n 1, 1) := by decide +kernel
theorem dX10_row_55 : decode cX10_row 55 = .ok (.invokevirtual 249, 3) := by decide +kernel
theorem dX10_row_58 : decode cX10_row 58 = .ok (.iload_n 2, 1) := by decide +kernel
theorem dX10_row_59 : decode cX10_row 59 = .ok (.iconst 2, 1) := by decide +kernel
theorem dX10_row_60 : decode cX10_row 60 = .ok (.if_icmp .lt 15, 3) := by decide +kernel
theorem dX10_row_63 : decode cX10_row 63 = .ok (.aload_n 0, 1) := by decide +kernel
theorem dX10_row_64 : decode cX10_row 64 = .ok (.getfield 76, 3) := by decide +kernel
theorem dX10_row_67 : decode cX10_row 67 = .ok (.getfield 253, 3) := by decide +kernel
theorem dX10_row_70 : decode cX10_row 70 = .ok (.iload_n 2, 1) := by decide +kernel
theorem dX10_row_71 : decode cX10_row 71 = .ok (.iconst 2, 1) := by decide +kernel
theorem dX10_row_72 : decode cX10_row 72 = .ok (.isub, 1) := by decide +kernel
theorem dX10_row_73 : decode cX10_row 73 = .ok (.iaload, 1) := by decide +kernel
theorem dX10_row_74 : decode cX10_row 74 = .ok (.ireturn, 1) := by decide +kernel
theorem dX10_row_75 : decode cX10_row 75 = .ok (.iload_n 2, 1) := by decide +kernel
theorem dX10_row_76 : decode cX10_row 76 = .ok (.ifCond .ne 13, 3) := by decide +kernel
theorem dX10_row_79 : decode cX10_row 79 = .ok (.aload_n 0, 1) := by decide +kernel
theorem dX10_row_80 : decode cX10_row 80 = .ok (.getfield 76, 3) := by decide +kernel
theorem dX10_row_83 : decode cX10_row 83 = .ok (.getfield 256, 3) := by decide +kernel
theorem dX10_row_86 : decode cX10_row 86 = .ok (.goto 10, 3) := by decide +kernel
theorem dX10_row_89 : decode cX10_row 89 = .ok (.aload_n 0, 1) := by decide +kernel
theorem dX10_row_90 : decode cX10_row 90 = .ok (.getfield 76, 3) := by decide +kernel
theorem dX10_row_93 : decode cX10_row 93 = .ok (.getfield 259, 3) := by decide +kernel
theorem dX10_row_96 : decode cX10_row 96 = .ok (.ireturn, 1) := by decide +kernel
theorem dX10_leastRoom_0 : decode cX10_leastRoom 0 = .ok (.aload_n 0, 1) := by decide +kernel
theorem dX10_leastRoom_1 : decode cX10_leastRoom 1 = .ok (.getfield 19, 3) := by decide +kernel
theorem dX10_leastRoom_4 : decode cX10_leastRoom 4 = .ok (.invokevirtual 198, 3) := by decide +kernel
theorem dX10_leastRoom_7 : decode cX10_leastRoom 7 = .ok (.ifCond .eq 13, 3) := by decide +kernel
theorem dX10_leastRoom_10 : decode cX10_leastRoom 10 = .ok (.iload_n 1, 1) := by decide +kernel
theorem dX10_leastRoom_11 : decode cX10_leastRoom 11 = .ok (.iconst 1, 1) := by decide +kernel
theorem dX10_leastRoom_12 : decode cX10_leastRoom 12 = .ok (.bipush 60, 2) := by decide +kernel
theorem dX10_leastRoom_14 : decode cX10_leastRoom 14 = .ok (.invokestatic 143, 3) := by decide +kernel
theorem dX10_leastRoom_17 : decode cX10_leastRoom 17 = .ok (.ifCond .ne 5, 3) := by decide +kernel
theorem dX10_leastRoom_20 : decode cX10_leastRoom 20 = .ok (.iconst (-1), 1) := by decide +kernel
theorem dX10_leastRoom_21 : decode cX10_leastRoom 21 = .ok (.ireturn, 1) := by decide +kernel
theorem dX10_leastRoom_22 : decode cX10_leastRoom 22 = .ok (.iconst 1, 1) := by decide +kernel
theorem dX10_leastRoom_23 : decode cX10_leastRoom 23 = .ok (.istore_n 2, 1) := by decide +kernel
theorem dX10_leastRoom_24 : decode cX10_leastRoom 24 = .ok (.iload_n 2, 1) := by decide +kernel
theorem dX10_leastRoom_25 : decode cX10_leastRoom 25 = .ok (.bipush 9, 2) := by decide +kernel
theorem dX10_leastRoom_27 : decode cX10_leastRoom 27 = .ok (.if_icmp .gt 20, 3) := by decide +kernel
theorem dX10_leastRoom_30 : decode cX10_leastRoom 30 = .ok (.aload_n 0, 1) := by decide +kernel
theorem dX10_leastRoom_31 : decode cX10_leastRoom 31 = .ok (.iload_n 2, 1) := by decide +kernel
theorem dX10_leastRoom_32 : decode cX10_leastRoom 32 = .ok (.iload_n 1, 1) := by decide +kernel
theorem dX10_leastRoom_33 : decode cX10_leastRoom 33 = .ok (.invokevirtual 262, 3) := by decide +kernel
theorem dX10_leastRoom_36 : decode cX10_leastRoom 36 = .ok (.ifCond .eq 5, 3) := by decide +kernel
theorem dX10_leastRoom_39 : decode cX10_leastRoom 39 = .ok (.iload_n 2, 1) := by decide +kernel
theorem dX10_leastRoom_40 : decode cX10_leastRoom 40 = .ok (.ireturn, 1) := by decide +kernel
theorem dX10_leastRoom_41 : decode cX10_leastRoom 41 = .ok (.iinc 2 1, 3) := by decide +kernel
theorem dX10_leastRoom_44 : decode cX10_leastRoom 44 = .ok (.goto (-20), 3) := by decide +kernel
theorem dX10_leastRoom_47 : decode cX10_leastRoom 47 = .ok (.bipush (-2), 2) := by decide +kernel
theorem dX10_leastRoom_49 : decode cX10_leastRoom 49 = .ok (.ireturn, 1) := by decide +kernel
theorem dX10_neverCrowded_0 : decode cX10_neverCrowded 0 = .ok (.aload_n 0, 1) := by decide +kernel
theorem dX10_neverCrowded_1 : decode cX10_neverCrowded 1 = .ok (.getfield 26, 3) := by decide +kernel
theorem dX10_neverCrowded_4 : decode cX10_neverCrowded 4 = .ok (.aload_n 0, 1) := by decide +kernel
theorem dX10_neverCrowded_5 : decode cX10_neverCrowded 5 = .ok (.getfield 19, 3) := by decide +kernel
theorem dX10_neverCrowded_8 : decode cX10_neverCrowded 8 = .ok (.invokevirtual 124, 3) := by decide +kernel
theorem dX10_neverCrowded_11 : decode cX10_neverCrowded 11 = .ok (.aload_n 0, 1) := by decide +kernel
theorem dX10_neverCrowded_12 : decode cX10_neverCrowded 12 = .ok (.getfield 26, 3) := by decide +kernel
theorem dX10_neverCrowded_15 : decode cX10_neverCrowded 15 = .ok (.iload_n 1, 1) := by decide +kernel
theorem dX10_neverCrowded_16 : decode cX10_neverCrowded 16 = .ok (.putfield 182, 3) := by decide +kernel
theorem dX10_neverCrowded_19 : decode cX10_neverCrowded 19 = .ok (.iconst 0, 1) := by decide +kernel
theorem dX10_neverCrowded_20 : decode cX10_neverCrowded 20 = .ok (.istore_n 3, 1) := by decide +kernel
theorem dX10_neverCrowded_21 : decode cX10_neverCrowded 21 = .ok (.iload_n 3, 1) := by decide +kernel
theorem dX10_neverCrowded_22 : decode cX10_neverCrowded 22 = .ok (.iload_n 2, 1) := by decide +kernel
theorem dX10_neverCrowded_23 : decode cX10_neverCrowded 23 = .ok (.if_icmp .ge 57, 3) := by decide +kernel
theorem dX10_neverCrowded_26 : decode cX10_neverCrowded 26 = .ok (.aload_n 0, 1) := by decide +kernel
theorem dX10_neverCrowded_27 : decode cX10_neverCrowded 27 = .ok (.getfield 26, 3) := by decide +kernel
theorem dX10_neverCrowded_30 : decode cX10_neverCrowded 30 = .ok (.aload_n 0, 1) := by decide +kernel
theorem dX10_neverCrowded_31 : decode cX10_neverCrowded 31 = .ok (.aload_n 0, 1) := by decide +kernel
theorem dX10_neverCrowded_32 : decode cX10_neverCrowded 32 = .ok (.getfield 103, 3) := by decide +kernel
theorem dX10_neverCrowded_35 : decode cX10_neverCrowded 35 = .ok (.invokevirtual 205, 3) := by decide +kernel
theorem dX10_neverCrowded_38 : decode cX10_neverCrowded 38 = .ok (.invokevirtual 209, 3) := by decide +kernel
theorem dX10_neverCrowded_41 : decode cX10_neverCrowded 41 = .ok (.pop, 1) := by decide +kernel
theorem dX10_neverCrowded_42 : decode cX10_neverCrowded 42 = .ok (.aload_n 0, 1) := by decide +kernel
theorem dX10_neverCrowded_43 : decode cX10_neverCrowded 43 = .ok (.getfield 26, 3) := by decide +kernel
theorem dX10_neverCrowded_46 : decode cX10_neverCrowded 46 = .ok (.getfield 132, 3) := by decide +kernel
theorem dX10_neverCrowded_49 : decode cX10_neverCrowded 49 = .ok (.ifCond .le 25, 3) := by decide +kernel
theorem dX10_neverCrowded_52 : decode cX10_neverCrowded 52 = .ok (.aload_n 0, 1) := by decide +kernel
theorem dX10_neverCrowded_53 : decode cX10_neverCrowded 53 = .ok (.getfield 26, 3) := by decide +kernel
theorem dX10_neverCrowded_56 : decode cX10_neverCrowded 56 = .ok (.getfield 151, 3) := by decide +kernel
theorem dX10_neverCrowded_59 : decode cX10_neverCrowded 59 = .ok (.aload_n 0, 1) := by decide +kernel
theorem dX10_neverCrowded_60 : decode cX10_neverCrowded 60 = .ok (.getfield 26, 3) := by decide +kernel
theorem dX10_neverCrowded_63 : decode cX10_neverCrowded 63 = .ok (.invokevirtual 265, 3) := by decide +kernel
theorem dX10_neverCrowded_66 : decode cX10_neverCrowded 66 = .ok (.iaload, 1) := by decide +kernel
theorem dX10_neverCrowded_67 : decode cX10_neverCrowded 67 = .ok (.bipush 20, 2) := by decide +kernel
theorem dX10_neverCrowded_69 : decode cX10_neverCrowded 69 = .ok (.if_icmp .le 5, 3) := by decide +kernel
theorem dX10_neverCrowded_72 : decode cX10_neverCrowded 72 = .ok (.iconst 0, 1) := by decide +kernel
theorem dX10_neverCrowded_73 : decode cX10_neverCrowded 73 = .ok (.ireturn, 1) := by decide +kernel
theorem dX10_neverCrowded_74 : decode cX10_neverCrowded 74 = .ok (.iinc 3 1, 3) := by decide +kernel
theorem dX10_neverCrowded_77 : decode cX10_neverCrowded 77 = .ok (.goto (-56), 3) := by decide +kernel
theorem dX10_neverCrowded_80 : decode cX10_neverCrowded 80 = .ok (.iconst 1, 1) := by decide +kernel
theorem dX10_neverCrowded_81 : decode cX10_neverCrowded 81 = .ok (.ireturn, 1) := by decide +kernel
theorem dX10_shut_0 : decode cX10_shut 0 = .ok (.aload_n 0, 1) := by decide +kernel
theorem dX10_shut_1 : decode cX10_shut 1 = .ok (.getfield 19, 3) := by decide +kernel
theorem dX10_shut_4 : decode cX10_shut 4 = .ok (.invokevirtual 198, 3) := by decide +kernel
theorem dX10_shut_7 : decode cX10_shut 7 = .ok (.ifCond .eq 22, 3) := by decide +kernel
theorem dX10_shut_10 : decode cX10_shut 10 = .ok (.iload_n 1, 1) := by decide +kernel
theorem dX10_shut_11 : decode cX10_shut 11 = .ok (.iconst 1, 1) := by decide +kernel
theorem dX10_shut_12 : decode cX10_shut 12 = .ok (.bipush 60, 2) := by decide +kernel
theorem dX10_shut_14 : decode cX10_shut 14 = .ok (.invokestatic 143, 3) := by decide +kernel
theorem dX10_shut_17 : decode cX10_shut 17 = .ok (.ifCond .eq 12, 3) := by decide +kernel
theorem dX10_shut_20 : decode cX10_shut 20 = .ok (.iload_n 2, 1) := by decide +kernel
theorem dX10_shut_21 : decode cX10_shut 21 = .ok (.iconst 0, 1) := by decide +kernel
theorem dX10_shut_22 : decode cX10_shut 22 = .ok (.iconst 1, 1) := by decide +kernel
theorem dX10_shut_23 : decode cX10_shut 23 = .ok (.invokestatic 143, 3) := by decide +kernel
theorem dX10_shut_26 : decode cX10_shut 26 = .ok (.ifCond .ne 6, 3) := by decide +kernel
theorem dX10_shut_29 : decode cX10_shut 29 = .ok (.bipush (-2), 2) := by decide +kernel
theorem dX10_shut_31 : decode cX10_shut 31 = .ok (.ireturn, 1) := by decide +kernel
theorem dX10_shut_32 : decode cX10_shut 32 = .ok (.iconst (-1), 1) := by decide +kernel
theorem dX10_shut_33 : decode cX10_shut 33 = .ok (.istore_n 3, 1) := by decide +kernel
theorem dX10_shut_34 : decode cX10_shut 34 = .ok (.aload_n 0, 1) := by decide +kernel
theorem dX10_shut_35 : decode cX10_shut 35 = .ok (.iconst (-1), 1) := by decide +kernel
theorem dX10_shut_36 : decode cX10_shut 36 = .ok (.iload_n 1, 1) := by decide +kernel
theorem dX10_shut_37 : decode cX10_shut 37 = .ok (.invokevirtual 268, 3) := by decide +kernel
theorem dX10_shut_40 : decode cX10_shut 40 = .ok (.istore 4, 2) := by decide +kernel
theorem dX10_shut_42 : decode cX10_shut 42 = .ok (.iconst 0, 1) := by decide +kernel
theorem dX10_shut_43 : decode cX10_shut 43 = .ok (.istore 5, 2) := by decide +kernel
theorem dX10_shut_45 : decode cX10_shut 45 = .ok (.iload 5, 2) := by decide +kernel
theorem dX10_shut_47 : decode cX10_shut 47 = .ok (.aload_n 0, 1) := by decide +kernel
theorem dX10_shut_48 : decode cX10_shut 48 = .ok (.getfield 19, 3) := by decide +kernel
theorem dX10_shut_51 : decode cX10_shut 51 = .ok (.getfield 132, 3) := by decide +kernel
theorem dX10_shut_54 : decode cX10_shut 54 = .ok (.if_icmp .ge 32, 3) := by decide +kernel
theorem dX10_shut_57 : decode cX10_shut 57 = .ok (.aload_n 0, 1) := by decide +kernel
theorem dX10_shut_58 : decode cX10_shut 58 = .ok (.iload 5, 2) := by decide +kernel
theorem dX10_shut_60 : decode cX10_shut 60 = .ok (.iload_n 1, 1) := by decide +kernel
theorem dX10_shut_61 : decode cX10_shut 61 = .ok (.invokevirtual 268, 3) := by decide +kernel
theorem dX10_shut_64 : decode cX10_shut 64 = .ok (.istore 6, 2) := by decide +kernel
theorem dX10_shut_66 : decode cX10_shut 66 = .ok (.iload 6, 2) := by decide +kernel
theorem dX10_shut_68 : decode cX10_shut 68 = .ok (.iload 4, 2) := by decide +kernel
theorem dX10_shut_70 : decode cX10_shut 70 = .ok (.if_icmp .ge 10, 3) := by decide +kernel
theorem dX10_shut_73 : decode cX10_shut 73 = .ok (.iload 6, 2) := by decide +kernel
theorem dX10_shut_75 : decode cX10_shut 75 = .ok (.istore 4, 2) := by decide +kernel
theorem dX10_shut_77 : decode cX10_shut 77 = .ok (.iload 5, 2) := by decide +kernel
theorem dX10_shut_79 : decode cX10_shut 79 = .ok (.istore_n 3, 1) := by decide +kernel
theorem dX10_shut_80 : decode cX10_shut 80 = .ok (.iinc 5 1, 3) := by decide +kernel
theorem dX10_shut_83 : decode cX10_shut 83 = .ok (.goto (-38), 3) := by decide +kernel
theorem dX10_shut_86 : decode cX10_shut 86 = .ok (.iload_n 2, 1) := by decide +kernel
theorem dX10_shut_87 : decode cX10_shut 87 = .ok (.ifCond .ne 7, 3) := by decide +kernel
theorem dX10_shut_90 : decode cX10_shut 90 = .ok (.iload_n 3, 1) := by decide +kernel
theorem dX10_shut_91 : decode cX10_shut 91 = .ok (.goto 5, 3) := by decide +kernel
theorem dX10_shut_94 : decode cX10_shut 94 = .ok (.iload 4, 2) := by decide +kernel
theorem dX10_shut_96 : decode cX10_shut 96 = .ok (.ireturn, 1) := by decide +kernel
theorem dX10_waitedShut_0 : decode cX10_waitedShut 0 = .ok (.aload_n 0, 1) := by decide +kernel
theorem dX10_waitedShut_1 : decode cX10_waitedShut 1 = .ok (.getfield 26, 3) := by decide +kernel
theorem dX10_waitedShut_4 : decode cX10_waitedShut 4 = .ok (.aload_n 0, 1) := by decide +kernel
theorem dX10_waitedShut_5 : decode cX10_waitedShut 5 = .ok (.getfield 19, 3) := by decide +kernel
theorem dX10_waitedShut_8 : decode cX10_waitedShut 8 = .ok (.invokevirtual 124, 3) := by decide +kernel
theorem dX10_waitedShut_11 : decode cX10_waitedShut 11 = .ok (.aload_n 0, 1) := by decide +kernel
theorem dX10_waitedShut_12 : decode cX10_waitedShut 12 = .ok (.getfield 26, 3) := by decide +kernel
theorem dX10_waitedShut_15 : decode cX10_waitedShut 15 = .ok (.iload_n 1, 1) := by decide +kernel
theorem dX10_waitedShut_16 : decode cX10_waitedShut 16 = .ok (.putfield 272, 3) := by decide +kernel
theorem dX10_waitedShut_19 : decode cX10_waitedShut 19 = .ok (.aload_n 0, 1) := by decide +kernel
theorem dX10_waitedShut_20 : decode cX10_waitedShut 20 = .ok (.getfield 26, 3) := by decide +kernel
theorem dX10_waitedShut_23 : decode cX10_waitedShut 23 = .ok (.iload_n 1, 1) := by decide +kernel
theorem dX10_waitedShut_24 : decode cX10_waitedShut 24 = .ok (.invokevirtual 147, 3) := by decide +kernel
theorem dX10_waitedShut_27 : decode cX10_waitedShut 27 = .ok (.ifCond .eq 13, 3) := by decide +kernel
theorem dX10_waitedShut_30 : decode cX10_waitedShut 30 = .ok (.aload_n 0, 1) := by decide +kernel
theorem dX10_waitedShut_31 : decode cX10_waitedShut 31 = .ok (.getfield 26, 3) := by decide +kernel
theorem dX10_waitedShut_34 : decode cX10_waitedShut 34 = .ok (.getfield 151, 3) := by decide +kernel
theorem dX10_waitedShut_37 : decode cX10_waitedShut 37 = .ok (.iload_n 1, 1) := by decide +kernel
theorem dX10_waitedShut_38 : decode cX10_waitedShut 38 = .ok (.iconst 0, 1) := by decide +kernel
theorem dX10_waitedShut_39 : decode cX10_waitedShut 39 = .ok (.iastore, 1) := by decide +kernel
theorem dX10_waitedShut_40 : decode cX10_waitedShut 40 = .ok (.aload_n 0, 1) := by decide +kernel
theorem dX10_waitedShut_41 : decode cX10_waitedShut 41 = .ok (.getfield 26, 3) := by decide +kernel
theorem dX10_waitedShut_44 : decode cX10_waitedShut 44 = .ok (.iload_n 2, 1) := by decide +kernel
theorem dX10_waitedShut_45 : decode cX10_waitedShut 45 = .ok (.aload_n 0, 1) := by decide +kernel
theorem dX10_waitedShut_46 : decode cX10_waitedShut 46 = .ok (.aload_n 0, 1) := by decide +kernel
theorem dX10_waitedShut_47 : decode cX10_waitedShut 47 = .ok (.getfield 103, 3) := by decide +kernel
theorem dX10_waitedShut_50 : decode cX10_waitedShut 50 = .ok (.invokevirtual 205, 3) := by decide +kernel
theorem dX10_waitedShut_53 : decode cX10_waitedShut 53 = .ok (.invokevirtual 223, 3) := by decide +kernel
theorem dX10_waitedShut_56 : decode cX10_waitedShut 56 = .ok (.aload_n 0, 1) := by decide +kernel
theorem dX10_waitedShut_57 : decode cX10_waitedShut 57 = .ok (.getfield 26, 3) := by decide +kernel
theorem dX10_waitedShut_60 : decode cX10_waitedShut 60 = .ok (.aload_n 0, 1) := by decide +kernel
theorem dX10_waitedShut_61 : decode cX10_waitedShut 61 = .ok (.getfield 26, 3) := by decide +kernel
theorem dX10_waitedShut_64 : decode cX10_waitedShut 64 = .ok (.getfield 166, 3) := by decide +kernel
theorem dX10_waitedShut_67 : decode cX10_waitedShut 67 = .ok (.invokevirtual 191, 3) := by decide +kernel
theorem dX10_waitedShut_70 : decode cX10_waitedShut 70 = .ok (.istore_n 3, 1) := by decide +kernel
theorem dX10_waitedShut_71 : decode cX10_waitedShut 71 = .ok (.aload_n 0, 1) := by decide +kernel
theorem dX10_waitedShut_72 : decode cX10_waitedShut 72 = .ok (.getfield 26, 3) := by decide +kernel
theorem dX10_waitedShut_75 : decode cX10_waitedShut 75 = .ok (.iload_n 1, 1) := by decide +kernel
theorem dX10_waitedShut_76 : decode cX10_waitedShut 76 = .ok (.invokevirtual 147, 3) := by decide +kernel
theorem dX10_waitedShut_79 : decode cX10_waitedShut 79 = .ok (.ifCond .eq 17, 3) := by decide +kernel
theorem dX10_waitedShut_82 : decode cX10_waitedShut 82 = .ok (.iload_n 3, 1) := by decide +kernel
theorem dX10_waitedShut_83 : decode cX10_waitedShut 83 = .ok (.aload_n 0, 1) := by decide +kernel
theorem dX10_waitedShut_84 : decode cX10_waitedShut 84 = .ok (.getfield 26, 3) := by decide +kernel
theorem dX10_waitedShut_87 : decode cX10_waitedShut 87 = .ok (.getfield 166, 3) := by decide +kernel
theorem dX10_waitedShut_90 : decode cX10_waitedShut 90 = .ok (.iload_n 1, 1) := by decide +kernel
theorem dX10_waitedShut_91 : decode cX10_waitedShut 91 = .ok (.iaload, 1) := by decide +kernel
theorem dX10_waitedShut_92 : decode cX10_waitedShut 92 = .ok (.isub, 1) := by decide +kernel
theorem dX10_waitedShut_93 : decode cX10_waitedShut 93 = .ok (.goto 4, 3) := by decide +kernel
theorem dX10_waitedShut_96 : decode cX10_waitedShut 96 = .ok (.iload_n 3, 1) := by decide +kernel
theorem dX10_waitedShut_97 : decode cX10_waitedShut 97 = .ok (.ireturn, 1) := by decide +kernel
theorem dX10_longest_0 : decode cX10_longest 0 = .ok (.aload_n 0, 1) := by decide +kernel
theorem dX10_longest_1 : decode cX10_longest 1 = .ok (.getfield 19, 3) := by decide +kernel
theorem dX10_longest_4 : decode cX10_longest 4 = .ok (.invokevirtual 198, 3) := by decide +kernel
theorem dX10_longest_7 : decode cX10_longest 7 = .ok (.ifCond .eq 22, 3) := by decide +kernel
theorem dX10_longest_10 : decode cX10_longest 10 = .ok (.iload_n 1, 1) := by decide +kernel
theorem dX10_longest_11 : decode cX10_longest 11 = .ok (.iconst 1, 1) := by decide +kernel
theorem dX10_longest_12 : decode cX10_longest 12 = .ok (.bipush 100, 2) := by decide +kernel
theorem dX10_longest_14 : decode cX10_longest 14 = .ok (.invokestatic 143, 3) := by decide +kernel
theorem dX10_longest_17 : decode cX10_longest 17 = .ok (.ifCond .eq 12, 3) := by decide +kernel
theorem dX10_longest_20 : decode cX10_longest 20 = .ok (.iload_n 2, 1) := by decide +kernel
theorem dX10_longest_21 : decode cX10_longest 21 = .ok (.iconst 0, 1) := by decide +kernel
theorem dX10_longest_22 : decode cX10_longest 22 = .ok (.iconst 2, 1) := by decide +kernel
theorem dX10_longest_23 : decode cX10_longest 23 = .ok (.invokestatic 143, 3) := by decide +kernel
theorem dX10_longest_26 : decode cX10_longest 26 = .ok (.ifCond .ne 5, 3) := by decide +kernel
theorem dX10_longest_29 : decode cX10_longest 29 = .ok (.iconst (-1), 1) := by decide +kernel
theorem dX10_longest_30 : decode cX10_longest 30 = .ok (.ireturn, 1) := by decide +kernel
theorem dX10_longest_31 : decode cX10_longest 31 = .ok (.aload_n 0, 1) := by decide +kernel
theorem dX10_longest_32 : decode cX10_longest 32 = .ok (.getfield 19, 3) := by decide +kernel
theorem dX10_longest_35 : decode cX10_longest 35 = .ok (.getfield 132, 3) := by decide +kernel
theorem dX10_longest_38 : decode cX10_longest 38 = .ok (.ifCond .ne 14, 3) := by decide +kernel
theorem dX10_longest_41 : decode cX10_longest 41 = .ok (.iload_n 2, 1) := by decide +kernel
theorem dX10_longest_42 : decode cX10_longest 42 = .ok (.ifCond .ne 7, 3) := by decide +kernel
theorem dX10_longest_45 : decode cX10_longest 45 = .ok (.iconst 0, 1) := by decide +kernel
theorem dX10_longest_46 : decode cX10_longest 46 = .ok (.goto 5, 3) := by decide +kernel
theorem dX10_longest_49 : decode cX10_longest 49 = .ok (.bipush (-2), 2) := by decide +kernel
theorem dX10_longest_51 : decode cX10_longest 51 = .ok (.ireturn, 1) := by decide +kernel
theorem dX10_longest_52 : decode cX10_longest 52 = .ok (.iconst (-1), 1) := by decide +kernel
theorem dX10_longest_53 : decode cX10_longest 53 = .ok (.istore_n 3, 1) := by decide +kernel
theorem dX10_longest_54 : decode cX10_longest 54 = .ok (.iconst (-1), 1) := by decide +kernel
theorem dX10_longest_55 : decode cX10_longest 55 = .ok (.istore 4, 2) := by decide +kernel
theorem dX10_longest_57 : decode cX10_longest 57 = .ok (.iconst (-1), 1) := by decide +kernel
theorem dX10_longest_58 : decode cX10_longest 58 = .ok (.istore 5, 2) := by decide +kernel
theorem dX10_longest_60 : decode cX10_longest 60 = .ok (.aload_n 0, 1) := by decide +kernel
theorem dX10_longest_61 : decode cX10_longest 61 = .ok (.getfield 26, 3) := by decide +kernel
theorem dX10_longest_64 : decode cX10_longest 64 = .ok (.aload_n 0, 1) := by decide +kernel
theorem dX10_longest_65 : decode cX10_longest 65 = .ok (.getfield 19, 3) := by decide +kernel
theorem dX10_longest_68 : decode cX10_longest 68 = .ok (.invokevirtual 124, 3) := by decide +kernel
theorem dX10_longest_71 : decode cX10_longest 71 = .ok (.iconst 0, 1) := by decide +kernel
theorem dX10_longest_72 : decode cX10_longest 72 = .ok (.istore 6, 2) := by decide +kernel
theorem dX10_longest_74 : decode cX10_longest 74 = .ok (.iload 6, 2) := by decide +kernel
theorem dX10_longest_76 : decode cX10_longest 76 = .ok (.iload_n 1, 1) := by decide +kernel
theorem dX10_longest_77 : decode cX10_longest 77 = .ok (.if_icmp .ge 75, 3) := by decide +kernel
theorem dX10_longest_80 : decode cX10_longest 80 = .ok (.aload_n 0, 1) := by decide +kernel
theorem dX10_longest_81 : decode cX10_longest 81 = .ok (.getfield 26, 3) := by decide +kernel
theorem dX10_longest_84 : decode cX10_longest 84 = .ok (.aload_n 0, 1) := by decide +kernel
theorem dX10_longest_85 : decode cX10_longest 85 = .ok (.aload_n 0, 1) := by decide +kernel
theorem dX10_longest_86 : decode cX10_longest 86 = .ok (.getfield 103, 3) := by decide +kernel
theorem dX10_longest_89 : decode cX10_longest 89 = .ok (.invokevirtual 205, 3) := by decide +kernel
theorem dX10_longest_92 : decode cX10_longest 92 = .ok (.invokevirtual 209, 3) := by decide +kernel
theorem dX10_longest_95 : decode cX10_longest 95 = .ok (.pop, 1) := by decide +kernel
theorem dX10_longest_96 : decode cX10_longest 96 = .ok (.aload_n 0, 1) := by decide +kernel
theorem dX10_longest_97 : decode cX10_longest 97 = .ok (.getfield 26, 3) := by decide +kernel
theorem dX10_longest_100 : decode cX10_longest 100 = .ok (.invokevirtual 265, 3) := by decide +kernel
theorem dX10_longest_103 : decode cX10_longest 103 = .ok (.istore 7, 2) := by decide +kernel
theorem dX10_longest_105 : decode cX10_longest 105 = .ok (.aload_n 0, 1) := by decide +kernel
theorem dX10_longest_106 : decode cX10_longest 106 = .ok (.getfield 26, 3) := by decide +kernel
theorem dX10_longest_109 : decode cX10_longest 109 = .ok (.getfield 151, 3) := by decide +kernel
theorem dX10_longest_112 : decode cX10_longest 112 = .ok (.iload 7, 2) := by decide +kernel
theorem dX10_longest_114 : decode cX10_longest 114 = .ok (.iaload, 1) := by decide +kernel
theorem dX10_longest_115 : decode cX10_longest 115 = .ok (.iload_n 3, 1) := by decide +kernel
theorem dX10_longest_116 : decode cX10_longest 116 = .ok (.if_icmp .le 30, 3) := by decide +kernel
theorem dX10_longest_119 : decode cX10_longest 119 = .ok (.aload_n 0, 1) := by decide +kernel
theorem dX10_longest_120 : decode cX10_longest 120 = .ok (.getfield 26, 3) := by decide +kernel
theorem dX10_longest_123 : decode cX10_longest 123 = .ok (.getfield 151, 3) := by decide +kernel
theorem dX10_longest_126 : decode cX10_longest 126 = .ok (.iload 7, 2) := by decide +kernel
theorem dX10_longest_128 : decode cX10_longest 128 = .ok (.iaload, 1) := by decide +kernel
theorem dX10_longest_129 : decode cX10_longest 129 = .ok (.istore_n 3, 1) := by decide +kernel
theorem dX10_longest_130 : decode cX10_longest 130 = .ok (.aload_n 0, 1) := by decide +kernel
theorem dX10_longest_131 : decode cX10_longest 131 = .ok (.getfield 19, 3) := by decide +kernel
theorem dX10_longest_134 : decode cX10_longest 134 = .ok (.getfield 185, 3) := by decide +kernel
theorem dX10_longest_137 : decode cX10_longest 137 = .ok (.iload 6, 2) := by decide +kernel
theorem dX10_longest_139 : decode cX10_longest 139 = .ok (.iadd, 1) := by decide +kernel
theorem dX10_longest_140 : decode cX10_longest 140 = .ok (.istore 4, 2) := by decide +kernel
theorem dX10_longest_142 : decode cX10_longest 142 = .ok (.iload 7, 2) := by decide +kernel
theorem dX10_longest_144 : decode cX10_longest 144 = .ok (.istore 5, 2) := by decide +kernel
theorem dX10_longest_146 : decode cX10_longest 146 = .ok (.iinc 6 1, 3) := by decide +kernel
theorem dX10_longest_149 : decode cX10_longest 149 = .ok (.goto (-75), 3) := by decide +kernel
theorem dX10_longest_152 : decode cX10_longest 152 = .ok (.iload_n 2, 1) := by decide +kernel
theorem dX10_longest_153 : decode cX10_longest 153 = .ok (.ifCond .ne 5, 3) := by decide +kernel
theorem dX10_longest_156 : decode cX10_longest 156 = .ok (.iload_n 3, 1) := by decide +kernel
theorem dX10_longest_157 : decode cX10_longest 157 = .ok (.ireturn, 1) := by decide +kernel
theorem dX10_longest_158 : decode cX10_longest 158 = .ok (.iload_n 2, 1) := by decide +kernel
theorem dX10_longest_159 : decode cX10_longest 159 = .ok (.iconst 1, 1) := by decide +kernel
theorem dX10_longest_160 : decode cX10_longest 160 = .ok (.if_icmp .ne 8, 3) := by decide +kernel
theorem dX10_longest_163 : decode cX10_longest 163 = .ok (.iload 4, 2) := by decide +kernel
theorem dX10_longest_165 : decode cX10_longest 165 = .ok (.goto 5, 3) := by decide +kernel
theorem dX10_longest_168 : decode cX10_longest 168 = .ok (.iload 5, 2) := by decide +kernel
theorem dX10_longest_170 : decode cX10_longest 170 = .ok (.ireturn, 1) := by decide +kernel
theorem dX10_cadenza_0 : decode cX10_cadenza 0 = .ok (.aload_n 0, 1) := by decide +kernel
theorem dX10_cadenza_1 : decode cX10_cadenza 1 = .ok (.getfield 19, 3) := by decide +kernel
theorem dX10_cadenza_4 : decode cX10_cadenza 4 = .ok (.iload_n 1, 1) := by decide +kernel
theorem dX10_cadenza_5 : decode cX10_cadenza 5 = .ok (.invokevirtual 147, 3) := by decide +kernel
theorem dX10_cadenza_8 : decode cX10_cadenza 8 = .ok (.ifCond .ne 5, 3) := by decide +kernel
theorem dX10_cadenza_11 : decode cX10_cadenza 11 = .ok (.iconst (-1), 1) := by decide +kernel
theorem dX10_cadenza_12 : decode cX10_cadenza 12 = .ok (.ireturn, 1) := by decide +kernel
theorem dX10_cadenza_13 : decode cX10_cadenza 13 = .ok (.aload_n 0, 1) := by decide +kernel
theorem dX10_cadenza_14 : decode cX10_cadenza 14 = .ok (.getfield 26, 3) := by decide +kernel
theorem dX10_cadenza_17 : decode cX10_cadenza 17 = .ok (.aload_n 0, 1) := by decide +kernel
theorem dX10_cadenza_18 : decode cX10_cadenza 18 = .ok (.getfield 19, 3) := by decide +kernel
theorem dX10_cadenza_21 : decode cX10_cadenza 21 = .ok (.invokevirtual 124, 3) := by decide +kernel
theorem dX10_cadenza_24 : decode cX10_cadenza 24 = .ok (.iconst 0, 1) := by decide +kernel
theorem dX10_cadenza_25 : decode cX10_cadenza 25 = .ok (.istore_n 2, 1) := by decide +kernel
theorem dX10_cadenza_26 : decode cX10_cadenza 26 = .ok (.iload_n 2, 1) := by decide +kernel
theorem dX10_cadenza_27 : decode cX10_cadenza 27 = .ok (.sipush 200, 3) := by decide +kernel
theorem dX10_cadenza_30 : decode cX10_cadenza 30 = .ok (.if_icmp .ge 73, 3) := by decide +kernel
theorem dX10_cadenza_33 : decode cX10_cadenza 33 = .ok (.aload_n 0, 1) := by decide +kernel
theorem dX10_cadenza_34 : decode cX10_cadenza 34 = .ok (.getfield 26, 3) := by decide +kernel
theorem dX10_cadenza_37 : decode cX10_cadenza 37 = .ok (.aload_n 0, 1) := by decide +kernel
theorem dX10_cadenza_38 : decode cX10_cadenza 38 = .ok (.aload_n 0, 1) := by decide +kernel
theorem dX10_cadenza_39 : decode cX10_cadenza 39 = .ok (.getfield 103, 3) := by decide +kernel
theorem dX10_cadenza_42 : decode cX10_cadenza 42 = .ok (.invokevirtual 205, 3) := by decide +kernel
theorem dX10_cadenza_45 : decode cX10_cadenza 45 = .ok (.invokevirtual 209, 3) := by decide +kernel
theorem dX10_cadenza_48 : decode cX10_cadenza 48 = .ok (.pop, 1) := by decide +kernel
theorem dX10_cadenza_49 : decode cX10_cadenza 49 = .ok (.aload_n 0, 1) := by decide +kernel
theorem dX10_cadenza_50 : decode cX10_cadenza 50 = .ok (.getfield 26, 3) := by decide +kernel
theorem dX10_cadenza_53 : decode cX10_cadenza 53 = .ok (.getfield 275, 3) := by decide +kernel
theorem dX10_cadenza_56 : decode cX10_cadenza 56 = .ok (.iload_n 1, 1) := by decide +kernel
theorem dX10_cadenza_57 : decode cX10_cadenza 57 = .ok (.iaload, 1) := by decide +kernel
theorem dX10_cadenza_58 : decode cX10_cadenza 58 = .ok (.ifCond .le 39, 3) := by decide +kernel
theorem dX10_cadenza_61 : decode cX10_cadenza 61 = .ok (.aload_n 0, 1) := by decide +kernel
theorem dX10_cadenza_62 : decode cX10_cadenza 62 = .ok (.getfield 26, 3) := by decide +kernel
theorem dX10_cadenza_65 : decode cX10_cadenza 65 = .ok (.aload_n 0, 1) := by decide +kernel
theorem dX10_cadenza_66 : decode cX10_cadenza 66 = .ok (.getfield 26, 3) := by decide +kernel
theorem dX10_cadenza_69 : decode cX10_cadenza 69 = .ok (.getfield 275, 3) := by decide +kernel
theorem dX10_cadenza_72 : decode cX10_cadenza 72 = .ok (.invokevirtual 191, 3) := by decide +kernel
theorem dX10_cadenza_75 : decode cX10_cadenza 75 = .ok (.aload_n 0, 1) := by decide +kernel
theorem dX10_cadenza_76 : decode cX10_cadenza 76 = .ok (.getfield 26, 3) := by decide +kernel
theorem dX10_cadenza_79 : decode cX10_cadenza 79 = .ok (.getfield 275, 3) := by decide +kernel
theorem dX10_cadenza_82 : decode cX10_cadenza 82 = .ok (.iload_n 1, 1) := by decide +kernel
theorem dX10_cadenza_83 : decode cX10_cadenza 83 = .ok (.iaload, 1) := by decide +kernel
theorem dX10_cadenza_84 : decode cX10_cadenza 84 = .ok (.if_icmp .ne 13, 3) := by decide +kernel
theorem dX10_cadenza_87 : decode cX10_cadenza 87 = .ok (.aload_n 0, 1) := by decide +kernel
theorem dX10_cadenza_88 : decode cX10_cadenza 88 = .ok (.getfield 19, 3) := by decide +kernel
theorem dX10_cadenza_91 : decode cX10_cadenza 91 = .ok (.getfield 185, 3) := by decide +kernel
theorem dX10_cadenza_94 : decode cX10_cadenza 94 = .ok (.iload_n 2, 1) := by decide +kernel
theorem dX10_cadenza_95 : decode cX10_cadenza 95 = .ok (.iadd, 1) := by decide +kernel
theorem dX10_cadenza_96 : decode cX10_cadenza 96 = .ok (.ireturn, 1) := by decide +kernel
theorem dX10_cadenza_97 : decode cX10_cadenza 97 = .ok (.iinc 2 1, 3) := by decide +kernel
theorem dX10_cadenza_100 : decode cX10_cadenza 100 = .ok (.goto (-74), 3) := by decide +kernel
theorem dX10_cadenza_103 : decode cX10_cadenza 103 = .ok (.bipush (-2), 2) := by decide +kernel
theorem dX10_cadenza_105 : decode cX10_cadenza 105 = .ok (.ireturn, 1) := by decide +kernel
theorem dX10_rests_0 : decode cX10_rests 0 = .ok (.aload_n 0, 1) := by decide +kernel
theorem dX10_rests_1 : decode cX10_rests 1 = .ok (.getfield 19, 3) := by decide +kernel
theorem dX10_rests_4 : decode cX10_rests 4 = .ok (.iload_n 1, 1) := by decide +kernel
theorem dX10_rests_5 : decode cX10_rests 5 = .ok (.invokevirtual 147, 3) := by decide +kernel
theorem dX10_rests_8 : decode cX10_rests 8 = .ok (.ifCond .eq 23, 3) := by decide +kernel
theorem dX10_rests_11 : decode cX10_rests 11 = .ok (.aload_n 0, 1) := by decide +kernel
theorem dX10_rests_12 : decode cX10_rests 12 = .ok (.getfield 19, 3) := by decide +kernel
theorem dX10_rests_15 : decode cX10_rests 15 = .ok (.iload_n 2, 1) := by decide +kernel
theorem dX10_rests_16 : decode cX10_rests 16 = .ok (.invokevirtual 147, 3) := by decide +kernel
theorem dX10_rests_19 : decode cX10_rests 19 = .ok (.ifCond .eq 12, 3) := by decide +kernel
theorem dX10_rests_22 : decode cX10_rests 22 = .ok (.iload_n 1, 1) := by decide +kernel
theorem dX10_rests_23 : decode cX10_rests 23 = .ok (.iload_n 2, 1) := by decide +kernel
theorem dX10_rests_24 : decode cX10_rests 24 = .ok (.if_icmp .eq 7, 3) := by decide +kernel
theorem dX10_rests_27 : decode cX10_rests 27 = .ok (.iconst 1, 1) := by decide +kernel
theorem dX10_rests_28 : decode cX10_rests 28 = .ok (.goto 4, 3) := by decide +kernel
theorem dX10_rests_31 : decode cX10_rests 31 = .ok (.iconst 0, 1) := by decide +kernel
theorem dX10_rests_32 : decode cX10_rests 32 = .ok (.istore 5, 2) := by decide +kernel
theorem dX10_rests_34 : decode cX10_rests 34 = .ok (.iload 5, 2) := by decide +kernel
theorem dX10_rests_36 : decode cX10_rests 36 = .ok (.ifCond .eq 23, 3) := by decide +kernel
theorem dX10_rests_39 : decode cX10_rests 39 = .ok (.iload_n 3, 1) := by decide +kernel
theorem dX10_rests_40 : decode cX10_rests 40 = .ok (.iconst 1, 1) := by decide +kernel
theorem dX10_rests_41 : decode cX10_rests 41 = .ok (.bipush 20, 2) := by decide +kernel
theorem dX10_rests_43 : decode cX10_rests 43 = .ok (.invokestatic 143, 3) := by decide +kernel
theorem dX10_rests_46 : decode cX10_rests 46 = .ok (.ifCond .eq 13, 3) := by decide +kernel
theorem dX10_rests_49 : decode cX10_rests 49 = .ok (.iload 4, 2) := by decide +kernel
theorem dX10_rests_51 : decode cX10_rests 51 = .ok (.iconst 0, 1) := by decide +kernel
theorem dX10_rests_52 : decode cX10_rests 52 = .ok (.iconst 2, 1) := by decide +kernel
theorem dX10_rests_53 : decode cX10_rests 53 = .ok (.invokestatic 143, 3) := by decide +kernel
theorem dX10_rests_56 : decode cX10_rests 56 = .ok (.ifCond .ne 5, 3) := by decide +kernel
theorem dX10_rests_59 : decode cX10_rests 59 = .ok (.iconst (-1), 1) := by decide +kernel
theorem dX10_rests_60 : decode cX10_rests 60 = .ok (.ireturn, 1) := by decide +kernel
theorem dX10_rests_61 : decode cX10_rests 61 = .ok (.aload_n 0, 1) := by decide +kernel
theorem dX10_rests_62 : decode cX10_rests 62 = .ok (.iload_n 1, 1) := by decide +kernel
theorem dX10_rests_63 : decode cX10_rests 63 = .ok (.iload_n 2, 1) := by decide +kernel
theorem dX10_rests_64 : decode cX10_rests 64 = .ok (.iload_n 3, 1) := by decide +kernel
theorem dX10_rests_65 : decode cX10_rests 65 = .ok (.invokevirtual 278, 3) := by decide +kernel
theorem dX10_rests_68 : decode cX10_rests 68 = .ok (.iconst 0, 1) := by decide +kernel
theorem dX10_rests_69 : decode cX10_rests 69 = .ok (.istore 6, 2) := by decide +kernel
theorem dX10_rests_71 : decode cX10_rests 71 = .ok (.iconst (-1), 1) := by decide +kernel
theorem dX10_rests_72 : decode cX10_rests 72 = .ok (.istore 7, 2) := by decide +kernel
theorem dX10_rests_74 : decode cX10_rests 74 = .ok (.iconst 0, 1) := by decide +kernel
theorem dX10_rests_75 : decode cX10_rests 75 = .ok (.istore 8, 2) := by decide +kernel
theorem dX10_rests_77 : decode cX10_rests 77 = .ok (.iload 8, 2) := by decide +kernel
theorem dX10_rests_79 : decode cX10_rests 79 = .ok (.aload_n 0, 1) := by decide +kernel
theorem dX10_rests_80 : decode cX10_rests 80 = .ok (.getfield 87, 3) := by decide +kernel
theorem dX10_rests_83 : decode cX10_rests 83 = .ok (.arraylength, 1) := by decide +kernel
theorem dX10_rests_84 : decode cX10_rests 84 = .ok (.if_icmp .ge 36, 3) := by decide +kernel
theorem dX10_rests_87 : decode cX10_rests 87 = .ok (.aload_n 0, 1) := by decide +kernel
theorem dX10_rests_88 : decode cX10_rests 88 = .ok (.iload 8, 2) := by decide +kernel
theorem dX10_rests_90 : decode cX10_rests 90 = .ok (.invokevirtual 282, 3) := by decide +kernel
theorem dX10_rests_93 : decode cX10_rests 93 = .ok (.ifCond .eq 21, 3) := by decide +kernel
theorem dX10_rests_96 : decode cX10_rests 96 = .ok (.iinc 6 1, 3) := by decide +kernel
theorem dX10_rests_99 : decode cX10_rests 99 = .ok (.iload 7, 2) := by decide +kernel
theorem dX10_rests_101 : decode cX10_rests 101 = .ok (.iconst (-1), 1) := by decide +kernel
theorem dX10_rests_102 : decode cX10_rests 102 = .ok (.if_icmp .ne 8, 3) := by decide +kernel
theorem dX10_rests_105 : decode cX10_rests 105 = .ok (.iload 8, 2) := by decide +kernel
theorem dX10_rests_107 : decode cX10_rests 107 = .ok (.goto 5, 3) := by decide +kernel
theorem dX10_rests_110 : decode cX10_rests 110 = .ok (.iload 7, 2) := by decide +kernel
theorem dX10_rests_112 : decode cX10_rests 112 = .ok (.istore 7, 2) := by decide +kernel
theorem dX10_rests_114 : decode cX10_rests 114 = .ok (.iinc 8 1, 3) := by decide +kernel
theorem dX10_rests_117 : decode cX10_rests 117 = .ok (.goto (-40), 3) := by decide +kernel
theorem dX10_rests_120 : decode cX10_rests 120 = .ok (.iload 4, 2) := by decide +kernel
theorem dX10_rests_122 : decode cX10_rests 122 = .ok (.ifCond .ne 6, 3) := by decide +kernel
theorem dX10_rests_125 : decode cX10_rests 125 = .ok (.iload 6, 2) := by decide +kernel
theorem dX10_rests_127 : decode cX10_rests 127 = .ok (.ireturn, 1) := by decide +kernel
theorem dX10_rests_128 : decode cX10_rests 128 = .ok (.iload 7, 2) := by decide +kernel
theorem dX10_rests_130 : decode cX10_rests 130 = .ok (.iconst (-1), 1) := by decide +kernel
theorem dX10_rests_131 : decode cX10_rests 131 = .ok (.if_icmp .ne 6, 3) := by decide +kernel
theorem dX10_rests_134 : decode cX10_rests 134 = .ok (.bipush (-2), 2) := by decide +kernel
theorem dX10_rests_136 : decode cX10_rests 136 = .ok (.ireturn, 1) := by decide +kernel
theorem dX10_rests_137 : decode cX10_rests 137 = .ok (.iload 4, 2) := by decide +kernel
theorem dX10_rests_139 : decode cX10_rests 139 = .ok (.iconst 1, 1) := by decide +kernel
theorem dX10_rests_140 : decode cX10_rests 140 = .ok (.if_icmp .ne 17, 3) := by decide +kernel
theorem dX10_rests_143 : decode cX10_rests 143 = .ok (.getstatic 84, 3) := by decide +kernel
theorem dX10_rests_146 : decode cX10_rests 146 = .ok (.iload 7, 2) := by decide +kernel
theorem dX10_rests_148 : decode cX10_rests 148 = .ok (.getstatic 84, 3) := by decide +kernel
theorem dX10_rests_151 : decode cX10_rests 151 = .ok (.arraylength, 1) := by decide +kernel
theorem dX10_rests_152 : decode cX10_rests 152 = .ok (.idiv, 1) := by decide +kernel
theorem dX10_rests_153 : decode cX10_rests 153 = .ok (.iaload, 1) := by decide +kernel
theorem dX10_rests_154 : decode cX10_rests 154 = .ok (.goto 14, 3) := by decide +kernel
theorem dX10_rests_157 : decode cX10_rests 157 = .ok (.getstatic 84, 3) := by decide +kernel
theorem dX10_rests_160 : decode cX10_rests 160 = .ok (.iload 7, 2) := by decide +kernel
theorem dX10_rests_162 : decode cX10_rests 162 = .ok (.getstatic 84, 3) := by decide +kernel
theorem dX10_rests_165 : decode cX10_rests 165 = .ok (.arraylength, 1) := by decide +kernel
theorem dX10_rests_166 : decode cX10_rests 166 = .ok (.irem, 1) := by decide +kernel
theorem dX10_rests_167 : decode cX10_rests 167 = .ok (.iaload, 1) := by decide +kernel
theorem dX10_rests_168 : decode cX10_rests 168 = .ok (.ireturn, 1) := by decide +kernel
theorem dX10_tryRests_0 : decode cX10_tryRests 0 = .ok (.iconst 0, 1) := by decide +kernel
theorem dX10_tryRests_1 : decode cX10_tryRests 1 = .ok (.istore 4, 2) := by decide +kernel
theorem dX10_tryRests_3 : decode cX10_tryRests 3 = .ok (.iload 4, 2) := by decide +kernel
theorem dX10_tryRests_5 : decode cX10_tryRests 5 = .ok (.aload_n 0, 1) := by decide +kernel
theorem dX10_tryRests_6 : decode cX10_tryRests 6 = .ok (.getfield 87, 3) := by decide +kernel
theorem dX10_tryRests_9 : decode cX10_tryRests 9 = .ok (.arraylength, 1) := by decide +kernel
theorem dX10_tryRests_10 : decode cX10_tryRests 10 = .ok (.if_icmp .ge 152, 3) := by decide +kernel
theorem dX10_tryRests_13 : decode cX10_tryRests 13 = .ok (.aload_n 0, 1) := by decide +kernel
theorem dX10_tryRests_14 : decode cX10_tryRests 14 = .ok (.getfield 26, 3) := by decide +kernel
theorem dX10_tryRests_17 : decode cX10_tryRests 17 = .ok (.aload_n 0, 1) := by decide +kernel
theorem dX10_tryRests_18 : decode cX10_tryRests 18 = .ok (.getfield 19, 3) := by decide +kernel
theorem dX10_tryRests_21 : decode cX10_tryRests 21 = .ok (.invokevirtual 124, 3) := by decide +kernel
theorem dX10_tryRests_24 : decode cX10_tryRests 24 = .ok (.aload_n 0, 1) := by decide +kernel
theorem dX10_tryRests_25 : decode cX10_tryRests 25 = .ok (.getfield 26, 3) := by decide +kernel
theorem dX10_tryRests_28 : decode cX10_tryRests 28 = .ok (.getfield 154, 3) := by decide +kernel
theorem dX10_tryRests_31 : decode cX10_tryRests 31 = .ok (.iload_n 1, 1) := by decide +kernel
theorem dX10_tryRests_32 : decode cX10_tryRests 32 = .ok (.getstatic 84, 3) := by decide +kernel
theorem dX10_tryRests_35 : decode cX10_tryRests 35 = .ok (.iload 4, 2) := by decide +kernel
theorem dX10_tryRests_37 : decode cX10_tryRests 37 = .ok (.getstatic 84, 3) := by decide +kernel
theorem dX10_tryRests_40 : decode cX10_tryRests 40 = .ok (.arraylength, 1) := by decide +kernel
theorem dX10_tryRests_41 : decode cX10_tryRests 41 = .ok (.idiv, 1) := by decide +kernel
theorem dX10_tryRests_42 : decode cX10_tryRests 42 = .ok (.iaload, 1) := by decide +kernel
theorem dX10_tryRests_43 : decode cX10_tryRests 43 = .ok (.iastore, 1) := by decide +kernel
theorem dX10_tryRests_44 : decode cX10_tryRests 44 = .ok (.aload_n 0, 1) := by decide +kernel
theorem dX10_tryRests_45 : decode cX10_tryRests 45 = .ok (.getfield 26, 3) := by decide +kernel
theorem dX10_tryRests_48 : decode cX10_tryRests 48 = .ok (.getfield 154, 3) := by decide +kernel
theorem dX10_tryRests_51 : decode cX10_tryRests 51 = .ok (.iload_n 2, 1) := by decide +kernel
theorem dX10_tryRests_52 : decode cX10_tryRests 52 = .ok (.getstatic 84, 3) := by decide +kernel
theorem dX10_tryRests_55 : decode cX10_tryRests 55 = .ok (.iload 4, 2) := by decide +kernel
theorem dX10_tryRests_57 : decode cX10_tryRests 57 = .ok (.getstatic 84, 3) := by decide +kernel
theorem dX10_tryRests_60 : decode cX10_tryRests 60 = .ok (.arraylength, 1) := by decide +kernel
theorem dX10_tryRests_61 : decode cX10_tryRests 61 = .ok (.irem, 1) := by decide +kernel
theorem dX10_tryRests_62 : decode cX10_tryRests 62 = .ok (.iaload, 1) := by decide +kernel
theorem dX10_tryRests_63 : decode cX10_tryRests 63 = .ok (.iastore, 1) := by decide +kernel
theorem dX10_tryRests_64 : decode cX10_tryRests 64 = .ok (.aload_n 0, 1) := by decide +kernel
theorem dX10_tryRests_65 : decode cX10_tryRests 65 = .ok (.getfield 26, 3) := by decide +kernel
theorem dX10_tryRests_68 : decode cX10_tryRests 68 = .ok (.iload_n 3, 1) := by decide +kernel
theorem dX10_tryRests_69 : decode cX10_tryRests 69 = .ok (.aload_n 0, 1) := by decide +kernel
theorem dX10_tryRests_70 : decode cX10_tryRests 70 = .ok (.aload_n 0, 1) := by decide +kernel
theorem dX10_tryRests_71 : decode cX10_tryRests 71 = .ok (.getfield 103, 3) := by decide +kernel
theorem dX10_tryRests_74 : decode cX10_tryRests 74 = .ok (.invokevirtual 205, 3) := by decide +kernel
theorem dX10_tryRests_77 : decode cX10_tryRests 77 = .ok (.invokevirtual 223, 3) := by decide +kernel
theorem dX10_tryRests_80 : decode cX10_tryRests 80 = .ok (.aload_n 0, 1) := by decide +kernel
theorem dX10_tryRests_81 : decode cX10_tryRests 81 = .ok (.getfield 87, 3) := by decide +kernel
theorem dX10_tryRests_84 : decode cX10_tryRests 84 = .ok (.iload 4, 2) := by decide +kernel
theorem dX10_tryRests_86 : decode cX10_tryRests 86 = .ok (.aload_n 0, 1) := by decide +kernel
theorem dX10_tryRests_87 : decode cX10_tryRests 87 = .ok (.getfield 26, 3) := by decide +kernel
theorem dX10_tryRests_90 : decode cX10_tryRests 90 = .ok (.getfield 163, 3) := by decide +kernel
theorem dX10_tryRests_93 : decode cX10_tryRests 93 = .ok (.iload_n 1, 1) := by decide +kernel
theorem dX10_tryRests_94 : decode cX10_tryRests 94 = .ok (.iaload, 1) := by decide +kernel
theorem dX10_tryRests_95 : decode cX10_tryRests 95 = .ok (.aload_n 0, 1) := by decide +kernel
theorem dX10_tryRests_96 : decode cX10_tryRests 96 = .ok (.getfield 19, 3) := by decide +kernel
theorem dX10_tryRests_99 : decode cX10_tryRests 99 = .ok (.getfield 163, 3) := by decide +kernel
theorem dX10_tryRests_102 : decode cX10_tryRests 102 = .ok (.iload_n 1, 1) := by decide +kernel
theorem dX10_tryRests_103 : decode cX10_tryRests 103 = .ok (.iaload, 1) := by decide +kernel
theorem dX10_tryRests_104 : decode cX10_tryRests 104 = .ok (.isub, 1) := by decide +kernel
theorem dX10_tryRests_105 : decode cX10_tryRests 105 = .ok (.aload_n 0, 1) := by decide +kernel
theorem dX10_tryRests_106 : decode cX10_tryRests 106 = .ok (.getfield 26, 3) := by decide +kernel
theorem dX10_tryRests_109 : decode cX10_tryRests 109 = .ok (.getfield 151, 3) := by decide +kernel
theorem dX10_tryRests_112 : decode cX10_tryRests 112 = .ok (.iload_n 1, 1) := by decide +kernel
theorem dX10_tryRests_113 : decode cX10_tryRests 113 = .ok (.iaload, 1) := by decide +kernel
theorem dX10_tryRests_114 : decode cX10_tryRests 114 = .ok (.iconst 3, 1) := by decide +kernel
theorem dX10_tryRests_115 : decode cX10_tryRests 115 = .ok (.idiv, 1) := by decide +kernel
theorem dX10_tryRests_116 : decode cX10_tryRests 116 = .ok (.isub, 1) := by decide +kernel
theorem dX10_tryRests_117 : decode cX10_tryRests 117 = .ok (.iastore, 1) := by decide +kernel
theorem dX10_tryRests_118 : decode cX10_tryRests 118 = .ok (.aload_n 0, 1) := by decide +kernel
theorem dX10_tryRests_119 : decode cX10_tryRests 119 = .ok (.getfield 90, 3) := by decide +kernel
theorem dX10_tryRests_122 : decode cX10_tryRests 122 = .ok (.iload 4, 2) := by decide +kernel
theorem dX10_tryRests_124 : decode cX10_tryRests 124 = .ok (.aload_n 0, 1) := by decide +kernel
theorem dX10_tryRests_125 : decode cX10_tryRests 125 = .ok (.getfield 26, 3) := by decide +kernel
theorem dX10_tryRests_128 : decode cX10_tryRests 128 = .ok (.getfield 163, 3) := by decide +kernel
theorem dX10_tryRests_131 : decode cX10_tryRests 131 = .ok (.iload_n 2, 1) := by decide +kernel
theorem dX10_tryRests_132 : decode cX10_tryRests 132 = .ok (.iaload, 1) := by decide +kernel
theorem dX10_tryRests_133 : decode cX10_tryRests 133 = .ok (.aload_n 0, 1) := by decide +kernel
theorem dX10_tryRests_134 : decode cX10_tryRests 134 = .ok (.getfield 19, 3) := by decide +kernel
theorem dX10_tryRests_137 : decode cX10_tryRests 137 = .ok (.getfield 163, 3) := by decide +kernel
theorem dX10_tryRests_140 : decode cX10_tryRests 140 = .ok (.iload_n 2, 1) := by decide +kernel
theorem dX10_tryRests_141 : decode cX10_tryRests 141 = .ok (.iaload, 1) := by decide +kernel
theorem dX10_tryRests_142 : decode cX10_tryRests 142 = .ok (.isub, 1) := by decide +kernel
theorem dX10_tryRests_143 : decode cX10_tryRests 143 = .ok (.aload_n 0, 1) := by decide +kernel
theorem dX10_tryRests_144 : decode cX10_tryRests 144 = .ok (.getfield 26, 3) := by decide +kernel
theorem dX10_tryRests_147 : decode cX10_tryRests 147 = .ok (.getfield 151, 3) := by decide +kernel
theorem dX10_tryRests_150 : decode cX10_tryRests 150 = .ok (.iload_n 2, 1) := by decide +kernel
theorem dX10_tryRests_151 : decode cX10_tryRests 151 = .ok (.iaload, 1) := by decide +kernel
theorem dX10_tryRests_152 : decode cX10_tryRests 152 = .ok (.iconst 3, 1) := by decide +kernel
theorem dX10_tryRests_153 : decode cX10_tryRests 153 = .ok (.idiv, 1) := by decide +kernel
theorem dX10_tryRests_154 : decode cX10_tryRests 154 = .ok (.isub, 1) := by decide +kernel
theorem dX10_tryRests_155 : decode cX10_tryRests 155 = .ok (.iastore, 1) := by decide +kernel
theorem dX10_tryRests_156 : decode cX10_tryRests 156 = .ok (.iinc 4 1, 3) := by decide +kernel
theorem dX10_tryRests_159 : decode cX10_tryRests 159 = .ok (.goto (-156), 3) := by decide +kernel
theorem dX10_tryRests_162 : decode cX10_tryRests 162 = .ok (.return_, 1) := by decide +kernel
theorem dX10_isRest_0 : decode cX10_isRest 0 = .ok (.iload_n 1, 1) := by decide +kernel
theorem dX10_isRest_1 : decode cX10_isRest 1 = .ok (.getstatic 84, 3) := by decide +kernel
theorem dX10_isRest_4 : decode cX10_isRest 4 = .ok (.arraylength, 1) := by decide +kernel
theorem dX10_isRest_5 : decode cX10_isRest 5 = .ok (.idiv, 1) := by decide +kernel
theorem dX10_isRest_6 : decode cX10_isRest 6 = .ok (.istore_n 2, 1) := by decide +kernel
theorem dX10_isRest_7 : decode cX10_isRest 7 = .ok (.iload_n 1, 1) := by decide +kernel
theorem dX10_isRest_8 : decode cX10_isRest 8 = .ok (.getstatic 84, 3) := by decide +kernel
theorem dX10_isRest_11 : decode cX10_isRest 11 = .ok (.arraylength, 1) := by decide +kernel
theorem dX10_isRest_12 : decode cX10_isRest 12 = .ok (.irem, 1) := by decide +kernel
theorem dX10_isRest_13 : decode cX10_isRest 13 = .ok (.istore_n 3, 1) := by decide +kernel
theorem dX10_isRest_14 : decode cX10_isRest 14 = .ok (.iconst 0, 1) := by decide +kernel
theorem dX10_isRest_15 : decode cX10_isRest 15 = .ok (.istore 4, 2) := by decide +kernel
theorem dX10_isRest_17 : decode cX10_isRest 17 = .ok (.iload 4, 2) := by decide +kernel
theorem dX10_isRest_19 : decode cX10_isRest 19 = .ok (.getstatic 84, 3) := by decide +kernel
theorem dX10_isRest_22 : decode cX10_isRest 22 = .ok (.arraylength, 1) := by decide +kernel
theorem dX10_isRest_23 : decode cX10_isRest 23 = .ok (.if_icmp .ge 57, 3) := by decide +kernel
theorem dX10_isRest_26 : decode cX10_isRest 26 = .ok (.aload_n 0, 1) := by decide +kernel
theorem dX10_isRest_27 : decode cX10_isRest 27 = .ok (.getfield 87, 3) := by decide +kernel
theorem dX10_isRest_30 : decode cX10_isRest 30 = .ok (.iload 4, 2) := by decide +kernel
theorem dX10_isRest_32 : decode cX10_isRest 32 = .ok (.getstatic 84, 3) := by decide +kernel
theorem dX10_isRest_35 : decode cX10_isRest 35 = .ok (.arraylength, 1) := by decide +kernel
theorem dX10_isRest_36 : decode cX10_isRest 36 = .ok (.imul, 1) := by decide +kernel
theorem dX10_isRest_37 : decode cX10_isRest 37 = .ok (.iload_n 3, 1) := by decide +kernel
theorem dX10_isRest_38 : decode cX10_isRest 38 = .ok (.iadd, 1) := by decide +kernel
theorem dX10_isRest_39 : decode cX10_isRest 39 = .ok (.iaload, 1) := by decide +kernel
theorem dX10_isRest_40 : decode cX10_isRest 40 = .ok (.aload_n 0, 1) := by decide +kernel
theorem dX10_isRest_41 : decode cX10_isRest 41 = .ok (.getfield 87, 3) := by decide +kernel
theorem dX10_isRest_44 : decode cX10_isRest 44 = .ok (.iload_n 1, 1) := by decide +kernel
theorem dX10_isRest_45 : decode cX10_isRest 45 = .ok (.iaload, 1) := by decide +kernel
theorem dX10_isRest_46 : decode cX10_isRest 46 = .ok (.if_icmp .gt 26, 3) := by decide +kernel
theorem dX10_isRest_49 : decode cX10_isRest 49 = .ok (.aload_n 0, 1) := by decide +kernel
theorem dX10_isRest_50 : decode cX10_isRest 50 = .ok (.getfield 90, 3) := by decide +kernel
theorem dX10_isRest_53 : decode cX10_isRest 53 = .ok (.iload_n 2, 1) := by decide +kernel
theorem dX10_isRest_54 : decode cX10_isRest 54 = .ok (.getstatic 84, 3) := by decide +kernel
theorem dX10_isRest_57 : decode cX10_isRest 57 = .ok (.arraylength, 1) := by decide +kernel
theorem dX10_isRest_58 : decode cX10_isRest 58 = .ok (.imul, 1) := by decide +kernel
theorem dX10_isRest_59 : decode cX10_isRest 59 = .ok (.iload 4, 2) := by decide +kernel
theorem dX10_isRest_61 : decode cX10_isRest 61 = .ok (.iadd, 1) := by decide +kernel
theorem dX10_isRest_62 : decode cX10_isRest 62 = .ok (.iaload, 1) := by decide +kernel
theorem dX10_isRest_63 : decode cX10_isRest 63 = .ok (.aload_n 0, 1) := by decide +kernel
theorem dX10_isRest_64 : decode cX10_isRest 64 = .ok (.getfield 90, 3) := by decide +kernel
theorem dX10_isRest_67 : decode cX10_isRest 67 = .ok (.iload_n 1, 1) := by decide +kernel
theorem dX10_isRest_68 : decode cX10_isRest 68 = .ok (.iaload, 1) := by decide +kernel
theorem dX10_isRest_69 : decode cX10_isRest 69 = .ok (.if_icmp .le 5, 3) := by decide +kernel
theorem dX10_isRest_72 : decode cX10_isRest 72 = .ok (.iconst 0, 1) := by decide +kernel
theorem dX10_isRest_73 : decode cX10_isRest 73 = .ok (.ireturn, 1) := by decide +kernel
theorem dX10_isRest_74 : decode cX10_isRest 74 = .ok (.iinc 4 1, 3) := by decide +kernel
theorem dX10_isRest_77 : decode cX10_isRest 77 = .ok (.goto (-60), 3) := by decide +kernel
theorem dX10_isRest_80 : decode cX10_isRest 80 = .ok (.iconst 1, 1) := by decide +kernel
theorem dX10_isRest_81 : decode cX10_isRest 81 = .ok (.ireturn, 1) := by decide +kernel
theorem dX10_ring_0 : decode cX10_ring 0 = .ok (.aload_n 0, 1) := by decide +kernel
theorem dX10_ring_1 : decode cX10_ring 1 = .ok (.getfield 19, 3) := by decide +kernel
theorem dX10_ring_4 : decode cX10_ring 4 = .ok (.invokevirtual 198, 3) := by decide +kernel
theorem dX10_ring_7 : decode cX10_ring 7 = .ok (.ifCond .eq 12, 3) := by decide +kernel
theorem dX10_ring_10 : decode cX10_ring 10 = .ok (.iload_n 1, 1) := by decide +kernel
theorem dX10_ring_11 : decode cX10_ring 11 = .ok (.iconst 0, 1) := by decide +kernel
theorem dX10_ring_12 : decode cX10_ring 12 = .ok (.iconst 1, 1) := by decide +kernel
theorem dX10_ring_13 : decode cX10_ring 13 = .ok (.invokestatic 143, 3) := by decide +kernel
theorem dX10_ring_16 : decode cX10_ring 16 = .ok (.ifCond .ne 5, 3) := by decide +kernel
theorem dX10_ring_19 : decode cX10_ring 19 = .ok (.iconst (-1), 1) := by decide +kernel
theorem dX10_ring_20 : decode cX10_ring 20 = .ok (.ireturn, 1) := by decide +kernel
theorem dX10_ring_21 : decode cX10_ring 21 = .ok (.aload_n 0, 1) := by decide +kernel
theorem dX10_ring_22 : decode cX10_ring 22 = .ok (.getfield 26, 3) := by decide +kernel
theorem dX10_ring_25 : decode cX10_ring 25 = .ok (.aload_n 0, 1) := by decide +kernel
theorem dX10_ring_26 : decode cX10_ring 26 = .ok (.getfield 19, 3) := by decide +kernel
theorem dX10_ring_29 : decode cX10_ring 29 = .ok (.invokevirtual 124, 3) := by decide +kernel
theorem dX10_ring_32 : decode cX10_ring 32 = .ok (.iconst 0, 1) := by decide +kernel
theorem dX10_ring_33 : decode cX10_ring 33 = .ok (.istore_n 2, 1) := by decide +kernel
theorem dX10_ring_34 : decode cX10_ring 34 = .ok (.iload_n 2, 1) := by decide +kernel
theorem dX10_ring_35 : decode cX10_ring 35 = .ok (.bipush 60, 2) := by decide +kernel
theorem dX10_ring_37 : decode cX10_ring 37 = .ok (.if_icmp .gt 46, 3) := by decide +kernel
theorem dX10_ring_40 : decode cX10_ring 40 = .ok (.aload_n 0, 1) := by decide +kernel
theorem dX10_ring_41 : decode cX10_ring 41 = .ok (.getfield 26, 3) := by decide +kernel
theorem dX10_ring_44 : decode cX10_ring 44 = .ok (.getfield 151, 3) := by decide +kernel
theorem dX10_ring_47 : decode cX10_ring 47 = .ok (.iconst 0, 1) := by decide +kernel
theorem dX10_ring_48 : decode cX10_ring 48 = .ok (.aload_n 0, 1) := by decide +kernel
theorem dX10_ring_49 : decode cX10_ring 49 = .ok (.getfield 93, 3) := by decide +kernel
theorem dX10_ring_52 : decode cX10_ring 52 = .ok (.iload_n 2, 1) := by decide +kernel
theorem dX10_ring_53 : decode cX10_ring 53 = .ok (.bipush 6, 2) := by decide +kernel
theorem dX10_ring_55 : decode cX10_ring 55 = .ok (.imul, 1) := by decide +kernel
theorem dX10_ring_56 : decode cX10_ring 56 = .ok (.bipush 6, 2) := by decide +kernel
theorem dX10_ring_58 : decode cX10_ring 58 = .ok (.invokestatic 285, 3) := by decide +kernel
theorem dX10_ring_61 : decode cX10_ring 61 = .ok (.aload_n 0, 1) := by decide +kernel
theorem dX10_ring_62 : decode cX10_ring 62 = .ok (.getfield 26, 3) := by decide +kernel
theorem dX10_ring_65 : decode cX10_ring 65 = .ok (.aload_n 0, 1) := by decide +kernel
theorem dX10_ring_66 : decode cX10_ring 66 = .ok (.aload_n 0, 1) := by decide +kernel
theorem dX10_ring_67 : decode cX10_ring 67 = .ok (.getfield 103, 3) := by decide +kernel
theorem dX10_ring_70 : decode cX10_ring 70 = .ok (.invokevirtual 205, 3) := by decide +kernel
theorem dX10_ring_73 : decode cX10_ring 73 = .ok (.invokevirtual 209, 3) := by decide +kernel
theorem dX10_ring_76 : decode cX10_ring 76 = .ok (.pop, 1) := by decide +kernel
theorem dX10_ring_77 : decode cX10_ring 77 = .ok (.iinc 2 1, 3) := by decide +kernel
theorem dX10_ring_80 : decode cX10_ring 80 = .ok (.goto (-46), 3) := by decide +kernel
theorem dX10_ring_83 : decode cX10_ring 83 = .ok (.iconst 0, 1) := by decide +kernel
theorem dX10_ring_84 : decode cX10_ring 84 = .ok (.istore_n 2, 1) := by decide +kernel
theorem dX10_ring_85 : decode cX10_ring 85 = .ok (.iload_n 2, 1) := by decide +kernel
theorem dX10_ring_86 : decode cX10_ring 86 = .ok (.bipush 60, 2) := by decide +kernel
theorem dX10_ring_88 : decode cX10_ring 88 = .ok (.if_icmp .ge 38, 3) := by decide +kernel
theorem dX10_ring_91 : decode cX10_ring 91 = .ok (.aload_n 0, 1) := by decide +kernel
theorem dX10_ring_92 : decode cX10_ring 92 = .ok (.iload_n 2, 1) := by decide +kernel
theorem dX10_ring_93 : decode cX10_ring 93 = .ok (.invokevirtual 291, 3) := by decide +kernel
theorem dX10_ring_96 : decode cX10_ring 96 = .ok (.istore_n 3, 1) := by decide +kernel
theorem dX10_ring_97 : decode cX10_ring 97 = .ok (.iload_n 3, 1) := by decide +kernel
theorem dX10_ring_98 : decode cX10_ring 98 = .ok (.iconst (-1), 1) := by decide +kernel
theorem dX10_ring_99 : decode cX10_ring 99 = .ok (.if_icmp .eq 21, 3) := by decide +kernel
theorem dX10_ring_102 : decode cX10_ring 102 = .ok (.iload_n 1, 1) := by decide +kernel
theorem dX10_ring_103 : decode cX10_ring 103 = .ok (.ifCond .ne 15, 3) := by decide +kernel
theorem dX10_ring_106 : decode cX10_ring 106 = .ok (.aload_n 0, 1) := by decide +kernel
theorem dX10_ring_107 : decode cX10_ring 107 = .ok (.getfield 19, 3) := by decide +kernel
theorem dX10_ring_110 : decode cX10_ring 110 = .ok (.getfield 185, 3) := by decide +kernel
theorem dX10_ring_113 : decode cX10_ring 113 = .ok (.iload_n 2, 1) := by decide +kernel
theorem dX10_ring_114 : decode cX10_ring 114 = .ok (.iadd, 1) := by decide +kernel
theorem dX10_ring_115 : decode cX10_ring 115 = .ok (.goto 4, 3) := by decide +kernel
theorem dX10_ring_118 : decode cX10_ring 118 = .ok (.iload_n 3, 1) := by decide +kernel
theorem dX10_ring_119 : decode cX10_ring 119 = .ok (.ireturn, 1) := by decide +kernel
theorem dX10_ring_120 : decode cX10_ring 120 = .ok (.iinc 2 1, 3) := by decide +kernel
theorem dX10_ring_123 : decode cX10_ring 123 = .ok (.goto (-38), 3) := by decide +kernel
theorem dX10_ring_126 : decode cX10_ring 126 = .ok (.bipush (-2), 2) := by decide +kernel
theorem dX10_ring_128 : decode cX10_ring 128 = .ok (.ireturn, 1) := by decide +kernel
theorem dX10_ringFrom_0 : decode cX10_ringFrom 0 = .ok (.iconst 1, 1) := by decide +kernel
theorem dX10_ringFrom_1 : decode cX10_ringFrom 1 = .ok (.istore_n 2, 1) := by decide +kernel
theorem dX10_ringFrom_2 : decode cX10_ringFrom 2 = .ok (.iload_n 1, 1) := by decide +kernel
theorem dX10_ringFrom_3 : decode cX10_ringFrom 3 = .ok (.iload_n 2, 1) := by decide +kernel
theorem dX10_ringFrom_4 : decode cX10_ringFrom 4 = .ok (.iadd, 1) := by decide +kernel
theorem dX10_ringFrom_5 : decode cX10_ringFrom 5 = .ok (.bipush 60, 2) := by decide +kernel
theorem dX10_ringFrom_7 : decode cX10_ringFrom 7 = .ok (.if_icmp .gt 44, 3) := by decide +kernel
theorem dX10_ringFrom_10 : decode cX10_ringFrom 10 = .ok (.aload_n 0, 1) := by decide +kernel
theorem dX10_ringFrom_11 : decode cX10_ringFrom 11 = .ok (.getfield 19, 3) := by decide +kernel
theorem dX10_ringFrom_14 : decode cX10_ringFrom 14 = .ok (.getfield 179, 3) := by decide +kernel
theorem dX10_ringFrom_17 : decode cX10_ringFrom 17 = .ok (.ifCond .le 28, 3) := by decide +kernel
theorem dX10_ringFrom_20 : decode cX10_ringFrom 20 = .ok (.iload_n 2, 1) := by decide +kernel
theorem dX10_ringFrom_21 : decode cX10_ringFrom 21 = .ok (.aload_n 0, 1) := by decide +kernel
theorem dX10_ringFrom_22 : decode cX10_ringFrom 22 = .ok (.getfield 19, 3) := by decide +kernel
theorem dX10_ringFrom_25 : decode cX10_ringFrom 25 = .ok (.getfield 179, 3) := by decide +kernel
theorem dX10_ringFrom_28 : decode cX10_ringFrom 28 = .ok (.irem, 1) := by decide +kernel
theorem dX10_ringFrom_29 : decode cX10_ringFrom 29 = .ok (.ifCond .ne 16, 3) := by decide +kernel
theorem dX10_ringFrom_32 : decode cX10_ringFrom 32 = .ok (.aload_n 0, 1) := by decide +kernel
theorem dX10_ringFrom_33 : decode cX10_ringFrom 33 = .ok (.iload_n 1, 1) := by decide +kernel
theorem dX10_ringFrom_34 : decode cX10_ringFrom 34 = .ok (.iload_n 1, 1) := by decide +kernel
theorem dX10_ringFrom_35 : decode cX10_ringFrom 35 = .ok (.iload_n 2, 1) := by decide +kernel
theorem dX10_ringFrom_36 : decode cX10_ringFrom 36 = .ok (.iadd, 1) := by decide +kernel
theorem dX10_ringFrom_37 : decode cX10_ringFrom 37 = .ok (.invokevirtual 294, 3) := by decide +kernel
theorem dX10_ringFrom_40 : decode cX10_ringFrom 40 = .ok (.ifCond .eq 5, 3) := by decide +kernel
theorem dX10_ringFrom_43 : decode cX10_ringFrom 43 = .ok (.iload_n 2, 1) := by decide +kernel
theorem dX10_ringFrom_44 : decode cX10_ringFrom 44 = .ok (.ireturn, 1) := by decide +kernel
theorem dX10_ringFrom_45 : decode cX10_ringFrom 45 = .ok (.iinc 2 1, 3) := by decide +kernel
theorem dX10_ringFrom_48 : decode cX10_ringFrom 48 = .ok (.goto (-46), 3) := by decide +kernel
theorem dX10_ringFrom_51 : decode cX10_ringFrom 51 = .ok (.iconst (-1), 1) := by decide +kernel
theorem dX10_ringFrom_52 : decode cX10_ringFrom 52 = .ok (.ireturn, 1) := by decide +kernel
theorem dX10_sameBegins_0 : decode cX10_sameBegins 0 = .ok (.iconst 0, 1) := by decide +kernel
theorem dX10_sameBegins_1 : decode cX10_sameBegins 1 = .ok (.istore_n 3, 1) := by decide +kernel
theorem dX10_sameBegins_2 : decode cX10_sameBegins 2 = .ok (.iload_n 3, 1) := by decide +kernel
theorem dX10_sameBegins_3 : decode cX10_sameBegins 3 = .ok (.aload_n 0, 1) := by decide +kernel
theorem dX10_sameBegins_4 : decode cX10_sameBegins 4 = .ok (.getfield 19, 3) := by decide +kernel
theorem dX10_sameBegins_7 : decode cX10_sameBegins 7 = .ok (.getfield 132, 3) := by decide +kernel
theorem dX10_sameBegins_10 : decode cX10_sameBegins 10 = .ok (.if_icmp .ge 36, 3) := by decide +kernel
theorem dX10_sameBegins_13 : decode cX10_sameBegins 13 = .ok (.aload_n 0, 1) := by decide +kernel
theorem dX10_sameBegins_14 : decode cX10_sameBegins 14 = .ok (.getfield 93, 3) := by decide +kernel
theorem dX10_sameBegins_17 : decode cX10_sameBegins 17 = .ok (.iload_n 1, 1) := by decide +kernel
theorem dX10_sameBegins_18 : decode cX10_sameBegins 18 = .ok (.bipush 6, 2) := by decide +kernel
theorem dX10_sameBegins_20 : decode cX10_sameBegins 20 = .ok (.imul, 1) := by decide +kernel
theorem dX10_sameBegins_21 : decode cX10_sameBegins 21 = .ok (.iload_n 3, 1) := by decide +kernel
theorem dX10_sameBegins_22 : decode cX10_sameBegins 22 = .ok (.iadd, 1) := by decide +kernel
theorem dX10_sameBegins_23 : decode cX10_sameBegins 23 = .ok (.iaload, 1) := by decide +kernel
theorem dX10_sameBegins_24 : decode cX10_sameBegins 24 = .ok (.aload_n 0, 1) := by decide +kernel
theorem dX10_sameBegins_25 : decode cX10_sameBegins 25 = .ok (.getfield 93, 3) := by decide +kernel
theorem dX10_sameBegins_28 : decode cX10_sameBegins 28 = .ok (.iload_n 2, 1) := by decide +kernel
theorem dX10_sameBegins_29 : decode cX10_sameBegins 29 = .ok (.bipush 6, 2) := by decide +kernel
theorem dX10_sameBegins_31 : decode cX10_sameBegins 31 = .ok (.imul, 1) := by decide +kernel
theorem dX10_sameBegins_32 : decode cX10_sameBegins 32 = .ok (.iload_n 3, 1) := by decide +kernel
theorem dX10_sameBegins_33 : decode cX10_sameBegins 33 = .ok (.iadd, 1) := by decide +kernel
theorem dX10_sameBegins_34 : decode cX10_sameBegins 34 = .ok (.iaload, 1) := by decide +kernel
theorem dX10_sameBegins_35 : decode cX10_sameBegins 35 = .ok (.if_icmp .eq 5, 3) := by decide +kernel
theorem dX10_sameBegins_38 : decode cX10_sameBegins 38 = .ok (.iconst 0, 1) := by decide +kernel
theorem dX10_sameBegins_39 : decode cX10_sameBegins 39 = .ok (.ireturn, 1) := by decide +kernel
theorem dX10_sameBegins_40 : decode cX10_sameBegins 40 = .ok (.iinc 3 1, 3) := by decide +kernel
theorem dX10_sameBegins_43 : decode cX10_sameBegins 43 = .ok (.goto (-41), 3) := by decide +kernel
theorem dX10_sameBegins_46 : decode cX10_sameBegins 46 = .ok (.iconst 1, 1) := by decide +kernel
theorem dX10_sameBegins_47 : decode cX10_sameBegins 47 = .ok (.ireturn, 1) := by decide +kernel
theorem dX10_pence_0 : decode cX10_pence 0 = .ok (.aload_n 0, 1) := by decide +kernel
theorem dX10_pence_1 : decode cX10_pence 1 = .ok (.getfield 19, 3) := by decide +kernel
theorem dX10_pence_4 : decode cX10_pence 4 = .ok (.iload_n 2, 1) := by decide +kernel
theorem dX10_pence_5 : decode cX10_pence 5 = .ok (.invokevirtual 147, 3) := by decide +kernel
theorem dX10_pence_8 : decode cX10_pence 8 = .ok (.ifCond .eq 14, 3) := by decide +kernel
theorem dX10_pence_11 : decode cX10_pence 11 = .ok (.iload_n 1, 1) := by decide +kernel
theorem dX10_pence_12 : decode cX10_pence 12 = .ok (.iconst 0, 1) := by decide +kernel
theorem dX10_pence_13 : decode cX10_pence 13 = .ok (.sipush 9999, 3) := by decide +kernel
theorem dX10_pence_16 : decode cX10_pence 16 = .ok (.invokestatic 143, 3) := by decide +kernel
theorem dX10_pence_19 : decode cX10_pence 19 = .ok (.ifCond .ne 5, 3) := by decide +kernel
theorem dX10_pence_22 : decode cX10_pence 22 = .ok (.iconst (-1), 1) := by decide +kernel
theorem dX10_pence_23 : decode cX10_pence 23 = .ok (.ireturn, 1) := by decide +kernel
theorem dX10_pence_24 : decode cX10_pence 24 = .ok (.aload_n 0, 1) := by decide +kernel
theorem dX10_pence_25 : decode cX10_pence 25 = .ok (.getfield 19, 3) := by decide +kernel
theorem dX10_pence_28 : decode cX10_pence 28 = .ok (.aload_n 0, 1) := by decide +kernel
theorem dX10_pence_29 : decode cX10_pence 29 = .ok (.getfield 19, 3) := by decide +kernel
theorem dX10_pence_32 : decode cX10_pence 32 = .ok (.getfield 166, 3) := by decide +kernel
theorem dX10_pence_35 : decode cX10_pence 35 = .ok (.invokevirtual 191, 3) := by decide +kernel
theorem dX10_pence_38 : decode cX10_pence 38 = .ok (.i2l, 1) := by decide +kernel
theorem dX10_pence_39 : decode cX10_pence 39 = .ok (.lstore_n 3, 1) := by decide +kernel
theorem dX10_pence_40 : decode cX10_pence 40 = .ok (.lload_n 3, 1) := by decide +kernel
theorem dX10_pence_41 : decode cX10_pence 41 = .ok (.lconst 0, 1) := by decide +kernel
theorem dX10_pence_42 : decode cX10_pence 42 = .ok (.lcmp, 1) := by decide +kernel
theorem dX10_pence_43 : decode cX10_pence 43 = .ok (.ifCond .gt 5, 3) := by decide +kernel
theorem dX10_pence_46 : decode cX10_pence 46 = .ok (.iconst 0, 1) := by decide +kernel
theorem dX10_pence_47 : decode cX10_pence 47 = .ok (.ireturn, 1) := by decide +kernel
theorem dX10_pence_48 : decode cX10_pence 48 = .ok (.iload_n 1, 1) := by decide +kernel
theorem dX10_pence_49 : decode cX10_pence 49 = .ok (.i2l, 1) := by decide +kernel
theorem dX10_pence_50 : decode cX10_pence 50 = .ok (.aload_n 0, 1) := by decide +kernel
theorem dX10_pence_51 : decode cX10_pence 51 = .ok (.getfield 19, 3) := by decide +kernel
theorem dX10_pence_54 : decode cX10_pence 54 = .ok (.getfield 166, 3) := by decide +kernel
theorem dX10_pence_57 : decode cX10_pence 57 = .ok (.iload_n 2, 1) := by decide +kernel
theorem dX10_pence_58 : decode cX10_pence 58 = .ok (.iaload, 1) := by decide +kernel
theorem dX10_pence_59 : decode cX10_pence 59 = .ok (.i2l, 1) := by decide +kernel
theorem dX10_pence_60 : decode cX10_pence 60 = .ok (.lmul, 1) := by decide +kernel
theorem dX10_pence_61 : decode cX10_pence 61 = .ok (.lload_n 3, 1) := by decide +kernel
theorem dX10_pence_62 : decode cX10_pence 62 = .ok (.lrem, 1) := by decide +kernel
theorem dX10_pence_63 : decode cX10_pence 63 = .ok (.lstore 5, 2) := by decide +kernel
theorem dX10_pence_65 : decode cX10_pence 65 = .ok (.iload_n 1, 1) := by decide +kernel
theorem dX10_pence_66 : decode cX10_pence 66 = .ok (.i2l, 1) := by decide +kernel
theorem dX10_pence_67 : decode cX10_pence 67 = .ok (.lstore 7, 2) := by decide +kernel
theorem dX10_pence_69 : decode cX10_pence 69 = .ok (.iconst 0, 1) := by decide +kernel
theorem dX10_pence_70 : decode cX10_pence 70 = .ok (.istore 9, 2) := by decide +kernel
theorem dX10_pence_72 : decode cX10_pence 72 = .ok (.iconst 0, 1) := by decide +kernel
theorem dX10_pence_73 : decode cX10_pence 73 = .ok (.istore 10, 2) := by decide +kernel
theorem dX10_pence_75 : decode cX10_pence 75 = .ok (.iload 10, 2) := by decide +kernel
theorem dX10_pence_77 : decode cX10_pence 77 = .ok (.aload_n 0, 1) := by decide +kernel
theorem dX10_pence_78 : decode cX10_pence 78 = .ok (.getfield 19, 3) := by decide +kernel
theorem dX10_pence_81 : decode cX10_pence 81 = .ok (.getfield 132, 3) := by decide +kernel
theorem dX10_pence_84 : decode cX10_pence 84 = .ok (.if_icmp .ge 63, 3) := by decide +kernel
theorem dX10_pence_87 : decode cX10_pence 87 = .ok (.iload_n 1, 1) := by decide +kernel
theorem dX10_pence_88 : decode cX10_pence 88 = .ok (.i2l, 1) := by decide +kernel
theorem dX10_pence_89 : decode cX10_pence 89 = .ok (.aload_n 0, 1) := by decide +kernel
theorem dX10_pence_90 : decode cX10_pence 90 = .ok (.getfield 19, 3) := by decide +kernel
theorem dX10_pence_93 : decode cX10_pence 93 = .ok (.getfield 166, 3) := by decide +kernel
theorem dX10_pence_96 : decode cX10_pence 96 = .ok (.iload 10, 2) := by decide +kernel
theorem dX10_pence_98 : decode cX10_pence 98 = .ok (.iaload, 1) := by decide +kernel
theorem dX10_pence_99 : decode cX10_pence 99 = .ok (.i2l, 1) := by decide +kernel
theorem dX10_pence_100 : decode cX10_pence 100 = .ok (.lmul, 1) := by decide +kernel
theorem dX10_pence_101 : decode cX10_pence 101 = .ok (.lstore 11, 2) := by decide +kernel
theorem dX10_pence_103 : decode cX10_pence 103 = .ok (.lload 7, 2) := by decide +kernel
theorem dX10_pence_105 : decode cX10_pence 105 = .ok (.lload 11, 2) := by decide +kernel
theorem dX10_pence_107 : decode cX10_pence 107 = .ok (.lload_n 3, 1) := by decide +kernel
theorem dX10_pence_108 : decode cX10_pence 108 = .ok (.ldiv, 1) := by decide +kernel
theorem dX10_pence_109 : decode cX10_pence 109 = .ok (.lsub, 1) := by decide +kernel
theorem dX10_pence_110 : decode cX10_pence 110 = .ok (.lstore 7, 2) := by decide +kernel
theorem dX10_pence_112 : decode cX10_pence 112 = .ok (.lload 11, 2) := by decide +kernel
theorem dX10_pence_114 : decode cX10_pence 114 = .ok (.lload_n 3, 1) := by decide +kernel
theorem dX10_pence_115 : decode cX10_pence 115 = .ok (.lrem, 1) := by decide +kernel
theorem dX10_pence_116 : decode cX10_pence 116 = .ok (.lload 5, 2) := by decide +kernel
theorem dX10_pence_118 : decode cX10_pence 118 = .ok (.lcmp, 1) := by decide +kernel
theorem dX10_pence_119 : decode cX10_pence 119 = .ok (.ifCond .gt 19, 3) := by decide +kernel
theorem dX10_pence_122 : decode cX10_pence 122 = .ok (.lload 11, 2) := by decide +kernel
theorem dX10_pence_124 : decode cX10_pence 124 = .ok (.lload_n 3, 1) := by decide +kernel
theorem dX10_pence_125 : decode cX10_pence 125 = .ok (.lrem, 1) := by decide +kernel
theorem dX10_pence_126 : decode cX10_pence 126 = .ok (.lload 5, 2) := by decide +kernel
theorem dX10_pence_128 : decode cX10_pence 128 = .ok (.lcmp, 1) := by decide +kernel
theorem dX10_pence_129 : decode cX10_pence 129 = .ok (.ifCond .ne 12, 3) := by decide +kernel
theorem dX10_pence_132 : decode cX10_pence 132 = .ok (.iload 10, 2) := by decide +kernel
theorem dX10_pence_134 : decode cX10_pence 134 = .ok (.iload_n 2, 1) := by decide +kernel
theorem dX10_pence_135 : decode cX10_pence 135 = .ok (.if_icmp .ge 6, 3) := by decide +kernel
theorem dX10_pence_138 : decode cX10_pence 138 = .ok (.iinc 9 1, 3) := by decide +kernel
theorem dX10_pence_141 : decode cX10_pence 141 = .ok (.iinc 10 1, 3) := by decide +kernel
theorem dX10_pence_144 : decode cX10_pence 144 = .ok (.goto (-69), 3) := by decide +kernel
theorem dX10_pence_147 : decode cX10_pence 147 = .ok (.iload_n 1, 1) := by decide +kernel
theorem dX10_pence_148 : decode cX10_pence 148 = .ok (.i2l, 1) := by decide +kernel
theorem dX10_pence_149 : decode cX10_pence 149 = .ok (.aload_n 0, 1) := by decide +kernel
theorem dX10_pence_150 : decode cX10_pence 150 = .ok (.getfield 19, 3) := by decide +kernel
theorem dX10_pence_153 : decode cX10_pence 153 = .ok (.getfield 166, 3) := by decide +kernel
theorem dX10_pence_156 : decode cX10_pence 156 = .ok (.iload_n 2, 1) := by decide +kernel
theorem dX10_pence_157 : decode cX10_pence 157 = .ok (.iaload, 1) := by decide +kernel
theorem dX10_pence_158 : decode cX10_pence 158 = .ok (.i2l, 1) := by decide +kernel
theorem dX10_pence_159 : decode cX10_pence 159 = .ok (.lmul, 1) := by decide +kernel
theorem dX10_pence_160 : decode cX10_pence 160 = .ok (.lload_n 3, 1) := by decide +kernel
theorem dX10_pence_161 : decode cX10_pence 161 = .ok (.ldiv, 1) := by decide +kernel
theorem dX10_pence_162 : decode cX10_pence 162 = .ok (.l2i, 1) := by decide +kernel
theorem dX10_pence_163 : decode cX10_pence 163 = .ok (.iload 9, 2) := by decide +kernel
theorem dX10_pence_165 : decode cX10_pence 165 = .ok (.i2l, 1) := by decide +kernel
theorem dX10_pence_166 : decode cX10_pence 166 = .ok (.lload 7, 2) := by decide +kernel
theorem dX10_pence_168 : decode cX10_pence 168 = .ok (.lcmp, 1) := by decide +kernel
theorem dX10_pence_169 : decode cX10_pence 169 = .ok (.ifCond .ge 7, 3) := by decide +kernel
theorem dX10_pence_172 : decode cX10_pence 172 = .ok (.iconst 1, 1) := by decide +kernel
theorem dX10_pence_173 : decode cX10_pence 173 = .ok (.goto 4, 3) := by decide +kernel
theorem dX10_pence_176 : decode cX10_pence 176 = .ok (.iconst 0, 1) := by decide +kernel
theorem dX10_pence_177 : decode cX10_pence 177 = .ok (.iadd, 1) := by decide +kernel
theorem dX10_pence_178 : decode cX10_pence 178 = .ok (.ireturn, 1) := by decide +kernel
theorem dX10_note_0 : decode cX10_note 0 = .ok (.iload_n 1, 1) := by decide +kernel
theorem dX10_note_1 : decode cX10_note 1 = .ok (.iconst (-1), 1) := by decide +kernel
theorem dX10_note_2 : decode cX10_note 2 = .ok (.if_icmp .ne 13, 3) := by decide +kernel
theorem dX10_note_5 : decode cX10_note 5 = .ok (.aload_n 0, 1) := by decide +kernel
theorem dX10_note_6 : decode cX10_note 6 = .ok (.getfield 63, 3) := by decide +kernel
theorem dX10_note_9 : decode cX10_note 9 = .ok (.iconst 0, 1) := by decide +kernel
theorem dX10_note_10 : decode cX10_note 10 = .ok (.putfield 128, 3) := by decide +kernel
theorem dX10_note_13 : decode cX10_note 13 = .ok (.iconst 0, 1) := by decide +kernel
theorem dX10_note_14 : decode cX10_note 14 = .ok (.ireturn, 1) := by decide +kernel
theorem dX10_note_15 : decode cX10_note 15 = .ok (.iload_n 1, 1) := by decide +kernel
theorem dX10_note_16 : decode cX10_note 16 = .ok (.iconst 0, 1) := by decide +kernel
theorem dX10_note_17 : decode cX10_note 17 = .ok (.bipush 60, 2) := by decide +kernel
theorem dX10_note_19 : decode cX10_note 19 = .ok (.invokestatic 143, 3) := by decide +kernel
theorem dX10_note_22 : decode cX10_note 22 = .ok (.ifCond .eq 28, 3) := by decide +kernel
theorem dX10_note_25 : decode cX10_note 25 = .ok (.aload_n 0, 1) := by decide +kernel
theorem dX10_note_26 : decode cX10_note 26 = .ok (.getfield 19, 3) := by decide +kernel
theorem dX10_note_29 : decode cX10_note 29 = .ok (.iload_n 2, 1) := by decide +kernel
theorem dX10_note_30 : decode cX10_note 30 = .ok (.invokevirtual 147, 3) := by decide +kernel
theorem dX10_note_33 : decode cX10_note 33 = .ok (.ifCond .eq 17, 3) := by decide +kernel
theorem dX10_note_36 : decode cX10_note 36 = .ok (.iload_n 3, 1) := by decide +kernel
theorem dX10_note_37 : decode cX10_note 37 = .ok (.iconst 0, 1) := by decide +kernel
theorem dX10_note_38 : decode cX10_note 38 = .ok (.bipush 9, 2) := by decide +kernel
theorem dX10_note_40 : decode cX10_note 40 = .ok (.invokestatic 143, 3) := by decide +kernel
theorem dX10_note_43 : decode cX10_note 43 = .ok (.ifCond .eq 7, 3) := by decide +kernel
theorem dX10_note_46 : decode cX10_note 46 = .ok (.iconst 1, 1) := by decide +kernel
theorem dX10_note_47 : decode cX10_note 47 = .ok (.goto 4, 3) := by decide +kernel
theorem dX10_note_50 : decode cX10_note 50 = .ok (.iconst 0, 1) := by decide +kernel
theorem dX10_note_51 : decode cX10_note 51 = .ok (.istore 4, 2) := by decide +kernel
theorem dX10_note_53 : decode cX10_note 53 = .ok (.iload 4, 2) := by decide +kernel
theorem dX10_note_55 : decode cX10_note 55 = .ok (.ifCond .eq 15, 3) := by decide +kernel
theorem dX10_note_58 : decode cX10_note 58 = .ok (.aload_n 0, 1) := by decide +kernel
theorem dX10_note_59 : decode cX10_note 59 = .ok (.getfield 63, 3) := by decide +kernel
theorem dX10_note_62 : decode cX10_note 62 = .ok (.getfield 128, 3) := by decide +kernel
theorem dX10_note_65 : decode cX10_note 65 = .ok (.bipush 10, 2) := by decide +kernel
theorem dX10_note_67 : decode cX10_note 67 = .ok (.if_icmp .lt 6, 3) := by decide +kernel
theorem dX10_note_70 : decode cX10_note 70 = .ok (.bipush (-2), 2) := by decide +kernel
theorem dX10_note_72 : decode cX10_note 72 = .ok (.ireturn, 1) := by decide +kernel
theorem dX10_note_73 : decode cX10_note 73 = .ok (.aload_n 0, 1) := by decide +kernel
theorem dX10_note_74 : decode cX10_note 74 = .ok (.getfield 63, 3) := by decide +kernel
theorem dX10_note_77 : decode cX10_note 77 = .ok (.iload_n 1, 1) := by decide +kernel
theorem dX10_note_78 : decode cX10_note 78 = .ok (.iload_n 2, 1) := by decide +kernel
theorem dX10_note_79 : decode cX10_note 79 = .ok (.iload_n 3, 1) := by decide +kernel
theorem dX10_note_80 : decode cX10_note 80 = .ok (.invokevirtual 297, 3) := by decide +kernel
theorem dX10_note_83 : decode cX10_note 83 = .ok (.aload_n 0, 1) := by decide +kernel
theorem dX10_note_84 : decode cX10_note 84 = .ok (.getfield 63, 3) := by decide +kernel
theorem dX10_note_87 : decode cX10_note 87 = .ok (.getfield 128, 3) := by decide +kernel
theorem dX10_note_90 : decode cX10_note 90 = .ok (.ireturn, 1) := by decide +kernel
theorem dX10_ruled_0 : decode cX10_ruled 0 = .ok (.aload_n 0, 1) := by decide +kernel
theorem dX10_ruled_1 : decode cX10_ruled 1 = .ok (.getfield 19, 3) := by decide +kernel
theorem dX10_ruled_4 : decode cX10_ruled 4 = .ok (.invokevirtual 198, 3) := by decide +kernel
theorem dX10_ruled_7 : decode cX10_ruled 7 = .ok (.ifCond .eq 12, 3) := by decide +kernel
theorem dX10_ruled_10 : decode cX10_ruled 10 = .ok (.iload_n 1, 1) := by decide +kernel
theorem dX10_ruled_11 : decode cX10_ruled 11 = .ok (.iconst 0, 1) := by decide +kernel
theorem dX10_ruled_12 : decode cX10_ruled 12 = .ok (.iconst 1, 1) := by decide +kernel
theorem dX10_ruled_13 : decode cX10_ruled 13 = .ok (.invokestatic 143, 3) := by decide +kernel
theorem dX10_ruled_16 : decode cX10_ruled 16 = .ok (.ifCond .ne 6, 3) := by decide +kernel
theorem dX10_ruled_19 : decode cX10_ruled 19 = .ok (.bipush (-3), 2) := by decide +kernel
theorem dX10_ruled_21 : decode cX10_ruled 21 = .ok (.ireturn, 1) := by decide +kernel
theorem dX10_ruled_22 : decode cX10_ruled 22 = .ok (.aload_n 0, 1) := by decide +kernel
theorem dX10_ruled_23 : decode cX10_ruled 23 = .ok (.iconst (-1), 1) := by decide +kernel
theorem dX10_ruled_24 : decode cX10_ruled 24 = .ok (.invokevirtual 300, 3) := by decide +kernel
theorem dX10_ruled_27 : decode cX10_ruled 27 = .ok (.istore_n 2, 1) := by decide +kernel
theorem dX10_ruled_28 : decode cX10_ruled 28 = .ok (.iload_n 1, 1) := by decide +kernel
theorem dX10_ruled_29 : decode cX10_ruled 29 = .ok (.ifCond .ne 8, 3) := by decide +kernel
theorem dX10_ruled_32 : decode cX10_ruled 32 = .ok (.iload_n 2, 1) := by decide +kernel
theorem dX10_ruled_33 : decode cX10_ruled 33 = .ok (.invokestatic 230, 3) := by decide +kernel
theorem dX10_ruled_36 : decode cX10_ruled 36 = .ok (.ireturn, 1) := by decide +kernel
theorem dX10_ruled_37 : decode cX10_ruled 37 = .ok (.iload_n 2, 1) := by decide +kernel
theorem dX10_ruled_38 : decode cX10_ruled 38 = .ok (.ifCond .ne 8, 3) := by decide +kernel
theorem dX10_ruled_41 : decode cX10_ruled 41 = .ok (.bipush (-2), 2) := by decide +kernel
theorem dX10_ruled_43 : decode cX10_ruled 43 = .ok (.goto 9, 3) := by decide +kernel
theorem dX10_ruled_46 : decode cX10_ruled 46 = .ok (.iload_n 2, 1) := by decide +kernel
theorem dX10_ruled_47 : decode cX10_ruled 47 = .ok (.invokestatic 303, 3) := by decide +kernel
theorem dX10_ruled_50 : decode cX10_ruled 50 = .ok (.iconst 1, 1) := by decide +kernel
theorem dX10_ruled_51 : decode cX10_ruled 51 = .ok (.isub, 1) := by decide +kernel
theorem dX10_ruled_52 : decode cX10_ruled 52 = .ok (.ireturn, 1) := by decide +kernel
theorem dX10_look_0 : decode cX10_look 0 = .ok (.aload_n 0, 1) := by decide +kernel
theorem dX10_look_1 : decode cX10_look 1 = .ok (.getfield 19, 3) := by decide +kernel
theorem dX10_look_4 : decode cX10_look 4 = .ok (.invokevirtual 198, 3) := by decide +kernel
theorem dX10_look_7 : decode cX10_look 7 = .ok (.ifCond .eq 22, 3) := by decide +kernel
theorem dX10_look_10 : decode cX10_look 10 = .ok (.iload_n 1, 1) := by decide +kernel
theorem dX10_look_11 : decode cX10_look 11 = .ok (.iconst 0, 1) := by decide +kernel
theorem dX10_look_12 : decode cX10_look 12 = .ok (.bipush 60, 2) := by decide +kernel
theorem dX10_look_14 : decode cX10_look 14 = .ok (.invokestatic 143, 3) := by decide +kernel
theorem dX10_look_17 : decode cX10_look 17 = .ok (.ifCond .eq 12, 3) := by decide +kernel
theorem dX10_look_20 : decode cX10_look 20 = .ok (.iload_n 2, 1) := by decide +kernel
theorem dX10_look_21 : decode cX10_look 21 = .ok (.iconst 0, 1) := by decide +kernel
theorem dX10_look_22 : decode cX10_look 22 = .ok (.iconst 1, 1) := by decide +kernel
theorem dX10_look_23 : decode cX10_look 23 = .ok (.invokestatic 143, 3) := by decide +kernel
theorem dX10_look_26 : decode cX10_look 26 = .ok (.ifCond .ne 5, 3) := by decide +kernel
theorem dX10_look_29 : decode cX10_look 29 = .ok (.iconst (-1), 1) := by decide +kernel
theorem dX10_look_30 : decode cX10_look 30 = .ok (.ireturn, 1) := by decide +kernel
theorem dX10_look_31 : decode cX10_look 31 = .ok (.aload_n 0, 1) := by decide +kernel
theorem dX10_look_32 : decode cX10_look 32 = .ok (.iload_n 1, 1) := by decide +kernel
theorem dX10_look_33 : decode cX10_look 33 = .ok (.invokevirtual 300, 3) := by decide +kernel
theorem dX10_look_36 : decode cX10_look 36 = .ok (.istore_n 3, 1) := by decide +kernel
theorem dX10_look_37 : decode cX10_look 37 = .ok (.iload_n 3, 1) := by decide +kernel
theorem dX10_look_38 : decode cX10_look 38 = .ok (.ifCond .eq 13, 3) := by decide +kernel
theorem dX10_look_41 : decode cX10_look 41 = .ok (.aload_n 0, 1) := by decide +kernel
theorem dX10_look_42 : decode cX10_look 42 = .ok (.getfield 19, 3) := by decide +kernel
theorem dX10_look_45 : decode cX10_look 45 = .ok (.getfield 132, 3) := by decide +kernel
theorem dX10_look_48 : decode cX10_look 48 = .ok (.ifCond .ne 6, 3) := by decide +kernel
theorem dX10_look_51 : decode cX10_look 51 = .ok (.bipush (-2), 2) := by decide +kernel
theorem dX10_look_53 : decode cX10_look 53 = .ok (.ireturn, 1) := by decide +kernel
theorem dX10_look_54 : decode cX10_look 54 = .ok (.iconst 0, 1) := by decide +kernel
theorem dX10_look_55 : decode cX10_look 55 = .ok (.istore 4, 2) := by decide +kernel
theorem dX10_look_57 : decode cX10_look 57 = .ok (.aload_n 0, 1) := by decide +kernel
theorem dX10_look_58 : decode cX10_look 58 = .ok (.iconst 0, 1) := by decide +kernel
theorem dX10_look_59 : decode cX10_look 59 = .ok (.iload_n 3, 1) := by decide +kernel
theorem dX10_look_60 : decode cX10_look 60 = .ok (.invokevirtual 306, 3) := by decide +kernel
theorem dX10_look_63 : decode cX10_look 63 = .ok (.istore 5, 2) := by decide +kernel
theorem dX10_look_65 : decode cX10_look 65 = .ok (.iconst 1, 1) := by decide +kernel
theorem dX10_look_66 : decode cX10_look 66 = .ok (.istore 6, 2) := by decide +kernel
theorem dX10_look_68 : decode cX10_look 68 = .ok (.iload 6, 2) := by decide +kernel
theorem dX10_look_70 : decode cX10_look 70 = .ok (.aload_n 0, 1) := by decide +kernel
theorem dX10_look_71 : decode cX10_look 71 = .ok (.getfield 19, 3) := by decide +kernel
theorem dX10_look_74 : decode cX10_look 74 = .ok (.getfield 132, 3) := by decide +kernel
theorem dX10_look_77 : decode cX10_look 77 = .ok (.if_icmp .ge 33, 3) := by decide +kernel
theorem dX10_look_80 : decode cX10_look 80 = .ok (.aload_n 0, 1) := by decide +kernel
theorem dX10_look_81 : decode cX10_look 81 = .ok (.iload 6, 2) := by decide +kernel
theorem dX10_look_83 : decode cX10_look 83 = .ok (.iload_n 3, 1) := by decide +kernel
theorem dX10_look_84 : decode cX10_look 84 = .ok (.invokevirtual 306, 3) := by decide +kernel
theorem dX10_look_87 : decode cX10_look 87 = .ok (.istore 7, 2) := by decide +kernel
theorem dX10_look_89 : decode cX10_look 89 = .ok (.iload 7, 2) := by decide +kernel
theorem dX10_look_91 : decode cX10_look 91 = .ok (.iload 5, 2) := by decide +kernel
theorem dX10_look_93 : decode cX10_look 93 = .ok (.if_icmp .ge 11, 3) := by decide +kernel
theorem dX10_look_96 : decode cX10_look 96 = .ok (.iload 7, 2) := by decide +kernel
theorem dX10_look_98 : decode cX10_look 98 = .ok (.istore 5, 2) := by decide +kernel
theorem dX10_look_100 : decode cX10_look 100 = .ok (.iload 6, 2) := by decide +kernel
theorem dX10_look_102 : decode cX10_look 102 = .ok (.istore 4, 2) := by decide +kernel
theorem dX10_look_104 : decode cX10_look 104 = .ok (.iinc 6 1, 3) := by decide +kernel
theorem dX10_look_107 : decode cX10_look 107 = .ok (.goto (-39), 3) := by decide +kernel
theorem dX10_look_110 : decode cX10_look 110 = .ok (.iload_n 2, 1) := by decide +kernel
theorem dX10_look_111 : decode cX10_look 111 = .ok (.ifCond .ne 8, 3) := by decide +kernel
theorem dX10_look_114 : decode cX10_look 114 = .ok (.iload 4, 2) := by decide +kernel
theorem dX10_look_116 : decode cX10_look 116 = .ok (.goto 5, 3) := by decide +kernel
theorem dX10_look_119 : decode cX10_look 119 = .ok (.iload 5, 2) := by decide +kernel
theorem dX10_look_121 : decode cX10_look 121 = .ok (.ireturn, 1) := by decide +kernel
theorem dX10_rulesThatAreSo_0 : decode cX10_rulesThatAreSo 0 = .ok (.iconst 0, 1) := by decide +kernel
theorem dX10_rulesThatAreSo_1 : decode cX10_rulesThatAreSo 1 = .ok (.istore_n 2, 1) := by decide +kernel
theorem dX10_rulesThatAreSo_2 : decode cX10_rulesThatAreSo 2 = .ok (.iconst (-1), 1) := by decide +kernel
theorem dX10_rulesThatAreSo_3 : decode cX10_rulesThatAreSo 3 = .ok (.istore_n 3, 1) := by decide +kernel
theorem dX10_rulesThatAreSo_4 : decode cX10_rulesThatAreSo 4 = .ok (.iload_n 3, 1) := by decide +kernel
theorem dX10_rulesThatAreSo_5 : decode cX10_rulesThatAreSo 5 = .ok (.aload_n 0, 1) := by decide +kernel
theorem dX10_rulesThatAreSo_6 : decode cX10_rulesThatAreSo 6 = .ok (.getfield 99, 3) := by decide +kernel
theorem dX10_rulesThatAreSo_9 : decode cX10_rulesThatAreSo 9 = .ok (.if_icmp .ge 26, 3) := by decide +kernel
theorem dX10_rulesThatAreSo_12 : decode cX10_rulesThatAreSo 12 = .ok (.aload_n 0, 1) := by decide +kernel
theorem dX10_rulesThatAreSo_13 : decode cX10_rulesThatAreSo 13 = .ok (.iload_n 3, 1) := by decide +kernel
theorem dX10_rulesThatAreSo_14 : decode cX10_rulesThatAreSo 14 = .ok (.iload_n 1, 1) := by decide +kernel
theorem dX10_rulesThatAreSo_15 : decode cX10_rulesThatAreSo 15 = .ok (.invokevirtual 309, 3) := by decide +kernel
theorem dX10_rulesThatAreSo_18 : decode cX10_rulesThatAreSo 18 = .ok (.ifCond .eq 11, 3) := by decide +kernel
theorem dX10_rulesThatAreSo_21 : decode cX10_rulesThatAreSo 21 = .ok (.iload_n 2, 1) := by decide +kernel
theorem dX10_rulesThatAreSo_22 : decode cX10_rulesThatAreSo 22 = .ok (.iconst 1, 1) := by decide +kernel
theorem dX10_rulesThatAreSo_23 : decode cX10_rulesThatAreSo 23 = .ok (.iload_n 3, 1) := by decide +kernel
theorem dX10_rulesThatAreSo_24 : decode cX10_rulesThatAreSo 24 = .ok (.iconst 1, 1) := by decide +kernel
theorem dX10_rulesThatAreSo_25 : decode cX10_rulesThatAreSo 25 = .ok (.iadd, 1) := by decide +kernel
theorem dX10_rulesThatAreSo_26 : decode cX10_rulesThatAreSo 26 = .ok (.ishl, 1) := by decide +kernel
theorem dX10_rulesThatAreSo_27 : decode cX10_rulesThatAreSo 27 = .ok (.ior, 1) := by decide +kernel
theorem dX10_rulesThatAreSo_28 : decode cX10_rulesThatAreSo 28 = .ok (.istore_n 2, 1) := by decide +kernel
theorem dX10_rulesThatAreSo_29 : decode cX10_rulesThatAreSo 29 = .ok (.iinc 3 1, 3) := by decide +kernel
theorem dX10_rulesThatAreSo_32 : decode cX10_rulesThatAreSo 32 = .ok (.goto (-28), 3) := by decide +kernel
theorem dX10_rulesThatAreSo_35 : decode cX10_rulesThatAreSo 35 = .ok (.iload_n 2, 1) := by decide +kernel
theorem dX10_rulesThatAreSo_36 : decode cX10_rulesThatAreSo 36 = .ok (.ireturn, 1) := by decide +kernel
theorem dX10_isSoBy_0 : decode cX10_isSoBy 0 = .ok (.aload_n 0, 1) := by decide +kernel
theorem dX10_isSoBy_1 : decode cX10_isSoBy 1 = .ok (.getfield 26, 3) := by decide +kernel
theorem dX10_isSoBy_4 : decode cX10_isSoBy 4 = .ok (.aload_n 0, 1) := by decide +kernel
theorem dX10_isSoBy_5 : decode cX10_isSoBy 5 = .ok (.getfield 23, 3) := by decide +kernel
theorem dX10_isSoBy_8 : decode cX10_isSoBy 8 = .ok (.invokevirtual 124, 3) := by decide +kernel
theorem dX10_isSoBy_11 : decode cX10_isSoBy 11 = .ok (.iconst 0, 1) := by decide +kernel
theorem dX10_isSoBy_12 : decode cX10_isSoBy 12 = .ok (.istore_n 3, 1) := by decide +kernel
theorem dX10_isSoBy_13 : decode cX10_isSoBy 13 = .ok (.iload_n 3, 1) := by decide +kernel
theorem dX10_isSoBy_14 : decode cX10_isSoBy 14 = .ok (.bipush 60, 2) := by decide +kernel
theorem dX10_isSoBy_16 : decode cX10_isSoBy 16 = .ok (.if_icmp .gt 70, 3) := by decide +kernel
theorem dX10_isSoBy_19 : decode cX10_isSoBy 19 = .ok (.aload_n 0, 1) := by decide +kernel
theorem dX10_isSoBy_20 : decode cX10_isSoBy 20 = .ok (.getfield 26, 3) := by decide +kernel
theorem dX10_isSoBy_23 : decode cX10_isSoBy 23 = .ok (.aload_n 0, 1) := by decide +kernel
theorem dX10_isSoBy_24 : decode cX10_isSoBy 24 = .ok (.iload_n 1, 1) := by decide +kernel
theorem dX10_isSoBy_25 : decode cX10_isSoBy 25 = .ok (.invokevirtual 205, 3) := by decide +kernel
theorem dX10_isSoBy_28 : decode cX10_isSoBy 28 = .ok (.invokevirtual 209, 3) := by decide +kernel
theorem dX10_isSoBy_31 : decode cX10_isSoBy 31 = .ok (.pop, 1) := by decide +kernel
theorem dX10_isSoBy_32 : decode cX10_isSoBy 32 = .ok (.aload_n 0, 1) := by decide +kernel
theorem dX10_isSoBy_33 : decode cX10_isSoBy 33 = .ok (.getfield 63, 3) := by decide +kernel
theorem dX10_isSoBy_36 : decode cX10_isSoBy 36 = .ok (.iload_n 3, 1) := by decide +kernel
theorem dX10_isSoBy_37 : decode cX10_isSoBy 37 = .ok (.aload_n 0, 1) := by decide +kernel
theorem dX10_isSoBy_38 : decode cX10_isSoBy 38 = .ok (.getfield 26, 3) := by decide +kernel
theorem dX10_isSoBy_41 : decode cX10_isSoBy 41 = .ok (.getfield 275, 3) := by decide +kernel
theorem dX10_isSoBy_44 : decode cX10_isSoBy 44 = .ok (.invokevirtual 312, 3) := by decide +kernel
theorem dX10_isSoBy_47 : decode cX10_isSoBy 47 = .ok (.ifCond .ne 5, 3) := by decide +kernel
theorem dX10_isSoBy_50 : decode cX10_isSoBy 50 = .ok (.iconst 0, 1) := by decide +kernel
theorem dX10_isSoBy_51 : decode cX10_isSoBy 51 = .ok (.ireturn, 1) := by decide +kernel
theorem dX10_isSoBy_52 : decode cX10_isSoBy 52 = .ok (.iload_n 3, 1) := by decide +kernel
theorem dX10_isSoBy_53 : decode cX10_isSoBy 53 = .ok (.iload_n 2, 1) := by decide +kernel
theorem dX10_isSoBy_54 : decode cX10_isSoBy 54 = .ok (.if_icmp .ne 26, 3) := by decide +kernel
theorem dX10_isSoBy_57 : decode cX10_isSoBy 57 = .ok (.aload_n 0, 1) := by decide +kernel
theorem dX10_isSoBy_58 : decode cX10_isSoBy 58 = .ok (.getfield 26, 3) := by decide +kernel
theorem dX10_isSoBy_61 : decode cX10_isSoBy 61 = .ok (.getfield 275, 3) := by decide +kernel
theorem dX10_isSoBy_64 : decode cX10_isSoBy 64 = .ok (.iconst 0, 1) := by decide +kernel
theorem dX10_isSoBy_65 : decode cX10_isSoBy 65 = .ok (.aload_n 0, 1) := by decide +kernel
theorem dX10_isSoBy_66 : decode cX10_isSoBy 66 = .ok (.getfield 96, 3) := by decide +kernel
theorem dX10_isSoBy_69 : decode cX10_isSoBy 69 = .ok (.iload_n 1, 1) := by decide +kernel
theorem dX10_isSoBy_70 : decode cX10_isSoBy 70 = .ok (.iconst 1, 1) := by decide +kernel
theorem dX10_isSoBy_71 : decode cX10_isSoBy 71 = .ok (.iadd, 1) := by decide +kernel
theorem dX10_isSoBy_72 : decode cX10_isSoBy 72 = .ok (.bipush 6, 2) := by decide +kernel
theorem dX10_isSoBy_74 : decode cX10_isSoBy 74 = .ok (.imul, 1) := by decide +kernel
theorem dX10_isSoBy_75 : decode cX10_isSoBy 75 = .ok (.bipush 6, 2) := by decide +kernel
theorem dX10_isSoBy_77 : decode cX10_isSoBy 77 = .ok (.invokestatic 285, 3) := by decide +kernel
theorem dX10_isSoBy_80 : decode cX10_isSoBy 80 = .ok (.iinc 3 1, 3) := by decide +kernel
theorem dX10_isSoBy_83 : decode cX10_isSoBy 83 = .ok (.goto (-70), 3) := by decide +kernel
theorem dX10_isSoBy_86 : decode cX10_isSoBy 86 = .ok (.iconst 1, 1) := by decide +kernel
theorem dX10_isSoBy_87 : decode cX10_isSoBy 87 = .ok (.ireturn, 1) := by decide +kernel
theorem dX10_mostAlike_0 : decode cX10_mostAlike 0 = .ok (.iconst 0, 1) := by decide +kernel
theorem dX10_mostAlike_1 : decode cX10_mostAlike 1 = .ok (.istore_n 3, 1) := by decide +kernel
theorem dX10_mostAlike_2 : decode cX10_mostAlike 2 = .ok (.iconst 0, 1) := by decide +kernel
theorem dX10_mostAlike_3 : decode cX10_mostAlike 3 = .ok (.istore 4, 2) := by decide +kernel
theorem dX10_mostAlike_5 : decode cX10_mostAlike 5 = .ok (.iload 4, 2) := by decide +kernel
theorem dX10_mostAlike_7 : decode cX10_mostAlike 7 = .ok (.bipush 6, 2) := by decide +kernel
theorem dX10_mostAlike_9 : decode cX10_mostAlike 9 = .ok (.if_icmp .gt 108, 3) := by decide +kernel
theorem dX10_mostAlike_12 : decode cX10_mostAlike 12 = .ok (.iconst 0, 1) := by decide +kernel
theorem dX10_mostAlike_13 : decode cX10_mostAlike 13 = .ok (.istore 5, 2) := by decide +kernel
theorem dX10_mostAlike_15 : decode cX10_mostAlike 15 = .ok (.iconst 0, 1) := by decide +kernel
theorem dX10_mostAlike_16 : decode cX10_mostAlike 16 = .ok (.istore 6, 2) := by decide +kernel
theorem dX10_mostAlike_18 : decode cX10_mostAlike 18 = .ok (.iload 6, 2) := by decide +kernel
theorem dX10_mostAlike_20 : decode cX10_mostAlike 20 = .ok (.bipush 6, 2) := by decide +kernel
theorem dX10_mostAlike_22 : decode cX10_mostAlike 22 = .ok (.if_icmp .gt 68, 3) := by decide +kernel
theorem dX10_mostAlike_25 : decode cX10_mostAlike 25 = .ok (.aload_n 0, 1) := by decide +kernel
theorem dX10_mostAlike_26 : decode cX10_mostAlike 26 = .ok (.getfield 96, 3) := by decide +kernel
theorem dX10_mostAlike_29 : decode cX10_mostAlike 29 = .ok (.iload 4, 2) := by decide +kernel
theorem dX10_mostAlike_31 : decode cX10_mostAlike 31 = .ok (.bipush 6, 2) := by decide +kernel
theorem dX10_mostAlike_33 : decode cX10_mostAlike 33 = .ok (.imul, 1) := by decide +kernel
theorem dX10_mostAlike_34 : decode cX10_mostAlike 34 = .ok (.iload_n 1, 1) := by decide +kernel
theorem dX10_mostAlike_35 : decode cX10_mostAlike 35 = .ok (.iadd, 1) := by decide +kernel
theorem dX10_mostAlike_36 : decode cX10_mostAlike 36 = .ok (.iaload, 1) := by decide +kernel
theorem dX10_mostAlike_37 : decode cX10_mostAlike 37 = .ok (.aload_n 0, 1) := by decide +kernel
theorem dX10_mostAlike_38 : decode cX10_mostAlike 38 = .ok (.getfield 96, 3) := by decide +kernel
theorem dX10_mostAlike_41 : decode cX10_mostAlike 41 = .ok (.iload 6, 2) := by decide +kernel
theorem dX10_mostAlike_43 : decode cX10_mostAlike 43 = .ok (.bipush 6, 2) := by decide +kernel
theorem dX10_mostAlike_45 : decode cX10_mostAlike 45 = .ok (.imul, 1) := by decide +kernel
theorem dX10_mostAlike_46 : decode cX10_mostAlike 46 = .ok (.iload_n 1, 1) := by decide +kernel
theorem dX10_mostAlike_47 : decode cX10_mostAlike 47 = .ok (.iadd, 1) := by decide +kernel
theorem dX10_mostAlike_48 : decode cX10_mostAlike 48 = .ok (.iaload, 1) := by decide +kernel
theorem dX10_mostAlike_49 : decode cX10_mostAlike 49 = .ok (.if_icmp .ne 7, 3) := by decide +kernel
theorem dX10_mostAlike_52 : decode cX10_mostAlike 52 = .ok (.iconst 1, 1) := by decide +kernel
theorem dX10_mostAlike_53 : decode cX10_mostAlike 53 = .ok (.goto 4, 3) := by decide +kernel
theorem dX10_mostAlike_56 : decode cX10_mostAlike 56 = .ok (.iconst 0, 1) := by decide +kernel
theorem dX10_mostAlike_57 : decode cX10_mostAlike 57 = .ok (.istore 7, 2) := by decide +kernel
theorem dX10_mostAlike_59 : decode cX10_mostAlike 59 = .ok (.iload 5, 2) := by decide +kernel
theorem dX10_mostAlike_61 : decode cX10_mostAlike 61 = .ok (.iload 7, 2) := by decide +kernel
theorem dX10_mostAlike_63 : decode cX10_mostAlike 63 = .ok (.ifCond .eq 17, 3) := by decide +kernel
theorem dX10_mostAlike_66 : decode cX10_mostAlike 66 = .ok (.iload_n 2, 1) := by decide +kernel
theorem dX10_mostAlike_67 : decode cX10_mostAlike 67 = .ok (.iload 6, 2) := by decide +kernel
theorem dX10_mostAlike_69 : decode cX10_mostAlike 69 = .ok (.ishr, 1) := by decide +kernel
theorem dX10_mostAlike_70 : decode cX10_mostAlike 70 = .ok (.iconst 1, 1) := by decide +kernel
theorem dX10_mostAlike_71 : decode cX10_mostAlike 71 = .ok (.iand, 1) := by decide +kernel
theorem dX10_mostAlike_72 : decode cX10_mostAlike 72 = .ok (.iconst 1, 1) := by decide +kernel
theorem dX10_mostAlike_73 : decode cX10_mostAlike 73 = .ok (.if_icmp .ne 7, 3) := by decide +kernel
theorem dX10_mostAlike_76 : decode cX10_mostAlike 76 = .ok (.iconst 1, 1) := by decide +kernel
theorem dX10_mostAlike_77 : decode cX10_mostAlike 77 = .ok (.goto 4, 3) := by decide +kernel
theorem dX10_mostAlike_80 : decode cX10_mostAlike 80 = .ok (.iconst 0, 1) := by decide +kernel
theorem dX10_mostAlike_81 : decode cX10_mostAlike 81 = .ok (.iadd, 1) := by decide +kernel
theorem dX10_mostAlike_82 : decode cX10_mostAlike 82 = .ok (.istore 5, 2) := by decide +kernel
theorem dX10_mostAlike_84 : decode cX10_mostAlike 84 = .ok (.iinc 6 1, 3) := by decide +kernel
theorem dX10_mostAlike_87 : decode cX10_mostAlike 87 = .ok (.goto (-69), 3) := by decide +kernel
theorem dX10_mostAlike_90 : decode cX10_mostAlike 90 = .ok (.iload_n 2, 1) := by decide +kernel
theorem dX10_mostAlike_91 : decode cX10_mostAlike 91 = .ok (.iload 4, 2) := by decide +kernel
theorem dX10_mostAlike_93 : decode cX10_mostAlike 93 = .ok (.ishr, 1) := by decide +kernel
theorem dX10_mostAlike_94 : decode cX10_mostAlike 94 = .ok (.iconst 1, 1) := by decide +kernel
theorem dX10_mostAlike_95 : decode cX10_mostAlike 95 = .ok (.iand, 1) := by decide +kernel
theorem dX10_mostAlike_96 : decode cX10_mostAlike 96 = .ok (.iconst 1, 1) := by decide +kernel
theorem dX10_mostAlike_97 : decode cX10_mostAlike 97 = .ok (.if_icmp .ne 12, 3) := by decide +kernel
theorem dX10_mostAlike_100 : decode cX10_mostAlike 100 = .ok (.iload_n 3, 1) := by decide +kernel
theorem dX10_mostAlike_101 : decode cX10_mostAlike 101 = .ok (.iload 5, 2) := by decide +kernel
theorem dX10_mostAlike_103 : decode cX10_mostAlike 103 = .ok (.invokestatic 316, 3) := by decide +kernel
theorem dX10_mostAlike_106 : decode cX10_mostAlike 106 = .ok (.goto 4, 3) := by decide +kernel
theorem dX10_mostAlike_109 : decode cX10_mostAlike 109 = .ok (.iload_n 3, 1) := by decide +kernel
theorem dX10_mostAlike_110 : decode cX10_mostAlike 110 = .ok (.istore_n 3, 1) := by decide +kernel
theorem dX10_mostAlike_111 : decode cX10_mostAlike 111 = .ok (.iinc 4 1, 3) := by decide +kernel
theorem dX10_mostAlike_114 : decode cX10_mostAlike 114 = .ok (.goto (-109), 3) := by decide +kernel
theorem dX10_mostAlike_117 : decode cX10_mostAlike 117 = .ok (.iload_n 3, 1) := by decide +kernel
theorem dX10_mostAlike_118 : decode cX10_mostAlike 118 = .ok (.ireturn, 1) := by decide +kernel
theorem dX10_seed_0 : decode cX10_seed 0 = .ok (.iload_n 1, 1) := by decide +kernel
theorem dX10_seed_1 : decode cX10_seed 1 = .ok (.ifCond .ge 5, 3) := by decide +kernel
theorem dX10_seed_4 : decode cX10_seed 4 = .ok (.iconst (-1), 1) := by decide +kernel
theorem dX10_seed_5 : decode cX10_seed 5 = .ok (.ireturn, 1) := by decide +kernel
theorem dX10_seed_6 : decode cX10_seed 6 = .ok (.aload_n 0, 1) := by decide +kernel
theorem dX10_seed_7 : decode cX10_seed 7 = .ok (.getfield 106, 3) := by decide +kernel
theorem dX10_seed_10 : decode cX10_seed 10 = .ok (.istore_n 2, 1) := by decide +kernel
theorem dX10_seed_11 : decode cX10_seed 11 = .ok (.aload_n 0, 1) := by decide +kernel
theorem dX10_seed_12 : decode cX10_seed 12 = .ok (.iload_n 1, 1) := by decide +kernel
theorem dX10_seed_13 : decode cX10_seed 13 = .ok (.putfield 106, 3) := by decide +kernel
theorem dX10_seed_16 : decode cX10_seed 16 = .ok (.iload_n 2, 1) := by decide +kernel
theorem dX10_seed_17 : decode cX10_seed 17 = .ok (.ireturn, 1) := by decide +kernel
theorem dX10_mornings_0 : decode cX10_mornings 0 = .ok (.iload_n 1, 1) := by decide +kernel
theorem dX10_mornings_1 : decode cX10_mornings 1 = .ok (.iconst 1, 1) := by decide +kernel
theorem dX10_mornings_2 : decode cX10_mornings 2 = .ok (.bipush 10, 2) := by decide +kernel
theorem dX10_mornings_4 : decode cX10_mornings 4 = .ok (.invokestatic 143, 3) := by decide +kernel
theorem dX10_mornings_7 : decode cX10_mornings 7 = .ok (.ifCond .eq 37, 3) := by decide +kernel
theorem dX10_mornings_10 : decode cX10_mornings 10 = .ok (.iload_n 2, 1) := by decide +kernel
theorem dX10_mornings_11 : decode cX10_mornings 11 = .ok (.iconst 1, 1) := by decide +kernel
theorem dX10_mornings_12 : decode cX10_mornings 12 = .ok (.bipush 60, 2) := by decide +kernel
theorem dX10_mornings_14 : decode cX10_mornings 14 = .ok (.invokestatic 143, 3) := by decide +kernel
theorem dX10_mornings_17 : decode cX10_mornings 17 = .ok (.ifCond .eq 27, 3) := by decide +kernel
theorem dX10_mornings_20 : decode cX10_mornings 20 = .ok (.iload_n 3, 1) := by decide +kernel
theorem dX10_mornings_21 : decode cX10_mornings 21 = .ok (.iconst 0, 1) := by decide +kernel
theorem dX10_mornings_22 : decode cX10_mornings 22 = .ok (.bipush 100, 2) := by decide +kernel
theorem dX10_mornings_24 : decode cX10_mornings 24 = .ok (.invokestatic 143, 3) := by decide +kernel
theorem dX10_mornings_27 : decode cX10_mornings 27 = .ok (.ifCond .eq 17, 3) := by decide +kernel
theorem dX10_mornings_30 : decode cX10_mornings 30 = .ok (.iload 4, 2) := by decide +kernel
theorem dX10_mornings_32 : decode cX10_mornings 32 = .ok (.iconst 0, 1) := by decide +kernel
theorem dX10_mornings_33 : decode cX10_mornings 33 = .ok (.iconst 1, 1) := by decide +kernel
theorem dX10_mornings_34 : decode cX10_mornings 34 = .ok (.invokestatic 143, 3) := by decide +kernel
theorem dX10_mornings_37 : decode cX10_mornings 37 = .ok (.ifCond .eq 7, 3) := by decide +kernel
theorem dX10_mornings_40 : decode cX10_mornings 40 = .ok (.iconst 1, 1) := by decide +kernel
theorem dX10_mornings_41 : decode cX10_mornings 41 = .ok (.goto 4, 3) := by decide +kernel
theorem dX10_mornings_44 : decode cX10_mornings 44 = .ok (.iconst 0, 1) := by decide +kernel
theorem dX10_mornings_45 : decode cX10_mornings 45 = .ok (.istore 5, 2) := by decide +kernel
theorem dX10_mornings_47 : decode cX10_mornings 47 = .ok (.aload_n 0, 1) := by decide +kernel
theorem dX10_mornings_48 : decode cX10_mornings 48 = .ok (.getfield 19, 3) := by decide +kernel
theorem dX10_mornings_51 : decode cX10_mornings 51 = .ok (.invokevirtual 198, 3) := by decide +kernel
theorem dX10_mornings_54 : decode cX10_mornings 54 = .ok (.ifCond .eq 8, 3) := by decide +kernel
theorem dX10_mornings_57 : decode cX10_mornings 57 = .ok (.iload 5, 2) := by decide +kernel
theorem dX10_mornings_59 : decode cX10_mornings 59 = .ok (.ifCond .ne 7, 3) := by decide +kernel
theorem dX10_mornings_62 : decode cX10_mornings 62 = .ok (.ldc_w 321, 3) := by decide +kernel
theorem dX10_mornings_65 : decode cX10_mornings 65 = .ok (.ireturn, 1) := by decide +kernel
theorem dX10_mornings_66 : decode cX10_mornings 66 = .ok (.aload_n 0, 1) := by decide +kernel
theorem dX10_mornings_67 : decode cX10_mornings 67 = .ok (.getfield 106, 3) := by decide +kernel
theorem dX10_mornings_70 : decode cX10_mornings 70 = .ok (.istore 6, 2) := by decide +kernel
theorem dX10_mornings_72 : decode cX10_mornings 72 = .ok (.iconst 0, 1) := by decide +kernel
theorem dX10_mornings_73 : decode cX10_mornings 73 = .ok (.istore 7, 2) := by decide +kernel
theorem dX10_mornings_75 : decode cX10_mornings 75 = .ok (.iconst 0, 1) := by decide +kernel
theorem dX10_mornings_76 : decode cX10_mornings 76 = .ok (.istore 8, 2) := by decide +kernel
theorem dX10_mornings_78 : decode cX10_mornings 78 = .ok (.iconst 0, 1) := by decide +kernel
theorem dX10_mornings_79 : decode cX10_mornings 79 = .ok (.istore 9, 2) := by decide +kernel
theorem dX10_mornings_81 : decode cX10_mornings 81 = .ok (.iload 9, 2) := by decide +kernel
theorem dX10_mornings_83 : decode cX10_mornings 83 = .ok (.iload_n 1, 1) := by decide +kernel
theorem dX10_mornings_84 : decode cX10_mornings 84 = .ok (.if_icmp .ge 110, 3) := by decide +kernel
theorem dX10_mornings_87 : decode cX10_mornings 87 = .ok (.aload_n 0, 1) := by decide +kernel
theorem dX10_mornings_88 : decode cX10_mornings 88 = .ok (.getfield 26, 3) := by decide +kernel
theorem dX10_mornings_91 : decode cX10_mornings 91 = .ok (.aload_n 0, 1) := by decide +kernel
theorem dX10_mornings_92 : decode cX10_mornings 92 = .ok (.getfield 19, 3) := by decide +kernel
theorem dX10_mornings_95 : decode cX10_mornings 95 = .ok (.invokevirtual 124, 3) := by decide +kernel
theorem dX10_mornings_98 : decode cX10_mornings 98 = .ok (.iconst 0, 1) := by decide +kernel
theorem dX10_mornings_99 : decode cX10_mornings 99 = .ok (.istore 10, 2) := by decide +kernel
theorem dX10_mornings_101 : decode cX10_mornings 101 = .ok (.iload 10, 2) := by decide +kernel
theorem dX10_mornings_103 : decode cX10_mornings 103 = .ok (.iload_n 2, 1) := by decide +kernel
theorem dX10_mornings_104 : decode cX10_mornings 104 = .ok (.if_icmp .ge 30, 3) := by decide +kernel
theorem dX10_mornings_107 : decode cX10_mornings 107 = .ok (.aload_n 0, 1) := by decide +kernel
theorem dX10_mornings_108 : decode cX10_mornings 108 = .ok (.iload_n 3, 1) := by decide +kernel
theorem dX10_mornings_109 : decode cX10_mornings 109 = .ok (.invokevirtual 322, 3) := by decide +kernel
theorem dX10_mornings_112 : decode cX10_mornings 112 = .ok (.aload_n 0, 1) := by decide +kernel
theorem dX10_mornings_113 : decode cX10_mornings 113 = .ok (.getfield 26, 3) := by decide +kernel
theorem dX10_mornings_116 : decode cX10_mornings 116 = .ok (.aload_n 0, 1) := by decide +kernel
theorem dX10_mornings_117 : decode cX10_mornings 117 = .ok (.aload_n 0, 1) := by decide +kernel
theorem dX10_mornings_118 : decode cX10_mornings 118 = .ok (.getfield 103, 3) := by decide +kernel
theorem dX10_mornings_121 : decode cX10_mornings 121 = .ok (.invokevirtual 205, 3) := by decide +kernel
theorem dX10_mornings_124 : decode cX10_mornings 124 = .ok (.invokevirtual 209, 3) := by decide +kernel
theorem dX10_mornings_127 : decode cX10_mornings 127 = .ok (.pop, 1) := by decide +kernel
theorem dX10_mornings_128 : decode cX10_mornings 128 = .ok (.iinc 10 1, 3) := by decide +kernel
theorem dX10_mornings_131 : decode cX10_mornings 131 = .ok (.goto (-30), 3) := by decide +kernel
theorem dX10_mornings_134 : decode cX10_mornings 134 = .ok (.iload 7, 2) := by decide +kernel
theorem dX10_mornings_136 : decode cX10_mornings 136 = .ok (.aload_n 0, 1) := by decide +kernel
theorem dX10_mornings_137 : decode cX10_mornings 137 = .ok (.getfield 26, 3) := by decide +kernel
theorem dX10_mornings_140 : decode cX10_mornings 140 = .ok (.aload_n 0, 1) := by decide +kernel
theorem dX10_mornings_141 : decode cX10_mornings 141 = .ok (.getfield 26, 3) := by decide +kernel
theorem dX10_mornings_144 : decode cX10_mornings 144 = .ok (.getfield 163, 3) := by decide +kernel
theorem dX10_mornings_147 : decode cX10_mornings 147 = .ok (.invokevirtual 191, 3) := by decide +kernel
theorem dX10_mornings_150 : decode cX10_mornings 150 = .ok (.aload_n 0, 1) := by decide +kernel
theorem dX10_mornings_151 : decode cX10_mornings 151 = .ok (.getfield 19, 3) := by decide +kernel
theorem dX10_mornings_154 : decode cX10_mornings 154 = .ok (.aload_n 0, 1) := by decide +kernel
theorem dX10_mornings_155 : decode cX10_mornings 155 = .ok (.getfield 19, 3) := by decide +kernel
theorem dX10_mornings_158 : decode cX10_mornings 158 = .ok (.getfield 163, 3) := by decide +kernel
theorem dX10_mornings_161 : decode cX10_mornings 161 = .ok (.invokevirtual 191, 3) := by decide +kernel
theorem dX10_mornings_164 : decode cX10_mornings 164 = .ok (.isub, 1) := by decide +kernel
theorem dX10_mornings_165 : decode cX10_mornings 165 = .ok (.iadd, 1) := by decide +kernel
theorem dX10_mornings_166 : decode cX10_mornings 166 = .ok (.istore 7, 2) := by decide +kernel
theorem dX10_mornings_168 : decode cX10_mornings 168 = .ok (.iload 8, 2) := by decide +kernel
theorem dX10_mornings_170 : decode cX10_mornings 170 = .ok (.aload_n 0, 1) := by decide +kernel
theorem dX10_mornings_171 : decode cX10_mornings 171 = .ok (.getfield 26, 3) := by decide +kernel
theorem dX10_mornings_174 : decode cX10_mornings 174 = .ok (.getfield 195, 3) := by decide +kernel
theorem dX10_mornings_177 : decode cX10_mornings 177 = .ok (.aload_n 0, 1) := by decide +kernel
theorem dX10_mornings_178 : decode cX10_mornings 178 = .ok (.getfield 19, 3) := by decide +kernel
theorem dX10_mornings_181 : decode cX10_mornings 181 = .ok (.getfield 195, 3) := by decide +kernel
theorem dX10_mornings_184 : decode cX10_mornings 184 = .ok (.isub, 1) := by decide +kernel
theorem dX10_mornings_185 : decode cX10_mornings 185 = .ok (.iadd, 1) := by decide +kernel
theorem dX10_mornings_186 : decode cX10_mornings 186 = .ok (.istore 8, 2) := by decide +kernel
theorem dX10_mornings_188 : decode cX10_mornings 188 = .ok (.iinc 9 1, 3) := by decide +kernel
theorem dX10_mornings_191 : decode cX10_mornings 191 = .ok (.goto (-110), 3) := by decide +kernel
theorem dX10_mornings_194 : decode cX10_mornings 194 = .ok (.aload_n 0, 1) := by decide +kernel
theorem dX10_mornings_195 : decode cX10_mornings 195 = .ok (.iload 6, 2) := by decide +kernel
theorem dX10_mornings_197 : decode cX10_mornings 197 = .ok (.putfield 106, 3) := by decide +kernel
theorem dX10_mornings_200 : decode cX10_mornings 200 = .ok (.iload 4, 2) := by decide +kernel
theorem dX10_mornings_202 : decode cX10_mornings 202 = .ok (.ifCond .ne 8, 3) := by decide +kernel
theorem dX10_mornings_205 : decode cX10_mornings 205 = .ok (.iload 7, 2) := by decide +kernel
theorem dX10_mornings_207 : decode cX10_mornings 207 = .ok (.goto 5, 3) := by decide +kernel
theorem dX10_mornings_210 : decode cX10_mornings 210 = .ok (.iload 8, 2) := by decide +kernel
theorem dX10_mornings_212 : decode cX10_mornings 212 = .ok (.ireturn, 1) := by decide +kernel
theorem dX10_drawCarts_0 : decode cX10_drawCarts 0 = .ok (.aload_n 0, 1) := by decide +kernel
theorem dX10_drawCarts_1 : decode cX10_drawCarts 1 = .ok (.invokevirtual 325, 3) := by decide +kernel
theorem dX10_drawCarts_4 : decode cX10_drawCarts 4 = .ok (.bipush 100, 2) := by decide +kernel
theorem dX10_drawCarts_6 : decode cX10_drawCarts 6 = .ok (.irem, 1) := by decide +kernel
theorem dX10_drawCarts_7 : decode cX10_drawCarts 7 = .ok (.iload_n 1, 1) := by decide +kernel
theorem dX10_drawCarts_8 : decode cX10_drawCarts 8 = .ok (.if_icmp .ge 33, 3) := by decide +kernel
theorem dX10_drawCarts_11 : decode cX10_drawCarts 11 = .ok (.aload_n 0, 1) := by decide +kernel
theorem dX10_drawCarts_12 : decode cX10_drawCarts 12 = .ok (.getfield 26, 3) := by decide +kernel
theorem dX10_drawCarts_15 : decode cX10_drawCarts 15 = .ok (.getfield 132, 3) := by decide +kernel
theorem dX10_drawCarts_18 : decode cX10_drawCarts 18 = .ok (.ifCond .le 23, 3) := by decide +kernel
theorem dX10_drawCarts_21 : decode cX10_drawCarts 21 = .ok (.aload_n 0, 1) := by decide +kernel
theorem dX10_drawCarts_22 : decode cX10_drawCarts 22 = .ok (.getfield 26, 3) := by decide +kernel
theorem dX10_drawCarts_25 : decode cX10_drawCarts 25 = .ok (.aload_n 0, 1) := by decide +kernel
theorem dX10_drawCarts_26 : decode cX10_drawCarts 26 = .ok (.invokevirtual 325, 3) := by decide +kernel
theorem dX10_drawCarts_29 : decode cX10_drawCarts 29 = .ok (.aload_n 0, 1) := by decide +kernel
theorem dX10_drawCarts_30 : decode cX10_drawCarts 30 = .ok (.getfield 26, 3) := by decide +kernel
theorem dX10_drawCarts_33 : decode cX10_drawCarts 33 = .ok (.getfield 132, 3) := by decide +kernel
theorem dX10_drawCarts_36 : decode cX10_drawCarts 36 = .ok (.irem, 1) := by decide +kernel
theorem dX10_drawCarts_37 : decode cX10_drawCarts 37 = .ok (.iconst 3, 1) := by decide +kernel
theorem dX10_drawCarts_38 : decode cX10_drawCarts 38 = .ok (.invokevirtual 213, 3) := by decide +kernel
theorem dX10_drawCarts_41 : decode cX10_drawCarts 41 = .ok (.return_, 1) := by decide +kernel
theorem dX10_nextDraw_0 : decode cX10_nextDraw 0 = .ok (.aload_n 0, 1) := by decide +kernel
theorem dX10_nextDraw_1 : decode cX10_nextDraw 1 = .ok (.aload_n 0, 1) := by decide +kernel
theorem dX10_nextDraw_2 : decode cX10_nextDraw 2 = .ok (.getfield 106, 3) := by decide +kernel
theorem dX10_nextDraw_5 : decode cX10_nextDraw 5 = .ok (.i2l, 1) := by decide +kernel
theorem dX10_nextDraw_6 : decode cX10_nextDraw 6 = .ok (.ldc2_w 328, 3) := by decide +kernel
theorem dX10_nextDraw_9 : decode cX10_nextDraw 9 = .ok (.lmul, 1) := by decide +kernel
theorem dX10_nextDraw_10 : decode cX10_nextDraw 10 = .ok (.ldc2_w 330, 3) := by decide +kernel
theorem dX10_nextDraw_13 : decode cX10_nextDraw 13 = .ok (.ladd, 1) := by decide +kernel
theorem dX10_nextDraw_14 : decode cX10_nextDraw 14 = .ok (.ldc2_w 332, 3) := by decide +kernel
theorem dX10_nextDraw_17 : decode cX10_nextDraw 17 = .ok (.lrem, 1) := by decide +kernel
theorem dX10_nextDraw_18 : decode cX10_nextDraw 18 = .ok (.l2i, 1) := by decide +kernel
theorem dX10_nextDraw_19 : decode cX10_nextDraw 19 = .ok (.putfield 106, 3) := by decide +kernel
theorem dX10_nextDraw_22 : decode cX10_nextDraw 22 = .ok (.aload_n 0, 1) := by decide +kernel
theorem dX10_nextDraw_23 : decode cX10_nextDraw 23 = .ok (.getfield 106, 3) := by decide +kernel
theorem dX10_nextDraw_26 : decode cX10_nextDraw 26 = .ok (.ldc_w 334, 3) := by decide +kernel
theorem dX10_nextDraw_29 : decode cX10_nextDraw 29 = .ok (.idiv, 1) := by decide +kernel
theorem dX10_nextDraw_30 : decode cX10_nextDraw 30 = .ok (.ireturn, 1) := by decide +kernel
theorem dX10_image_0 : decode cX10_image 0 = .ok (.iload_n 1, 1) := by decide +kernel
theorem dX10_image_1 : decode cX10_image 1 = .ok (.iconst 0, 1) := by decide +kernel
theorem dX10_image_2 : decode cX10_image 2 = .ok (.iconst 3, 1) := by decide +kernel
theorem dX10_image_3 : decode cX10_image 3 = .ok (.invokestatic 143, 3) := by decide +kernel
theorem dX10_image_6 : decode cX10_image 6 = .ok (.ifCond .ne 5, 3) := by decide +kernel
theorem dX10_image_9 : decode cX10_image 9 = .ok (.iconst (-1), 1) := by decide +kernel
theorem dX10_image_10 : decode cX10_image 10 = .ok (.ireturn, 1) := by decide +kernel
theorem dX10_image_11 : decode cX10_image 11 = .ok (.aload_n 0, 1) := by decide +kernel
theorem dX10_image_12 : decode cX10_image 12 = .ok (.getfield 69, 3) := by decide +kernel
theorem dX10_image_15 : decode cX10_image 15 = .ok (.iload_n 1, 1) := by decide +kernel
theorem dX10_image_16 : decode cX10_image 16 = .ok (.aaload, 1) := by decide +kernel
theorem dX10_image_17 : decode cX10_image 17 = .ok (.astore_n 2, 1) := by decide +kernel
theorem dX10_image_18 : decode cX10_image 18 = .ok (.aload_n 2, 1) := by decide +kernel
theorem dX10_image_19 : decode cX10_image 19 = .ok (.iconst 1, 1) := by decide +kernel
theorem dX10_image_20 : decode cX10_image 20 = .ok (.putfield 335, 3) := by decide +kernel
theorem dX10_image_23 : decode cX10_image 23 = .ok (.aload_n 2, 1) := by decide +kernel
theorem dX10_image_24 : decode cX10_image 24 = .ok (.getfield 338, 3) := by decide +kernel
theorem dX10_image_27 : decode cX10_image 27 = .ok (.aload_n 0, 1) := by decide +kernel
theorem dX10_image_28 : decode cX10_image 28 = .ok (.getfield 19, 3) := by decide +kernel
theorem dX10_image_31 : decode cX10_image 31 = .ok (.invokevirtual 124, 3) := by decide +kernel
theorem dX10_image_34 : decode cX10_image 34 = .ok (.aload_n 2, 1) := by decide +kernel
theorem dX10_image_35 : decode cX10_image 35 = .ok (.getfield 339, 3) := by decide +kernel
theorem dX10_image_38 : decode cX10_image 38 = .ok (.aload_n 0, 1) := by decide +kernel
theorem dX10_image_39 : decode cX10_image 39 = .ok (.getfield 23, 3) := by decide +kernel
theorem dX10_image_42 : decode cX10_image 42 = .ok (.invokevirtual 124, 3) := by decide +kernel
theorem dX10_image_45 : decode cX10_image 45 = .ok (.aload_n 2, 1) := by decide +kernel
theorem dX10_image_46 : decode cX10_image 46 = .ok (.getfield 340, 3) := by decide +kernel
theorem dX10_image_49 : decode cX10_image 49 = .ok (.aload_n 0, 1) := by decide +kernel
theorem dX10_image_50 : decode cX10_image 50 = .ok (.getfield 63, 3) := by decide +kernel
theorem dX10_image_53 : decode cX10_image 53 = .ok (.invokevirtual 341, 3) := by decide +kernel
theorem dX10_image_56 : decode cX10_image 56 = .ok (.aload_n 2, 1) := by decide +kernel
theorem dX10_image_57 : decode cX10_image 57 = .ok (.aload_n 0, 1) := by decide +kernel
theorem dX10_image_58 : decode cX10_image 58 = .ok (.getfield 103, 3) := by decide +kernel
theorem dX10_image_61 : decode cX10_image 61 = .ok (.putfield 344, 3) := by decide +kernel
theorem dX10_image_64 : decode cX10_image 64 = .ok (.aload_n 2, 1) := by decide +kernel
theorem dX10_image_65 : decode cX10_image 65 = .ok (.aload_n 0, 1) := by decide +kernel
theorem dX10_image_66 : decode cX10_image 66 = .ok (.getfield 106, 3) := by decide +kernel
theorem dX10_image_69 : decode cX10_image 69 = .ok (.putfield 345, 3) := by decide +kernel
theorem dX10_image_72 : decode cX10_image 72 = .ok (.aload_n 0, 1) := by decide +kernel
theorem dX10_image_73 : decode cX10_image 73 = .ok (.getfield 19, 3) := by decide +kernel
theorem dX10_image_76 : decode cX10_image 76 = .ok (.getfield 185, 3) := by decide +kernel
theorem dX10_image_79 : decode cX10_image 79 = .ok (.ireturn, 1) := by decide +kernel
theorem dX10_back_0 : decode cX10_back 0 = .ok (.iload_n 1, 1) := by decide +kernel
theorem dX10_back_1 : decode cX10_back 1 = .ok (.iconst 0, 1) := by decide +kernel
theorem dX10_back_2 : decode cX10_back 2 = .ok (.iconst 3, 1) := by decide +kernel
theorem dX10_back_3 : decode cX10_back 3 = .ok (.invokestatic 143, 3) := by decide +kernel
theorem dX10_back_6 : decode cX10_back 6 = .ok (.ifCond .eq 15, 3) := by decide +kernel
theorem dX10_back_9 : decode cX10_back 9 = .ok (.aload_n 0, 1) := by decide +kernel
theorem dX10_back_10 : decode cX10_back 10 = .ok (.getfield 69, 3) := by decide +kernel
theorem dX10_back_13 : decode cX10_back 13 = .ok (.iload_n 1, 1) := by decide +kernel
theorem dX10_back_14 : decode cX10_back 14 = .ok (.aaload, 1) := by decide +kernel
theorem dX10_back_15 : decode cX10_back 15 = .ok (.getfield 335, 3) := by decide +kernel
theorem dX10_back_18 : decode cX10_back 18 = .ok (.ifCond .ne 5, 3) := by decide +kernel
theorem dX10_back_21 : decode cX10_back 21 = .ok (.iconst (-1), 1) := by decide +kernel
theorem dX10_back_22 : decode cX10_back 22 = .ok (.ireturn, 1) := by decide +kernel
theorem dX10_back_23 : decode cX10_back 23 = .ok (.aload_n 0, 1) := by decide +kernel
theorem dX10_back_24 : decode cX10_back 24 = .ok (.getfield 69, 3) := by decide +kernel
theorem dX10_back_27 : decode cX10_back 27 = .ok (.iload_n 1, 1) := by decide +kernel
theorem dX10_back_28 : decode cX10_back 28 = .ok (.aaload, 1) := by decide +kernel
theorem dX10_back_29 : decode cX10_back 29 = .ok (.astore_n 2, 1) := by decide +kernel
theorem dX10_back_30 : decode cX10_back 30 = .ok (.aload_n 0, 1) := by decide +kernel
theorem dX10_back_31 : decode cX10_back 31 = .ok (.getfield 19, 3) := by decide +kernel
theorem dX10_back_34 : decode cX10_back 34 = .ok (.aload_n 2, 1) := by decide +kernel
theorem dX10_back_35 : decode cX10_back 35 = .ok (.getfield 338, 3) := by decide +kernel
theorem dX10_back_38 : decode cX10_back 38 = .ok (.invokevirtual 124, 3) := by decide +kernel
theorem dX10_back_41 : decode cX10_back 41 = .ok (.aload_n 0, 1) := by decide +kernel
theorem dX10_back_42 : decode cX10_back 42 = .ok (.getfield 23, 3) := by decide +kernel
theorem dX10_back_45 : decode cX10_back 45 = .ok (.aload_n 2, 1) := by decide +kernel
theorem dX10_back_46 : decode cX10_back 46 = .ok (.getfield 339, 3) := by decide +kernel
theorem dX10_back_49 : decode cX10_back 49 = .ok (.invokevirtual 124, 3) := by decide +kernel
theorem dX10_back_52 : decode cX10_back 52 = .ok (.aload_n 0, 1) := by decide +kernel
theorem dX10_back_53 : decode cX10_back 53 = .ok (.getfield 63, 3) := by decide +kernel
theorem dX10_back_56 : decode cX10_back 56 = .ok (.aload_n 2, 1) := by decide +kernel
theorem dX10_back_57 : decode cX10_back 57 = .ok (.getfield 340, 3) := by decide +kernel
theorem dX10_back_60 : decode cX10_back 60 = .ok (.invokevirtual 341, 3) := by decide +kernel
theorem dX10_back_63 : decode cX10_back 63 = .ok (.aload_n 0, 1) := by decide +kernel
theorem dX10_back_64 : decode cX10_back 64 = .ok (.aload_n 2, 1) := by decide +kernel
theorem dX10_back_65 : decode cX10_back 65 = .ok (.getfield 344, 3) := by decide +kernel
theorem dX10_back_68 : decode cX10_back 68 = .ok (.putfield 103, 3) := by decide +kernel
theorem dX10_back_71 : decode cX10_back 71 = .ok (.aload_n 0, 1) := by decide +kernel
theorem dX10_back_72 : decode cX10_back 72 = .ok (.aload_n 2, 1) := by decide +kernel
theorem dX10_back_73 : decode cX10_back 73 = .ok (.getfield 345, 3) := by decide +kernel
theorem dX10_back_76 : decode cX10_back 76 = .ok (.putfield 106, 3) := by decide +kernel
theorem dX10_back_79 : decode cX10_back 79 = .ok (.aload_n 0, 1) := by decide +kernel
theorem dX10_back_80 : decode cX10_back 80 = .ok (.getfield 56, 3) := by decide +kernel
theorem dX10_back_83 : decode cX10_back 83 = .ok (.iconst 0, 1) := by decide +kernel
theorem dX10_back_84 : decode cX10_back 84 = .ok (.putfield 131, 3) := by decide +kernel
theorem dX10_back_87 : decode cX10_back 87 = .ok (.aload_n 0, 1) := by decide +kernel
theorem dX10_back_88 : decode cX10_back 88 = .ok (.getfield 19, 3) := by decide +kernel
theorem dX10_back_91 : decode cX10_back 91 = .ok (.getfield 185, 3) := by decide +kernel
theorem dX10_back_94 : decode cX10_back 94 = .ok (.ireturn, 1) := by decide +kernel
theorem dX10_within_0 : decode cX10_within 0 = .ok (.iload_n 0, 1) := by decide +kernel
theorem dX10_within_1 : decode cX10_within 1 = .ok (.iload_n 1, 1) := by decide +kernel
theorem dX10_within_2 : decode cX10_within 2 = .ok (.if_icmp .lt 12, 3) := by decide +kernel
theorem dX10_within_5 : decode cX10_within 5 = .ok (.iload_n 0, 1) := by decide +kernel
theorem dX10_within_6 : decode cX10_within 6 = .ok (.iload_n 2, 1) := by decide +kernel
theorem dX10_within_7 : decode cX10_within 7 = .ok (.if_icmp .gt 7, 3) := by decide +kernel
theorem dX10_within_10 : decode cX10_within 10 = .ok (.iconst 1, 1) := by decide +kernel
theorem dX10_within_11 : decode cX10_within 11 = .ok (.goto 4, 3) := by decide +kernel
theorem dX10_within_14 : decode cX10_within 14 = .ok (.iconst 0, 1) := by decide +kernel
theorem dX10_within_15 : decode cX10_within 15 = .ok (.ireturn, 1) := by decide +kernel
theorem dX10_ruleOf_0 : decode cX10_ruleOf 0 = .ok (.iload_n 1, 1) := by decide +kernel
theorem dX10_ruleOf_1 : decode cX10_ruleOf 1 = .ok (.ifCond .lt 20, 3) := by decide +kernel
theorem dX10_ruleOf_4 : decode cX10_ruleOf 4 = .ok (.iload_n 1, 1) := by decide +kernel
theorem dX10_ruleOf_5 : decode cX10_ruleOf 5 = .ok (.aload_n 0, 1) := by decide +kernel
theorem dX10_ruleOf_6 : decode cX10_ruleOf 6 = .ok (.getfield 99, 3) := by decide +kernel
theorem dX10_ruleOf_9 : decode cX10_ruleOf 9 = .ok (.if_icmp .ge 12, 3) := by decide +kernel
theorem dX10_ruleOf_12 : decode cX10_ruleOf 12 = .ok (.aload_n 0, 1) := by decide +kernel
theorem dX10_ruleOf_13 : decode cX10_ruleOf 13 = .ok (.getfield 49, 3) := by decide +kernel
theorem dX10_ruleOf_16 : decode cX10_ruleOf 16 = .ok (.iload_n 1, 1) := by decide +kernel
theorem dX10_ruleOf_17 : decode cX10_ruleOf 17 = .ok (.aaload, 1) := by decide +kernel
theorem dX10_ruleOf_18 : decode cX10_ruleOf 18 = .ok (.goto 4, 3) := by decide +kernel
theorem dX10_ruleOf_21 : decode cX10_ruleOf 21 = .ok (.aconst_null, 1) := by decide +kernel
theorem dX10_ruleOf_22 : decode cX10_ruleOf 22 = .ok (.areturn, 1) := by decide +kernel
