theorem dX11_init_0 : decode cX11_init 0 = .ok (.aload_n 0, 1) := by decide +kernel
theorem dX11_init_1 : decode cX11_init 1 = .ok (.invokespecial 1, 3) := by decide +kernel
theorem dX11_init_4 : decode cX11_init 4 = .ok (.aload_n 0, 1) := by decide +kernel
theorem dX11_init_5 : decode cX11_init 5 = .ok (.sipush 400, 3) := by decide +kernel
theorem dX11_init_8 : decode cX11_init 8 = .ok (.newarray .byte, 2) := by decide +kernel
theorem dX11_init_10 : decode cX11_init 10 = .ok (.putfield 7, 3) := by decide +kernel
theorem dX11_init_13 : decode cX11_init 13 = .ok (.aload_n 0, 1) := by decide +kernel
theorem dX11_init_14 : decode cX11_init 14 = .ok (.sipush 2400, 3) := by decide +kernel
theorem dX11_init_17 : decode cX11_init 17 = .ok (.newarray .int, 2) := by decide +kernel
theorem dX11_init_19 : decode cX11_init 19 = .ok (.putfield 13, 3) := by decide +kernel
theorem dX11_init_22 : decode cX11_init 22 = .ok (.aload_n 0, 1) := by decide +kernel
theorem dX11_init_23 : decode cX11_init 23 = .ok (.bipush 7, 2) := by decide +kernel
theorem dX11_init_25 : decode cX11_init 25 = .ok (.newarray .int, 2) := by decide +kernel
theorem dX11_init_27 : decode cX11_init 27 = .ok (.putfield 17, 3) := by decide +kernel
theorem dX11_init_30 : decode cX11_init 30 = .ok (.aload_n 0, 1) := by decide +kernel
theorem dX11_init_31 : decode cX11_init 31 = .ok (.sipush 288, 3) := by decide +kernel
theorem dX11_init_34 : decode cX11_init 34 = .ok (.newarray .int, 2) := by decide +kernel
theorem dX11_init_36 : decode cX11_init 36 = .ok (.putfield 20, 3) := by decide +kernel
theorem dX11_init_39 : decode cX11_init 39 = .ok (.aload_n 0, 1) := by decide +kernel
theorem dX11_init_40 : decode cX11_init 40 = .ok (.bipush 6, 2) := by decide +kernel
theorem dX11_init_42 : decode cX11_init 42 = .ok (.newarray .int, 2) := by decide +kernel
theorem dX11_init_44 : decode cX11_init 44 = .ok (.putfield 23, 3) := by decide +kernel
theorem dX11_init_47 : decode cX11_init 47 = .ok (.aload_n 0, 1) := by decide +kernel
theorem dX11_init_48 : decode cX11_init 48 = .ok (.bipush 90, 2) := by decide +kernel
theorem dX11_init_50 : decode cX11_init 50 = .ok (.newarray .int, 2) := by decide +kernel
theorem dX11_init_52 : decode cX11_init 52 = .ok (.putfield 26, 3) := by decide +kernel
theorem dX11_init_55 : decode cX11_init 55 = .ok (.aload_n 0, 1) := by decide +kernel
theorem dX11_init_56 : decode cX11_init 56 = .ok (.sipush 400, 3) := by decide +kernel
theorem dX11_init_59 : decode cX11_init 59 = .ok (.newarray .int, 2) := by decide +kernel
theorem dX11_init_61 : decode cX11_init 61 = .ok (.putfield 29, 3) := by decide +kernel
theorem dX11_init_64 : decode cX11_init 64 = .ok (.aload_n 0, 1) := by decide +kernel
theorem dX11_init_65 : decode cX11_init 65 = .ok (.bipush 64, 2) := by decide +kernel
theorem dX11_init_67 : decode cX11_init 67 = .ok (.newarray .long, 2) := by decide +kernel
theorem dX11_init_69 : decode cX11_init 69 = .ok (.putfield 32, 3) := by decide +kernel
theorem dX11_init_72 : decode cX11_init 72 = .ok (.aload_n 0, 1) := by decide +kernel
theorem dX11_init_73 : decode cX11_init 73 = .ok (.bipush 12, 2) := by decide +kernel
theorem dX11_init_75 : decode cX11_init 75 = .ok (.newarray .long, 2) := by decide +kernel
theorem dX11_init_77 : decode cX11_init 77 = .ok (.putfield 36, 3) := by decide +kernel
theorem dX11_init_80 : decode cX11_init 80 = .ok (.aload_n 0, 1) := by decide +kernel
theorem dX11_init_81 : decode cX11_init 81 = .ok (.bipush 121, 2) := by decide +kernel
theorem dX11_init_83 : decode cX11_init 83 = .ok (.newarray .int, 2) := by decide +kernel
theorem dX11_init_85 : decode cX11_init 85 = .ok (.putfield 39, 3) := by decide +kernel
theorem dX11_init_88 : decode cX11_init 88 = .ok (.aload_n 0, 1) := by decide +kernel
theorem dX11_init_89 : decode cX11_init 89 = .ok (.iconst (-1), 1) := by decide +kernel
theorem dX11_init_90 : decode cX11_init 90 = .ok (.putfield 42, 3) := by decide +kernel
theorem dX11_init_93 : decode cX11_init 93 = .ok (.aload_n 0, 1) := by decide +kernel
theorem dX11_init_94 : decode cX11_init 94 = .ok (.iconst (-1), 1) := by decide +kernel
theorem dX11_init_95 : decode cX11_init 95 = .ok (.putfield 46, 3) := by decide +kernel
theorem dX11_init_98 : decode cX11_init 98 = .ok (.aload_n 0, 1) := by decide +kernel
theorem dX11_init_99 : decode cX11_init 99 = .ok (.iconst (-1), 1) := by decide +kernel
theorem dX11_init_100 : decode cX11_init 100 = .ok (.putfield 49, 3) := by decide +kernel
theorem dX11_init_103 : decode cX11_init 103 = .ok (.aload_n 0, 1) := by decide +kernel
theorem dX11_init_104 : decode cX11_init 104 = .ok (.bipush 6, 2) := by decide +kernel
theorem dX11_init_106 : decode cX11_init 106 = .ok (.newarray .int, 2) := by decide +kernel
theorem dX11_init_108 : decode cX11_init 108 = .ok (.putfield 52, 3) := by decide +kernel
theorem dX11_init_111 : decode cX11_init 111 = .ok (.aload_n 0, 1) := by decide +kernel
theorem dX11_init_112 : decode cX11_init 112 = .ok (.sipush 880, 3) := by decide +kernel
theorem dX11_init_115 : decode cX11_init 115 = .ok (.newarray .int, 2) := by decide +kernel
theorem dX11_init_117 : decode cX11_init 117 = .ok (.putfield 55, 3) := by decide +kernel
theorem dX11_init_120 : decode cX11_init 120 = .ok (.aload_n 0, 1) := by decide +kernel
theorem dX11_init_121 : decode cX11_init 121 = .ok (.bipush 44, 2) := by decide +kernel
theorem dX11_init_123 : decode cX11_init 123 = .ok (.newarray .int, 2) := by decide +kernel
theorem dX11_init_125 : decode cX11_init 125 = .ok (.putfield 58, 3) := by decide +kernel
theorem dX11_init_128 : decode cX11_init 128 = .ok (.aload_n 0, 1) := by decide +kernel
theorem dX11_init_129 : decode cX11_init 129 = .ok (.bipush 7, 2) := by decide +kernel
theorem dX11_init_131 : decode cX11_init 131 = .ok (.newarray .int, 2) := by decide +kernel
theorem dX11_init_133 : decode cX11_init 133 = .ok (.putfield 61, 3) := by decide +kernel
theorem dX11_init_136 : decode cX11_init 136 = .ok (.aload_n 0, 1) := by decide +kernel
theorem dX11_init_137 : decode cX11_init 137 = .ok (.iconst 3, 1) := by decide +kernel
theorem dX11_init_138 : decode cX11_init 138 = .ok (.newarray .int, 2) := by decide +kernel
theorem dX11_init_140 : decode cX11_init 140 = .ok (.putfield 64, 3) := by decide +kernel
theorem dX11_init_143 : decode cX11_init 143 = .ok (.aload_n 0, 1) := by decide +kernel
theorem dX11_init_144 : decode cX11_init 144 = .ok (.bipush 50, 2) := by decide +kernel
theorem dX11_init_146 : decode cX11_init 146 = .ok (.newarray .int, 2) := by decide +kernel
theorem dX11_init_148 : decode cX11_init 148 = .ok (.putfield 67, 3) := by decide +kernel
theorem dX11_init_151 : decode cX11_init 151 = .ok (.aload_n 0, 1) := by decide +kernel
theorem dX11_init_152 : decode cX11_init 152 = .ok (.sipush 366, 3) := by decide +kernel
theorem dX11_init_155 : decode cX11_init 155 = .ok (.newarray .int, 2) := by decide +kernel
theorem dX11_init_157 : decode cX11_init 157 = .ok (.putfield 70, 3) := by decide +kernel
theorem dX11_init_160 : decode cX11_init 160 = .ok (.aload_n 0, 1) := by decide +kernel
theorem dX11_init_161 : decode cX11_init 161 = .ok (.bipush 7, 2) := by decide +kernel
theorem dX11_init_163 : decode cX11_init 163 = .ok (.newarray .boolean, 2) := by decide +kernel
theorem dX11_init_165 : decode cX11_init 165 = .ok (.putfield 73, 3) := by decide +kernel
theorem dX11_init_168 : decode cX11_init 168 = .ok (.aload_n 0, 1) := by decide +kernel
theorem dX11_init_169 : decode cX11_init 169 = .ok (.bipush 42, 2) := by decide +kernel
theorem dX11_init_171 : decode cX11_init 171 = .ok (.newarray .int, 2) := by decide +kernel
theorem dX11_init_173 : decode cX11_init 173 = .ok (.putfield 77, 3) := by decide +kernel
theorem dX11_init_176 : decode cX11_init 176 = .ok (.aload_n 0, 1) := by decide +kernel
theorem dX11_init_177 : decode cX11_init 177 = .ok (.sipush 484, 3) := by decide +kernel
theorem dX11_init_180 : decode cX11_init 180 = .ok (.newarray .int, 2) := by decide +kernel
theorem dX11_init_182 : decode cX11_init 182 = .ok (.putfield 80, 3) := by decide +kernel
theorem dX11_init_185 : decode cX11_init 185 = .ok (.aload_n 0, 1) := by decide +kernel
theorem dX11_init_186 : decode cX11_init 186 = .ok (.iconst 4, 1) := by decide +kernel
theorem dX11_init_187 : decode cX11_init 187 = .ok (.newarray .int, 2) := by decide +kernel
theorem dX11_init_189 : decode cX11_init 189 = .ok (.putfield 83, 3) := by decide +kernel
theorem dX11_init_192 : decode cX11_init 192 = .ok (.aload_n 0, 1) := by decide +kernel
theorem dX11_init_193 : decode cX11_init 193 = .ok (.iconst 4, 1) := by decide +kernel
theorem dX11_init_194 : decode cX11_init 194 = .ok (.newarray .int, 2) := by decide +kernel
theorem dX11_init_196 : decode cX11_init 196 = .ok (.putfield 86, 3) := by decide +kernel
theorem dX11_init_199 : decode cX11_init 199 = .ok (.aload_n 0, 1) := by decide +kernel
theorem dX11_init_200 : decode cX11_init 200 = .ok (.iconst 4, 1) := by decide +kernel
theorem dX11_init_201 : decode cX11_init 201 = .ok (.newarray .boolean, 2) := by decide +kernel
theorem dX11_init_203 : decode cX11_init 203 = .ok (.putfield 89, 3) := by decide +kernel
theorem dX11_init_206 : decode cX11_init 206 = .ok (.return_, 1) := by decide +kernel
theorem dX11_in_0 : decode cX11_in 0 = .ok (.lload_n 0, 1) := by decide +kernel
theorem dX11_in_1 : decode cX11_in 1 = .ok (.lload_n 2, 1) := by decide +kernel
theorem dX11_in_2 : decode cX11_in 2 = .ok (.lcmp, 1) := by decide +kernel
theorem dX11_in_3 : decode cX11_in 3 = .ok (.ifCond .lt 14, 3) := by decide +kernel
theorem dX11_in_6 : decode cX11_in 6 = .ok (.lload_n 0, 1) := by decide +kernel
theorem dX11_in_7 : decode cX11_in 7 = .ok (.lload 4, 2) := by decide +kernel
theorem dX11_in_9 : decode cX11_in 9 = .ok (.lcmp, 1) := by decide +kernel
theorem dX11_in_10 : decode cX11_in 10 = .ok (.ifCond .gt 7, 3) := by decide +kernel
theorem dX11_in_13 : decode cX11_in 13 = .ok (.iconst 1, 1) := by decide +kernel
theorem dX11_in_14 : decode cX11_in 14 = .ok (.goto 4, 3) := by decide +kernel
theorem dX11_in_17 : decode cX11_in 17 = .ok (.iconst 0, 1) := by decide +kernel
theorem dX11_in_18 : decode cX11_in 18 = .ok (.ireturn, 1) := by decide +kernel
theorem dX11_isOf_0 : decode cX11_isOf 0 = .ok (.iload_n 0, 1) := by decide +kernel
theorem dX11_isOf_1 : decode cX11_isOf 1 = .ok (.iload_n 1, 1) := by decide +kernel
theorem dX11_isOf_2 : decode cX11_isOf 2 = .ok (.ishr, 1) := by decide +kernel
theorem dX11_isOf_3 : decode cX11_isOf 3 = .ok (.iconst 1, 1) := by decide +kernel
theorem dX11_isOf_4 : decode cX11_isOf 4 = .ok (.iand, 1) := by decide +kernel
theorem dX11_isOf_5 : decode cX11_isOf 5 = .ok (.iconst 1, 1) := by decide +kernel
theorem dX11_isOf_6 : decode cX11_isOf 6 = .ok (.if_icmp .ne 7, 3) := by decide +kernel
theorem dX11_isOf_9 : decode cX11_isOf 9 = .ok (.iconst 1, 1) := by decide +kernel
theorem dX11_isOf_10 : decode cX11_isOf 10 = .ok (.goto 4, 3) := by decide +kernel
theorem dX11_isOf_13 : decode cX11_isOf 13 = .ok (.iconst 0, 1) := by decide +kernel
theorem dX11_isOf_14 : decode cX11_isOf 14 = .ok (.ireturn, 1) := by decide +kernel
theorem dX11_bits_0 : decode cX11_bits 0 = .ok (.iconst 0, 1) := by decide +kernel
theorem dX11_bits_1 : decode cX11_bits 1 = .ok (.istore_n 1, 1) := by decide +kernel
theorem dX11_bits_2 : decode cX11_bits 2 = .ok (.iload_n 0, 1) := by decide +kernel
theorem dX11_bits_3 : decode cX11_bits 3 = .ok (.istore_n 2, 1) := by decide +kernel
theorem dX11_bits_4 : decode cX11_bits 4 = .ok (.iload_n 2, 1) := by decide +kernel
theorem dX11_bits_5 : decode cX11_bits 5 = .ok (.ifCond .eq 15, 3) := by decide +kernel
theorem dX11_bits_8 : decode cX11_bits 8 = .ok (.iinc 1 1, 3) := by decide +kernel
theorem dX11_bits_11 : decode cX11_bits 11 = .ok (.iload_n 2, 1) := by decide +kernel
theorem dX11_bits_12 : decode cX11_bits 12 = .ok (.iload_n 2, 1) := by decide +kernel
theorem dX11_bits_13 : decode cX11_bits 13 = .ok (.iconst 1, 1) := by decide +kernel
theorem dX11_bits_14 : decode cX11_bits 14 = .ok (.isub, 1) := by decide +kernel
theorem dX11_bits_15 : decode cX11_bits 15 = .ok (.iand, 1) := by decide +kernel
theorem dX11_bits_16 : decode cX11_bits 16 = .ok (.istore_n 2, 1) := by decide +kernel
theorem dX11_bits_17 : decode cX11_bits 17 = .ok (.goto (-13), 3) := by decide +kernel
theorem dX11_bits_20 : decode cX11_bits 20 = .ok (.iload_n 1, 1) := by decide +kernel
theorem dX11_bits_21 : decode cX11_bits 21 = .ok (.ireturn, 1) := by decide +kernel
theorem dX11_four_0 : decode cX11_four 0 = .ok (.bipush 24, 2) := by decide +kernel
theorem dX11_four_2 : decode cX11_four 2 = .ok (.istore_n 2, 1) := by decide +kernel
theorem dX11_four_3 : decode cX11_four 3 = .ok (.iload_n 2, 1) := by decide +kernel
theorem dX11_four_4 : decode cX11_four 4 = .ok (.ifCond .lt 32, 3) := by decide +kernel
theorem dX11_four_7 : decode cX11_four 7 = .ok (.aload_n 0, 1) := by decide +kernel
theorem dX11_four_8 : decode cX11_four 8 = .ok (.getfield 7, 3) := by decide +kernel
theorem dX11_four_11 : decode cX11_four 11 = .ok (.aload_n 0, 1) := by decide +kernel
theorem dX11_four_12 : decode cX11_four 12 = .ok (.getfield 92, 3) := by decide +kernel
theorem dX11_four_15 : decode cX11_four 15 = .ok (.iload_n 1, 1) := by decide +kernel
theorem dX11_four_16 : decode cX11_four 16 = .ok (.iload_n 2, 1) := by decide +kernel
theorem dX11_four_17 : decode cX11_four 17 = .ok (.ishr, 1) := by decide +kernel
theorem dX11_four_18 : decode cX11_four 18 = .ok (.i2b, 1) := by decide +kernel
theorem dX11_four_19 : decode cX11_four 19 = .ok (.bastore, 1) := by decide +kernel
theorem dX11_four_20 : decode cX11_four 20 = .ok (.aload_n 0, 1) := by decide +kernel
theorem dX11_four_21 : decode cX11_four 21 = .ok (.dup, 1) := by decide +kernel
theorem dX11_four_22 : decode cX11_four 22 = .ok (.getfield 92, 3) := by decide +kernel
theorem dX11_four_25 : decode cX11_four 25 = .ok (.iconst 1, 1) := by decide +kernel
theorem dX11_four_26 : decode cX11_four 26 = .ok (.iadd, 1) := by decide +kernel
theorem dX11_four_27 : decode cX11_four 27 = .ok (.putfield 92, 3) := by decide +kernel
theorem dX11_four_30 : decode cX11_four 30 = .ok (.iinc 2 (-8), 3) := by decide +kernel
theorem dX11_four_33 : decode cX11_four 33 = .ok (.goto (-30), 3) := by decide +kernel
theorem dX11_four_36 : decode cX11_four 36 = .ok (.return_, 1) := by decide +kernel
theorem dX11_feed_0 : decode cX11_feed 0 = .ok (.aload_n 0, 1) := by decide +kernel
theorem dX11_feed_1 : decode cX11_feed 1 = .ok (.getfield 92, 3) := by decide +kernel
theorem dX11_feed_4 : decode cX11_feed 4 = .ok (.bipush 20, 2) := by decide +kernel
theorem dX11_feed_6 : decode cX11_feed 6 = .ok (.iadd, 1) := by decide +kernel
theorem dX11_feed_7 : decode cX11_feed 7 = .ok (.sipush 400, 3) := by decide +kernel
theorem dX11_feed_10 : decode cX11_feed 10 = .ok (.if_icmp .le 5, 3) := by decide +kernel
theorem dX11_feed_13 : decode cX11_feed 13 = .ok (.iconst (-1), 1) := by decide +kernel
theorem dX11_feed_14 : decode cX11_feed 14 = .ok (.ireturn, 1) := by decide +kernel
theorem dX11_feed_15 : decode cX11_feed 15 = .ok (.aload_n 0, 1) := by decide +kernel
theorem dX11_feed_16 : decode cX11_feed 16 = .ok (.iload_n 1, 1) := by decide +kernel
theorem dX11_feed_17 : decode cX11_feed 17 = .ok (.invokevirtual 95, 3) := by decide +kernel
theorem dX11_feed_20 : decode cX11_feed 20 = .ok (.aload_n 0, 1) := by decide +kernel
theorem dX11_feed_21 : decode cX11_feed 21 = .ok (.iload_n 2, 1) := by decide +kernel
theorem dX11_feed_22 : decode cX11_feed 22 = .ok (.invokevirtual 95, 3) := by decide +kernel
theorem dX11_feed_25 : decode cX11_feed 25 = .ok (.aload_n 0, 1) := by decide +kernel
theorem dX11_feed_26 : decode cX11_feed 26 = .ok (.iload_n 3, 1) := by decide +kernel
theorem dX11_feed_27 : decode cX11_feed 27 = .ok (.invokevirtual 95, 3) := by decide +kernel
theorem dX11_feed_30 : decode cX11_feed 30 = .ok (.aload_n 0, 1) := by decide +kernel
theorem dX11_feed_31 : decode cX11_feed 31 = .ok (.iload 4, 2) := by decide +kernel
theorem dX11_feed_33 : decode cX11_feed 33 = .ok (.invokevirtual 95, 3) := by decide +kernel
theorem dX11_feed_36 : decode cX11_feed 36 = .ok (.aload_n 0, 1) := by decide +kernel
theorem dX11_feed_37 : decode cX11_feed 37 = .ok (.iload 5, 2) := by decide +kernel
theorem dX11_feed_39 : decode cX11_feed 39 = .ok (.invokevirtual 95, 3) := by decide +kernel
theorem dX11_feed_42 : decode cX11_feed 42 = .ok (.aload_n 0, 1) := by decide +kernel
theorem dX11_feed_43 : decode cX11_feed 43 = .ok (.getfield 92, 3) := by decide +kernel
theorem dX11_feed_46 : decode cX11_feed 46 = .ok (.ireturn, 1) := by decide +kernel
theorem dX11_end_0 : decode cX11_end 0 = .ok (.iload_n 1, 1) := by decide +kernel
theorem dX11_end_1 : decode cX11_end 1 = .ok (.ifCond .lt 11, 3) := by decide +kernel
theorem dX11_end_4 : decode cX11_end 4 = .ok (.iload_n 1, 1) := by decide +kernel
theorem dX11_end_5 : decode cX11_end 5 = .ok (.aload_n 0, 1) := by decide +kernel
theorem dX11_end_6 : decode cX11_end 6 = .ok (.getfield 92, 3) := by decide +kernel
theorem dX11_end_9 : decode cX11_end 9 = .ok (.if_icmp .le 5, 3) := by decide +kernel
theorem dX11_end_12 : decode cX11_end 12 = .ok (.iconst (-1), 1) := by decide +kernel
theorem dX11_end_13 : decode cX11_end 13 = .ok (.ireturn, 1) := by decide +kernel
theorem dX11_end_14 : decode cX11_end 14 = .ok (.aload_n 0, 1) := by decide +kernel
theorem dX11_end_15 : decode cX11_end 15 = .ok (.iload_n 1, 1) := by decide +kernel
theorem dX11_end_16 : decode cX11_end 16 = .ok (.putfield 92, 3) := by decide +kernel
theorem dX11_end_19 : decode cX11_end 19 = .ok (.iload_n 1, 1) := by decide +kernel
theorem dX11_end_20 : decode cX11_end 20 = .ok (.ireturn, 1) := by decide +kernel
theorem dX11_fails_0 : decode cX11_fails 0 = .ok (.aload_n 0, 1) := by decide +kernel
theorem dX11_fails_1 : decode cX11_fails 1 = .ok (.getfield 99, 3) := by decide +kernel
theorem dX11_fails_4 : decode cX11_fails 4 = .ok (.ifCond .ne 15, 3) := by decide +kernel
theorem dX11_fails_7 : decode cX11_fails 7 = .ok (.aload_n 0, 1) := by decide +kernel
theorem dX11_fails_8 : decode cX11_fails 8 = .ok (.iconst 1, 1) := by decide +kernel
theorem dX11_fails_9 : decode cX11_fails 9 = .ok (.bipush 8, 2) := by decide +kernel
theorem dX11_fails_11 : decode cX11_fails 11 = .ok (.iload_n 2, 1) := by decide +kernel
theorem dX11_fails_12 : decode cX11_fails 12 = .ok (.imul, 1) := by decide +kernel
theorem dX11_fails_13 : decode cX11_fails 13 = .ok (.iadd, 1) := by decide +kernel
theorem dX11_fails_14 : decode cX11_fails 14 = .ok (.iload_n 1, 1) := by decide +kernel
theorem dX11_fails_15 : decode cX11_fails 15 = .ok (.iadd, 1) := by decide +kernel
theorem dX11_fails_16 : decode cX11_fails 16 = .ok (.putfield 99, 3) := by decide +kernel
theorem dX11_fails_19 : decode cX11_fails 19 = .ok (.iconst 0, 1) := by decide +kernel
theorem dX11_fails_20 : decode cX11_fails 20 = .ok (.ireturn, 1) := by decide +kernel
theorem dX11_see_0 : decode cX11_see 0 = .ok (.aload_n 0, 1) := by decide +kernel
theorem dX11_see_1 : decode cX11_see 1 = .ok (.getfield 102, 3) := by decide +kernel
theorem dX11_see_4 : decode cX11_see 4 = .ok (.aload_n 0, 1) := by decide +kernel
theorem dX11_see_5 : decode cX11_see 5 = .ok (.getfield 92, 3) := by decide +kernel
theorem dX11_see_8 : decode cX11_see 8 = .ok (.if_icmp .ge 30, 3) := by decide +kernel
theorem dX11_see_11 : decode cX11_see 11 = .ok (.aload_n 0, 1) := by decide +kernel
theorem dX11_see_12 : decode cX11_see 12 = .ok (.getfield 7, 3) := by decide +kernel
theorem dX11_see_15 : decode cX11_see 15 = .ok (.aload_n 0, 1) := by decide +kernel
theorem dX11_see_16 : decode cX11_see 16 = .ok (.getfield 102, 3) := by decide +kernel
theorem dX11_see_19 : decode cX11_see 19 = .ok (.baload, 1) := by decide +kernel
theorem dX11_see_20 : decode cX11_see 20 = .ok (.bipush 32, 2) := by decide +kernel
theorem dX11_see_22 : decode cX11_see 22 = .ok (.if_icmp .ne 16, 3) := by decide +kernel
theorem dX11_see_25 : decode cX11_see 25 = .ok (.aload_n 0, 1) := by decide +kernel
theorem dX11_see_26 : decode cX11_see 26 = .ok (.dup, 1) := by decide +kernel
theorem dX11_see_27 : decode cX11_see 27 = .ok (.getfield 102, 3) := by decide +kernel
theorem dX11_see_30 : decode cX11_see 30 = .ok (.iconst 1, 1) := by decide +kernel
theorem dX11_see_31 : decode cX11_see 31 = .ok (.iadd, 1) := by decide +kernel
theorem dX11_see_32 : decode cX11_see 32 = .ok (.putfield 102, 3) := by decide +kernel
theorem dX11_see_35 : decode cX11_see 35 = .ok (.goto (-35), 3) := by decide +kernel
theorem dX11_see_38 : decode cX11_see 38 = .ok (.aload_n 0, 1) := by decide +kernel
theorem dX11_see_39 : decode cX11_see 39 = .ok (.getfield 102, 3) := by decide +kernel
theorem dX11_see_42 : decode cX11_see 42 = .ok (.aload_n 0, 1) := by decide +kernel
theorem dX11_see_43 : decode cX11_see 43 = .ok (.getfield 92, 3) := by decide +kernel
theorem dX11_see_46 : decode cX11_see 46 = .ok (.if_icmp .ge 19, 3) := by decide +kernel
theorem dX11_see_49 : decode cX11_see 49 = .ok (.aload_n 0, 1) := by decide +kernel
theorem dX11_see_50 : decode cX11_see 50 = .ok (.getfield 7, 3) := by decide +kernel
theorem dX11_see_53 : decode cX11_see 53 = .ok (.aload_n 0, 1) := by decide +kernel
theorem dX11_see_54 : decode cX11_see 54 = .ok (.getfield 102, 3) := by decide +kernel
theorem dX11_see_57 : decode cX11_see 57 = .ok (.baload, 1) := by decide +kernel
theorem dX11_see_58 : decode cX11_see 58 = .ok (.sipush 255, 3) := by decide +kernel
theorem dX11_see_61 : decode cX11_see 61 = .ok (.iand, 1) := by decide +kernel
theorem dX11_see_62 : decode cX11_see 62 = .ok (.goto 4, 3) := by decide +kernel
theorem dX11_see_65 : decode cX11_see 65 = .ok (.iconst (-1), 1) := by decide +kernel
theorem dX11_see_66 : decode cX11_see 66 = .ok (.ireturn, 1) := by decide +kernel
theorem dX11_isDigit_0 : decode cX11_isDigit 0 = .ok (.iload_n 1, 1) := by decide +kernel
theorem dX11_isDigit_1 : decode cX11_isDigit 1 = .ok (.aload_n 0, 1) := by decide +kernel
theorem dX11_isDigit_2 : decode cX11_isDigit 2 = .ok (.getfield 92, 3) := by decide +kernel
theorem dX11_isDigit_5 : decode cX11_isDigit 5 = .ok (.if_icmp .ge 29, 3) := by decide +kernel
theorem dX11_isDigit_8 : decode cX11_isDigit 8 = .ok (.aload_n 0, 1) := by decide +kernel
theorem dX11_isDigit_9 : decode cX11_isDigit 9 = .ok (.getfield 7, 3) := by decide +kernel
theorem dX11_isDigit_12 : decode cX11_isDigit 12 = .ok (.iload_n 1, 1) := by decide +kernel
theorem dX11_isDigit_13 : decode cX11_isDigit 13 = .ok (.baload, 1) := by decide +kernel
theorem dX11_isDigit_14 : decode cX11_isDigit 14 = .ok (.bipush 48, 2) := by decide +kernel
theorem dX11_isDigit_16 : decode cX11_isDigit 16 = .ok (.if_icmp .lt 18, 3) := by decide +kernel
theorem dX11_isDigit_19 : decode cX11_isDigit 19 = .ok (.aload_n 0, 1) := by decide +kernel
theorem dX11_isDigit_20 : decode cX11_isDigit 20 = .ok (.getfield 7, 3) := by decide +kernel
theorem dX11_isDigit_23 : decode cX11_isDigit 23 = .ok (.iload_n 1, 1) := by decide +kernel
theorem dX11_isDigit_24 : decode cX11_isDigit 24 = .ok (.baload, 1) := by decide +kernel
theorem dX11_isDigit_25 : decode cX11_isDigit 25 = .ok (.bipush 57, 2) := by decide +kernel
theorem dX11_isDigit_27 : decode cX11_isDigit 27 = .ok (.if_icmp .gt 7, 3) := by decide +kernel
theorem dX11_isDigit_30 : decode cX11_isDigit 30 = .ok (.iconst 1, 1) := by decide +kernel
theorem dX11_isDigit_31 : decode cX11_isDigit 31 = .ok (.goto 4, 3) := by decide +kernel
theorem dX11_isDigit_34 : decode cX11_isDigit 34 = .ok (.iconst 0, 1) := by decide +kernel
theorem dX11_isDigit_35 : decode cX11_isDigit 35 = .ok (.ireturn, 1) := by decide +kernel
theorem dX11_isLetter_0 : decode cX11_isLetter 0 = .ok (.iload_n 1, 1) := by decide +kernel
theorem dX11_isLetter_1 : decode cX11_isLetter 1 = .ok (.aload_n 0, 1) := by decide +kernel
theorem dX11_isLetter_2 : decode cX11_isLetter 2 = .ok (.getfield 92, 3) := by decide +kernel
theorem dX11_isLetter_5 : decode cX11_isLetter 5 = .ok (.if_icmp .ge 29, 3) := by decide +kernel
theorem dX11_isLetter_8 : decode cX11_isLetter 8 = .ok (.aload_n 0, 1) := by decide +kernel
theorem dX11_isLetter_9 : decode cX11_isLetter 9 = .ok (.getfield 7, 3) := by decide +kernel
theorem dX11_isLetter_12 : decode cX11_isLetter 12 = .ok (.iload_n 1, 1) := by decide +kernel
theorem dX11_isLetter_13 : decode cX11_isLetter 13 = .ok (.baload, 1) := by decide +kernel
theorem dX11_isLetter_14 : decode cX11_isLetter 14 = .ok (.bipush 97, 2) := by decide +kernel
theorem dX11_isLetter_16 : decode cX11_isLetter 16 = .ok (.if_icmp .lt 18, 3) := by decide +kernel
theorem dX11_isLetter_19 : decode cX11_isLetter 19 = .ok (.aload_n 0, 1) := by decide +kernel
theorem dX11_isLetter_20 : decode cX11_isLetter 20 = .ok (.getfield 7, 3) := by decide +kernel
theorem dX11_isLetter_23 : decode cX11_isLetter 23 = .ok (.iload_n 1, 1) := by decide +kernel
theorem dX11_isLetter_24 : decode cX11_isLetter 24 = .ok (.baload, 1) := by decide +kernel
theorem dX11_isLetter_25 : decode cX11_isLetter 25 = .ok (.bipush 122, 2) := by decide +kernel
theorem dX11_isLetter_27 : decode cX11_isLetter 27 = .ok (.if_icmp .gt 7, 3) := by decide +kernel
theorem dX11_isLetter_30 : decode cX11_isLetter 30 = .ok (.iconst 1, 1) := by decide +kernel
theorem dX11_isLetter_31 : decode cX11_isLetter 31 = .ok (.goto 4, 3) := by decide +kernel
theorem dX11_isLetter_34 : decode cX11_isLetter 34 = .ok (.iconst 0, 1) := by decide +kernel
theorem dX11_isLetter_35 : decode cX11_isLetter 35 = .ok (.ireturn, 1) := by decide +kernel
theorem dX11_isWord_0 : decode cX11_isWord 0 = .ok (.aload_n 0, 1) := by decide +kernel
theorem dX11_isWord_1 : decode cX11_isWord 1 = .ok (.invokevirtual 105, 3) := by decide +kernel
theorem dX11_isWord_4 : decode cX11_isWord 4 = .ok (.pop, 1) := by decide +kernel
theorem dX11_isWord_5 : decode cX11_isWord 5 = .ok (.lconst 0, 1) := by decide +kernel
theorem dX11_isWord_6 : decode cX11_isWord 6 = .ok (.lstore_n 3, 1) := by decide +kernel
theorem dX11_isWord_7 : decode cX11_isWord 7 = .ok (.iconst 0, 1) := by decide +kernel
theorem dX11_isWord_8 : decode cX11_isWord 8 = .ok (.istore 5, 2) := by decide +kernel
theorem dX11_isWord_10 : decode cX11_isWord 10 = .ok (.aload_n 0, 1) := by decide +kernel
theorem dX11_isWord_11 : decode cX11_isWord 11 = .ok (.aload_n 0, 1) := by decide +kernel
theorem dX11_isWord_12 : decode cX11_isWord 12 = .ok (.getfield 102, 3) := by decide +kernel
theorem dX11_isWord_15 : decode cX11_isWord 15 = .ok (.iload 5, 2) := by decide +kernel
theorem dX11_isWord_17 : decode cX11_isWord 17 = .ok (.iadd, 1) := by decide +kernel
theorem dX11_isWord_18 : decode cX11_isWord 18 = .ok (.invokevirtual 109, 3) := by decide +kernel
theorem dX11_isWord_21 : decode cX11_isWord 21 = .ok (.ifCond .eq 37, 3) := by decide +kernel
theorem dX11_isWord_24 : decode cX11_isWord 24 = .ok (.iload 5, 2) := by decide +kernel
theorem dX11_isWord_26 : decode cX11_isWord 26 = .ok (.bipush 12, 2) := by decide +kernel
theorem dX11_isWord_28 : decode cX11_isWord 28 = .ok (.if_icmp .ge 24, 3) := by decide +kernel
theorem dX11_isWord_31 : decode cX11_isWord 31 = .ok (.lload_n 3, 1) := by decide +kernel
theorem dX11_isWord_32 : decode cX11_isWord 32 = .ok (.iconst 5, 1) := by decide +kernel
theorem dX11_isWord_33 : decode cX11_isWord 33 = .ok (.lshl, 1) := by decide +kernel
theorem dX11_isWord_34 : decode cX11_isWord 34 = .ok (.aload_n 0, 1) := by decide +kernel
theorem dX11_isWord_35 : decode cX11_isWord 35 = .ok (.getfield 7, 3) := by decide +kernel
theorem dX11_isWord_38 : decode cX11_isWord 38 = .ok (.aload_n 0, 1) := by decide +kernel
theorem dX11_isWord_39 : decode cX11_isWord 39 = .ok (.getfield 102, 3) := by decide +kernel
theorem dX11_isWord_42 : decode cX11_isWord 42 = .ok (.iload 5, 2) := by decide +kernel
theorem dX11_isWord_44 : decode cX11_isWord 44 = .ok (.iadd, 1) := by decide +kernel
theorem dX11_isWord_45 : decode cX11_isWord 45 = .ok (.baload, 1) := by decide +kernel
theorem dX11_isWord_46 : decode cX11_isWord 46 = .ok (.bipush 31, 2) := by decide +kernel
theorem dX11_isWord_48 : decode cX11_isWord 48 = .ok (.iand, 1) := by decide +kernel
theorem dX11_isWord_49 : decode cX11_isWord 49 = .ok (.i2l, 1) := by decide +kernel
theorem dX11_isWord_50 : decode cX11_isWord 50 = .ok (.lor, 1) := by decide +kernel
theorem dX11_isWord_51 : decode cX11_isWord 51 = .ok (.lstore_n 3, 1) := by decide +kernel
theorem dX11_isWord_52 : decode cX11_isWord 52 = .ok (.iinc 5 1, 3) := by decide +kernel
theorem dX11_isWord_55 : decode cX11_isWord 55 = .ok (.goto (-45), 3) := by decide +kernel
theorem dX11_isWord_58 : decode cX11_isWord 58 = .ok (.iload 5, 2) := by decide +kernel
theorem dX11_isWord_60 : decode cX11_isWord 60 = .ok (.ifCond .le 20, 3) := by decide +kernel
theorem dX11_isWord_63 : decode cX11_isWord 63 = .ok (.iload 5, 2) := by decide +kernel
theorem dX11_isWord_65 : decode cX11_isWord 65 = .ok (.bipush 13, 2) := by decide +kernel
theorem dX11_isWord_67 : decode cX11_isWord 67 = .ok (.if_icmp .ge 13, 3) := by decide +kernel
theorem dX11_isWord_70 : decode cX11_isWord 70 = .ok (.lload_n 3, 1) := by decide +kernel
theorem dX11_isWord_71 : decode cX11_isWord 71 = .ok (.lload_n 1, 1) := by decide +kernel
theorem dX11_isWord_72 : decode cX11_isWord 72 = .ok (.lcmp, 1) := by decide +kernel
theorem dX11_isWord_73 : decode cX11_isWord 73 = .ok (.ifCond .ne 7, 3) := by decide +kernel
theorem dX11_isWord_76 : decode cX11_isWord 76 = .ok (.iconst 1, 1) := by decide +kernel
theorem dX11_isWord_77 : decode cX11_isWord 77 = .ok (.goto 4, 3) := by decide +kernel
theorem dX11_isWord_80 : decode cX11_isWord 80 = .ok (.iconst 0, 1) := by decide +kernel
theorem dX11_isWord_81 : decode cX11_isWord 81 = .ok (.ireturn, 1) := by decide +kernel
theorem dX11_passWord_0 : decode cX11_passWord 0 = .ok (.aload_n 0, 1) := by decide +kernel
theorem dX11_passWord_1 : decode cX11_passWord 1 = .ok (.aload_n 0, 1) := by decide +kernel
theorem dX11_passWord_2 : decode cX11_passWord 2 = .ok (.getfield 102, 3) := by decide +kernel
theorem dX11_passWord_5 : decode cX11_passWord 5 = .ok (.invokevirtual 109, 3) := by decide +kernel
theorem dX11_passWord_8 : decode cX11_passWord 8 = .ok (.ifCond .eq 16, 3) := by decide +kernel
theorem dX11_passWord_11 : decode cX11_passWord 11 = .ok (.aload_n 0, 1) := by decide +kernel
theorem dX11_passWord_12 : decode cX11_passWord 12 = .ok (.dup, 1) := by decide +kernel
theorem dX11_passWord_13 : decode cX11_passWord 13 = .ok (.getfield 102, 3) := by decide +kernel
theorem dX11_passWord_16 : decode cX11_passWord 16 = .ok (.iconst 1, 1) := by decide +kernel
theorem dX11_passWord_17 : decode cX11_passWord 17 = .ok (.iadd, 1) := by decide +kernel
theorem dX11_passWord_18 : decode cX11_passWord 18 = .ok (.putfield 102, 3) := by decide +kernel
theorem dX11_passWord_21 : decode cX11_passWord 21 = .ok (.goto (-21), 3) := by decide +kernel
theorem dX11_passWord_24 : decode cX11_passWord 24 = .ok (.return_, 1) := by decide +kernel
theorem dX11_takesWord_0 : decode cX11_takesWord 0 = .ok (.aload_n 0, 1) := by decide +kernel
theorem dX11_takesWord_1 : decode cX11_takesWord 1 = .ok (.lload_n 1, 1) := by decide +kernel
theorem dX11_takesWord_2 : decode cX11_takesWord 2 = .ok (.invokevirtual 113, 3) := by decide +kernel
theorem dX11_takesWord_5 : decode cX11_takesWord 5 = .ok (.ifCond .ne 5, 3) := by decide +kernel
theorem dX11_takesWord_8 : decode cX11_takesWord 8 = .ok (.iconst 0, 1) := by decide +kernel
theorem dX11_takesWord_9 : decode cX11_takesWord 9 = .ok (.ireturn, 1) := by decide +kernel
theorem dX11_takesWord_10 : decode cX11_takesWord 10 = .ok (.aload_n 0, 1) := by decide +kernel
theorem dX11_takesWord_11 : decode cX11_takesWord 11 = .ok (.invokevirtual 117, 3) := by decide +kernel
theorem dX11_takesWord_14 : decode cX11_takesWord 14 = .ok (.iconst 1, 1) := by decide +kernel
theorem dX11_takesWord_15 : decode cX11_takesWord 15 = .ok (.ireturn, 1) := by decide +kernel
theorem dX11_numberHere_0 : decode cX11_numberHere 0 = .ok (.aload_n 0, 1) := by decide +kernel
theorem dX11_numberHere_1 : decode cX11_numberHere 1 = .ok (.invokevirtual 105, 3) := by decide +kernel
theorem dX11_numberHere_4 : decode cX11_numberHere 4 = .ok (.pop, 1) := by decide +kernel
theorem dX11_numberHere_5 : decode cX11_numberHere 5 = .ok (.aload_n 0, 1) := by decide +kernel
theorem dX11_numberHere_6 : decode cX11_numberHere 6 = .ok (.aload_n 0, 1) := by decide +kernel
theorem dX11_numberHere_7 : decode cX11_numberHere 7 = .ok (.getfield 102, 3) := by decide +kernel
theorem dX11_numberHere_10 : decode cX11_numberHere 10 = .ok (.invokevirtual 120, 3) := by decide +kernel
theorem dX11_numberHere_13 : decode cX11_numberHere 13 = .ok (.ifCond .ne 13, 3) := by decide +kernel
theorem dX11_numberHere_16 : decode cX11_numberHere 16 = .ok (.aload_n 0, 1) := by decide +kernel
theorem dX11_numberHere_17 : decode cX11_numberHere 17 = .ok (.iconst 0, 1) := by decide +kernel
theorem dX11_numberHere_18 : decode cX11_numberHere 18 = .ok (.aload_n 0, 1) := by decide +kernel
theorem dX11_numberHere_19 : decode cX11_numberHere 19 = .ok (.getfield 102, 3) := by decide +kernel
theorem dX11_numberHere_22 : decode cX11_numberHere 22 = .ok (.invokevirtual 123, 3) := by decide +kernel
theorem dX11_numberHere_25 : decode cX11_numberHere 25 = .ok (.ireturn, 1) := by decide +kernel
theorem dX11_numberHere_26 : decode cX11_numberHere 26 = .ok (.aload_n 0, 1) := by decide +kernel
theorem dX11_numberHere_27 : decode cX11_numberHere 27 = .ok (.getfield 102, 3) := by decide +kernel
theorem dX11_numberHere_30 : decode cX11_numberHere 30 = .ok (.istore_n 3, 1) := by decide +kernel
theorem dX11_numberHere_31 : decode cX11_numberHere 31 = .ok (.iconst 0, 1) := by decide +kernel
theorem dX11_numberHere_32 : decode cX11_numberHere 32 = .ok (.istore 4, 2) := by decide +kernel
theorem dX11_numberHere_34 : decode cX11_numberHere 34 = .ok (.aload_n 0, 1) := by decide +kernel
theorem dX11_numberHere_35 : decode cX11_numberHere 35 = .ok (.aload_n 0, 1) := by decide +kernel
theorem dX11_numberHere_36 : decode cX11_numberHere 36 = .ok (.getfield 102, 3) := by decide +kernel
theorem dX11_numberHere_39 : decode cX11_numberHere 39 = .ok (.invokevirtual 120, 3) := by decide +kernel
theorem dX11_numberHere_42 : decode cX11_numberHere 42 = .ok (.ifCond .eq 46, 3) := by decide +kernel
theorem dX11_numberHere_45 : decode cX11_numberHere 45 = .ok (.aload_n 0, 1) := by decide +kernel
theorem dX11_numberHere_46 : decode cX11_numberHere 46 = .ok (.getfield 102, 3) := by decide +kernel
theorem dX11_numberHere_49 : decode cX11_numberHere 49 = .ok (.iload_n 3, 1) := by decide +kernel
theorem dX11_numberHere_50 : decode cX11_numberHere 50 = .ok (.isub, 1) := by decide +kernel
theorem dX11_numberHere_51 : decode cX11_numberHere 51 = .ok (.iconst 5, 1) := by decide +kernel
theorem dX11_numberHere_52 : decode cX11_numberHere 52 = .ok (.if_icmp .ge 23, 3) := by decide +kernel
theorem dX11_numberHere_55 : decode cX11_numberHere 55 = .ok (.bipush 10, 2) := by decide +kernel
theorem dX11_numberHere_57 : decode cX11_numberHere 57 = .ok (.iload 4, 2) := by decide +kernel
theorem dX11_numberHere_59 : decode cX11_numberHere 59 = .ok (.imul, 1) := by decide +kernel
theorem dX11_numberHere_60 : decode cX11_numberHere 60 = .ok (.aload_n 0, 1) := by decide +kernel
theorem dX11_numberHere_61 : decode cX11_numberHere 61 = .ok (.getfield 7, 3) := by decide +kernel
theorem dX11_numberHere_64 : decode cX11_numberHere 64 = .ok (.aload_n 0, 1) := by decide +kernel
theorem dX11_numberHere_65 : decode cX11_numberHere 65 = .ok (.getfield 102, 3) := by decide +kernel
theorem dX11_numberHere_68 : decode cX11_numberHere 68 = .ok (.baload, 1) := by decide +kernel
theorem dX11_numberHere_69 : decode cX11_numberHere 69 = .ok (.iadd, 1) := by decide +kernel
theorem dX11_numberHere_70 : decode cX11_numberHere 70 = .ok (.bipush 48, 2) := by decide +kernel
theorem dX11_numberHere_72 : decode cX11_numberHere 72 = .ok (.isub, 1) := by decide +kernel
theorem dX11_numberHere_73 : decode cX11_numberHere 73 = .ok (.istore 4, 2) := by decide +kernel
theorem dX11_numberHere_75 : decode cX11_numberHere 75 = .ok (.aload_n 0, 1) := by decide +kernel
theorem dX11_numberHere_76 : decode cX11_numberHere 76 = .ok (.dup, 1) := by decide +kernel
theorem dX11_numberHere_77 : decode cX11_numberHere 77 = .ok (.getfield 102, 3) := by decide +kernel
theorem dX11_numberHere_80 : decode cX11_numberHere 80 = .ok (.iconst 1, 1) := by decide +kernel
theorem dX11_numberHere_81 : decode cX11_numberHere 81 = .ok (.iadd, 1) := by decide +kernel
theorem dX11_numberHere_82 : decode cX11_numberHere 82 = .ok (.putfield 102, 3) := by decide +kernel
theorem dX11_numberHere_85 : decode cX11_numberHere 85 = .ok (.goto (-51), 3) := by decide +kernel
theorem dX11_numberHere_88 : decode cX11_numberHere 88 = .ok (.aload_n 0, 1) := by decide +kernel
theorem dX11_numberHere_89 : decode cX11_numberHere 89 = .ok (.iload 4, 2) := by decide +kernel
theorem dX11_numberHere_91 : decode cX11_numberHere 91 = .ok (.putfield 127, 3) := by decide +kernel
theorem dX11_numberHere_94 : decode cX11_numberHere 94 = .ok (.aload_n 0, 1) := by decide +kernel
theorem dX11_numberHere_95 : decode cX11_numberHere 95 = .ok (.getfield 102, 3) := by decide +kernel
theorem dX11_numberHere_98 : decode cX11_numberHere 98 = .ok (.iload_n 3, 1) := by decide +kernel
theorem dX11_numberHere_99 : decode cX11_numberHere 99 = .ok (.isub, 1) := by decide +kernel
theorem dX11_numberHere_100 : decode cX11_numberHere 100 = .ok (.iconst 5, 1) := by decide +kernel
theorem dX11_numberHere_101 : decode cX11_numberHere 101 = .ok (.if_icmp .gt 16, 3) := by decide +kernel
theorem dX11_numberHere_104 : decode cX11_numberHere 104 = .ok (.iload 4, 2) := by decide +kernel
theorem dX11_numberHere_106 : decode cX11_numberHere 106 = .ok (.i2l, 1) := by decide +kernel
theorem dX11_numberHere_107 : decode cX11_numberHere 107 = .ok (.iload_n 1, 1) := by decide +kernel
theorem dX11_numberHere_108 : decode cX11_numberHere 108 = .ok (.i2l, 1) := by decide +kernel
theorem dX11_numberHere_109 : decode cX11_numberHere 109 = .ok (.iload_n 2, 1) := by decide +kernel
theorem dX11_numberHere_110 : decode cX11_numberHere 110 = .ok (.i2l, 1) := by decide +kernel
theorem dX11_numberHere_111 : decode cX11_numberHere 111 = .ok (.invokestatic 130, 3) := by decide +kernel
theorem dX11_numberHere_114 : decode cX11_numberHere 114 = .ok (.ifCond .ne 12, 3) := by decide +kernel
theorem dX11_numberHere_117 : decode cX11_numberHere 117 = .ok (.aload_n 0, 1) := by decide +kernel
theorem dX11_numberHere_118 : decode cX11_numberHere 118 = .ok (.iconst 1, 1) := by decide +kernel
theorem dX11_numberHere_119 : decode cX11_numberHere 119 = .ok (.iload_n 3, 1) := by decide +kernel
theorem dX11_numberHere_120 : decode cX11_numberHere 120 = .ok (.invokevirtual 123, 3) := by decide +kernel
theorem dX11_numberHere_123 : decode cX11_numberHere 123 = .ok (.ifCond .eq 7, 3) := by decide +kernel
theorem dX11_numberHere_126 : decode cX11_numberHere 126 = .ok (.iconst 1, 1) := by decide +kernel
theorem dX11_numberHere_127 : decode cX11_numberHere 127 = .ok (.goto 4, 3) := by decide +kernel
theorem dX11_numberHere_130 : decode cX11_numberHere 130 = .ok (.iconst 0, 1) := by decide +kernel
theorem dX11_numberHere_131 : decode cX11_numberHere 131 = .ok (.ireturn, 1) := by decide +kernel
theorem dX11_wordHere_0 : decode cX11_wordHere 0 = .ok (.aload_n 0, 1) := by decide +kernel
theorem dX11_wordHere_1 : decode cX11_wordHere 1 = .ok (.ldc2_w 134, 3) := by decide +kernel
theorem dX11_wordHere_4 : decode cX11_wordHere 4 = .ok (.invokevirtual 113, 3) := by decide +kernel
theorem dX11_wordHere_7 : decode cX11_wordHere 7 = .ok (.ifCond .eq 5, 3) := by decide +kernel
theorem dX11_wordHere_10 : decode cX11_wordHere 10 = .ok (.iconst 0, 1) := by decide +kernel
theorem dX11_wordHere_11 : decode cX11_wordHere 11 = .ok (.ireturn, 1) := by decide +kernel
theorem dX11_wordHere_12 : decode cX11_wordHere 12 = .ok (.aload_n 0, 1) := by decide +kernel
theorem dX11_wordHere_13 : decode cX11_wordHere 13 = .ok (.ldc2_w 136, 3) := by decide +kernel
theorem dX11_wordHere_16 : decode cX11_wordHere 16 = .ok (.invokevirtual 113, 3) := by decide +kernel
theorem dX11_wordHere_19 : decode cX11_wordHere 19 = .ok (.ifCond .eq 5, 3) := by decide +kernel
theorem dX11_wordHere_22 : decode cX11_wordHere 22 = .ok (.iconst 1, 1) := by decide +kernel
theorem dX11_wordHere_23 : decode cX11_wordHere 23 = .ok (.ireturn, 1) := by decide +kernel
theorem dX11_wordHere_24 : decode cX11_wordHere 24 = .ok (.aload_n 0, 1) := by decide +kernel
theorem dX11_wordHere_25 : decode cX11_wordHere 25 = .ok (.ldc2_w 138, 3) := by decide +kernel
theorem dX11_wordHere_28 : decode cX11_wordHere 28 = .ok (.invokevirtual 113, 3) := by decide +kernel
theorem dX11_wordHere_31 : decode cX11_wordHere 31 = .ok (.ifCond .eq 5, 3) := by decide +kernel
theorem dX11_wordHere_34 : decode cX11_wordHere 34 = .ok (.iconst 2, 1) := by decide +kernel
theorem dX11_wordHere_35 : decode cX11_wordHere 35 = .ok (.ireturn, 1) := by decide +kernel
theorem dX11_wordHere_36 : decode cX11_wordHere 36 = .ok (.aload_n 0, 1) := by decide +kernel
theorem dX11_wordHere_37 : decode cX11_wordHere 37 = .ok (.ldc2_w 140, 3) := by decide +kernel
theorem dX11_wordHere_40 : decode cX11_wordHere 40 = .ok (.invokevirtual 113, 3) := by decide +kernel
theorem dX11_wordHere_43 : decode cX11_wordHere 43 = .ok (.ifCond .eq 5, 3) := by decide +kernel
theorem dX11_wordHere_46 : decode cX11_wordHere 46 = .ok (.iconst 3, 1) := by decide +kernel
theorem dX11_wordHere_47 : decode cX11_wordHere 47 = .ok (.ireturn, 1) := by decide +kernel
theorem dX11_wordHere_48 : decode cX11_wordHere 48 = .ok (.aload_n 0, 1) := by decide +kernel
theorem dX11_wordHere_49 : decode cX11_wordHere 49 = .ok (.ldc2_w 142, 3) := by decide +kernel
theorem dX11_wordHere_52 : decode cX11_wordHere 52 = .ok (.invokevirtual 113, 3) := by decide +kernel
theorem dX11_wordHere_55 : decode cX11_wordHere 55 = .ok (.ifCond .eq 5, 3) := by decide +kernel
theorem dX11_wordHere_58 : decode cX11_wordHere 58 = .ok (.iconst 4, 1) := by decide +kernel
theorem dX11_wordHere_59 : decode cX11_wordHere 59 = .ok (.ireturn, 1) := by decide +kernel
theorem dX11_wordHere_60 : decode cX11_wordHere 60 = .ok (.aload_n 0, 1) := by decide +kernel
theorem dX11_wordHere_61 : decode cX11_wordHere 61 = .ok (.ldc2_w 144, 3) := by decide +kernel
theorem dX11_wordHere_64 : decode cX11_wordHere 64 = .ok (.invokevirtual 113, 3) := by decide +kernel
theorem dX11_wordHere_67 : decode cX11_wordHere 67 = .ok (.ifCond .eq 5, 3) := by decide +kernel
theorem dX11_wordHere_70 : decode cX11_wordHere 70 = .ok (.iconst 5, 1) := by decide +kernel
theorem dX11_wordHere_71 : decode cX11_wordHere 71 = .ok (.ireturn, 1) := by decide +kernel
theorem dX11_wordHere_72 : decode cX11_wordHere 72 = .ok (.aload_n 0, 1) := by decide +kernel
theorem dX11_wordHere_73 : decode cX11_wordHere 73 = .ok (.ldc2_w 146, 3) := by decide +kernel
theorem dX11_wordHere_76 : decode cX11_wordHere 76 = .ok (.invokevirtual 113, 3) := by decide +kernel
theorem dX11_wordHere_79 : decode cX11_wordHere 79 = .ok (.ifCond .eq 6, 3) := by decide +kernel
theorem dX11_wordHere_82 : decode cX11_wordHere 82 = .ok (.bipush 6, 2) := by decide +kernel
theorem dX11_wordHere_84 : decode cX11_wordHere 84 = .ok (.ireturn, 1) := by decide +kernel
theorem dX11_wordHere_85 : decode cX11_wordHere 85 = .ok (.aload_n 0, 1) := by decide +kernel
theorem dX11_wordHere_86 : decode cX11_wordHere 86 = .ok (.ldc2_w 148, 3) := by decide +kernel
theorem dX11_wordHere_89 : decode cX11_wordHere 89 = .ok (.invokevirtual 113, 3) := by decide +kernel
theorem dX11_wordHere_92 : decode cX11_wordHere 92 = .ok (.ifCond .eq 6, 3) := by decide +kernel
theorem dX11_wordHere_95 : decode cX11_wordHere 95 = .ok (.bipush 7, 2) := by decide +kernel
theorem dX11_wordHere_97 : decode cX11_wordHere 97 = .ok (.ireturn, 1) := by decide +kernel
theorem dX11_wordHere_98 : decode cX11_wordHere 98 = .ok (.aload_n 0, 1) := by decide +kernel
theorem dX11_wordHere_99 : decode cX11_wordHere 99 = .ok (.ldc2_w 150, 3) := by decide +kernel
theorem dX11_wordHere_102 : decode cX11_wordHere 102 = .ok (.invokevirtual 113, 3) := by decide +kernel
theorem dX11_wordHere_105 : decode cX11_wordHere 105 = .ok (.ifCond .eq 6, 3) := by decide +kernel
theorem dX11_wordHere_108 : decode cX11_wordHere 108 = .ok (.bipush 8, 2) := by decide +kernel
theorem dX11_wordHere_110 : decode cX11_wordHere 110 = .ok (.ireturn, 1) := by decide +kernel
theorem dX11_wordHere_111 : decode cX11_wordHere 111 = .ok (.aload_n 0, 1) := by decide +kernel
theorem dX11_wordHere_112 : decode cX11_wordHere 112 = .ok (.ldc2_w 152, 3) := by decide +kernel
theorem dX11_wordHere_115 : decode cX11_wordHere 115 = .ok (.invokevirtual 113, 3) := by decide +kernel
theorem dX11_wordHere_118 : decode cX11_wordHere 118 = .ok (.ifCond .eq 6, 3) := by decide +kernel
theorem dX11_wordHere_121 : decode cX11_wordHere 121 = .ok (.bipush 9, 2) := by decide +kernel
theorem dX11_wordHere_123 : decode cX11_wordHere 123 = .ok (.ireturn, 1) := by decide +kernel
theorem dX11_wordHere_124 : decode cX11_wordHere 124 = .ok (.aload_n 0, 1) := by decide +kernel
theorem dX11_wordHere_125 : decode cX11_wordHere 125 = .ok (.ldc2_w 154, 3) := by decide +kernel
theorem dX11_wordHere_128 : decode cX11_wordHere 128 = .ok (.invokevirtual 113, 3) := by decide +kernel
theorem dX11_wordHere_131 : decode cX11_wordHere 131 = .ok (.ifCond .eq 8, 3) := by decide +kernel
theorem dX11_wordHere_134 : decode cX11_wordHere 134 = .ok (.bipush 10, 2) := by decide +kernel
theorem dX11_wordHere_136 : decode cX11_wordHere 136 = .ok (.goto 19, 3) := by decide +kernel
theorem dX11_wordHere_139 : decode cX11_wordHere 139 = .ok (.aload_n 0, 1) := by decide +kernel
theorem dX11_wordHere_140 : decode cX11_wordHere 140 = .ok (.ldc2_w 156, 3) := by decide +kernel
theorem dX11_wordHere_143 : decode cX11_wordHere 143 = .ok (.invokevirtual 113, 3) := by decide +kernel
theorem dX11_wordHere_146 : decode cX11_wordHere 146 = .ok (.ifCond .eq 8, 3) := by decide +kernel
theorem dX11_wordHere_149 : decode cX11_wordHere 149 = .ok (.bipush 11, 2) := by decide +kernel
theorem dX11_wordHere_151 : decode cX11_wordHere 151 = .ok (.goto 4, 3) := by decide +kernel
theorem dX11_wordHere_154 : decode cX11_wordHere 154 = .ok (.iconst (-1), 1) := by decide +kernel
theorem dX11_wordHere_155 : decode cX11_wordHere 155 = .ok (.ireturn, 1) := by decide +kernel
theorem dX11_puts_0 : decode cX11_puts 0 = .ok (.aload_n 0, 1) := by decide +kernel
theorem dX11_puts_1 : decode cX11_puts 1 = .ok (.getfield 13, 3) := by decide +kernel
theorem dX11_puts_4 : decode cX11_puts 4 = .ok (.sipush 400, 3) := by decide +kernel
theorem dX11_puts_7 : decode cX11_puts 7 = .ok (.aload_n 0, 1) := by decide +kernel
theorem dX11_puts_8 : decode cX11_puts 8 = .ok (.getfield 158, 3) := by decide +kernel
theorem dX11_puts_11 : decode cX11_puts 11 = .ok (.imul, 1) := by decide +kernel
theorem dX11_puts_12 : decode cX11_puts 12 = .ok (.aload_n 0, 1) := by decide +kernel
theorem dX11_puts_13 : decode cX11_puts 13 = .ok (.getfield 17, 3) := by decide +kernel
theorem dX11_puts_16 : decode cX11_puts 16 = .ok (.aload_n 0, 1) := by decide +kernel
theorem dX11_puts_17 : decode cX11_puts 17 = .ok (.getfield 158, 3) := by decide +kernel
theorem dX11_puts_20 : decode cX11_puts 20 = .ok (.iaload, 1) := by decide +kernel
theorem dX11_puts_21 : decode cX11_puts 21 = .ok (.iadd, 1) := by decide +kernel
theorem dX11_puts_22 : decode cX11_puts 22 = .ok (.iload_n 1, 1) := by decide +kernel
theorem dX11_puts_23 : decode cX11_puts 23 = .ok (.bipush 16, 2) := by decide +kernel
theorem dX11_puts_25 : decode cX11_puts 25 = .ok (.iload_n 2, 1) := by decide +kernel
theorem dX11_puts_26 : decode cX11_puts 26 = .ok (.imul, 1) := by decide +kernel
theorem dX11_puts_27 : decode cX11_puts 27 = .ok (.iadd, 1) := by decide +kernel
theorem dX11_puts_28 : decode cX11_puts 28 = .ok (.iastore, 1) := by decide +kernel
theorem dX11_puts_29 : decode cX11_puts 29 = .ok (.aload_n 0, 1) := by decide +kernel
theorem dX11_puts_30 : decode cX11_puts 30 = .ok (.getfield 17, 3) := by decide +kernel
theorem dX11_puts_33 : decode cX11_puts 33 = .ok (.aload_n 0, 1) := by decide +kernel
theorem dX11_puts_34 : decode cX11_puts 34 = .ok (.getfield 158, 3) := by decide +kernel
theorem dX11_puts_37 : decode cX11_puts 37 = .ok (.dup2, 1) := by decide +kernel
theorem dX11_puts_38 : decode cX11_puts 38 = .ok (.iaload, 1) := by decide +kernel
theorem dX11_puts_39 : decode cX11_puts 39 = .ok (.iconst 1, 1) := by decide +kernel
theorem dX11_puts_40 : decode cX11_puts 40 = .ok (.iadd, 1) := by decide +kernel
theorem dX11_puts_41 : decode cX11_puts 41 = .ok (.iastore, 1) := by decide +kernel
theorem dX11_puts_42 : decode cX11_puts 42 = .ok (.return_, 1) := by decide +kernel
theorem dX11_makes_0 : decode cX11_makes 0 = .ok (.aload_n 0, 1) := by decide +kernel
theorem dX11_makes_1 : decode cX11_makes 1 = .ok (.getfield 161, 3) := by decide +kernel
theorem dX11_makes_4 : decode cX11_makes 4 = .ok (.bipush 60, 2) := by decide +kernel
theorem dX11_makes_6 : decode cX11_makes 6 = .ok (.if_icmp .ne 10, 3) := by decide +kernel
theorem dX11_makes_9 : decode cX11_makes 9 = .ok (.aload_n 0, 1) := by decide +kernel
theorem dX11_makes_10 : decode cX11_makes 10 = .ok (.iconst 3, 1) := by decide +kernel
theorem dX11_makes_11 : decode cX11_makes 11 = .ok (.iload_n 1, 1) := by decide +kernel
theorem dX11_makes_12 : decode cX11_makes 12 = .ok (.invokevirtual 123, 3) := by decide +kernel
theorem dX11_makes_15 : decode cX11_makes 15 = .ok (.ireturn, 1) := by decide +kernel
theorem dX11_makes_16 : decode cX11_makes 16 = .ok (.aload_n 0, 1) := by decide +kernel
theorem dX11_makes_17 : decode cX11_makes 17 = .ok (.dup, 1) := by decide +kernel
theorem dX11_makes_18 : decode cX11_makes 18 = .ok (.getfield 161, 3) := by decide +kernel
theorem dX11_makes_21 : decode cX11_makes 21 = .ok (.iconst 1, 1) := by decide +kernel
theorem dX11_makes_22 : decode cX11_makes 22 = .ok (.iadd, 1) := by decide +kernel
theorem dX11_makes_23 : decode cX11_makes 23 = .ok (.putfield 161, 3) := by decide +kernel
theorem dX11_makes_26 : decode cX11_makes 26 = .ok (.iconst 1, 1) := by decide +kernel
theorem dX11_makes_27 : decode cX11_makes 27 = .ok (.ireturn, 1) := by decide +kernel
theorem dX11_opens_0 : decode cX11_opens 0 = .ok (.aload_n 0, 1) := by decide +kernel
theorem dX11_opens_1 : decode cX11_opens 1 = .ok (.getfield 164, 3) := by decide +kernel
theorem dX11_opens_4 : decode cX11_opens 4 = .ok (.bipush 10, 2) := by decide +kernel
theorem dX11_opens_6 : decode cX11_opens 6 = .ok (.if_icmp .ne 13, 3) := by decide +kernel
theorem dX11_opens_9 : decode cX11_opens 9 = .ok (.aload_n 0, 1) := by decide +kernel
theorem dX11_opens_10 : decode cX11_opens 10 = .ok (.iconst 2, 1) := by decide +kernel
theorem dX11_opens_11 : decode cX11_opens 11 = .ok (.aload_n 0, 1) := by decide +kernel
theorem dX11_opens_12 : decode cX11_opens 12 = .ok (.getfield 102, 3) := by decide +kernel
theorem dX11_opens_15 : decode cX11_opens 15 = .ok (.invokevirtual 123, 3) := by decide +kernel
theorem dX11_opens_18 : decode cX11_opens 18 = .ok (.ireturn, 1) := by decide +kernel
theorem dX11_opens_19 : decode cX11_opens 19 = .ok (.aload_n 0, 1) := by decide +kernel
theorem dX11_opens_20 : decode cX11_opens 20 = .ok (.dup, 1) := by decide +kernel
theorem dX11_opens_21 : decode cX11_opens 21 = .ok (.getfield 164, 3) := by decide +kernel
theorem dX11_opens_24 : decode cX11_opens 24 = .ok (.iconst 1, 1) := by decide +kernel
theorem dX11_opens_25 : decode cX11_opens 25 = .ok (.iadd, 1) := by decide +kernel
theorem dX11_opens_26 : decode cX11_opens 26 = .ok (.putfield 164, 3) := by decide +kernel
theorem dX11_opens_29 : decode cX11_opens 29 = .ok (.aload_n 0, 1) := by decide +kernel
theorem dX11_opens_30 : decode cX11_opens 30 = .ok (.getfield 29, 3) := by decide +kernel
theorem dX11_opens_33 : decode cX11_opens 33 = .ok (.aload_n 0, 1) := by decide +kernel
theorem dX11_opens_34 : decode cX11_opens 34 = .ok (.getfield 167, 3) := by decide +kernel
theorem dX11_opens_37 : decode cX11_opens 37 = .ok (.iload_n 1, 1) := by decide +kernel
theorem dX11_opens_38 : decode cX11_opens 38 = .ok (.iastore, 1) := by decide +kernel
theorem dX11_opens_39 : decode cX11_opens 39 = .ok (.aload_n 0, 1) := by decide +kernel
theorem dX11_opens_40 : decode cX11_opens 40 = .ok (.dup, 1) := by decide +kernel
theorem dX11_opens_41 : decode cX11_opens 41 = .ok (.getfield 167, 3) := by decide +kernel
theorem dX11_opens_44 : decode cX11_opens 44 = .ok (.iconst 1, 1) := by decide +kernel
theorem dX11_opens_45 : decode cX11_opens 45 = .ok (.iadd, 1) := by decide +kernel
theorem dX11_opens_46 : decode cX11_opens 46 = .ok (.putfield 167, 3) := by decide +kernel
theorem dX11_opens_49 : decode cX11_opens 49 = .ok (.iconst 1, 1) := by decide +kernel
theorem dX11_opens_50 : decode cX11_opens 50 = .ok (.ireturn, 1) := by decide +kernel
theorem dX11_strength_0 : decode cX11_strength 0 = .ok (.iload_n 0, 1) := by decide +kernel
theorem dX11_strength_1 : decode cX11_strength 1 = .ok (.bipush 13, 2) := by decide +kernel
theorem dX11_strength_3 : decode cX11_strength 3 = .ok (.if_icmp .ne 7, 3) := by decide +kernel
theorem dX11_strength_6 : decode cX11_strength 6 = .ok (.iconst 1, 1) := by decide +kernel
theorem dX11_strength_7 : decode cX11_strength 7 = .ok (.goto 24, 3) := by decide +kernel
theorem dX11_strength_10 : decode cX11_strength 10 = .ok (.iload_n 0, 1) := by decide +kernel
theorem dX11_strength_11 : decode cX11_strength 11 = .ok (.bipush 12, 2) := by decide +kernel
theorem dX11_strength_13 : decode cX11_strength 13 = .ok (.if_icmp .ne 7, 3) := by decide +kernel
theorem dX11_strength_16 : decode cX11_strength 16 = .ok (.iconst 2, 1) := by decide +kernel
theorem dX11_strength_17 : decode cX11_strength 17 = .ok (.goto 14, 3) := by decide +kernel
theorem dX11_strength_20 : decode cX11_strength 20 = .ok (.iload_n 0, 1) := by decide +kernel
theorem dX11_strength_21 : decode cX11_strength 21 = .ok (.bipush 11, 2) := by decide +kernel
theorem dX11_strength_23 : decode cX11_strength 23 = .ok (.if_icmp .ne 7, 3) := by decide +kernel
theorem dX11_strength_26 : decode cX11_strength 26 = .ok (.iconst 3, 1) := by decide +kernel
theorem dX11_strength_27 : decode cX11_strength 27 = .ok (.goto 4, 3) := by decide +kernel
theorem dX11_strength_30 : decode cX11_strength 30 = .ok (.iconst 0, 1) := by decide +kernel
theorem dX11_strength_31 : decode cX11_strength 31 = .ok (.ireturn, 1) := by decide +kernel
theorem dX11_layDown_0 : decode cX11_layDown 0 = .ok (.aload_n 0, 1) := by decide +kernel
theorem dX11_layDown_1 : decode cX11_layDown 1 = .ok (.getfield 167, 3) := by decide +kernel
theorem dX11_layDown_4 : decode cX11_layDown 4 = .ok (.ifCond .le 72, 3) := by decide +kernel
theorem dX11_layDown_7 : decode cX11_layDown 7 = .ok (.aload_n 0, 1) := by decide +kernel
theorem dX11_layDown_8 : decode cX11_layDown 8 = .ok (.getfield 29, 3) := by decide +kernel
theorem dX11_layDown_11 : decode cX11_layDown 11 = .ok (.aload_n 0, 1) := by decide +kernel
theorem dX11_layDown_12 : decode cX11_layDown 12 = .ok (.getfield 167, 3) := by decide +kernel
theorem dX11_layDown_15 : decode cX11_layDown 15 = .ok (.iconst 1, 1) := by decide +kernel
theorem dX11_layDown_16 : decode cX11_layDown 16 = .ok (.isub, 1) := by decide +kernel
theorem dX11_layDown_17 : decode cX11_layDown 17 = .ok (.iaload, 1) := by decide +kernel
theorem dX11_layDown_18 : decode cX11_layDown 18 = .ok (.invokestatic 170, 3) := by decide +kernel
theorem dX11_layDown_21 : decode cX11_layDown 21 = .ok (.iload_n 1, 1) := by decide +kernel
theorem dX11_layDown_22 : decode cX11_layDown 22 = .ok (.if_icmp .lt 54, 3) := by decide +kernel
theorem dX11_layDown_25 : decode cX11_layDown 25 = .ok (.aload_n 0, 1) := by decide +kernel
theorem dX11_layDown_26 : decode cX11_layDown 26 = .ok (.dup, 1) := by decide +kernel
theorem dX11_layDown_27 : decode cX11_layDown 27 = .ok (.getfield 167, 3) := by decide +kernel
theorem dX11_layDown_30 : decode cX11_layDown 30 = .ok (.iconst 1, 1) := by decide +kernel
theorem dX11_layDown_31 : decode cX11_layDown 31 = .ok (.isub, 1) := by decide +kernel
theorem dX11_layDown_32 : decode cX11_layDown 32 = .ok (.putfield 167, 3) := by decide +kernel
theorem dX11_layDown_35 : decode cX11_layDown 35 = .ok (.aload_n 0, 1) := by decide +kernel
theorem dX11_layDown_36 : decode cX11_layDown 36 = .ok (.aload_n 0, 1) := by decide +kernel
theorem dX11_layDown_37 : decode cX11_layDown 37 = .ok (.getfield 29, 3) := by decide +kernel
theorem dX11_layDown_40 : decode cX11_layDown 40 = .ok (.aload_n 0, 1) := by decide +kernel
theorem dX11_layDown_41 : decode cX11_layDown 41 = .ok (.getfield 167, 3) := by decide +kernel
theorem dX11_layDown_44 : decode cX11_layDown 44 = .ok (.iaload, 1) := by decide +kernel
theorem dX11_layDown_45 : decode cX11_layDown 45 = .ok (.iconst 0, 1) := by decide +kernel
theorem dX11_layDown_46 : decode cX11_layDown 46 = .ok (.invokevirtual 174, 3) := by decide +kernel
theorem dX11_layDown_49 : decode cX11_layDown 49 = .ok (.aload_n 0, 1) := by decide +kernel
theorem dX11_layDown_50 : decode cX11_layDown 50 = .ok (.getfield 29, 3) := by decide +kernel
theorem dX11_layDown_53 : decode cX11_layDown 53 = .ok (.aload_n 0, 1) := by decide +kernel
theorem dX11_layDown_54 : decode cX11_layDown 54 = .ok (.getfield 167, 3) := by decide +kernel
theorem dX11_layDown_57 : decode cX11_layDown 57 = .ok (.iaload, 1) := by decide +kernel
theorem dX11_layDown_58 : decode cX11_layDown 58 = .ok (.bipush 11, 2) := by decide +kernel
theorem dX11_layDown_60 : decode cX11_layDown 60 = .ok (.if_icmp .ne (-60), 3) := by decide +kernel
theorem dX11_layDown_63 : decode cX11_layDown 63 = .ok (.aload_n 0, 1) := by decide +kernel
theorem dX11_layDown_64 : decode cX11_layDown 64 = .ok (.dup, 1) := by decide +kernel
theorem dX11_layDown_65 : decode cX11_layDown 65 = .ok (.getfield 164, 3) := by decide +kernel
theorem dX11_layDown_68 : decode cX11_layDown 68 = .ok (.iconst 1, 1) := by decide +kernel
theorem dX11_layDown_69 : decode cX11_layDown 69 = .ok (.isub, 1) := by decide +kernel
theorem dX11_layDown_70 : decode cX11_layDown 70 = .ok (.putfield 164, 3) := by decide +kernel
theorem dX11_layDown_73 : decode cX11_layDown 73 = .ok (.goto (-73), 3) := by decide +kernel
theorem dX11_layDown_76 : decode cX11_layDown 76 = .ok (.return_, 1) := by decide +kernel
theorem dX11_value_0 : decode cX11_value 0 = .ok (.aload_n 0, 1) := by decide +kernel
theorem dX11_value_1 : decode cX11_value 1 = .ok (.invokevirtual 105, 3) := by decide +kernel
theorem dX11_value_4 : decode cX11_value 4 = .ok (.pop, 1) := by decide +kernel
theorem dX11_value_5 : decode cX11_value 5 = .ok (.aload_n 0, 1) := by decide +kernel
theorem dX11_value_6 : decode cX11_value 6 = .ok (.getfield 102, 3) := by decide +kernel
theorem dX11_value_9 : decode cX11_value 9 = .ok (.istore_n 1, 1) := by decide +kernel
theorem dX11_value_10 : decode cX11_value 10 = .ok (.aload_n 0, 1) := by decide +kernel
theorem dX11_value_11 : decode cX11_value 11 = .ok (.aload_n 0, 1) := by decide +kernel
theorem dX11_value_12 : decode cX11_value 12 = .ok (.getfield 102, 3) := by decide +kernel
theorem dX11_value_15 : decode cX11_value 15 = .ok (.invokevirtual 120, 3) := by decide +kernel
theorem dX11_value_18 : decode cX11_value 18 = .ok (.ifCond .eq 34, 3) := by decide +kernel
theorem dX11_value_21 : decode cX11_value 21 = .ok (.aload_n 0, 1) := by decide +kernel
theorem dX11_value_22 : decode cX11_value 22 = .ok (.iconst 0, 1) := by decide +kernel
theorem dX11_value_23 : decode cX11_value 23 = .ok (.ldc 178, 2) := by decide +kernel
theorem dX11_value_25 : decode cX11_value 25 = .ok (.invokevirtual 179, 3) := by decide +kernel
theorem dX11_value_28 : decode cX11_value 28 = .ok (.ifCond .eq 11, 3) := by decide +kernel
theorem dX11_value_31 : decode cX11_value 31 = .ok (.aload_n 0, 1) := by decide +kernel
theorem dX11_value_32 : decode cX11_value 32 = .ok (.iload_n 1, 1) := by decide +kernel
theorem dX11_value_33 : decode cX11_value 33 = .ok (.invokevirtual 182, 3) := by decide +kernel
theorem dX11_value_36 : decode cX11_value 36 = .ok (.ifCond .ne 5, 3) := by decide +kernel
theorem dX11_value_39 : decode cX11_value 39 = .ok (.iconst 0, 1) := by decide +kernel
theorem dX11_value_40 : decode cX11_value 40 = .ok (.ireturn, 1) := by decide +kernel
theorem dX11_value_41 : decode cX11_value 41 = .ok (.aload_n 0, 1) := by decide +kernel
theorem dX11_value_42 : decode cX11_value 42 = .ok (.iconst 0, 1) := by decide +kernel
theorem dX11_value_43 : decode cX11_value 43 = .ok (.aload_n 0, 1) := by decide +kernel
theorem dX11_value_44 : decode cX11_value 44 = .ok (.getfield 127, 3) := by decide +kernel
theorem dX11_value_47 : decode cX11_value 47 = .ok (.invokevirtual 174, 3) := by decide +kernel
theorem dX11_value_50 : decode cX11_value 50 = .ok (.iconst 1, 1) := by decide +kernel
theorem dX11_value_51 : decode cX11_value 51 = .ok (.ireturn, 1) := by decide +kernel
theorem dX11_value_52 : decode cX11_value 52 = .ok (.aload_n 0, 1) := by decide +kernel
theorem dX11_value_53 : decode cX11_value 53 = .ok (.invokevirtual 185, 3) := by decide +kernel
theorem dX11_value_56 : decode cX11_value 56 = .ok (.istore_n 2, 1) := by decide +kernel
theorem dX11_value_57 : decode cX11_value 57 = .ok (.iload_n 2, 1) := by decide +kernel
theorem dX11_value_58 : decode cX11_value 58 = .ok (.ifCond .ge 10, 3) := by decide +kernel
theorem dX11_value_61 : decode cX11_value 61 = .ok (.aload_n 0, 1) := by decide +kernel
theorem dX11_value_62 : decode cX11_value 62 = .ok (.iconst 0, 1) := by decide +kernel
theorem dX11_value_63 : decode cX11_value 63 = .ok (.iload_n 1, 1) := by decide +kernel
theorem dX11_value_64 : decode cX11_value 64 = .ok (.invokevirtual 123, 3) := by decide +kernel
theorem dX11_value_67 : decode cX11_value 67 = .ok (.ireturn, 1) := by decide +kernel
theorem dX11_value_68 : decode cX11_value 68 = .ok (.aload_n 0, 1) := by decide +kernel
theorem dX11_value_69 : decode cX11_value 69 = .ok (.iload_n 1, 1) := by decide +kernel
theorem dX11_value_70 : decode cX11_value 70 = .ok (.invokevirtual 182, 3) := by decide +kernel
theorem dX11_value_73 : decode cX11_value 73 = .ok (.ifCond .ne 5, 3) := by decide +kernel
theorem dX11_value_76 : decode cX11_value 76 = .ok (.iconst 0, 1) := by decide +kernel
theorem dX11_value_77 : decode cX11_value 77 = .ok (.ireturn, 1) := by decide +kernel
theorem dX11_value_78 : decode cX11_value 78 = .ok (.aload_n 0, 1) := by decide +kernel
theorem dX11_value_79 : decode cX11_value 79 = .ok (.invokevirtual 117, 3) := by decide +kernel
theorem dX11_value_82 : decode cX11_value 82 = .ok (.aload_n 0, 1) := by decide +kernel
theorem dX11_value_83 : decode cX11_value 83 = .ok (.iconst 1, 1) := by decide +kernel
theorem dX11_value_84 : decode cX11_value 84 = .ok (.iload_n 2, 1) := by decide +kernel
theorem dX11_value_85 : decode cX11_value 85 = .ok (.invokevirtual 174, 3) := by decide +kernel
theorem dX11_value_88 : decode cX11_value 88 = .ok (.iconst 1, 1) := by decide +kernel
theorem dX11_value_89 : decode cX11_value 89 = .ok (.ireturn, 1) := by decide +kernel
theorem dX11_term_0 : decode cX11_term 0 = .ok (.aload_n 0, 1) := by decide +kernel
theorem dX11_term_1 : decode cX11_term 1 = .ok (.invokevirtual 188, 3) := by decide +kernel
theorem dX11_term_4 : decode cX11_term 4 = .ok (.ifCond .ne 5, 3) := by decide +kernel
theorem dX11_term_7 : decode cX11_term 7 = .ok (.iconst 0, 1) := by decide +kernel
theorem dX11_term_8 : decode cX11_term 8 = .ok (.ireturn, 1) := by decide +kernel
theorem dX11_term_9 : decode cX11_term 9 = .ok (.aload_n 0, 1) := by decide +kernel
theorem dX11_term_10 : decode cX11_term 10 = .ok (.invokevirtual 105, 3) := by decide +kernel
theorem dX11_term_13 : decode cX11_term 13 = .ok (.bipush 42, 2) := by decide +kernel
theorem dX11_term_15 : decode cX11_term 15 = .ok (.if_icmp .eq 21, 3) := by decide +kernel
theorem dX11_term_18 : decode cX11_term 18 = .ok (.aload_n 0, 1) := by decide +kernel
theorem dX11_term_19 : decode cX11_term 19 = .ok (.invokevirtual 105, 3) := by decide +kernel
theorem dX11_term_22 : decode cX11_term 22 = .ok (.bipush 47, 2) := by decide +kernel
theorem dX11_term_24 : decode cX11_term 24 = .ok (.if_icmp .eq 12, 3) := by decide +kernel
theorem dX11_term_27 : decode cX11_term 27 = .ok (.aload_n 0, 1) := by decide +kernel
theorem dX11_term_28 : decode cX11_term 28 = .ok (.invokevirtual 105, 3) := by decide +kernel
theorem dX11_term_31 : decode cX11_term 31 = .ok (.bipush 37, 2) := by decide +kernel
theorem dX11_term_33 : decode cX11_term 33 = .ok (.if_icmp .ne 70, 3) := by decide +kernel
theorem dX11_term_36 : decode cX11_term 36 = .ok (.aload_n 0, 1) := by decide +kernel
theorem dX11_term_37 : decode cX11_term 37 = .ok (.getfield 7, 3) := by decide +kernel
theorem dX11_term_40 : decode cX11_term 40 = .ok (.aload_n 0, 1) := by decide +kernel
theorem dX11_term_41 : decode cX11_term 41 = .ok (.getfield 102, 3) := by decide +kernel
theorem dX11_term_44 : decode cX11_term 44 = .ok (.baload, 1) := by decide +kernel
theorem dX11_term_45 : decode cX11_term 45 = .ok (.bipush 42, 2) := by decide +kernel
theorem dX11_term_47 : decode cX11_term 47 = .ok (.if_icmp .ne 7, 3) := by decide +kernel
theorem dX11_term_50 : decode cX11_term 50 = .ok (.iconst 4, 1) := by decide +kernel
theorem dX11_term_51 : decode cX11_term 51 = .ok (.goto 23, 3) := by decide +kernel
theorem dX11_term_54 : decode cX11_term 54 = .ok (.aload_n 0, 1) := by decide +kernel
theorem dX11_term_55 : decode cX11_term 55 = .ok (.getfield 7, 3) := by decide +kernel
theorem dX11_term_58 : decode cX11_term 58 = .ok (.aload_n 0, 1) := by decide +kernel
theorem dX11_term_59 : decode cX11_term 59 = .ok (.getfield 102, 3) := by decide +kernel
theorem dX11_term_62 : decode cX11_term 62 = .ok (.baload, 1) := by decide +kernel
theorem dX11_term_63 : decode cX11_term 63 = .ok (.bipush 47, 2) := by decide +kernel
theorem dX11_term_65 : decode cX11_term 65 = .ok (.if_icmp .ne 7, 3) := by decide +kernel
theorem dX11_term_68 : decode cX11_term 68 = .ok (.iconst 5, 1) := by decide +kernel
theorem dX11_term_69 : decode cX11_term 69 = .ok (.goto 5, 3) := by decide +kernel
theorem dX11_term_72 : decode cX11_term 72 = .ok (.bipush 14, 2) := by decide +kernel
theorem dX11_term_74 : decode cX11_term 74 = .ok (.istore_n 1, 1) := by decide +kernel
theorem dX11_term_75 : decode cX11_term 75 = .ok (.aload_n 0, 1) := by decide +kernel
theorem dX11_term_76 : decode cX11_term 76 = .ok (.dup, 1) := by decide +kernel
theorem dX11_term_77 : decode cX11_term 77 = .ok (.getfield 102, 3) := by decide +kernel
theorem dX11_term_80 : decode cX11_term 80 = .ok (.iconst 1, 1) := by decide +kernel
theorem dX11_term_81 : decode cX11_term 81 = .ok (.iadd, 1) := by decide +kernel
theorem dX11_term_82 : decode cX11_term 82 = .ok (.putfield 102, 3) := by decide +kernel
theorem dX11_term_85 : decode cX11_term 85 = .ok (.aload_n 0, 1) := by decide +kernel
theorem dX11_term_86 : decode cX11_term 86 = .ok (.invokevirtual 188, 3) := by decide +kernel
theorem dX11_term_89 : decode cX11_term 89 = .ok (.ifCond .ne 5, 3) := by decide +kernel
theorem dX11_term_92 : decode cX11_term 92 = .ok (.iconst 0, 1) := by decide +kernel
theorem dX11_term_93 : decode cX11_term 93 = .ok (.ireturn, 1) := by decide +kernel
theorem dX11_term_94 : decode cX11_term 94 = .ok (.aload_n 0, 1) := by decide +kernel
theorem dX11_term_95 : decode cX11_term 95 = .ok (.iload_n 1, 1) := by decide +kernel
theorem dX11_term_96 : decode cX11_term 96 = .ok (.iconst 0, 1) := by decide +kernel
theorem dX11_term_97 : decode cX11_term 97 = .ok (.invokevirtual 174, 3) := by decide +kernel
theorem dX11_term_100 : decode cX11_term 100 = .ok (.goto (-91), 3) := by decide +kernel
theorem dX11_term_103 : decode cX11_term 103 = .ok (.iconst 1, 1) := by decide +kernel
theorem dX11_term_104 : decode cX11_term 104 = .ok (.ireturn, 1) := by decide +kernel
theorem dX11_sum_0 : decode cX11_sum 0 = .ok (.aload_n 0, 1) := by decide +kernel
theorem dX11_sum_1 : decode cX11_sum 1 = .ok (.invokevirtual 192, 3) := by decide +kernel
theorem dX11_sum_4 : decode cX11_sum 4 = .ok (.ifCond .ne 5, 3) := by decide +kernel
theorem dX11_sum_7 : decode cX11_sum 7 = .ok (.iconst 0, 1) := by decide +kernel
theorem dX11_sum_8 : decode cX11_sum 8 = .ok (.ireturn, 1) := by decide +kernel
theorem dX11_sum_9 : decode cX11_sum 9 = .ok (.aload_n 0, 1) := by decide +kernel
theorem dX11_sum_10 : decode cX11_sum 10 = .ok (.invokevirtual 105, 3) := by decide +kernel
theorem dX11_sum_13 : decode cX11_sum 13 = .ok (.bipush 43, 2) := by decide +kernel
theorem dX11_sum_15 : decode cX11_sum 15 = .ok (.if_icmp .eq 12, 3) := by decide +kernel
theorem dX11_sum_18 : decode cX11_sum 18 = .ok (.aload_n 0, 1) := by decide +kernel
theorem dX11_sum_19 : decode cX11_sum 19 = .ok (.invokevirtual 105, 3) := by decide +kernel
theorem dX11_sum_22 : decode cX11_sum 22 = .ok (.bipush 45, 2) := by decide +kernel
theorem dX11_sum_24 : decode cX11_sum 24 = .ok (.if_icmp .ne 51, 3) := by decide +kernel
theorem dX11_sum_27 : decode cX11_sum 27 = .ok (.aload_n 0, 1) := by decide +kernel
theorem dX11_sum_28 : decode cX11_sum 28 = .ok (.getfield 7, 3) := by decide +kernel
theorem dX11_sum_31 : decode cX11_sum 31 = .ok (.aload_n 0, 1) := by decide +kernel
theorem dX11_sum_32 : decode cX11_sum 32 = .ok (.getfield 102, 3) := by decide +kernel
theorem dX11_sum_35 : decode cX11_sum 35 = .ok (.baload, 1) := by decide +kernel
theorem dX11_sum_36 : decode cX11_sum 36 = .ok (.bipush 43, 2) := by decide +kernel
theorem dX11_sum_38 : decode cX11_sum 38 = .ok (.if_icmp .ne 7, 3) := by decide +kernel
theorem dX11_sum_41 : decode cX11_sum 41 = .ok (.iconst 2, 1) := by decide +kernel
theorem dX11_sum_42 : decode cX11_sum 42 = .ok (.goto 4, 3) := by decide +kernel
theorem dX11_sum_45 : decode cX11_sum 45 = .ok (.iconst 3, 1) := by decide +kernel
theorem dX11_sum_46 : decode cX11_sum 46 = .ok (.istore_n 1, 1) := by decide +kernel
theorem dX11_sum_47 : decode cX11_sum 47 = .ok (.aload_n 0, 1) := by decide +kernel
theorem dX11_sum_48 : decode cX11_sum 48 = .ok (.dup, 1) := by decide +kernel
theorem dX11_sum_49 : decode cX11_sum 49 = .ok (.getfield 102, 3) := by decide +kernel
theorem dX11_sum_52 : decode cX11_sum 52 = .ok (.iconst 1, 1) := by decide +kernel
theorem dX11_sum_53 : decode cX11_sum 53 = .ok (.iadd, 1) := by decide +kernel
theorem dX11_sum_54 : decode cX11_sum 54 = .ok (.putfield 102, 3) := by decide +kernel
theorem dX11_sum_57 : decode cX11_sum 57 = .ok (.aload_n 0, 1) := by decide +kernel
theorem dX11_sum_58 : decode cX11_sum 58 = .ok (.invokevirtual 192, 3) := by decide +kernel
theorem dX11_sum_61 : decode cX11_sum 61 = .ok (.ifCond .ne 5, 3) := by decide +kernel
theorem dX11_sum_64 : decode cX11_sum 64 = .ok (.iconst 0, 1) := by decide +kernel
theorem dX11_sum_65 : decode cX11_sum 65 = .ok (.ireturn, 1) := by decide +kernel
theorem dX11_sum_66 : decode cX11_sum 66 = .ok (.aload_n 0, 1) := by decide +kernel
theorem dX11_sum_67 : decode cX11_sum 67 = .ok (.iload_n 1, 1) := by decide +kernel
theorem dX11_sum_68 : decode cX11_sum 68 = .ok (.iconst 0, 1) := by decide +kernel
theorem dX11_sum_69 : decode cX11_sum 69 = .ok (.invokevirtual 174, 3) := by decide +kernel
theorem dX11_sum_72 : decode cX11_sum 72 = .ok (.goto (-63), 3) := by decide +kernel
theorem dX11_sum_75 : decode cX11_sum 75 = .ok (.iconst 1, 1) := by decide +kernel
theorem dX11_sum_76 : decode cX11_sum 76 = .ok (.ireturn, 1) := by decide +kernel
theorem dX11_compare_0 : decode cX11_compare 0 = .ok (.aload_n 0, 1) := by decide +kernel
theorem dX11_compare_1 : decode cX11_compare 1 = .ok (.invokevirtual 195, 3) := by decide +kernel
theorem dX11_compare_4 : decode cX11_compare 4 = .ok (.ifCond .ne 5, 3) := by decide +kernel
theorem dX11_compare_7 : decode cX11_compare 7 = .ok (.iconst 0, 1) := by decide +kernel
theorem dX11_compare_8 : decode cX11_compare 8 = .ok (.ireturn, 1) := by decide +kernel
theorem dX11_compare_9 : decode cX11_compare 9 = .ok (.aload_n 0, 1) := by decide +kernel
theorem dX11_compare_10 : decode cX11_compare 10 = .ok (.invokevirtual 105, 3) := by decide +kernel
theorem dX11_compare_13 : decode cX11_compare 13 = .ok (.istore_n 1, 1) := by decide +kernel
theorem dX11_compare_14 : decode cX11_compare 14 = .ok (.aload_n 0, 1) := by decide +kernel
theorem dX11_compare_15 : decode cX11_compare 15 = .ok (.getfield 102, 3) := by decide +kernel
theorem dX11_compare_18 : decode cX11_compare 18 = .ok (.istore_n 2, 1) := by decide +kernel
theorem dX11_compare_19 : decode cX11_compare 19 = .ok (.iload_n 1, 1) := by decide +kernel
theorem dX11_compare_20 : decode cX11_compare 20 = .ok (.bipush 60, 2) := by decide +kernel
theorem dX11_compare_22 : decode cX11_compare 22 = .ok (.if_icmp .eq 22, 3) := by decide +kernel
theorem dX11_compare_25 : decode cX11_compare 25 = .ok (.iload_n 1, 1) := by decide +kernel
theorem dX11_compare_26 : decode cX11_compare 26 = .ok (.bipush 61, 2) := by decide +kernel
theorem dX11_compare_28 : decode cX11_compare 28 = .ok (.if_icmp .eq 16, 3) := by decide +kernel
theorem dX11_compare_31 : decode cX11_compare 31 = .ok (.iload_n 1, 1) := by decide +kernel
theorem dX11_compare_32 : decode cX11_compare 32 = .ok (.bipush 62, 2) := by decide +kernel
theorem dX11_compare_34 : decode cX11_compare 34 = .ok (.if_icmp .eq 10, 3) := by decide +kernel
theorem dX11_compare_37 : decode cX11_compare 37 = .ok (.aload_n 0, 1) := by decide +kernel
theorem dX11_compare_38 : decode cX11_compare 38 = .ok (.iconst 0, 1) := by decide +kernel
theorem dX11_compare_39 : decode cX11_compare 39 = .ok (.iload_n 2, 1) := by decide +kernel
theorem dX11_compare_40 : decode cX11_compare 40 = .ok (.invokevirtual 123, 3) := by decide +kernel
theorem dX11_compare_43 : decode cX11_compare 43 = .ok (.ireturn, 1) := by decide +kernel
theorem dX11_compare_44 : decode cX11_compare 44 = .ok (.aload_n 0, 1) := by decide +kernel
theorem dX11_compare_45 : decode cX11_compare 45 = .ok (.dup, 1) := by decide +kernel
theorem dX11_compare_46 : decode cX11_compare 46 = .ok (.getfield 102, 3) := by decide +kernel
theorem dX11_compare_49 : decode cX11_compare 49 = .ok (.iconst 1, 1) := by decide +kernel
theorem dX11_compare_50 : decode cX11_compare 50 = .ok (.iadd, 1) := by decide +kernel
theorem dX11_compare_51 : decode cX11_compare 51 = .ok (.putfield 102, 3) := by decide +kernel
theorem dX11_compare_54 : decode cX11_compare 54 = .ok (.iload_n 1, 1) := by decide +kernel
theorem dX11_compare_55 : decode cX11_compare 55 = .ok (.bipush 61, 2) := by decide +kernel
theorem dX11_compare_57 : decode cX11_compare 57 = .ok (.if_icmp .eq 32, 3) := by decide +kernel
theorem dX11_compare_60 : decode cX11_compare 60 = .ok (.aload_n 0, 1) := by decide +kernel
theorem dX11_compare_61 : decode cX11_compare 61 = .ok (.getfield 102, 3) := by decide +kernel
theorem dX11_compare_64 : decode cX11_compare 64 = .ok (.aload_n 0, 1) := by decide +kernel
theorem dX11_compare_65 : decode cX11_compare 65 = .ok (.getfield 92, 3) := by decide +kernel
theorem dX11_compare_68 : decode cX11_compare 68 = .ok (.if_icmp .ge 21, 3) := by decide +kernel
theorem dX11_compare_71 : decode cX11_compare 71 = .ok (.aload_n 0, 1) := by decide +kernel
theorem dX11_compare_72 : decode cX11_compare 72 = .ok (.getfield 7, 3) := by decide +kernel
theorem dX11_compare_75 : decode cX11_compare 75 = .ok (.aload_n 0, 1) := by decide +kernel
theorem dX11_compare_76 : decode cX11_compare 76 = .ok (.getfield 102, 3) := by decide +kernel
theorem dX11_compare_79 : decode cX11_compare 79 = .ok (.baload, 1) := by decide +kernel
theorem dX11_compare_80 : decode cX11_compare 80 = .ok (.bipush 61, 2) := by decide +kernel
theorem dX11_compare_82 : decode cX11_compare 82 = .ok (.if_icmp .ne 7, 3) := by decide +kernel
theorem dX11_compare_85 : decode cX11_compare 85 = .ok (.iconst 1, 1) := by decide +kernel
theorem dX11_compare_86 : decode cX11_compare 86 = .ok (.goto 4, 3) := by decide +kernel
theorem dX11_compare_89 : decode cX11_compare 89 = .ok (.iconst 0, 1) := by decide +kernel
theorem dX11_compare_90 : decode cX11_compare 90 = .ok (.istore_n 3, 1) := by decide +kernel
theorem dX11_compare_91 : decode cX11_compare 91 = .ok (.iload_n 3, 1) := by decide +kernel
theorem dX11_compare_92 : decode cX11_compare 92 = .ok (.ifCond .eq 13, 3) := by decide +kernel
theorem dX11_compare_95 : decode cX11_compare 95 = .ok (.aload_n 0, 1) := by decide +kernel
theorem dX11_compare_96 : decode cX11_compare 96 = .ok (.dup, 1) := by decide +kernel
theorem dX11_compare_97 : decode cX11_compare 97 = .ok (.getfield 102, 3) := by decide +kernel
theorem dX11_compare_100 : decode cX11_compare 100 = .ok (.iconst 1, 1) := by decide +kernel
theorem dX11_compare_101 : decode cX11_compare 101 = .ok (.iadd, 1) := by decide +kernel
theorem dX11_compare_102 : decode cX11_compare 102 = .ok (.putfield 102, 3) := by decide +kernel
theorem dX11_compare_105 : decode cX11_compare 105 = .ok (.aload_n 0, 1) := by decide +kernel
theorem dX11_compare_106 : decode cX11_compare 106 = .ok (.iload_n 2, 1) := by decide +kernel
theorem dX11_compare_107 : decode cX11_compare 107 = .ok (.invokevirtual 182, 3) := by decide +kernel
theorem dX11_compare_110 : decode cX11_compare 110 = .ok (.ifCond .ne 5, 3) := by decide +kernel
theorem dX11_compare_113 : decode cX11_compare 113 = .ok (.iconst 0, 1) := by decide +kernel
theorem dX11_compare_114 : decode cX11_compare 114 = .ok (.ireturn, 1) := by decide +kernel
theorem dX11_compare_115 : decode cX11_compare 115 = .ok (.iload_n 1, 1) := by decide +kernel
theorem dX11_compare_116 : decode cX11_compare 116 = .ok (.bipush 60, 2) := by decide +kernel
theorem dX11_compare_118 : decode cX11_compare 118 = .ok (.if_icmp .ne 15, 3) := by decide +kernel
theorem dX11_compare_121 : decode cX11_compare 121 = .ok (.iload_n 3, 1) := by decide +kernel
theorem dX11_compare_122 : decode cX11_compare 122 = .ok (.ifCond .eq 7, 3) := by decide +kernel
theorem dX11_compare_125 : decode cX11_compare 125 = .ok (.iconst 1, 1) := by decide +kernel
theorem dX11_compare_126 : decode cX11_compare 126 = .ok (.goto 26, 3) := by decide +kernel
theorem dX11_compare_129 : decode cX11_compare 129 = .ok (.iconst 0, 1) := by decide +kernel
theorem dX11_compare_130 : decode cX11_compare 130 = .ok (.goto 22, 3) := by decide +kernel
theorem dX11_compare_133 : decode cX11_compare 133 = .ok (.iload_n 1, 1) := by decide +kernel
theorem dX11_compare_134 : decode cX11_compare 134 = .ok (.bipush 61, 2) := by decide +kernel
theorem dX11_compare_136 : decode cX11_compare 136 = .ok (.if_icmp .ne 7, 3) := by decide +kernel
theorem dX11_compare_139 : decode cX11_compare 139 = .ok (.iconst 2, 1) := by decide +kernel
theorem dX11_compare_140 : decode cX11_compare 140 = .ok (.goto 12, 3) := by decide +kernel
theorem dX11_compare_143 : decode cX11_compare 143 = .ok (.iload_n 3, 1) := by decide +kernel
theorem dX11_compare_144 : decode cX11_compare 144 = .ok (.ifCond .eq 7, 3) := by decide +kernel
theorem dX11_compare_147 : decode cX11_compare 147 = .ok (.iconst 3, 1) := by decide +kernel
theorem dX11_compare_148 : decode cX11_compare 148 = .ok (.goto 4, 3) := by decide +kernel
theorem dX11_compare_151 : decode cX11_compare 151 = .ok (.iconst 4, 1) := by decide +kernel
theorem dX11_compare_152 : decode cX11_compare 152 = .ok (.istore 4, 2) := by decide +kernel
theorem dX11_compare_154 : decode cX11_compare 154 = .ok (.aload_n 0, 1) := by decide +kernel
theorem dX11_compare_155 : decode cX11_compare 155 = .ok (.invokevirtual 195, 3) := by decide +kernel
theorem dX11_compare_158 : decode cX11_compare 158 = .ok (.ifCond .ne 5, 3) := by decide +kernel
theorem dX11_compare_161 : decode cX11_compare 161 = .ok (.iconst 0, 1) := by decide +kernel
theorem dX11_compare_162 : decode cX11_compare 162 = .ok (.ireturn, 1) := by decide +kernel
theorem dX11_compare_163 : decode cX11_compare 163 = .ok (.aload_n 0, 1) := by decide +kernel
theorem dX11_compare_164 : decode cX11_compare 164 = .ok (.bipush 6, 2) := by decide +kernel
theorem dX11_compare_166 : decode cX11_compare 166 = .ok (.iload 4, 2) := by decide +kernel
theorem dX11_compare_168 : decode cX11_compare 168 = .ok (.iadd, 1) := by decide +kernel
theorem dX11_compare_169 : decode cX11_compare 169 = .ok (.iconst 0, 1) := by decide +kernel
theorem dX11_compare_170 : decode cX11_compare 170 = .ok (.invokevirtual 174, 3) := by decide +kernel
theorem dX11_compare_173 : decode cX11_compare 173 = .ok (.iconst 1, 1) := by decide +kernel
theorem dX11_compare_174 : decode cX11_compare 174 = .ok (.ireturn, 1) := by decide +kernel
theorem dX11_fact_0 : decode cX11_fact 0 = .ok (.iconst 1, 1) := by decide +kernel
theorem dX11_fact_1 : decode cX11_fact 1 = .ok (.istore_n 1, 1) := by decide +kernel
theorem dX11_fact_2 : decode cX11_fact 2 = .ok (.iload_n 1, 1) := by decide +kernel
theorem dX11_fact_3 : decode cX11_fact 3 = .ok (.ifCond .eq 72, 3) := by decide +kernel
theorem dX11_fact_6 : decode cX11_fact 6 = .ok (.iconst 0, 1) := by decide +kernel
theorem dX11_fact_7 : decode cX11_fact 7 = .ok (.istore_n 1, 1) := by decide +kernel
theorem dX11_fact_8 : decode cX11_fact 8 = .ok (.aload_n 0, 1) := by decide +kernel
theorem dX11_fact_9 : decode cX11_fact 9 = .ok (.invokevirtual 105, 3) := by decide +kernel
theorem dX11_fact_12 : decode cX11_fact 12 = .ok (.istore_n 2, 1) := by decide +kernel
theorem dX11_fact_13 : decode cX11_fact 13 = .ok (.aload_n 0, 1) := by decide +kernel
theorem dX11_fact_14 : decode cX11_fact 14 = .ok (.ldc2_w 198, 3) := by decide +kernel
theorem dX11_fact_17 : decode cX11_fact 17 = .ok (.invokevirtual 113, 3) := by decide +kernel
theorem dX11_fact_20 : decode cX11_fact 20 = .ok (.ifCond .eq 23, 3) := by decide +kernel
theorem dX11_fact_23 : decode cX11_fact 23 = .ok (.aload_n 0, 1) := by decide +kernel
theorem dX11_fact_24 : decode cX11_fact 24 = .ok (.bipush 11, 2) := by decide +kernel
theorem dX11_fact_26 : decode cX11_fact 26 = .ok (.invokevirtual 200, 3) := by decide +kernel
theorem dX11_fact_29 : decode cX11_fact 29 = .ok (.ifCond .ne 5, 3) := by decide +kernel
theorem dX11_fact_32 : decode cX11_fact 32 = .ok (.iconst 0, 1) := by decide +kernel
theorem dX11_fact_33 : decode cX11_fact 33 = .ok (.ireturn, 1) := by decide +kernel
theorem dX11_fact_34 : decode cX11_fact 34 = .ok (.aload_n 0, 1) := by decide +kernel
theorem dX11_fact_35 : decode cX11_fact 35 = .ok (.invokevirtual 117, 3) := by decide +kernel
theorem dX11_fact_38 : decode cX11_fact 38 = .ok (.iconst 1, 1) := by decide +kernel
theorem dX11_fact_39 : decode cX11_fact 39 = .ok (.istore_n 1, 1) := by decide +kernel
theorem dX11_fact_40 : decode cX11_fact 40 = .ok (.goto 32, 3) := by decide +kernel
theorem dX11_fact_43 : decode cX11_fact 43 = .ok (.iload_n 2, 1) := by decide +kernel
theorem dX11_fact_44 : decode cX11_fact 44 = .ok (.bipush 91, 2) := by decide +kernel
theorem dX11_fact_46 : decode cX11_fact 46 = .ok (.if_icmp .ne 26, 3) := by decide +kernel
theorem dX11_fact_49 : decode cX11_fact 49 = .ok (.aload_n 0, 1) := by decide +kernel
theorem dX11_fact_50 : decode cX11_fact 50 = .ok (.bipush 91, 2) := by decide +kernel
theorem dX11_fact_52 : decode cX11_fact 52 = .ok (.invokevirtual 200, 3) := by decide +kernel
theorem dX11_fact_55 : decode cX11_fact 55 = .ok (.ifCond .ne 5, 3) := by decide +kernel
theorem dX11_fact_58 : decode cX11_fact 58 = .ok (.iconst 0, 1) := by decide +kernel
theorem dX11_fact_59 : decode cX11_fact 59 = .ok (.ireturn, 1) := by decide +kernel
theorem dX11_fact_60 : decode cX11_fact 60 = .ok (.aload_n 0, 1) := by decide +kernel
theorem dX11_fact_61 : decode cX11_fact 61 = .ok (.dup, 1) := by decide +kernel
theorem dX11_fact_62 : decode cX11_fact 62 = .ok (.getfield 102, 3) := by decide +kernel
theorem dX11_fact_65 : decode cX11_fact 65 = .ok (.iconst 1, 1) := by decide +kernel
theorem dX11_fact_66 : decode cX11_fact 66 = .ok (.iadd, 1) := by decide +kernel
theorem dX11_fact_67 : decode cX11_fact 67 = .ok (.putfield 102, 3) := by decide +kernel
theorem dX11_fact_70 : decode cX11_fact 70 = .ok (.iconst 1, 1) := by decide +kernel
theorem dX11_fact_71 : decode cX11_fact 71 = .ok (.istore_n 1, 1) := by decide +kernel
theorem dX11_fact_72 : decode cX11_fact 72 = .ok (.goto (-70), 3) := by decide +kernel
theorem dX11_fact_75 : decode cX11_fact 75 = .ok (.aload_n 0, 1) := by decide +kernel
theorem dX11_fact_76 : decode cX11_fact 76 = .ok (.invokevirtual 203, 3) := by decide +kernel
theorem dX11_fact_79 : decode cX11_fact 79 = .ok (.ireturn, 1) := by decide +kernel
theorem dX11_isInside_0 : decode cX11_isInside 0 = .ok (.iconst 0, 1) := by decide +kernel
theorem dX11_isInside_1 : decode cX11_isInside 1 = .ok (.istore_n 1, 1) := by decide +kernel
theorem dX11_isInside_2 : decode cX11_isInside 2 = .ok (.iload_n 1, 1) := by decide +kernel
theorem dX11_isInside_3 : decode cX11_isInside 3 = .ok (.aload_n 0, 1) := by decide +kernel
theorem dX11_isInside_4 : decode cX11_isInside 4 = .ok (.getfield 167, 3) := by decide +kernel
theorem dX11_isInside_7 : decode cX11_isInside 7 = .ok (.if_icmp .ge 22, 3) := by decide +kernel
theorem dX11_isInside_10 : decode cX11_isInside 10 = .ok (.aload_n 0, 1) := by decide +kernel
theorem dX11_isInside_11 : decode cX11_isInside 11 = .ok (.getfield 29, 3) := by decide +kernel
theorem dX11_isInside_14 : decode cX11_isInside 14 = .ok (.iload_n 1, 1) := by decide +kernel
theorem dX11_isInside_15 : decode cX11_isInside 15 = .ok (.iaload, 1) := by decide +kernel
theorem dX11_isInside_16 : decode cX11_isInside 16 = .ok (.bipush 91, 2) := by decide +kernel
theorem dX11_isInside_18 : decode cX11_isInside 18 = .ok (.if_icmp .ne 5, 3) := by decide +kernel
theorem dX11_isInside_21 : decode cX11_isInside 21 = .ok (.iconst 1, 1) := by decide +kernel
theorem dX11_isInside_22 : decode cX11_isInside 22 = .ok (.ireturn, 1) := by decide +kernel
theorem dX11_isInside_23 : decode cX11_isInside 23 = .ok (.iinc 1 1, 3) := by decide +kernel
theorem dX11_isInside_26 : decode cX11_isInside 26 = .ok (.goto (-24), 3) := by decide +kernel
theorem dX11_isInside_29 : decode cX11_isInside 29 = .ok (.iconst 0, 1) := by decide +kernel
theorem dX11_isInside_30 : decode cX11_isInside 30 = .ok (.ireturn, 1) := by decide +kernel
theorem dX11_closes_0 : decode cX11_closes 0 = .ok (.aload_n 0, 1) := by decide +kernel
theorem dX11_closes_1 : decode cX11_closes 1 = .ok (.iconst 3, 1) := by decide +kernel
theorem dX11_closes_2 : decode cX11_closes 2 = .ok (.invokevirtual 206, 3) := by decide +kernel
theorem dX11_closes_5 : decode cX11_closes 5 = .ok (.aload_n 0, 1) := by decide +kernel
theorem dX11_closes_6 : decode cX11_closes 6 = .ok (.invokevirtual 105, 3) := by decide +kernel
theorem dX11_closes_9 : decode cX11_closes 9 = .ok (.bipush 93, 2) := by decide +kernel
theorem dX11_closes_11 : decode cX11_closes 11 = .ok (.if_icmp .ne 53, 3) := by decide +kernel
theorem dX11_closes_14 : decode cX11_closes 14 = .ok (.aload_n 0, 1) := by decide +kernel
theorem dX11_closes_15 : decode cX11_closes 15 = .ok (.invokevirtual 209, 3) := by decide +kernel
theorem dX11_closes_18 : decode cX11_closes 18 = .ok (.ifCond .eq 46, 3) := by decide +kernel
theorem dX11_closes_21 : decode cX11_closes 21 = .ok (.aload_n 0, 1) := by decide +kernel
theorem dX11_closes_22 : decode cX11_closes 22 = .ok (.iconst 1, 1) := by decide +kernel
theorem dX11_closes_23 : decode cX11_closes 23 = .ok (.invokevirtual 206, 3) := by decide +kernel
theorem dX11_closes_26 : decode cX11_closes 26 = .ok (.aload_n 0, 1) := by decide +kernel
theorem dX11_closes_27 : decode cX11_closes 27 = .ok (.dup, 1) := by decide +kernel
theorem dX11_closes_28 : decode cX11_closes 28 = .ok (.getfield 167, 3) := by decide +kernel
theorem dX11_closes_31 : decode cX11_closes 31 = .ok (.iconst 1, 1) := by decide +kernel
theorem dX11_closes_32 : decode cX11_closes 32 = .ok (.isub, 1) := by decide +kernel
theorem dX11_closes_33 : decode cX11_closes 33 = .ok (.putfield 167, 3) := by decide +kernel
theorem dX11_closes_36 : decode cX11_closes 36 = .ok (.aload_n 0, 1) := by decide +kernel
theorem dX11_closes_37 : decode cX11_closes 37 = .ok (.dup, 1) := by decide +kernel
theorem dX11_closes_38 : decode cX11_closes 38 = .ok (.getfield 164, 3) := by decide +kernel
theorem dX11_closes_41 : decode cX11_closes 41 = .ok (.iconst 1, 1) := by decide +kernel
theorem dX11_closes_42 : decode cX11_closes 42 = .ok (.isub, 1) := by decide +kernel
theorem dX11_closes_43 : decode cX11_closes 43 = .ok (.putfield 164, 3) := by decide +kernel
theorem dX11_closes_46 : decode cX11_closes 46 = .ok (.aload_n 0, 1) := by decide +kernel
theorem dX11_closes_47 : decode cX11_closes 47 = .ok (.dup, 1) := by decide +kernel
theorem dX11_closes_48 : decode cX11_closes 48 = .ok (.getfield 102, 3) := by decide +kernel
theorem dX11_closes_51 : decode cX11_closes 51 = .ok (.iconst 1, 1) := by decide +kernel
theorem dX11_closes_52 : decode cX11_closes 52 = .ok (.iadd, 1) := by decide +kernel
theorem dX11_closes_53 : decode cX11_closes 53 = .ok (.putfield 102, 3) := by decide +kernel
theorem dX11_closes_56 : decode cX11_closes 56 = .ok (.aload_n 0, 1) := by decide +kernel
theorem dX11_closes_57 : decode cX11_closes 57 = .ok (.iconst 3, 1) := by decide +kernel
theorem dX11_closes_58 : decode cX11_closes 58 = .ok (.invokevirtual 206, 3) := by decide +kernel
theorem dX11_closes_61 : decode cX11_closes 61 = .ok (.goto (-56), 3) := by decide +kernel
theorem dX11_closes_64 : decode cX11_closes 64 = .ok (.return_, 1) := by decide +kernel
theorem dX11_tested_0 : decode cX11_tested 0 = .ok (.aload_n 0, 1) := by decide +kernel
theorem dX11_tested_1 : decode cX11_tested 1 = .ok (.iconst 0, 1) := by decide +kernel
theorem dX11_tested_2 : decode cX11_tested 2 = .ok (.putfield 167, 3) := by decide +kernel
theorem dX11_tested_5 : decode cX11_tested 5 = .ok (.aload_n 0, 1) := by decide +kernel
theorem dX11_tested_6 : decode cX11_tested 6 = .ok (.iconst 0, 1) := by decide +kernel
theorem dX11_tested_7 : decode cX11_tested 7 = .ok (.putfield 164, 3) := by decide +kernel
theorem dX11_tested_10 : decode cX11_tested 10 = .ok (.iconst 1, 1) := by decide +kernel
theorem dX11_tested_11 : decode cX11_tested 11 = .ok (.istore_n 1, 1) := by decide +kernel
theorem dX11_tested_12 : decode cX11_tested 12 = .ok (.iload_n 1, 1) := by decide +kernel
theorem dX11_tested_13 : decode cX11_tested 13 = .ok (.ifCond .eq 99, 3) := by decide +kernel
theorem dX11_tested_16 : decode cX11_tested 16 = .ok (.aload_n 0, 1) := by decide +kernel
theorem dX11_tested_17 : decode cX11_tested 17 = .ok (.invokevirtual 212, 3) := by decide +kernel
theorem dX11_tested_20 : decode cX11_tested 20 = .ok (.ifCond .ne 5, 3) := by decide +kernel
theorem dX11_tested_23 : decode cX11_tested 23 = .ok (.iconst 0, 1) := by decide +kernel
theorem dX11_tested_24 : decode cX11_tested 24 = .ok (.ireturn, 1) := by decide +kernel
theorem dX11_tested_25 : decode cX11_tested 25 = .ok (.aload_n 0, 1) := by decide +kernel
theorem dX11_tested_26 : decode cX11_tested 26 = .ok (.invokevirtual 215, 3) := by decide +kernel
theorem dX11_tested_29 : decode cX11_tested 29 = .ok (.aload_n 0, 1) := by decide +kernel
theorem dX11_tested_30 : decode cX11_tested 30 = .ok (.ldc2_w 218, 3) := by decide +kernel
theorem dX11_tested_33 : decode cX11_tested 33 = .ok (.invokevirtual 113, 3) := by decide +kernel
theorem dX11_tested_36 : decode cX11_tested 36 = .ok (.ifCond .ne 13, 3) := by decide +kernel
theorem dX11_tested_39 : decode cX11_tested 39 = .ok (.aload_n 0, 1) := by decide +kernel
theorem dX11_tested_40 : decode cX11_tested 40 = .ok (.ldc2_w 220, 3) := by decide +kernel
theorem dX11_tested_43 : decode cX11_tested 43 = .ok (.invokevirtual 113, 3) := by decide +kernel
theorem dX11_tested_46 : decode cX11_tested 46 = .ok (.ifCond .eq 7, 3) := by decide +kernel
theorem dX11_tested_49 : decode cX11_tested 49 = .ok (.iconst 1, 1) := by decide +kernel
theorem dX11_tested_50 : decode cX11_tested 50 = .ok (.goto 4, 3) := by decide +kernel
theorem dX11_tested_53 : decode cX11_tested 53 = .ok (.iconst 0, 1) := by decide +kernel
theorem dX11_tested_54 : decode cX11_tested 54 = .ok (.istore_n 1, 1) := by decide +kernel
theorem dX11_tested_55 : decode cX11_tested 55 = .ok (.iload_n 1, 1) := by decide +kernel
theorem dX11_tested_56 : decode cX11_tested 56 = .ok (.ifCond .eq (-44), 3) := by decide +kernel
theorem dX11_tested_59 : decode cX11_tested 59 = .ok (.aload_n 0, 1) := by decide +kernel
theorem dX11_tested_60 : decode cX11_tested 60 = .ok (.ldc2_w 218, 3) := by decide +kernel
theorem dX11_tested_63 : decode cX11_tested 63 = .ok (.invokevirtual 113, 3) := by decide +kernel
theorem dX11_tested_66 : decode cX11_tested 66 = .ok (.ifCond .eq 8, 3) := by decide +kernel
theorem dX11_tested_69 : decode cX11_tested 69 = .ok (.bipush 12, 2) := by decide +kernel
theorem dX11_tested_71 : decode cX11_tested 71 = .ok (.goto 5, 3) := by decide +kernel
theorem dX11_tested_74 : decode cX11_tested 74 = .ok (.bipush 13, 2) := by decide +kernel
theorem dX11_tested_76 : decode cX11_tested 76 = .ok (.istore_n 2, 1) := by decide +kernel
theorem dX11_tested_77 : decode cX11_tested 77 = .ok (.aload_n 0, 1) := by decide +kernel
theorem dX11_tested_78 : decode cX11_tested 78 = .ok (.invokevirtual 117, 3) := by decide +kernel
theorem dX11_tested_81 : decode cX11_tested 81 = .ok (.aload_n 0, 1) := by decide +kernel
theorem dX11_tested_82 : decode cX11_tested 82 = .ok (.iload_n 2, 1) := by decide +kernel
theorem dX11_tested_83 : decode cX11_tested 83 = .ok (.invokestatic 170, 3) := by decide +kernel
theorem dX11_tested_86 : decode cX11_tested 86 = .ok (.invokevirtual 206, 3) := by decide +kernel
theorem dX11_tested_89 : decode cX11_tested 89 = .ok (.aload_n 0, 1) := by decide +kernel
theorem dX11_tested_90 : decode cX11_tested 90 = .ok (.getfield 29, 3) := by decide +kernel
theorem dX11_tested_93 : decode cX11_tested 93 = .ok (.aload_n 0, 1) := by decide +kernel
theorem dX11_tested_94 : decode cX11_tested 94 = .ok (.getfield 167, 3) := by decide +kernel
theorem dX11_tested_97 : decode cX11_tested 97 = .ok (.iload_n 2, 1) := by decide +kernel
theorem dX11_tested_98 : decode cX11_tested 98 = .ok (.iastore, 1) := by decide +kernel
theorem dX11_tested_99 : decode cX11_tested 99 = .ok (.aload_n 0, 1) := by decide +kernel
theorem dX11_tested_100 : decode cX11_tested 100 = .ok (.dup, 1) := by decide +kernel
theorem dX11_tested_101 : decode cX11_tested 101 = .ok (.getfield 167, 3) := by decide +kernel
theorem dX11_tested_104 : decode cX11_tested 104 = .ok (.iconst 1, 1) := by decide +kernel
theorem dX11_tested_105 : decode cX11_tested 105 = .ok (.iadd, 1) := by decide +kernel
theorem dX11_tested_106 : decode cX11_tested 106 = .ok (.putfield 167, 3) := by decide +kernel
theorem dX11_tested_109 : decode cX11_tested 109 = .ok (.goto (-97), 3) := by decide +kernel
theorem dX11_tested_112 : decode cX11_tested 112 = .ok (.aload_n 0, 1) := by decide +kernel
theorem dX11_tested_113 : decode cX11_tested 113 = .ok (.invokevirtual 209, 3) := by decide +kernel
theorem dX11_tested_116 : decode cX11_tested 116 = .ok (.ifCond .eq 18, 3) := by decide +kernel
theorem dX11_tested_119 : decode cX11_tested 119 = .ok (.aload_n 0, 1) := by decide +kernel
theorem dX11_tested_120 : decode cX11_tested 120 = .ok (.invokevirtual 105, 3) := by decide +kernel
theorem dX11_tested_123 : decode cX11_tested 123 = .ok (.pop, 1) := by decide +kernel
theorem dX11_tested_124 : decode cX11_tested 124 = .ok (.aload_n 0, 1) := by decide +kernel
theorem dX11_tested_125 : decode cX11_tested 125 = .ok (.iconst 0, 1) := by decide +kernel
theorem dX11_tested_126 : decode cX11_tested 126 = .ok (.aload_n 0, 1) := by decide +kernel
theorem dX11_tested_127 : decode cX11_tested 127 = .ok (.getfield 102, 3) := by decide +kernel
theorem dX11_tested_130 : decode cX11_tested 130 = .ok (.invokevirtual 123, 3) := by decide +kernel
theorem dX11_tested_133 : decode cX11_tested 133 = .ok (.ireturn, 1) := by decide +kernel
theorem dX11_tested_134 : decode cX11_tested 134 = .ok (.aload_n 0, 1) := by decide +kernel
theorem dX11_tested_135 : decode cX11_tested 135 = .ok (.iconst 1, 1) := by decide +kernel
theorem dX11_tested_136 : decode cX11_tested 136 = .ok (.invokevirtual 206, 3) := by decide +kernel
theorem dX11_tested_139 : decode cX11_tested 139 = .ok (.iconst 1, 1) := by decide +kernel
theorem dX11_tested_140 : decode cX11_tested 140 = .ok (.ireturn, 1) := by decide +kernel
theorem dX11_isLetHere_0 : decode cX11_isLetHere 0 = .ok (.aload_n 0, 1) := by decide +kernel
theorem dX11_isLetHere_1 : decode cX11_isLetHere 1 = .ok (.invokevirtual 117, 3) := by decide +kernel
theorem dX11_isLetHere_4 : decode cX11_isLetHere 4 = .ok (.bipush 48, 2) := by decide +kernel
theorem dX11_isLetHere_6 : decode cX11_isLetHere 6 = .ok (.aload_n 0, 1) := by decide +kernel
theorem dX11_isLetHere_7 : decode cX11_isLetHere 7 = .ok (.getfield 158, 3) := by decide +kernel
theorem dX11_isLetHere_10 : decode cX11_isLetHere 10 = .ok (.imul, 1) := by decide +kernel
theorem dX11_isLetHere_11 : decode cX11_isLetHere 11 = .ok (.iconst 4, 1) := by decide +kernel
theorem dX11_isLetHere_12 : decode cX11_isLetHere 12 = .ok (.aload_n 0, 1) := by decide +kernel
theorem dX11_isLetHere_13 : decode cX11_isLetHere 13 = .ok (.getfield 23, 3) := by decide +kernel
theorem dX11_isLetHere_16 : decode cX11_isLetHere 16 = .ok (.aload_n 0, 1) := by decide +kernel
theorem dX11_isLetHere_17 : decode cX11_isLetHere 17 = .ok (.getfield 158, 3) := by decide +kernel
theorem dX11_isLetHere_20 : decode cX11_isLetHere 20 = .ok (.iaload, 1) := by decide +kernel
theorem dX11_isLetHere_21 : decode cX11_isLetHere 21 = .ok (.imul, 1) := by decide +kernel
theorem dX11_isLetHere_22 : decode cX11_isLetHere 22 = .ok (.iadd, 1) := by decide +kernel
theorem dX11_isLetHere_23 : decode cX11_isLetHere 23 = .ok (.istore_n 1, 1) := by decide +kernel
theorem dX11_isLetHere_24 : decode cX11_isLetHere 24 = .ok (.aload_n 0, 1) := by decide +kernel
theorem dX11_isLetHere_25 : decode cX11_isLetHere 25 = .ok (.getfield 20, 3) := by decide +kernel
theorem dX11_isLetHere_28 : decode cX11_isLetHere 28 = .ok (.iload_n 1, 1) := by decide +kernel
theorem dX11_isLetHere_29 : decode cX11_isLetHere 29 = .ok (.aload_n 0, 1) := by decide +kernel
theorem dX11_isLetHere_30 : decode cX11_isLetHere 30 = .ok (.getfield 17, 3) := by decide +kernel
theorem dX11_isLetHere_33 : decode cX11_isLetHere 33 = .ok (.aload_n 0, 1) := by decide +kernel
theorem dX11_isLetHere_34 : decode cX11_isLetHere 34 = .ok (.getfield 158, 3) := by decide +kernel
theorem dX11_isLetHere_37 : decode cX11_isLetHere 37 = .ok (.iaload, 1) := by decide +kernel
theorem dX11_isLetHere_38 : decode cX11_isLetHere 38 = .ok (.iastore, 1) := by decide +kernel
theorem dX11_isLetHere_39 : decode cX11_isLetHere 39 = .ok (.aload_n 0, 1) := by decide +kernel
theorem dX11_isLetHere_40 : decode cX11_isLetHere 40 = .ok (.invokevirtual 195, 3) := by decide +kernel
theorem dX11_isLetHere_43 : decode cX11_isLetHere 43 = .ok (.ifCond .ne 5, 3) := by decide +kernel
theorem dX11_isLetHere_46 : decode cX11_isLetHere 46 = .ok (.iconst 0, 1) := by decide +kernel
theorem dX11_isLetHere_47 : decode cX11_isLetHere 47 = .ok (.ireturn, 1) := by decide +kernel
theorem dX11_isLetHere_48 : decode cX11_isLetHere 48 = .ok (.aload_n 0, 1) := by decide +kernel
theorem dX11_isLetHere_49 : decode cX11_isLetHere 49 = .ok (.getfield 20, 3) := by decide +kernel
theorem dX11_isLetHere_52 : decode cX11_isLetHere 52 = .ok (.iload_n 1, 1) := by decide +kernel
theorem dX11_isLetHere_53 : decode cX11_isLetHere 53 = .ok (.iconst 1, 1) := by decide +kernel
theorem dX11_isLetHere_54 : decode cX11_isLetHere 54 = .ok (.iadd, 1) := by decide +kernel
theorem dX11_isLetHere_55 : decode cX11_isLetHere 55 = .ok (.aload_n 0, 1) := by decide +kernel
theorem dX11_isLetHere_56 : decode cX11_isLetHere 56 = .ok (.getfield 17, 3) := by decide +kernel
theorem dX11_isLetHere_59 : decode cX11_isLetHere 59 = .ok (.aload_n 0, 1) := by decide +kernel
theorem dX11_isLetHere_60 : decode cX11_isLetHere 60 = .ok (.getfield 158, 3) := by decide +kernel
theorem dX11_isLetHere_63 : decode cX11_isLetHere 63 = .ok (.iaload, 1) := by decide +kernel
theorem dX11_isLetHere_64 : decode cX11_isLetHere 64 = .ok (.iastore, 1) := by decide +kernel
theorem dX11_isLetHere_65 : decode cX11_isLetHere 65 = .ok (.aload_n 0, 1) := by decide +kernel
theorem dX11_isLetHere_66 : decode cX11_isLetHere 66 = .ok (.getfield 20, 3) := by decide +kernel
theorem dX11_isLetHere_69 : decode cX11_isLetHere 69 = .ok (.iload_n 1, 1) := by decide +kernel
theorem dX11_isLetHere_70 : decode cX11_isLetHere 70 = .ok (.iconst 2, 1) := by decide +kernel
theorem dX11_isLetHere_71 : decode cX11_isLetHere 71 = .ok (.iadd, 1) := by decide +kernel
theorem dX11_isLetHere_72 : decode cX11_isLetHere 72 = .ok (.iconst (-1), 1) := by decide +kernel
theorem dX11_isLetHere_73 : decode cX11_isLetHere 73 = .ok (.iastore, 1) := by decide +kernel
theorem dX11_isLetHere_74 : decode cX11_isLetHere 74 = .ok (.aload_n 0, 1) := by decide +kernel
theorem dX11_isLetHere_75 : decode cX11_isLetHere 75 = .ok (.ldc2_w 222, 3) := by decide +kernel
theorem dX11_isLetHere_78 : decode cX11_isLetHere 78 = .ok (.invokevirtual 224, 3) := by decide +kernel
theorem dX11_isLetHere_81 : decode cX11_isLetHere 81 = .ok (.ifCond .eq 29, 3) := by decide +kernel
theorem dX11_isLetHere_84 : decode cX11_isLetHere 84 = .ok (.aload_n 0, 1) := by decide +kernel
theorem dX11_isLetHere_85 : decode cX11_isLetHere 85 = .ok (.getfield 20, 3) := by decide +kernel
theorem dX11_isLetHere_88 : decode cX11_isLetHere 88 = .ok (.iload_n 1, 1) := by decide +kernel
theorem dX11_isLetHere_89 : decode cX11_isLetHere 89 = .ok (.iconst 2, 1) := by decide +kernel
theorem dX11_isLetHere_90 : decode cX11_isLetHere 90 = .ok (.iadd, 1) := by decide +kernel
theorem dX11_isLetHere_91 : decode cX11_isLetHere 91 = .ok (.aload_n 0, 1) := by decide +kernel
theorem dX11_isLetHere_92 : decode cX11_isLetHere 92 = .ok (.getfield 17, 3) := by decide +kernel
theorem dX11_isLetHere_95 : decode cX11_isLetHere 95 = .ok (.aload_n 0, 1) := by decide +kernel
theorem dX11_isLetHere_96 : decode cX11_isLetHere 96 = .ok (.getfield 158, 3) := by decide +kernel
theorem dX11_isLetHere_99 : decode cX11_isLetHere 99 = .ok (.iaload, 1) := by decide +kernel
theorem dX11_isLetHere_100 : decode cX11_isLetHere 100 = .ok (.iastore, 1) := by decide +kernel
theorem dX11_isLetHere_101 : decode cX11_isLetHere 101 = .ok (.aload_n 0, 1) := by decide +kernel
theorem dX11_isLetHere_102 : decode cX11_isLetHere 102 = .ok (.invokevirtual 227, 3) := by decide +kernel
theorem dX11_isLetHere_105 : decode cX11_isLetHere 105 = .ok (.ifCond .ne 5, 3) := by decide +kernel
theorem dX11_isLetHere_108 : decode cX11_isLetHere 108 = .ok (.iconst 0, 1) := by decide +kernel
theorem dX11_isLetHere_109 : decode cX11_isLetHere 109 = .ok (.ireturn, 1) := by decide +kernel
theorem dX11_isLetHere_110 : decode cX11_isLetHere 110 = .ok (.aload_n 0, 1) := by decide +kernel
theorem dX11_isLetHere_111 : decode cX11_isLetHere 111 = .ok (.getfield 20, 3) := by decide +kernel
theorem dX11_isLetHere_114 : decode cX11_isLetHere 114 = .ok (.iload_n 1, 1) := by decide +kernel
theorem dX11_isLetHere_115 : decode cX11_isLetHere 115 = .ok (.iconst 3, 1) := by decide +kernel
theorem dX11_isLetHere_116 : decode cX11_isLetHere 116 = .ok (.iadd, 1) := by decide +kernel
theorem dX11_isLetHere_117 : decode cX11_isLetHere 117 = .ok (.aload_n 0, 1) := by decide +kernel
theorem dX11_isLetHere_118 : decode cX11_isLetHere 118 = .ok (.getfield 17, 3) := by decide +kernel
theorem dX11_isLetHere_121 : decode cX11_isLetHere 121 = .ok (.aload_n 0, 1) := by decide +kernel
theorem dX11_isLetHere_122 : decode cX11_isLetHere 122 = .ok (.getfield 158, 3) := by decide +kernel
theorem dX11_isLetHere_125 : decode cX11_isLetHere 125 = .ok (.iaload, 1) := by decide +kernel
theorem dX11_isLetHere_126 : decode cX11_isLetHere 126 = .ok (.iastore, 1) := by decide +kernel
theorem dX11_isLetHere_127 : decode cX11_isLetHere 127 = .ok (.aload_n 0, 1) := by decide +kernel
theorem dX11_isLetHere_128 : decode cX11_isLetHere 128 = .ok (.getfield 23, 3) := by decide +kernel
theorem dX11_isLetHere_131 : decode cX11_isLetHere 131 = .ok (.aload_n 0, 1) := by decide +kernel
theorem dX11_isLetHere_132 : decode cX11_isLetHere 132 = .ok (.getfield 158, 3) := by decide +kernel
theorem dX11_isLetHere_135 : decode cX11_isLetHere 135 = .ok (.dup2, 1) := by decide +kernel
theorem dX11_isLetHere_136 : decode cX11_isLetHere 136 = .ok (.iaload, 1) := by decide +kernel
theorem dX11_isLetHere_137 : decode cX11_isLetHere 137 = .ok (.iconst 1, 1) := by decide +kernel
theorem dX11_isLetHere_138 : decode cX11_isLetHere 138 = .ok (.iadd, 1) := by decide +kernel
theorem dX11_isLetHere_139 : decode cX11_isLetHere 139 = .ok (.iastore, 1) := by decide +kernel
theorem dX11_isLetHere_140 : decode cX11_isLetHere 140 = .ok (.iconst 1, 1) := by decide +kernel
theorem dX11_isLetHere_141 : decode cX11_isLetHere 141 = .ok (.ireturn, 1) := by decide +kernel
theorem dX11_cellHere_0 : decode cX11_cellHere 0 = .ok (.aload_n 0, 1) := by decide +kernel
theorem dX11_cellHere_1 : decode cX11_cellHere 1 = .ok (.iload_n 2, 1) := by decide +kernel
theorem dX11_cellHere_2 : decode cX11_cellHere 2 = .ok (.iload_n 3, 1) := by decide +kernel
theorem dX11_cellHere_3 : decode cX11_cellHere 3 = .ok (.invokevirtual 179, 3) := by decide +kernel
theorem dX11_cellHere_6 : decode cX11_cellHere 6 = .ok (.ifCond .ne 5, 3) := by decide +kernel
theorem dX11_cellHere_9 : decode cX11_cellHere 9 = .ok (.iconst 0, 1) := by decide +kernel
theorem dX11_cellHere_10 : decode cX11_cellHere 10 = .ok (.ireturn, 1) := by decide +kernel
theorem dX11_cellHere_11 : decode cX11_cellHere 11 = .ok (.aload_n 0, 1) := by decide +kernel
theorem dX11_cellHere_12 : decode cX11_cellHere 12 = .ok (.getfield 26, 3) := by decide +kernel
theorem dX11_cellHere_15 : decode cX11_cellHere 15 = .ok (.iload_n 1, 1) := by decide +kernel
theorem dX11_cellHere_16 : decode cX11_cellHere 16 = .ok (.aload_n 0, 1) := by decide +kernel
theorem dX11_cellHere_17 : decode cX11_cellHere 17 = .ok (.getfield 127, 3) := by decide +kernel
theorem dX11_cellHere_20 : decode cX11_cellHere 20 = .ok (.iastore, 1) := by decide +kernel
theorem dX11_cellHere_21 : decode cX11_cellHere 21 = .ok (.iconst 1, 1) := by decide +kernel
theorem dX11_cellHere_22 : decode cX11_cellHere 22 = .ok (.ireturn, 1) := by decide +kernel
theorem dX11_isJunctionHere_0 : decode cX11_isJunctionHere 0 = .ok (.aload_n 0, 1) := by decide +kernel
theorem dX11_isJunctionHere_1 : decode cX11_isJunctionHere 1 = .ok (.getfield 26, 3) := by decide +kernel
theorem dX11_isJunctionHere_4 : decode cX11_isJunctionHere 4 = .ok (.iconst 0, 1) := by decide +kernel
theorem dX11_isJunctionHere_5 : decode cX11_isJunctionHere 5 = .ok (.iaload, 1) := by decide +kernel
theorem dX11_isJunctionHere_6 : decode cX11_isJunctionHere 6 = .ok (.ifCond .le 10, 3) := by decide +kernel
theorem dX11_isJunctionHere_9 : decode cX11_isJunctionHere 9 = .ok (.aload_n 0, 1) := by decide +kernel
theorem dX11_isJunctionHere_10 : decode cX11_isJunctionHere 10 = .ok (.iconst 4, 1) := by decide +kernel
theorem dX11_isJunctionHere_11 : decode cX11_isJunctionHere 11 = .ok (.iload_n 1, 1) := by decide +kernel
theorem dX11_isJunctionHere_12 : decode cX11_isJunctionHere 12 = .ok (.invokevirtual 123, 3) := by decide +kernel
theorem dX11_isJunctionHere_15 : decode cX11_isJunctionHere 15 = .ok (.ireturn, 1) := by decide +kernel
theorem dX11_isJunctionHere_16 : decode cX11_isJunctionHere 16 = .ok (.aload_n 0, 1) := by decide +kernel
theorem dX11_isJunctionHere_17 : decode cX11_isJunctionHere 17 = .ok (.invokevirtual 117, 3) := by decide +kernel
theorem dX11_isJunctionHere_20 : decode cX11_isJunctionHere 20 = .ok (.aload_n 0, 1) := by decide +kernel
theorem dX11_isJunctionHere_21 : decode cX11_isJunctionHere 21 = .ok (.iconst 1, 1) := by decide +kernel
theorem dX11_isJunctionHere_22 : decode cX11_isJunctionHere 22 = .ok (.iconst 1, 1) := by decide +kernel
theorem dX11_isJunctionHere_23 : decode cX11_isJunctionHere 23 = .ok (.bipush 12, 2) := by decide +kernel
theorem dX11_isJunctionHere_25 : decode cX11_isJunctionHere 25 = .ok (.invokevirtual 230, 3) := by decide +kernel
theorem dX11_isJunctionHere_28 : decode cX11_isJunctionHere 28 = .ok (.ifCond .eq 14, 3) := by decide +kernel
theorem dX11_isJunctionHere_31 : decode cX11_isJunctionHere 31 = .ok (.aload_n 0, 1) := by decide +kernel
theorem dX11_isJunctionHere_32 : decode cX11_isJunctionHere 32 = .ok (.iconst 2, 1) := by decide +kernel
theorem dX11_isJunctionHere_33 : decode cX11_isJunctionHere 33 = .ok (.iconst 1, 1) := by decide +kernel
theorem dX11_isJunctionHere_34 : decode cX11_isJunctionHere 34 = .ok (.bipush 9, 2) := by decide +kernel
theorem dX11_isJunctionHere_36 : decode cX11_isJunctionHere 36 = .ok (.invokevirtual 230, 3) := by decide +kernel
theorem dX11_isJunctionHere_39 : decode cX11_isJunctionHere 39 = .ok (.ifCond .ne 5, 3) := by decide +kernel
theorem dX11_isJunctionHere_42 : decode cX11_isJunctionHere 42 = .ok (.iconst 0, 1) := by decide +kernel
theorem dX11_isJunctionHere_43 : decode cX11_isJunctionHere 43 = .ok (.ireturn, 1) := by decide +kernel
theorem dX11_isJunctionHere_44 : decode cX11_isJunctionHere 44 = .ok (.aload_n 0, 1) := by decide +kernel
theorem dX11_isJunctionHere_45 : decode cX11_isJunctionHere 45 = .ok (.getfield 26, 3) := by decide +kernel
theorem dX11_isJunctionHere_48 : decode cX11_isJunctionHere 48 = .ok (.iconst 0, 1) := by decide +kernel
theorem dX11_isJunctionHere_49 : decode cX11_isJunctionHere 49 = .ok (.iconst 1, 1) := by decide +kernel
theorem dX11_isJunctionHere_50 : decode cX11_isJunctionHere 50 = .ok (.iastore, 1) := by decide +kernel
theorem dX11_isJunctionHere_51 : decode cX11_isJunctionHere 51 = .ok (.iconst 1, 1) := by decide +kernel
theorem dX11_isJunctionHere_52 : decode cX11_isJunctionHere 52 = .ok (.ireturn, 1) := by decide +kernel
theorem dX11_isRoadHere_0 : decode cX11_isRoadHere 0 = .ok (.aload_n 0, 1) := by decide +kernel
theorem dX11_isRoadHere_1 : decode cX11_isRoadHere 1 = .ok (.getfield 26, 3) := by decide +kernel
theorem dX11_isRoadHere_4 : decode cX11_isRoadHere 4 = .ok (.iconst 3, 1) := by decide +kernel
theorem dX11_isRoadHere_5 : decode cX11_isRoadHere 5 = .ok (.iaload, 1) := by decide +kernel
theorem dX11_isRoadHere_6 : decode cX11_isRoadHere 6 = .ok (.bipush 6, 2) := by decide +kernel
theorem dX11_isRoadHere_8 : decode cX11_isRoadHere 8 = .ok (.if_icmp .ne 10, 3) := by decide +kernel
theorem dX11_isRoadHere_11 : decode cX11_isRoadHere 11 = .ok (.aload_n 0, 1) := by decide +kernel
theorem dX11_isRoadHere_12 : decode cX11_isRoadHere 12 = .ok (.iconst 4, 1) := by decide +kernel
theorem dX11_isRoadHere_13 : decode cX11_isRoadHere 13 = .ok (.iload_n 1, 1) := by decide +kernel
theorem dX11_isRoadHere_14 : decode cX11_isRoadHere 14 = .ok (.invokevirtual 123, 3) := by decide +kernel
theorem dX11_isRoadHere_17 : decode cX11_isRoadHere 17 = .ok (.ireturn, 1) := by decide +kernel
theorem dX11_isRoadHere_18 : decode cX11_isRoadHere 18 = .ok (.aload_n 0, 1) := by decide +kernel
theorem dX11_isRoadHere_19 : decode cX11_isRoadHere 19 = .ok (.invokevirtual 117, 3) := by decide +kernel
theorem dX11_isRoadHere_22 : decode cX11_isRoadHere 22 = .ok (.aload_n 0, 1) := by decide +kernel
theorem dX11_isRoadHere_23 : decode cX11_isRoadHere 23 = .ok (.getfield 26, 3) := by decide +kernel
theorem dX11_isRoadHere_26 : decode cX11_isRoadHere 26 = .ok (.iconst 3, 1) := by decide +kernel
theorem dX11_isRoadHere_27 : decode cX11_isRoadHere 27 = .ok (.iaload, 1) := by decide +kernel
theorem dX11_isRoadHere_28 : decode cX11_isRoadHere 28 = .ok (.istore_n 2, 1) := by decide +kernel
theorem dX11_isRoadHere_29 : decode cX11_isRoadHere 29 = .ok (.aload_n 0, 1) := by decide +kernel
theorem dX11_isRoadHere_30 : decode cX11_isRoadHere 30 = .ok (.bipush 60, 2) := by decide +kernel
theorem dX11_isRoadHere_32 : decode cX11_isRoadHere 32 = .ok (.iload_n 2, 1) := by decide +kernel
theorem dX11_isRoadHere_33 : decode cX11_isRoadHere 33 = .ok (.iadd, 1) := by decide +kernel
theorem dX11_isRoadHere_34 : decode cX11_isRoadHere 34 = .ok (.iconst 0, 1) := by decide +kernel
theorem dX11_isRoadHere_35 : decode cX11_isRoadHere 35 = .ok (.bipush 30, 2) := by decide +kernel
theorem dX11_isRoadHere_37 : decode cX11_isRoadHere 37 = .ok (.invokevirtual 230, 3) := by decide +kernel
theorem dX11_isRoadHere_40 : decode cX11_isRoadHere 40 = .ok (.ifCond .eq 31, 3) := by decide +kernel
theorem dX11_isRoadHere_43 : decode cX11_isRoadHere 43 = .ok (.aload_n 0, 1) := by decide +kernel
theorem dX11_isRoadHere_44 : decode cX11_isRoadHere 44 = .ok (.bipush 54, 2) := by decide +kernel
theorem dX11_isRoadHere_46 : decode cX11_isRoadHere 46 = .ok (.iload_n 2, 1) := by decide +kernel
theorem dX11_isRoadHere_47 : decode cX11_isRoadHere 47 = .ok (.iadd, 1) := by decide +kernel
theorem dX11_isRoadHere_48 : decode cX11_isRoadHere 48 = .ok (.iconst 1, 1) := by decide +kernel
theorem dX11_isRoadHere_49 : decode cX11_isRoadHere 49 = .ok (.bipush 12, 2) := by decide +kernel
theorem dX11_isRoadHere_51 : decode cX11_isRoadHere 51 = .ok (.invokevirtual 230, 3) := by decide +kernel
theorem dX11_isRoadHere_54 : decode cX11_isRoadHere 54 = .ok (.ifCond .eq 17, 3) := by decide +kernel
theorem dX11_isRoadHere_57 : decode cX11_isRoadHere 57 = .ok (.aload_n 0, 1) := by decide +kernel
theorem dX11_isRoadHere_58 : decode cX11_isRoadHere 58 = .ok (.bipush 66, 2) := by decide +kernel
theorem dX11_isRoadHere_60 : decode cX11_isRoadHere 60 = .ok (.iload_n 2, 1) := by decide +kernel
theorem dX11_isRoadHere_61 : decode cX11_isRoadHere 61 = .ok (.iadd, 1) := by decide +kernel
theorem dX11_isRoadHere_62 : decode cX11_isRoadHere 62 = .ok (.iconst 0, 1) := by decide +kernel
theorem dX11_isRoadHere_63 : decode cX11_isRoadHere 63 = .ok (.bipush 11, 2) := by decide +kernel
theorem dX11_isRoadHere_65 : decode cX11_isRoadHere 65 = .ok (.invokevirtual 230, 3) := by decide +kernel
theorem dX11_isRoadHere_68 : decode cX11_isRoadHere 68 = .ok (.ifCond .ne 5, 3) := by decide +kernel
theorem dX11_isRoadHere_71 : decode cX11_isRoadHere 71 = .ok (.iconst 0, 1) := by decide +kernel
theorem dX11_isRoadHere_72 : decode cX11_isRoadHere 72 = .ok (.ireturn, 1) := by decide +kernel
theorem dX11_isRoadHere_73 : decode cX11_isRoadHere 73 = .ok (.aload_n 0, 1) := by decide +kernel
theorem dX11_isRoadHere_74 : decode cX11_isRoadHere 74 = .ok (.getfield 26, 3) := by decide +kernel
theorem dX11_isRoadHere_77 : decode cX11_isRoadHere 77 = .ok (.iconst 3, 1) := by decide +kernel
theorem dX11_isRoadHere_78 : decode cX11_isRoadHere 78 = .ok (.dup2, 1) := by decide +kernel
theorem dX11_isRoadHere_79 : decode cX11_isRoadHere 79 = .ok (.iaload, 1) := by decide +kernel
theorem dX11_isRoadHere_80 : decode cX11_isRoadHere 80 = .ok (.iconst 1, 1) := by decide +kernel
theorem dX11_isRoadHere_81 : decode cX11_isRoadHere 81 = .ok (.iadd, 1) := by decide +kernel
theorem dX11_isRoadHere_82 : decode cX11_isRoadHere 82 = .ok (.iastore, 1) := by decide +kernel
theorem dX11_isRoadHere_83 : decode cX11_isRoadHere 83 = .ok (.iconst 1, 1) := by decide +kernel
theorem dX11_isRoadHere_84 : decode cX11_isRoadHere 84 = .ok (.ireturn, 1) := by decide +kernel
theorem dX11_isClashHere_0 : decode cX11_isClashHere 0 = .ok (.aload_n 0, 1) := by decide +kernel
theorem dX11_isClashHere_1 : decode cX11_isClashHere 1 = .ok (.invokevirtual 117, 3) := by decide +kernel
theorem dX11_isClashHere_4 : decode cX11_isClashHere 4 = .ok (.aload_n 0, 1) := by decide +kernel
theorem dX11_isClashHere_5 : decode cX11_isClashHere 5 = .ok (.iconst 0, 1) := by decide +kernel
theorem dX11_isClashHere_6 : decode cX11_isClashHere 6 = .ok (.aload_n 0, 1) := by decide +kernel
theorem dX11_isClashHere_7 : decode cX11_isClashHere 7 = .ok (.getfield 26, 3) := by decide +kernel
theorem dX11_isClashHere_10 : decode cX11_isClashHere 10 = .ok (.iconst 3, 1) := by decide +kernel
theorem dX11_isClashHere_11 : decode cX11_isClashHere 11 = .ok (.iaload, 1) := by decide +kernel
theorem dX11_isClashHere_12 : decode cX11_isClashHere 12 = .ok (.iconst 1, 1) := by decide +kernel
theorem dX11_isClashHere_13 : decode cX11_isClashHere 13 = .ok (.isub, 1) := by decide +kernel
theorem dX11_isClashHere_14 : decode cX11_isClashHere 14 = .ok (.invokevirtual 179, 3) := by decide +kernel
theorem dX11_isClashHere_17 : decode cX11_isClashHere 17 = .ok (.ifCond .ne 5, 3) := by decide +kernel
theorem dX11_isClashHere_20 : decode cX11_isClashHere 20 = .ok (.iconst 0, 1) := by decide +kernel
theorem dX11_isClashHere_21 : decode cX11_isClashHere 21 = .ok (.ireturn, 1) := by decide +kernel
theorem dX11_isClashHere_22 : decode cX11_isClashHere 22 = .ok (.aload_n 0, 1) := by decide +kernel
theorem dX11_isClashHere_23 : decode cX11_isClashHere 23 = .ok (.getfield 127, 3) := by decide +kernel
theorem dX11_isClashHere_26 : decode cX11_isClashHere 26 = .ok (.istore_n 1, 1) := by decide +kernel
theorem dX11_isClashHere_27 : decode cX11_isClashHere 27 = .ok (.aload_n 0, 1) := by decide +kernel
theorem dX11_isClashHere_28 : decode cX11_isClashHere 28 = .ok (.invokevirtual 105, 3) := by decide +kernel
theorem dX11_isClashHere_31 : decode cX11_isClashHere 31 = .ok (.pop, 1) := by decide +kernel
theorem dX11_isClashHere_32 : decode cX11_isClashHere 32 = .ok (.aload_n 0, 1) := by decide +kernel
theorem dX11_isClashHere_33 : decode cX11_isClashHere 33 = .ok (.getfield 102, 3) := by decide +kernel
theorem dX11_isClashHere_36 : decode cX11_isClashHere 36 = .ok (.istore_n 2, 1) := by decide +kernel
theorem dX11_isClashHere_37 : decode cX11_isClashHere 37 = .ok (.aload_n 0, 1) := by decide +kernel
theorem dX11_isClashHere_38 : decode cX11_isClashHere 38 = .ok (.iconst 0, 1) := by decide +kernel
theorem dX11_isClashHere_39 : decode cX11_isClashHere 39 = .ok (.aload_n 0, 1) := by decide +kernel
theorem dX11_isClashHere_40 : decode cX11_isClashHere 40 = .ok (.getfield 26, 3) := by decide +kernel
theorem dX11_isClashHere_43 : decode cX11_isClashHere 43 = .ok (.iconst 3, 1) := by decide +kernel
theorem dX11_isClashHere_44 : decode cX11_isClashHere 44 = .ok (.iaload, 1) := by decide +kernel
theorem dX11_isClashHere_45 : decode cX11_isClashHere 45 = .ok (.iconst 1, 1) := by decide +kernel
theorem dX11_isClashHere_46 : decode cX11_isClashHere 46 = .ok (.isub, 1) := by decide +kernel
theorem dX11_isClashHere_47 : decode cX11_isClashHere 47 = .ok (.invokevirtual 179, 3) := by decide +kernel
theorem dX11_isClashHere_50 : decode cX11_isClashHere 50 = .ok (.ifCond .ne 5, 3) := by decide +kernel
theorem dX11_isClashHere_53 : decode cX11_isClashHere 53 = .ok (.iconst 0, 1) := by decide +kernel
theorem dX11_isClashHere_54 : decode cX11_isClashHere 54 = .ok (.ireturn, 1) := by decide +kernel
theorem dX11_isClashHere_55 : decode cX11_isClashHere 55 = .ok (.iload_n 1, 1) := by decide +kernel
theorem dX11_isClashHere_56 : decode cX11_isClashHere 56 = .ok (.aload_n 0, 1) := by decide +kernel
theorem dX11_isClashHere_57 : decode cX11_isClashHere 57 = .ok (.getfield 127, 3) := by decide +kernel
theorem dX11_isClashHere_60 : decode cX11_isClashHere 60 = .ok (.if_icmp .ne 10, 3) := by decide +kernel
theorem dX11_isClashHere_63 : decode cX11_isClashHere 63 = .ok (.aload_n 0, 1) := by decide +kernel
theorem dX11_isClashHere_64 : decode cX11_isClashHere 64 = .ok (.iconst 1, 1) := by decide +kernel
theorem dX11_isClashHere_65 : decode cX11_isClashHere 65 = .ok (.iload_n 2, 1) := by decide +kernel
theorem dX11_isClashHere_66 : decode cX11_isClashHere 66 = .ok (.invokevirtual 123, 3) := by decide +kernel
theorem dX11_isClashHere_69 : decode cX11_isClashHere 69 = .ok (.ireturn, 1) := by decide +kernel
theorem dX11_isClashHere_70 : decode cX11_isClashHere 70 = .ok (.aload_n 0, 1) := by decide +kernel
theorem dX11_isClashHere_71 : decode cX11_isClashHere 71 = .ok (.getfield 26, 3) := by decide +kernel
theorem dX11_isClashHere_74 : decode cX11_isClashHere 74 = .ok (.bipush 72, 2) := by decide +kernel
theorem dX11_isClashHere_76 : decode cX11_isClashHere 76 = .ok (.iload_n 1, 1) := by decide +kernel
theorem dX11_isClashHere_77 : decode cX11_isClashHere 77 = .ok (.iadd, 1) := by decide +kernel
theorem dX11_isClashHere_78 : decode cX11_isClashHere 78 = .ok (.dup2, 1) := by decide +kernel
theorem dX11_isClashHere_79 : decode cX11_isClashHere 79 = .ok (.iaload, 1) := by decide +kernel
theorem dX11_isClashHere_80 : decode cX11_isClashHere 80 = .ok (.iconst 1, 1) := by decide +kernel
theorem dX11_isClashHere_81 : decode cX11_isClashHere 81 = .ok (.aload_n 0, 1) := by decide +kernel
theorem dX11_isClashHere_82 : decode cX11_isClashHere 82 = .ok (.getfield 127, 3) := by decide +kernel
theorem dX11_isClashHere_85 : decode cX11_isClashHere 85 = .ok (.ishl, 1) := by decide +kernel
theorem dX11_isClashHere_86 : decode cX11_isClashHere 86 = .ok (.ior, 1) := by decide +kernel
theorem dX11_isClashHere_87 : decode cX11_isClashHere 87 = .ok (.iastore, 1) := by decide +kernel
theorem dX11_isClashHere_88 : decode cX11_isClashHere 88 = .ok (.aload_n 0, 1) := by decide +kernel
theorem dX11_isClashHere_89 : decode cX11_isClashHere 89 = .ok (.getfield 26, 3) := by decide +kernel
theorem dX11_isClashHere_92 : decode cX11_isClashHere 92 = .ok (.bipush 72, 2) := by decide +kernel
theorem dX11_isClashHere_94 : decode cX11_isClashHere 94 = .ok (.aload_n 0, 1) := by decide +kernel
theorem dX11_isClashHere_95 : decode cX11_isClashHere 95 = .ok (.getfield 127, 3) := by decide +kernel
theorem dX11_isClashHere_98 : decode cX11_isClashHere 98 = .ok (.iadd, 1) := by decide +kernel
theorem dX11_isClashHere_99 : decode cX11_isClashHere 99 = .ok (.dup2, 1) := by decide +kernel
theorem dX11_isClashHere_100 : decode cX11_isClashHere 100 = .ok (.iaload, 1) := by decide +kernel
theorem dX11_isClashHere_101 : decode cX11_isClashHere 101 = .ok (.iconst 1, 1) := by decide +kernel
theorem dX11_isClashHere_102 : decode cX11_isClashHere 102 = .ok (.iload_n 1, 1) := by decide +kernel
theorem dX11_isClashHere_103 : decode cX11_isClashHere 103 = .ok (.ishl, 1) := by decide +kernel
theorem dX11_isClashHere_104 : decode cX11_isClashHere 104 = .ok (.ior, 1) := by decide +kernel
theorem dX11_isClashHere_105 : decode cX11_isClashHere 105 = .ok (.iastore, 1) := by decide +kernel
theorem dX11_isClashHere_106 : decode cX11_isClashHere 106 = .ok (.iconst 1, 1) := by decide +kernel
theorem dX11_isClashHere_107 : decode cX11_isClashHere 107 = .ok (.ireturn, 1) := by decide +kernel
theorem dX11_isScoreHere_0 : decode cX11_isScoreHere 0 = .ok (.aload_n 0, 1) := by decide +kernel
theorem dX11_isScoreHere_1 : decode cX11_isScoreHere 1 = .ok (.invokevirtual 117, 3) := by decide +kernel
theorem dX11_isScoreHere_4 : decode cX11_isScoreHere 4 = .ok (.aload_n 0, 1) := by decide +kernel
theorem dX11_isScoreHere_5 : decode cX11_isScoreHere 5 = .ok (.iconst 0, 1) := by decide +kernel
theorem dX11_isScoreHere_6 : decode cX11_isScoreHere 6 = .ok (.aload_n 0, 1) := by decide +kernel
theorem dX11_isScoreHere_7 : decode cX11_isScoreHere 7 = .ok (.getfield 26, 3) := by decide +kernel
theorem dX11_isScoreHere_10 : decode cX11_isScoreHere 10 = .ok (.iconst 1, 1) := by decide +kernel
theorem dX11_isScoreHere_11 : decode cX11_isScoreHere 11 = .ok (.iaload, 1) := by decide +kernel
theorem dX11_isScoreHere_12 : decode cX11_isScoreHere 12 = .ok (.iconst 1, 1) := by decide +kernel
theorem dX11_isScoreHere_13 : decode cX11_isScoreHere 13 = .ok (.isub, 1) := by decide +kernel
theorem dX11_isScoreHere_14 : decode cX11_isScoreHere 14 = .ok (.invokevirtual 179, 3) := by decide +kernel
theorem dX11_isScoreHere_17 : decode cX11_isScoreHere 17 = .ok (.ifCond .ne 5, 3) := by decide +kernel
theorem dX11_isScoreHere_20 : decode cX11_isScoreHere 20 = .ok (.iconst 0, 1) := by decide +kernel
theorem dX11_isScoreHere_21 : decode cX11_isScoreHere 21 = .ok (.ireturn, 1) := by decide +kernel
theorem dX11_isScoreHere_22 : decode cX11_isScoreHere 22 = .ok (.aload_n 0, 1) := by decide +kernel
theorem dX11_isScoreHere_23 : decode cX11_isScoreHere 23 = .ok (.getfield 127, 3) := by decide +kernel
theorem dX11_isScoreHere_26 : decode cX11_isScoreHere 26 = .ok (.istore_n 1, 1) := by decide +kernel
theorem dX11_isScoreHere_27 : decode cX11_isScoreHere 27 = .ok (.aload_n 0, 1) := by decide +kernel
theorem dX11_isScoreHere_28 : decode cX11_isScoreHere 28 = .ok (.iconst 0, 1) := by decide +kernel
theorem dX11_isScoreHere_29 : decode cX11_isScoreHere 29 = .ok (.aload_n 0, 1) := by decide +kernel
theorem dX11_isScoreHere_30 : decode cX11_isScoreHere 30 = .ok (.getfield 26, 3) := by decide +kernel
theorem dX11_isScoreHere_33 : decode cX11_isScoreHere 33 = .ok (.iconst 3, 1) := by decide +kernel
theorem dX11_isScoreHere_34 : decode cX11_isScoreHere 34 = .ok (.iaload, 1) := by decide +kernel
theorem dX11_isScoreHere_35 : decode cX11_isScoreHere 35 = .ok (.iconst 1, 1) := by decide +kernel
theorem dX11_isScoreHere_36 : decode cX11_isScoreHere 36 = .ok (.isub, 1) := by decide +kernel
theorem dX11_isScoreHere_37 : decode cX11_isScoreHere 37 = .ok (.invokevirtual 179, 3) := by decide +kernel
theorem dX11_isScoreHere_40 : decode cX11_isScoreHere 40 = .ok (.ifCond .ne 5, 3) := by decide +kernel
theorem dX11_isScoreHere_43 : decode cX11_isScoreHere 43 = .ok (.iconst 0, 1) := by decide +kernel
theorem dX11_isScoreHere_44 : decode cX11_isScoreHere 44 = .ok (.ireturn, 1) := by decide +kernel
theorem dX11_isScoreHere_45 : decode cX11_isScoreHere 45 = .ok (.aload_n 0, 1) := by decide +kernel
theorem dX11_isScoreHere_46 : decode cX11_isScoreHere 46 = .ok (.getfield 26, 3) := by decide +kernel
theorem dX11_isScoreHere_49 : decode cX11_isScoreHere 49 = .ok (.bipush 78, 2) := by decide +kernel
theorem dX11_isScoreHere_51 : decode cX11_isScoreHere 51 = .ok (.iload_n 1, 1) := by decide +kernel
theorem dX11_isScoreHere_52 : decode cX11_isScoreHere 52 = .ok (.iadd, 1) := by decide +kernel
theorem dX11_isScoreHere_53 : decode cX11_isScoreHere 53 = .ok (.dup2, 1) := by decide +kernel
theorem dX11_isScoreHere_54 : decode cX11_isScoreHere 54 = .ok (.iaload, 1) := by decide +kernel
theorem dX11_isScoreHere_55 : decode cX11_isScoreHere 55 = .ok (.iconst 1, 1) := by decide +kernel
theorem dX11_isScoreHere_56 : decode cX11_isScoreHere 56 = .ok (.aload_n 0, 1) := by decide +kernel
theorem dX11_isScoreHere_57 : decode cX11_isScoreHere 57 = .ok (.getfield 127, 3) := by decide +kernel
theorem dX11_isScoreHere_60 : decode cX11_isScoreHere 60 = .ok (.ishl, 1) := by decide +kernel
theorem dX11_isScoreHere_61 : decode cX11_isScoreHere 61 = .ok (.ior, 1) := by decide +kernel
theorem dX11_isScoreHere_62 : decode cX11_isScoreHere 62 = .ok (.iastore, 1) := by decide +kernel
theorem dX11_isScoreHere_63 : decode cX11_isScoreHere 63 = .ok (.iconst 1, 1) := by decide +kernel
theorem dX11_isScoreHere_64 : decode cX11_isScoreHere 64 = .ok (.ireturn, 1) := by decide +kernel
theorem dX11_junctionLineHere_0 : decode cX11_junctionLineHere 0 = .ok (.aload_n 0, 1) := by decide +kernel
theorem dX11_junctionLineHere_1 : decode cX11_junctionLineHere 1 = .ok (.ldc2_w 234, 3) := by decide +kernel
theorem dX11_junctionLineHere_4 : decode cX11_junctionLineHere 4 = .ok (.invokevirtual 113, 3) := by decide +kernel
theorem dX11_junctionLineHere_7 : decode cX11_junctionLineHere 7 = .ok (.ifCond .eq 9, 3) := by decide +kernel
theorem dX11_junctionLineHere_10 : decode cX11_junctionLineHere 10 = .ok (.aload_n 0, 1) := by decide +kernel
theorem dX11_junctionLineHere_11 : decode cX11_junctionLineHere 11 = .ok (.iload_n 1, 1) := by decide +kernel
theorem dX11_junctionLineHere_12 : decode cX11_junctionLineHere 12 = .ok (.invokevirtual 236, 3) := by decide +kernel
theorem dX11_junctionLineHere_15 : decode cX11_junctionLineHere 15 = .ok (.ireturn, 1) := by decide +kernel
theorem dX11_junctionLineHere_16 : decode cX11_junctionLineHere 16 = .ok (.aload_n 0, 1) := by decide +kernel
theorem dX11_junctionLineHere_17 : decode cX11_junctionLineHere 17 = .ok (.getfield 26, 3) := by decide +kernel
theorem dX11_junctionLineHere_20 : decode cX11_junctionLineHere 20 = .ok (.iconst 0, 1) := by decide +kernel
theorem dX11_junctionLineHere_21 : decode cX11_junctionLineHere 21 = .ok (.iaload, 1) := by decide +kernel
theorem dX11_junctionLineHere_22 : decode cX11_junctionLineHere 22 = .ok (.ifCond .ne 10, 3) := by decide +kernel
theorem dX11_junctionLineHere_25 : decode cX11_junctionLineHere 25 = .ok (.aload_n 0, 1) := by decide +kernel
theorem dX11_junctionLineHere_26 : decode cX11_junctionLineHere 26 = .ok (.iconst 4, 1) := by decide +kernel
theorem dX11_junctionLineHere_27 : decode cX11_junctionLineHere 27 = .ok (.iload_n 1, 1) := by decide +kernel
theorem dX11_junctionLineHere_28 : decode cX11_junctionLineHere 28 = .ok (.invokevirtual 123, 3) := by decide +kernel
theorem dX11_junctionLineHere_31 : decode cX11_junctionLineHere 31 = .ok (.ireturn, 1) := by decide +kernel
theorem dX11_junctionLineHere_32 : decode cX11_junctionLineHere 32 = .ok (.aload_n 0, 1) := by decide +kernel
theorem dX11_junctionLineHere_33 : decode cX11_junctionLineHere 33 = .ok (.ldc2_w 134, 3) := by decide +kernel
theorem dX11_junctionLineHere_36 : decode cX11_junctionLineHere 36 = .ok (.invokevirtual 113, 3) := by decide +kernel
theorem dX11_junctionLineHere_39 : decode cX11_junctionLineHere 39 = .ok (.ifCond .eq 9, 3) := by decide +kernel
theorem dX11_junctionLineHere_42 : decode cX11_junctionLineHere 42 = .ok (.aload_n 0, 1) := by decide +kernel
theorem dX11_junctionLineHere_43 : decode cX11_junctionLineHere 43 = .ok (.iload_n 1, 1) := by decide +kernel
theorem dX11_junctionLineHere_44 : decode cX11_junctionLineHere 44 = .ok (.invokevirtual 239, 3) := by decide +kernel
theorem dX11_junctionLineHere_47 : decode cX11_junctionLineHere 47 = .ok (.ireturn, 1) := by decide +kernel
theorem dX11_junctionLineHere_48 : decode cX11_junctionLineHere 48 = .ok (.aload_n 0, 1) := by decide +kernel
theorem dX11_junctionLineHere_49 : decode cX11_junctionLineHere 49 = .ok (.ldc2_w 242, 3) := by decide +kernel
theorem dX11_junctionLineHere_52 : decode cX11_junctionLineHere 52 = .ok (.invokevirtual 113, 3) := by decide +kernel
theorem dX11_junctionLineHere_55 : decode cX11_junctionLineHere 55 = .ok (.ifCond .eq 10, 3) := by decide +kernel
theorem dX11_junctionLineHere_58 : decode cX11_junctionLineHere 58 = .ok (.aload_n 0, 1) := by decide +kernel
theorem dX11_junctionLineHere_59 : decode cX11_junctionLineHere 59 = .ok (.invokevirtual 244, 3) := by decide +kernel
theorem dX11_junctionLineHere_62 : decode cX11_junctionLineHere 62 = .ok (.goto 7, 3) := by decide +kernel
theorem dX11_junctionLineHere_65 : decode cX11_junctionLineHere 65 = .ok (.aload_n 0, 1) := by decide +kernel
theorem dX11_junctionLineHere_66 : decode cX11_junctionLineHere 66 = .ok (.invokevirtual 247, 3) := by decide +kernel
theorem dX11_junctionLineHere_69 : decode cX11_junctionLineHere 69 = .ok (.ireturn, 1) := by decide +kernel
theorem dX11_isJunctionWord_0 : decode cX11_isJunctionWord 0 = .ok (.aload_n 0, 1) := by decide +kernel
theorem dX11_isJunctionWord_1 : decode cX11_isJunctionWord 1 = .ok (.ldc2_w 234, 3) := by decide +kernel
theorem dX11_isJunctionWord_4 : decode cX11_isJunctionWord 4 = .ok (.invokevirtual 113, 3) := by decide +kernel
theorem dX11_isJunctionWord_7 : decode cX11_isJunctionWord 7 = .ok (.ifCond .ne 33, 3) := by decide +kernel
theorem dX11_isJunctionWord_10 : decode cX11_isJunctionWord 10 = .ok (.aload_n 0, 1) := by decide +kernel
theorem dX11_isJunctionWord_11 : decode cX11_isJunctionWord 11 = .ok (.ldc2_w 134, 3) := by decide +kernel
theorem dX11_isJunctionWord_14 : decode cX11_isJunctionWord 14 = .ok (.invokevirtual 113, 3) := by decide +kernel
theorem dX11_isJunctionWord_17 : decode cX11_isJunctionWord 17 = .ok (.ifCond .ne 23, 3) := by decide +kernel
theorem dX11_isJunctionWord_20 : decode cX11_isJunctionWord 20 = .ok (.aload_n 0, 1) := by decide +kernel
theorem dX11_isJunctionWord_21 : decode cX11_isJunctionWord 21 = .ok (.ldc2_w 242, 3) := by decide +kernel
theorem dX11_isJunctionWord_24 : decode cX11_isJunctionWord 24 = .ok (.invokevirtual 113, 3) := by decide +kernel
theorem dX11_isJunctionWord_27 : decode cX11_isJunctionWord 27 = .ok (.ifCond .ne 13, 3) := by decide +kernel
theorem dX11_isJunctionWord_30 : decode cX11_isJunctionWord 30 = .ok (.aload_n 0, 1) := by decide +kernel
theorem dX11_isJunctionWord_31 : decode cX11_isJunctionWord 31 = .ok (.ldc2_w 250, 3) := by decide +kernel
theorem dX11_isJunctionWord_34 : decode cX11_isJunctionWord 34 = .ok (.invokevirtual 113, 3) := by decide +kernel
theorem dX11_isJunctionWord_37 : decode cX11_isJunctionWord 37 = .ok (.ifCond .eq 7, 3) := by decide +kernel
theorem dX11_isJunctionWord_40 : decode cX11_isJunctionWord 40 = .ok (.iconst 1, 1) := by decide +kernel
theorem dX11_isJunctionWord_41 : decode cX11_isJunctionWord 41 = .ok (.goto 4, 3) := by decide +kernel
theorem dX11_isJunctionWord_44 : decode cX11_isJunctionWord 44 = .ok (.iconst 0, 1) := by decide +kernel
theorem dX11_isJunctionWord_45 : decode cX11_isJunctionWord 45 = .ok (.ireturn, 1) := by decide +kernel
theorem dX11_clauseHere_0 : decode cX11_clauseHere 0 = .ok (.aload_n 0, 1) := by decide +kernel
theorem dX11_clauseHere_1 : decode cX11_clauseHere 1 = .ok (.invokevirtual 105, 3) := by decide +kernel
theorem dX11_clauseHere_4 : decode cX11_clauseHere 4 = .ok (.pop, 1) := by decide +kernel
theorem dX11_clauseHere_5 : decode cX11_clauseHere 5 = .ok (.aload_n 0, 1) := by decide +kernel
theorem dX11_clauseHere_6 : decode cX11_clauseHere 6 = .ok (.getfield 102, 3) := by decide +kernel
theorem dX11_clauseHere_9 : decode cX11_clauseHere 9 = .ok (.istore_n 1, 1) := by decide +kernel
theorem dX11_clauseHere_10 : decode cX11_clauseHere 10 = .ok (.aload_n 0, 1) := by decide +kernel
theorem dX11_clauseHere_11 : decode cX11_clauseHere 11 = .ok (.getfield 158, 3) := by decide +kernel
theorem dX11_clauseHere_14 : decode cX11_clauseHere 14 = .ok (.bipush 6, 2) := by decide +kernel
theorem dX11_clauseHere_16 : decode cX11_clauseHere 16 = .ok (.if_icmp .ne 7, 3) := by decide +kernel
theorem dX11_clauseHere_19 : decode cX11_clauseHere 19 = .ok (.iconst 1, 1) := by decide +kernel
theorem dX11_clauseHere_20 : decode cX11_clauseHere 20 = .ok (.goto 4, 3) := by decide +kernel
theorem dX11_clauseHere_23 : decode cX11_clauseHere 23 = .ok (.iconst 0, 1) := by decide +kernel
theorem dX11_clauseHere_24 : decode cX11_clauseHere 24 = .ok (.istore_n 2, 1) := by decide +kernel
theorem dX11_clauseHere_25 : decode cX11_clauseHere 25 = .ok (.iload_n 2, 1) := by decide +kernel
theorem dX11_clauseHere_26 : decode cX11_clauseHere 26 = .ok (.ifCond .eq 13, 3) := by decide +kernel
theorem dX11_clauseHere_29 : decode cX11_clauseHere 29 = .ok (.aload_n 0, 1) := by decide +kernel
theorem dX11_clauseHere_30 : decode cX11_clauseHere 30 = .ok (.invokevirtual 252, 3) := by decide +kernel
theorem dX11_clauseHere_33 : decode cX11_clauseHere 33 = .ok (.ifCond .ne 23, 3) := by decide +kernel
theorem dX11_clauseHere_36 : decode cX11_clauseHere 36 = .ok (.goto 13, 3) := by decide +kernel
theorem dX11_clauseHere_39 : decode cX11_clauseHere 39 = .ok (.aload_n 0, 1) := by decide +kernel
theorem dX11_clauseHere_40 : decode cX11_clauseHere 40 = .ok (.ldc2_w 144, 3) := by decide +kernel
theorem dX11_clauseHere_43 : decode cX11_clauseHere 43 = .ok (.invokevirtual 113, 3) := by decide +kernel
theorem dX11_clauseHere_46 : decode cX11_clauseHere 46 = .ok (.ifCond .ne 10, 3) := by decide +kernel
theorem dX11_clauseHere_49 : decode cX11_clauseHere 49 = .ok (.aload_n 0, 1) := by decide +kernel
theorem dX11_clauseHere_50 : decode cX11_clauseHere 50 = .ok (.iconst 0, 1) := by decide +kernel
theorem dX11_clauseHere_51 : decode cX11_clauseHere 51 = .ok (.iload_n 1, 1) := by decide +kernel
theorem dX11_clauseHere_52 : decode cX11_clauseHere 52 = .ok (.invokevirtual 123, 3) := by decide +kernel
theorem dX11_clauseHere_55 : decode cX11_clauseHere 55 = .ok (.ireturn, 1) := by decide +kernel
theorem dX11_clauseHere_56 : decode cX11_clauseHere 56 = .ok (.aload_n 0, 1) := by decide +kernel
theorem dX11_clauseHere_57 : decode cX11_clauseHere 57 = .ok (.getfield 255, 3) := by decide +kernel
theorem dX11_clauseHere_60 : decode cX11_clauseHere 60 = .ok (.iload_n 2, 1) := by decide +kernel
theorem dX11_clauseHere_61 : decode cX11_clauseHere 61 = .ok (.ifCond .eq 8, 3) := by decide +kernel
theorem dX11_clauseHere_64 : decode cX11_clauseHere 64 = .ok (.bipush 40, 2) := by decide +kernel
theorem dX11_clauseHere_66 : decode cX11_clauseHere 66 = .ok (.goto 5, 3) := by decide +kernel
theorem dX11_clauseHere_69 : decode cX11_clauseHere 69 = .ok (.bipush 12, 2) := by decide +kernel
theorem dX11_clauseHere_71 : decode cX11_clauseHere 71 = .ok (.if_icmp .ne 10, 3) := by decide +kernel
theorem dX11_clauseHere_74 : decode cX11_clauseHere 74 = .ok (.aload_n 0, 1) := by decide +kernel
theorem dX11_clauseHere_75 : decode cX11_clauseHere 75 = .ok (.iconst 4, 1) := by decide +kernel
theorem dX11_clauseHere_76 : decode cX11_clauseHere 76 = .ok (.iload_n 1, 1) := by decide +kernel
theorem dX11_clauseHere_77 : decode cX11_clauseHere 77 = .ok (.invokevirtual 123, 3) := by decide +kernel
theorem dX11_clauseHere_80 : decode cX11_clauseHere 80 = .ok (.ireturn, 1) := by decide +kernel
theorem dX11_clauseHere_81 : decode cX11_clauseHere 81 = .ok (.aload_n 0, 1) := by decide +kernel
theorem dX11_clauseHere_82 : decode cX11_clauseHere 82 = .ok (.dup, 1) := by decide +kernel
theorem dX11_clauseHere_83 : decode cX11_clauseHere 83 = .ok (.getfield 255, 3) := by decide +kernel
theorem dX11_clauseHere_86 : decode cX11_clauseHere 86 = .ok (.iconst 1, 1) := by decide +kernel
theorem dX11_clauseHere_87 : decode cX11_clauseHere 87 = .ok (.iadd, 1) := by decide +kernel
theorem dX11_clauseHere_88 : decode cX11_clauseHere 88 = .ok (.putfield 255, 3) := by decide +kernel
theorem dX11_clauseHere_91 : decode cX11_clauseHere 91 = .ok (.iload_n 2, 1) := by decide +kernel
theorem dX11_clauseHere_92 : decode cX11_clauseHere 92 = .ok (.ifCond .eq 11, 3) := by decide +kernel
theorem dX11_clauseHere_95 : decode cX11_clauseHere 95 = .ok (.aload_n 0, 1) := by decide +kernel
theorem dX11_clauseHere_96 : decode cX11_clauseHere 96 = .ok (.iload_n 1, 1) := by decide +kernel
theorem dX11_clauseHere_97 : decode cX11_clauseHere 97 = .ok (.invokevirtual 258, 3) := by decide +kernel
theorem dX11_clauseHere_100 : decode cX11_clauseHere 100 = .ok (.goto 7, 3) := by decide +kernel
theorem dX11_clauseHere_103 : decode cX11_clauseHere 103 = .ok (.aload_n 0, 1) := by decide +kernel
theorem dX11_clauseHere_104 : decode cX11_clauseHere 104 = .ok (.invokevirtual 261, 3) := by decide +kernel
theorem dX11_clauseHere_107 : decode cX11_clauseHere 107 = .ok (.ireturn, 1) := by decide +kernel
theorem dX11_readsAll_0 : decode cX11_readsAll 0 = .ok (.aload_n 0, 1) := by decide +kernel
theorem dX11_readsAll_1 : decode cX11_readsAll 1 = .ok (.getfield 17, 3) := by decide +kernel
theorem dX11_readsAll_4 : decode cX11_readsAll 4 = .ok (.aload_n 0, 1) := by decide +kernel
theorem dX11_readsAll_5 : decode cX11_readsAll 5 = .ok (.getfield 158, 3) := by decide +kernel
theorem dX11_readsAll_8 : decode cX11_readsAll 8 = .ok (.iconst 0, 1) := by decide +kernel
theorem dX11_readsAll_9 : decode cX11_readsAll 9 = .ok (.iastore, 1) := by decide +kernel
theorem dX11_readsAll_10 : decode cX11_readsAll 10 = .ok (.aload_n 0, 1) := by decide +kernel
theorem dX11_readsAll_11 : decode cX11_readsAll 11 = .ok (.iconst 0, 1) := by decide +kernel
theorem dX11_readsAll_12 : decode cX11_readsAll 12 = .ok (.putfield 255, 3) := by decide +kernel
theorem dX11_readsAll_15 : decode cX11_readsAll 15 = .ok (.aload_n 0, 1) := by decide +kernel
theorem dX11_readsAll_16 : decode cX11_readsAll 16 = .ok (.iconst 0, 1) := by decide +kernel
theorem dX11_readsAll_17 : decode cX11_readsAll 17 = .ok (.putfield 102, 3) := by decide +kernel
theorem dX11_readsAll_20 : decode cX11_readsAll 20 = .ok (.aload_n 0, 1) := by decide +kernel
theorem dX11_readsAll_21 : decode cX11_readsAll 21 = .ok (.iconst 0, 1) := by decide +kernel
theorem dX11_readsAll_22 : decode cX11_readsAll 22 = .ok (.putfield 99, 3) := by decide +kernel
theorem dX11_readsAll_25 : decode cX11_readsAll 25 = .ok (.aload_n 0, 1) := by decide +kernel
theorem dX11_readsAll_26 : decode cX11_readsAll 26 = .ok (.iconst 0, 1) := by decide +kernel
theorem dX11_readsAll_27 : decode cX11_readsAll 27 = .ok (.putfield 161, 3) := by decide +kernel
theorem dX11_readsAll_30 : decode cX11_readsAll 30 = .ok (.aload_n 0, 1) := by decide +kernel
theorem dX11_readsAll_31 : decode cX11_readsAll 31 = .ok (.invokevirtual 264, 3) := by decide +kernel
theorem dX11_readsAll_34 : decode cX11_readsAll 34 = .ok (.istore_n 1, 1) := by decide +kernel
theorem dX11_readsAll_35 : decode cX11_readsAll 35 = .ok (.iload_n 1, 1) := by decide +kernel
theorem dX11_readsAll_36 : decode cX11_readsAll 36 = .ok (.ifCond .eq 30, 3) := by decide +kernel
theorem dX11_readsAll_39 : decode cX11_readsAll 39 = .ok (.aload_n 0, 1) := by decide +kernel
theorem dX11_readsAll_40 : decode cX11_readsAll 40 = .ok (.invokevirtual 105, 3) := by decide +kernel
theorem dX11_readsAll_43 : decode cX11_readsAll 43 = .ok (.bipush 59, 2) := by decide +kernel
theorem dX11_readsAll_45 : decode cX11_readsAll 45 = .ok (.if_icmp .ne 21, 3) := by decide +kernel
theorem dX11_readsAll_48 : decode cX11_readsAll 48 = .ok (.aload_n 0, 1) := by decide +kernel
theorem dX11_readsAll_49 : decode cX11_readsAll 49 = .ok (.dup, 1) := by decide +kernel
theorem dX11_readsAll_50 : decode cX11_readsAll 50 = .ok (.getfield 102, 3) := by decide +kernel
theorem dX11_readsAll_53 : decode cX11_readsAll 53 = .ok (.iconst 1, 1) := by decide +kernel
theorem dX11_readsAll_54 : decode cX11_readsAll 54 = .ok (.iadd, 1) := by decide +kernel
theorem dX11_readsAll_55 : decode cX11_readsAll 55 = .ok (.putfield 102, 3) := by decide +kernel
theorem dX11_readsAll_58 : decode cX11_readsAll 58 = .ok (.aload_n 0, 1) := by decide +kernel
theorem dX11_readsAll_59 : decode cX11_readsAll 59 = .ok (.invokevirtual 264, 3) := by decide +kernel
theorem dX11_readsAll_62 : decode cX11_readsAll 62 = .ok (.istore_n 1, 1) := by decide +kernel
theorem dX11_readsAll_63 : decode cX11_readsAll 63 = .ok (.goto (-28), 3) := by decide +kernel
theorem dX11_readsAll_66 : decode cX11_readsAll 66 = .ok (.iload_n 1, 1) := by decide +kernel
theorem dX11_readsAll_67 : decode cX11_readsAll 67 = .ok (.ifCond .eq 21, 3) := by decide +kernel
theorem dX11_readsAll_70 : decode cX11_readsAll 70 = .ok (.aload_n 0, 1) := by decide +kernel
theorem dX11_readsAll_71 : decode cX11_readsAll 71 = .ok (.invokevirtual 105, 3) := by decide +kernel
theorem dX11_readsAll_74 : decode cX11_readsAll 74 = .ok (.iconst (-1), 1) := by decide +kernel
theorem dX11_readsAll_75 : decode cX11_readsAll 75 = .ok (.if_icmp .eq 13, 3) := by decide +kernel
theorem dX11_readsAll_78 : decode cX11_readsAll 78 = .ok (.aload_n 0, 1) := by decide +kernel
theorem dX11_readsAll_79 : decode cX11_readsAll 79 = .ok (.iconst 0, 1) := by decide +kernel
theorem dX11_readsAll_80 : decode cX11_readsAll 80 = .ok (.aload_n 0, 1) := by decide +kernel
theorem dX11_readsAll_81 : decode cX11_readsAll 81 = .ok (.getfield 102, 3) := by decide +kernel
theorem dX11_readsAll_84 : decode cX11_readsAll 84 = .ok (.invokevirtual 123, 3) := by decide +kernel
theorem dX11_readsAll_87 : decode cX11_readsAll 87 = .ok (.pop, 1) := by decide +kernel
theorem dX11_readsAll_88 : decode cX11_readsAll 88 = .ok (.aload_n 0, 1) := by decide +kernel
theorem dX11_readsAll_89 : decode cX11_readsAll 89 = .ok (.iconst 0, 1) := by decide +kernel
theorem dX11_readsAll_90 : decode cX11_readsAll 90 = .ok (.putfield 92, 3) := by decide +kernel
theorem dX11_readsAll_93 : decode cX11_readsAll 93 = .ok (.aload_n 0, 1) := by decide +kernel
theorem dX11_readsAll_94 : decode cX11_readsAll 94 = .ok (.getfield 99, 3) := by decide +kernel
theorem dX11_readsAll_97 : decode cX11_readsAll 97 = .ok (.ifCond .ne 7, 3) := by decide +kernel
theorem dX11_readsAll_100 : decode cX11_readsAll 100 = .ok (.iconst 1, 1) := by decide +kernel
theorem dX11_readsAll_101 : decode cX11_readsAll 101 = .ok (.goto 4, 3) := by decide +kernel
theorem dX11_readsAll_104 : decode cX11_readsAll 104 = .ok (.iconst 0, 1) := by decide +kernel
theorem dX11_readsAll_105 : decode cX11_readsAll 105 = .ok (.ireturn, 1) := by decide +kernel
theorem dX11_rule_0 : decode cX11_rule 0 = .ok (.aload_n 0, 1) := by decide +kernel
theorem dX11_rule_1 : decode cX11_rule 1 = .ok (.getfield 267, 3) := by decide +kernel
theorem dX11_rule_4 : decode cX11_rule 4 = .ok (.bipush 6, 2) := by decide +kernel
theorem dX11_rule_6 : decode cX11_rule 6 = .ok (.if_icmp .ne 5, 3) := by decide +kernel
theorem dX11_rule_9 : decode cX11_rule 9 = .ok (.iconst (-1), 1) := by decide +kernel
theorem dX11_rule_10 : decode cX11_rule 10 = .ok (.ireturn, 1) := by decide +kernel
theorem dX11_rule_11 : decode cX11_rule 11 = .ok (.aload_n 0, 1) := by decide +kernel
theorem dX11_rule_12 : decode cX11_rule 12 = .ok (.aload_n 0, 1) := by decide +kernel
theorem dX11_rule_13 : decode cX11_rule 13 = .ok (.getfield 267, 3) := by decide +kernel
theorem dX11_rule_16 : decode cX11_rule 16 = .ok (.putfield 158, 3) := by decide +kernel
theorem dX11_rule_19 : decode cX11_rule 19 = .ok (.aload_n 0, 1) := by decide +kernel
theorem dX11_rule_20 : decode cX11_rule 20 = .ok (.getfield 23, 3) := by decide +kernel
theorem dX11_rule_23 : decode cX11_rule 23 = .ok (.aload_n 0, 1) := by decide +kernel
theorem dX11_rule_24 : decode cX11_rule 24 = .ok (.getfield 158, 3) := by decide +kernel
theorem dX11_rule_27 : decode cX11_rule 27 = .ok (.iconst 0, 1) := by decide +kernel
theorem dX11_rule_28 : decode cX11_rule 28 = .ok (.iastore, 1) := by decide +kernel
theorem dX11_rule_29 : decode cX11_rule 29 = .ok (.aload_n 0, 1) := by decide +kernel
theorem dX11_rule_30 : decode cX11_rule 30 = .ok (.invokevirtual 270, 3) := by decide +kernel
theorem dX11_rule_33 : decode cX11_rule 33 = .ok (.ifCond .ne 11, 3) := by decide +kernel
theorem dX11_rule_36 : decode cX11_rule 36 = .ok (.bipush (-2), 2) := by decide +kernel
theorem dX11_rule_38 : decode cX11_rule 38 = .ok (.aload_n 0, 1) := by decide +kernel
theorem dX11_rule_39 : decode cX11_rule 39 = .ok (.getfield 99, 3) := by decide +kernel
theorem dX11_rule_42 : decode cX11_rule 42 = .ok (.isub, 1) := by decide +kernel
theorem dX11_rule_43 : decode cX11_rule 43 = .ok (.ireturn, 1) := by decide +kernel
theorem dX11_rule_44 : decode cX11_rule 44 = .ok (.aload_n 0, 1) := by decide +kernel
theorem dX11_rule_45 : decode cX11_rule 45 = .ok (.dup, 1) := by decide +kernel
theorem dX11_rule_46 : decode cX11_rule 46 = .ok (.getfield 267, 3) := by decide +kernel
theorem dX11_rule_49 : decode cX11_rule 49 = .ok (.iconst 1, 1) := by decide +kernel
theorem dX11_rule_50 : decode cX11_rule 50 = .ok (.iadd, 1) := by decide +kernel
theorem dX11_rule_51 : decode cX11_rule 51 = .ok (.putfield 267, 3) := by decide +kernel
theorem dX11_rule_54 : decode cX11_rule 54 = .ok (.aload_n 0, 1) := by decide +kernel
theorem dX11_rule_55 : decode cX11_rule 55 = .ok (.getfield 267, 3) := by decide +kernel
theorem dX11_rule_58 : decode cX11_rule 58 = .ok (.iconst 1, 1) := by decide +kernel
theorem dX11_rule_59 : decode cX11_rule 59 = .ok (.isub, 1) := by decide +kernel
theorem dX11_rule_60 : decode cX11_rule 60 = .ok (.ireturn, 1) := by decide +kernel
theorem dX11_junction_0 : decode cX11_junction 0 = .ok (.aload_n 0, 1) := by decide +kernel
theorem dX11_junction_1 : decode cX11_junction 1 = .ok (.bipush 6, 2) := by decide +kernel
theorem dX11_junction_3 : decode cX11_junction 3 = .ok (.putfield 158, 3) := by decide +kernel
theorem dX11_junction_6 : decode cX11_junction 6 = .ok (.iconst 0, 1) := by decide +kernel
theorem dX11_junction_7 : decode cX11_junction 7 = .ok (.istore_n 1, 1) := by decide +kernel
theorem dX11_junction_8 : decode cX11_junction 8 = .ok (.iload_n 1, 1) := by decide +kernel
theorem dX11_junction_9 : decode cX11_junction 9 = .ok (.bipush 90, 2) := by decide +kernel
theorem dX11_junction_11 : decode cX11_junction 11 = .ok (.if_icmp .ge 16, 3) := by decide +kernel
theorem dX11_junction_14 : decode cX11_junction 14 = .ok (.aload_n 0, 1) := by decide +kernel
theorem dX11_junction_15 : decode cX11_junction 15 = .ok (.getfield 26, 3) := by decide +kernel
theorem dX11_junction_18 : decode cX11_junction 18 = .ok (.iload_n 1, 1) := by decide +kernel
theorem dX11_junction_19 : decode cX11_junction 19 = .ok (.iconst 0, 1) := by decide +kernel
theorem dX11_junction_20 : decode cX11_junction 20 = .ok (.iastore, 1) := by decide +kernel
theorem dX11_junction_21 : decode cX11_junction 21 = .ok (.iinc 1 1, 3) := by decide +kernel
theorem dX11_junction_24 : decode cX11_junction 24 = .ok (.goto (-16), 3) := by decide +kernel
theorem dX11_junction_27 : decode cX11_junction 27 = .ok (.aload_n 0, 1) := by decide +kernel
theorem dX11_junction_28 : decode cX11_junction 28 = .ok (.invokevirtual 270, 3) := by decide +kernel
theorem dX11_junction_31 : decode cX11_junction 31 = .ok (.ifCond .ne 11, 3) := by decide +kernel
theorem dX11_junction_34 : decode cX11_junction 34 = .ok (.bipush (-2), 2) := by decide +kernel
theorem dX11_junction_36 : decode cX11_junction 36 = .ok (.aload_n 0, 1) := by decide +kernel
theorem dX11_junction_37 : decode cX11_junction 37 = .ok (.getfield 99, 3) := by decide +kernel
theorem dX11_junction_40 : decode cX11_junction 40 = .ok (.isub, 1) := by decide +kernel
theorem dX11_junction_41 : decode cX11_junction 41 = .ok (.ireturn, 1) := by decide +kernel
theorem dX11_junction_42 : decode cX11_junction 42 = .ok (.iconst 0, 1) := by decide +kernel
theorem dX11_junction_43 : decode cX11_junction 43 = .ok (.istore_n 1, 1) := by decide +kernel
theorem dX11_junction_44 : decode cX11_junction 44 = .ok (.iload_n 1, 1) := by decide +kernel
theorem dX11_junction_45 : decode cX11_junction 45 = .ok (.bipush 121, 2) := by decide +kernel
theorem dX11_junction_47 : decode cX11_junction 47 = .ok (.if_icmp .ge 31, 3) := by decide +kernel
theorem dX11_junction_50 : decode cX11_junction 50 = .ok (.aload_n 0, 1) := by decide +kernel
theorem dX11_junction_51 : decode cX11_junction 51 = .ok (.getfield 39, 3) := by decide +kernel
theorem dX11_junction_54 : decode cX11_junction 54 = .ok (.iload_n 1, 1) := by decide +kernel
theorem dX11_junction_55 : decode cX11_junction 55 = .ok (.iload_n 1, 1) := by decide +kernel
theorem dX11_junction_56 : decode cX11_junction 56 = .ok (.bipush 90, 2) := by decide +kernel
theorem dX11_junction_58 : decode cX11_junction 58 = .ok (.if_icmp .ge 12, 3) := by decide +kernel
theorem dX11_junction_61 : decode cX11_junction 61 = .ok (.aload_n 0, 1) := by decide +kernel
theorem dX11_junction_62 : decode cX11_junction 62 = .ok (.getfield 26, 3) := by decide +kernel
theorem dX11_junction_65 : decode cX11_junction 65 = .ok (.iload_n 1, 1) := by decide +kernel
theorem dX11_junction_66 : decode cX11_junction 66 = .ok (.iaload, 1) := by decide +kernel
theorem dX11_junction_67 : decode cX11_junction 67 = .ok (.goto 4, 3) := by decide +kernel
theorem dX11_junction_70 : decode cX11_junction 70 = .ok (.iconst 0, 1) := by decide +kernel
theorem dX11_junction_71 : decode cX11_junction 71 = .ok (.iastore, 1) := by decide +kernel
theorem dX11_junction_72 : decode cX11_junction 72 = .ok (.iinc 1 1, 3) := by decide +kernel
theorem dX11_junction_75 : decode cX11_junction 75 = .ok (.goto (-31), 3) := by decide +kernel
theorem dX11_junction_78 : decode cX11_junction 78 = .ok (.aload_n 0, 1) := by decide +kernel
theorem dX11_junction_79 : decode cX11_junction 79 = .ok (.invokevirtual 273, 3) := by decide +kernel
theorem dX11_junction_82 : decode cX11_junction 82 = .ok (.aload_n 0, 1) := by decide +kernel
theorem dX11_junction_83 : decode cX11_junction 83 = .ok (.iconst 0, 1) := by decide +kernel
theorem dX11_junction_84 : decode cX11_junction 84 = .ok (.putfield 276, 3) := by decide +kernel
theorem dX11_junction_87 : decode cX11_junction 87 = .ok (.aload_n 0, 1) := by decide +kernel
theorem dX11_junction_88 : decode cX11_junction 88 = .ok (.getfield 39, 3) := by decide +kernel
theorem dX11_junction_91 : decode cX11_junction 91 = .ok (.iconst 3, 1) := by decide +kernel
theorem dX11_junction_92 : decode cX11_junction 92 = .ok (.iaload, 1) := by decide +kernel
theorem dX11_junction_93 : decode cX11_junction 93 = .ok (.ireturn, 1) := by decide +kernel
theorem dX11_isRule_0 : decode cX11_isRule 0 = .ok (.iload_n 1, 1) := by decide +kernel
theorem dX11_isRule_1 : decode cX11_isRule 1 = .ok (.ifCond .lt 15, 3) := by decide +kernel
theorem dX11_isRule_4 : decode cX11_isRule 4 = .ok (.iload_n 1, 1) := by decide +kernel
theorem dX11_isRule_5 : decode cX11_isRule 5 = .ok (.aload_n 0, 1) := by decide +kernel
theorem dX11_isRule_6 : decode cX11_isRule 6 = .ok (.getfield 267, 3) := by decide +kernel
theorem dX11_isRule_9 : decode cX11_isRule 9 = .ok (.if_icmp .ge 7, 3) := by decide +kernel
