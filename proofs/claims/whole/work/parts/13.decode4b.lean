theorem dX11_isRule_12 : decode cX11_isRule 12 = .ok (.iconst 1, 1) := by decide +kernel
theorem dX11_isRule_13 : decode cX11_isRule 13 = .ok (.goto 4, 3) := by decide +kernel
theorem dX11_isRule_16 : decode cX11_isRule 16 = .ok (.iconst 0, 1) := by decide +kernel
theorem dX11_isRule_17 : decode cX11_isRule 17 = .ok (.ireturn, 1) := by decide +kernel
theorem dX11_push_0 : decode cX11_push 0 = .ok (.aload_n 0, 1) := by decide +kernel
theorem dX11_push_1 : decode cX11_push 1 = .ok (.getfield 32, 3) := by decide +kernel
theorem dX11_push_4 : decode cX11_push 4 = .ok (.aload_n 0, 1) := by decide +kernel
theorem dX11_push_5 : decode cX11_push 5 = .ok (.getfield 279, 3) := by decide +kernel
theorem dX11_push_8 : decode cX11_push 8 = .ok (.lload_n 1, 1) := by decide +kernel
theorem dX11_push_9 : decode cX11_push 9 = .ok (.lastore, 1) := by decide +kernel
theorem dX11_push_10 : decode cX11_push 10 = .ok (.aload_n 0, 1) := by decide +kernel
theorem dX11_push_11 : decode cX11_push 11 = .ok (.dup, 1) := by decide +kernel
theorem dX11_push_12 : decode cX11_push 12 = .ok (.getfield 279, 3) := by decide +kernel
theorem dX11_push_15 : decode cX11_push 15 = .ok (.iconst 1, 1) := by decide +kernel
theorem dX11_push_16 : decode cX11_push 16 = .ok (.iadd, 1) := by decide +kernel
theorem dX11_push_17 : decode cX11_push 17 = .ok (.putfield 279, 3) := by decide +kernel
theorem dX11_push_20 : decode cX11_push 20 = .ok (.return_, 1) := by decide +kernel
theorem dX11_pop_0 : decode cX11_pop 0 = .ok (.aload_n 0, 1) := by decide +kernel
theorem dX11_pop_1 : decode cX11_pop 1 = .ok (.dup, 1) := by decide +kernel
theorem dX11_pop_2 : decode cX11_pop 2 = .ok (.getfield 279, 3) := by decide +kernel
theorem dX11_pop_5 : decode cX11_pop 5 = .ok (.iconst 1, 1) := by decide +kernel
theorem dX11_pop_6 : decode cX11_pop 6 = .ok (.isub, 1) := by decide +kernel
theorem dX11_pop_7 : decode cX11_pop 7 = .ok (.putfield 279, 3) := by decide +kernel
theorem dX11_pop_10 : decode cX11_pop 10 = .ok (.aload_n 0, 1) := by decide +kernel
theorem dX11_pop_11 : decode cX11_pop 11 = .ok (.getfield 32, 3) := by decide +kernel
theorem dX11_pop_14 : decode cX11_pop 14 = .ok (.aload_n 0, 1) := by decide +kernel
theorem dX11_pop_15 : decode cX11_pop 15 = .ok (.getfield 279, 3) := by decide +kernel
theorem dX11_pop_18 : decode cX11_pop 18 = .ok (.laload, 1) := by decide +kernel
theorem dX11_pop_19 : decode cX11_pop 19 = .ok (.lreturn, 1) := by decide +kernel
theorem dX11_one_0 : decode cX11_one 0 = .ok (.iload_n 0, 1) := by decide +kernel
theorem dX11_one_1 : decode cX11_one 1 = .ok (.tableswitch 171 2 14 #[67, 71, 75, 79, 107, 119, 131, 143, 155, 171, 167, 171, 93], 67) := by decide +kernel
theorem dX11_one_68 : decode cX11_one 68 = .ok (.lload_n 1, 1) := by decide +kernel
theorem dX11_one_69 : decode cX11_one 69 = .ok (.lload_n 3, 1) := by decide +kernel
theorem dX11_one_70 : decode cX11_one 70 = .ok (.ladd, 1) := by decide +kernel
theorem dX11_one_71 : decode cX11_one 71 = .ok (.lreturn, 1) := by decide +kernel
theorem dX11_one_72 : decode cX11_one 72 = .ok (.lload_n 1, 1) := by decide +kernel
theorem dX11_one_73 : decode cX11_one 73 = .ok (.lload_n 3, 1) := by decide +kernel
theorem dX11_one_74 : decode cX11_one 74 = .ok (.lsub, 1) := by decide +kernel
theorem dX11_one_75 : decode cX11_one 75 = .ok (.lreturn, 1) := by decide +kernel
theorem dX11_one_76 : decode cX11_one 76 = .ok (.lload_n 1, 1) := by decide +kernel
theorem dX11_one_77 : decode cX11_one 77 = .ok (.lload_n 3, 1) := by decide +kernel
theorem dX11_one_78 : decode cX11_one 78 = .ok (.lmul, 1) := by decide +kernel
theorem dX11_one_79 : decode cX11_one 79 = .ok (.lreturn, 1) := by decide +kernel
theorem dX11_one_80 : decode cX11_one 80 = .ok (.lload_n 3, 1) := by decide +kernel
theorem dX11_one_81 : decode cX11_one 81 = .ok (.lconst 0, 1) := by decide +kernel
theorem dX11_one_82 : decode cX11_one 82 = .ok (.lcmp, 1) := by decide +kernel
theorem dX11_one_83 : decode cX11_one 83 = .ok (.ifCond .ne 7, 3) := by decide +kernel
theorem dX11_one_86 : decode cX11_one 86 = .ok (.lconst 0, 1) := by decide +kernel
theorem dX11_one_87 : decode cX11_one 87 = .ok (.goto 6, 3) := by decide +kernel
theorem dX11_one_90 : decode cX11_one 90 = .ok (.lload_n 1, 1) := by decide +kernel
theorem dX11_one_91 : decode cX11_one 91 = .ok (.lload_n 3, 1) := by decide +kernel
theorem dX11_one_92 : decode cX11_one 92 = .ok (.ldiv, 1) := by decide +kernel
theorem dX11_one_93 : decode cX11_one 93 = .ok (.lreturn, 1) := by decide +kernel
theorem dX11_one_94 : decode cX11_one 94 = .ok (.lload_n 3, 1) := by decide +kernel
theorem dX11_one_95 : decode cX11_one 95 = .ok (.lconst 0, 1) := by decide +kernel
theorem dX11_one_96 : decode cX11_one 96 = .ok (.lcmp, 1) := by decide +kernel
theorem dX11_one_97 : decode cX11_one 97 = .ok (.ifCond .ne 7, 3) := by decide +kernel
theorem dX11_one_100 : decode cX11_one 100 = .ok (.lconst 0, 1) := by decide +kernel
theorem dX11_one_101 : decode cX11_one 101 = .ok (.goto 6, 3) := by decide +kernel
theorem dX11_one_104 : decode cX11_one 104 = .ok (.lload_n 1, 1) := by decide +kernel
theorem dX11_one_105 : decode cX11_one 105 = .ok (.lload_n 3, 1) := by decide +kernel
theorem dX11_one_106 : decode cX11_one 106 = .ok (.lrem, 1) := by decide +kernel
theorem dX11_one_107 : decode cX11_one 107 = .ok (.lreturn, 1) := by decide +kernel
theorem dX11_one_108 : decode cX11_one 108 = .ok (.lload_n 1, 1) := by decide +kernel
theorem dX11_one_109 : decode cX11_one 109 = .ok (.lload_n 3, 1) := by decide +kernel
theorem dX11_one_110 : decode cX11_one 110 = .ok (.lcmp, 1) := by decide +kernel
theorem dX11_one_111 : decode cX11_one 111 = .ok (.ifCond .ge 7, 3) := by decide +kernel
theorem dX11_one_114 : decode cX11_one 114 = .ok (.lconst 1, 1) := by decide +kernel
theorem dX11_one_115 : decode cX11_one 115 = .ok (.goto 4, 3) := by decide +kernel
theorem dX11_one_118 : decode cX11_one 118 = .ok (.lconst 0, 1) := by decide +kernel
theorem dX11_one_119 : decode cX11_one 119 = .ok (.lreturn, 1) := by decide +kernel
theorem dX11_one_120 : decode cX11_one 120 = .ok (.lload_n 1, 1) := by decide +kernel
theorem dX11_one_121 : decode cX11_one 121 = .ok (.lload_n 3, 1) := by decide +kernel
theorem dX11_one_122 : decode cX11_one 122 = .ok (.lcmp, 1) := by decide +kernel
theorem dX11_one_123 : decode cX11_one 123 = .ok (.ifCond .gt 7, 3) := by decide +kernel
theorem dX11_one_126 : decode cX11_one 126 = .ok (.lconst 1, 1) := by decide +kernel
theorem dX11_one_127 : decode cX11_one 127 = .ok (.goto 4, 3) := by decide +kernel
theorem dX11_one_130 : decode cX11_one 130 = .ok (.lconst 0, 1) := by decide +kernel
theorem dX11_one_131 : decode cX11_one 131 = .ok (.lreturn, 1) := by decide +kernel
theorem dX11_one_132 : decode cX11_one 132 = .ok (.lload_n 1, 1) := by decide +kernel
theorem dX11_one_133 : decode cX11_one 133 = .ok (.lload_n 3, 1) := by decide +kernel
theorem dX11_one_134 : decode cX11_one 134 = .ok (.lcmp, 1) := by decide +kernel
theorem dX11_one_135 : decode cX11_one 135 = .ok (.ifCond .ne 7, 3) := by decide +kernel
theorem dX11_one_138 : decode cX11_one 138 = .ok (.lconst 1, 1) := by decide +kernel
theorem dX11_one_139 : decode cX11_one 139 = .ok (.goto 4, 3) := by decide +kernel
theorem dX11_one_142 : decode cX11_one 142 = .ok (.lconst 0, 1) := by decide +kernel
theorem dX11_one_143 : decode cX11_one 143 = .ok (.lreturn, 1) := by decide +kernel
theorem dX11_one_144 : decode cX11_one 144 = .ok (.lload_n 1, 1) := by decide +kernel
theorem dX11_one_145 : decode cX11_one 145 = .ok (.lload_n 3, 1) := by decide +kernel
theorem dX11_one_146 : decode cX11_one 146 = .ok (.lcmp, 1) := by decide +kernel
theorem dX11_one_147 : decode cX11_one 147 = .ok (.ifCond .lt 7, 3) := by decide +kernel
theorem dX11_one_150 : decode cX11_one 150 = .ok (.lconst 1, 1) := by decide +kernel
theorem dX11_one_151 : decode cX11_one 151 = .ok (.goto 4, 3) := by decide +kernel
theorem dX11_one_154 : decode cX11_one 154 = .ok (.lconst 0, 1) := by decide +kernel
theorem dX11_one_155 : decode cX11_one 155 = .ok (.lreturn, 1) := by decide +kernel
theorem dX11_one_156 : decode cX11_one 156 = .ok (.lload_n 1, 1) := by decide +kernel
theorem dX11_one_157 : decode cX11_one 157 = .ok (.lload_n 3, 1) := by decide +kernel
theorem dX11_one_158 : decode cX11_one 158 = .ok (.lcmp, 1) := by decide +kernel
theorem dX11_one_159 : decode cX11_one 159 = .ok (.ifCond .le 7, 3) := by decide +kernel
theorem dX11_one_162 : decode cX11_one 162 = .ok (.lconst 1, 1) := by decide +kernel
theorem dX11_one_163 : decode cX11_one 163 = .ok (.goto 4, 3) := by decide +kernel
theorem dX11_one_166 : decode cX11_one 166 = .ok (.lconst 0, 1) := by decide +kernel
theorem dX11_one_167 : decode cX11_one 167 = .ok (.lreturn, 1) := by decide +kernel
theorem dX11_one_168 : decode cX11_one 168 = .ok (.lload_n 1, 1) := by decide +kernel
theorem dX11_one_169 : decode cX11_one 169 = .ok (.lload_n 3, 1) := by decide +kernel
theorem dX11_one_170 : decode cX11_one 170 = .ok (.land, 1) := by decide +kernel
theorem dX11_one_171 : decode cX11_one 171 = .ok (.lreturn, 1) := by decide +kernel
theorem dX11_one_172 : decode cX11_one 172 = .ok (.lload_n 1, 1) := by decide +kernel
theorem dX11_one_173 : decode cX11_one 173 = .ok (.lload_n 3, 1) := by decide +kernel
theorem dX11_one_174 : decode cX11_one 174 = .ok (.lor, 1) := by decide +kernel
theorem dX11_one_175 : decode cX11_one 175 = .ok (.lreturn, 1) := by decide +kernel
theorem dX11_reckons_0 : decode cX11_reckons 0 = .ok (.aload_n 0, 1) := by decide +kernel
theorem dX11_reckons_1 : decode cX11_reckons 1 = .ok (.iconst 0, 1) := by decide +kernel
theorem dX11_reckons_2 : decode cX11_reckons 2 = .ok (.putfield 279, 3) := by decide +kernel
theorem dX11_reckons_5 : decode cX11_reckons 5 = .ok (.iload_n 2, 1) := by decide +kernel
theorem dX11_reckons_6 : decode cX11_reckons 6 = .ok (.istore 4, 2) := by decide +kernel
theorem dX11_reckons_8 : decode cX11_reckons 8 = .ok (.iload 4, 2) := by decide +kernel
theorem dX11_reckons_10 : decode cX11_reckons 10 = .ok (.iload_n 3, 1) := by decide +kernel
theorem dX11_reckons_11 : decode cX11_reckons 11 = .ok (.if_icmp .ge 124, 3) := by decide +kernel
theorem dX11_reckons_14 : decode cX11_reckons 14 = .ok (.aload_n 0, 1) := by decide +kernel
theorem dX11_reckons_15 : decode cX11_reckons 15 = .ok (.getfield 13, 3) := by decide +kernel
theorem dX11_reckons_18 : decode cX11_reckons 18 = .ok (.sipush 400, 3) := by decide +kernel
theorem dX11_reckons_21 : decode cX11_reckons 21 = .ok (.iload_n 1, 1) := by decide +kernel
theorem dX11_reckons_22 : decode cX11_reckons 22 = .ok (.imul, 1) := by decide +kernel
theorem dX11_reckons_23 : decode cX11_reckons 23 = .ok (.iload 4, 2) := by decide +kernel
theorem dX11_reckons_25 : decode cX11_reckons 25 = .ok (.iadd, 1) := by decide +kernel
theorem dX11_reckons_26 : decode cX11_reckons 26 = .ok (.iaload, 1) := by decide +kernel
theorem dX11_reckons_27 : decode cX11_reckons 27 = .ok (.bipush 15, 2) := by decide +kernel
theorem dX11_reckons_29 : decode cX11_reckons 29 = .ok (.iand, 1) := by decide +kernel
theorem dX11_reckons_30 : decode cX11_reckons 30 = .ok (.istore 5, 2) := by decide +kernel
theorem dX11_reckons_32 : decode cX11_reckons 32 = .ok (.aload_n 0, 1) := by decide +kernel
theorem dX11_reckons_33 : decode cX11_reckons 33 = .ok (.getfield 13, 3) := by decide +kernel
theorem dX11_reckons_36 : decode cX11_reckons 36 = .ok (.sipush 400, 3) := by decide +kernel
theorem dX11_reckons_39 : decode cX11_reckons 39 = .ok (.iload_n 1, 1) := by decide +kernel
theorem dX11_reckons_40 : decode cX11_reckons 40 = .ok (.imul, 1) := by decide +kernel
theorem dX11_reckons_41 : decode cX11_reckons 41 = .ok (.iload 4, 2) := by decide +kernel
theorem dX11_reckons_43 : decode cX11_reckons 43 = .ok (.iadd, 1) := by decide +kernel
theorem dX11_reckons_44 : decode cX11_reckons 44 = .ok (.iaload, 1) := by decide +kernel
theorem dX11_reckons_45 : decode cX11_reckons 45 = .ok (.iconst 4, 1) := by decide +kernel
theorem dX11_reckons_46 : decode cX11_reckons 46 = .ok (.ishr, 1) := by decide +kernel
theorem dX11_reckons_47 : decode cX11_reckons 47 = .ok (.istore 6, 2) := by decide +kernel
theorem dX11_reckons_49 : decode cX11_reckons 49 = .ok (.iload 5, 2) := by decide +kernel
theorem dX11_reckons_51 : decode cX11_reckons 51 = .ok (.ifCond .ne 13, 3) := by decide +kernel
theorem dX11_reckons_54 : decode cX11_reckons 54 = .ok (.aload_n 0, 1) := by decide +kernel
theorem dX11_reckons_55 : decode cX11_reckons 55 = .ok (.iload 6, 2) := by decide +kernel
theorem dX11_reckons_57 : decode cX11_reckons 57 = .ok (.i2l, 1) := by decide +kernel
theorem dX11_reckons_58 : decode cX11_reckons 58 = .ok (.invokevirtual 282, 3) := by decide +kernel
theorem dX11_reckons_61 : decode cX11_reckons 61 = .ok (.goto 68, 3) := by decide +kernel
theorem dX11_reckons_64 : decode cX11_reckons 64 = .ok (.iload 5, 2) := by decide +kernel
theorem dX11_reckons_66 : decode cX11_reckons 66 = .ok (.iconst 1, 1) := by decide +kernel
theorem dX11_reckons_67 : decode cX11_reckons 67 = .ok (.if_icmp .ne 17, 3) := by decide +kernel
theorem dX11_reckons_70 : decode cX11_reckons 70 = .ok (.aload_n 0, 1) := by decide +kernel
theorem dX11_reckons_71 : decode cX11_reckons 71 = .ok (.aload_n 0, 1) := by decide +kernel
theorem dX11_reckons_72 : decode cX11_reckons 72 = .ok (.getfield 36, 3) := by decide +kernel
theorem dX11_reckons_75 : decode cX11_reckons 75 = .ok (.iload 6, 2) := by decide +kernel
theorem dX11_reckons_77 : decode cX11_reckons 77 = .ok (.laload, 1) := by decide +kernel
theorem dX11_reckons_78 : decode cX11_reckons 78 = .ok (.invokevirtual 282, 3) := by decide +kernel
theorem dX11_reckons_81 : decode cX11_reckons 81 = .ok (.goto 48, 3) := by decide +kernel
theorem dX11_reckons_84 : decode cX11_reckons 84 = .ok (.iload 5, 2) := by decide +kernel
theorem dX11_reckons_86 : decode cX11_reckons 86 = .ok (.bipush 11, 2) := by decide +kernel
theorem dX11_reckons_88 : decode cX11_reckons 88 = .ok (.if_icmp .ne 16, 3) := by decide +kernel
theorem dX11_reckons_91 : decode cX11_reckons 91 = .ok (.aload_n 0, 1) := by decide +kernel
theorem dX11_reckons_92 : decode cX11_reckons 92 = .ok (.lconst 1, 1) := by decide +kernel
theorem dX11_reckons_93 : decode cX11_reckons 93 = .ok (.aload_n 0, 1) := by decide +kernel
theorem dX11_reckons_94 : decode cX11_reckons 94 = .ok (.invokevirtual 286, 3) := by decide +kernel
theorem dX11_reckons_97 : decode cX11_reckons 97 = .ok (.lsub, 1) := by decide +kernel
theorem dX11_reckons_98 : decode cX11_reckons 98 = .ok (.invokevirtual 282, 3) := by decide +kernel
theorem dX11_reckons_101 : decode cX11_reckons 101 = .ok (.goto 28, 3) := by decide +kernel
theorem dX11_reckons_104 : decode cX11_reckons 104 = .ok (.aload_n 0, 1) := by decide +kernel
theorem dX11_reckons_105 : decode cX11_reckons 105 = .ok (.invokevirtual 286, 3) := by decide +kernel
theorem dX11_reckons_108 : decode cX11_reckons 108 = .ok (.lstore 7, 2) := by decide +kernel
theorem dX11_reckons_110 : decode cX11_reckons 110 = .ok (.aload_n 0, 1) := by decide +kernel
theorem dX11_reckons_111 : decode cX11_reckons 111 = .ok (.invokevirtual 286, 3) := by decide +kernel
theorem dX11_reckons_114 : decode cX11_reckons 114 = .ok (.lstore 9, 2) := by decide +kernel
theorem dX11_reckons_116 : decode cX11_reckons 116 = .ok (.aload_n 0, 1) := by decide +kernel
theorem dX11_reckons_117 : decode cX11_reckons 117 = .ok (.iload 5, 2) := by decide +kernel
theorem dX11_reckons_119 : decode cX11_reckons 119 = .ok (.lload 9, 2) := by decide +kernel
theorem dX11_reckons_121 : decode cX11_reckons 121 = .ok (.lload 7, 2) := by decide +kernel
theorem dX11_reckons_123 : decode cX11_reckons 123 = .ok (.invokestatic 290, 3) := by decide +kernel
theorem dX11_reckons_126 : decode cX11_reckons 126 = .ok (.invokevirtual 282, 3) := by decide +kernel
theorem dX11_reckons_129 : decode cX11_reckons 129 = .ok (.iinc 4 1, 3) := by decide +kernel
theorem dX11_reckons_132 : decode cX11_reckons 132 = .ok (.goto (-124), 3) := by decide +kernel
theorem dX11_reckons_135 : decode cX11_reckons 135 = .ok (.aload_n 0, 1) := by decide +kernel
theorem dX11_reckons_136 : decode cX11_reckons 136 = .ok (.invokevirtual 286, 3) := by decide +kernel
theorem dX11_reckons_139 : decode cX11_reckons 139 = .ok (.lreturn, 1) := by decide +kernel
theorem dX11_isJunction_0 : decode cX11_isJunction 0 = .ok (.aload_n 0, 1) := by decide +kernel
theorem dX11_isJunction_1 : decode cX11_isJunction 1 = .ok (.getfield 39, 3) := by decide +kernel
theorem dX11_isJunction_4 : decode cX11_isJunction 4 = .ok (.iconst 0, 1) := by decide +kernel
theorem dX11_isJunction_5 : decode cX11_isJunction 5 = .ok (.iaload, 1) := by decide +kernel
theorem dX11_isJunction_6 : decode cX11_isJunction 6 = .ok (.iconst 1, 1) := by decide +kernel
theorem dX11_isJunction_7 : decode cX11_isJunction 7 = .ok (.if_icmp .ne 7, 3) := by decide +kernel
theorem dX11_isJunction_10 : decode cX11_isJunction 10 = .ok (.iconst 1, 1) := by decide +kernel
theorem dX11_isJunction_11 : decode cX11_isJunction 11 = .ok (.goto 4, 3) := by decide +kernel
theorem dX11_isJunction_14 : decode cX11_isJunction 14 = .ok (.iconst 0, 1) := by decide +kernel
theorem dX11_isJunction_15 : decode cX11_isJunction 15 = .ok (.ireturn, 1) := by decide +kernel
theorem dX11_isRoad_0 : decode cX11_isRoad 0 = .ok (.iload_n 1, 1) := by decide +kernel
theorem dX11_isRoad_1 : decode cX11_isRoad 1 = .ok (.ifCond .lt 17, 3) := by decide +kernel
theorem dX11_isRoad_4 : decode cX11_isRoad 4 = .ok (.iload_n 1, 1) := by decide +kernel
theorem dX11_isRoad_5 : decode cX11_isRoad 5 = .ok (.aload_n 0, 1) := by decide +kernel
theorem dX11_isRoad_6 : decode cX11_isRoad 6 = .ok (.getfield 39, 3) := by decide +kernel
theorem dX11_isRoad_9 : decode cX11_isRoad 9 = .ok (.iconst 3, 1) := by decide +kernel
theorem dX11_isRoad_10 : decode cX11_isRoad 10 = .ok (.iaload, 1) := by decide +kernel
theorem dX11_isRoad_11 : decode cX11_isRoad 11 = .ok (.if_icmp .ge 7, 3) := by decide +kernel
theorem dX11_isRoad_14 : decode cX11_isRoad 14 = .ok (.iconst 1, 1) := by decide +kernel
theorem dX11_isRoad_15 : decode cX11_isRoad 15 = .ok (.goto 4, 3) := by decide +kernel
theorem dX11_isRoad_18 : decode cX11_isRoad 18 = .ok (.iconst 0, 1) := by decide +kernel
theorem dX11_isRoad_19 : decode cX11_isRoad 19 = .ok (.ireturn, 1) := by decide +kernel
theorem dX11_waitOn_0 : decode cX11_waitOn 0 = .ok (.aload_n 0, 1) := by decide +kernel
theorem dX11_waitOn_1 : decode cX11_waitOn 1 = .ok (.getfield 39, 3) := by decide +kernel
theorem dX11_waitOn_4 : decode cX11_waitOn 4 = .ok (.bipush 11, 2) := by decide +kernel
theorem dX11_waitOn_6 : decode cX11_waitOn 6 = .ok (.iconst 5, 1) := by decide +kernel
theorem dX11_waitOn_7 : decode cX11_waitOn 7 = .ok (.iload_n 1, 1) := by decide +kernel
theorem dX11_waitOn_8 : decode cX11_waitOn 8 = .ok (.imul, 1) := by decide +kernel
theorem dX11_waitOn_9 : decode cX11_waitOn 9 = .ok (.iadd, 1) := by decide +kernel
theorem dX11_waitOn_10 : decode cX11_waitOn 10 = .ok (.iaload, 1) := by decide +kernel
theorem dX11_waitOn_11 : decode cX11_waitOn 11 = .ok (.ireturn, 1) := by decide +kernel
theorem dX11_partOf_0 : decode cX11_partOf 0 = .ok (.aload_n 0, 1) := by decide +kernel
theorem dX11_partOf_1 : decode cX11_partOf 1 = .ok (.getfield 39, 3) := by decide +kernel
theorem dX11_partOf_4 : decode cX11_partOf 4 = .ok (.bipush 11, 2) := by decide +kernel
theorem dX11_partOf_6 : decode cX11_partOf 6 = .ok (.iconst 5, 1) := by decide +kernel
theorem dX11_partOf_7 : decode cX11_partOf 7 = .ok (.iload_n 1, 1) := by decide +kernel
theorem dX11_partOf_8 : decode cX11_partOf 8 = .ok (.imul, 1) := by decide +kernel
theorem dX11_partOf_9 : decode cX11_partOf 9 = .ok (.iadd, 1) := by decide +kernel
theorem dX11_partOf_10 : decode cX11_partOf 10 = .ok (.iconst 1, 1) := by decide +kernel
theorem dX11_partOf_11 : decode cX11_partOf 11 = .ok (.iadd, 1) := by decide +kernel
theorem dX11_partOf_12 : decode cX11_partOf 12 = .ok (.iaload, 1) := by decide +kernel
theorem dX11_partOf_13 : decode cX11_partOf 13 = .ok (.ireturn, 1) := by decide +kernel
theorem dX11_wentFrom_0 : decode cX11_wentFrom 0 = .ok (.aload_n 0, 1) := by decide +kernel
theorem dX11_wentFrom_1 : decode cX11_wentFrom 1 = .ok (.getfield 39, 3) := by decide +kernel
theorem dX11_wentFrom_4 : decode cX11_wentFrom 4 = .ok (.bipush 11, 2) := by decide +kernel
theorem dX11_wentFrom_6 : decode cX11_wentFrom 6 = .ok (.iconst 5, 1) := by decide +kernel
theorem dX11_wentFrom_7 : decode cX11_wentFrom 7 = .ok (.iload_n 1, 1) := by decide +kernel
theorem dX11_wentFrom_8 : decode cX11_wentFrom 8 = .ok (.imul, 1) := by decide +kernel
theorem dX11_wentFrom_9 : decode cX11_wentFrom 9 = .ok (.iadd, 1) := by decide +kernel
theorem dX11_wentFrom_10 : decode cX11_wentFrom 10 = .ok (.iconst 2, 1) := by decide +kernel
theorem dX11_wentFrom_11 : decode cX11_wentFrom 11 = .ok (.iadd, 1) := by decide +kernel
theorem dX11_wentFrom_12 : decode cX11_wentFrom 12 = .ok (.iaload, 1) := by decide +kernel
theorem dX11_wentFrom_13 : decode cX11_wentFrom 13 = .ok (.ireturn, 1) := by decide +kernel
theorem dX11_waitedOn_0 : decode cX11_waitedOn 0 = .ok (.aload_n 0, 1) := by decide +kernel
theorem dX11_waitedOn_1 : decode cX11_waitedOn 1 = .ok (.getfield 39, 3) := by decide +kernel
theorem dX11_waitedOn_4 : decode cX11_waitedOn 4 = .ok (.bipush 11, 2) := by decide +kernel
theorem dX11_waitedOn_6 : decode cX11_waitedOn 6 = .ok (.iconst 5, 1) := by decide +kernel
theorem dX11_waitedOn_7 : decode cX11_waitedOn 7 = .ok (.iload_n 1, 1) := by decide +kernel
theorem dX11_waitedOn_8 : decode cX11_waitedOn 8 = .ok (.imul, 1) := by decide +kernel
theorem dX11_waitedOn_9 : decode cX11_waitedOn 9 = .ok (.iadd, 1) := by decide +kernel
theorem dX11_waitedOn_10 : decode cX11_waitedOn 10 = .ok (.iconst 3, 1) := by decide +kernel
theorem dX11_waitedOn_11 : decode cX11_waitedOn 11 = .ok (.iadd, 1) := by decide +kernel
theorem dX11_waitedOn_12 : decode cX11_waitedOn 12 = .ok (.iaload, 1) := by decide +kernel
theorem dX11_waitedOn_13 : decode cX11_waitedOn 13 = .ok (.ireturn, 1) := by decide +kernel
theorem dX11_sinceOf_0 : decode cX11_sinceOf 0 = .ok (.aload_n 0, 1) := by decide +kernel
theorem dX11_sinceOf_1 : decode cX11_sinceOf 1 = .ok (.getfield 39, 3) := by decide +kernel
theorem dX11_sinceOf_4 : decode cX11_sinceOf 4 = .ok (.bipush 11, 2) := by decide +kernel
theorem dX11_sinceOf_6 : decode cX11_sinceOf 6 = .ok (.iconst 5, 1) := by decide +kernel
theorem dX11_sinceOf_7 : decode cX11_sinceOf 7 = .ok (.iload_n 1, 1) := by decide +kernel
theorem dX11_sinceOf_8 : decode cX11_sinceOf 8 = .ok (.imul, 1) := by decide +kernel
theorem dX11_sinceOf_9 : decode cX11_sinceOf 9 = .ok (.iadd, 1) := by decide +kernel
theorem dX11_sinceOf_10 : decode cX11_sinceOf 10 = .ok (.iconst 4, 1) := by decide +kernel
theorem dX11_sinceOf_11 : decode cX11_sinceOf 11 = .ok (.iadd, 1) := by decide +kernel
theorem dX11_sinceOf_12 : decode cX11_sinceOf 12 = .ok (.iaload, 1) := by decide +kernel
theorem dX11_sinceOf_13 : decode cX11_sinceOf 13 = .ok (.istore_n 2, 1) := by decide +kernel
theorem dX11_sinceOf_14 : decode cX11_sinceOf 14 = .ok (.aload_n 0, 1) := by decide +kernel
theorem dX11_sinceOf_15 : decode cX11_sinceOf 15 = .ok (.getfield 39, 3) := by decide +kernel
theorem dX11_sinceOf_18 : decode cX11_sinceOf 18 = .ok (.bipush 10, 2) := by decide +kernel
theorem dX11_sinceOf_20 : decode cX11_sinceOf 20 = .ok (.iaload, 1) := by decide +kernel
theorem dX11_sinceOf_21 : decode cX11_sinceOf 21 = .ok (.iload_n 2, 1) := by decide +kernel
theorem dX11_sinceOf_22 : decode cX11_sinceOf 22 = .ok (.isub, 1) := by decide +kernel
theorem dX11_sinceOf_23 : decode cX11_sinceOf 23 = .ok (.istore_n 3, 1) := by decide +kernel
theorem dX11_sinceOf_24 : decode cX11_sinceOf 24 = .ok (.iload_n 2, 1) := by decide +kernel
theorem dX11_sinceOf_25 : decode cX11_sinceOf 25 = .ok (.ifCond .lt 9, 3) := by decide +kernel
theorem dX11_sinceOf_28 : decode cX11_sinceOf 28 = .ok (.iload_n 3, 1) := by decide +kernel
theorem dX11_sinceOf_29 : decode cX11_sinceOf 29 = .ok (.bipush 99, 2) := by decide +kernel
theorem dX11_sinceOf_31 : decode cX11_sinceOf 31 = .ok (.if_icmp .le 8, 3) := by decide +kernel
theorem dX11_sinceOf_34 : decode cX11_sinceOf 34 = .ok (.bipush 99, 2) := by decide +kernel
theorem dX11_sinceOf_36 : decode cX11_sinceOf 36 = .ok (.goto 4, 3) := by decide +kernel
theorem dX11_sinceOf_39 : decode cX11_sinceOf 39 = .ok (.iload_n 3, 1) := by decide +kernel
theorem dX11_sinceOf_40 : decode cX11_sinceOf 40 = .ok (.ireturn, 1) := by decide +kernel
theorem dX11_beatOfBar_0 : decode cX11_beatOfBar 0 = .ok (.aload_n 0, 1) := by decide +kernel
theorem dX11_beatOfBar_1 : decode cX11_beatOfBar 1 = .ok (.invokevirtual 294, 3) := by decide +kernel
theorem dX11_beatOfBar_4 : decode cX11_beatOfBar 4 = .ok (.ifCond .eq 20, 3) := by decide +kernel
theorem dX11_beatOfBar_7 : decode cX11_beatOfBar 7 = .ok (.aload_n 0, 1) := by decide +kernel
theorem dX11_beatOfBar_8 : decode cX11_beatOfBar 8 = .ok (.getfield 39, 3) := by decide +kernel
theorem dX11_beatOfBar_11 : decode cX11_beatOfBar 11 = .ok (.bipush 10, 2) := by decide +kernel
theorem dX11_beatOfBar_13 : decode cX11_beatOfBar 13 = .ok (.iaload, 1) := by decide +kernel
theorem dX11_beatOfBar_14 : decode cX11_beatOfBar 14 = .ok (.aload_n 0, 1) := by decide +kernel
theorem dX11_beatOfBar_15 : decode cX11_beatOfBar 15 = .ok (.getfield 39, 3) := by decide +kernel
theorem dX11_beatOfBar_18 : decode cX11_beatOfBar 18 = .ok (.iconst 1, 1) := by decide +kernel
theorem dX11_beatOfBar_19 : decode cX11_beatOfBar 19 = .ok (.iaload, 1) := by decide +kernel
theorem dX11_beatOfBar_20 : decode cX11_beatOfBar 20 = .ok (.irem, 1) := by decide +kernel
theorem dX11_beatOfBar_21 : decode cX11_beatOfBar 21 = .ok (.goto 4, 3) := by decide +kernel
theorem dX11_beatOfBar_24 : decode cX11_beatOfBar 24 = .ok (.iconst 0, 1) := by decide +kernel
theorem dX11_beatOfBar_25 : decode cX11_beatOfBar 25 = .ok (.ireturn, 1) := by decide +kernel
theorem dX11_sumOver_0 : decode cX11_sumOver 0 = .ok (.iconst 0, 1) := by decide +kernel
theorem dX11_sumOver_1 : decode cX11_sumOver 1 = .ok (.istore_n 2, 1) := by decide +kernel
theorem dX11_sumOver_2 : decode cX11_sumOver 2 = .ok (.iconst 0, 1) := by decide +kernel
theorem dX11_sumOver_3 : decode cX11_sumOver 3 = .ok (.istore_n 3, 1) := by decide +kernel
theorem dX11_sumOver_4 : decode cX11_sumOver 4 = .ok (.iload_n 3, 1) := by decide +kernel
theorem dX11_sumOver_5 : decode cX11_sumOver 5 = .ok (.aload_n 0, 1) := by decide +kernel
theorem dX11_sumOver_6 : decode cX11_sumOver 6 = .ok (.getfield 39, 3) := by decide +kernel
theorem dX11_sumOver_9 : decode cX11_sumOver 9 = .ok (.iconst 3, 1) := by decide +kernel
theorem dX11_sumOver_10 : decode cX11_sumOver 10 = .ok (.iaload, 1) := by decide +kernel
theorem dX11_sumOver_11 : decode cX11_sumOver 11 = .ok (.if_icmp .ge 25, 3) := by decide +kernel
theorem dX11_sumOver_14 : decode cX11_sumOver 14 = .ok (.iload_n 2, 1) := by decide +kernel
theorem dX11_sumOver_15 : decode cX11_sumOver 15 = .ok (.aload_n 0, 1) := by decide +kernel
theorem dX11_sumOver_16 : decode cX11_sumOver 16 = .ok (.getfield 39, 3) := by decide +kernel
theorem dX11_sumOver_19 : decode cX11_sumOver 19 = .ok (.bipush 11, 2) := by decide +kernel
theorem dX11_sumOver_21 : decode cX11_sumOver 21 = .ok (.iconst 5, 1) := by decide +kernel
theorem dX11_sumOver_22 : decode cX11_sumOver 22 = .ok (.iload_n 3, 1) := by decide +kernel
theorem dX11_sumOver_23 : decode cX11_sumOver 23 = .ok (.imul, 1) := by decide +kernel
theorem dX11_sumOver_24 : decode cX11_sumOver 24 = .ok (.iadd, 1) := by decide +kernel
theorem dX11_sumOver_25 : decode cX11_sumOver 25 = .ok (.iload_n 1, 1) := by decide +kernel
theorem dX11_sumOver_26 : decode cX11_sumOver 26 = .ok (.iadd, 1) := by decide +kernel
theorem dX11_sumOver_27 : decode cX11_sumOver 27 = .ok (.iaload, 1) := by decide +kernel
theorem dX11_sumOver_28 : decode cX11_sumOver 28 = .ok (.iadd, 1) := by decide +kernel
theorem dX11_sumOver_29 : decode cX11_sumOver 29 = .ok (.istore_n 2, 1) := by decide +kernel
theorem dX11_sumOver_30 : decode cX11_sumOver 30 = .ok (.iinc 3 1, 3) := by decide +kernel
theorem dX11_sumOver_33 : decode cX11_sumOver 33 = .ok (.goto (-29), 3) := by decide +kernel
theorem dX11_sumOver_36 : decode cX11_sumOver 36 = .ok (.iload_n 2, 1) := by decide +kernel
theorem dX11_sumOver_37 : decode cX11_sumOver 37 = .ok (.ireturn, 1) := by decide +kernel
theorem dX11_soundOfTwo_0 : decode cX11_soundOfTwo 0 = .ok (.iload_n 0, 1) := by decide +kernel
theorem dX11_soundOfTwo_1 : decode cX11_soundOfTwo 1 = .ok (.tableswitch 77 0 11 #[63, 65, 68, 70, 72, 70, 74, 72, 77, 77, 68, 65], 63) := by decide +kernel
theorem dX11_soundOfTwo_64 : decode cX11_soundOfTwo 64 = .ok (.iconst 0, 1) := by decide +kernel
theorem dX11_soundOfTwo_65 : decode cX11_soundOfTwo 65 = .ok (.ireturn, 1) := by decide +kernel
theorem dX11_soundOfTwo_66 : decode cX11_soundOfTwo 66 = .ok (.bipush (-3), 2) := by decide +kernel
theorem dX11_soundOfTwo_68 : decode cX11_soundOfTwo 68 = .ok (.ireturn, 1) := by decide +kernel
theorem dX11_soundOfTwo_69 : decode cX11_soundOfTwo 69 = .ok (.iconst (-1), 1) := by decide +kernel
theorem dX11_soundOfTwo_70 : decode cX11_soundOfTwo 70 = .ok (.ireturn, 1) := by decide +kernel
theorem dX11_soundOfTwo_71 : decode cX11_soundOfTwo 71 = .ok (.iconst 2, 1) := by decide +kernel
theorem dX11_soundOfTwo_72 : decode cX11_soundOfTwo 72 = .ok (.ireturn, 1) := by decide +kernel
theorem dX11_soundOfTwo_73 : decode cX11_soundOfTwo 73 = .ok (.iconst 3, 1) := by decide +kernel
theorem dX11_soundOfTwo_74 : decode cX11_soundOfTwo 74 = .ok (.ireturn, 1) := by decide +kernel
theorem dX11_soundOfTwo_75 : decode cX11_soundOfTwo 75 = .ok (.bipush (-2), 2) := by decide +kernel
theorem dX11_soundOfTwo_77 : decode cX11_soundOfTwo 77 = .ok (.ireturn, 1) := by decide +kernel
theorem dX11_soundOfTwo_78 : decode cX11_soundOfTwo 78 = .ok (.iconst 1, 1) := by decide +kernel
theorem dX11_soundOfTwo_79 : decode cX11_soundOfTwo 79 = .ok (.ireturn, 1) := by decide +kernel
theorem dX11_soundOf_0 : decode cX11_soundOf 0 = .ok (.iconst 0, 1) := by decide +kernel
theorem dX11_soundOf_1 : decode cX11_soundOf 1 = .ok (.istore_n 2, 1) := by decide +kernel
theorem dX11_soundOf_2 : decode cX11_soundOf 2 = .ok (.iconst 0, 1) := by decide +kernel
theorem dX11_soundOf_3 : decode cX11_soundOf 3 = .ok (.istore_n 3, 1) := by decide +kernel
theorem dX11_soundOf_4 : decode cX11_soundOf 4 = .ok (.iload_n 3, 1) := by decide +kernel
theorem dX11_soundOf_5 : decode cX11_soundOf 5 = .ok (.aload_n 0, 1) := by decide +kernel
theorem dX11_soundOf_6 : decode cX11_soundOf 6 = .ok (.getfield 39, 3) := by decide +kernel
theorem dX11_soundOf_9 : decode cX11_soundOf 9 = .ok (.iconst 3, 1) := by decide +kernel
theorem dX11_soundOf_10 : decode cX11_soundOf 10 = .ok (.iaload, 1) := by decide +kernel
theorem dX11_soundOf_11 : decode cX11_soundOf 11 = .ok (.if_icmp .ge 84, 3) := by decide +kernel
theorem dX11_soundOf_14 : decode cX11_soundOf 14 = .ok (.iload_n 3, 1) := by decide +kernel
theorem dX11_soundOf_15 : decode cX11_soundOf 15 = .ok (.iconst 1, 1) := by decide +kernel
theorem dX11_soundOf_16 : decode cX11_soundOf 16 = .ok (.iadd, 1) := by decide +kernel
theorem dX11_soundOf_17 : decode cX11_soundOf 17 = .ok (.istore 4, 2) := by decide +kernel
theorem dX11_soundOf_19 : decode cX11_soundOf 19 = .ok (.iload 4, 2) := by decide +kernel
theorem dX11_soundOf_21 : decode cX11_soundOf 21 = .ok (.aload_n 0, 1) := by decide +kernel
theorem dX11_soundOf_22 : decode cX11_soundOf 22 = .ok (.getfield 39, 3) := by decide +kernel
theorem dX11_soundOf_25 : decode cX11_soundOf 25 = .ok (.iconst 3, 1) := by decide +kernel
theorem dX11_soundOf_26 : decode cX11_soundOf 26 = .ok (.iaload, 1) := by decide +kernel
theorem dX11_soundOf_27 : decode cX11_soundOf 27 = .ok (.if_icmp .ge 62, 3) := by decide +kernel
theorem dX11_soundOf_30 : decode cX11_soundOf 30 = .ok (.iload_n 1, 1) := by decide +kernel
theorem dX11_soundOf_31 : decode cX11_soundOf 31 = .ok (.iload_n 3, 1) := by decide +kernel
theorem dX11_soundOf_32 : decode cX11_soundOf 32 = .ok (.invokestatic 297, 3) := by decide +kernel
theorem dX11_soundOf_35 : decode cX11_soundOf 35 = .ok (.ifCond .eq 48, 3) := by decide +kernel
theorem dX11_soundOf_38 : decode cX11_soundOf 38 = .ok (.iload_n 1, 1) := by decide +kernel
theorem dX11_soundOf_39 : decode cX11_soundOf 39 = .ok (.iload 4, 2) := by decide +kernel
theorem dX11_soundOf_41 : decode cX11_soundOf 41 = .ok (.invokestatic 297, 3) := by decide +kernel
theorem dX11_soundOf_44 : decode cX11_soundOf 44 = .ok (.ifCond .ne 6, 3) := by decide +kernel
theorem dX11_soundOf_47 : decode cX11_soundOf 47 = .ok (.goto 36, 3) := by decide +kernel
theorem dX11_soundOf_50 : decode cX11_soundOf 50 = .ok (.aload_n 0, 1) := by decide +kernel
theorem dX11_soundOf_51 : decode cX11_soundOf 51 = .ok (.iload_n 3, 1) := by decide +kernel
theorem dX11_soundOf_52 : decode cX11_soundOf 52 = .ok (.invokevirtual 300, 3) := by decide +kernel
theorem dX11_soundOf_55 : decode cX11_soundOf 55 = .ok (.aload_n 0, 1) := by decide +kernel
theorem dX11_soundOf_56 : decode cX11_soundOf 56 = .ok (.iload 4, 2) := by decide +kernel
theorem dX11_soundOf_58 : decode cX11_soundOf 58 = .ok (.invokevirtual 300, 3) := by decide +kernel
theorem dX11_soundOf_61 : decode cX11_soundOf 61 = .ok (.isub, 1) := by decide +kernel
theorem dX11_soundOf_62 : decode cX11_soundOf 62 = .ok (.istore 5, 2) := by decide +kernel
theorem dX11_soundOf_64 : decode cX11_soundOf 64 = .ok (.iload_n 2, 1) := by decide +kernel
theorem dX11_soundOf_65 : decode cX11_soundOf 65 = .ok (.iload 5, 2) := by decide +kernel
theorem dX11_soundOf_67 : decode cX11_soundOf 67 = .ok (.ifCond .ge 9, 3) := by decide +kernel
theorem dX11_soundOf_70 : decode cX11_soundOf 70 = .ok (.iload 5, 2) := by decide +kernel
theorem dX11_soundOf_72 : decode cX11_soundOf 72 = .ok (.ineg, 1) := by decide +kernel
theorem dX11_soundOf_73 : decode cX11_soundOf 73 = .ok (.goto 5, 3) := by decide +kernel
theorem dX11_soundOf_76 : decode cX11_soundOf 76 = .ok (.iload 5, 2) := by decide +kernel
theorem dX11_soundOf_78 : decode cX11_soundOf 78 = .ok (.invokestatic 303, 3) := by decide +kernel
theorem dX11_soundOf_81 : decode cX11_soundOf 81 = .ok (.iadd, 1) := by decide +kernel
theorem dX11_soundOf_82 : decode cX11_soundOf 82 = .ok (.istore_n 2, 1) := by decide +kernel
theorem dX11_soundOf_83 : decode cX11_soundOf 83 = .ok (.iinc 4 1, 3) := by decide +kernel
theorem dX11_soundOf_86 : decode cX11_soundOf 86 = .ok (.goto (-67), 3) := by decide +kernel
theorem dX11_soundOf_89 : decode cX11_soundOf 89 = .ok (.iinc 3 1, 3) := by decide +kernel
theorem dX11_soundOf_92 : decode cX11_soundOf 92 = .ok (.goto (-88), 3) := by decide +kernel
theorem dX11_soundOf_95 : decode cX11_soundOf 95 = .ok (.iload_n 2, 1) := by decide +kernel
theorem dX11_soundOf_96 : decode cX11_soundOf 96 = .ok (.ireturn, 1) := by decide +kernel
theorem dX11_isPeace_0 : decode cX11_isPeace 0 = .ok (.iconst 0, 1) := by decide +kernel
theorem dX11_isPeace_1 : decode cX11_isPeace 1 = .ok (.istore_n 2, 1) := by decide +kernel
theorem dX11_isPeace_2 : decode cX11_isPeace 2 = .ok (.iload_n 2, 1) := by decide +kernel
theorem dX11_isPeace_3 : decode cX11_isPeace 3 = .ok (.aload_n 0, 1) := by decide +kernel
theorem dX11_isPeace_4 : decode cX11_isPeace 4 = .ok (.getfield 39, 3) := by decide +kernel
theorem dX11_isPeace_7 : decode cX11_isPeace 7 = .ok (.iconst 3, 1) := by decide +kernel
theorem dX11_isPeace_8 : decode cX11_isPeace 8 = .ok (.iaload, 1) := by decide +kernel
theorem dX11_isPeace_9 : decode cX11_isPeace 9 = .ok (.if_icmp .ge 33, 3) := by decide +kernel
theorem dX11_isPeace_12 : decode cX11_isPeace 12 = .ok (.iload_n 1, 1) := by decide +kernel
theorem dX11_isPeace_13 : decode cX11_isPeace 13 = .ok (.iload_n 2, 1) := by decide +kernel
theorem dX11_isPeace_14 : decode cX11_isPeace 14 = .ok (.invokestatic 297, 3) := by decide +kernel
theorem dX11_isPeace_17 : decode cX11_isPeace 17 = .ok (.ifCond .eq 19, 3) := by decide +kernel
theorem dX11_isPeace_20 : decode cX11_isPeace 20 = .ok (.aload_n 0, 1) := by decide +kernel
theorem dX11_isPeace_21 : decode cX11_isPeace 21 = .ok (.getfield 39, 3) := by decide +kernel
theorem dX11_isPeace_24 : decode cX11_isPeace 24 = .ok (.bipush 72, 2) := by decide +kernel
theorem dX11_isPeace_26 : decode cX11_isPeace 26 = .ok (.iload_n 2, 1) := by decide +kernel
theorem dX11_isPeace_27 : decode cX11_isPeace 27 = .ok (.iadd, 1) := by decide +kernel
theorem dX11_isPeace_28 : decode cX11_isPeace 28 = .ok (.iaload, 1) := by decide +kernel
theorem dX11_isPeace_29 : decode cX11_isPeace 29 = .ok (.iload_n 1, 1) := by decide +kernel
theorem dX11_isPeace_30 : decode cX11_isPeace 30 = .ok (.iand, 1) := by decide +kernel
theorem dX11_isPeace_31 : decode cX11_isPeace 31 = .ok (.ifCond .eq 5, 3) := by decide +kernel
theorem dX11_isPeace_34 : decode cX11_isPeace 34 = .ok (.iconst 0, 1) := by decide +kernel
theorem dX11_isPeace_35 : decode cX11_isPeace 35 = .ok (.ireturn, 1) := by decide +kernel
theorem dX11_isPeace_36 : decode cX11_isPeace 36 = .ok (.iinc 2 1, 3) := by decide +kernel
theorem dX11_isPeace_39 : decode cX11_isPeace 39 = .ok (.goto (-37), 3) := by decide +kernel
theorem dX11_isPeace_42 : decode cX11_isPeace 42 = .ok (.iconst 1, 1) := by decide +kernel
theorem dX11_isPeace_43 : decode cX11_isPeace 43 = .ok (.ireturn, 1) := by decide +kernel
theorem dX11_begins_0 : decode cX11_begins 0 = .ok (.aload_n 0, 1) := by decide +kernel
theorem dX11_begins_1 : decode cX11_begins 1 = .ok (.getfield 39, 3) := by decide +kernel
theorem dX11_begins_4 : decode cX11_begins 4 = .ok (.bipush 10, 2) := by decide +kernel
theorem dX11_begins_6 : decode cX11_begins 6 = .ok (.iconst 0, 1) := by decide +kernel
theorem dX11_begins_7 : decode cX11_begins 7 = .ok (.iastore, 1) := by decide +kernel
theorem dX11_begins_8 : decode cX11_begins 8 = .ok (.aload_n 0, 1) := by decide +kernel
theorem dX11_begins_9 : decode cX11_begins 9 = .ok (.getfield 39, 3) := by decide +kernel
theorem dX11_begins_12 : decode cX11_begins 12 = .ok (.bipush 53, 2) := by decide +kernel
theorem dX11_begins_14 : decode cX11_begins 14 = .ok (.iconst 0, 1) := by decide +kernel
theorem dX11_begins_15 : decode cX11_begins 15 = .ok (.iastore, 1) := by decide +kernel
theorem dX11_begins_16 : decode cX11_begins 16 = .ok (.iconst 0, 1) := by decide +kernel
theorem dX11_begins_17 : decode cX11_begins 17 = .ok (.istore_n 1, 1) := by decide +kernel
theorem dX11_begins_18 : decode cX11_begins 18 = .ok (.iload_n 1, 1) := by decide +kernel
theorem dX11_begins_19 : decode cX11_begins 19 = .ok (.bipush 6, 2) := by decide +kernel
theorem dX11_begins_21 : decode cX11_begins 21 = .ok (.if_icmp .ge 75, 3) := by decide +kernel
theorem dX11_begins_24 : decode cX11_begins 24 = .ok (.bipush 11, 2) := by decide +kernel
theorem dX11_begins_26 : decode cX11_begins 26 = .ok (.iconst 5, 1) := by decide +kernel
theorem dX11_begins_27 : decode cX11_begins 27 = .ok (.iload_n 1, 1) := by decide +kernel
theorem dX11_begins_28 : decode cX11_begins 28 = .ok (.imul, 1) := by decide +kernel
theorem dX11_begins_29 : decode cX11_begins 29 = .ok (.iadd, 1) := by decide +kernel
theorem dX11_begins_30 : decode cX11_begins 30 = .ok (.istore_n 2, 1) := by decide +kernel
theorem dX11_begins_31 : decode cX11_begins 31 = .ok (.aload_n 0, 1) := by decide +kernel
theorem dX11_begins_32 : decode cX11_begins 32 = .ok (.getfield 39, 3) := by decide +kernel
theorem dX11_begins_35 : decode cX11_begins 35 = .ok (.iload_n 2, 1) := by decide +kernel
theorem dX11_begins_36 : decode cX11_begins 36 = .ok (.aload_n 0, 1) := by decide +kernel
theorem dX11_begins_37 : decode cX11_begins 37 = .ok (.getfield 39, 3) := by decide +kernel
theorem dX11_begins_40 : decode cX11_begins 40 = .ok (.bipush 60, 2) := by decide +kernel
theorem dX11_begins_42 : decode cX11_begins 42 = .ok (.iload_n 1, 1) := by decide +kernel
theorem dX11_begins_43 : decode cX11_begins 43 = .ok (.iadd, 1) := by decide +kernel
theorem dX11_begins_44 : decode cX11_begins 44 = .ok (.iaload, 1) := by decide +kernel
theorem dX11_begins_45 : decode cX11_begins 45 = .ok (.iastore, 1) := by decide +kernel
theorem dX11_begins_46 : decode cX11_begins 46 = .ok (.aload_n 0, 1) := by decide +kernel
theorem dX11_begins_47 : decode cX11_begins 47 = .ok (.getfield 39, 3) := by decide +kernel
theorem dX11_begins_50 : decode cX11_begins 50 = .ok (.iload_n 2, 1) := by decide +kernel
theorem dX11_begins_51 : decode cX11_begins 51 = .ok (.iconst 1, 1) := by decide +kernel
theorem dX11_begins_52 : decode cX11_begins 52 = .ok (.iadd, 1) := by decide +kernel
theorem dX11_begins_53 : decode cX11_begins 53 = .ok (.aload_n 0, 1) := by decide +kernel
theorem dX11_begins_54 : decode cX11_begins 54 = .ok (.getfield 39, 3) := by decide +kernel
theorem dX11_begins_57 : decode cX11_begins 57 = .ok (.bipush 66, 2) := by decide +kernel
theorem dX11_begins_59 : decode cX11_begins 59 = .ok (.iload_n 1, 1) := by decide +kernel
theorem dX11_begins_60 : decode cX11_begins 60 = .ok (.iadd, 1) := by decide +kernel
theorem dX11_begins_61 : decode cX11_begins 61 = .ok (.iaload, 1) := by decide +kernel
theorem dX11_begins_62 : decode cX11_begins 62 = .ok (.iastore, 1) := by decide +kernel
theorem dX11_begins_63 : decode cX11_begins 63 = .ok (.aload_n 0, 1) := by decide +kernel
theorem dX11_begins_64 : decode cX11_begins 64 = .ok (.getfield 39, 3) := by decide +kernel
theorem dX11_begins_67 : decode cX11_begins 67 = .ok (.iload_n 2, 1) := by decide +kernel
theorem dX11_begins_68 : decode cX11_begins 68 = .ok (.iconst 2, 1) := by decide +kernel
theorem dX11_begins_69 : decode cX11_begins 69 = .ok (.iadd, 1) := by decide +kernel
theorem dX11_begins_70 : decode cX11_begins 70 = .ok (.iconst 0, 1) := by decide +kernel
theorem dX11_begins_71 : decode cX11_begins 71 = .ok (.iastore, 1) := by decide +kernel
theorem dX11_begins_72 : decode cX11_begins 72 = .ok (.aload_n 0, 1) := by decide +kernel
theorem dX11_begins_73 : decode cX11_begins 73 = .ok (.getfield 39, 3) := by decide +kernel
theorem dX11_begins_76 : decode cX11_begins 76 = .ok (.iload_n 2, 1) := by decide +kernel
theorem dX11_begins_77 : decode cX11_begins 77 = .ok (.iconst 3, 1) := by decide +kernel
theorem dX11_begins_78 : decode cX11_begins 78 = .ok (.iadd, 1) := by decide +kernel
theorem dX11_begins_79 : decode cX11_begins 79 = .ok (.iconst 0, 1) := by decide +kernel
theorem dX11_begins_80 : decode cX11_begins 80 = .ok (.iastore, 1) := by decide +kernel
theorem dX11_begins_81 : decode cX11_begins 81 = .ok (.aload_n 0, 1) := by decide +kernel
theorem dX11_begins_82 : decode cX11_begins 82 = .ok (.getfield 39, 3) := by decide +kernel
theorem dX11_begins_85 : decode cX11_begins 85 = .ok (.iload_n 2, 1) := by decide +kernel
theorem dX11_begins_86 : decode cX11_begins 86 = .ok (.iconst 4, 1) := by decide +kernel
theorem dX11_begins_87 : decode cX11_begins 87 = .ok (.iadd, 1) := by decide +kernel
theorem dX11_begins_88 : decode cX11_begins 88 = .ok (.iconst (-1), 1) := by decide +kernel
theorem dX11_begins_89 : decode cX11_begins 89 = .ok (.iastore, 1) := by decide +kernel
theorem dX11_begins_90 : decode cX11_begins 90 = .ok (.iinc 1 1, 3) := by decide +kernel
theorem dX11_begins_93 : decode cX11_begins 93 = .ok (.goto (-75), 3) := by decide +kernel
theorem dX11_begins_96 : decode cX11_begins 96 = .ok (.iconst 0, 1) := by decide +kernel
theorem dX11_begins_97 : decode cX11_begins 97 = .ok (.istore_n 1, 1) := by decide +kernel
theorem dX11_begins_98 : decode cX11_begins 98 = .ok (.iload_n 1, 1) := by decide +kernel
theorem dX11_begins_99 : decode cX11_begins 99 = .ok (.bipush 12, 2) := by decide +kernel
theorem dX11_begins_101 : decode cX11_begins 101 = .ok (.if_icmp .ge 27, 3) := by decide +kernel
theorem dX11_begins_104 : decode cX11_begins 104 = .ok (.aload_n 0, 1) := by decide +kernel
theorem dX11_begins_105 : decode cX11_begins 105 = .ok (.getfield 39, 3) := by decide +kernel
theorem dX11_begins_108 : decode cX11_begins 108 = .ok (.bipush 41, 2) := by decide +kernel
theorem dX11_begins_110 : decode cX11_begins 110 = .ok (.iload_n 1, 1) := by decide +kernel
theorem dX11_begins_111 : decode cX11_begins 111 = .ok (.iadd, 1) := by decide +kernel
theorem dX11_begins_112 : decode cX11_begins 112 = .ok (.aload_n 0, 1) := by decide +kernel
theorem dX11_begins_113 : decode cX11_begins 113 = .ok (.getfield 39, 3) := by decide +kernel
theorem dX11_begins_116 : decode cX11_begins 116 = .ok (.bipush 78, 2) := by decide +kernel
theorem dX11_begins_118 : decode cX11_begins 118 = .ok (.iload_n 1, 1) := by decide +kernel
theorem dX11_begins_119 : decode cX11_begins 119 = .ok (.iadd, 1) := by decide +kernel
theorem dX11_begins_120 : decode cX11_begins 120 = .ok (.iaload, 1) := by decide +kernel
theorem dX11_begins_121 : decode cX11_begins 121 = .ok (.iastore, 1) := by decide +kernel
theorem dX11_begins_122 : decode cX11_begins 122 = .ok (.iinc 1 1, 3) := by decide +kernel
theorem dX11_begins_125 : decode cX11_begins 125 = .ok (.goto (-27), 3) := by decide +kernel
theorem dX11_begins_128 : decode cX11_begins 128 = .ok (.return_, 1) := by decide +kernel
theorem dX11_force_0 : decode cX11_force 0 = .ok (.iload_n 1, 1) := by decide +kernel
theorem dX11_force_1 : decode cX11_force 1 = .ok (.iconst (-1), 1) := by decide +kernel
theorem dX11_force_2 : decode cX11_force 2 = .ok (.if_icmp .eq 14, 3) := by decide +kernel
theorem dX11_force_5 : decode cX11_force 5 = .ok (.aload_n 0, 1) := by decide +kernel
theorem dX11_force_6 : decode cX11_force 6 = .ok (.iload_n 1, 1) := by decide +kernel
theorem dX11_force_7 : decode cX11_force 7 = .ok (.invokevirtual 306, 3) := by decide +kernel
theorem dX11_force_10 : decode cX11_force 10 = .ok (.ifCond .ne 6, 3) := by decide +kernel
theorem dX11_force_13 : decode cX11_force 13 = .ok (.bipush (-2), 2) := by decide +kernel
theorem dX11_force_15 : decode cX11_force 15 = .ok (.ireturn, 1) := by decide +kernel
theorem dX11_force_16 : decode cX11_force 16 = .ok (.aload_n 0, 1) := by decide +kernel
theorem dX11_force_17 : decode cX11_force 17 = .ok (.getfield 42, 3) := by decide +kernel
theorem dX11_force_20 : decode cX11_force 20 = .ok (.istore_n 2, 1) := by decide +kernel
theorem dX11_force_21 : decode cX11_force 21 = .ok (.aload_n 0, 1) := by decide +kernel
theorem dX11_force_22 : decode cX11_force 22 = .ok (.iload_n 1, 1) := by decide +kernel
theorem dX11_force_23 : decode cX11_force 23 = .ok (.putfield 42, 3) := by decide +kernel
theorem dX11_force_26 : decode cX11_force 26 = .ok (.iload_n 2, 1) := by decide +kernel
theorem dX11_force_27 : decode cX11_force 27 = .ok (.ireturn, 1) := by decide +kernel
theorem dX11_road_0 : decode cX11_road 0 = .ok (.aload_n 0, 1) := by decide +kernel
theorem dX11_road_1 : decode cX11_road 1 = .ok (.iload_n 1, 1) := by decide +kernel
theorem dX11_road_2 : decode cX11_road 2 = .ok (.invokevirtual 309, 3) := by decide +kernel
theorem dX11_road_5 : decode cX11_road 5 = .ok (.ifCond .ne 5, 3) := by decide +kernel
theorem dX11_road_8 : decode cX11_road 8 = .ok (.iconst (-1), 1) := by decide +kernel
theorem dX11_road_9 : decode cX11_road 9 = .ok (.ireturn, 1) := by decide +kernel
theorem dX11_road_10 : decode cX11_road 10 = .ok (.iload_n 2, 1) := by decide +kernel
theorem dX11_road_11 : decode cX11_road 11 = .ok (.tableswitch 91 0 6 #[41, 47, 57, 63, 73, 79, 85], 41) := by decide +kernel
theorem dX11_road_52 : decode cX11_road 52 = .ok (.aload_n 0, 1) := by decide +kernel
theorem dX11_road_53 : decode cX11_road 53 = .ok (.iload_n 1, 1) := by decide +kernel
theorem dX11_road_54 : decode cX11_road 54 = .ok (.invokevirtual 312, 3) := by decide +kernel
theorem dX11_road_57 : decode cX11_road 57 = .ok (.ireturn, 1) := by decide +kernel
theorem dX11_road_58 : decode cX11_road 58 = .ok (.aload_n 0, 1) := by decide +kernel
theorem dX11_road_59 : decode cX11_road 59 = .ok (.getfield 39, 3) := by decide +kernel
theorem dX11_road_62 : decode cX11_road 62 = .ok (.bipush 54, 2) := by decide +kernel
theorem dX11_road_64 : decode cX11_road 64 = .ok (.iload_n 1, 1) := by decide +kernel
theorem dX11_road_65 : decode cX11_road 65 = .ok (.iadd, 1) := by decide +kernel
theorem dX11_road_66 : decode cX11_road 66 = .ok (.iaload, 1) := by decide +kernel
theorem dX11_road_67 : decode cX11_road 67 = .ok (.ireturn, 1) := by decide +kernel
theorem dX11_road_68 : decode cX11_road 68 = .ok (.aload_n 0, 1) := by decide +kernel
theorem dX11_road_69 : decode cX11_road 69 = .ok (.iload_n 1, 1) := by decide +kernel
theorem dX11_road_70 : decode cX11_road 70 = .ok (.invokevirtual 300, 3) := by decide +kernel
theorem dX11_road_73 : decode cX11_road 73 = .ok (.ireturn, 1) := by decide +kernel
theorem dX11_road_74 : decode cX11_road 74 = .ok (.aload_n 0, 1) := by decide +kernel
theorem dX11_road_75 : decode cX11_road 75 = .ok (.getfield 39, 3) := by decide +kernel
theorem dX11_road_78 : decode cX11_road 78 = .ok (.bipush 72, 2) := by decide +kernel
theorem dX11_road_80 : decode cX11_road 80 = .ok (.iload_n 1, 1) := by decide +kernel
theorem dX11_road_81 : decode cX11_road 81 = .ok (.iadd, 1) := by decide +kernel
theorem dX11_road_82 : decode cX11_road 82 = .ok (.iaload, 1) := by decide +kernel
theorem dX11_road_83 : decode cX11_road 83 = .ok (.ireturn, 1) := by decide +kernel
theorem dX11_road_84 : decode cX11_road 84 = .ok (.aload_n 0, 1) := by decide +kernel
theorem dX11_road_85 : decode cX11_road 85 = .ok (.iload_n 1, 1) := by decide +kernel
theorem dX11_road_86 : decode cX11_road 86 = .ok (.invokevirtual 315, 3) := by decide +kernel
theorem dX11_road_89 : decode cX11_road 89 = .ok (.ireturn, 1) := by decide +kernel
theorem dX11_road_90 : decode cX11_road 90 = .ok (.aload_n 0, 1) := by decide +kernel
theorem dX11_road_91 : decode cX11_road 91 = .ok (.iload_n 1, 1) := by decide +kernel
theorem dX11_road_92 : decode cX11_road 92 = .ok (.invokevirtual 318, 3) := by decide +kernel
theorem dX11_road_95 : decode cX11_road 95 = .ok (.ireturn, 1) := by decide +kernel
theorem dX11_road_96 : decode cX11_road 96 = .ok (.aload_n 0, 1) := by decide +kernel
theorem dX11_road_97 : decode cX11_road 97 = .ok (.iload_n 1, 1) := by decide +kernel
theorem dX11_road_98 : decode cX11_road 98 = .ok (.invokevirtual 321, 3) := by decide +kernel
theorem dX11_road_101 : decode cX11_road 101 = .ok (.ireturn, 1) := by decide +kernel
theorem dX11_road_102 : decode cX11_road 102 = .ok (.iconst (-1), 1) := by decide +kernel
theorem dX11_road_103 : decode cX11_road 103 = .ok (.ireturn, 1) := by decide +kernel
theorem dX11_isBeat_0 : decode cX11_isBeat 0 = .ok (.aload_n 0, 1) := by decide +kernel
theorem dX11_isBeat_1 : decode cX11_isBeat 1 = .ok (.invokevirtual 294, 3) := by decide +kernel
theorem dX11_isBeat_4 : decode cX11_isBeat 4 = .ok (.ifCond .eq 21, 3) := by decide +kernel
theorem dX11_isBeat_7 : decode cX11_isBeat 7 = .ok (.iload_n 1, 1) := by decide +kernel
theorem dX11_isBeat_8 : decode cX11_isBeat 8 = .ok (.ifCond .lt 17, 3) := by decide +kernel
theorem dX11_isBeat_11 : decode cX11_isBeat 11 = .ok (.iload_n 1, 1) := by decide +kernel
theorem dX11_isBeat_12 : decode cX11_isBeat 12 = .ok (.aload_n 0, 1) := by decide +kernel
theorem dX11_isBeat_13 : decode cX11_isBeat 13 = .ok (.getfield 39, 3) := by decide +kernel
theorem dX11_isBeat_16 : decode cX11_isBeat 16 = .ok (.iconst 1, 1) := by decide +kernel
theorem dX11_isBeat_17 : decode cX11_isBeat 17 = .ok (.iaload, 1) := by decide +kernel
theorem dX11_isBeat_18 : decode cX11_isBeat 18 = .ok (.if_icmp .ge 7, 3) := by decide +kernel
theorem dX11_isBeat_21 : decode cX11_isBeat 21 = .ok (.iconst 1, 1) := by decide +kernel
theorem dX11_isBeat_22 : decode cX11_isBeat 22 = .ok (.goto 4, 3) := by decide +kernel
theorem dX11_isBeat_25 : decode cX11_isBeat 25 = .ok (.iconst 0, 1) := by decide +kernel
theorem dX11_isBeat_26 : decode cX11_isBeat 26 = .ok (.ireturn, 1) := by decide +kernel
theorem dX11_scored_0 : decode cX11_scored 0 = .ok (.aload_n 0, 1) := by decide +kernel
theorem dX11_scored_1 : decode cX11_scored 1 = .ok (.iload_n 1, 1) := by decide +kernel
theorem dX11_scored_2 : decode cX11_scored 2 = .ok (.invokevirtual 324, 3) := by decide +kernel
theorem dX11_scored_5 : decode cX11_scored 5 = .ok (.ifCond .eq 15, 3) := by decide +kernel
theorem dX11_scored_8 : decode cX11_scored 8 = .ok (.aload_n 0, 1) := by decide +kernel
theorem dX11_scored_9 : decode cX11_scored 9 = .ok (.getfield 39, 3) := by decide +kernel
theorem dX11_scored_12 : decode cX11_scored 12 = .ok (.bipush 41, 2) := by decide +kernel
theorem dX11_scored_14 : decode cX11_scored 14 = .ok (.iload_n 1, 1) := by decide +kernel
theorem dX11_scored_15 : decode cX11_scored 15 = .ok (.iadd, 1) := by decide +kernel
theorem dX11_scored_16 : decode cX11_scored 16 = .ok (.iaload, 1) := by decide +kernel
theorem dX11_scored_17 : decode cX11_scored 17 = .ok (.goto 4, 3) := by decide +kernel
theorem dX11_scored_20 : decode cX11_scored 20 = .ok (.iconst (-1), 1) := by decide +kernel
theorem dX11_scored_21 : decode cX11_scored 21 = .ok (.ireturn, 1) := by decide +kernel
theorem dX11_summedBy_0 : decode cX11_summedBy 0 = .ok (.iconst 0, 1) := by decide +kernel
theorem dX11_summedBy_1 : decode cX11_summedBy 1 = .ok (.istore_n 2, 1) := by decide +kernel
theorem dX11_summedBy_2 : decode cX11_summedBy 2 = .ok (.iload_n 2, 1) := by decide +kernel
theorem dX11_summedBy_3 : decode cX11_summedBy 3 = .ok (.aload_n 0, 1) := by decide +kernel
theorem dX11_summedBy_4 : decode cX11_summedBy 4 = .ok (.getfield 23, 3) := by decide +kernel
theorem dX11_summedBy_7 : decode cX11_summedBy 7 = .ok (.iload_n 1, 1) := by decide +kernel
theorem dX11_summedBy_8 : decode cX11_summedBy 8 = .ok (.iaload, 1) := by decide +kernel
theorem dX11_summedBy_9 : decode cX11_summedBy 9 = .ok (.if_icmp .ge 75, 3) := by decide +kernel
theorem dX11_summedBy_12 : decode cX11_summedBy 12 = .ok (.bipush 48, 2) := by decide +kernel
theorem dX11_summedBy_14 : decode cX11_summedBy 14 = .ok (.iload_n 1, 1) := by decide +kernel
theorem dX11_summedBy_15 : decode cX11_summedBy 15 = .ok (.imul, 1) := by decide +kernel
theorem dX11_summedBy_16 : decode cX11_summedBy 16 = .ok (.iconst 4, 1) := by decide +kernel
theorem dX11_summedBy_17 : decode cX11_summedBy 17 = .ok (.iload_n 2, 1) := by decide +kernel
theorem dX11_summedBy_18 : decode cX11_summedBy 18 = .ok (.imul, 1) := by decide +kernel
theorem dX11_summedBy_19 : decode cX11_summedBy 19 = .ok (.iadd, 1) := by decide +kernel
theorem dX11_summedBy_20 : decode cX11_summedBy 20 = .ok (.istore_n 3, 1) := by decide +kernel
theorem dX11_summedBy_21 : decode cX11_summedBy 21 = .ok (.aload_n 0, 1) := by decide +kernel
theorem dX11_summedBy_22 : decode cX11_summedBy 22 = .ok (.getfield 20, 3) := by decide +kernel
theorem dX11_summedBy_25 : decode cX11_summedBy 25 = .ok (.iload_n 3, 1) := by decide +kernel
theorem dX11_summedBy_26 : decode cX11_summedBy 26 = .ok (.iconst 2, 1) := by decide +kernel
theorem dX11_summedBy_27 : decode cX11_summedBy 27 = .ok (.iadd, 1) := by decide +kernel
theorem dX11_summedBy_28 : decode cX11_summedBy 28 = .ok (.iaload, 1) := by decide +kernel
theorem dX11_summedBy_29 : decode cX11_summedBy 29 = .ok (.ifCond .lt 29, 3) := by decide +kernel
theorem dX11_summedBy_32 : decode cX11_summedBy 32 = .ok (.aload_n 0, 1) := by decide +kernel
theorem dX11_summedBy_33 : decode cX11_summedBy 33 = .ok (.iload_n 1, 1) := by decide +kernel
theorem dX11_summedBy_34 : decode cX11_summedBy 34 = .ok (.aload_n 0, 1) := by decide +kernel
theorem dX11_summedBy_35 : decode cX11_summedBy 35 = .ok (.getfield 20, 3) := by decide +kernel
theorem dX11_summedBy_38 : decode cX11_summedBy 38 = .ok (.iload_n 3, 1) := by decide +kernel
theorem dX11_summedBy_39 : decode cX11_summedBy 39 = .ok (.iconst 2, 1) := by decide +kernel
theorem dX11_summedBy_40 : decode cX11_summedBy 40 = .ok (.iadd, 1) := by decide +kernel
theorem dX11_summedBy_41 : decode cX11_summedBy 41 = .ok (.iaload, 1) := by decide +kernel
theorem dX11_summedBy_42 : decode cX11_summedBy 42 = .ok (.aload_n 0, 1) := by decide +kernel
theorem dX11_summedBy_43 : decode cX11_summedBy 43 = .ok (.getfield 20, 3) := by decide +kernel
theorem dX11_summedBy_46 : decode cX11_summedBy 46 = .ok (.iload_n 3, 1) := by decide +kernel
theorem dX11_summedBy_47 : decode cX11_summedBy 47 = .ok (.iconst 3, 1) := by decide +kernel
theorem dX11_summedBy_48 : decode cX11_summedBy 48 = .ok (.iadd, 1) := by decide +kernel
theorem dX11_summedBy_49 : decode cX11_summedBy 49 = .ok (.iaload, 1) := by decide +kernel
theorem dX11_summedBy_50 : decode cX11_summedBy 50 = .ok (.invokevirtual 327, 3) := by decide +kernel
theorem dX11_summedBy_53 : decode cX11_summedBy 53 = .ok (.lconst 1, 1) := by decide +kernel
theorem dX11_summedBy_54 : decode cX11_summedBy 54 = .ok (.lcmp, 1) := by decide +kernel
theorem dX11_summedBy_55 : decode cX11_summedBy 55 = .ok (.ifCond .ne 23, 3) := by decide +kernel
theorem dX11_summedBy_58 : decode cX11_summedBy 58 = .ok (.aload_n 0, 1) := by decide +kernel
theorem dX11_summedBy_59 : decode cX11_summedBy 59 = .ok (.iload_n 1, 1) := by decide +kernel
theorem dX11_summedBy_60 : decode cX11_summedBy 60 = .ok (.aload_n 0, 1) := by decide +kernel
theorem dX11_summedBy_61 : decode cX11_summedBy 61 = .ok (.getfield 20, 3) := by decide +kernel
theorem dX11_summedBy_64 : decode cX11_summedBy 64 = .ok (.iload_n 3, 1) := by decide +kernel
theorem dX11_summedBy_65 : decode cX11_summedBy 65 = .ok (.iaload, 1) := by decide +kernel
theorem dX11_summedBy_66 : decode cX11_summedBy 66 = .ok (.aload_n 0, 1) := by decide +kernel
theorem dX11_summedBy_67 : decode cX11_summedBy 67 = .ok (.getfield 20, 3) := by decide +kernel
theorem dX11_summedBy_70 : decode cX11_summedBy 70 = .ok (.iload_n 3, 1) := by decide +kernel
theorem dX11_summedBy_71 : decode cX11_summedBy 71 = .ok (.iconst 1, 1) := by decide +kernel
theorem dX11_summedBy_72 : decode cX11_summedBy 72 = .ok (.iadd, 1) := by decide +kernel
theorem dX11_summedBy_73 : decode cX11_summedBy 73 = .ok (.iaload, 1) := by decide +kernel
theorem dX11_summedBy_74 : decode cX11_summedBy 74 = .ok (.invokevirtual 327, 3) := by decide +kernel
theorem dX11_summedBy_77 : decode cX11_summedBy 77 = .ok (.lreturn, 1) := by decide +kernel
theorem dX11_summedBy_78 : decode cX11_summedBy 78 = .ok (.iinc 2 1, 3) := by decide +kernel
theorem dX11_summedBy_81 : decode cX11_summedBy 81 = .ok (.goto (-79), 3) := by decide +kernel
theorem dX11_summedBy_84 : decode cX11_summedBy 84 = .ok (.lconst 0, 1) := by decide +kernel
theorem dX11_summedBy_85 : decode cX11_summedBy 85 = .ok (.lreturn, 1) := by decide +kernel
theorem dX11_isLetBy_0 : decode cX11_isLetBy 0 = .ok (.aload_n 0, 1) := by decide +kernel
theorem dX11_isLetBy_1 : decode cX11_isLetBy 1 = .ok (.getfield 39, 3) := by decide +kernel
theorem dX11_isLetBy_4 : decode cX11_isLetBy 4 = .ok (.bipush 41, 2) := by decide +kernel
theorem dX11_isLetBy_6 : decode cX11_isLetBy 6 = .ok (.aload_n 0, 1) := by decide +kernel
theorem dX11_isLetBy_7 : decode cX11_isLetBy 7 = .ok (.invokevirtual 331, 3) := by decide +kernel
theorem dX11_isLetBy_10 : decode cX11_isLetBy 10 = .ok (.iadd, 1) := by decide +kernel
theorem dX11_isLetBy_11 : decode cX11_isLetBy 11 = .ok (.iaload, 1) := by decide +kernel
theorem dX11_isLetBy_12 : decode cX11_isLetBy 12 = .ok (.iload_n 1, 1) := by decide +kernel
theorem dX11_isLetBy_13 : decode cX11_isLetBy 13 = .ok (.invokestatic 297, 3) := by decide +kernel
theorem dX11_isLetBy_16 : decode cX11_isLetBy 16 = .ok (.istore_n 3, 1) := by decide +kernel
theorem dX11_isLetBy_17 : decode cX11_isLetBy 17 = .ok (.aload_n 0, 1) := by decide +kernel
theorem dX11_isLetBy_18 : decode cX11_isLetBy 18 = .ok (.getfield 42, 3) := by decide +kernel
theorem dX11_isLetBy_21 : decode cX11_isLetBy 21 = .ok (.ifCond .ge 5, 3) := by decide +kernel
theorem dX11_isLetBy_24 : decode cX11_isLetBy 24 = .ok (.iload_n 3, 1) := by decide +kernel
theorem dX11_isLetBy_25 : decode cX11_isLetBy 25 = .ok (.ireturn, 1) := by decide +kernel
theorem dX11_isLetBy_26 : decode cX11_isLetBy 26 = .ok (.aload_n 0, 1) := by decide +kernel
theorem dX11_isLetBy_27 : decode cX11_isLetBy 27 = .ok (.getfield 36, 3) := by decide +kernel
theorem dX11_isLetBy_30 : decode cX11_isLetBy 30 = .ok (.iconst 0, 1) := by decide +kernel
theorem dX11_isLetBy_31 : decode cX11_isLetBy 31 = .ok (.iload_n 1, 1) := by decide +kernel
theorem dX11_isLetBy_32 : decode cX11_isLetBy 32 = .ok (.i2l, 1) := by decide +kernel
theorem dX11_isLetBy_33 : decode cX11_isLetBy 33 = .ok (.lastore, 1) := by decide +kernel
theorem dX11_isLetBy_34 : decode cX11_isLetBy 34 = .ok (.aload_n 0, 1) := by decide +kernel
theorem dX11_isLetBy_35 : decode cX11_isLetBy 35 = .ok (.getfield 36, 3) := by decide +kernel
theorem dX11_isLetBy_38 : decode cX11_isLetBy 38 = .ok (.iconst 1, 1) := by decide +kernel
theorem dX11_isLetBy_39 : decode cX11_isLetBy 39 = .ok (.aload_n 0, 1) := by decide +kernel
theorem dX11_isLetBy_40 : decode cX11_isLetBy 40 = .ok (.iload_n 1, 1) := by decide +kernel
theorem dX11_isLetBy_41 : decode cX11_isLetBy 41 = .ok (.invokevirtual 312, 3) := by decide +kernel
theorem dX11_isLetBy_44 : decode cX11_isLetBy 44 = .ok (.i2l, 1) := by decide +kernel
theorem dX11_isLetBy_45 : decode cX11_isLetBy 45 = .ok (.lastore, 1) := by decide +kernel
theorem dX11_isLetBy_46 : decode cX11_isLetBy 46 = .ok (.aload_n 0, 1) := by decide +kernel
theorem dX11_isLetBy_47 : decode cX11_isLetBy 47 = .ok (.getfield 36, 3) := by decide +kernel
theorem dX11_isLetBy_50 : decode cX11_isLetBy 50 = .ok (.iconst 2, 1) := by decide +kernel
theorem dX11_isLetBy_51 : decode cX11_isLetBy 51 = .ok (.aload_n 0, 1) := by decide +kernel
theorem dX11_isLetBy_52 : decode cX11_isLetBy 52 = .ok (.getfield 39, 3) := by decide +kernel
theorem dX11_isLetBy_55 : decode cX11_isLetBy 55 = .ok (.bipush 54, 2) := by decide +kernel
theorem dX11_isLetBy_57 : decode cX11_isLetBy 57 = .ok (.iload_n 1, 1) := by decide +kernel
theorem dX11_isLetBy_58 : decode cX11_isLetBy 58 = .ok (.iadd, 1) := by decide +kernel
theorem dX11_isLetBy_59 : decode cX11_isLetBy 59 = .ok (.iaload, 1) := by decide +kernel
theorem dX11_isLetBy_60 : decode cX11_isLetBy 60 = .ok (.i2l, 1) := by decide +kernel
theorem dX11_isLetBy_61 : decode cX11_isLetBy 61 = .ok (.lastore, 1) := by decide +kernel
theorem dX11_isLetBy_62 : decode cX11_isLetBy 62 = .ok (.aload_n 0, 1) := by decide +kernel
theorem dX11_isLetBy_63 : decode cX11_isLetBy 63 = .ok (.getfield 36, 3) := by decide +kernel
theorem dX11_isLetBy_66 : decode cX11_isLetBy 66 = .ok (.iconst 3, 1) := by decide +kernel
theorem dX11_isLetBy_67 : decode cX11_isLetBy 67 = .ok (.aload_n 0, 1) := by decide +kernel
theorem dX11_isLetBy_68 : decode cX11_isLetBy 68 = .ok (.iload_n 1, 1) := by decide +kernel
theorem dX11_isLetBy_69 : decode cX11_isLetBy 69 = .ok (.invokevirtual 300, 3) := by decide +kernel
theorem dX11_isLetBy_72 : decode cX11_isLetBy 72 = .ok (.i2l, 1) := by decide +kernel
theorem dX11_isLetBy_73 : decode cX11_isLetBy 73 = .ok (.lastore, 1) := by decide +kernel
theorem dX11_isLetBy_74 : decode cX11_isLetBy 74 = .ok (.aload_n 0, 1) := by decide +kernel
theorem dX11_isLetBy_75 : decode cX11_isLetBy 75 = .ok (.getfield 36, 3) := by decide +kernel
theorem dX11_isLetBy_78 : decode cX11_isLetBy 78 = .ok (.iconst 4, 1) := by decide +kernel
theorem dX11_isLetBy_79 : decode cX11_isLetBy 79 = .ok (.iload_n 3, 1) := by decide +kernel
theorem dX11_isLetBy_80 : decode cX11_isLetBy 80 = .ok (.ifCond .eq 7, 3) := by decide +kernel
theorem dX11_isLetBy_83 : decode cX11_isLetBy 83 = .ok (.lconst 1, 1) := by decide +kernel
theorem dX11_isLetBy_84 : decode cX11_isLetBy 84 = .ok (.goto 4, 3) := by decide +kernel
theorem dX11_isLetBy_87 : decode cX11_isLetBy 87 = .ok (.lconst 0, 1) := by decide +kernel
theorem dX11_isLetBy_88 : decode cX11_isLetBy 88 = .ok (.lastore, 1) := by decide +kernel
theorem dX11_isLetBy_89 : decode cX11_isLetBy 89 = .ok (.aload_n 0, 1) := by decide +kernel
theorem dX11_isLetBy_90 : decode cX11_isLetBy 90 = .ok (.getfield 36, 3) := by decide +kernel
theorem dX11_isLetBy_93 : decode cX11_isLetBy 93 = .ok (.iconst 5, 1) := by decide +kernel
theorem dX11_isLetBy_94 : decode cX11_isLetBy 94 = .ok (.iload_n 2, 1) := by decide +kernel
theorem dX11_isLetBy_95 : decode cX11_isLetBy 95 = .ok (.invokestatic 334, 3) := by decide +kernel
theorem dX11_isLetBy_98 : decode cX11_isLetBy 98 = .ok (.i2l, 1) := by decide +kernel
theorem dX11_isLetBy_99 : decode cX11_isLetBy 99 = .ok (.lastore, 1) := by decide +kernel
theorem dX11_isLetBy_100 : decode cX11_isLetBy 100 = .ok (.aload_n 0, 1) := by decide +kernel
theorem dX11_isLetBy_101 : decode cX11_isLetBy 101 = .ok (.getfield 36, 3) := by decide +kernel
theorem dX11_isLetBy_104 : decode cX11_isLetBy 104 = .ok (.bipush 6, 2) := by decide +kernel
theorem dX11_isLetBy_106 : decode cX11_isLetBy 106 = .ok (.aload_n 0, 1) := by decide +kernel
theorem dX11_isLetBy_107 : decode cX11_isLetBy 107 = .ok (.iload_n 2, 1) := by decide +kernel
theorem dX11_isLetBy_108 : decode cX11_isLetBy 108 = .ok (.iconst 1, 1) := by decide +kernel
theorem dX11_isLetBy_109 : decode cX11_isLetBy 109 = .ok (.iload_n 1, 1) := by decide +kernel
theorem dX11_isLetBy_110 : decode cX11_isLetBy 110 = .ok (.ishl, 1) := by decide +kernel
theorem dX11_isLetBy_111 : decode cX11_isLetBy 111 = .ok (.ior, 1) := by decide +kernel
theorem dX11_isLetBy_112 : decode cX11_isLetBy 112 = .ok (.invokevirtual 337, 3) := by decide +kernel
theorem dX11_isLetBy_115 : decode cX11_isLetBy 115 = .ok (.aload_n 0, 1) := by decide +kernel
theorem dX11_isLetBy_116 : decode cX11_isLetBy 116 = .ok (.iload_n 2, 1) := by decide +kernel
theorem dX11_isLetBy_117 : decode cX11_isLetBy 117 = .ok (.invokevirtual 337, 3) := by decide +kernel
theorem dX11_isLetBy_120 : decode cX11_isLetBy 120 = .ok (.isub, 1) := by decide +kernel
theorem dX11_isLetBy_121 : decode cX11_isLetBy 121 = .ok (.i2l, 1) := by decide +kernel
theorem dX11_isLetBy_122 : decode cX11_isLetBy 122 = .ok (.lastore, 1) := by decide +kernel
theorem dX11_isLetBy_123 : decode cX11_isLetBy 123 = .ok (.aload_n 0, 1) := by decide +kernel
theorem dX11_isLetBy_124 : decode cX11_isLetBy 124 = .ok (.getfield 36, 3) := by decide +kernel
theorem dX11_isLetBy_127 : decode cX11_isLetBy 127 = .ok (.bipush 7, 2) := by decide +kernel
theorem dX11_isLetBy_129 : decode cX11_isLetBy 129 = .ok (.aload_n 0, 1) := by decide +kernel
theorem dX11_isLetBy_130 : decode cX11_isLetBy 130 = .ok (.iload_n 1, 1) := by decide +kernel
theorem dX11_isLetBy_131 : decode cX11_isLetBy 131 = .ok (.invokevirtual 321, 3) := by decide +kernel
theorem dX11_isLetBy_134 : decode cX11_isLetBy 134 = .ok (.i2l, 1) := by decide +kernel
theorem dX11_isLetBy_135 : decode cX11_isLetBy 135 = .ok (.lastore, 1) := by decide +kernel
theorem dX11_isLetBy_136 : decode cX11_isLetBy 136 = .ok (.aload_n 0, 1) := by decide +kernel
theorem dX11_isLetBy_137 : decode cX11_isLetBy 137 = .ok (.getfield 36, 3) := by decide +kernel
theorem dX11_isLetBy_140 : decode cX11_isLetBy 140 = .ok (.bipush 8, 2) := by decide +kernel
theorem dX11_isLetBy_142 : decode cX11_isLetBy 142 = .ok (.aload_n 0, 1) := by decide +kernel
theorem dX11_isLetBy_143 : decode cX11_isLetBy 143 = .ok (.iload_n 1, 1) := by decide +kernel
theorem dX11_isLetBy_144 : decode cX11_isLetBy 144 = .ok (.invokevirtual 315, 3) := by decide +kernel
theorem dX11_isLetBy_147 : decode cX11_isLetBy 147 = .ok (.i2l, 1) := by decide +kernel
theorem dX11_isLetBy_148 : decode cX11_isLetBy 148 = .ok (.lastore, 1) := by decide +kernel
theorem dX11_isLetBy_149 : decode cX11_isLetBy 149 = .ok (.aload_n 0, 1) := by decide +kernel
theorem dX11_isLetBy_150 : decode cX11_isLetBy 150 = .ok (.getfield 36, 3) := by decide +kernel
theorem dX11_isLetBy_153 : decode cX11_isLetBy 153 = .ok (.bipush 9, 2) := by decide +kernel
theorem dX11_isLetBy_155 : decode cX11_isLetBy 155 = .ok (.aload_n 0, 1) := by decide +kernel
theorem dX11_isLetBy_156 : decode cX11_isLetBy 156 = .ok (.iconst 0, 1) := by decide +kernel
theorem dX11_isLetBy_157 : decode cX11_isLetBy 157 = .ok (.invokevirtual 340, 3) := by decide +kernel
theorem dX11_isLetBy_160 : decode cX11_isLetBy 160 = .ok (.i2l, 1) := by decide +kernel
theorem dX11_isLetBy_161 : decode cX11_isLetBy 161 = .ok (.lastore, 1) := by decide +kernel
theorem dX11_isLetBy_162 : decode cX11_isLetBy 162 = .ok (.aload_n 0, 1) := by decide +kernel
theorem dX11_isLetBy_163 : decode cX11_isLetBy 163 = .ok (.getfield 36, 3) := by decide +kernel
theorem dX11_isLetBy_166 : decode cX11_isLetBy 166 = .ok (.bipush 10, 2) := by decide +kernel
theorem dX11_isLetBy_168 : decode cX11_isLetBy 168 = .ok (.aload_n 0, 1) := by decide +kernel
theorem dX11_isLetBy_169 : decode cX11_isLetBy 169 = .ok (.invokevirtual 331, 3) := by decide +kernel
theorem dX11_isLetBy_172 : decode cX11_isLetBy 172 = .ok (.i2l, 1) := by decide +kernel
theorem dX11_isLetBy_173 : decode cX11_isLetBy 173 = .ok (.lastore, 1) := by decide +kernel
theorem dX11_isLetBy_174 : decode cX11_isLetBy 174 = .ok (.aload_n 0, 1) := by decide +kernel
theorem dX11_isLetBy_175 : decode cX11_isLetBy 175 = .ok (.getfield 36, 3) := by decide +kernel
theorem dX11_isLetBy_178 : decode cX11_isLetBy 178 = .ok (.bipush 11, 2) := by decide +kernel
theorem dX11_isLetBy_180 : decode cX11_isLetBy 180 = .ok (.aload_n 0, 1) := by decide +kernel
theorem dX11_isLetBy_181 : decode cX11_isLetBy 181 = .ok (.getfield 39, 3) := by decide +kernel
theorem dX11_isLetBy_184 : decode cX11_isLetBy 184 = .ok (.bipush 10, 2) := by decide +kernel
theorem dX11_isLetBy_186 : decode cX11_isLetBy 186 = .ok (.iaload, 1) := by decide +kernel
theorem dX11_isLetBy_187 : decode cX11_isLetBy 187 = .ok (.aload_n 0, 1) := by decide +kernel
theorem dX11_isLetBy_188 : decode cX11_isLetBy 188 = .ok (.getfield 39, 3) := by decide +kernel
theorem dX11_isLetBy_191 : decode cX11_isLetBy 191 = .ok (.iconst 1, 1) := by decide +kernel
theorem dX11_isLetBy_192 : decode cX11_isLetBy 192 = .ok (.iaload, 1) := by decide +kernel
theorem dX11_isLetBy_193 : decode cX11_isLetBy 193 = .ok (.idiv, 1) := by decide +kernel
theorem dX11_isLetBy_194 : decode cX11_isLetBy 194 = .ok (.i2l, 1) := by decide +kernel
theorem dX11_isLetBy_195 : decode cX11_isLetBy 195 = .ok (.lastore, 1) := by decide +kernel
theorem dX11_isLetBy_196 : decode cX11_isLetBy 196 = .ok (.aload_n 0, 1) := by decide +kernel
theorem dX11_isLetBy_197 : decode cX11_isLetBy 197 = .ok (.aload_n 0, 1) := by decide +kernel
theorem dX11_isLetBy_198 : decode cX11_isLetBy 198 = .ok (.getfield 42, 3) := by decide +kernel
theorem dX11_isLetBy_201 : decode cX11_isLetBy 201 = .ok (.invokevirtual 343, 3) := by decide +kernel
theorem dX11_isLetBy_204 : decode cX11_isLetBy 204 = .ok (.lconst 0, 1) := by decide +kernel
theorem dX11_isLetBy_205 : decode cX11_isLetBy 205 = .ok (.lcmp, 1) := by decide +kernel
theorem dX11_isLetBy_206 : decode cX11_isLetBy 206 = .ok (.ifCond .le 7, 3) := by decide +kernel
theorem dX11_isLetBy_209 : decode cX11_isLetBy 209 = .ok (.iconst 1, 1) := by decide +kernel
theorem dX11_isLetBy_210 : decode cX11_isLetBy 210 = .ok (.goto 4, 3) := by decide +kernel
theorem dX11_isLetBy_213 : decode cX11_isLetBy 213 = .ok (.iconst 0, 1) := by decide +kernel
theorem dX11_isLetBy_214 : decode cX11_isLetBy 214 = .ok (.ireturn, 1) := by decide +kernel
theorem dX11_letIn_0 : decode cX11_letIn 0 = .ok (.aload_n 0, 1) := by decide +kernel
theorem dX11_letIn_1 : decode cX11_letIn 1 = .ok (.getfield 49, 3) := by decide +kernel
theorem dX11_letIn_4 : decode cX11_letIn 4 = .ok (.ifCond .lt 8, 3) := by decide +kernel
theorem dX11_letIn_7 : decode cX11_letIn 7 = .ok (.aload_n 0, 1) := by decide +kernel
theorem dX11_letIn_8 : decode cX11_letIn 8 = .ok (.getfield 49, 3) := by decide +kernel
theorem dX11_letIn_11 : decode cX11_letIn 11 = .ok (.ireturn, 1) := by decide +kernel
theorem dX11_letIn_12 : decode cX11_letIn 12 = .ok (.iconst 0, 1) := by decide +kernel
theorem dX11_letIn_13 : decode cX11_letIn 13 = .ok (.istore_n 1, 1) := by decide +kernel
theorem dX11_letIn_14 : decode cX11_letIn 14 = .ok (.iconst 0, 1) := by decide +kernel
theorem dX11_letIn_15 : decode cX11_letIn 15 = .ok (.istore_n 2, 1) := by decide +kernel
theorem dX11_letIn_16 : decode cX11_letIn 16 = .ok (.iload_n 2, 1) := by decide +kernel
theorem dX11_letIn_17 : decode cX11_letIn 17 = .ok (.aload_n 0, 1) := by decide +kernel
theorem dX11_letIn_18 : decode cX11_letIn 18 = .ok (.getfield 39, 3) := by decide +kernel
theorem dX11_letIn_21 : decode cX11_letIn 21 = .ok (.iconst 3, 1) := by decide +kernel
theorem dX11_letIn_22 : decode cX11_letIn 22 = .ok (.iaload, 1) := by decide +kernel
theorem dX11_letIn_23 : decode cX11_letIn 23 = .ok (.if_icmp .ge 38, 3) := by decide +kernel
theorem dX11_letIn_26 : decode cX11_letIn 26 = .ok (.aload_n 0, 1) := by decide +kernel
theorem dX11_letIn_27 : decode cX11_letIn 27 = .ok (.getfield 39, 3) := by decide +kernel
theorem dX11_letIn_30 : decode cX11_letIn 30 = .ok (.bipush 72, 2) := by decide +kernel
theorem dX11_letIn_32 : decode cX11_letIn 32 = .ok (.iload_n 2, 1) := by decide +kernel
theorem dX11_letIn_33 : decode cX11_letIn 33 = .ok (.iadd, 1) := by decide +kernel
theorem dX11_letIn_34 : decode cX11_letIn 34 = .ok (.iaload, 1) := by decide +kernel
theorem dX11_letIn_35 : decode cX11_letIn 35 = .ok (.iload_n 1, 1) := by decide +kernel
theorem dX11_letIn_36 : decode cX11_letIn 36 = .ok (.iand, 1) := by decide +kernel
theorem dX11_letIn_37 : decode cX11_letIn 37 = .ok (.ifCond .ne 18, 3) := by decide +kernel
theorem dX11_letIn_40 : decode cX11_letIn 40 = .ok (.aload_n 0, 1) := by decide +kernel
theorem dX11_letIn_41 : decode cX11_letIn 41 = .ok (.iload_n 2, 1) := by decide +kernel
theorem dX11_letIn_42 : decode cX11_letIn 42 = .ok (.iload_n 1, 1) := by decide +kernel
theorem dX11_letIn_43 : decode cX11_letIn 43 = .ok (.invokevirtual 347, 3) := by decide +kernel
theorem dX11_letIn_46 : decode cX11_letIn 46 = .ok (.ifCond .eq 9, 3) := by decide +kernel
theorem dX11_letIn_49 : decode cX11_letIn 49 = .ok (.iload_n 1, 1) := by decide +kernel
theorem dX11_letIn_50 : decode cX11_letIn 50 = .ok (.iconst 1, 1) := by decide +kernel
theorem dX11_letIn_51 : decode cX11_letIn 51 = .ok (.iload_n 2, 1) := by decide +kernel
theorem dX11_letIn_52 : decode cX11_letIn 52 = .ok (.ishl, 1) := by decide +kernel
theorem dX11_letIn_53 : decode cX11_letIn 53 = .ok (.ior, 1) := by decide +kernel
theorem dX11_letIn_54 : decode cX11_letIn 54 = .ok (.istore_n 1, 1) := by decide +kernel
theorem dX11_letIn_55 : decode cX11_letIn 55 = .ok (.iinc 2 1, 3) := by decide +kernel
theorem dX11_letIn_58 : decode cX11_letIn 58 = .ok (.goto (-42), 3) := by decide +kernel
theorem dX11_letIn_61 : decode cX11_letIn 61 = .ok (.iload_n 1, 1) := by decide +kernel
theorem dX11_letIn_62 : decode cX11_letIn 62 = .ok (.ireturn, 1) := by decide +kernel
theorem dX11_comes_0 : decode cX11_comes 0 = .ok (.aload_n 0, 1) := by decide +kernel
theorem dX11_comes_1 : decode cX11_comes 1 = .ok (.iload_n 1, 1) := by decide +kernel
theorem dX11_comes_2 : decode cX11_comes 2 = .ok (.invokevirtual 312, 3) := by decide +kernel
theorem dX11_comes_5 : decode cX11_comes 5 = .ok (.iload_n 2, 1) := by decide +kernel
theorem dX11_comes_6 : decode cX11_comes 6 = .ok (.iadd, 1) := by decide +kernel
theorem dX11_comes_7 : decode cX11_comes 7 = .ok (.istore_n 3, 1) := by decide +kernel
theorem dX11_comes_8 : decode cX11_comes 8 = .ok (.aload_n 0, 1) := by decide +kernel
theorem dX11_comes_9 : decode cX11_comes 9 = .ok (.getfield 39, 3) := by decide +kernel
theorem dX11_comes_12 : decode cX11_comes 12 = .ok (.bipush 11, 2) := by decide +kernel
theorem dX11_comes_14 : decode cX11_comes 14 = .ok (.iconst 5, 1) := by decide +kernel
theorem dX11_comes_15 : decode cX11_comes 15 = .ok (.iload_n 1, 1) := by decide +kernel
theorem dX11_comes_16 : decode cX11_comes 16 = .ok (.imul, 1) := by decide +kernel
theorem dX11_comes_17 : decode cX11_comes 17 = .ok (.iadd, 1) := by decide +kernel
theorem dX11_comes_18 : decode cX11_comes 18 = .ok (.iload_n 3, 1) := by decide +kernel
theorem dX11_comes_19 : decode cX11_comes 19 = .ok (.sipush 999, 3) := by decide +kernel
theorem dX11_comes_22 : decode cX11_comes 22 = .ok (.if_icmp .le 9, 3) := by decide +kernel
theorem dX11_comes_25 : decode cX11_comes 25 = .ok (.sipush 999, 3) := by decide +kernel
theorem dX11_comes_28 : decode cX11_comes 28 = .ok (.goto 4, 3) := by decide +kernel
theorem dX11_comes_31 : decode cX11_comes 31 = .ok (.iload_n 3, 1) := by decide +kernel
theorem dX11_comes_32 : decode cX11_comes 32 = .ok (.iastore, 1) := by decide +kernel
theorem dX11_comes_33 : decode cX11_comes 33 = .ok (.return_, 1) := by decide +kernel
theorem dX11_goes_0 : decode cX11_goes 0 = .ok (.aload_n 0, 1) := by decide +kernel
theorem dX11_goes_1 : decode cX11_goes 1 = .ok (.iload_n 1, 1) := by decide +kernel
theorem dX11_goes_2 : decode cX11_goes 2 = .ok (.invokevirtual 312, 3) := by decide +kernel
theorem dX11_goes_5 : decode cX11_goes 5 = .ok (.aload_n 0, 1) := by decide +kernel
theorem dX11_goes_6 : decode cX11_goes 6 = .ok (.getfield 39, 3) := by decide +kernel
theorem dX11_goes_9 : decode cX11_goes 9 = .ok (.iconst 2, 1) := by decide +kernel
theorem dX11_goes_10 : decode cX11_goes 10 = .ok (.iaload, 1) := by decide +kernel
theorem dX11_goes_11 : decode cX11_goes 11 = .ok (.if_icmp .ge 11, 3) := by decide +kernel
theorem dX11_goes_14 : decode cX11_goes 14 = .ok (.aload_n 0, 1) := by decide +kernel
theorem dX11_goes_15 : decode cX11_goes 15 = .ok (.iload_n 1, 1) := by decide +kernel
theorem dX11_goes_16 : decode cX11_goes 16 = .ok (.invokevirtual 312, 3) := by decide +kernel
theorem dX11_goes_19 : decode cX11_goes 19 = .ok (.goto 9, 3) := by decide +kernel
theorem dX11_goes_22 : decode cX11_goes 22 = .ok (.aload_n 0, 1) := by decide +kernel
theorem dX11_goes_23 : decode cX11_goes 23 = .ok (.getfield 39, 3) := by decide +kernel
theorem dX11_goes_26 : decode cX11_goes 26 = .ok (.iconst 2, 1) := by decide +kernel
theorem dX11_goes_27 : decode cX11_goes 27 = .ok (.iaload, 1) := by decide +kernel
theorem dX11_goes_28 : decode cX11_goes 28 = .ok (.istore_n 2, 1) := by decide +kernel
theorem dX11_goes_29 : decode cX11_goes 29 = .ok (.aload_n 0, 1) := by decide +kernel
theorem dX11_goes_30 : decode cX11_goes 30 = .ok (.getfield 39, 3) := by decide +kernel
theorem dX11_goes_33 : decode cX11_goes 33 = .ok (.bipush 11, 2) := by decide +kernel
theorem dX11_goes_35 : decode cX11_goes 35 = .ok (.iconst 5, 1) := by decide +kernel
theorem dX11_goes_36 : decode cX11_goes 36 = .ok (.iload_n 1, 1) := by decide +kernel
theorem dX11_goes_37 : decode cX11_goes 37 = .ok (.imul, 1) := by decide +kernel
theorem dX11_goes_38 : decode cX11_goes 38 = .ok (.iadd, 1) := by decide +kernel
theorem dX11_goes_39 : decode cX11_goes 39 = .ok (.dup2, 1) := by decide +kernel
theorem dX11_goes_40 : decode cX11_goes 40 = .ok (.iaload, 1) := by decide +kernel
theorem dX11_goes_41 : decode cX11_goes 41 = .ok (.iload_n 2, 1) := by decide +kernel
theorem dX11_goes_42 : decode cX11_goes 42 = .ok (.isub, 1) := by decide +kernel
theorem dX11_goes_43 : decode cX11_goes 43 = .ok (.iastore, 1) := by decide +kernel
theorem dX11_goes_44 : decode cX11_goes 44 = .ok (.aload_n 0, 1) := by decide +kernel
theorem dX11_goes_45 : decode cX11_goes 45 = .ok (.getfield 39, 3) := by decide +kernel
theorem dX11_goes_48 : decode cX11_goes 48 = .ok (.bipush 11, 2) := by decide +kernel
theorem dX11_goes_50 : decode cX11_goes 50 = .ok (.iconst 5, 1) := by decide +kernel
theorem dX11_goes_51 : decode cX11_goes 51 = .ok (.iload_n 1, 1) := by decide +kernel
theorem dX11_goes_52 : decode cX11_goes 52 = .ok (.imul, 1) := by decide +kernel
theorem dX11_goes_53 : decode cX11_goes 53 = .ok (.iadd, 1) := by decide +kernel
theorem dX11_goes_54 : decode cX11_goes 54 = .ok (.iconst 2, 1) := by decide +kernel
theorem dX11_goes_55 : decode cX11_goes 55 = .ok (.iadd, 1) := by decide +kernel
theorem dX11_goes_56 : decode cX11_goes 56 = .ok (.dup2, 1) := by decide +kernel
theorem dX11_goes_57 : decode cX11_goes 57 = .ok (.iaload, 1) := by decide +kernel
theorem dX11_goes_58 : decode cX11_goes 58 = .ok (.iload_n 2, 1) := by decide +kernel
theorem dX11_goes_59 : decode cX11_goes 59 = .ok (.iadd, 1) := by decide +kernel
theorem dX11_goes_60 : decode cX11_goes 60 = .ok (.iastore, 1) := by decide +kernel
theorem dX11_goes_61 : decode cX11_goes 61 = .ok (.iload_n 2, 1) := by decide +kernel
theorem dX11_goes_62 : decode cX11_goes 62 = .ok (.ireturn, 1) := by decide +kernel
theorem dX11_sounds_0 : decode cX11_sounds 0 = .ok (.iconst 0, 1) := by decide +kernel
theorem dX11_sounds_1 : decode cX11_sounds 1 = .ok (.istore_n 1, 1) := by decide +kernel
theorem dX11_sounds_2 : decode cX11_sounds 2 = .ok (.iconst 0, 1) := by decide +kernel
theorem dX11_sounds_3 : decode cX11_sounds 3 = .ok (.istore_n 2, 1) := by decide +kernel
theorem dX11_sounds_4 : decode cX11_sounds 4 = .ok (.iload_n 2, 1) := by decide +kernel
theorem dX11_sounds_5 : decode cX11_sounds 5 = .ok (.aload_n 0, 1) := by decide +kernel
theorem dX11_sounds_6 : decode cX11_sounds 6 = .ok (.getfield 39, 3) := by decide +kernel
theorem dX11_sounds_9 : decode cX11_sounds 9 = .ok (.iconst 3, 1) := by decide +kernel
theorem dX11_sounds_10 : decode cX11_sounds 10 = .ok (.iaload, 1) := by decide +kernel
theorem dX11_sounds_11 : decode cX11_sounds 11 = .ok (.if_icmp .ge 28, 3) := by decide +kernel
theorem dX11_sounds_14 : decode cX11_sounds 14 = .ok (.iload_n 1, 1) := by decide +kernel
theorem dX11_sounds_15 : decode cX11_sounds 15 = .ok (.aload_n 0, 1) := by decide +kernel
theorem dX11_sounds_16 : decode cX11_sounds 16 = .ok (.getfield 52, 3) := by decide +kernel
theorem dX11_sounds_19 : decode cX11_sounds 19 = .ok (.iload_n 2, 1) := by decide +kernel
theorem dX11_sounds_20 : decode cX11_sounds 20 = .ok (.iaload, 1) := by decide +kernel
theorem dX11_sounds_21 : decode cX11_sounds 21 = .ok (.ifCond .le 9, 3) := by decide +kernel
theorem dX11_sounds_24 : decode cX11_sounds 24 = .ok (.iconst 1, 1) := by decide +kernel
theorem dX11_sounds_25 : decode cX11_sounds 25 = .ok (.iload_n 2, 1) := by decide +kernel
theorem dX11_sounds_26 : decode cX11_sounds 26 = .ok (.ishl, 1) := by decide +kernel
theorem dX11_sounds_27 : decode cX11_sounds 27 = .ok (.goto 4, 3) := by decide +kernel
theorem dX11_sounds_30 : decode cX11_sounds 30 = .ok (.iconst 0, 1) := by decide +kernel
theorem dX11_sounds_31 : decode cX11_sounds 31 = .ok (.ior, 1) := by decide +kernel
theorem dX11_sounds_32 : decode cX11_sounds 32 = .ok (.istore_n 1, 1) := by decide +kernel
theorem dX11_sounds_33 : decode cX11_sounds 33 = .ok (.iinc 2 1, 3) := by decide +kernel
theorem dX11_sounds_36 : decode cX11_sounds 36 = .ok (.goto (-32), 3) := by decide +kernel
theorem dX11_sounds_39 : decode cX11_sounds 39 = .ok (.aload_n 0, 1) := by decide +kernel
theorem dX11_sounds_40 : decode cX11_sounds 40 = .ok (.getfield 39, 3) := by decide +kernel
theorem dX11_sounds_43 : decode cX11_sounds 43 = .ok (.bipush 53, 2) := by decide +kernel
theorem dX11_sounds_45 : decode cX11_sounds 45 = .ok (.iaload, 1) := by decide +kernel
theorem dX11_sounds_46 : decode cX11_sounds 46 = .ok (.aload_n 0, 1) := by decide +kernel
theorem dX11_sounds_47 : decode cX11_sounds 47 = .ok (.iload_n 1, 1) := by decide +kernel
theorem dX11_sounds_48 : decode cX11_sounds 48 = .ok (.invokevirtual 337, 3) := by decide +kernel
theorem dX11_sounds_51 : decode cX11_sounds 51 = .ok (.iadd, 1) := by decide +kernel
theorem dX11_sounds_52 : decode cX11_sounds 52 = .ok (.istore_n 2, 1) := by decide +kernel
theorem dX11_sounds_53 : decode cX11_sounds 53 = .ok (.aload_n 0, 1) := by decide +kernel
theorem dX11_sounds_54 : decode cX11_sounds 54 = .ok (.getfield 39, 3) := by decide +kernel
theorem dX11_sounds_57 : decode cX11_sounds 57 = .ok (.bipush 53, 2) := by decide +kernel
theorem dX11_sounds_59 : decode cX11_sounds 59 = .ok (.iload_n 2, 1) := by decide +kernel
theorem dX11_sounds_60 : decode cX11_sounds 60 = .ok (.sipush 9999, 3) := by decide +kernel
theorem dX11_sounds_63 : decode cX11_sounds 63 = .ok (.if_icmp .le 9, 3) := by decide +kernel
theorem dX11_sounds_66 : decode cX11_sounds 66 = .ok (.sipush 9999, 3) := by decide +kernel
theorem dX11_sounds_69 : decode cX11_sounds 69 = .ok (.goto 17, 3) := by decide +kernel
theorem dX11_sounds_72 : decode cX11_sounds 72 = .ok (.iload_n 2, 1) := by decide +kernel
theorem dX11_sounds_73 : decode cX11_sounds 73 = .ok (.sipush (-9999), 3) := by decide +kernel
theorem dX11_sounds_76 : decode cX11_sounds 76 = .ok (.if_icmp .ge 9, 3) := by decide +kernel
theorem dX11_sounds_79 : decode cX11_sounds 79 = .ok (.sipush (-9999), 3) := by decide +kernel
theorem dX11_sounds_82 : decode cX11_sounds 82 = .ok (.goto 4, 3) := by decide +kernel
theorem dX11_sounds_85 : decode cX11_sounds 85 = .ok (.iload_n 2, 1) := by decide +kernel
theorem dX11_sounds_86 : decode cX11_sounds 86 = .ok (.iastore, 1) := by decide +kernel
theorem dX11_sounds_87 : decode cX11_sounds 87 = .ok (.return_, 1) := by decide +kernel
theorem dX11_passes_0 : decode cX11_passes 0 = .ok (.iconst 0, 1) := by decide +kernel
theorem dX11_passes_1 : decode cX11_passes 1 = .ok (.istore_n 1, 1) := by decide +kernel
theorem dX11_passes_2 : decode cX11_passes 2 = .ok (.iload_n 1, 1) := by decide +kernel
theorem dX11_passes_3 : decode cX11_passes 3 = .ok (.aload_n 0, 1) := by decide +kernel
theorem dX11_passes_4 : decode cX11_passes 4 = .ok (.getfield 39, 3) := by decide +kernel
theorem dX11_passes_7 : decode cX11_passes 7 = .ok (.iconst 3, 1) := by decide +kernel
theorem dX11_passes_8 : decode cX11_passes 8 = .ok (.iaload, 1) := by decide +kernel
theorem dX11_passes_9 : decode cX11_passes 9 = .ok (.if_icmp .ge 43, 3) := by decide +kernel
theorem dX11_passes_12 : decode cX11_passes 12 = .ok (.iload_n 1, 1) := by decide +kernel
theorem dX11_passes_13 : decode cX11_passes 13 = .ok (.aload_n 0, 1) := by decide +kernel
theorem dX11_passes_14 : decode cX11_passes 14 = .ok (.getfield 46, 3) := by decide +kernel
theorem dX11_passes_17 : decode cX11_passes 17 = .ok (.if_icmp .eq 29, 3) := by decide +kernel
theorem dX11_passes_20 : decode cX11_passes 20 = .ok (.aload_n 0, 1) := by decide +kernel
theorem dX11_passes_21 : decode cX11_passes 21 = .ok (.getfield 39, 3) := by decide +kernel
theorem dX11_passes_24 : decode cX11_passes 24 = .ok (.bipush 10, 2) := by decide +kernel
theorem dX11_passes_26 : decode cX11_passes 26 = .ok (.iaload, 1) := by decide +kernel
theorem dX11_passes_27 : decode cX11_passes 27 = .ok (.aload_n 0, 1) := by decide +kernel
theorem dX11_passes_28 : decode cX11_passes 28 = .ok (.getfield 39, 3) := by decide +kernel
theorem dX11_passes_31 : decode cX11_passes 31 = .ok (.bipush 54, 2) := by decide +kernel
theorem dX11_passes_33 : decode cX11_passes 33 = .ok (.iload_n 1, 1) := by decide +kernel
theorem dX11_passes_34 : decode cX11_passes 34 = .ok (.iadd, 1) := by decide +kernel
theorem dX11_passes_35 : decode cX11_passes 35 = .ok (.iaload, 1) := by decide +kernel
theorem dX11_passes_36 : decode cX11_passes 36 = .ok (.irem, 1) := by decide +kernel
theorem dX11_passes_37 : decode cX11_passes 37 = .ok (.ifCond .ne 9, 3) := by decide +kernel
theorem dX11_passes_40 : decode cX11_passes 40 = .ok (.aload_n 0, 1) := by decide +kernel
theorem dX11_passes_41 : decode cX11_passes 41 = .ok (.iload_n 1, 1) := by decide +kernel
theorem dX11_passes_42 : decode cX11_passes 42 = .ok (.iconst 1, 1) := by decide +kernel
theorem dX11_passes_43 : decode cX11_passes 43 = .ok (.invokevirtual 350, 3) := by decide +kernel
theorem dX11_passes_46 : decode cX11_passes 46 = .ok (.iinc 1 1, 3) := by decide +kernel
theorem dX11_passes_49 : decode cX11_passes 49 = .ok (.goto (-47), 3) := by decide +kernel
theorem dX11_passes_52 : decode cX11_passes 52 = .ok (.aload_n 0, 1) := by decide +kernel
theorem dX11_passes_53 : decode cX11_passes 53 = .ok (.invokevirtual 353, 3) := by decide +kernel
theorem dX11_passes_56 : decode cX11_passes 56 = .ok (.istore_n 1, 1) := by decide +kernel
theorem dX11_passes_57 : decode cX11_passes 57 = .ok (.iconst 0, 1) := by decide +kernel
theorem dX11_passes_58 : decode cX11_passes 58 = .ok (.istore_n 2, 1) := by decide +kernel
theorem dX11_passes_59 : decode cX11_passes 59 = .ok (.iload_n 2, 1) := by decide +kernel
theorem dX11_passes_60 : decode cX11_passes 60 = .ok (.aload_n 0, 1) := by decide +kernel
theorem dX11_passes_61 : decode cX11_passes 61 = .ok (.getfield 39, 3) := by decide +kernel
theorem dX11_passes_64 : decode cX11_passes 64 = .ok (.iconst 3, 1) := by decide +kernel
theorem dX11_passes_65 : decode cX11_passes 65 = .ok (.iaload, 1) := by decide +kernel
theorem dX11_passes_66 : decode cX11_passes 66 = .ok (.if_icmp .ge 60, 3) := by decide +kernel
theorem dX11_passes_69 : decode cX11_passes 69 = .ok (.aload_n 0, 1) := by decide +kernel
theorem dX11_passes_70 : decode cX11_passes 70 = .ok (.getfield 52, 3) := by decide +kernel
theorem dX11_passes_73 : decode cX11_passes 73 = .ok (.iload_n 2, 1) := by decide +kernel
theorem dX11_passes_74 : decode cX11_passes 74 = .ok (.iload_n 1, 1) := by decide +kernel
theorem dX11_passes_75 : decode cX11_passes 75 = .ok (.iload_n 2, 1) := by decide +kernel
theorem dX11_passes_76 : decode cX11_passes 76 = .ok (.invokestatic 297, 3) := by decide +kernel
theorem dX11_passes_79 : decode cX11_passes 79 = .ok (.ifCond .eq 11, 3) := by decide +kernel
theorem dX11_passes_82 : decode cX11_passes 82 = .ok (.aload_n 0, 1) := by decide +kernel
theorem dX11_passes_83 : decode cX11_passes 83 = .ok (.iload_n 2, 1) := by decide +kernel
theorem dX11_passes_84 : decode cX11_passes 84 = .ok (.invokevirtual 356, 3) := by decide +kernel
theorem dX11_passes_87 : decode cX11_passes 87 = .ok (.goto 4, 3) := by decide +kernel
theorem dX11_passes_90 : decode cX11_passes 90 = .ok (.iconst 0, 1) := by decide +kernel
theorem dX11_passes_91 : decode cX11_passes 91 = .ok (.iastore, 1) := by decide +kernel
theorem dX11_passes_92 : decode cX11_passes 92 = .ok (.iload_n 1, 1) := by decide +kernel
theorem dX11_passes_93 : decode cX11_passes 93 = .ok (.iload_n 2, 1) := by decide +kernel
theorem dX11_passes_94 : decode cX11_passes 94 = .ok (.invokestatic 297, 3) := by decide +kernel
theorem dX11_passes_97 : decode cX11_passes 97 = .ok (.ifCond .eq 23, 3) := by decide +kernel
theorem dX11_passes_100 : decode cX11_passes 100 = .ok (.aload_n 0, 1) := by decide +kernel
theorem dX11_passes_101 : decode cX11_passes 101 = .ok (.getfield 39, 3) := by decide +kernel
theorem dX11_passes_104 : decode cX11_passes 104 = .ok (.bipush 11, 2) := by decide +kernel
theorem dX11_passes_106 : decode cX11_passes 106 = .ok (.iconst 5, 1) := by decide +kernel
theorem dX11_passes_107 : decode cX11_passes 107 = .ok (.iload_n 2, 1) := by decide +kernel
theorem dX11_passes_108 : decode cX11_passes 108 = .ok (.imul, 1) := by decide +kernel
theorem dX11_passes_109 : decode cX11_passes 109 = .ok (.iadd, 1) := by decide +kernel
theorem dX11_passes_110 : decode cX11_passes 110 = .ok (.iconst 4, 1) := by decide +kernel
theorem dX11_passes_111 : decode cX11_passes 111 = .ok (.iadd, 1) := by decide +kernel
theorem dX11_passes_112 : decode cX11_passes 112 = .ok (.aload_n 0, 1) := by decide +kernel
theorem dX11_passes_113 : decode cX11_passes 113 = .ok (.getfield 39, 3) := by decide +kernel
theorem dX11_passes_116 : decode cX11_passes 116 = .ok (.bipush 10, 2) := by decide +kernel
theorem dX11_passes_118 : decode cX11_passes 118 = .ok (.iaload, 1) := by decide +kernel
theorem dX11_passes_119 : decode cX11_passes 119 = .ok (.iastore, 1) := by decide +kernel
theorem dX11_passes_120 : decode cX11_passes 120 = .ok (.iinc 2 1, 3) := by decide +kernel
theorem dX11_passes_123 : decode cX11_passes 123 = .ok (.goto (-64), 3) := by decide +kernel
theorem dX11_passes_126 : decode cX11_passes 126 = .ok (.aload_n 0, 1) := by decide +kernel
theorem dX11_passes_127 : decode cX11_passes 127 = .ok (.invokevirtual 359, 3) := by decide +kernel
theorem dX11_passes_130 : decode cX11_passes 130 = .ok (.iconst 0, 1) := by decide +kernel
theorem dX11_passes_131 : decode cX11_passes 131 = .ok (.istore_n 2, 1) := by decide +kernel
theorem dX11_passes_132 : decode cX11_passes 132 = .ok (.iload_n 2, 1) := by decide +kernel
theorem dX11_passes_133 : decode cX11_passes 133 = .ok (.aload_n 0, 1) := by decide +kernel
theorem dX11_passes_134 : decode cX11_passes 134 = .ok (.getfield 39, 3) := by decide +kernel
theorem dX11_passes_137 : decode cX11_passes 137 = .ok (.iconst 3, 1) := by decide +kernel
theorem dX11_passes_138 : decode cX11_passes 138 = .ok (.iaload, 1) := by decide +kernel
theorem dX11_passes_139 : decode cX11_passes 139 = .ok (.if_icmp .ge 46, 3) := by decide +kernel
theorem dX11_passes_142 : decode cX11_passes 142 = .ok (.aload_n 0, 1) := by decide +kernel
theorem dX11_passes_143 : decode cX11_passes 143 = .ok (.iload_n 2, 1) := by decide +kernel
theorem dX11_passes_144 : decode cX11_passes 144 = .ok (.invokevirtual 318, 3) := by decide +kernel
theorem dX11_passes_147 : decode cX11_passes 147 = .ok (.aload_n 0, 1) := by decide +kernel
theorem dX11_passes_148 : decode cX11_passes 148 = .ok (.iload_n 2, 1) := by decide +kernel
theorem dX11_passes_149 : decode cX11_passes 149 = .ok (.invokevirtual 312, 3) := by decide +kernel
theorem dX11_passes_152 : decode cX11_passes 152 = .ok (.iadd, 1) := by decide +kernel
theorem dX11_passes_153 : decode cX11_passes 153 = .ok (.istore_n 3, 1) := by decide +kernel
theorem dX11_passes_154 : decode cX11_passes 154 = .ok (.aload_n 0, 1) := by decide +kernel
theorem dX11_passes_155 : decode cX11_passes 155 = .ok (.getfield 39, 3) := by decide +kernel
theorem dX11_passes_158 : decode cX11_passes 158 = .ok (.bipush 11, 2) := by decide +kernel
theorem dX11_passes_160 : decode cX11_passes 160 = .ok (.iconst 5, 1) := by decide +kernel
theorem dX11_passes_161 : decode cX11_passes 161 = .ok (.iload_n 2, 1) := by decide +kernel
theorem dX11_passes_162 : decode cX11_passes 162 = .ok (.imul, 1) := by decide +kernel
theorem dX11_passes_163 : decode cX11_passes 163 = .ok (.iadd, 1) := by decide +kernel
theorem dX11_passes_164 : decode cX11_passes 164 = .ok (.iconst 3, 1) := by decide +kernel
theorem dX11_passes_165 : decode cX11_passes 165 = .ok (.iadd, 1) := by decide +kernel
theorem dX11_passes_166 : decode cX11_passes 166 = .ok (.iload_n 3, 1) := by decide +kernel
theorem dX11_passes_167 : decode cX11_passes 167 = .ok (.ldc 178, 2) := by decide +kernel
theorem dX11_passes_169 : decode cX11_passes 169 = .ok (.if_icmp .le 8, 3) := by decide +kernel
theorem dX11_passes_172 : decode cX11_passes 172 = .ok (.ldc 178, 2) := by decide +kernel
theorem dX11_passes_174 : decode cX11_passes 174 = .ok (.goto 4, 3) := by decide +kernel
theorem dX11_passes_177 : decode cX11_passes 177 = .ok (.iload_n 3, 1) := by decide +kernel
theorem dX11_passes_178 : decode cX11_passes 178 = .ok (.iastore, 1) := by decide +kernel
theorem dX11_passes_179 : decode cX11_passes 179 = .ok (.iinc 2 1, 3) := by decide +kernel
theorem dX11_passes_182 : decode cX11_passes 182 = .ok (.goto (-50), 3) := by decide +kernel
theorem dX11_passes_185 : decode cX11_passes 185 = .ok (.aload_n 0, 1) := by decide +kernel
theorem dX11_passes_186 : decode cX11_passes 186 = .ok (.getfield 39, 3) := by decide +kernel
theorem dX11_passes_189 : decode cX11_passes 189 = .ok (.bipush 10, 2) := by decide +kernel
theorem dX11_passes_191 : decode cX11_passes 191 = .ok (.dup2, 1) := by decide +kernel
theorem dX11_passes_192 : decode cX11_passes 192 = .ok (.iaload, 1) := by decide +kernel
theorem dX11_passes_193 : decode cX11_passes 193 = .ok (.iconst 1, 1) := by decide +kernel
theorem dX11_passes_194 : decode cX11_passes 194 = .ok (.iadd, 1) := by decide +kernel
theorem dX11_passes_195 : decode cX11_passes 195 = .ok (.iastore, 1) := by decide +kernel
theorem dX11_passes_196 : decode cX11_passes 196 = .ok (.iload_n 1, 1) := by decide +kernel
theorem dX11_passes_197 : decode cX11_passes 197 = .ok (.ireturn, 1) := by decide +kernel
theorem dX11_passesAll_0 : decode cX11_passesAll 0 = .ok (.iconst 0, 1) := by decide +kernel
theorem dX11_passesAll_1 : decode cX11_passesAll 1 = .ok (.istore_n 2, 1) := by decide +kernel
theorem dX11_passesAll_2 : decode cX11_passesAll 2 = .ok (.iload_n 2, 1) := by decide +kernel
theorem dX11_passesAll_3 : decode cX11_passesAll 3 = .ok (.iload_n 1, 1) := by decide +kernel
theorem dX11_passesAll_4 : decode cX11_passesAll 4 = .ok (.if_icmp .ge 14, 3) := by decide +kernel
theorem dX11_passesAll_7 : decode cX11_passesAll 7 = .ok (.aload_n 0, 1) := by decide +kernel
theorem dX11_passesAll_8 : decode cX11_passesAll 8 = .ok (.invokevirtual 362, 3) := by decide +kernel
theorem dX11_passesAll_11 : decode cX11_passesAll 11 = .ok (.pop, 1) := by decide +kernel
theorem dX11_passesAll_12 : decode cX11_passesAll 12 = .ok (.iinc 2 1, 3) := by decide +kernel
theorem dX11_passesAll_15 : decode cX11_passesAll 15 = .ok (.goto (-13), 3) := by decide +kernel
theorem dX11_passesAll_18 : decode cX11_passesAll 18 = .ok (.return_, 1) := by decide +kernel
theorem dX11_keepsAct_0 : decode cX11_keepsAct 0 = .ok (.aload_n 0, 1) := by decide +kernel
theorem dX11_keepsAct_1 : decode cX11_keepsAct 1 = .ok (.getfield 276, 3) := by decide +kernel
theorem dX11_keepsAct_4 : decode cX11_keepsAct 4 = .ok (.bipush 20, 2) := by decide +kernel
theorem dX11_keepsAct_6 : decode cX11_keepsAct 6 = .ok (.if_icmp .ne 44, 3) := by decide +kernel
theorem dX11_keepsAct_9 : decode cX11_keepsAct 9 = .ok (.bipush 44, 2) := by decide +kernel
theorem dX11_keepsAct_11 : decode cX11_keepsAct 11 = .ok (.istore_n 1, 1) := by decide +kernel
theorem dX11_keepsAct_12 : decode cX11_keepsAct 12 = .ok (.iload_n 1, 1) := by decide +kernel
theorem dX11_keepsAct_13 : decode cX11_keepsAct 13 = .ok (.sipush 880, 3) := by decide +kernel
theorem dX11_keepsAct_16 : decode cX11_keepsAct 16 = .ok (.if_icmp .ge 24, 3) := by decide +kernel
theorem dX11_keepsAct_19 : decode cX11_keepsAct 19 = .ok (.aload_n 0, 1) := by decide +kernel
theorem dX11_keepsAct_20 : decode cX11_keepsAct 20 = .ok (.getfield 55, 3) := by decide +kernel
theorem dX11_keepsAct_23 : decode cX11_keepsAct 23 = .ok (.iload_n 1, 1) := by decide +kernel
theorem dX11_keepsAct_24 : decode cX11_keepsAct 24 = .ok (.bipush 44, 2) := by decide +kernel
theorem dX11_keepsAct_26 : decode cX11_keepsAct 26 = .ok (.isub, 1) := by decide +kernel
theorem dX11_keepsAct_27 : decode cX11_keepsAct 27 = .ok (.aload_n 0, 1) := by decide +kernel
theorem dX11_keepsAct_28 : decode cX11_keepsAct 28 = .ok (.getfield 55, 3) := by decide +kernel
theorem dX11_keepsAct_31 : decode cX11_keepsAct 31 = .ok (.iload_n 1, 1) := by decide +kernel
theorem dX11_keepsAct_32 : decode cX11_keepsAct 32 = .ok (.iaload, 1) := by decide +kernel
theorem dX11_keepsAct_33 : decode cX11_keepsAct 33 = .ok (.iastore, 1) := by decide +kernel
theorem dX11_keepsAct_34 : decode cX11_keepsAct 34 = .ok (.iinc 1 1, 3) := by decide +kernel
theorem dX11_keepsAct_37 : decode cX11_keepsAct 37 = .ok (.goto (-25), 3) := by decide +kernel
theorem dX11_keepsAct_40 : decode cX11_keepsAct 40 = .ok (.aload_n 0, 1) := by decide +kernel
theorem dX11_keepsAct_41 : decode cX11_keepsAct 41 = .ok (.dup, 1) := by decide +kernel
theorem dX11_keepsAct_42 : decode cX11_keepsAct 42 = .ok (.getfield 276, 3) := by decide +kernel
theorem dX11_keepsAct_45 : decode cX11_keepsAct 45 = .ok (.iconst 1, 1) := by decide +kernel
theorem dX11_keepsAct_46 : decode cX11_keepsAct 46 = .ok (.isub, 1) := by decide +kernel
theorem dX11_keepsAct_47 : decode cX11_keepsAct 47 = .ok (.putfield 276, 3) := by decide +kernel
theorem dX11_keepsAct_50 : decode cX11_keepsAct 50 = .ok (.iconst 0, 1) := by decide +kernel
theorem dX11_keepsAct_51 : decode cX11_keepsAct 51 = .ok (.istore_n 1, 1) := by decide +kernel
theorem dX11_keepsAct_52 : decode cX11_keepsAct 52 = .ok (.iload_n 1, 1) := by decide +kernel
theorem dX11_keepsAct_53 : decode cX11_keepsAct 53 = .ok (.bipush 44, 2) := by decide +kernel
theorem dX11_keepsAct_55 : decode cX11_keepsAct 55 = .ok (.if_icmp .ge 32, 3) := by decide +kernel
theorem dX11_keepsAct_58 : decode cX11_keepsAct 58 = .ok (.aload_n 0, 1) := by decide +kernel
theorem dX11_keepsAct_59 : decode cX11_keepsAct 59 = .ok (.getfield 55, 3) := by decide +kernel
theorem dX11_keepsAct_62 : decode cX11_keepsAct 62 = .ok (.bipush 44, 2) := by decide +kernel
theorem dX11_keepsAct_64 : decode cX11_keepsAct 64 = .ok (.aload_n 0, 1) := by decide +kernel
theorem dX11_keepsAct_65 : decode cX11_keepsAct 65 = .ok (.getfield 276, 3) := by decide +kernel
theorem dX11_keepsAct_68 : decode cX11_keepsAct 68 = .ok (.imul, 1) := by decide +kernel
theorem dX11_keepsAct_69 : decode cX11_keepsAct 69 = .ok (.iload_n 1, 1) := by decide +kernel
theorem dX11_keepsAct_70 : decode cX11_keepsAct 70 = .ok (.iadd, 1) := by decide +kernel
theorem dX11_keepsAct_71 : decode cX11_keepsAct 71 = .ok (.aload_n 0, 1) := by decide +kernel
theorem dX11_keepsAct_72 : decode cX11_keepsAct 72 = .ok (.getfield 39, 3) := by decide +kernel
theorem dX11_keepsAct_75 : decode cX11_keepsAct 75 = .ok (.bipush 10, 2) := by decide +kernel
theorem dX11_keepsAct_77 : decode cX11_keepsAct 77 = .ok (.iload_n 1, 1) := by decide +kernel
theorem dX11_keepsAct_78 : decode cX11_keepsAct 78 = .ok (.iadd, 1) := by decide +kernel
theorem dX11_keepsAct_79 : decode cX11_keepsAct 79 = .ok (.iaload, 1) := by decide +kernel
theorem dX11_keepsAct_80 : decode cX11_keepsAct 80 = .ok (.iastore, 1) := by decide +kernel
theorem dX11_keepsAct_81 : decode cX11_keepsAct 81 = .ok (.iinc 1 1, 3) := by decide +kernel
theorem dX11_keepsAct_84 : decode cX11_keepsAct 84 = .ok (.goto (-32), 3) := by decide +kernel
theorem dX11_keepsAct_87 : decode cX11_keepsAct 87 = .ok (.aload_n 0, 1) := by decide +kernel
theorem dX11_keepsAct_88 : decode cX11_keepsAct 88 = .ok (.dup, 1) := by decide +kernel
theorem dX11_keepsAct_89 : decode cX11_keepsAct 89 = .ok (.getfield 276, 3) := by decide +kernel
theorem dX11_keepsAct_92 : decode cX11_keepsAct 92 = .ok (.iconst 1, 1) := by decide +kernel
theorem dX11_keepsAct_93 : decode cX11_keepsAct 93 = .ok (.iadd, 1) := by decide +kernel
theorem dX11_keepsAct_94 : decode cX11_keepsAct 94 = .ok (.putfield 276, 3) := by decide +kernel
theorem dX11_keepsAct_97 : decode cX11_keepsAct 97 = .ok (.return_, 1) := by decide +kernel
theorem dX11_undo_0 : decode cX11_undo 0 = .ok (.aload_n 0, 1) := by decide +kernel
theorem dX11_undo_1 : decode cX11_undo 1 = .ok (.getfield 276, 3) := by decide +kernel
theorem dX11_undo_4 : decode cX11_undo 4 = .ok (.ifCond .ne 5, 3) := by decide +kernel
theorem dX11_undo_7 : decode cX11_undo 7 = .ok (.iconst (-1), 1) := by decide +kernel
theorem dX11_undo_8 : decode cX11_undo 8 = .ok (.ireturn, 1) := by decide +kernel
theorem dX11_undo_9 : decode cX11_undo 9 = .ok (.aload_n 0, 1) := by decide +kernel
theorem dX11_undo_10 : decode cX11_undo 10 = .ok (.dup, 1) := by decide +kernel
theorem dX11_undo_11 : decode cX11_undo 11 = .ok (.getfield 276, 3) := by decide +kernel
theorem dX11_undo_14 : decode cX11_undo 14 = .ok (.iconst 1, 1) := by decide +kernel
theorem dX11_undo_15 : decode cX11_undo 15 = .ok (.isub, 1) := by decide +kernel
theorem dX11_undo_16 : decode cX11_undo 16 = .ok (.putfield 276, 3) := by decide +kernel
theorem dX11_undo_19 : decode cX11_undo 19 = .ok (.iconst 0, 1) := by decide +kernel
theorem dX11_undo_20 : decode cX11_undo 20 = .ok (.istore_n 1, 1) := by decide +kernel
theorem dX11_undo_21 : decode cX11_undo 21 = .ok (.iload_n 1, 1) := by decide +kernel
theorem dX11_undo_22 : decode cX11_undo 22 = .ok (.bipush 44, 2) := by decide +kernel
theorem dX11_undo_24 : decode cX11_undo 24 = .ok (.if_icmp .ge 32, 3) := by decide +kernel
theorem dX11_undo_27 : decode cX11_undo 27 = .ok (.aload_n 0, 1) := by decide +kernel
theorem dX11_undo_28 : decode cX11_undo 28 = .ok (.getfield 39, 3) := by decide +kernel
theorem dX11_undo_31 : decode cX11_undo 31 = .ok (.bipush 10, 2) := by decide +kernel
theorem dX11_undo_33 : decode cX11_undo 33 = .ok (.iload_n 1, 1) := by decide +kernel
theorem dX11_undo_34 : decode cX11_undo 34 = .ok (.iadd, 1) := by decide +kernel
theorem dX11_undo_35 : decode cX11_undo 35 = .ok (.aload_n 0, 1) := by decide +kernel
theorem dX11_undo_36 : decode cX11_undo 36 = .ok (.getfield 55, 3) := by decide +kernel
theorem dX11_undo_39 : decode cX11_undo 39 = .ok (.bipush 44, 2) := by decide +kernel
theorem dX11_undo_41 : decode cX11_undo 41 = .ok (.aload_n 0, 1) := by decide +kernel
theorem dX11_undo_42 : decode cX11_undo 42 = .ok (.getfield 276, 3) := by decide +kernel
theorem dX11_undo_45 : decode cX11_undo 45 = .ok (.imul, 1) := by decide +kernel
theorem dX11_undo_46 : decode cX11_undo 46 = .ok (.iload_n 1, 1) := by decide +kernel
theorem dX11_undo_47 : decode cX11_undo 47 = .ok (.iadd, 1) := by decide +kernel
theorem dX11_undo_48 : decode cX11_undo 48 = .ok (.iaload, 1) := by decide +kernel
theorem dX11_undo_49 : decode cX11_undo 49 = .ok (.iastore, 1) := by decide +kernel
theorem dX11_undo_50 : decode cX11_undo 50 = .ok (.iinc 1 1, 3) := by decide +kernel
theorem dX11_undo_53 : decode cX11_undo 53 = .ok (.goto (-32), 3) := by decide +kernel
theorem dX11_undo_56 : decode cX11_undo 56 = .ok (.aload_n 0, 1) := by decide +kernel
theorem dX11_undo_57 : decode cX11_undo 57 = .ok (.getfield 276, 3) := by decide +kernel
theorem dX11_undo_60 : decode cX11_undo 60 = .ok (.ireturn, 1) := by decide +kernel
theorem dX11_beat_0 : decode cX11_beat 0 = .ok (.aload_n 0, 1) := by decide +kernel
theorem dX11_beat_1 : decode cX11_beat 1 = .ok (.invokevirtual 294, 3) := by decide +kernel
theorem dX11_beat_4 : decode cX11_beat 4 = .ok (.ifCond .eq 16, 3) := by decide +kernel
theorem dX11_beat_7 : decode cX11_beat 7 = .ok (.aload_n 0, 1) := by decide +kernel
theorem dX11_beat_8 : decode cX11_beat 8 = .ok (.getfield 39, 3) := by decide +kernel
theorem dX11_beat_11 : decode cX11_beat 11 = .ok (.bipush 10, 2) := by decide +kernel
theorem dX11_beat_13 : decode cX11_beat 13 = .ok (.iaload, 1) := by decide +kernel
theorem dX11_beat_14 : decode cX11_beat 14 = .ok (.sipush 999, 3) := by decide +kernel
theorem dX11_beat_17 : decode cX11_beat 17 = .ok (.if_icmp .ne 5, 3) := by decide +kernel
theorem dX11_beat_20 : decode cX11_beat 20 = .ok (.iconst (-1), 1) := by decide +kernel
theorem dX11_beat_21 : decode cX11_beat 21 = .ok (.ireturn, 1) := by decide +kernel
theorem dX11_beat_22 : decode cX11_beat 22 = .ok (.aload_n 0, 1) := by decide +kernel
theorem dX11_beat_23 : decode cX11_beat 23 = .ok (.invokevirtual 365, 3) := by decide +kernel
theorem dX11_beat_26 : decode cX11_beat 26 = .ok (.aload_n 0, 1) := by decide +kernel
theorem dX11_beat_27 : decode cX11_beat 27 = .ok (.invokevirtual 362, 3) := by decide +kernel
theorem dX11_beat_30 : decode cX11_beat 30 = .ok (.ireturn, 1) := by decide +kernel
theorem dX11_come_0 : decode cX11_come 0 = .ok (.aload_n 0, 1) := by decide +kernel
theorem dX11_come_1 : decode cX11_come 1 = .ok (.iload_n 1, 1) := by decide +kernel
theorem dX11_come_2 : decode cX11_come 2 = .ok (.invokevirtual 309, 3) := by decide +kernel
theorem dX11_come_5 : decode cX11_come 5 = .ok (.ifCond .eq 15, 3) := by decide +kernel
theorem dX11_come_8 : decode cX11_come 8 = .ok (.iload_n 2, 1) := by decide +kernel
theorem dX11_come_9 : decode cX11_come 9 = .ok (.i2l, 1) := by decide +kernel
theorem dX11_come_10 : decode cX11_come 10 = .ok (.lconst 1, 1) := by decide +kernel
theorem dX11_come_11 : decode cX11_come 11 = .ok (.ldc2_w 368, 3) := by decide +kernel
theorem dX11_come_14 : decode cX11_come 14 = .ok (.invokestatic 130, 3) := by decide +kernel
theorem dX11_come_17 : decode cX11_come 17 = .ok (.ifCond .ne 5, 3) := by decide +kernel
theorem dX11_come_20 : decode cX11_come 20 = .ok (.iconst (-1), 1) := by decide +kernel
theorem dX11_come_21 : decode cX11_come 21 = .ok (.ireturn, 1) := by decide +kernel
theorem dX11_come_22 : decode cX11_come 22 = .ok (.aload_n 0, 1) := by decide +kernel
theorem dX11_come_23 : decode cX11_come 23 = .ok (.invokevirtual 365, 3) := by decide +kernel
theorem dX11_come_26 : decode cX11_come 26 = .ok (.aload_n 0, 1) := by decide +kernel
theorem dX11_come_27 : decode cX11_come 27 = .ok (.iload_n 1, 1) := by decide +kernel
theorem dX11_come_28 : decode cX11_come 28 = .ok (.iload_n 2, 1) := by decide +kernel
theorem dX11_come_29 : decode cX11_come 29 = .ok (.invokevirtual 350, 3) := by decide +kernel
theorem dX11_come_32 : decode cX11_come 32 = .ok (.aload_n 0, 1) := by decide +kernel
theorem dX11_come_33 : decode cX11_come 33 = .ok (.iload_n 1, 1) := by decide +kernel
theorem dX11_come_34 : decode cX11_come 34 = .ok (.invokevirtual 312, 3) := by decide +kernel
theorem dX11_come_37 : decode cX11_come 37 = .ok (.ireturn, 1) := by decide +kernel
theorem dX11_wave_0 : decode cX11_wave 0 = .ok (.aload_n 0, 1) := by decide +kernel
theorem dX11_wave_1 : decode cX11_wave 1 = .ok (.iload_n 1, 1) := by decide +kernel
theorem dX11_wave_2 : decode cX11_wave 2 = .ok (.invokevirtual 309, 3) := by decide +kernel
theorem dX11_wave_5 : decode cX11_wave 5 = .ok (.ifCond .eq 11, 3) := by decide +kernel
theorem dX11_wave_8 : decode cX11_wave 8 = .ok (.aload_n 0, 1) := by decide +kernel
theorem dX11_wave_9 : decode cX11_wave 9 = .ok (.iload_n 1, 1) := by decide +kernel
theorem dX11_wave_10 : decode cX11_wave 10 = .ok (.invokevirtual 312, 3) := by decide +kernel
theorem dX11_wave_13 : decode cX11_wave 13 = .ok (.ifCond .ne 5, 3) := by decide +kernel
theorem dX11_wave_16 : decode cX11_wave 16 = .ok (.iconst (-1), 1) := by decide +kernel
theorem dX11_wave_17 : decode cX11_wave 17 = .ok (.ireturn, 1) := by decide +kernel
theorem dX11_wave_18 : decode cX11_wave 18 = .ok (.aload_n 0, 1) := by decide +kernel
theorem dX11_wave_19 : decode cX11_wave 19 = .ok (.invokevirtual 365, 3) := by decide +kernel
theorem dX11_wave_22 : decode cX11_wave 22 = .ok (.aload_n 0, 1) := by decide +kernel
theorem dX11_wave_23 : decode cX11_wave 23 = .ok (.iload_n 1, 1) := by decide +kernel
theorem dX11_wave_24 : decode cX11_wave 24 = .ok (.invokevirtual 356, 3) := by decide +kernel
theorem dX11_wave_27 : decode cX11_wave 27 = .ok (.ireturn, 1) := by decide +kernel
theorem dX11_score_0 : decode cX11_score 0 = .ok (.aload_n 0, 1) := by decide +kernel
theorem dX11_score_1 : decode cX11_score 1 = .ok (.iload_n 1, 1) := by decide +kernel
theorem dX11_score_2 : decode cX11_score 2 = .ok (.invokevirtual 324, 3) := by decide +kernel
theorem dX11_score_5 : decode cX11_score 5 = .ok (.ifCond .eq 11, 3) := by decide +kernel
theorem dX11_score_8 : decode cX11_score 8 = .ok (.aload_n 0, 1) := by decide +kernel
theorem dX11_score_9 : decode cX11_score 9 = .ok (.iload_n 2, 1) := by decide +kernel
theorem dX11_score_10 : decode cX11_score 10 = .ok (.invokevirtual 309, 3) := by decide +kernel
theorem dX11_score_13 : decode cX11_score 13 = .ok (.ifCond .ne 5, 3) := by decide +kernel
theorem dX11_score_16 : decode cX11_score 16 = .ok (.iconst (-1), 1) := by decide +kernel
theorem dX11_score_17 : decode cX11_score 17 = .ok (.ireturn, 1) := by decide +kernel
theorem dX11_score_18 : decode cX11_score 18 = .ok (.aload_n 0, 1) := by decide +kernel
theorem dX11_score_19 : decode cX11_score 19 = .ok (.invokevirtual 365, 3) := by decide +kernel
theorem dX11_score_22 : decode cX11_score 22 = .ok (.aload_n 0, 1) := by decide +kernel
theorem dX11_score_23 : decode cX11_score 23 = .ok (.getfield 39, 3) := by decide +kernel
theorem dX11_score_26 : decode cX11_score 26 = .ok (.bipush 41, 2) := by decide +kernel
theorem dX11_score_28 : decode cX11_score 28 = .ok (.iload_n 1, 1) := by decide +kernel
theorem dX11_score_29 : decode cX11_score 29 = .ok (.iadd, 1) := by decide +kernel
theorem dX11_score_30 : decode cX11_score 30 = .ok (.dup2, 1) := by decide +kernel
theorem dX11_score_31 : decode cX11_score 31 = .ok (.iaload, 1) := by decide +kernel
theorem dX11_score_32 : decode cX11_score 32 = .ok (.iconst 1, 1) := by decide +kernel
theorem dX11_score_33 : decode cX11_score 33 = .ok (.iload_n 2, 1) := by decide +kernel
theorem dX11_score_34 : decode cX11_score 34 = .ok (.ishl, 1) := by decide +kernel
theorem dX11_score_35 : decode cX11_score 35 = .ok (.ixor, 1) := by decide +kernel
theorem dX11_score_36 : decode cX11_score 36 = .ok (.iastore, 1) := by decide +kernel
theorem dX11_score_37 : decode cX11_score 37 = .ok (.aload_n 0, 1) := by decide +kernel
theorem dX11_score_38 : decode cX11_score 38 = .ok (.getfield 39, 3) := by decide +kernel
theorem dX11_score_41 : decode cX11_score 41 = .ok (.bipush 41, 2) := by decide +kernel
theorem dX11_score_43 : decode cX11_score 43 = .ok (.iload_n 1, 1) := by decide +kernel
theorem dX11_score_44 : decode cX11_score 44 = .ok (.iadd, 1) := by decide +kernel
theorem dX11_score_45 : decode cX11_score 45 = .ok (.iaload, 1) := by decide +kernel
theorem dX11_score_46 : decode cX11_score 46 = .ok (.iload_n 2, 1) := by decide +kernel
theorem dX11_score_47 : decode cX11_score 47 = .ok (.ishr, 1) := by decide +kernel
theorem dX11_score_48 : decode cX11_score 48 = .ok (.iconst 1, 1) := by decide +kernel
theorem dX11_score_49 : decode cX11_score 49 = .ok (.iand, 1) := by decide +kernel
theorem dX11_score_50 : decode cX11_score 50 = .ok (.ireturn, 1) := by decide +kernel
theorem dX11_tune_0 : decode cX11_tune 0 = .ok (.aload_n 0, 1) := by decide +kernel
theorem dX11_tune_1 : decode cX11_tune 1 = .ok (.iload_n 1, 1) := by decide +kernel
theorem dX11_tune_2 : decode cX11_tune 2 = .ok (.invokevirtual 309, 3) := by decide +kernel
theorem dX11_tune_5 : decode cX11_tune 5 = .ok (.ifCond .eq 24, 3) := by decide +kernel
theorem dX11_tune_8 : decode cX11_tune 8 = .ok (.iload_n 2, 1) := by decide +kernel
theorem dX11_tune_9 : decode cX11_tune 9 = .ok (.i2l, 1) := by decide +kernel
theorem dX11_tune_10 : decode cX11_tune 10 = .ok (.lconst 0, 1) := by decide +kernel
theorem dX11_tune_11 : decode cX11_tune 11 = .ok (.ldc2_w 370, 3) := by decide +kernel
theorem dX11_tune_14 : decode cX11_tune 14 = .ok (.invokestatic 130, 3) := by decide +kernel
theorem dX11_tune_17 : decode cX11_tune 17 = .ok (.ifCond .eq 12, 3) := by decide +kernel
theorem dX11_tune_20 : decode cX11_tune 20 = .ok (.aload_n 0, 1) := by decide +kernel
theorem dX11_tune_21 : decode cX11_tune 21 = .ok (.iload_n 1, 1) := by decide +kernel
theorem dX11_tune_22 : decode cX11_tune 22 = .ok (.invokevirtual 300, 3) := by decide +kernel
theorem dX11_tune_25 : decode cX11_tune 25 = .ok (.iload_n 2, 1) := by decide +kernel
theorem dX11_tune_26 : decode cX11_tune 26 = .ok (.if_icmp .ne 5, 3) := by decide +kernel
theorem dX11_tune_29 : decode cX11_tune 29 = .ok (.iconst (-1), 1) := by decide +kernel
theorem dX11_tune_30 : decode cX11_tune 30 = .ok (.ireturn, 1) := by decide +kernel
theorem dX11_tune_31 : decode cX11_tune 31 = .ok (.aload_n 0, 1) := by decide +kernel
theorem dX11_tune_32 : decode cX11_tune 32 = .ok (.invokevirtual 365, 3) := by decide +kernel
theorem dX11_tune_35 : decode cX11_tune 35 = .ok (.aload_n 0, 1) := by decide +kernel
theorem dX11_tune_36 : decode cX11_tune 36 = .ok (.iload_n 1, 1) := by decide +kernel
theorem dX11_tune_37 : decode cX11_tune 37 = .ok (.invokevirtual 300, 3) := by decide +kernel
theorem dX11_tune_40 : decode cX11_tune 40 = .ok (.istore_n 3, 1) := by decide +kernel
theorem dX11_tune_41 : decode cX11_tune 41 = .ok (.aload_n 0, 1) := by decide +kernel
theorem dX11_tune_42 : decode cX11_tune 42 = .ok (.getfield 39, 3) := by decide +kernel
theorem dX11_tune_45 : decode cX11_tune 45 = .ok (.bipush 11, 2) := by decide +kernel
theorem dX11_tune_47 : decode cX11_tune 47 = .ok (.iconst 5, 1) := by decide +kernel
theorem dX11_tune_48 : decode cX11_tune 48 = .ok (.iload_n 1, 1) := by decide +kernel
theorem dX11_tune_49 : decode cX11_tune 49 = .ok (.imul, 1) := by decide +kernel
theorem dX11_tune_50 : decode cX11_tune 50 = .ok (.iadd, 1) := by decide +kernel
theorem dX11_tune_51 : decode cX11_tune 51 = .ok (.iconst 1, 1) := by decide +kernel
theorem dX11_tune_52 : decode cX11_tune 52 = .ok (.iadd, 1) := by decide +kernel
theorem dX11_tune_53 : decode cX11_tune 53 = .ok (.iload_n 2, 1) := by decide +kernel
theorem dX11_tune_54 : decode cX11_tune 54 = .ok (.iastore, 1) := by decide +kernel
theorem dX11_tune_55 : decode cX11_tune 55 = .ok (.iload_n 3, 1) := by decide +kernel
theorem dX11_tune_56 : decode cX11_tune 56 = .ok (.ireturn, 1) := by decide +kernel
theorem dX11_heard_0 : decode cX11_heard 0 = .ok (.aload_n 0, 1) := by decide +kernel
theorem dX11_heard_1 : decode cX11_heard 1 = .ok (.getfield 39, 3) := by decide +kernel
theorem dX11_heard_4 : decode cX11_heard 4 = .ok (.bipush 53, 2) := by decide +kernel
theorem dX11_heard_6 : decode cX11_heard 6 = .ok (.iaload, 1) := by decide +kernel
theorem dX11_heard_7 : decode cX11_heard 7 = .ok (.ireturn, 1) := by decide +kernel
theorem dX11_keeps_0 : decode cX11_keeps 0 = .ok (.iconst 0, 1) := by decide +kernel
theorem dX11_keeps_1 : decode cX11_keeps 1 = .ok (.istore_n 1, 1) := by decide +kernel
theorem dX11_keeps_2 : decode cX11_keeps 2 = .ok (.iload_n 1, 1) := by decide +kernel
theorem dX11_keeps_3 : decode cX11_keeps 3 = .ok (.bipush 44, 2) := by decide +kernel
theorem dX11_keeps_5 : decode cX11_keeps 5 = .ok (.if_icmp .ge 24, 3) := by decide +kernel
theorem dX11_keeps_8 : decode cX11_keeps 8 = .ok (.aload_n 0, 1) := by decide +kernel
theorem dX11_keeps_9 : decode cX11_keeps 9 = .ok (.getfield 58, 3) := by decide +kernel
theorem dX11_keeps_12 : decode cX11_keeps 12 = .ok (.iload_n 1, 1) := by decide +kernel
theorem dX11_keeps_13 : decode cX11_keeps 13 = .ok (.aload_n 0, 1) := by decide +kernel
theorem dX11_keeps_14 : decode cX11_keeps 14 = .ok (.getfield 39, 3) := by decide +kernel
theorem dX11_keeps_17 : decode cX11_keeps 17 = .ok (.bipush 10, 2) := by decide +kernel
theorem dX11_keeps_19 : decode cX11_keeps 19 = .ok (.iload_n 1, 1) := by decide +kernel
theorem dX11_keeps_20 : decode cX11_keeps 20 = .ok (.iadd, 1) := by decide +kernel
theorem dX11_keeps_21 : decode cX11_keeps 21 = .ok (.iaload, 1) := by decide +kernel
theorem dX11_keeps_22 : decode cX11_keeps 22 = .ok (.iastore, 1) := by decide +kernel
theorem dX11_keeps_23 : decode cX11_keeps 23 = .ok (.iinc 1 1, 3) := by decide +kernel
theorem dX11_keeps_26 : decode cX11_keeps 26 = .ok (.goto (-24), 3) := by decide +kernel
theorem dX11_keeps_29 : decode cX11_keeps 29 = .ok (.return_, 1) := by decide +kernel
theorem dX11_laysBack_0 : decode cX11_laysBack 0 = .ok (.iconst 0, 1) := by decide +kernel
theorem dX11_laysBack_1 : decode cX11_laysBack 1 = .ok (.istore_n 1, 1) := by decide +kernel
theorem dX11_laysBack_2 : decode cX11_laysBack 2 = .ok (.iload_n 1, 1) := by decide +kernel
theorem dX11_laysBack_3 : decode cX11_laysBack 3 = .ok (.bipush 44, 2) := by decide +kernel
theorem dX11_laysBack_5 : decode cX11_laysBack 5 = .ok (.if_icmp .ge 24, 3) := by decide +kernel
theorem dX11_laysBack_8 : decode cX11_laysBack 8 = .ok (.aload_n 0, 1) := by decide +kernel
theorem dX11_laysBack_9 : decode cX11_laysBack 9 = .ok (.getfield 39, 3) := by decide +kernel
theorem dX11_laysBack_12 : decode cX11_laysBack 12 = .ok (.bipush 10, 2) := by decide +kernel
theorem dX11_laysBack_14 : decode cX11_laysBack 14 = .ok (.iload_n 1, 1) := by decide +kernel
theorem dX11_laysBack_15 : decode cX11_laysBack 15 = .ok (.iadd, 1) := by decide +kernel
theorem dX11_laysBack_16 : decode cX11_laysBack 16 = .ok (.aload_n 0, 1) := by decide +kernel
theorem dX11_laysBack_17 : decode cX11_laysBack 17 = .ok (.getfield 58, 3) := by decide +kernel
theorem dX11_laysBack_20 : decode cX11_laysBack 20 = .ok (.iload_n 1, 1) := by decide +kernel
theorem dX11_laysBack_21 : decode cX11_laysBack 21 = .ok (.iaload, 1) := by decide +kernel
theorem dX11_laysBack_22 : decode cX11_laysBack 22 = .ok (.iastore, 1) := by decide +kernel
theorem dX11_laysBack_23 : decode cX11_laysBack 23 = .ok (.iinc 1 1, 3) := by decide +kernel
theorem dX11_laysBack_26 : decode cX11_laysBack 26 = .ok (.goto (-24), 3) := by decide +kernel
theorem dX11_laysBack_29 : decode cX11_laysBack 29 = .ok (.return_, 1) := by decide +kernel
theorem dX11_ahead_0 : decode cX11_ahead 0 = .ok (.aload_n 0, 1) := by decide +kernel
theorem dX11_ahead_1 : decode cX11_ahead 1 = .ok (.invokevirtual 294, 3) := by decide +kernel
theorem dX11_ahead_4 : decode cX11_ahead 4 = .ok (.ifCond .eq 40, 3) := by decide +kernel
theorem dX11_ahead_7 : decode cX11_ahead 7 = .ok (.iload_n 2, 1) := by decide +kernel
theorem dX11_ahead_8 : decode cX11_ahead 8 = .ok (.i2l, 1) := by decide +kernel
theorem dX11_ahead_9 : decode cX11_ahead 9 = .ok (.lconst 0, 1) := by decide +kernel
theorem dX11_ahead_10 : decode cX11_ahead 10 = .ok (.ldc2_w 372, 3) := by decide +kernel
theorem dX11_ahead_13 : decode cX11_ahead 13 = .ok (.invokestatic 130, 3) := by decide +kernel
theorem dX11_ahead_16 : decode cX11_ahead 16 = .ok (.ifCond .eq 28, 3) := by decide +kernel
theorem dX11_ahead_19 : decode cX11_ahead 19 = .ok (.iload_n 3, 1) := by decide +kernel
theorem dX11_ahead_20 : decode cX11_ahead 20 = .ok (.i2l, 1) := by decide +kernel
theorem dX11_ahead_21 : decode cX11_ahead 21 = .ok (.lconst 0, 1) := by decide +kernel
theorem dX11_ahead_22 : decode cX11_ahead 22 = .ok (.ldc2_w 374, 3) := by decide +kernel
theorem dX11_ahead_25 : decode cX11_ahead 25 = .ok (.invokestatic 130, 3) := by decide +kernel
theorem dX11_ahead_28 : decode cX11_ahead 28 = .ok (.ifCond .eq 16, 3) := by decide +kernel
theorem dX11_ahead_31 : decode cX11_ahead 31 = .ok (.iload_n 3, 1) := by decide +kernel
theorem dX11_ahead_32 : decode cX11_ahead 32 = .ok (.iconst 2, 1) := by decide +kernel
theorem dX11_ahead_33 : decode cX11_ahead 33 = .ok (.if_icmp .ge 15, 3) := by decide +kernel
theorem dX11_ahead_36 : decode cX11_ahead 36 = .ok (.aload_n 0, 1) := by decide +kernel
theorem dX11_ahead_37 : decode cX11_ahead 37 = .ok (.iload_n 1, 1) := by decide +kernel
theorem dX11_ahead_38 : decode cX11_ahead 38 = .ok (.invokevirtual 309, 3) := by decide +kernel
theorem dX11_ahead_41 : decode cX11_ahead 41 = .ok (.ifCond .ne 7, 3) := by decide +kernel
theorem dX11_ahead_44 : decode cX11_ahead 44 = .ok (.sipush (-10000), 3) := by decide +kernel
theorem dX11_ahead_47 : decode cX11_ahead 47 = .ok (.ireturn, 1) := by decide +kernel
theorem dX11_ahead_48 : decode cX11_ahead 48 = .ok (.aload_n 0, 1) := by decide +kernel
theorem dX11_ahead_49 : decode cX11_ahead 49 = .ok (.invokevirtual 376, 3) := by decide +kernel
theorem dX11_ahead_52 : decode cX11_ahead 52 = .ok (.aload_n 0, 1) := by decide +kernel
theorem dX11_ahead_53 : decode cX11_ahead 53 = .ok (.iload_n 2, 1) := by decide +kernel
theorem dX11_ahead_54 : decode cX11_ahead 54 = .ok (.invokevirtual 379, 3) := by decide +kernel
theorem dX11_ahead_57 : decode cX11_ahead 57 = .ok (.iload_n 3, 1) := by decide +kernel
theorem dX11_ahead_58 : decode cX11_ahead 58 = .ok (.ifCond .ne 11, 3) := by decide +kernel
theorem dX11_ahead_61 : decode cX11_ahead 61 = .ok (.aload_n 0, 1) := by decide +kernel
theorem dX11_ahead_62 : decode cX11_ahead 62 = .ok (.iload_n 1, 1) := by decide +kernel
theorem dX11_ahead_63 : decode cX11_ahead 63 = .ok (.invokevirtual 312, 3) := by decide +kernel
theorem dX11_ahead_66 : decode cX11_ahead 66 = .ok (.goto 23, 3) := by decide +kernel
theorem dX11_ahead_69 : decode cX11_ahead 69 = .ok (.iload_n 3, 1) := by decide +kernel
theorem dX11_ahead_70 : decode cX11_ahead 70 = .ok (.iconst 1, 1) := by decide +kernel
theorem dX11_ahead_71 : decode cX11_ahead 71 = .ok (.if_icmp .ne 11, 3) := by decide +kernel
theorem dX11_ahead_74 : decode cX11_ahead 74 = .ok (.aload_n 0, 1) := by decide +kernel
theorem dX11_ahead_75 : decode cX11_ahead 75 = .ok (.iload_n 1, 1) := by decide +kernel
theorem dX11_ahead_76 : decode cX11_ahead 76 = .ok (.invokevirtual 315, 3) := by decide +kernel
theorem dX11_ahead_79 : decode cX11_ahead 79 = .ok (.goto 10, 3) := by decide +kernel
theorem dX11_ahead_82 : decode cX11_ahead 82 = .ok (.aload_n 0, 1) := by decide +kernel
theorem dX11_ahead_83 : decode cX11_ahead 83 = .ok (.getfield 39, 3) := by decide +kernel
theorem dX11_ahead_86 : decode cX11_ahead 86 = .ok (.bipush 53, 2) := by decide +kernel
theorem dX11_ahead_88 : decode cX11_ahead 88 = .ok (.iaload, 1) := by decide +kernel
theorem dX11_ahead_89 : decode cX11_ahead 89 = .ok (.istore 4, 2) := by decide +kernel
theorem dX11_ahead_91 : decode cX11_ahead 91 = .ok (.aload_n 0, 1) := by decide +kernel
theorem dX11_ahead_92 : decode cX11_ahead 92 = .ok (.invokevirtual 382, 3) := by decide +kernel
theorem dX11_ahead_95 : decode cX11_ahead 95 = .ok (.iload 4, 2) := by decide +kernel
theorem dX11_ahead_97 : decode cX11_ahead 97 = .ok (.ireturn, 1) := by decide +kernel
theorem dX11_clear_0 : decode cX11_clear 0 = .ok (.aload_n 0, 1) := by decide +kernel
theorem dX11_clear_1 : decode cX11_clear 1 = .ok (.iload_n 1, 1) := by decide +kernel
theorem dX11_clear_2 : decode cX11_clear 2 = .ok (.invokevirtual 309, 3) := by decide +kernel
theorem dX11_clear_5 : decode cX11_clear 5 = .ok (.ifCond .ne 5, 3) := by decide +kernel
theorem dX11_clear_8 : decode cX11_clear 8 = .ok (.iconst (-1), 1) := by decide +kernel
theorem dX11_clear_9 : decode cX11_clear 9 = .ok (.ireturn, 1) := by decide +kernel
theorem dX11_clear_10 : decode cX11_clear 10 = .ok (.bipush (-2), 2) := by decide +kernel
theorem dX11_clear_12 : decode cX11_clear 12 = .ok (.istore_n 2, 1) := by decide +kernel
theorem dX11_clear_13 : decode cX11_clear 13 = .ok (.aload_n 0, 1) := by decide +kernel
theorem dX11_clear_14 : decode cX11_clear 14 = .ok (.invokevirtual 376, 3) := by decide +kernel
theorem dX11_clear_17 : decode cX11_clear 17 = .ok (.iconst 0, 1) := by decide +kernel
theorem dX11_clear_18 : decode cX11_clear 18 = .ok (.istore_n 3, 1) := by decide +kernel
theorem dX11_clear_19 : decode cX11_clear 19 = .ok (.iload_n 3, 1) := by decide +kernel
theorem dX11_clear_20 : decode cX11_clear 20 = .ok (.sipush 200, 3) := by decide +kernel
theorem dX11_clear_23 : decode cX11_clear 23 = .ok (.if_icmp .ge 36, 3) := by decide +kernel
theorem dX11_clear_26 : decode cX11_clear 26 = .ok (.iload_n 2, 1) := by decide +kernel
theorem dX11_clear_27 : decode cX11_clear 27 = .ok (.ifCond .ge 32, 3) := by decide +kernel
theorem dX11_clear_30 : decode cX11_clear 30 = .ok (.aload_n 0, 1) := by decide +kernel
theorem dX11_clear_31 : decode cX11_clear 31 = .ok (.invokevirtual 362, 3) := by decide +kernel
theorem dX11_clear_34 : decode cX11_clear 34 = .ok (.pop, 1) := by decide +kernel
theorem dX11_clear_35 : decode cX11_clear 35 = .ok (.aload_n 0, 1) := by decide +kernel
theorem dX11_clear_36 : decode cX11_clear 36 = .ok (.iload_n 1, 1) := by decide +kernel
theorem dX11_clear_37 : decode cX11_clear 37 = .ok (.invokevirtual 312, 3) := by decide +kernel
theorem dX11_clear_40 : decode cX11_clear 40 = .ok (.ifCond .ne 13, 3) := by decide +kernel
theorem dX11_clear_43 : decode cX11_clear 43 = .ok (.aload_n 0, 1) := by decide +kernel
theorem dX11_clear_44 : decode cX11_clear 44 = .ok (.getfield 39, 3) := by decide +kernel
theorem dX11_clear_47 : decode cX11_clear 47 = .ok (.bipush 10, 2) := by decide +kernel
theorem dX11_clear_49 : decode cX11_clear 49 = .ok (.iaload, 1) := by decide +kernel
theorem dX11_clear_50 : decode cX11_clear 50 = .ok (.iconst 1, 1) := by decide +kernel
theorem dX11_clear_51 : decode cX11_clear 51 = .ok (.isub, 1) := by decide +kernel
theorem dX11_clear_52 : decode cX11_clear 52 = .ok (.istore_n 2, 1) := by decide +kernel
theorem dX11_clear_53 : decode cX11_clear 53 = .ok (.iinc 3 1, 3) := by decide +kernel
theorem dX11_clear_56 : decode cX11_clear 56 = .ok (.goto (-37), 3) := by decide +kernel
theorem dX11_clear_59 : decode cX11_clear 59 = .ok (.aload_n 0, 1) := by decide +kernel
theorem dX11_clear_60 : decode cX11_clear 60 = .ok (.invokevirtual 382, 3) := by decide +kernel
theorem dX11_clear_63 : decode cX11_clear 63 = .ok (.iload_n 2, 1) := by decide +kernel
theorem dX11_clear_64 : decode cX11_clear 64 = .ok (.ireturn, 1) := by decide +kernel
theorem dX11_chord_0 : decode cX11_chord 0 = .ok (.aload_n 0, 1) := by decide +kernel
theorem dX11_chord_1 : decode cX11_chord 1 = .ok (.invokevirtual 294, 3) := by decide +kernel
theorem dX11_chord_4 : decode cX11_chord 4 = .ok (.ifCond .eq 13, 3) := by decide +kernel
theorem dX11_chord_7 : decode cX11_chord 7 = .ok (.iload_n 1, 1) := by decide +kernel
theorem dX11_chord_8 : decode cX11_chord 8 = .ok (.i2l, 1) := by decide +kernel
theorem dX11_chord_9 : decode cX11_chord 9 = .ok (.lconst 0, 1) := by decide +kernel
theorem dX11_chord_10 : decode cX11_chord 10 = .ok (.lconst 1, 1) := by decide +kernel
theorem dX11_chord_11 : decode cX11_chord 11 = .ok (.invokestatic 130, 3) := by decide +kernel
theorem dX11_chord_14 : decode cX11_chord 14 = .ok (.ifCond .ne 5, 3) := by decide +kernel
theorem dX11_chord_17 : decode cX11_chord 17 = .ok (.iconst (-1), 1) := by decide +kernel
theorem dX11_chord_18 : decode cX11_chord 18 = .ok (.ireturn, 1) := by decide +kernel
theorem dX11_chord_19 : decode cX11_chord 19 = .ok (.iconst 0, 1) := by decide +kernel
theorem dX11_chord_20 : decode cX11_chord 20 = .ok (.istore_n 2, 1) := by decide +kernel
theorem dX11_chord_21 : decode cX11_chord 21 = .ok (.iconst 1, 1) := by decide +kernel
theorem dX11_chord_22 : decode cX11_chord 22 = .ok (.istore_n 3, 1) := by decide +kernel
theorem dX11_chord_23 : decode cX11_chord 23 = .ok (.iload_n 3, 1) := by decide +kernel
theorem dX11_chord_24 : decode cX11_chord 24 = .ok (.iconst 1, 1) := by decide +kernel
theorem dX11_chord_25 : decode cX11_chord 25 = .ok (.aload_n 0, 1) := by decide +kernel
theorem dX11_chord_26 : decode cX11_chord 26 = .ok (.getfield 39, 3) := by decide +kernel
theorem dX11_chord_29 : decode cX11_chord 29 = .ok (.iconst 3, 1) := by decide +kernel
theorem dX11_chord_30 : decode cX11_chord 30 = .ok (.iaload, 1) := by decide +kernel
theorem dX11_chord_31 : decode cX11_chord 31 = .ok (.ishl, 1) := by decide +kernel
theorem dX11_chord_32 : decode cX11_chord 32 = .ok (.if_icmp .ge 53, 3) := by decide +kernel
theorem dX11_chord_35 : decode cX11_chord 35 = .ok (.aload_n 0, 1) := by decide +kernel
theorem dX11_chord_36 : decode cX11_chord 36 = .ok (.iload_n 3, 1) := by decide +kernel
theorem dX11_chord_37 : decode cX11_chord 37 = .ok (.invokevirtual 337, 3) := by decide +kernel
theorem dX11_chord_40 : decode cX11_chord 40 = .ok (.aload_n 0, 1) := by decide +kernel
theorem dX11_chord_41 : decode cX11_chord 41 = .ok (.iload_n 2, 1) := by decide +kernel
theorem dX11_chord_42 : decode cX11_chord 42 = .ok (.invokevirtual 337, 3) := by decide +kernel
theorem dX11_chord_45 : decode cX11_chord 45 = .ok (.isub, 1) := by decide +kernel
theorem dX11_chord_46 : decode cX11_chord 46 = .ok (.istore 4, 2) := by decide +kernel
theorem dX11_chord_48 : decode cX11_chord 48 = .ok (.aload_n 0, 1) := by decide +kernel
theorem dX11_chord_49 : decode cX11_chord 49 = .ok (.iload_n 3, 1) := by decide +kernel
theorem dX11_chord_50 : decode cX11_chord 50 = .ok (.invokevirtual 385, 3) := by decide +kernel
theorem dX11_chord_53 : decode cX11_chord 53 = .ok (.ifCond .eq 26, 3) := by decide +kernel
theorem dX11_chord_56 : decode cX11_chord 56 = .ok (.iload 4, 2) := by decide +kernel
theorem dX11_chord_58 : decode cX11_chord 58 = .ok (.ifCond .gt 19, 3) := by decide +kernel
theorem dX11_chord_61 : decode cX11_chord 61 = .ok (.iload 4, 2) := by decide +kernel
theorem dX11_chord_63 : decode cX11_chord 63 = .ok (.ifCond .ne 16, 3) := by decide +kernel
theorem dX11_chord_66 : decode cX11_chord 66 = .ok (.iload_n 3, 1) := by decide +kernel
theorem dX11_chord_67 : decode cX11_chord 67 = .ok (.invokestatic 334, 3) := by decide +kernel
theorem dX11_chord_70 : decode cX11_chord 70 = .ok (.iload_n 2, 1) := by decide +kernel
theorem dX11_chord_71 : decode cX11_chord 71 = .ok (.invokestatic 334, 3) := by decide +kernel
theorem dX11_chord_74 : decode cX11_chord 74 = .ok (.if_icmp .ge 5, 3) := by decide +kernel
theorem dX11_chord_77 : decode cX11_chord 77 = .ok (.iload_n 3, 1) := by decide +kernel
theorem dX11_chord_78 : decode cX11_chord 78 = .ok (.istore_n 2, 1) := by decide +kernel
theorem dX11_chord_79 : decode cX11_chord 79 = .ok (.iinc 3 1, 3) := by decide +kernel
theorem dX11_chord_82 : decode cX11_chord 82 = .ok (.goto (-59), 3) := by decide +kernel
theorem dX11_chord_85 : decode cX11_chord 85 = .ok (.iload_n 1, 1) := by decide +kernel
theorem dX11_chord_86 : decode cX11_chord 86 = .ok (.ifCond .ne 11, 3) := by decide +kernel
theorem dX11_chord_89 : decode cX11_chord 89 = .ok (.aload_n 0, 1) := by decide +kernel
theorem dX11_chord_90 : decode cX11_chord 90 = .ok (.iload_n 2, 1) := by decide +kernel
theorem dX11_chord_91 : decode cX11_chord 91 = .ok (.invokevirtual 337, 3) := by decide +kernel
theorem dX11_chord_94 : decode cX11_chord 94 = .ok (.goto 4, 3) := by decide +kernel
theorem dX11_chord_97 : decode cX11_chord 97 = .ok (.iload_n 2, 1) := by decide +kernel
theorem dX11_chord_98 : decode cX11_chord 98 = .ok (.ireturn, 1) := by decide +kernel
theorem dX11_isFree_0 : decode cX11_isFree 0 = .ok (.iconst 0, 1) := by decide +kernel
theorem dX11_isFree_1 : decode cX11_isFree 1 = .ok (.istore_n 2, 1) := by decide +kernel
theorem dX11_isFree_2 : decode cX11_isFree 2 = .ok (.iload_n 2, 1) := by decide +kernel
theorem dX11_isFree_3 : decode cX11_isFree 3 = .ok (.iload_n 1, 1) := by decide +kernel
theorem dX11_isFree_4 : decode cX11_isFree 4 = .ok (.if_icmp .ge 42, 3) := by decide +kernel
theorem dX11_isFree_7 : decode cX11_isFree 7 = .ok (.aload_n 0, 1) := by decide +kernel
theorem dX11_isFree_8 : decode cX11_isFree 8 = .ok (.getfield 61, 3) := by decide +kernel
theorem dX11_isFree_11 : decode cX11_isFree 11 = .ok (.iload_n 2, 1) := by decide +kernel
theorem dX11_isFree_12 : decode cX11_isFree 12 = .ok (.iaload, 1) := by decide +kernel
theorem dX11_isFree_13 : decode cX11_isFree 13 = .ok (.aload_n 0, 1) := by decide +kernel
theorem dX11_isFree_14 : decode cX11_isFree 14 = .ok (.getfield 61, 3) := by decide +kernel
theorem dX11_isFree_17 : decode cX11_isFree 17 = .ok (.iload_n 1, 1) := by decide +kernel
theorem dX11_isFree_18 : decode cX11_isFree 18 = .ok (.iaload, 1) := by decide +kernel
theorem dX11_isFree_19 : decode cX11_isFree 19 = .ok (.if_icmp .ne 21, 3) := by decide +kernel
theorem dX11_isFree_22 : decode cX11_isFree 22 = .ok (.aload_n 0, 1) := by decide +kernel
theorem dX11_isFree_23 : decode cX11_isFree 23 = .ok (.getfield 39, 3) := by decide +kernel
theorem dX11_isFree_26 : decode cX11_isFree 26 = .ok (.bipush 72, 2) := by decide +kernel
theorem dX11_isFree_28 : decode cX11_isFree 28 = .ok (.iload_n 1, 1) := by decide +kernel
theorem dX11_isFree_29 : decode cX11_isFree 29 = .ok (.iadd, 1) := by decide +kernel
theorem dX11_isFree_30 : decode cX11_isFree 30 = .ok (.iaload, 1) := by decide +kernel
theorem dX11_isFree_31 : decode cX11_isFree 31 = .ok (.iload_n 2, 1) := by decide +kernel
theorem dX11_isFree_32 : decode cX11_isFree 32 = .ok (.invokestatic 297, 3) := by decide +kernel
theorem dX11_isFree_35 : decode cX11_isFree 35 = .ok (.ifCond .eq 5, 3) := by decide +kernel
theorem dX11_isFree_38 : decode cX11_isFree 38 = .ok (.iconst 0, 1) := by decide +kernel
theorem dX11_isFree_39 : decode cX11_isFree 39 = .ok (.ireturn, 1) := by decide +kernel
theorem dX11_isFree_40 : decode cX11_isFree 40 = .ok (.iinc 2 1, 3) := by decide +kernel
theorem dX11_isFree_43 : decode cX11_isFree 43 = .ok (.goto (-41), 3) := by decide +kernel
theorem dX11_isFree_46 : decode cX11_isFree 46 = .ok (.iconst 1, 1) := by decide +kernel
theorem dX11_isFree_47 : decode cX11_isFree 47 = .ok (.ireturn, 1) := by decide +kernel
theorem dX11_isDoneBy_0 : decode cX11_isDoneBy 0 = .ok (.iconst 0, 1) := by decide +kernel
theorem dX11_isDoneBy_1 : decode cX11_isDoneBy 1 = .ok (.istore_n 2, 1) := by decide +kernel
theorem dX11_isDoneBy_2 : decode cX11_isDoneBy 2 = .ok (.aload_n 0, 1) := by decide +kernel
theorem dX11_isDoneBy_3 : decode cX11_isDoneBy 3 = .ok (.getfield 61, 3) := by decide +kernel
theorem dX11_isDoneBy_6 : decode cX11_isDoneBy 6 = .ok (.iconst 0, 1) := by decide +kernel
theorem dX11_isDoneBy_7 : decode cX11_isDoneBy 7 = .ok (.iconst (-1), 1) := by decide +kernel
theorem dX11_isDoneBy_8 : decode cX11_isDoneBy 8 = .ok (.iastore, 1) := by decide +kernel
theorem dX11_isDoneBy_9 : decode cX11_isDoneBy 9 = .ok (.iload_n 2, 1) := by decide +kernel
theorem dX11_isDoneBy_10 : decode cX11_isDoneBy 10 = .ok (.ifCond .lt 60, 3) := by decide +kernel
theorem dX11_isDoneBy_13 : decode cX11_isDoneBy 13 = .ok (.iload_n 2, 1) := by decide +kernel
theorem dX11_isDoneBy_14 : decode cX11_isDoneBy 14 = .ok (.aload_n 0, 1) := by decide +kernel
theorem dX11_isDoneBy_15 : decode cX11_isDoneBy 15 = .ok (.getfield 39, 3) := by decide +kernel
theorem dX11_isDoneBy_18 : decode cX11_isDoneBy 18 = .ok (.iconst 3, 1) := by decide +kernel
theorem dX11_isDoneBy_19 : decode cX11_isDoneBy 19 = .ok (.iaload, 1) := by decide +kernel
theorem dX11_isDoneBy_20 : decode cX11_isDoneBy 20 = .ok (.if_icmp .ge 50, 3) := by decide +kernel
theorem dX11_isDoneBy_23 : decode cX11_isDoneBy 23 = .ok (.aload_n 0, 1) := by decide +kernel
theorem dX11_isDoneBy_24 : decode cX11_isDoneBy 24 = .ok (.getfield 61, 3) := by decide +kernel
theorem dX11_isDoneBy_27 : decode cX11_isDoneBy 27 = .ok (.iload_n 2, 1) := by decide +kernel
theorem dX11_isDoneBy_28 : decode cX11_isDoneBy 28 = .ok (.dup2, 1) := by decide +kernel
theorem dX11_isDoneBy_29 : decode cX11_isDoneBy 29 = .ok (.iaload, 1) := by decide +kernel
theorem dX11_isDoneBy_30 : decode cX11_isDoneBy 30 = .ok (.iconst 1, 1) := by decide +kernel
theorem dX11_isDoneBy_31 : decode cX11_isDoneBy 31 = .ok (.iadd, 1) := by decide +kernel
theorem dX11_isDoneBy_32 : decode cX11_isDoneBy 32 = .ok (.iastore, 1) := by decide +kernel
theorem dX11_isDoneBy_33 : decode cX11_isDoneBy 33 = .ok (.aload_n 0, 1) := by decide +kernel
theorem dX11_isDoneBy_34 : decode cX11_isDoneBy 34 = .ok (.getfield 61, 3) := by decide +kernel
theorem dX11_isDoneBy_37 : decode cX11_isDoneBy 37 = .ok (.iload_n 2, 1) := by decide +kernel
theorem dX11_isDoneBy_38 : decode cX11_isDoneBy 38 = .ok (.iaload, 1) := by decide +kernel
theorem dX11_isDoneBy_39 : decode cX11_isDoneBy 39 = .ok (.iload_n 1, 1) := by decide +kernel
theorem dX11_isDoneBy_40 : decode cX11_isDoneBy 40 = .ok (.if_icmp .lt 9, 3) := by decide +kernel
theorem dX11_isDoneBy_43 : decode cX11_isDoneBy 43 = .ok (.iinc 2 (-1), 3) := by decide +kernel
theorem dX11_isDoneBy_46 : decode cX11_isDoneBy 46 = .ok (.goto (-37), 3) := by decide +kernel
theorem dX11_isDoneBy_49 : decode cX11_isDoneBy 49 = .ok (.aload_n 0, 1) := by decide +kernel
theorem dX11_isDoneBy_50 : decode cX11_isDoneBy 50 = .ok (.iload_n 2, 1) := by decide +kernel
theorem dX11_isDoneBy_51 : decode cX11_isDoneBy 51 = .ok (.invokevirtual 388, 3) := by decide +kernel
theorem dX11_isDoneBy_54 : decode cX11_isDoneBy 54 = .ok (.ifCond .eq (-45), 3) := by decide +kernel
theorem dX11_isDoneBy_57 : decode cX11_isDoneBy 57 = .ok (.iinc 2 1, 3) := by decide +kernel
theorem dX11_isDoneBy_60 : decode cX11_isDoneBy 60 = .ok (.aload_n 0, 1) := by decide +kernel
theorem dX11_isDoneBy_61 : decode cX11_isDoneBy 61 = .ok (.getfield 61, 3) := by decide +kernel
theorem dX11_isDoneBy_64 : decode cX11_isDoneBy 64 = .ok (.iload_n 2, 1) := by decide +kernel
theorem dX11_isDoneBy_65 : decode cX11_isDoneBy 65 = .ok (.iconst (-1), 1) := by decide +kernel
theorem dX11_isDoneBy_66 : decode cX11_isDoneBy 66 = .ok (.iastore, 1) := by decide +kernel
theorem dX11_isDoneBy_67 : decode cX11_isDoneBy 67 = .ok (.goto (-58), 3) := by decide +kernel
theorem dX11_isDoneBy_70 : decode cX11_isDoneBy 70 = .ok (.iload_n 2, 1) := by decide +kernel
theorem dX11_isDoneBy_71 : decode cX11_isDoneBy 71 = .ok (.aload_n 0, 1) := by decide +kernel
theorem dX11_isDoneBy_72 : decode cX11_isDoneBy 72 = .ok (.getfield 39, 3) := by decide +kernel
theorem dX11_isDoneBy_75 : decode cX11_isDoneBy 75 = .ok (.iconst 3, 1) := by decide +kernel
theorem dX11_isDoneBy_76 : decode cX11_isDoneBy 76 = .ok (.iaload, 1) := by decide +kernel
theorem dX11_isDoneBy_77 : decode cX11_isDoneBy 77 = .ok (.if_icmp .ne 7, 3) := by decide +kernel
theorem dX11_isDoneBy_80 : decode cX11_isDoneBy 80 = .ok (.iconst 1, 1) := by decide +kernel
theorem dX11_isDoneBy_81 : decode cX11_isDoneBy 81 = .ok (.goto 4, 3) := by decide +kernel
theorem dX11_isDoneBy_84 : decode cX11_isDoneBy 84 = .ok (.iconst 0, 1) := by decide +kernel
theorem dX11_isDoneBy_85 : decode cX11_isDoneBy 85 = .ok (.ireturn, 1) := by decide +kernel
theorem dX11_beats_0 : decode cX11_beats 0 = .ok (.aload_n 0, 1) := by decide +kernel
theorem dX11_beats_1 : decode cX11_beats 1 = .ok (.invokevirtual 294, 3) := by decide +kernel
theorem dX11_beats_4 : decode cX11_beats 4 = .ok (.ifCond .eq 17, 3) := by decide +kernel
theorem dX11_beats_7 : decode cX11_beats 7 = .ok (.iload_n 1, 1) := by decide +kernel
theorem dX11_beats_8 : decode cX11_beats 8 = .ok (.i2l, 1) := by decide +kernel
theorem dX11_beats_9 : decode cX11_beats 9 = .ok (.ldc2_w 391, 3) := by decide +kernel
theorem dX11_beats_12 : decode cX11_beats 12 = .ok (.ldc2_w 393, 3) := by decide +kernel
theorem dX11_beats_15 : decode cX11_beats 15 = .ok (.invokestatic 130, 3) := by decide +kernel
theorem dX11_beats_18 : decode cX11_beats 18 = .ok (.ifCond .ne 6, 3) := by decide +kernel
theorem dX11_beats_21 : decode cX11_beats 21 = .ok (.bipush (-3), 2) := by decide +kernel
theorem dX11_beats_23 : decode cX11_beats 23 = .ok (.ireturn, 1) := by decide +kernel
theorem dX11_beats_24 : decode cX11_beats 24 = .ok (.iconst 0, 1) := by decide +kernel
theorem dX11_beats_25 : decode cX11_beats 25 = .ok (.istore_n 2, 1) := by decide +kernel
theorem dX11_beats_26 : decode cX11_beats 26 = .ok (.aload_n 0, 1) := by decide +kernel
theorem dX11_beats_27 : decode cX11_beats 27 = .ok (.iload_n 2, 1) := by decide +kernel
theorem dX11_beats_28 : decode cX11_beats 28 = .ok (.invokevirtual 395, 3) := by decide +kernel
theorem dX11_beats_31 : decode cX11_beats 31 = .ok (.ifCond .ne 9, 3) := by decide +kernel
theorem dX11_beats_34 : decode cX11_beats 34 = .ok (.iinc 2 1, 3) := by decide +kernel
theorem dX11_beats_37 : decode cX11_beats 37 = .ok (.goto (-11), 3) := by decide +kernel
theorem dX11_beats_40 : decode cX11_beats 40 = .ok (.iload_n 1, 1) := by decide +kernel
theorem dX11_beats_41 : decode cX11_beats 41 = .ok (.iconst (-1), 1) := by decide +kernel
theorem dX11_beats_42 : decode cX11_beats 42 = .ok (.if_icmp .ne 7, 3) := by decide +kernel
theorem dX11_beats_45 : decode cX11_beats 45 = .ok (.iload_n 2, 1) := by decide +kernel
theorem dX11_beats_46 : decode cX11_beats 46 = .ok (.goto 22, 3) := by decide +kernel
theorem dX11_beats_49 : decode cX11_beats 49 = .ok (.aload_n 0, 1) := by decide +kernel
theorem dX11_beats_50 : decode cX11_beats 50 = .ok (.iload_n 1, 1) := by decide +kernel
theorem dX11_beats_51 : decode cX11_beats 51 = .ok (.invokevirtual 309, 3) := by decide +kernel
theorem dX11_beats_54 : decode cX11_beats 54 = .ok (.ifCond .eq 12, 3) := by decide +kernel
theorem dX11_beats_57 : decode cX11_beats 57 = .ok (.aload_n 0, 1) := by decide +kernel
theorem dX11_beats_58 : decode cX11_beats 58 = .ok (.getfield 61, 3) := by decide +kernel
theorem dX11_beats_61 : decode cX11_beats 61 = .ok (.iload_n 1, 1) := by decide +kernel
theorem dX11_beats_62 : decode cX11_beats 62 = .ok (.iaload, 1) := by decide +kernel
theorem dX11_beats_63 : decode cX11_beats 63 = .ok (.goto 5, 3) := by decide +kernel
theorem dX11_beats_66 : decode cX11_beats 66 = .ok (.bipush (-2), 2) := by decide +kernel
theorem dX11_beats_68 : decode cX11_beats 68 = .ok (.ireturn, 1) := by decide +kernel
theorem dX11_waitedBy_0 : decode cX11_waitedBy 0 = .ok (.aload_n 0, 1) := by decide +kernel
theorem dX11_waitedBy_1 : decode cX11_waitedBy 1 = .ok (.iload_n 1, 1) := by decide +kernel
theorem dX11_waitedBy_2 : decode cX11_waitedBy 2 = .ok (.invokevirtual 379, 3) := by decide +kernel
theorem dX11_waitedBy_5 : decode cX11_waitedBy 5 = .ok (.aload_n 0, 1) := by decide +kernel
theorem dX11_waitedBy_6 : decode cX11_waitedBy 6 = .ok (.iconst 3, 1) := by decide +kernel
theorem dX11_waitedBy_7 : decode cX11_waitedBy 7 = .ok (.invokevirtual 340, 3) := by decide +kernel
theorem dX11_waitedBy_10 : decode cX11_waitedBy 10 = .ok (.istore_n 2, 1) := by decide +kernel
theorem dX11_waitedBy_11 : decode cX11_waitedBy 11 = .ok (.aload_n 0, 1) := by decide +kernel
theorem dX11_waitedBy_12 : decode cX11_waitedBy 12 = .ok (.invokevirtual 382, 3) := by decide +kernel
theorem dX11_waitedBy_15 : decode cX11_waitedBy 15 = .ok (.iload_n 2, 1) := by decide +kernel
theorem dX11_waitedBy_16 : decode cX11_waitedBy 16 = .ok (.ireturn, 1) := by decide +kernel
theorem dX11_bestScore_0 : decode cX11_bestScore 0 = .ok (.aload_n 0, 1) := by decide +kernel
theorem dX11_bestScore_1 : decode cX11_bestScore 1 = .ok (.invokevirtual 294, 3) := by decide +kernel
theorem dX11_bestScore_4 : decode cX11_bestScore 4 = .ok (.ifCond .eq 27, 3) := by decide +kernel
theorem dX11_bestScore_7 : decode cX11_bestScore 7 = .ok (.iload_n 1, 1) := by decide +kernel
theorem dX11_bestScore_8 : decode cX11_bestScore 8 = .ok (.i2l, 1) := by decide +kernel
theorem dX11_bestScore_9 : decode cX11_bestScore 9 = .ok (.lconst 1, 1) := by decide +kernel
theorem dX11_bestScore_10 : decode cX11_bestScore 10 = .ok (.ldc2_w 398, 3) := by decide +kernel
theorem dX11_bestScore_13 : decode cX11_bestScore 13 = .ok (.invokestatic 130, 3) := by decide +kernel
theorem dX11_bestScore_16 : decode cX11_bestScore 16 = .ok (.ifCond .eq 15, 3) := by decide +kernel
theorem dX11_bestScore_19 : decode cX11_bestScore 19 = .ok (.iload_n 2, 1) := by decide +kernel
theorem dX11_bestScore_20 : decode cX11_bestScore 20 = .ok (.i2l, 1) := by decide +kernel
theorem dX11_bestScore_21 : decode cX11_bestScore 21 = .ok (.lconst 0, 1) := by decide +kernel
theorem dX11_bestScore_22 : decode cX11_bestScore 22 = .ok (.ldc2_w 374, 3) := by decide +kernel
theorem dX11_bestScore_25 : decode cX11_bestScore 25 = .ok (.invokestatic 130, 3) := by decide +kernel
theorem dX11_bestScore_28 : decode cX11_bestScore 28 = .ok (.ifCond .ne 5, 3) := by decide +kernel
theorem dX11_bestScore_31 : decode cX11_bestScore 31 = .ok (.iconst (-1), 1) := by decide +kernel
theorem dX11_bestScore_32 : decode cX11_bestScore 32 = .ok (.ireturn, 1) := by decide +kernel
theorem dX11_bestScore_33 : decode cX11_bestScore 33 = .ok (.aload_n 0, 1) := by decide +kernel
theorem dX11_bestScore_34 : decode cX11_bestScore 34 = .ok (.invokevirtual 376, 3) := by decide +kernel
theorem dX11_bestScore_37 : decode cX11_bestScore 37 = .ok (.bipush (-2), 2) := by decide +kernel
theorem dX11_bestScore_39 : decode cX11_bestScore 39 = .ok (.istore_n 3, 1) := by decide +kernel
theorem dX11_bestScore_40 : decode cX11_bestScore 40 = .ok (.bipush (-2), 2) := by decide +kernel
theorem dX11_bestScore_42 : decode cX11_bestScore 42 = .ok (.istore 4, 2) := by decide +kernel
theorem dX11_bestScore_44 : decode cX11_bestScore 44 = .ok (.aload_n 0, 1) := by decide +kernel
theorem dX11_bestScore_45 : decode cX11_bestScore 45 = .ok (.iload_n 1, 1) := by decide +kernel
theorem dX11_bestScore_46 : decode cX11_bestScore 46 = .ok (.invokevirtual 400, 3) := by decide +kernel
theorem dX11_bestScore_49 : decode cX11_bestScore 49 = .ok (.istore 5, 2) := by decide +kernel
theorem dX11_bestScore_51 : decode cX11_bestScore 51 = .ok (.iconst 0, 1) := by decide +kernel
theorem dX11_bestScore_52 : decode cX11_bestScore 52 = .ok (.istore 6, 2) := by decide +kernel
theorem dX11_bestScore_54 : decode cX11_bestScore 54 = .ok (.iload 6, 2) := by decide +kernel
theorem dX11_bestScore_56 : decode cX11_bestScore 56 = .ok (.aload_n 0, 1) := by decide +kernel
theorem dX11_bestScore_57 : decode cX11_bestScore 57 = .ok (.getfield 39, 3) := by decide +kernel
theorem dX11_bestScore_60 : decode cX11_bestScore 60 = .ok (.iconst 1, 1) := by decide +kernel
theorem dX11_bestScore_61 : decode cX11_bestScore 61 = .ok (.iaload, 1) := by decide +kernel
theorem dX11_bestScore_62 : decode cX11_bestScore 62 = .ok (.if_icmp .ge 74, 3) := by decide +kernel
theorem dX11_bestScore_65 : decode cX11_bestScore 65 = .ok (.iconst 0, 1) := by decide +kernel
theorem dX11_bestScore_66 : decode cX11_bestScore 66 = .ok (.istore 7, 2) := by decide +kernel
theorem dX11_bestScore_68 : decode cX11_bestScore 68 = .ok (.iload 7, 2) := by decide +kernel
theorem dX11_bestScore_70 : decode cX11_bestScore 70 = .ok (.aload_n 0, 1) := by decide +kernel
