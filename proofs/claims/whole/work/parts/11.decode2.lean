theorem dX5_init_0 : decode cX5_init 0 = .ok (.aload_n 0, 1) := by decide +kernel
theorem dX5_init_1 : decode cX5_init 1 = .ok (.invokespecial 5, 3) := by decide +kernel
theorem dX5_init_4 : decode cX5_init 4 = .ok (.aload_n 0, 1) := by decide +kernel
theorem dX5_init_5 : decode cX5_init 5 = .ok (.bipush 6, 2) := by decide +kernel
theorem dX5_init_7 : decode cX5_init 7 = .ok (.bipush 8, 2) := by decide +kernel
theorem dX5_init_9 : decode cX5_init 9 = .ok (.multianewarray 13 2, 4) := by decide +kernel
theorem dX5_init_13 : decode cX5_init 13 = .ok (.putfield 15, 3) := by decide +kernel
theorem dX5_init_16 : decode cX5_init 16 = .ok (.aload_n 0, 1) := by decide +kernel
theorem dX5_init_17 : decode cX5_init 17 = .ok (.bipush 6, 2) := by decide +kernel
theorem dX5_init_19 : decode cX5_init 19 = .ok (.bipush 8, 2) := by decide +kernel
theorem dX5_init_21 : decode cX5_init 21 = .ok (.multianewarray 13 2, 4) := by decide +kernel
theorem dX5_init_25 : decode cX5_init 25 = .ok (.putfield 18, 3) := by decide +kernel
theorem dX5_init_28 : decode cX5_init 28 = .ok (.aload_n 0, 1) := by decide +kernel
theorem dX5_init_29 : decode cX5_init 29 = .ok (.bipush 64, 2) := by decide +kernel
theorem dX5_init_31 : decode cX5_init 31 = .ok (.newarray .int, 2) := by decide +kernel
theorem dX5_init_33 : decode cX5_init 33 = .ok (.putfield 21, 3) := by decide +kernel
theorem dX5_init_36 : decode cX5_init 36 = .ok (.aload_n 0, 1) := by decide +kernel
theorem dX5_init_37 : decode cX5_init 37 = .ok (.bipush 64, 2) := by decide +kernel
theorem dX5_init_39 : decode cX5_init 39 = .ok (.newarray .int, 2) := by decide +kernel
theorem dX5_init_41 : decode cX5_init 41 = .ok (.putfield 25, 3) := by decide +kernel
theorem dX5_init_44 : decode cX5_init 44 = .ok (.aload_n 0, 1) := by decide +kernel
theorem dX5_init_45 : decode cX5_init 45 = .ok (.iconst 3, 1) := by decide +kernel
theorem dX5_init_46 : decode cX5_init 46 = .ok (.newarray .int, 2) := by decide +kernel
theorem dX5_init_48 : decode cX5_init 48 = .ok (.putfield 28, 3) := by decide +kernel
theorem dX5_init_51 : decode cX5_init 51 = .ok (.aload_n 0, 1) := by decide +kernel
theorem dX5_init_52 : decode cX5_init 52 = .ok (.iconst 3, 1) := by decide +kernel
theorem dX5_init_53 : decode cX5_init 53 = .ok (.newarray .int, 2) := by decide +kernel
theorem dX5_init_55 : decode cX5_init 55 = .ok (.putfield 31, 3) := by decide +kernel
theorem dX5_init_58 : decode cX5_init 58 = .ok (.aload_n 0, 1) := by decide +kernel
theorem dX5_init_59 : decode cX5_init 59 = .ok (.iconst 0, 1) := by decide +kernel
theorem dX5_init_60 : decode cX5_init 60 = .ok (.putfield 34, 3) := by decide +kernel
theorem dX5_init_63 : decode cX5_init 63 = .ok (.aload_n 0, 1) := by decide +kernel
theorem dX5_init_64 : decode cX5_init 64 = .ok (.iconst 0, 1) := by decide +kernel
theorem dX5_init_65 : decode cX5_init 65 = .ok (.putfield 38, 3) := by decide +kernel
theorem dX5_init_68 : decode cX5_init 68 = .ok (.aload_n 0, 1) := by decide +kernel
theorem dX5_init_69 : decode cX5_init 69 = .ok (.iconst 0, 1) := by decide +kernel
theorem dX5_init_70 : decode cX5_init 70 = .ok (.putfield 41, 3) := by decide +kernel
theorem dX5_init_73 : decode cX5_init 73 = .ok (.aload_n 0, 1) := by decide +kernel
theorem dX5_init_74 : decode cX5_init 74 = .ok (.iconst 0, 1) := by decide +kernel
theorem dX5_init_75 : decode cX5_init 75 = .ok (.putfield 44, 3) := by decide +kernel
theorem dX5_init_78 : decode cX5_init 78 = .ok (.aload_n 0, 1) := by decide +kernel
theorem dX5_init_79 : decode cX5_init 79 = .ok (.iconst 0, 1) := by decide +kernel
theorem dX5_init_80 : decode cX5_init 80 = .ok (.putfield 47, 3) := by decide +kernel
theorem dX5_init_83 : decode cX5_init 83 = .ok (.aload_n 0, 1) := by decide +kernel
theorem dX5_init_84 : decode cX5_init 84 = .ok (.iconst 0, 1) := by decide +kernel
theorem dX5_init_85 : decode cX5_init 85 = .ok (.putfield 50, 3) := by decide +kernel
theorem dX5_init_88 : decode cX5_init 88 = .ok (.return_, 1) := by decide +kernel
theorem dX5_search_0 : decode cX5_search 0 = .ok (.aload_n 0, 1) := by decide +kernel
theorem dX5_search_1 : decode cX5_search 1 = .ok (.aload_n 1, 1) := by decide +kernel
theorem dX5_search_2 : decode cX5_search 2 = .ok (.getfield 53, 3) := by decide +kernel
theorem dX5_search_5 : decode cX5_search 5 = .ok (.putfield 38, 3) := by decide +kernel
theorem dX5_search_8 : decode cX5_search 8 = .ok (.aload_n 0, 1) := by decide +kernel
theorem dX5_search_9 : decode cX5_search 9 = .ok (.iload_n 3, 1) := by decide +kernel
theorem dX5_search_10 : decode cX5_search 10 = .ok (.putfield 41, 3) := by decide +kernel
theorem dX5_search_13 : decode cX5_search 13 = .ok (.aload_n 0, 1) := by decide +kernel
theorem dX5_search_14 : decode cX5_search 14 = .ok (.aload_n 1, 1) := by decide +kernel
theorem dX5_search_15 : decode cX5_search 15 = .ok (.getfield 54, 3) := by decide +kernel
theorem dX5_search_18 : decode cX5_search 18 = .ok (.putfield 44, 3) := by decide +kernel
theorem dX5_search_21 : decode cX5_search 21 = .ok (.aload_n 0, 1) := by decide +kernel
theorem dX5_search_22 : decode cX5_search 22 = .ok (.ldc 57, 2) := by decide +kernel
theorem dX5_search_24 : decode cX5_search 24 = .ok (.putfield 47, 3) := by decide +kernel
theorem dX5_search_27 : decode cX5_search 27 = .ok (.aload_n 0, 1) := by decide +kernel
theorem dX5_search_28 : decode cX5_search 28 = .ok (.iconst 0, 1) := by decide +kernel
theorem dX5_search_29 : decode cX5_search 29 = .ok (.putfield 50, 3) := by decide +kernel
theorem dX5_search_32 : decode cX5_search 32 = .ok (.aload_n 0, 1) := by decide +kernel
theorem dX5_search_33 : decode cX5_search 33 = .ok (.iconst 0, 1) := by decide +kernel
theorem dX5_search_34 : decode cX5_search 34 = .ok (.putfield 34, 3) := by decide +kernel
theorem dX5_search_37 : decode cX5_search 37 = .ok (.iconst 0, 1) := by decide +kernel
theorem dX5_search_38 : decode cX5_search 38 = .ok (.istore 4, 2) := by decide +kernel
theorem dX5_search_40 : decode cX5_search 40 = .ok (.iload 4, 2) := by decide +kernel
theorem dX5_search_42 : decode cX5_search 42 = .ok (.iconst 1, 1) := by decide +kernel
theorem dX5_search_43 : decode cX5_search 43 = .ok (.aload_n 0, 1) := by decide +kernel
theorem dX5_search_44 : decode cX5_search 44 = .ok (.getfield 38, 3) := by decide +kernel
theorem dX5_search_47 : decode cX5_search 47 = .ok (.ishl, 1) := by decide +kernel
theorem dX5_search_48 : decode cX5_search 48 = .ok (.if_icmp .ge 54, 3) := by decide +kernel
theorem dX5_search_51 : decode cX5_search 51 = .ok (.aload_n 1, 1) := by decide +kernel
theorem dX5_search_52 : decode cX5_search 52 = .ok (.iload 4, 2) := by decide +kernel
theorem dX5_search_54 : decode cX5_search 54 = .ok (.invokevirtual 58, 3) := by decide +kernel
theorem dX5_search_57 : decode cX5_search 57 = .ok (.ifCond .eq 39, 3) := by decide +kernel
theorem dX5_search_60 : decode cX5_search 60 = .ok (.aload_n 0, 1) := by decide +kernel
theorem dX5_search_61 : decode cX5_search 61 = .ok (.getfield 21, 3) := by decide +kernel
theorem dX5_search_64 : decode cX5_search 64 = .ok (.aload_n 0, 1) := by decide +kernel
theorem dX5_search_65 : decode cX5_search 65 = .ok (.getfield 34, 3) := by decide +kernel
theorem dX5_search_68 : decode cX5_search 68 = .ok (.iload 4, 2) := by decide +kernel
theorem dX5_search_70 : decode cX5_search 70 = .ok (.iastore, 1) := by decide +kernel
theorem dX5_search_71 : decode cX5_search 71 = .ok (.aload_n 0, 1) := by decide +kernel
theorem dX5_search_72 : decode cX5_search 72 = .ok (.getfield 25, 3) := by decide +kernel
theorem dX5_search_75 : decode cX5_search 75 = .ok (.aload_n 0, 1) := by decide +kernel
theorem dX5_search_76 : decode cX5_search 76 = .ok (.getfield 34, 3) := by decide +kernel
theorem dX5_search_79 : decode cX5_search 79 = .ok (.aload_n 1, 1) := by decide +kernel
theorem dX5_search_80 : decode cX5_search 80 = .ok (.iload 4, 2) := by decide +kernel
theorem dX5_search_82 : decode cX5_search 82 = .ok (.invokevirtual 62, 3) := by decide +kernel
theorem dX5_search_85 : decode cX5_search 85 = .ok (.iastore, 1) := by decide +kernel
theorem dX5_search_86 : decode cX5_search 86 = .ok (.aload_n 0, 1) := by decide +kernel
theorem dX5_search_87 : decode cX5_search 87 = .ok (.dup, 1) := by decide +kernel
theorem dX5_search_88 : decode cX5_search 88 = .ok (.getfield 34, 3) := by decide +kernel
theorem dX5_search_91 : decode cX5_search 91 = .ok (.iconst 1, 1) := by decide +kernel
theorem dX5_search_92 : decode cX5_search 92 = .ok (.iadd, 1) := by decide +kernel
theorem dX5_search_93 : decode cX5_search 93 = .ok (.putfield 34, 3) := by decide +kernel
theorem dX5_search_96 : decode cX5_search 96 = .ok (.iinc 4 1, 3) := by decide +kernel
theorem dX5_search_99 : decode cX5_search 99 = .ok (.goto (-59), 3) := by decide +kernel
theorem dX5_search_102 : decode cX5_search 102 = .ok (.iconst 0, 1) := by decide +kernel
theorem dX5_search_103 : decode cX5_search 103 = .ok (.istore 4, 2) := by decide +kernel
theorem dX5_search_105 : decode cX5_search 105 = .ok (.iload 4, 2) := by decide +kernel
theorem dX5_search_107 : decode cX5_search 107 = .ok (.iconst 1, 1) := by decide +kernel
theorem dX5_search_108 : decode cX5_search 108 = .ok (.aload_n 0, 1) := by decide +kernel
theorem dX5_search_109 : decode cX5_search 109 = .ok (.getfield 41, 3) := by decide +kernel
theorem dX5_search_112 : decode cX5_search 112 = .ok (.ishl, 1) := by decide +kernel
theorem dX5_search_113 : decode cX5_search 113 = .ok (.if_icmp .ge 21, 3) := by decide +kernel
theorem dX5_search_116 : decode cX5_search 116 = .ok (.aload_n 2, 1) := by decide +kernel
theorem dX5_search_117 : decode cX5_search 117 = .ok (.aload_n 1, 1) := by decide +kernel
theorem dX5_search_118 : decode cX5_search 118 = .ok (.invokevirtual 66, 3) := by decide +kernel
theorem dX5_search_121 : decode cX5_search 121 = .ok (.aload_n 0, 1) := by decide +kernel
theorem dX5_search_122 : decode cX5_search 122 = .ok (.aload_n 2, 1) := by decide +kernel
theorem dX5_search_123 : decode cX5_search 123 = .ok (.iload 4, 2) := by decide +kernel
theorem dX5_search_125 : decode cX5_search 125 = .ok (.invokevirtual 70, 3) := by decide +kernel
theorem dX5_search_128 : decode cX5_search 128 = .ok (.iinc 4 1, 3) := by decide +kernel
theorem dX5_search_131 : decode cX5_search 131 = .ok (.goto (-26), 3) := by decide +kernel
theorem dX5_search_134 : decode cX5_search 134 = .ok (.aload_n 0, 1) := by decide +kernel
theorem dX5_search_135 : decode cX5_search 135 = .ok (.iconst 0, 1) := by decide +kernel
theorem dX5_search_136 : decode cX5_search 136 = .ok (.invokevirtual 74, 3) := by decide +kernel
theorem dX5_search_139 : decode cX5_search 139 = .ok (.return_, 1) := by decide +kernel
theorem dX5_tryChoice_0 : decode cX5_tryChoice 0 = .ok (.iconst 0, 1) := by decide +kernel
theorem dX5_tryChoice_1 : decode cX5_tryChoice 1 = .ok (.istore_n 3, 1) := by decide +kernel
theorem dX5_tryChoice_2 : decode cX5_tryChoice 2 = .ok (.iload_n 3, 1) := by decide +kernel
theorem dX5_tryChoice_3 : decode cX5_tryChoice 3 = .ok (.aload_n 0, 1) := by decide +kernel
theorem dX5_tryChoice_4 : decode cX5_tryChoice 4 = .ok (.getfield 38, 3) := by decide +kernel
theorem dX5_tryChoice_7 : decode cX5_tryChoice 7 = .ok (.if_icmp .ge 18, 3) := by decide +kernel
theorem dX5_tryChoice_10 : decode cX5_tryChoice 10 = .ok (.aload_n 0, 1) := by decide +kernel
theorem dX5_tryChoice_11 : decode cX5_tryChoice 11 = .ok (.getfield 18, 3) := by decide +kernel
theorem dX5_tryChoice_14 : decode cX5_tryChoice 14 = .ok (.iload_n 3, 1) := by decide +kernel
theorem dX5_tryChoice_15 : decode cX5_tryChoice 15 = .ok (.aaload, 1) := by decide +kernel
theorem dX5_tryChoice_16 : decode cX5_tryChoice 16 = .ok (.iload_n 2, 1) := by decide +kernel
theorem dX5_tryChoice_17 : decode cX5_tryChoice 17 = .ok (.iconst 0, 1) := by decide +kernel
theorem dX5_tryChoice_18 : decode cX5_tryChoice 18 = .ok (.iastore, 1) := by decide +kernel
theorem dX5_tryChoice_19 : decode cX5_tryChoice 19 = .ok (.iinc 3 1, 3) := by decide +kernel
theorem dX5_tryChoice_22 : decode cX5_tryChoice 22 = .ok (.goto (-20), 3) := by decide +kernel
theorem dX5_tryChoice_25 : decode cX5_tryChoice 25 = .ok (.iconst 0, 1) := by decide +kernel
theorem dX5_tryChoice_26 : decode cX5_tryChoice 26 = .ok (.istore_n 3, 1) := by decide +kernel
theorem dX5_tryChoice_27 : decode cX5_tryChoice 27 = .ok (.iload_n 3, 1) := by decide +kernel
theorem dX5_tryChoice_28 : decode cX5_tryChoice 28 = .ok (.aload_n 0, 1) := by decide +kernel
theorem dX5_tryChoice_29 : decode cX5_tryChoice 29 = .ok (.getfield 41, 3) := by decide +kernel
theorem dX5_tryChoice_32 : decode cX5_tryChoice 32 = .ok (.if_icmp .ge 85, 3) := by decide +kernel
theorem dX5_tryChoice_35 : decode cX5_tryChoice 35 = .ok (.aload_n 1, 1) := by decide +kernel
theorem dX5_tryChoice_36 : decode cX5_tryChoice 36 = .ok (.invokevirtual 78, 3) := by decide +kernel
theorem dX5_tryChoice_39 : decode cX5_tryChoice 39 = .ok (.iconst 0, 1) := by decide +kernel
theorem dX5_tryChoice_40 : decode cX5_tryChoice 40 = .ok (.istore 4, 2) := by decide +kernel
theorem dX5_tryChoice_42 : decode cX5_tryChoice 42 = .ok (.iload 4, 2) := by decide +kernel
theorem dX5_tryChoice_44 : decode cX5_tryChoice 44 = .ok (.aload_n 0, 1) := by decide +kernel
theorem dX5_tryChoice_45 : decode cX5_tryChoice 45 = .ok (.getfield 38, 3) := by decide +kernel
theorem dX5_tryChoice_48 : decode cX5_tryChoice 48 = .ok (.if_icmp .ge 38, 3) := by decide +kernel
theorem dX5_tryChoice_51 : decode cX5_tryChoice 51 = .ok (.aload_n 0, 1) := by decide +kernel
theorem dX5_tryChoice_52 : decode cX5_tryChoice 52 = .ok (.getfield 18, 3) := by decide +kernel
theorem dX5_tryChoice_55 : decode cX5_tryChoice 55 = .ok (.iload 4, 2) := by decide +kernel
theorem dX5_tryChoice_57 : decode cX5_tryChoice 57 = .ok (.aaload, 1) := by decide +kernel
theorem dX5_tryChoice_58 : decode cX5_tryChoice 58 = .ok (.iload_n 2, 1) := by decide +kernel
theorem dX5_tryChoice_59 : decode cX5_tryChoice 59 = .ok (.dup2, 1) := by decide +kernel
theorem dX5_tryChoice_60 : decode cX5_tryChoice 60 = .ok (.iaload, 1) := by decide +kernel
theorem dX5_tryChoice_61 : decode cX5_tryChoice 61 = .ok (.aload_n 1, 1) := by decide +kernel
theorem dX5_tryChoice_62 : decode cX5_tryChoice 62 = .ok (.getfield 81, 3) := by decide +kernel
theorem dX5_tryChoice_65 : decode cX5_tryChoice 65 = .ok (.iload 4, 2) := by decide +kernel
theorem dX5_tryChoice_67 : decode cX5_tryChoice 67 = .ok (.iaload, 1) := by decide +kernel
theorem dX5_tryChoice_68 : decode cX5_tryChoice 68 = .ok (.ifCond .le 9, 3) := by decide +kernel
theorem dX5_tryChoice_71 : decode cX5_tryChoice 71 = .ok (.iconst 1, 1) := by decide +kernel
theorem dX5_tryChoice_72 : decode cX5_tryChoice 72 = .ok (.iload_n 3, 1) := by decide +kernel
theorem dX5_tryChoice_73 : decode cX5_tryChoice 73 = .ok (.ishl, 1) := by decide +kernel
theorem dX5_tryChoice_74 : decode cX5_tryChoice 74 = .ok (.goto 4, 3) := by decide +kernel
theorem dX5_tryChoice_77 : decode cX5_tryChoice 77 = .ok (.iconst 0, 1) := by decide +kernel
theorem dX5_tryChoice_78 : decode cX5_tryChoice 78 = .ok (.ior, 1) := by decide +kernel
theorem dX5_tryChoice_79 : decode cX5_tryChoice 79 = .ok (.iastore, 1) := by decide +kernel
theorem dX5_tryChoice_80 : decode cX5_tryChoice 80 = .ok (.iinc 4 1, 3) := by decide +kernel
theorem dX5_tryChoice_83 : decode cX5_tryChoice 83 = .ok (.goto (-41), 3) := by decide +kernel
theorem dX5_tryChoice_86 : decode cX5_tryChoice 86 = .ok (.aload_n 1, 1) := by decide +kernel
theorem dX5_tryChoice_87 : decode cX5_tryChoice 87 = .ok (.iload_n 2, 1) := by decide +kernel
theorem dX5_tryChoice_88 : decode cX5_tryChoice 88 = .ok (.iload_n 3, 1) := by decide +kernel
theorem dX5_tryChoice_89 : decode cX5_tryChoice 89 = .ok (.ishr, 1) := by decide +kernel
theorem dX5_tryChoice_90 : decode cX5_tryChoice 90 = .ok (.iconst 1, 1) := by decide +kernel
theorem dX5_tryChoice_91 : decode cX5_tryChoice 91 = .ok (.iand, 1) := by decide +kernel
theorem dX5_tryChoice_92 : decode cX5_tryChoice 92 = .ok (.iconst 1, 1) := by decide +kernel
theorem dX5_tryChoice_93 : decode cX5_tryChoice 93 = .ok (.if_icmp .ne 14, 3) := by decide +kernel
theorem dX5_tryChoice_96 : decode cX5_tryChoice 96 = .ok (.iconst 1, 1) := by decide +kernel
theorem dX5_tryChoice_97 : decode cX5_tryChoice 97 = .ok (.aload_n 0, 1) := by decide +kernel
theorem dX5_tryChoice_98 : decode cX5_tryChoice 98 = .ok (.getfield 38, 3) := by decide +kernel
theorem dX5_tryChoice_101 : decode cX5_tryChoice 101 = .ok (.ishl, 1) := by decide +kernel
theorem dX5_tryChoice_102 : decode cX5_tryChoice 102 = .ok (.iconst 1, 1) := by decide +kernel
theorem dX5_tryChoice_103 : decode cX5_tryChoice 103 = .ok (.isub, 1) := by decide +kernel
theorem dX5_tryChoice_104 : decode cX5_tryChoice 104 = .ok (.goto 4, 3) := by decide +kernel
theorem dX5_tryChoice_107 : decode cX5_tryChoice 107 = .ok (.iconst 0, 1) := by decide +kernel
theorem dX5_tryChoice_108 : decode cX5_tryChoice 108 = .ok (.invokevirtual 84, 3) := by decide +kernel
theorem dX5_tryChoice_111 : decode cX5_tryChoice 111 = .ok (.iinc 3 1, 3) := by decide +kernel
theorem dX5_tryChoice_114 : decode cX5_tryChoice 114 = .ok (.goto (-87), 3) := by decide +kernel
theorem dX5_tryChoice_117 : decode cX5_tryChoice 117 = .ok (.iconst 0, 1) := by decide +kernel
theorem dX5_tryChoice_118 : decode cX5_tryChoice 118 = .ok (.istore_n 3, 1) := by decide +kernel
theorem dX5_tryChoice_119 : decode cX5_tryChoice 119 = .ok (.iload_n 3, 1) := by decide +kernel
theorem dX5_tryChoice_120 : decode cX5_tryChoice 120 = .ok (.aload_n 0, 1) := by decide +kernel
theorem dX5_tryChoice_121 : decode cX5_tryChoice 121 = .ok (.getfield 38, 3) := by decide +kernel
theorem dX5_tryChoice_124 : decode cX5_tryChoice 124 = .ok (.if_icmp .ge 23, 3) := by decide +kernel
theorem dX5_tryChoice_127 : decode cX5_tryChoice 127 = .ok (.aload_n 0, 1) := by decide +kernel
theorem dX5_tryChoice_128 : decode cX5_tryChoice 128 = .ok (.getfield 15, 3) := by decide +kernel
theorem dX5_tryChoice_131 : decode cX5_tryChoice 131 = .ok (.iload_n 3, 1) := by decide +kernel
theorem dX5_tryChoice_132 : decode cX5_tryChoice 132 = .ok (.aaload, 1) := by decide +kernel
theorem dX5_tryChoice_133 : decode cX5_tryChoice 133 = .ok (.iload_n 2, 1) := by decide +kernel
theorem dX5_tryChoice_134 : decode cX5_tryChoice 134 = .ok (.aload_n 1, 1) := by decide +kernel
theorem dX5_tryChoice_135 : decode cX5_tryChoice 135 = .ok (.getfield 87, 3) := by decide +kernel
theorem dX5_tryChoice_138 : decode cX5_tryChoice 138 = .ok (.iload_n 3, 1) := by decide +kernel
theorem dX5_tryChoice_139 : decode cX5_tryChoice 139 = .ok (.iaload, 1) := by decide +kernel
theorem dX5_tryChoice_140 : decode cX5_tryChoice 140 = .ok (.iastore, 1) := by decide +kernel
theorem dX5_tryChoice_141 : decode cX5_tryChoice 141 = .ok (.iinc 3 1, 3) := by decide +kernel
theorem dX5_tryChoice_144 : decode cX5_tryChoice 144 = .ok (.goto (-25), 3) := by decide +kernel
theorem dX5_tryChoice_147 : decode cX5_tryChoice 147 = .ok (.return_, 1) := by decide +kernel
theorem dX5_choose_0 : decode cX5_choose 0 = .ok (.aload_n 0, 1) := by decide +kernel
theorem dX5_choose_1 : decode cX5_choose 1 = .ok (.iload_n 1, 1) := by decide +kernel
theorem dX5_choose_2 : decode cX5_choose 2 = .ok (.invokevirtual 90, 3) := by decide +kernel
theorem dX5_choose_5 : decode cX5_choose 5 = .ok (.istore_n 2, 1) := by decide +kernel
theorem dX5_choose_6 : decode cX5_choose 6 = .ok (.iload_n 2, 1) := by decide +kernel
theorem dX5_choose_7 : decode cX5_choose 7 = .ok (.aload_n 0, 1) := by decide +kernel
theorem dX5_choose_8 : decode cX5_choose 8 = .ok (.getfield 47, 3) := by decide +kernel
theorem dX5_choose_11 : decode cX5_choose 11 = .ok (.if_icmp .le 4, 3) := by decide +kernel
theorem dX5_choose_14 : decode cX5_choose 14 = .ok (.return_, 1) := by decide +kernel
theorem dX5_choose_15 : decode cX5_choose 15 = .ok (.iload_n 1, 1) := by decide +kernel
theorem dX5_choose_16 : decode cX5_choose 16 = .ok (.aload_n 0, 1) := by decide +kernel
theorem dX5_choose_17 : decode cX5_choose 17 = .ok (.getfield 41, 3) := by decide +kernel
theorem dX5_choose_20 : decode cX5_choose 20 = .ok (.if_icmp .lt 9, 3) := by decide +kernel
theorem dX5_choose_23 : decode cX5_choose 23 = .ok (.aload_n 0, 1) := by decide +kernel
theorem dX5_choose_24 : decode cX5_choose 24 = .ok (.iload_n 2, 1) := by decide +kernel
theorem dX5_choose_25 : decode cX5_choose 25 = .ok (.invokevirtual 93, 3) := by decide +kernel
theorem dX5_choose_28 : decode cX5_choose 28 = .ok (.return_, 1) := by decide +kernel
theorem dX5_choose_29 : decode cX5_choose 29 = .ok (.aload_n 0, 1) := by decide +kernel
theorem dX5_choose_30 : decode cX5_choose 30 = .ok (.iload_n 1, 1) := by decide +kernel
theorem dX5_choose_31 : decode cX5_choose 31 = .ok (.invokevirtual 96, 3) := by decide +kernel
theorem dX5_choose_34 : decode cX5_choose 34 = .ok (.iconst (-1), 1) := by decide +kernel
theorem dX5_choose_35 : decode cX5_choose 35 = .ok (.ixor, 1) := by decide +kernel
theorem dX5_choose_36 : decode cX5_choose 36 = .ok (.istore_n 3, 1) := by decide +kernel
theorem dX5_choose_37 : decode cX5_choose 37 = .ok (.iconst 0, 1) := by decide +kernel
theorem dX5_choose_38 : decode cX5_choose 38 = .ok (.istore 4, 2) := by decide +kernel
theorem dX5_choose_40 : decode cX5_choose 40 = .ok (.iload 4, 2) := by decide +kernel
theorem dX5_choose_42 : decode cX5_choose 42 = .ok (.aload_n 0, 1) := by decide +kernel
theorem dX5_choose_43 : decode cX5_choose 43 = .ok (.getfield 34, 3) := by decide +kernel
theorem dX5_choose_46 : decode cX5_choose 46 = .ok (.if_icmp .ge 36, 3) := by decide +kernel
theorem dX5_choose_49 : decode cX5_choose 49 = .ok (.aload_n 0, 1) := by decide +kernel
theorem dX5_choose_50 : decode cX5_choose 50 = .ok (.getfield 21, 3) := by decide +kernel
theorem dX5_choose_53 : decode cX5_choose 53 = .ok (.iload 4, 2) := by decide +kernel
theorem dX5_choose_55 : decode cX5_choose 55 = .ok (.iaload, 1) := by decide +kernel
theorem dX5_choose_56 : decode cX5_choose 56 = .ok (.iload_n 3, 1) := by decide +kernel
theorem dX5_choose_57 : decode cX5_choose 57 = .ok (.iand, 1) := by decide +kernel
theorem dX5_choose_58 : decode cX5_choose 58 = .ok (.ifCond .ne 18, 3) := by decide +kernel
theorem dX5_choose_61 : decode cX5_choose 61 = .ok (.aload_n 0, 1) := by decide +kernel
theorem dX5_choose_62 : decode cX5_choose 62 = .ok (.getfield 28, 3) := by decide +kernel
theorem dX5_choose_65 : decode cX5_choose 65 = .ok (.iload_n 1, 1) := by decide +kernel
theorem dX5_choose_66 : decode cX5_choose 66 = .ok (.iload 4, 2) := by decide +kernel
theorem dX5_choose_68 : decode cX5_choose 68 = .ok (.iastore, 1) := by decide +kernel
theorem dX5_choose_69 : decode cX5_choose 69 = .ok (.aload_n 0, 1) := by decide +kernel
theorem dX5_choose_70 : decode cX5_choose 70 = .ok (.iload_n 1, 1) := by decide +kernel
theorem dX5_choose_71 : decode cX5_choose 71 = .ok (.iconst 1, 1) := by decide +kernel
theorem dX5_choose_72 : decode cX5_choose 72 = .ok (.iadd, 1) := by decide +kernel
theorem dX5_choose_73 : decode cX5_choose 73 = .ok (.invokevirtual 74, 3) := by decide +kernel
theorem dX5_choose_76 : decode cX5_choose 76 = .ok (.iinc 4 1, 3) := by decide +kernel
theorem dX5_choose_79 : decode cX5_choose 79 = .ok (.goto (-39), 3) := by decide +kernel
theorem dX5_choose_82 : decode cX5_choose 82 = .ok (.return_, 1) := by decide +kernel
theorem dX5_waitedAtLeast_0 : decode cX5_waitedAtLeast 0 = .ok (.iconst 1, 1) := by decide +kernel
theorem dX5_waitedAtLeast_1 : decode cX5_waitedAtLeast 1 = .ok (.aload_n 0, 1) := by decide +kernel
theorem dX5_waitedAtLeast_2 : decode cX5_waitedAtLeast 2 = .ok (.getfield 41, 3) := by decide +kernel
theorem dX5_waitedAtLeast_5 : decode cX5_waitedAtLeast 5 = .ok (.ishl, 1) := by decide +kernel
theorem dX5_waitedAtLeast_6 : decode cX5_waitedAtLeast 6 = .ok (.iconst 1, 1) := by decide +kernel
theorem dX5_waitedAtLeast_7 : decode cX5_waitedAtLeast 7 = .ok (.iload_n 1, 1) := by decide +kernel
theorem dX5_waitedAtLeast_8 : decode cX5_waitedAtLeast 8 = .ok (.ishl, 1) := by decide +kernel
theorem dX5_waitedAtLeast_9 : decode cX5_waitedAtLeast 9 = .ok (.isub, 1) := by decide +kernel
theorem dX5_waitedAtLeast_10 : decode cX5_waitedAtLeast 10 = .ok (.istore_n 2, 1) := by decide +kernel
theorem dX5_waitedAtLeast_11 : decode cX5_waitedAtLeast 11 = .ok (.iconst 0, 1) := by decide +kernel
theorem dX5_waitedAtLeast_12 : decode cX5_waitedAtLeast 12 = .ok (.istore_n 3, 1) := by decide +kernel
theorem dX5_waitedAtLeast_13 : decode cX5_waitedAtLeast 13 = .ok (.iconst 0, 1) := by decide +kernel
theorem dX5_waitedAtLeast_14 : decode cX5_waitedAtLeast 14 = .ok (.istore 4, 2) := by decide +kernel
theorem dX5_waitedAtLeast_16 : decode cX5_waitedAtLeast 16 = .ok (.iload 4, 2) := by decide +kernel
theorem dX5_waitedAtLeast_18 : decode cX5_waitedAtLeast 18 = .ok (.aload_n 0, 1) := by decide +kernel
theorem dX5_waitedAtLeast_19 : decode cX5_waitedAtLeast 19 = .ok (.getfield 38, 3) := by decide +kernel
theorem dX5_waitedAtLeast_22 : decode cX5_waitedAtLeast 22 = .ok (.if_icmp .ge 29, 3) := by decide +kernel
theorem dX5_waitedAtLeast_25 : decode cX5_waitedAtLeast 25 = .ok (.iload_n 3, 1) := by decide +kernel
theorem dX5_waitedAtLeast_26 : decode cX5_waitedAtLeast 26 = .ok (.aload_n 0, 1) := by decide +kernel
theorem dX5_waitedAtLeast_27 : decode cX5_waitedAtLeast 27 = .ok (.getfield 15, 3) := by decide +kernel
theorem dX5_waitedAtLeast_30 : decode cX5_waitedAtLeast 30 = .ok (.iload 4, 2) := by decide +kernel
theorem dX5_waitedAtLeast_32 : decode cX5_waitedAtLeast 32 = .ok (.aaload, 1) := by decide +kernel
theorem dX5_waitedAtLeast_33 : decode cX5_waitedAtLeast 33 = .ok (.aload_n 0, 1) := by decide +kernel
theorem dX5_waitedAtLeast_34 : decode cX5_waitedAtLeast 34 = .ok (.iload 4, 2) := by decide +kernel
theorem dX5_waitedAtLeast_36 : decode cX5_waitedAtLeast 36 = .ok (.iload_n 1, 1) := by decide +kernel
theorem dX5_waitedAtLeast_37 : decode cX5_waitedAtLeast 37 = .ok (.invokevirtual 99, 3) := by decide +kernel
theorem dX5_waitedAtLeast_40 : decode cX5_waitedAtLeast 40 = .ok (.iload_n 2, 1) := by decide +kernel
theorem dX5_waitedAtLeast_41 : decode cX5_waitedAtLeast 41 = .ok (.ior, 1) := by decide +kernel
theorem dX5_waitedAtLeast_42 : decode cX5_waitedAtLeast 42 = .ok (.iaload, 1) := by decide +kernel
theorem dX5_waitedAtLeast_43 : decode cX5_waitedAtLeast 43 = .ok (.iadd, 1) := by decide +kernel
theorem dX5_waitedAtLeast_44 : decode cX5_waitedAtLeast 44 = .ok (.istore_n 3, 1) := by decide +kernel
theorem dX5_waitedAtLeast_45 : decode cX5_waitedAtLeast 45 = .ok (.iinc 4 1, 3) := by decide +kernel
theorem dX5_waitedAtLeast_48 : decode cX5_waitedAtLeast 48 = .ok (.goto (-32), 3) := by decide +kernel
theorem dX5_waitedAtLeast_51 : decode cX5_waitedAtLeast 51 = .ok (.iload_n 3, 1) := by decide +kernel
theorem dX5_waitedAtLeast_52 : decode cX5_waitedAtLeast 52 = .ok (.ireturn, 1) := by decide +kernel
theorem dX5_waitingRoads_0 : decode cX5_waitingRoads 0 = .ok (.iconst 0, 1) := by decide +kernel
theorem dX5_waitingRoads_1 : decode cX5_waitingRoads 1 = .ok (.istore_n 2, 1) := by decide +kernel
theorem dX5_waitingRoads_2 : decode cX5_waitingRoads 2 = .ok (.iconst 0, 1) := by decide +kernel
theorem dX5_waitingRoads_3 : decode cX5_waitingRoads 3 = .ok (.istore_n 3, 1) := by decide +kernel
theorem dX5_waitingRoads_4 : decode cX5_waitingRoads 4 = .ok (.iload_n 3, 1) := by decide +kernel
theorem dX5_waitingRoads_5 : decode cX5_waitingRoads 5 = .ok (.aload_n 0, 1) := by decide +kernel
theorem dX5_waitingRoads_6 : decode cX5_waitingRoads 6 = .ok (.getfield 38, 3) := by decide +kernel
theorem dX5_waitingRoads_9 : decode cX5_waitingRoads 9 = .ok (.if_icmp .ge 31, 3) := by decide +kernel
theorem dX5_waitingRoads_12 : decode cX5_waitingRoads 12 = .ok (.iload_n 2, 1) := by decide +kernel
theorem dX5_waitingRoads_13 : decode cX5_waitingRoads 13 = .ok (.aload_n 0, 1) := by decide +kernel
theorem dX5_waitingRoads_14 : decode cX5_waitingRoads 14 = .ok (.getfield 18, 3) := by decide +kernel
theorem dX5_waitingRoads_17 : decode cX5_waitingRoads 17 = .ok (.iload_n 3, 1) := by decide +kernel
theorem dX5_waitingRoads_18 : decode cX5_waitingRoads 18 = .ok (.aaload, 1) := by decide +kernel
theorem dX5_waitingRoads_19 : decode cX5_waitingRoads 19 = .ok (.aload_n 0, 1) := by decide +kernel
theorem dX5_waitingRoads_20 : decode cX5_waitingRoads 20 = .ok (.iload_n 3, 1) := by decide +kernel
theorem dX5_waitingRoads_21 : decode cX5_waitingRoads 21 = .ok (.iload_n 1, 1) := by decide +kernel
theorem dX5_waitingRoads_22 : decode cX5_waitingRoads 22 = .ok (.invokevirtual 99, 3) := by decide +kernel
theorem dX5_waitingRoads_25 : decode cX5_waitingRoads 25 = .ok (.iaload, 1) := by decide +kernel
theorem dX5_waitingRoads_26 : decode cX5_waitingRoads 26 = .ok (.iload_n 1, 1) := by decide +kernel
theorem dX5_waitingRoads_27 : decode cX5_waitingRoads 27 = .ok (.ishr, 1) := by decide +kernel
theorem dX5_waitingRoads_28 : decode cX5_waitingRoads 28 = .ok (.iconst 1, 1) := by decide +kernel
theorem dX5_waitingRoads_29 : decode cX5_waitingRoads 29 = .ok (.iand, 1) := by decide +kernel
theorem dX5_waitingRoads_30 : decode cX5_waitingRoads 30 = .ok (.iload_n 3, 1) := by decide +kernel
theorem dX5_waitingRoads_31 : decode cX5_waitingRoads 31 = .ok (.ishl, 1) := by decide +kernel
theorem dX5_waitingRoads_32 : decode cX5_waitingRoads 32 = .ok (.ior, 1) := by decide +kernel
theorem dX5_waitingRoads_33 : decode cX5_waitingRoads 33 = .ok (.istore_n 2, 1) := by decide +kernel
theorem dX5_waitingRoads_34 : decode cX5_waitingRoads 34 = .ok (.iinc 3 1, 3) := by decide +kernel
theorem dX5_waitingRoads_37 : decode cX5_waitingRoads 37 = .ok (.goto (-33), 3) := by decide +kernel
theorem dX5_waitingRoads_40 : decode cX5_waitingRoads 40 = .ok (.iload_n 2, 1) := by decide +kernel
theorem dX5_waitingRoads_41 : decode cX5_waitingRoads 41 = .ok (.ireturn, 1) := by decide +kernel
theorem dX5_choiceOf_0 : decode cX5_choiceOf 0 = .ok (.iconst 0, 1) := by decide +kernel
theorem dX5_choiceOf_1 : decode cX5_choiceOf 1 = .ok (.istore_n 3, 1) := by decide +kernel
theorem dX5_choiceOf_2 : decode cX5_choiceOf 2 = .ok (.iconst 0, 1) := by decide +kernel
theorem dX5_choiceOf_3 : decode cX5_choiceOf 3 = .ok (.istore 4, 2) := by decide +kernel
theorem dX5_choiceOf_5 : decode cX5_choiceOf 5 = .ok (.iload 4, 2) := by decide +kernel
theorem dX5_choiceOf_7 : decode cX5_choiceOf 7 = .ok (.iload_n 2, 1) := by decide +kernel
theorem dX5_choiceOf_8 : decode cX5_choiceOf 8 = .ok (.if_icmp .ge 31, 3) := by decide +kernel
theorem dX5_choiceOf_11 : decode cX5_choiceOf 11 = .ok (.iload_n 3, 1) := by decide +kernel
theorem dX5_choiceOf_12 : decode cX5_choiceOf 12 = .ok (.aload_n 0, 1) := by decide +kernel
theorem dX5_choiceOf_13 : decode cX5_choiceOf 13 = .ok (.getfield 21, 3) := by decide +kernel
theorem dX5_choiceOf_16 : decode cX5_choiceOf 16 = .ok (.aload_n 0, 1) := by decide +kernel
theorem dX5_choiceOf_17 : decode cX5_choiceOf 17 = .ok (.getfield 28, 3) := by decide +kernel
theorem dX5_choiceOf_20 : decode cX5_choiceOf 20 = .ok (.iload 4, 2) := by decide +kernel
theorem dX5_choiceOf_22 : decode cX5_choiceOf 22 = .ok (.iaload, 1) := by decide +kernel
theorem dX5_choiceOf_23 : decode cX5_choiceOf 23 = .ok (.iaload, 1) := by decide +kernel
theorem dX5_choiceOf_24 : decode cX5_choiceOf 24 = .ok (.iload_n 1, 1) := by decide +kernel
theorem dX5_choiceOf_25 : decode cX5_choiceOf 25 = .ok (.ishr, 1) := by decide +kernel
theorem dX5_choiceOf_26 : decode cX5_choiceOf 26 = .ok (.iconst 1, 1) := by decide +kernel
theorem dX5_choiceOf_27 : decode cX5_choiceOf 27 = .ok (.iand, 1) := by decide +kernel
theorem dX5_choiceOf_28 : decode cX5_choiceOf 28 = .ok (.iload 4, 2) := by decide +kernel
theorem dX5_choiceOf_30 : decode cX5_choiceOf 30 = .ok (.ishl, 1) := by decide +kernel
theorem dX5_choiceOf_31 : decode cX5_choiceOf 31 = .ok (.ior, 1) := by decide +kernel
theorem dX5_choiceOf_32 : decode cX5_choiceOf 32 = .ok (.istore_n 3, 1) := by decide +kernel
theorem dX5_choiceOf_33 : decode cX5_choiceOf 33 = .ok (.iinc 4 1, 3) := by decide +kernel
theorem dX5_choiceOf_36 : decode cX5_choiceOf 36 = .ok (.goto (-31), 3) := by decide +kernel
theorem dX5_choiceOf_39 : decode cX5_choiceOf 39 = .ok (.iload_n 3, 1) := by decide +kernel
theorem dX5_choiceOf_40 : decode cX5_choiceOf 40 = .ok (.ireturn, 1) := by decide +kernel
theorem dX5_weigh_0 : decode cX5_weigh 0 = .ok (.aload_n 0, 1) := by decide +kernel
theorem dX5_weigh_1 : decode cX5_weigh 1 = .ok (.getfield 44, 3) := by decide +kernel
theorem dX5_weigh_4 : decode cX5_weigh 4 = .ok (.istore_n 2, 1) := by decide +kernel
theorem dX5_weigh_5 : decode cX5_weigh 5 = .ok (.iconst 0, 1) := by decide +kernel
theorem dX5_weigh_6 : decode cX5_weigh 6 = .ok (.istore_n 3, 1) := by decide +kernel
theorem dX5_weigh_7 : decode cX5_weigh 7 = .ok (.iload_n 3, 1) := by decide +kernel
theorem dX5_weigh_8 : decode cX5_weigh 8 = .ok (.aload_n 0, 1) := by decide +kernel
theorem dX5_weigh_9 : decode cX5_weigh 9 = .ok (.getfield 41, 3) := by decide +kernel
theorem dX5_weigh_12 : decode cX5_weigh 12 = .ok (.if_icmp .ge 25, 3) := by decide +kernel
theorem dX5_weigh_15 : decode cX5_weigh 15 = .ok (.iload_n 2, 1) := by decide +kernel
theorem dX5_weigh_16 : decode cX5_weigh 16 = .ok (.aload_n 0, 1) := by decide +kernel
theorem dX5_weigh_17 : decode cX5_weigh 17 = .ok (.getfield 25, 3) := by decide +kernel
theorem dX5_weigh_20 : decode cX5_weigh 20 = .ok (.aload_n 0, 1) := by decide +kernel
theorem dX5_weigh_21 : decode cX5_weigh 21 = .ok (.getfield 28, 3) := by decide +kernel
theorem dX5_weigh_24 : decode cX5_weigh 24 = .ok (.iload_n 3, 1) := by decide +kernel
theorem dX5_weigh_25 : decode cX5_weigh 25 = .ok (.iaload, 1) := by decide +kernel
theorem dX5_weigh_26 : decode cX5_weigh 26 = .ok (.iaload, 1) := by decide +kernel
theorem dX5_weigh_27 : decode cX5_weigh 27 = .ok (.invokestatic 103, 3) := by decide +kernel
theorem dX5_weigh_30 : decode cX5_weigh 30 = .ok (.istore_n 2, 1) := by decide +kernel
theorem dX5_weigh_31 : decode cX5_weigh 31 = .ok (.iinc 3 1, 3) := by decide +kernel
theorem dX5_weigh_34 : decode cX5_weigh 34 = .ok (.goto (-27), 3) := by decide +kernel
theorem dX5_weigh_37 : decode cX5_weigh 37 = .ok (.iload_n 1, 1) := by decide +kernel
theorem dX5_weigh_38 : decode cX5_weigh 38 = .ok (.aload_n 0, 1) := by decide +kernel
theorem dX5_weigh_39 : decode cX5_weigh 39 = .ok (.getfield 47, 3) := by decide +kernel
theorem dX5_weigh_42 : decode cX5_weigh 42 = .ok (.if_icmp .lt 11, 3) := by decide +kernel
theorem dX5_weigh_45 : decode cX5_weigh 45 = .ok (.iload_n 2, 1) := by decide +kernel
theorem dX5_weigh_46 : decode cX5_weigh 46 = .ok (.aload_n 0, 1) := by decide +kernel
theorem dX5_weigh_47 : decode cX5_weigh 47 = .ok (.getfield 50, 3) := by decide +kernel
theorem dX5_weigh_50 : decode cX5_weigh 50 = .ok (.if_icmp .le 46, 3) := by decide +kernel
theorem dX5_weigh_53 : decode cX5_weigh 53 = .ok (.aload_n 0, 1) := by decide +kernel
theorem dX5_weigh_54 : decode cX5_weigh 54 = .ok (.iload_n 1, 1) := by decide +kernel
theorem dX5_weigh_55 : decode cX5_weigh 55 = .ok (.putfield 47, 3) := by decide +kernel
theorem dX5_weigh_58 : decode cX5_weigh 58 = .ok (.aload_n 0, 1) := by decide +kernel
theorem dX5_weigh_59 : decode cX5_weigh 59 = .ok (.iload_n 2, 1) := by decide +kernel
theorem dX5_weigh_60 : decode cX5_weigh 60 = .ok (.putfield 50, 3) := by decide +kernel
theorem dX5_weigh_63 : decode cX5_weigh 63 = .ok (.iconst 0, 1) := by decide +kernel
theorem dX5_weigh_64 : decode cX5_weigh 64 = .ok (.istore_n 3, 1) := by decide +kernel
theorem dX5_weigh_65 : decode cX5_weigh 65 = .ok (.iload_n 3, 1) := by decide +kernel
theorem dX5_weigh_66 : decode cX5_weigh 66 = .ok (.aload_n 0, 1) := by decide +kernel
theorem dX5_weigh_67 : decode cX5_weigh 67 = .ok (.getfield 41, 3) := by decide +kernel
theorem dX5_weigh_70 : decode cX5_weigh 70 = .ok (.if_icmp .ge 26, 3) := by decide +kernel
theorem dX5_weigh_73 : decode cX5_weigh 73 = .ok (.aload_n 0, 1) := by decide +kernel
theorem dX5_weigh_74 : decode cX5_weigh 74 = .ok (.getfield 31, 3) := by decide +kernel
theorem dX5_weigh_77 : decode cX5_weigh 77 = .ok (.iload_n 3, 1) := by decide +kernel
theorem dX5_weigh_78 : decode cX5_weigh 78 = .ok (.aload_n 0, 1) := by decide +kernel
theorem dX5_weigh_79 : decode cX5_weigh 79 = .ok (.getfield 21, 3) := by decide +kernel
theorem dX5_weigh_82 : decode cX5_weigh 82 = .ok (.aload_n 0, 1) := by decide +kernel
theorem dX5_weigh_83 : decode cX5_weigh 83 = .ok (.getfield 28, 3) := by decide +kernel
theorem dX5_weigh_86 : decode cX5_weigh 86 = .ok (.iload_n 3, 1) := by decide +kernel
theorem dX5_weigh_87 : decode cX5_weigh 87 = .ok (.iaload, 1) := by decide +kernel
theorem dX5_weigh_88 : decode cX5_weigh 88 = .ok (.iaload, 1) := by decide +kernel
theorem dX5_weigh_89 : decode cX5_weigh 89 = .ok (.iastore, 1) := by decide +kernel
theorem dX5_weigh_90 : decode cX5_weigh 90 = .ok (.iinc 3 1, 3) := by decide +kernel
theorem dX5_weigh_93 : decode cX5_weigh 93 = .ok (.goto (-28), 3) := by decide +kernel
theorem dX5_weigh_96 : decode cX5_weigh 96 = .ok (.return_, 1) := by decide +kernel
theorem dX6_init_0 : decode cX6_init 0 = .ok (.aload_n 0, 1) := by decide +kernel
theorem dX6_init_1 : decode cX6_init 1 = .ok (.invokespecial 1, 3) := by decide +kernel
theorem dX6_init_4 : decode cX6_init 4 = .ok (.aload_n 0, 1) := by decide +kernel
theorem dX6_init_5 : decode cX6_init 5 = .ok (.bipush 32, 2) := by decide +kernel
theorem dX6_init_7 : decode cX6_init 7 = .ok (.newarray .long, 2) := by decide +kernel
theorem dX6_init_9 : decode cX6_init 9 = .ok (.putfield 9, 3) := by decide +kernel
theorem dX6_init_12 : decode cX6_init 12 = .ok (.aload_n 0, 1) := by decide +kernel
theorem dX6_init_13 : decode cX6_init 13 = .ok (.aload_n 1, 1) := by decide +kernel
theorem dX6_init_14 : decode cX6_init 14 = .ok (.putfield 13, 3) := by decide +kernel
theorem dX6_init_17 : decode cX6_init 17 = .ok (.return_, 1) := by decide +kernel
theorem dX6_sumFor_0 : decode cX6_sumFor 0 = .ok (.iconst 0, 1) := by decide +kernel
theorem dX6_sumFor_1 : decode cX6_sumFor 1 = .ok (.istore 4, 2) := by decide +kernel
theorem dX6_sumFor_3 : decode cX6_sumFor 3 = .ok (.iconst 0, 1) := by decide +kernel
theorem dX6_sumFor_4 : decode cX6_sumFor 4 = .ok (.istore 5, 2) := by decide +kernel
theorem dX6_sumFor_6 : decode cX6_sumFor 6 = .ok (.iload 5, 2) := by decide +kernel
theorem dX6_sumFor_8 : decode cX6_sumFor 8 = .ok (.aload_n 0, 1) := by decide +kernel
theorem dX6_sumFor_9 : decode cX6_sumFor 9 = .ok (.getfield 13, 3) := by decide +kernel
theorem dX6_sumFor_12 : decode cX6_sumFor 12 = .ok (.arraylength, 1) := by decide +kernel
theorem dX6_sumFor_13 : decode cX6_sumFor 13 = .ok (.if_icmp .ge 217, 3) := by decide +kernel
theorem dX6_sumFor_16 : decode cX6_sumFor 16 = .ok (.aload_n 0, 1) := by decide +kernel
theorem dX6_sumFor_17 : decode cX6_sumFor 17 = .ok (.getfield 13, 3) := by decide +kernel
theorem dX6_sumFor_20 : decode cX6_sumFor 20 = .ok (.iload 5, 2) := by decide +kernel
theorem dX6_sumFor_22 : decode cX6_sumFor 22 = .ok (.iaload, 1) := by decide +kernel
theorem dX6_sumFor_23 : decode cX6_sumFor 23 = .ok (.istore 6, 2) := by decide +kernel
theorem dX6_sumFor_25 : decode cX6_sumFor 25 = .ok (.iload 6, 2) := by decide +kernel
theorem dX6_sumFor_27 : decode cX6_sumFor 27 = .ok (.bipush (-20), 2) := by decide +kernel
theorem dX6_sumFor_29 : decode cX6_sumFor 29 = .ok (.if_icmp .le 45, 3) := by decide +kernel
theorem dX6_sumFor_32 : decode cX6_sumFor 32 = .ok (.iload 4, 2) := by decide +kernel
theorem dX6_sumFor_34 : decode cX6_sumFor 34 = .ok (.bipush 32, 2) := by decide +kernel
theorem dX6_sumFor_36 : decode cX6_sumFor 36 = .ok (.if_icmp .ge 188, 3) := by decide +kernel
theorem dX6_sumFor_39 : decode cX6_sumFor 39 = .ok (.aload_n 0, 1) := by decide +kernel
theorem dX6_sumFor_40 : decode cX6_sumFor 40 = .ok (.getfield 9, 3) := by decide +kernel
theorem dX6_sumFor_43 : decode cX6_sumFor 43 = .ok (.iload 4, 2) := by decide +kernel
theorem dX6_sumFor_45 : decode cX6_sumFor 45 = .ok (.iload 6, 2) := by decide +kernel
theorem dX6_sumFor_47 : decode cX6_sumFor 47 = .ok (.ifCond .lt 9, 3) := by decide +kernel
theorem dX6_sumFor_50 : decode cX6_sumFor 50 = .ok (.iload 6, 2) := by decide +kernel
theorem dX6_sumFor_52 : decode cX6_sumFor 52 = .ok (.i2l, 1) := by decide +kernel
theorem dX6_sumFor_53 : decode cX6_sumFor 53 = .ok (.goto 14, 3) := by decide +kernel
theorem dX6_sumFor_56 : decode cX6_sumFor 56 = .ok (.aload_n 1, 1) := by decide +kernel
theorem dX6_sumFor_57 : decode cX6_sumFor 57 = .ok (.bipush (-2), 2) := by decide +kernel
theorem dX6_sumFor_59 : decode cX6_sumFor 59 = .ok (.iload 6, 2) := by decide +kernel
theorem dX6_sumFor_61 : decode cX6_sumFor 61 = .ok (.isub, 1) := by decide +kernel
theorem dX6_sumFor_62 : decode cX6_sumFor 62 = .ok (.iload_n 2, 1) := by decide +kernel
theorem dX6_sumFor_63 : decode cX6_sumFor 63 = .ok (.iload_n 3, 1) := by decide +kernel
theorem dX6_sumFor_64 : decode cX6_sumFor 64 = .ok (.invokevirtual 17, 3) := by decide +kernel
theorem dX6_sumFor_67 : decode cX6_sumFor 67 = .ok (.lastore, 1) := by decide +kernel
theorem dX6_sumFor_68 : decode cX6_sumFor 68 = .ok (.iinc 4 1, 3) := by decide +kernel
theorem dX6_sumFor_71 : decode cX6_sumFor 71 = .ok (.goto 153, 3) := by decide +kernel
theorem dX6_sumFor_74 : decode cX6_sumFor 74 = .ok (.iload 6, 2) := by decide +kernel
theorem dX6_sumFor_76 : decode cX6_sumFor 76 = .ok (.bipush (-32), 2) := by decide +kernel
theorem dX6_sumFor_78 : decode cX6_sumFor 78 = .ok (.if_icmp .ne 42, 3) := by decide +kernel
theorem dX6_sumFor_81 : decode cX6_sumFor 81 = .ok (.iload 4, 2) := by decide +kernel
theorem dX6_sumFor_83 : decode cX6_sumFor 83 = .ok (.ifCond .le 37, 3) := by decide +kernel
theorem dX6_sumFor_86 : decode cX6_sumFor 86 = .ok (.aload_n 0, 1) := by decide +kernel
theorem dX6_sumFor_87 : decode cX6_sumFor 87 = .ok (.getfield 9, 3) := by decide +kernel
theorem dX6_sumFor_90 : decode cX6_sumFor 90 = .ok (.iload 4, 2) := by decide +kernel
theorem dX6_sumFor_92 : decode cX6_sumFor 92 = .ok (.iconst 1, 1) := by decide +kernel
theorem dX6_sumFor_93 : decode cX6_sumFor 93 = .ok (.isub, 1) := by decide +kernel
theorem dX6_sumFor_94 : decode cX6_sumFor 94 = .ok (.aload_n 0, 1) := by decide +kernel
theorem dX6_sumFor_95 : decode cX6_sumFor 95 = .ok (.getfield 9, 3) := by decide +kernel
theorem dX6_sumFor_98 : decode cX6_sumFor 98 = .ok (.iload 4, 2) := by decide +kernel
theorem dX6_sumFor_100 : decode cX6_sumFor 100 = .ok (.iconst 1, 1) := by decide +kernel
theorem dX6_sumFor_101 : decode cX6_sumFor 101 = .ok (.isub, 1) := by decide +kernel
theorem dX6_sumFor_102 : decode cX6_sumFor 102 = .ok (.laload, 1) := by decide +kernel
theorem dX6_sumFor_103 : decode cX6_sumFor 103 = .ok (.lconst 0, 1) := by decide +kernel
theorem dX6_sumFor_104 : decode cX6_sumFor 104 = .ok (.lcmp, 1) := by decide +kernel
theorem dX6_sumFor_105 : decode cX6_sumFor 105 = .ok (.ifCond .ne 7, 3) := by decide +kernel
theorem dX6_sumFor_108 : decode cX6_sumFor 108 = .ok (.iconst 1, 1) := by decide +kernel
theorem dX6_sumFor_109 : decode cX6_sumFor 109 = .ok (.goto 4, 3) := by decide +kernel
theorem dX6_sumFor_112 : decode cX6_sumFor 112 = .ok (.iconst 0, 1) := by decide +kernel
theorem dX6_sumFor_113 : decode cX6_sumFor 113 = .ok (.invokestatic 23, 3) := by decide +kernel
theorem dX6_sumFor_116 : decode cX6_sumFor 116 = .ok (.lastore, 1) := by decide +kernel
theorem dX6_sumFor_117 : decode cX6_sumFor 117 = .ok (.goto 107, 3) := by decide +kernel
theorem dX6_sumFor_120 : decode cX6_sumFor 120 = .ok (.iload 6, 2) := by decide +kernel
theorem dX6_sumFor_122 : decode cX6_sumFor 122 = .ok (.bipush (-33), 2) := by decide +kernel
theorem dX6_sumFor_124 : decode cX6_sumFor 124 = .ok (.if_icmp .ne 18, 3) := by decide +kernel
theorem dX6_sumFor_127 : decode cX6_sumFor 127 = .ok (.iload 4, 2) := by decide +kernel
theorem dX6_sumFor_129 : decode cX6_sumFor 129 = .ok (.ifCond .le 13, 3) := by decide +kernel
theorem dX6_sumFor_132 : decode cX6_sumFor 132 = .ok (.aload_n 0, 1) := by decide +kernel
theorem dX6_sumFor_133 : decode cX6_sumFor 133 = .ok (.getfield 9, 3) := by decide +kernel
theorem dX6_sumFor_136 : decode cX6_sumFor 136 = .ok (.iload 4, 2) := by decide +kernel
theorem dX6_sumFor_138 : decode cX6_sumFor 138 = .ok (.iconst 1, 1) := by decide +kernel
theorem dX6_sumFor_139 : decode cX6_sumFor 139 = .ok (.isub, 1) := by decide +kernel
theorem dX6_sumFor_140 : decode cX6_sumFor 140 = .ok (.laload, 1) := by decide +kernel
theorem dX6_sumFor_141 : decode cX6_sumFor 141 = .ok (.lreturn, 1) := by decide +kernel
theorem dX6_sumFor_142 : decode cX6_sumFor 142 = .ok (.iload 6, 2) := by decide +kernel
theorem dX6_sumFor_144 : decode cX6_sumFor 144 = .ok (.bipush (-34), 2) := by decide +kernel
theorem dX6_sumFor_146 : decode cX6_sumFor 146 = .ok (.if_icmp .ne 39, 3) := by decide +kernel
theorem dX6_sumFor_149 : decode cX6_sumFor 149 = .ok (.iload 4, 2) := by decide +kernel
theorem dX6_sumFor_151 : decode cX6_sumFor 151 = .ok (.iconst 1, 1) := by decide +kernel
theorem dX6_sumFor_152 : decode cX6_sumFor 152 = .ok (.if_icmp .le 33, 3) := by decide +kernel
theorem dX6_sumFor_155 : decode cX6_sumFor 155 = .ok (.aload_n 0, 1) := by decide +kernel
theorem dX6_sumFor_156 : decode cX6_sumFor 156 = .ok (.getfield 9, 3) := by decide +kernel
theorem dX6_sumFor_159 : decode cX6_sumFor 159 = .ok (.iload 4, 2) := by decide +kernel
theorem dX6_sumFor_161 : decode cX6_sumFor 161 = .ok (.iconst 1, 1) := by decide +kernel
theorem dX6_sumFor_162 : decode cX6_sumFor 162 = .ok (.isub, 1) := by decide +kernel
theorem dX6_sumFor_163 : decode cX6_sumFor 163 = .ok (.laload, 1) := by decide +kernel
theorem dX6_sumFor_164 : decode cX6_sumFor 164 = .ok (.lconst 0, 1) := by decide +kernel
theorem dX6_sumFor_165 : decode cX6_sumFor 165 = .ok (.lcmp, 1) := by decide +kernel
theorem dX6_sumFor_166 : decode cX6_sumFor 166 = .ok (.ifCond .eq 13, 3) := by decide +kernel
theorem dX6_sumFor_169 : decode cX6_sumFor 169 = .ok (.aload_n 0, 1) := by decide +kernel
theorem dX6_sumFor_170 : decode cX6_sumFor 170 = .ok (.getfield 9, 3) := by decide +kernel
theorem dX6_sumFor_173 : decode cX6_sumFor 173 = .ok (.iload 4, 2) := by decide +kernel
theorem dX6_sumFor_175 : decode cX6_sumFor 175 = .ok (.iconst 2, 1) := by decide +kernel
theorem dX6_sumFor_176 : decode cX6_sumFor 176 = .ok (.isub, 1) := by decide +kernel
theorem dX6_sumFor_177 : decode cX6_sumFor 177 = .ok (.laload, 1) := by decide +kernel
theorem dX6_sumFor_178 : decode cX6_sumFor 178 = .ok (.lreturn, 1) := by decide +kernel
theorem dX6_sumFor_179 : decode cX6_sumFor 179 = .ok (.iconst 0, 1) := by decide +kernel
theorem dX6_sumFor_180 : decode cX6_sumFor 180 = .ok (.istore 4, 2) := by decide +kernel
theorem dX6_sumFor_182 : decode cX6_sumFor 182 = .ok (.goto 42, 3) := by decide +kernel
theorem dX6_sumFor_185 : decode cX6_sumFor 185 = .ok (.iload 4, 2) := by decide +kernel
theorem dX6_sumFor_187 : decode cX6_sumFor 187 = .ok (.iconst 1, 1) := by decide +kernel
theorem dX6_sumFor_188 : decode cX6_sumFor 188 = .ok (.if_icmp .le 36, 3) := by decide +kernel
theorem dX6_sumFor_191 : decode cX6_sumFor 191 = .ok (.iinc 4 (-1), 3) := by decide +kernel
theorem dX6_sumFor_194 : decode cX6_sumFor 194 = .ok (.aload_n 0, 1) := by decide +kernel
theorem dX6_sumFor_195 : decode cX6_sumFor 195 = .ok (.getfield 9, 3) := by decide +kernel
theorem dX6_sumFor_198 : decode cX6_sumFor 198 = .ok (.iload 4, 2) := by decide +kernel
theorem dX6_sumFor_200 : decode cX6_sumFor 200 = .ok (.iconst 1, 1) := by decide +kernel
theorem dX6_sumFor_201 : decode cX6_sumFor 201 = .ok (.isub, 1) := by decide +kernel
theorem dX6_sumFor_202 : decode cX6_sumFor 202 = .ok (.iload 6, 2) := by decide +kernel
theorem dX6_sumFor_204 : decode cX6_sumFor 204 = .ok (.aload_n 0, 1) := by decide +kernel
theorem dX6_sumFor_205 : decode cX6_sumFor 205 = .ok (.getfield 9, 3) := by decide +kernel
theorem dX6_sumFor_208 : decode cX6_sumFor 208 = .ok (.iload 4, 2) := by decide +kernel
theorem dX6_sumFor_210 : decode cX6_sumFor 210 = .ok (.iconst 1, 1) := by decide +kernel
theorem dX6_sumFor_211 : decode cX6_sumFor 211 = .ok (.isub, 1) := by decide +kernel
theorem dX6_sumFor_212 : decode cX6_sumFor 212 = .ok (.laload, 1) := by decide +kernel
theorem dX6_sumFor_213 : decode cX6_sumFor 213 = .ok (.aload_n 0, 1) := by decide +kernel
theorem dX6_sumFor_214 : decode cX6_sumFor 214 = .ok (.getfield 9, 3) := by decide +kernel
theorem dX6_sumFor_217 : decode cX6_sumFor 217 = .ok (.iload 4, 2) := by decide +kernel
theorem dX6_sumFor_219 : decode cX6_sumFor 219 = .ok (.laload, 1) := by decide +kernel
theorem dX6_sumFor_220 : decode cX6_sumFor 220 = .ok (.invokestatic 27, 3) := by decide +kernel
theorem dX6_sumFor_223 : decode cX6_sumFor 223 = .ok (.lastore, 1) := by decide +kernel
theorem dX6_sumFor_224 : decode cX6_sumFor 224 = .ok (.iinc 5 1, 3) := by decide +kernel
theorem dX6_sumFor_227 : decode cX6_sumFor 227 = .ok (.goto (-221), 3) := by decide +kernel
theorem dX6_sumFor_230 : decode cX6_sumFor 230 = .ok (.lconst 0, 1) := by decide +kernel
theorem dX6_sumFor_231 : decode cX6_sumFor 231 = .ok (.lreturn, 1) := by decide +kernel
theorem dX6_joined_0 : decode cX6_joined 0 = .ok (.iload_n 0, 1) := by decide +kernel
theorem dX6_joined_1 : decode cX6_joined 1 = .ok (.tableswitch 178 (-30) (-20) #[174, 159, 144, 129, 114, 99, 85, 71, 67, 63, 59], 59) := by decide +kernel
theorem dX6_joined_60 : decode cX6_joined 60 = .ok (.lload_n 1, 1) := by decide +kernel
theorem dX6_joined_61 : decode cX6_joined 61 = .ok (.lload_n 3, 1) := by decide +kernel
theorem dX6_joined_62 : decode cX6_joined 62 = .ok (.ladd, 1) := by decide +kernel
theorem dX6_joined_63 : decode cX6_joined 63 = .ok (.lreturn, 1) := by decide +kernel
theorem dX6_joined_64 : decode cX6_joined 64 = .ok (.lload_n 1, 1) := by decide +kernel
theorem dX6_joined_65 : decode cX6_joined 65 = .ok (.lload_n 3, 1) := by decide +kernel
theorem dX6_joined_66 : decode cX6_joined 66 = .ok (.lsub, 1) := by decide +kernel
theorem dX6_joined_67 : decode cX6_joined 67 = .ok (.lreturn, 1) := by decide +kernel
theorem dX6_joined_68 : decode cX6_joined 68 = .ok (.lload_n 1, 1) := by decide +kernel
theorem dX6_joined_69 : decode cX6_joined 69 = .ok (.lload_n 3, 1) := by decide +kernel
theorem dX6_joined_70 : decode cX6_joined 70 = .ok (.lmul, 1) := by decide +kernel
theorem dX6_joined_71 : decode cX6_joined 71 = .ok (.lreturn, 1) := by decide +kernel
theorem dX6_joined_72 : decode cX6_joined 72 = .ok (.lload_n 3, 1) := by decide +kernel
theorem dX6_joined_73 : decode cX6_joined 73 = .ok (.lconst 0, 1) := by decide +kernel
theorem dX6_joined_74 : decode cX6_joined 74 = .ok (.lcmp, 1) := by decide +kernel
theorem dX6_joined_75 : decode cX6_joined 75 = .ok (.ifCond .ne 7, 3) := by decide +kernel
theorem dX6_joined_78 : decode cX6_joined 78 = .ok (.lconst 0, 1) := by decide +kernel
theorem dX6_joined_79 : decode cX6_joined 79 = .ok (.goto 6, 3) := by decide +kernel
theorem dX6_joined_82 : decode cX6_joined 82 = .ok (.lload_n 1, 1) := by decide +kernel
theorem dX6_joined_83 : decode cX6_joined 83 = .ok (.lload_n 3, 1) := by decide +kernel
theorem dX6_joined_84 : decode cX6_joined 84 = .ok (.ldiv, 1) := by decide +kernel
theorem dX6_joined_85 : decode cX6_joined 85 = .ok (.lreturn, 1) := by decide +kernel
theorem dX6_joined_86 : decode cX6_joined 86 = .ok (.lload_n 3, 1) := by decide +kernel
theorem dX6_joined_87 : decode cX6_joined 87 = .ok (.lconst 0, 1) := by decide +kernel
theorem dX6_joined_88 : decode cX6_joined 88 = .ok (.lcmp, 1) := by decide +kernel
theorem dX6_joined_89 : decode cX6_joined 89 = .ok (.ifCond .ne 7, 3) := by decide +kernel
theorem dX6_joined_92 : decode cX6_joined 92 = .ok (.lconst 0, 1) := by decide +kernel
theorem dX6_joined_93 : decode cX6_joined 93 = .ok (.goto 6, 3) := by decide +kernel
theorem dX6_joined_96 : decode cX6_joined 96 = .ok (.lload_n 1, 1) := by decide +kernel
theorem dX6_joined_97 : decode cX6_joined 97 = .ok (.lload_n 3, 1) := by decide +kernel
theorem dX6_joined_98 : decode cX6_joined 98 = .ok (.lrem, 1) := by decide +kernel
theorem dX6_joined_99 : decode cX6_joined 99 = .ok (.lreturn, 1) := by decide +kernel
theorem dX6_joined_100 : decode cX6_joined 100 = .ok (.lload_n 1, 1) := by decide +kernel
theorem dX6_joined_101 : decode cX6_joined 101 = .ok (.lload_n 3, 1) := by decide +kernel
theorem dX6_joined_102 : decode cX6_joined 102 = .ok (.lcmp, 1) := by decide +kernel
theorem dX6_joined_103 : decode cX6_joined 103 = .ok (.ifCond .ge 7, 3) := by decide +kernel
theorem dX6_joined_106 : decode cX6_joined 106 = .ok (.iconst 1, 1) := by decide +kernel
theorem dX6_joined_107 : decode cX6_joined 107 = .ok (.goto 4, 3) := by decide +kernel
theorem dX6_joined_110 : decode cX6_joined 110 = .ok (.iconst 0, 1) := by decide +kernel
theorem dX6_joined_111 : decode cX6_joined 111 = .ok (.invokestatic 23, 3) := by decide +kernel
theorem dX6_joined_114 : decode cX6_joined 114 = .ok (.lreturn, 1) := by decide +kernel
theorem dX6_joined_115 : decode cX6_joined 115 = .ok (.lload_n 1, 1) := by decide +kernel
theorem dX6_joined_116 : decode cX6_joined 116 = .ok (.lload_n 3, 1) := by decide +kernel
theorem dX6_joined_117 : decode cX6_joined 117 = .ok (.lcmp, 1) := by decide +kernel
theorem dX6_joined_118 : decode cX6_joined 118 = .ok (.ifCond .gt 7, 3) := by decide +kernel
theorem dX6_joined_121 : decode cX6_joined 121 = .ok (.iconst 1, 1) := by decide +kernel
theorem dX6_joined_122 : decode cX6_joined 122 = .ok (.goto 4, 3) := by decide +kernel
theorem dX6_joined_125 : decode cX6_joined 125 = .ok (.iconst 0, 1) := by decide +kernel
theorem dX6_joined_126 : decode cX6_joined 126 = .ok (.invokestatic 23, 3) := by decide +kernel
theorem dX6_joined_129 : decode cX6_joined 129 = .ok (.lreturn, 1) := by decide +kernel
theorem dX6_joined_130 : decode cX6_joined 130 = .ok (.lload_n 1, 1) := by decide +kernel
theorem dX6_joined_131 : decode cX6_joined 131 = .ok (.lload_n 3, 1) := by decide +kernel
theorem dX6_joined_132 : decode cX6_joined 132 = .ok (.lcmp, 1) := by decide +kernel
theorem dX6_joined_133 : decode cX6_joined 133 = .ok (.ifCond .ne 7, 3) := by decide +kernel
theorem dX6_joined_136 : decode cX6_joined 136 = .ok (.iconst 1, 1) := by decide +kernel
theorem dX6_joined_137 : decode cX6_joined 137 = .ok (.goto 4, 3) := by decide +kernel
theorem dX6_joined_140 : decode cX6_joined 140 = .ok (.iconst 0, 1) := by decide +kernel
theorem dX6_joined_141 : decode cX6_joined 141 = .ok (.invokestatic 23, 3) := by decide +kernel
theorem dX6_joined_144 : decode cX6_joined 144 = .ok (.lreturn, 1) := by decide +kernel
theorem dX6_joined_145 : decode cX6_joined 145 = .ok (.lload_n 1, 1) := by decide +kernel
theorem dX6_joined_146 : decode cX6_joined 146 = .ok (.lload_n 3, 1) := by decide +kernel
theorem dX6_joined_147 : decode cX6_joined 147 = .ok (.lcmp, 1) := by decide +kernel
theorem dX6_joined_148 : decode cX6_joined 148 = .ok (.ifCond .lt 7, 3) := by decide +kernel
theorem dX6_joined_151 : decode cX6_joined 151 = .ok (.iconst 1, 1) := by decide +kernel
theorem dX6_joined_152 : decode cX6_joined 152 = .ok (.goto 4, 3) := by decide +kernel
theorem dX6_joined_155 : decode cX6_joined 155 = .ok (.iconst 0, 1) := by decide +kernel
theorem dX6_joined_156 : decode cX6_joined 156 = .ok (.invokestatic 23, 3) := by decide +kernel
theorem dX6_joined_159 : decode cX6_joined 159 = .ok (.lreturn, 1) := by decide +kernel
theorem dX6_joined_160 : decode cX6_joined 160 = .ok (.lload_n 1, 1) := by decide +kernel
theorem dX6_joined_161 : decode cX6_joined 161 = .ok (.lload_n 3, 1) := by decide +kernel
theorem dX6_joined_162 : decode cX6_joined 162 = .ok (.lcmp, 1) := by decide +kernel
theorem dX6_joined_163 : decode cX6_joined 163 = .ok (.ifCond .le 7, 3) := by decide +kernel
theorem dX6_joined_166 : decode cX6_joined 166 = .ok (.iconst 1, 1) := by decide +kernel
theorem dX6_joined_167 : decode cX6_joined 167 = .ok (.goto 4, 3) := by decide +kernel
theorem dX6_joined_170 : decode cX6_joined 170 = .ok (.iconst 0, 1) := by decide +kernel
theorem dX6_joined_171 : decode cX6_joined 171 = .ok (.invokestatic 23, 3) := by decide +kernel
theorem dX6_joined_174 : decode cX6_joined 174 = .ok (.lreturn, 1) := by decide +kernel
theorem dX6_joined_175 : decode cX6_joined 175 = .ok (.lload_n 1, 1) := by decide +kernel
theorem dX6_joined_176 : decode cX6_joined 176 = .ok (.lload_n 3, 1) := by decide +kernel
theorem dX6_joined_177 : decode cX6_joined 177 = .ok (.land, 1) := by decide +kernel
theorem dX6_joined_178 : decode cX6_joined 178 = .ok (.lreturn, 1) := by decide +kernel
theorem dX6_joined_179 : decode cX6_joined 179 = .ok (.lload_n 1, 1) := by decide +kernel
theorem dX6_joined_180 : decode cX6_joined 180 = .ok (.lload_n 3, 1) := by decide +kernel
theorem dX6_joined_181 : decode cX6_joined 181 = .ok (.lor, 1) := by decide +kernel
theorem dX6_joined_182 : decode cX6_joined 182 = .ok (.lreturn, 1) := by decide +kernel
theorem dX6_truth_0 : decode cX6_truth 0 = .ok (.iload_n 0, 1) := by decide +kernel
theorem dX6_truth_1 : decode cX6_truth 1 = .ok (.ifCond .eq 7, 3) := by decide +kernel
theorem dX6_truth_4 : decode cX6_truth 4 = .ok (.lconst 1, 1) := by decide +kernel
theorem dX6_truth_5 : decode cX6_truth 5 = .ok (.goto 4, 3) := by decide +kernel
theorem dX6_truth_8 : decode cX6_truth 8 = .ok (.lconst 0, 1) := by decide +kernel
theorem dX6_truth_9 : decode cX6_truth 9 = .ok (.lreturn, 1) := by decide +kernel
theorem dX7_init_0 : decode cX7_init 0 = .ok (.aload_n 0, 1) := by decide +kernel
theorem dX7_init_1 : decode cX7_init 1 = .ok (.aload_n 1, 1) := by decide +kernel
theorem dX7_init_2 : decode cX7_init 2 = .ok (.invokespecial 3, 3) := by decide +kernel
theorem dX7_init_5 : decode cX7_init 5 = .ok (.aload_n 0, 1) := by decide +kernel
theorem dX7_init_6 : decode cX7_init 6 = .ok (.sipush 400, 3) := by decide +kernel
theorem dX7_init_9 : decode cX7_init 9 = .ok (.newarray .int, 2) := by decide +kernel
theorem dX7_init_11 : decode cX7_init 11 = .ok (.putfield 9, 3) := by decide +kernel
theorem dX7_init_14 : decode cX7_init 14 = .ok (.aload_n 0, 1) := by decide +kernel
theorem dX7_init_15 : decode cX7_init 15 = .ok (.iconst 0, 1) := by decide +kernel
theorem dX7_init_16 : decode cX7_init 16 = .ok (.putfield 15, 3) := by decide +kernel
theorem dX7_init_19 : decode cX7_init 19 = .ok (.aload_n 0, 1) := by decide +kernel
theorem dX7_init_20 : decode cX7_init 20 = .ok (.iconst 0, 1) := by decide +kernel
theorem dX7_init_21 : decode cX7_init 21 = .ok (.putfield 19, 3) := by decide +kernel
theorem dX7_init_24 : decode cX7_init 24 = .ok (.return_, 1) := by decide +kernel
theorem dX7_startOver_0 : decode cX7_startOver 0 = .ok (.aload_n 0, 1) := by decide +kernel
theorem dX7_startOver_1 : decode cX7_startOver 1 = .ok (.iconst 0, 1) := by decide +kernel
theorem dX7_startOver_2 : decode cX7_startOver 2 = .ok (.putfield 15, 3) := by decide +kernel
theorem dX7_startOver_5 : decode cX7_startOver 5 = .ok (.aload_n 0, 1) := by decide +kernel
theorem dX7_startOver_6 : decode cX7_startOver 6 = .ok (.iconst 0, 1) := by decide +kernel
theorem dX7_startOver_7 : decode cX7_startOver 7 = .ok (.putfield 19, 3) := by decide +kernel
theorem dX7_startOver_10 : decode cX7_startOver 10 = .ok (.return_, 1) := by decide +kernel
theorem dX7_made_0 : decode cX7_made 0 = .ok (.new 22, 3) := by decide +kernel
theorem dX7_made_3 : decode cX7_made 3 = .ok (.dup, 1) := by decide +kernel
theorem dX7_made_4 : decode cX7_made 4 = .ok (.aload_n 0, 1) := by decide +kernel
theorem dX7_made_5 : decode cX7_made 5 = .ok (.getfield 9, 3) := by decide +kernel
theorem dX7_made_8 : decode cX7_made 8 = .ok (.iconst 0, 1) := by decide +kernel
theorem dX7_made_9 : decode cX7_made 9 = .ok (.aload_n 0, 1) := by decide +kernel
theorem dX7_made_10 : decode cX7_made 10 = .ok (.getfield 15, 3) := by decide +kernel
theorem dX7_made_13 : decode cX7_made 13 = .ok (.invokestatic 24, 3) := by decide +kernel
theorem dX7_made_16 : decode cX7_made 16 = .ok (.invokestatic 30, 3) := by decide +kernel
theorem dX7_made_19 : decode cX7_made 19 = .ok (.invokespecial 36, 3) := by decide +kernel
theorem dX7_made_22 : decode cX7_made 22 = .ok (.areturn, 1) := by decide +kernel
theorem dX7_readClause_0 : decode cX7_readClause 0 = .ok (.aload_n 0, 1) := by decide +kernel
theorem dX7_readClause_1 : decode cX7_readClause 1 = .ok (.getfield 39, 3) := by decide +kernel
theorem dX7_readClause_4 : decode cX7_readClause 4 = .ok (.ldc 43, 2) := by decide +kernel
theorem dX7_readClause_6 : decode cX7_readClause 6 = .ok (.invokevirtual 45, 3) := by decide +kernel
theorem dX7_readClause_9 : decode cX7_readClause 9 = .ok (.iconst (-1), 1) := by decide +kernel
theorem dX7_readClause_10 : decode cX7_readClause 10 = .ok (.if_icmp .ne 12, 3) := by decide +kernel
theorem dX7_readClause_13 : decode cX7_readClause 13 = .ok (.aload_n 0, 1) := by decide +kernel
theorem dX7_readClause_14 : decode cX7_readClause 14 = .ok (.getfield 39, 3) := by decide +kernel
theorem dX7_readClause_17 : decode cX7_readClause 17 = .ok (.iconst 0, 1) := by decide +kernel
theorem dX7_readClause_18 : decode cX7_readClause 18 = .ok (.invokevirtual 51, 3) := by decide +kernel
theorem dX7_readClause_21 : decode cX7_readClause 21 = .ok (.return_, 1) := by decide +kernel
theorem dX7_readClause_22 : decode cX7_readClause 22 = .ok (.iload_n 1, 1) := by decide +kernel
theorem dX7_readClause_23 : decode cX7_readClause 23 = .ok (.bipush 12, 2) := by decide +kernel
theorem dX7_readClause_25 : decode cX7_readClause 25 = .ok (.if_icmp .lt 12, 3) := by decide +kernel
theorem dX7_readClause_28 : decode cX7_readClause 28 = .ok (.aload_n 0, 1) := by decide +kernel
theorem dX7_readClause_29 : decode cX7_readClause 29 = .ok (.getfield 39, 3) := by decide +kernel
theorem dX7_readClause_32 : decode cX7_readClause 32 = .ok (.iconst 4, 1) := by decide +kernel
theorem dX7_readClause_33 : decode cX7_readClause 33 = .ok (.invokevirtual 51, 3) := by decide +kernel
theorem dX7_readClause_36 : decode cX7_readClause 36 = .ok (.return_, 1) := by decide +kernel
theorem dX7_readClause_37 : decode cX7_readClause 37 = .ok (.aload_n 0, 1) := by decide +kernel
theorem dX7_readClause_38 : decode cX7_readClause 38 = .ok (.getfield 39, 3) := by decide +kernel
theorem dX7_readClause_41 : decode cX7_readClause 41 = .ok (.invokevirtual 55, 3) := by decide +kernel
theorem dX7_readClause_44 : decode cX7_readClause 44 = .ok (.aload_n 0, 1) := by decide +kernel
theorem dX7_readClause_45 : decode cX7_readClause 45 = .ok (.invokevirtual 59, 3) := by decide +kernel
theorem dX7_readClause_48 : decode cX7_readClause 48 = .ok (.aload_n 0, 1) := by decide +kernel
theorem dX7_readClause_49 : decode cX7_readClause 49 = .ok (.getfield 39, 3) := by decide +kernel
theorem dX7_readClause_52 : decode cX7_readClause 52 = .ok (.getfield 62, 3) := by decide +kernel
theorem dX7_readClause_55 : decode cX7_readClause 55 = .ok (.ifCond .ne 16, 3) := by decide +kernel
theorem dX7_readClause_58 : decode cX7_readClause 58 = .ok (.aload_n 0, 1) := by decide +kernel
theorem dX7_readClause_59 : decode cX7_readClause 59 = .ok (.getfield 39, 3) := by decide +kernel
theorem dX7_readClause_62 : decode cX7_readClause 62 = .ok (.ldc 65, 2) := by decide +kernel
theorem dX7_readClause_64 : decode cX7_readClause 64 = .ok (.invokevirtual 45, 3) := by decide +kernel
theorem dX7_readClause_67 : decode cX7_readClause 67 = .ok (.iconst (-1), 1) := by decide +kernel
theorem dX7_readClause_68 : decode cX7_readClause 68 = .ok (.if_icmp .ne 10, 3) := by decide +kernel
theorem dX7_readClause_71 : decode cX7_readClause 71 = .ok (.aload_n 0, 1) := by decide +kernel
theorem dX7_readClause_72 : decode cX7_readClause 72 = .ok (.bipush (-33), 2) := by decide +kernel
theorem dX7_readClause_74 : decode cX7_readClause 74 = .ok (.invokevirtual 67, 3) := by decide +kernel
theorem dX7_readClause_77 : decode cX7_readClause 77 = .ok (.return_, 1) := by decide +kernel
theorem dX7_readClause_78 : decode cX7_readClause 78 = .ok (.aload_n 0, 1) := by decide +kernel
theorem dX7_readClause_79 : decode cX7_readClause 79 = .ok (.getfield 39, 3) := by decide +kernel
theorem dX7_readClause_82 : decode cX7_readClause 82 = .ok (.invokevirtual 55, 3) := by decide +kernel
theorem dX7_readClause_85 : decode cX7_readClause 85 = .ok (.aload_n 0, 1) := by decide +kernel
theorem dX7_readClause_86 : decode cX7_readClause 86 = .ok (.iconst 0, 1) := by decide +kernel
theorem dX7_readClause_87 : decode cX7_readClause 87 = .ok (.invokevirtual 70, 3) := by decide +kernel
theorem dX7_readClause_90 : decode cX7_readClause 90 = .ok (.aload_n 0, 1) := by decide +kernel
theorem dX7_readClause_91 : decode cX7_readClause 91 = .ok (.bipush (-34), 2) := by decide +kernel
theorem dX7_readClause_93 : decode cX7_readClause 93 = .ok (.invokevirtual 67, 3) := by decide +kernel
theorem dX7_readClause_96 : decode cX7_readClause 96 = .ok (.return_, 1) := by decide +kernel
theorem dX7_readTest_0 : decode cX7_readTest 0 = .ok (.iconst 0, 1) := by decide +kernel
theorem dX7_readTest_1 : decode cX7_readTest 1 = .ok (.istore_n 2, 1) := by decide +kernel
theorem dX7_readTest_2 : decode cX7_readTest 2 = .ok (.iconst 0, 1) := by decide +kernel
theorem dX7_readTest_3 : decode cX7_readTest 3 = .ok (.istore_n 3, 1) := by decide +kernel
theorem dX7_readTest_4 : decode cX7_readTest 4 = .ok (.iconst 0, 1) := by decide +kernel
theorem dX7_readTest_5 : decode cX7_readTest 5 = .ok (.istore 4, 2) := by decide +kernel
theorem dX7_readTest_7 : decode cX7_readTest 7 = .ok (.iload 4, 2) := by decide +kernel
theorem dX7_readTest_9 : decode cX7_readTest 9 = .ok (.sipush 400, 3) := by decide +kernel
theorem dX7_readTest_12 : decode cX7_readTest 12 = .ok (.if_icmp .ge 100, 3) := by decide +kernel
theorem dX7_readTest_15 : decode cX7_readTest 15 = .ok (.aload_n 0, 1) := by decide +kernel
theorem dX7_readTest_16 : decode cX7_readTest 16 = .ok (.iload_n 1, 1) := by decide +kernel
theorem dX7_readTest_17 : decode cX7_readTest 17 = .ok (.invokevirtual 73, 3) := by decide +kernel
theorem dX7_readTest_20 : decode cX7_readTest 20 = .ok (.iload_n 2, 1) := by decide +kernel
theorem dX7_readTest_21 : decode cX7_readTest 21 = .ok (.ifCond .eq 9, 3) := by decide +kernel
theorem dX7_readTest_24 : decode cX7_readTest 24 = .ok (.aload_n 0, 1) := by decide +kernel
theorem dX7_readTest_25 : decode cX7_readTest 25 = .ok (.bipush (-30), 2) := by decide +kernel
theorem dX7_readTest_27 : decode cX7_readTest 27 = .ok (.invokevirtual 67, 3) := by decide +kernel
theorem dX7_readTest_30 : decode cX7_readTest 30 = .ok (.aload_n 0, 1) := by decide +kernel
theorem dX7_readTest_31 : decode cX7_readTest 31 = .ok (.getfield 39, 3) := by decide +kernel
theorem dX7_readTest_34 : decode cX7_readTest 34 = .ok (.getfield 62, 3) := by decide +kernel
theorem dX7_readTest_37 : decode cX7_readTest 37 = .ok (.ifCond .ne 15, 3) := by decide +kernel
theorem dX7_readTest_40 : decode cX7_readTest 40 = .ok (.aload_n 0, 1) := by decide +kernel
theorem dX7_readTest_41 : decode cX7_readTest 41 = .ok (.getfield 39, 3) := by decide +kernel
theorem dX7_readTest_44 : decode cX7_readTest 44 = .ok (.ldc 76, 2) := by decide +kernel
theorem dX7_readTest_46 : decode cX7_readTest 46 = .ok (.invokevirtual 45, 3) := by decide +kernel
theorem dX7_readTest_49 : decode cX7_readTest 49 = .ok (.goto 4, 3) := by decide +kernel
theorem dX7_readTest_52 : decode cX7_readTest 52 = .ok (.iconst (-1), 1) := by decide +kernel
theorem dX7_readTest_53 : decode cX7_readTest 53 = .ok (.istore 5, 2) := by decide +kernel
theorem dX7_readTest_55 : decode cX7_readTest 55 = .ok (.iload 5, 2) := by decide +kernel
theorem dX7_readTest_57 : decode cX7_readTest 57 = .ok (.ifCond .ne 7, 3) := by decide +kernel
theorem dX7_readTest_60 : decode cX7_readTest 60 = .ok (.iconst 1, 1) := by decide +kernel
theorem dX7_readTest_61 : decode cX7_readTest 61 = .ok (.goto 4, 3) := by decide +kernel
theorem dX7_readTest_64 : decode cX7_readTest 64 = .ok (.iconst 0, 1) := by decide +kernel
theorem dX7_readTest_65 : decode cX7_readTest 65 = .ok (.istore_n 2, 1) := by decide +kernel
theorem dX7_readTest_66 : decode cX7_readTest 66 = .ok (.iload_n 2, 1) := by decide +kernel
theorem dX7_readTest_67 : decode cX7_readTest 67 = .ok (.ifCond .ne 25, 3) := by decide +kernel
theorem dX7_readTest_70 : decode cX7_readTest 70 = .ok (.iload_n 3, 1) := by decide +kernel
theorem dX7_readTest_71 : decode cX7_readTest 71 = .ok (.ifCond .eq 9, 3) := by decide +kernel
theorem dX7_readTest_74 : decode cX7_readTest 74 = .ok (.aload_n 0, 1) := by decide +kernel
theorem dX7_readTest_75 : decode cX7_readTest 75 = .ok (.bipush (-31), 2) := by decide +kernel
theorem dX7_readTest_77 : decode cX7_readTest 77 = .ok (.invokevirtual 67, 3) := by decide +kernel
theorem dX7_readTest_80 : decode cX7_readTest 80 = .ok (.iload 5, 2) := by decide +kernel
theorem dX7_readTest_82 : decode cX7_readTest 82 = .ok (.iconst 1, 1) := by decide +kernel
theorem dX7_readTest_83 : decode cX7_readTest 83 = .ok (.if_icmp .ne 7, 3) := by decide +kernel
theorem dX7_readTest_86 : decode cX7_readTest 86 = .ok (.iconst 1, 1) := by decide +kernel
theorem dX7_readTest_87 : decode cX7_readTest 87 = .ok (.goto 4, 3) := by decide +kernel
theorem dX7_readTest_90 : decode cX7_readTest 90 = .ok (.iconst 0, 1) := by decide +kernel
theorem dX7_readTest_91 : decode cX7_readTest 91 = .ok (.istore_n 3, 1) := by decide +kernel
theorem dX7_readTest_92 : decode cX7_readTest 92 = .ok (.iload 5, 2) := by decide +kernel
theorem dX7_readTest_94 : decode cX7_readTest 94 = .ok (.iconst (-1), 1) := by decide +kernel
theorem dX7_readTest_95 : decode cX7_readTest 95 = .ok (.if_icmp .ne 4, 3) := by decide +kernel
theorem dX7_readTest_98 : decode cX7_readTest 98 = .ok (.return_, 1) := by decide +kernel
theorem dX7_readTest_99 : decode cX7_readTest 99 = .ok (.aload_n 0, 1) := by decide +kernel
theorem dX7_readTest_100 : decode cX7_readTest 100 = .ok (.getfield 39, 3) := by decide +kernel
theorem dX7_readTest_103 : decode cX7_readTest 103 = .ok (.invokevirtual 55, 3) := by decide +kernel
theorem dX7_readTest_106 : decode cX7_readTest 106 = .ok (.iinc 4 1, 3) := by decide +kernel
theorem dX7_readTest_109 : decode cX7_readTest 109 = .ok (.goto (-102), 3) := by decide +kernel
theorem dX7_readTest_112 : decode cX7_readTest 112 = .ok (.return_, 1) := by decide +kernel
theorem dX7_readFact_0 : decode cX7_readFact 0 = .ok (.aload_n 0, 1) := by decide +kernel
theorem dX7_readFact_1 : decode cX7_readFact 1 = .ok (.getfield 39, 3) := by decide +kernel
theorem dX7_readFact_4 : decode cX7_readFact 4 = .ok (.ldc 78, 2) := by decide +kernel
theorem dX7_readFact_6 : decode cX7_readFact 6 = .ok (.invokevirtual 45, 3) := by decide +kernel
theorem dX7_readFact_9 : decode cX7_readFact 9 = .ok (.iconst (-1), 1) := by decide +kernel
theorem dX7_readFact_10 : decode cX7_readFact 10 = .ok (.if_icmp .eq 7, 3) := by decide +kernel
theorem dX7_readFact_13 : decode cX7_readFact 13 = .ok (.iconst 1, 1) := by decide +kernel
theorem dX7_readFact_14 : decode cX7_readFact 14 = .ok (.goto 4, 3) := by decide +kernel
theorem dX7_readFact_17 : decode cX7_readFact 17 = .ok (.iconst 0, 1) := by decide +kernel
theorem dX7_readFact_18 : decode cX7_readFact 18 = .ok (.istore_n 2, 1) := by decide +kernel
theorem dX7_readFact_19 : decode cX7_readFact 19 = .ok (.iload_n 2, 1) := by decide +kernel
theorem dX7_readFact_20 : decode cX7_readFact 20 = .ok (.ifCond .ne 15, 3) := by decide +kernel
theorem dX7_readFact_23 : decode cX7_readFact 23 = .ok (.aload_n 0, 1) := by decide +kernel
theorem dX7_readFact_24 : decode cX7_readFact 24 = .ok (.getfield 39, 3) := by decide +kernel
theorem dX7_readFact_27 : decode cX7_readFact 27 = .ok (.bipush 91, 2) := by decide +kernel
theorem dX7_readFact_29 : decode cX7_readFact 29 = .ok (.invokevirtual 80, 3) := by decide +kernel
theorem dX7_readFact_32 : decode cX7_readFact 32 = .ok (.ifCond .eq 62, 3) := by decide +kernel
theorem dX7_readFact_35 : decode cX7_readFact 35 = .ok (.iload_n 1, 1) := by decide +kernel
theorem dX7_readFact_36 : decode cX7_readFact 36 = .ok (.bipush 10, 2) := by decide +kernel
theorem dX7_readFact_38 : decode cX7_readFact 38 = .ok (.if_icmp .lt 12, 3) := by decide +kernel
theorem dX7_readFact_41 : decode cX7_readFact 41 = .ok (.aload_n 0, 1) := by decide +kernel
theorem dX7_readFact_42 : decode cX7_readFact 42 = .ok (.getfield 39, 3) := by decide +kernel
theorem dX7_readFact_45 : decode cX7_readFact 45 = .ok (.iconst 2, 1) := by decide +kernel
theorem dX7_readFact_46 : decode cX7_readFact 46 = .ok (.invokevirtual 51, 3) := by decide +kernel
theorem dX7_readFact_49 : decode cX7_readFact 49 = .ok (.return_, 1) := by decide +kernel
theorem dX7_readFact_50 : decode cX7_readFact 50 = .ok (.aload_n 0, 1) := by decide +kernel
theorem dX7_readFact_51 : decode cX7_readFact 51 = .ok (.getfield 39, 3) := by decide +kernel
theorem dX7_readFact_54 : decode cX7_readFact 54 = .ok (.invokevirtual 55, 3) := by decide +kernel
theorem dX7_readFact_57 : decode cX7_readFact 57 = .ok (.iload_n 2, 1) := by decide +kernel
theorem dX7_readFact_58 : decode cX7_readFact 58 = .ok (.ifCond .eq 19, 3) := by decide +kernel
theorem dX7_readFact_61 : decode cX7_readFact 61 = .ok (.aload_n 0, 1) := by decide +kernel
theorem dX7_readFact_62 : decode cX7_readFact 62 = .ok (.iload_n 1, 1) := by decide +kernel
theorem dX7_readFact_63 : decode cX7_readFact 63 = .ok (.iconst 1, 1) := by decide +kernel
theorem dX7_readFact_64 : decode cX7_readFact 64 = .ok (.iadd, 1) := by decide +kernel
theorem dX7_readFact_65 : decode cX7_readFact 65 = .ok (.invokevirtual 73, 3) := by decide +kernel
theorem dX7_readFact_68 : decode cX7_readFact 68 = .ok (.aload_n 0, 1) := by decide +kernel
theorem dX7_readFact_69 : decode cX7_readFact 69 = .ok (.bipush (-32), 2) := by decide +kernel
theorem dX7_readFact_71 : decode cX7_readFact 71 = .ok (.invokevirtual 67, 3) := by decide +kernel
theorem dX7_readFact_74 : decode cX7_readFact 74 = .ok (.goto 19, 3) := by decide +kernel
theorem dX7_readFact_77 : decode cX7_readFact 77 = .ok (.aload_n 0, 1) := by decide +kernel
theorem dX7_readFact_78 : decode cX7_readFact 78 = .ok (.iload_n 1, 1) := by decide +kernel
theorem dX7_readFact_79 : decode cX7_readFact 79 = .ok (.iconst 1, 1) := by decide +kernel
theorem dX7_readFact_80 : decode cX7_readFact 80 = .ok (.iadd, 1) := by decide +kernel
theorem dX7_readFact_81 : decode cX7_readFact 81 = .ok (.invokevirtual 70, 3) := by decide +kernel
theorem dX7_readFact_84 : decode cX7_readFact 84 = .ok (.aload_n 0, 1) := by decide +kernel
theorem dX7_readFact_85 : decode cX7_readFact 85 = .ok (.getfield 39, 3) := by decide +kernel
theorem dX7_readFact_88 : decode cX7_readFact 88 = .ok (.bipush 93, 2) := by decide +kernel
theorem dX7_readFact_90 : decode cX7_readFact 90 = .ok (.invokevirtual 84, 3) := by decide +kernel
theorem dX7_readFact_93 : decode cX7_readFact 93 = .ok (.return_, 1) := by decide +kernel
theorem dX7_readFact_94 : decode cX7_readFact 94 = .ok (.aload_n 0, 1) := by decide +kernel
theorem dX7_readFact_95 : decode cX7_readFact 95 = .ok (.invokevirtual 59, 3) := by decide +kernel
theorem dX7_readFact_98 : decode cX7_readFact 98 = .ok (.aload_n 0, 1) := by decide +kernel
theorem dX7_readFact_99 : decode cX7_readFact 99 = .ok (.invokevirtual 87, 3) := by decide +kernel
theorem dX7_readFact_102 : decode cX7_readFact 102 = .ok (.istore_n 3, 1) := by decide +kernel
theorem dX7_readFact_103 : decode cX7_readFact 103 = .ok (.iload_n 3, 1) := by decide +kernel
theorem dX7_readFact_104 : decode cX7_readFact 104 = .ok (.iconst (-1), 1) := by decide +kernel
theorem dX7_readFact_105 : decode cX7_readFact 105 = .ok (.if_icmp .ne 14, 3) := by decide +kernel
theorem dX7_readFact_108 : decode cX7_readFact 108 = .ok (.aload_n 0, 1) := by decide +kernel
theorem dX7_readFact_109 : decode cX7_readFact 109 = .ok (.getfield 39, 3) := by decide +kernel
theorem dX7_readFact_112 : decode cX7_readFact 112 = .ok (.iconst 0, 1) := by decide +kernel
theorem dX7_readFact_113 : decode cX7_readFact 113 = .ok (.invokevirtual 51, 3) := by decide +kernel
theorem dX7_readFact_116 : decode cX7_readFact 116 = .ok (.goto 59, 3) := by decide +kernel
theorem dX7_readFact_119 : decode cX7_readFact 119 = .ok (.aload_n 0, 1) := by decide +kernel
theorem dX7_readFact_120 : decode cX7_readFact 120 = .ok (.getfield 19, 3) := by decide +kernel
theorem dX7_readFact_123 : decode cX7_readFact 123 = .ok (.bipush 60, 2) := by decide +kernel
theorem dX7_readFact_125 : decode cX7_readFact 125 = .ok (.if_icmp .lt 14, 3) := by decide +kernel
theorem dX7_readFact_128 : decode cX7_readFact 128 = .ok (.aload_n 0, 1) := by decide +kernel
theorem dX7_readFact_129 : decode cX7_readFact 129 = .ok (.getfield 39, 3) := by decide +kernel
theorem dX7_readFact_132 : decode cX7_readFact 132 = .ok (.iconst 3, 1) := by decide +kernel
theorem dX7_readFact_133 : decode cX7_readFact 133 = .ok (.invokevirtual 51, 3) := by decide +kernel
theorem dX7_readFact_136 : decode cX7_readFact 136 = .ok (.goto 39, 3) := by decide +kernel
theorem dX7_readFact_139 : decode cX7_readFact 139 = .ok (.aload_n 0, 1) := by decide +kernel
theorem dX7_readFact_140 : decode cX7_readFact 140 = .ok (.getfield 39, 3) := by decide +kernel
theorem dX7_readFact_143 : decode cX7_readFact 143 = .ok (.getfield 62, 3) := by decide +kernel
theorem dX7_readFact_146 : decode cX7_readFact 146 = .ok (.ifCond .ne 29, 3) := by decide +kernel
theorem dX7_readFact_149 : decode cX7_readFact 149 = .ok (.aload_n 0, 1) := by decide +kernel
theorem dX7_readFact_150 : decode cX7_readFact 150 = .ok (.dup, 1) := by decide +kernel
theorem dX7_readFact_151 : decode cX7_readFact 151 = .ok (.getfield 19, 3) := by decide +kernel
theorem dX7_readFact_154 : decode cX7_readFact 154 = .ok (.iconst 1, 1) := by decide +kernel
theorem dX7_readFact_155 : decode cX7_readFact 155 = .ok (.iadd, 1) := by decide +kernel
theorem dX7_readFact_156 : decode cX7_readFact 156 = .ok (.putfield 19, 3) := by decide +kernel
theorem dX7_readFact_159 : decode cX7_readFact 159 = .ok (.aload_n 0, 1) := by decide +kernel
theorem dX7_readFact_160 : decode cX7_readFact 160 = .ok (.getfield 39, 3) := by decide +kernel
theorem dX7_readFact_163 : decode cX7_readFact 163 = .ok (.invokevirtual 55, 3) := by decide +kernel
theorem dX7_readFact_166 : decode cX7_readFact 166 = .ok (.aload_n 0, 1) := by decide +kernel
theorem dX7_readFact_167 : decode cX7_readFact 167 = .ok (.invokevirtual 59, 3) := by decide +kernel
theorem dX7_readFact_170 : decode cX7_readFact 170 = .ok (.aload_n 0, 1) := by decide +kernel
theorem dX7_readFact_171 : decode cX7_readFact 171 = .ok (.iload_n 3, 1) := by decide +kernel
theorem dX7_readFact_172 : decode cX7_readFact 172 = .ok (.invokevirtual 67, 3) := by decide +kernel
theorem dX7_readFact_175 : decode cX7_readFact 175 = .ok (.return_, 1) := by decide +kernel
theorem dX7_compareSign_0 : decode cX7_compareSign 0 = .ok (.aload_n 0, 1) := by decide +kernel
theorem dX7_compareSign_1 : decode cX7_compareSign 1 = .ok (.getfield 39, 3) := by decide +kernel
theorem dX7_compareSign_4 : decode cX7_compareSign 4 = .ok (.getfield 91, 3) := by decide +kernel
theorem dX7_compareSign_7 : decode cX7_compareSign 7 = .ok (.iconst 3, 1) := by decide +kernel
theorem dX7_compareSign_8 : decode cX7_compareSign 8 = .ok (.if_icmp .eq 5, 3) := by decide +kernel
theorem dX7_compareSign_11 : decode cX7_compareSign 11 = .ok (.iconst (-1), 1) := by decide +kernel
theorem dX7_compareSign_12 : decode cX7_compareSign 12 = .ok (.ireturn, 1) := by decide +kernel
theorem dX7_compareSign_13 : decode cX7_compareSign 13 = .ok (.aload_n 0, 1) := by decide +kernel
theorem dX7_compareSign_14 : decode cX7_compareSign 14 = .ok (.getfield 39, 3) := by decide +kernel
theorem dX7_compareSign_17 : decode cX7_compareSign 17 = .ok (.getfield 94, 3) := by decide +kernel
theorem dX7_compareSign_20 : decode cX7_compareSign 20 = .ok (.lookupswitch 67 #[(60, 52), (61, 58), (62, 64), (316, 55), (318, 61)], 52) := by decide +kernel
theorem dX7_compareSign_72 : decode cX7_compareSign 72 = .ok (.bipush (-25), 2) := by decide +kernel
theorem dX7_compareSign_74 : decode cX7_compareSign 74 = .ok (.ireturn, 1) := by decide +kernel
theorem dX7_compareSign_75 : decode cX7_compareSign 75 = .ok (.bipush (-26), 2) := by decide +kernel
theorem dX7_compareSign_77 : decode cX7_compareSign 77 = .ok (.ireturn, 1) := by decide +kernel
theorem dX7_compareSign_78 : decode cX7_compareSign 78 = .ok (.bipush (-27), 2) := by decide +kernel
theorem dX7_compareSign_80 : decode cX7_compareSign 80 = .ok (.ireturn, 1) := by decide +kernel
theorem dX7_compareSign_81 : decode cX7_compareSign 81 = .ok (.bipush (-28), 2) := by decide +kernel
theorem dX7_compareSign_83 : decode cX7_compareSign 83 = .ok (.ireturn, 1) := by decide +kernel
theorem dX7_compareSign_84 : decode cX7_compareSign 84 = .ok (.bipush (-29), 2) := by decide +kernel
theorem dX7_compareSign_86 : decode cX7_compareSign 86 = .ok (.ireturn, 1) := by decide +kernel
theorem dX7_compareSign_87 : decode cX7_compareSign 87 = .ok (.iconst (-1), 1) := by decide +kernel
theorem dX7_compareSign_88 : decode cX7_compareSign 88 = .ok (.ireturn, 1) := by decide +kernel
theorem dX7_readSum_0 : decode cX7_readSum 0 = .ok (.iconst (-1), 1) := by decide +kernel
theorem dX7_readSum_1 : decode cX7_readSum 1 = .ok (.istore_n 1, 1) := by decide +kernel
theorem dX7_readSum_2 : decode cX7_readSum 2 = .ok (.iconst (-1), 1) := by decide +kernel
theorem dX7_readSum_3 : decode cX7_readSum 3 = .ok (.istore_n 2, 1) := by decide +kernel
theorem dX7_readSum_4 : decode cX7_readSum 4 = .ok (.iconst 0, 1) := by decide +kernel
theorem dX7_readSum_5 : decode cX7_readSum 5 = .ok (.istore_n 3, 1) := by decide +kernel
theorem dX7_readSum_6 : decode cX7_readSum 6 = .ok (.iload_n 3, 1) := by decide +kernel
theorem dX7_readSum_7 : decode cX7_readSum 7 = .ok (.sipush 400, 3) := by decide +kernel
theorem dX7_readSum_10 : decode cX7_readSum 10 = .ok (.if_icmp .ge 83, 3) := by decide +kernel
theorem dX7_readSum_13 : decode cX7_readSum 13 = .ok (.aload_n 0, 1) := by decide +kernel
theorem dX7_readSum_14 : decode cX7_readSum 14 = .ok (.getfield 39, 3) := by decide +kernel
theorem dX7_readSum_17 : decode cX7_readSum 17 = .ok (.getfield 62, 3) := by decide +kernel
theorem dX7_readSum_20 : decode cX7_readSum 20 = .ok (.ifCond .ne 73, 3) := by decide +kernel
theorem dX7_readSum_23 : decode cX7_readSum 23 = .ok (.aload_n 0, 1) := by decide +kernel
theorem dX7_readSum_24 : decode cX7_readSum 24 = .ok (.invokevirtual 97, 3) := by decide +kernel
theorem dX7_readSum_27 : decode cX7_readSum 27 = .ok (.iload_n 2, 1) := by decide +kernel
theorem dX7_readSum_28 : decode cX7_readSum 28 = .ok (.iconst (-1), 1) := by decide +kernel
theorem dX7_readSum_29 : decode cX7_readSum 29 = .ok (.if_icmp .eq 8, 3) := by decide +kernel
theorem dX7_readSum_32 : decode cX7_readSum 32 = .ok (.aload_n 0, 1) := by decide +kernel
theorem dX7_readSum_33 : decode cX7_readSum 33 = .ok (.iload_n 2, 1) := by decide +kernel
theorem dX7_readSum_34 : decode cX7_readSum 34 = .ok (.invokevirtual 67, 3) := by decide +kernel
theorem dX7_readSum_37 : decode cX7_readSum 37 = .ok (.aload_n 0, 1) := by decide +kernel
theorem dX7_readSum_38 : decode cX7_readSum 38 = .ok (.bipush 42, 2) := by decide +kernel
theorem dX7_readSum_40 : decode cX7_readSum 40 = .ok (.bipush 47, 2) := by decide +kernel
theorem dX7_readSum_42 : decode cX7_readSum 42 = .ok (.bipush 37, 2) := by decide +kernel
theorem dX7_readSum_44 : decode cX7_readSum 44 = .ok (.invokevirtual 100, 3) := by decide +kernel
theorem dX7_readSum_47 : decode cX7_readSum 47 = .ok (.istore_n 2, 1) := by decide +kernel
theorem dX7_readSum_48 : decode cX7_readSum 48 = .ok (.iload_n 2, 1) := by decide +kernel
theorem dX7_readSum_49 : decode cX7_readSum 49 = .ok (.iconst (-1), 1) := by decide +kernel
theorem dX7_readSum_50 : decode cX7_readSum 50 = .ok (.if_icmp .ne 30, 3) := by decide +kernel
theorem dX7_readSum_53 : decode cX7_readSum 53 = .ok (.iload_n 1, 1) := by decide +kernel
theorem dX7_readSum_54 : decode cX7_readSum 54 = .ok (.iconst (-1), 1) := by decide +kernel
theorem dX7_readSum_55 : decode cX7_readSum 55 = .ok (.if_icmp .eq 8, 3) := by decide +kernel
theorem dX7_readSum_58 : decode cX7_readSum 58 = .ok (.aload_n 0, 1) := by decide +kernel
theorem dX7_readSum_59 : decode cX7_readSum 59 = .ok (.iload_n 1, 1) := by decide +kernel
theorem dX7_readSum_60 : decode cX7_readSum 60 = .ok (.invokevirtual 67, 3) := by decide +kernel
theorem dX7_readSum_63 : decode cX7_readSum 63 = .ok (.aload_n 0, 1) := by decide +kernel
theorem dX7_readSum_64 : decode cX7_readSum 64 = .ok (.bipush 43, 2) := by decide +kernel
theorem dX7_readSum_66 : decode cX7_readSum 66 = .ok (.bipush 45, 2) := by decide +kernel
theorem dX7_readSum_68 : decode cX7_readSum 68 = .ok (.bipush 45, 2) := by decide +kernel
theorem dX7_readSum_70 : decode cX7_readSum 70 = .ok (.invokevirtual 100, 3) := by decide +kernel
theorem dX7_readSum_73 : decode cX7_readSum 73 = .ok (.istore_n 1, 1) := by decide +kernel
theorem dX7_readSum_74 : decode cX7_readSum 74 = .ok (.iload_n 1, 1) := by decide +kernel
theorem dX7_readSum_75 : decode cX7_readSum 75 = .ok (.iconst (-1), 1) := by decide +kernel
theorem dX7_readSum_76 : decode cX7_readSum 76 = .ok (.if_icmp .ne 4, 3) := by decide +kernel
theorem dX7_readSum_79 : decode cX7_readSum 79 = .ok (.return_, 1) := by decide +kernel
theorem dX7_readSum_80 : decode cX7_readSum 80 = .ok (.aload_n 0, 1) := by decide +kernel
theorem dX7_readSum_81 : decode cX7_readSum 81 = .ok (.getfield 39, 3) := by decide +kernel
theorem dX7_readSum_84 : decode cX7_readSum 84 = .ok (.invokevirtual 55, 3) := by decide +kernel
theorem dX7_readSum_87 : decode cX7_readSum 87 = .ok (.iinc 3 1, 3) := by decide +kernel
theorem dX7_readSum_90 : decode cX7_readSum 90 = .ok (.goto (-84), 3) := by decide +kernel
theorem dX7_readSum_93 : decode cX7_readSum 93 = .ok (.return_, 1) := by decide +kernel
theorem dX7_joinSign_0 : decode cX7_joinSign 0 = .ok (.aload_n 0, 1) := by decide +kernel
theorem dX7_joinSign_1 : decode cX7_joinSign 1 = .ok (.getfield 39, 3) := by decide +kernel
theorem dX7_joinSign_4 : decode cX7_joinSign 4 = .ok (.getfield 62, 3) := by decide +kernel
theorem dX7_joinSign_7 : decode cX7_joinSign 7 = .ok (.ifCond .ne 36, 3) := by decide +kernel
theorem dX7_joinSign_10 : decode cX7_joinSign 10 = .ok (.aload_n 0, 1) := by decide +kernel
theorem dX7_joinSign_11 : decode cX7_joinSign 11 = .ok (.getfield 39, 3) := by decide +kernel
theorem dX7_joinSign_14 : decode cX7_joinSign 14 = .ok (.iload_n 1, 1) := by decide +kernel
theorem dX7_joinSign_15 : decode cX7_joinSign 15 = .ok (.invokevirtual 80, 3) := by decide +kernel
theorem dX7_joinSign_18 : decode cX7_joinSign 18 = .ok (.ifCond .ne 27, 3) := by decide +kernel
theorem dX7_joinSign_21 : decode cX7_joinSign 21 = .ok (.aload_n 0, 1) := by decide +kernel
theorem dX7_joinSign_22 : decode cX7_joinSign 22 = .ok (.getfield 39, 3) := by decide +kernel
theorem dX7_joinSign_25 : decode cX7_joinSign 25 = .ok (.iload_n 2, 1) := by decide +kernel
theorem dX7_joinSign_26 : decode cX7_joinSign 26 = .ok (.invokevirtual 80, 3) := by decide +kernel
theorem dX7_joinSign_29 : decode cX7_joinSign 29 = .ok (.ifCond .ne 16, 3) := by decide +kernel
theorem dX7_joinSign_32 : decode cX7_joinSign 32 = .ok (.aload_n 0, 1) := by decide +kernel
theorem dX7_joinSign_33 : decode cX7_joinSign 33 = .ok (.getfield 39, 3) := by decide +kernel
theorem dX7_joinSign_36 : decode cX7_joinSign 36 = .ok (.iload_n 3, 1) := by decide +kernel
theorem dX7_joinSign_37 : decode cX7_joinSign 37 = .ok (.invokevirtual 80, 3) := by decide +kernel
theorem dX7_joinSign_40 : decode cX7_joinSign 40 = .ok (.ifCond .ne 5, 3) := by decide +kernel
theorem dX7_joinSign_43 : decode cX7_joinSign 43 = .ok (.iconst (-1), 1) := by decide +kernel
theorem dX7_joinSign_44 : decode cX7_joinSign 44 = .ok (.ireturn, 1) := by decide +kernel
theorem dX7_joinSign_45 : decode cX7_joinSign 45 = .ok (.aload_n 0, 1) := by decide +kernel
theorem dX7_joinSign_46 : decode cX7_joinSign 46 = .ok (.getfield 39, 3) := by decide +kernel
theorem dX7_joinSign_49 : decode cX7_joinSign 49 = .ok (.getfield 94, 3) := by decide +kernel
theorem dX7_joinSign_52 : decode cX7_joinSign 52 = .ok (.tableswitch 52 42 47 #[46, 40, 52, 43, 52, 49], 40) := by decide +kernel
theorem dX7_joinSign_92 : decode cX7_joinSign 92 = .ok (.bipush (-20), 2) := by decide +kernel
theorem dX7_joinSign_94 : decode cX7_joinSign 94 = .ok (.ireturn, 1) := by decide +kernel
theorem dX7_joinSign_95 : decode cX7_joinSign 95 = .ok (.bipush (-21), 2) := by decide +kernel
theorem dX7_joinSign_97 : decode cX7_joinSign 97 = .ok (.ireturn, 1) := by decide +kernel
theorem dX7_joinSign_98 : decode cX7_joinSign 98 = .ok (.bipush (-22), 2) := by decide +kernel
theorem dX7_joinSign_100 : decode cX7_joinSign 100 = .ok (.ireturn, 1) := by decide +kernel
theorem dX7_joinSign_101 : decode cX7_joinSign 101 = .ok (.bipush (-23), 2) := by decide +kernel
theorem dX7_joinSign_103 : decode cX7_joinSign 103 = .ok (.ireturn, 1) := by decide +kernel
theorem dX7_joinSign_104 : decode cX7_joinSign 104 = .ok (.bipush (-24), 2) := by decide +kernel
theorem dX7_joinSign_106 : decode cX7_joinSign 106 = .ok (.ireturn, 1) := by decide +kernel
theorem dX7_readValue_0 : decode cX7_readValue 0 = .ok (.aload_n 0, 1) := by decide +kernel
theorem dX7_readValue_1 : decode cX7_readValue 1 = .ok (.getfield 39, 3) := by decide +kernel
theorem dX7_readValue_4 : decode cX7_readValue 4 = .ok (.ldc 104, 2) := by decide +kernel
theorem dX7_readValue_6 : decode cX7_readValue 6 = .ok (.invokevirtual 45, 3) := by decide +kernel
theorem dX7_readValue_9 : decode cX7_readValue 9 = .ok (.istore_n 1, 1) := by decide +kernel
theorem dX7_readValue_10 : decode cX7_readValue 10 = .ok (.aload_n 0, 1) := by decide +kernel
theorem dX7_readValue_11 : decode cX7_readValue 11 = .ok (.getfield 39, 3) := by decide +kernel
theorem dX7_readValue_14 : decode cX7_readValue 14 = .ok (.getfield 91, 3) := by decide +kernel
theorem dX7_readValue_17 : decode cX7_readValue 17 = .ok (.iconst 2, 1) := by decide +kernel
theorem dX7_readValue_18 : decode cX7_readValue 18 = .ok (.if_icmp .eq 19, 3) := by decide +kernel
theorem dX7_readValue_21 : decode cX7_readValue 21 = .ok (.iload_n 1, 1) := by decide +kernel
theorem dX7_readValue_22 : decode cX7_readValue 22 = .ok (.iconst (-1), 1) := by decide +kernel
theorem dX7_readValue_23 : decode cX7_readValue 23 = .ok (.if_icmp .ne 14, 3) := by decide +kernel
theorem dX7_readValue_26 : decode cX7_readValue 26 = .ok (.aload_n 0, 1) := by decide +kernel
theorem dX7_readValue_27 : decode cX7_readValue 27 = .ok (.getfield 39, 3) := by decide +kernel
theorem dX7_readValue_30 : decode cX7_readValue 30 = .ok (.iconst 0, 1) := by decide +kernel
theorem dX7_readValue_31 : decode cX7_readValue 31 = .ok (.invokevirtual 51, 3) := by decide +kernel
theorem dX7_readValue_34 : decode cX7_readValue 34 = .ok (.goto 95, 3) := by decide +kernel
theorem dX7_readValue_37 : decode cX7_readValue 37 = .ok (.aload_n 0, 1) := by decide +kernel
theorem dX7_readValue_38 : decode cX7_readValue 38 = .ok (.getfield 39, 3) := by decide +kernel
theorem dX7_readValue_41 : decode cX7_readValue 41 = .ok (.getfield 91, 3) := by decide +kernel
theorem dX7_readValue_44 : decode cX7_readValue 44 = .ok (.iconst 2, 1) := by decide +kernel
theorem dX7_readValue_45 : decode cX7_readValue 45 = .ok (.if_icmp .ne 24, 3) := by decide +kernel
theorem dX7_readValue_48 : decode cX7_readValue 48 = .ok (.aload_n 0, 1) := by decide +kernel
theorem dX7_readValue_49 : decode cX7_readValue 49 = .ok (.getfield 39, 3) := by decide +kernel
theorem dX7_readValue_52 : decode cX7_readValue 52 = .ok (.invokevirtual 106, 3) := by decide +kernel
theorem dX7_readValue_55 : decode cX7_readValue 55 = .ok (.ifCond .eq 14, 3) := by decide +kernel
theorem dX7_readValue_58 : decode cX7_readValue 58 = .ok (.aload_n 0, 1) := by decide +kernel
theorem dX7_readValue_59 : decode cX7_readValue 59 = .ok (.getfield 39, 3) := by decide +kernel
theorem dX7_readValue_62 : decode cX7_readValue 62 = .ok (.iconst 1, 1) := by decide +kernel
theorem dX7_readValue_63 : decode cX7_readValue 63 = .ok (.invokevirtual 51, 3) := by decide +kernel
theorem dX7_readValue_66 : decode cX7_readValue 66 = .ok (.goto 63, 3) := by decide +kernel
theorem dX7_readValue_69 : decode cX7_readValue 69 = .ok (.aload_n 0, 1) := by decide +kernel
theorem dX7_readValue_70 : decode cX7_readValue 70 = .ok (.getfield 19, 3) := by decide +kernel
theorem dX7_readValue_73 : decode cX7_readValue 73 = .ok (.bipush 60, 2) := by decide +kernel
theorem dX7_readValue_75 : decode cX7_readValue 75 = .ok (.if_icmp .lt 14, 3) := by decide +kernel
theorem dX7_readValue_78 : decode cX7_readValue 78 = .ok (.aload_n 0, 1) := by decide +kernel
theorem dX7_readValue_79 : decode cX7_readValue 79 = .ok (.getfield 39, 3) := by decide +kernel
theorem dX7_readValue_82 : decode cX7_readValue 82 = .ok (.iconst 3, 1) := by decide +kernel
theorem dX7_readValue_83 : decode cX7_readValue 83 = .ok (.invokevirtual 51, 3) := by decide +kernel
theorem dX7_readValue_86 : decode cX7_readValue 86 = .ok (.goto 43, 3) := by decide +kernel
theorem dX7_readValue_89 : decode cX7_readValue 89 = .ok (.aload_n 0, 1) := by decide +kernel
theorem dX7_readValue_90 : decode cX7_readValue 90 = .ok (.dup, 1) := by decide +kernel
theorem dX7_readValue_91 : decode cX7_readValue 91 = .ok (.getfield 19, 3) := by decide +kernel
theorem dX7_readValue_94 : decode cX7_readValue 94 = .ok (.iconst 1, 1) := by decide +kernel
theorem dX7_readValue_95 : decode cX7_readValue 95 = .ok (.iadd, 1) := by decide +kernel
theorem dX7_readValue_96 : decode cX7_readValue 96 = .ok (.putfield 19, 3) := by decide +kernel
theorem dX7_readValue_99 : decode cX7_readValue 99 = .ok (.aload_n 0, 1) := by decide +kernel
theorem dX7_readValue_100 : decode cX7_readValue 100 = .ok (.iload_n 1, 1) := by decide +kernel
theorem dX7_readValue_101 : decode cX7_readValue 101 = .ok (.iconst (-1), 1) := by decide +kernel
theorem dX7_readValue_102 : decode cX7_readValue 102 = .ok (.if_icmp .ne 13, 3) := by decide +kernel
theorem dX7_readValue_105 : decode cX7_readValue 105 = .ok (.aload_n 0, 1) := by decide +kernel
theorem dX7_readValue_106 : decode cX7_readValue 106 = .ok (.getfield 39, 3) := by decide +kernel
theorem dX7_readValue_109 : decode cX7_readValue 109 = .ok (.getfield 94, 3) := by decide +kernel
theorem dX7_readValue_112 : decode cX7_readValue 112 = .ok (.goto 7, 3) := by decide +kernel
theorem dX7_readValue_115 : decode cX7_readValue 115 = .ok (.bipush (-2), 2) := by decide +kernel
theorem dX7_readValue_117 : decode cX7_readValue 117 = .ok (.iload_n 1, 1) := by decide +kernel
theorem dX7_readValue_118 : decode cX7_readValue 118 = .ok (.isub, 1) := by decide +kernel
theorem dX7_readValue_119 : decode cX7_readValue 119 = .ok (.invokevirtual 67, 3) := by decide +kernel
theorem dX7_readValue_122 : decode cX7_readValue 122 = .ok (.aload_n 0, 1) := by decide +kernel
theorem dX7_readValue_123 : decode cX7_readValue 123 = .ok (.getfield 39, 3) := by decide +kernel
theorem dX7_readValue_126 : decode cX7_readValue 126 = .ok (.invokevirtual 55, 3) := by decide +kernel
theorem dX7_readValue_129 : decode cX7_readValue 129 = .ok (.return_, 1) := by decide +kernel
theorem dX7_put_0 : decode cX7_put 0 = .ok (.aload_n 0, 1) := by decide +kernel
theorem dX7_put_1 : decode cX7_put 1 = .ok (.getfield 39, 3) := by decide +kernel
theorem dX7_put_4 : decode cX7_put 4 = .ok (.getfield 62, 3) := by decide +kernel
theorem dX7_put_7 : decode cX7_put 7 = .ok (.ifCond .ne 35, 3) := by decide +kernel
theorem dX7_put_10 : decode cX7_put 10 = .ok (.aload_n 0, 1) := by decide +kernel
theorem dX7_put_11 : decode cX7_put 11 = .ok (.getfield 15, 3) := by decide +kernel
theorem dX7_put_14 : decode cX7_put 14 = .ok (.aload_n 0, 1) := by decide +kernel
theorem dX7_put_15 : decode cX7_put 15 = .ok (.getfield 9, 3) := by decide +kernel
theorem dX7_put_18 : decode cX7_put 18 = .ok (.arraylength, 1) := by decide +kernel
theorem dX7_put_19 : decode cX7_put 19 = .ok (.if_icmp .ge 23, 3) := by decide +kernel
theorem dX7_put_22 : decode cX7_put 22 = .ok (.aload_n 0, 1) := by decide +kernel
theorem dX7_put_23 : decode cX7_put 23 = .ok (.getfield 9, 3) := by decide +kernel
theorem dX7_put_26 : decode cX7_put 26 = .ok (.aload_n 0, 1) := by decide +kernel
theorem dX7_put_27 : decode cX7_put 27 = .ok (.getfield 15, 3) := by decide +kernel
theorem dX7_put_30 : decode cX7_put 30 = .ok (.iload_n 1, 1) := by decide +kernel
theorem dX7_put_31 : decode cX7_put 31 = .ok (.iastore, 1) := by decide +kernel
theorem dX7_put_32 : decode cX7_put 32 = .ok (.aload_n 0, 1) := by decide +kernel
theorem dX7_put_33 : decode cX7_put 33 = .ok (.dup, 1) := by decide +kernel
theorem dX7_put_34 : decode cX7_put 34 = .ok (.getfield 15, 3) := by decide +kernel
theorem dX7_put_37 : decode cX7_put 37 = .ok (.iconst 1, 1) := by decide +kernel
theorem dX7_put_38 : decode cX7_put 38 = .ok (.iadd, 1) := by decide +kernel
theorem dX7_put_39 : decode cX7_put 39 = .ok (.putfield 15, 3) := by decide +kernel
theorem dX7_put_42 : decode cX7_put 42 = .ok (.return_, 1) := by decide +kernel
theorem dX8_init_0 : decode cX8_init 0 = .ok (.aload_n 0, 1) := by decide +kernel
theorem dX8_init_1 : decode cX8_init 1 = .ok (.invokespecial 3, 3) := by decide +kernel
theorem dX8_init_4 : decode cX8_init 4 = .ok (.aload_n 0, 1) := by decide +kernel
theorem dX8_init_5 : decode cX8_init 5 = .ok (.sipush 400, 3) := by decide +kernel
theorem dX8_init_8 : decode cX8_init 8 = .ok (.newarray .byte, 2) := by decide +kernel
theorem dX8_init_10 : decode cX8_init 10 = .ok (.putfield 9, 3) := by decide +kernel
theorem dX8_init_13 : decode cX8_init 13 = .ok (.aload_n 0, 1) := by decide +kernel
theorem dX8_init_14 : decode cX8_init 14 = .ok (.iconst 0, 1) := by decide +kernel
theorem dX8_init_15 : decode cX8_init 15 = .ok (.putfield 15, 3) := by decide +kernel
theorem dX8_init_18 : decode cX8_init 18 = .ok (.aload_n 0, 1) := by decide +kernel
theorem dX8_init_19 : decode cX8_init 19 = .ok (.iconst 0, 1) := by decide +kernel
theorem dX8_init_20 : decode cX8_init 20 = .ok (.putfield 19, 3) := by decide +kernel
theorem dX8_init_23 : decode cX8_init 23 = .ok (.aload_n 0, 1) := by decide +kernel
theorem dX8_init_24 : decode cX8_init 24 = .ok (.iconst 0, 1) := by decide +kernel
theorem dX8_init_25 : decode cX8_init 25 = .ok (.putfield 22, 3) := by decide +kernel
theorem dX8_init_28 : decode cX8_init 28 = .ok (.aload_n 0, 1) := by decide +kernel
theorem dX8_init_29 : decode cX8_init 29 = .ok (.iconst 0, 1) := by decide +kernel
theorem dX8_init_30 : decode cX8_init 30 = .ok (.putfield 25, 3) := by decide +kernel
theorem dX8_init_33 : decode cX8_init 33 = .ok (.aload_n 0, 1) := by decide +kernel
theorem dX8_init_34 : decode cX8_init 34 = .ok (.iconst 0, 1) := by decide +kernel
theorem dX8_init_35 : decode cX8_init 35 = .ok (.putfield 28, 3) := by decide +kernel
theorem dX8_init_38 : decode cX8_init 38 = .ok (.aload_n 0, 1) := by decide +kernel
theorem dX8_init_39 : decode cX8_init 39 = .ok (.iconst 0, 1) := by decide +kernel
theorem dX8_init_40 : decode cX8_init 40 = .ok (.putfield 31, 3) := by decide +kernel
theorem dX8_init_43 : decode cX8_init 43 = .ok (.return_, 1) := by decide +kernel
theorem dX8_append_0 : decode cX8_append 0 = .ok (.bipush 24, 2) := by decide +kernel
theorem dX8_append_2 : decode cX8_append 2 = .ok (.istore_n 2, 1) := by decide +kernel
theorem dX8_append_3 : decode cX8_append 3 = .ok (.iload_n 2, 1) := by decide +kernel
theorem dX8_append_4 : decode cX8_append 4 = .ok (.ifCond .lt 44, 3) := by decide +kernel
theorem dX8_append_7 : decode cX8_append 7 = .ok (.aload_n 0, 1) := by decide +kernel
theorem dX8_append_8 : decode cX8_append 8 = .ok (.getfield 15, 3) := by decide +kernel
theorem dX8_append_11 : decode cX8_append 11 = .ok (.aload_n 0, 1) := by decide +kernel
theorem dX8_append_12 : decode cX8_append 12 = .ok (.getfield 9, 3) := by decide +kernel
theorem dX8_append_15 : decode cX8_append 15 = .ok (.arraylength, 1) := by decide +kernel
theorem dX8_append_16 : decode cX8_append 16 = .ok (.if_icmp .ge 32, 3) := by decide +kernel
theorem dX8_append_19 : decode cX8_append 19 = .ok (.aload_n 0, 1) := by decide +kernel
theorem dX8_append_20 : decode cX8_append 20 = .ok (.getfield 9, 3) := by decide +kernel
theorem dX8_append_23 : decode cX8_append 23 = .ok (.aload_n 0, 1) := by decide +kernel
theorem dX8_append_24 : decode cX8_append 24 = .ok (.getfield 15, 3) := by decide +kernel
theorem dX8_append_27 : decode cX8_append 27 = .ok (.iload_n 1, 1) := by decide +kernel
theorem dX8_append_28 : decode cX8_append 28 = .ok (.iload_n 2, 1) := by decide +kernel
theorem dX8_append_29 : decode cX8_append 29 = .ok (.ishr, 1) := by decide +kernel
theorem dX8_append_30 : decode cX8_append 30 = .ok (.i2b, 1) := by decide +kernel
theorem dX8_append_31 : decode cX8_append 31 = .ok (.bastore, 1) := by decide +kernel
theorem dX8_append_32 : decode cX8_append 32 = .ok (.aload_n 0, 1) := by decide +kernel
theorem dX8_append_33 : decode cX8_append 33 = .ok (.dup, 1) := by decide +kernel
theorem dX8_append_34 : decode cX8_append 34 = .ok (.getfield 15, 3) := by decide +kernel
theorem dX8_append_37 : decode cX8_append 37 = .ok (.iconst 1, 1) := by decide +kernel
theorem dX8_append_38 : decode cX8_append 38 = .ok (.iadd, 1) := by decide +kernel
theorem dX8_append_39 : decode cX8_append 39 = .ok (.putfield 15, 3) := by decide +kernel
theorem dX8_append_42 : decode cX8_append 42 = .ok (.iinc 2 (-8), 3) := by decide +kernel
theorem dX8_append_45 : decode cX8_append 45 = .ok (.goto (-42), 3) := by decide +kernel
theorem dX8_append_48 : decode cX8_append 48 = .ok (.return_, 1) := by decide +kernel
theorem dX8_begin_0 : decode cX8_begin 0 = .ok (.aload_n 0, 1) := by decide +kernel
theorem dX8_begin_1 : decode cX8_begin 1 = .ok (.iconst 0, 1) := by decide +kernel
theorem dX8_begin_2 : decode cX8_begin 2 = .ok (.putfield 19, 3) := by decide +kernel
theorem dX8_begin_5 : decode cX8_begin 5 = .ok (.aload_n 0, 1) := by decide +kernel
theorem dX8_begin_6 : decode cX8_begin 6 = .ok (.iconst 0, 1) := by decide +kernel
theorem dX8_begin_7 : decode cX8_begin 7 = .ok (.putfield 31, 3) := by decide +kernel
theorem dX8_begin_10 : decode cX8_begin 10 = .ok (.aload_n 0, 1) := by decide +kernel
theorem dX8_begin_11 : decode cX8_begin 11 = .ok (.invokevirtual 34, 3) := by decide +kernel
theorem dX8_begin_14 : decode cX8_begin 14 = .ok (.return_, 1) := by decide +kernel
theorem dX8_next_0 : decode cX8_next 0 = .ok (.aload_n 0, 1) := by decide +kernel
theorem dX8_next_1 : decode cX8_next 1 = .ok (.getfield 19, 3) := by decide +kernel
theorem dX8_next_4 : decode cX8_next 4 = .ok (.aload_n 0, 1) := by decide +kernel
theorem dX8_next_5 : decode cX8_next 5 = .ok (.getfield 15, 3) := by decide +kernel
theorem dX8_next_8 : decode cX8_next 8 = .ok (.if_icmp .ge 30, 3) := by decide +kernel
theorem dX8_next_11 : decode cX8_next 11 = .ok (.aload_n 0, 1) := by decide +kernel
theorem dX8_next_12 : decode cX8_next 12 = .ok (.getfield 9, 3) := by decide +kernel
theorem dX8_next_15 : decode cX8_next 15 = .ok (.aload_n 0, 1) := by decide +kernel
theorem dX8_next_16 : decode cX8_next 16 = .ok (.getfield 19, 3) := by decide +kernel
theorem dX8_next_19 : decode cX8_next 19 = .ok (.baload, 1) := by decide +kernel
theorem dX8_next_20 : decode cX8_next 20 = .ok (.bipush 32, 2) := by decide +kernel
theorem dX8_next_22 : decode cX8_next 22 = .ok (.if_icmp .ne 16, 3) := by decide +kernel
theorem dX8_next_25 : decode cX8_next 25 = .ok (.aload_n 0, 1) := by decide +kernel
theorem dX8_next_26 : decode cX8_next 26 = .ok (.dup, 1) := by decide +kernel
theorem dX8_next_27 : decode cX8_next 27 = .ok (.getfield 19, 3) := by decide +kernel
theorem dX8_next_30 : decode cX8_next 30 = .ok (.iconst 1, 1) := by decide +kernel
theorem dX8_next_31 : decode cX8_next 31 = .ok (.iadd, 1) := by decide +kernel
theorem dX8_next_32 : decode cX8_next 32 = .ok (.putfield 19, 3) := by decide +kernel
theorem dX8_next_35 : decode cX8_next 35 = .ok (.goto (-35), 3) := by decide +kernel
theorem dX8_next_38 : decode cX8_next 38 = .ok (.aload_n 0, 1) := by decide +kernel
theorem dX8_next_39 : decode cX8_next 39 = .ok (.aload_n 0, 1) := by decide +kernel
theorem dX8_next_40 : decode cX8_next 40 = .ok (.getfield 19, 3) := by decide +kernel
theorem dX8_next_43 : decode cX8_next 43 = .ok (.putfield 25, 3) := by decide +kernel
theorem dX8_next_46 : decode cX8_next 46 = .ok (.aload_n 0, 1) := by decide +kernel
theorem dX8_next_47 : decode cX8_next 47 = .ok (.getfield 19, 3) := by decide +kernel
theorem dX8_next_50 : decode cX8_next 50 = .ok (.aload_n 0, 1) := by decide +kernel
theorem dX8_next_51 : decode cX8_next 51 = .ok (.getfield 15, 3) := by decide +kernel
theorem dX8_next_54 : decode cX8_next 54 = .ok (.if_icmp .lt 11, 3) := by decide +kernel
theorem dX8_next_57 : decode cX8_next 57 = .ok (.aload_n 0, 1) := by decide +kernel
theorem dX8_next_58 : decode cX8_next 58 = .ok (.iconst 0, 1) := by decide +kernel
theorem dX8_next_59 : decode cX8_next 59 = .ok (.putfield 22, 3) := by decide +kernel
theorem dX8_next_62 : decode cX8_next 62 = .ok (.goto 295, 3) := by decide +kernel
theorem dX8_next_65 : decode cX8_next 65 = .ok (.aload_n 0, 1) := by decide +kernel
theorem dX8_next_66 : decode cX8_next 66 = .ok (.getfield 9, 3) := by decide +kernel
theorem dX8_next_69 : decode cX8_next 69 = .ok (.aload_n 0, 1) := by decide +kernel
theorem dX8_next_70 : decode cX8_next 70 = .ok (.getfield 19, 3) := by decide +kernel
theorem dX8_next_73 : decode cX8_next 73 = .ok (.baload, 1) := by decide +kernel
theorem dX8_next_74 : decode cX8_next 74 = .ok (.bipush 97, 2) := by decide +kernel
theorem dX8_next_76 : decode cX8_next 76 = .ok (.if_icmp .lt 74, 3) := by decide +kernel
theorem dX8_next_79 : decode cX8_next 79 = .ok (.aload_n 0, 1) := by decide +kernel
theorem dX8_next_80 : decode cX8_next 80 = .ok (.getfield 9, 3) := by decide +kernel
theorem dX8_next_83 : decode cX8_next 83 = .ok (.aload_n 0, 1) := by decide +kernel
theorem dX8_next_84 : decode cX8_next 84 = .ok (.getfield 19, 3) := by decide +kernel
theorem dX8_next_87 : decode cX8_next 87 = .ok (.baload, 1) := by decide +kernel
theorem dX8_next_88 : decode cX8_next 88 = .ok (.bipush 122, 2) := by decide +kernel
theorem dX8_next_90 : decode cX8_next 90 = .ok (.if_icmp .gt 60, 3) := by decide +kernel
theorem dX8_next_93 : decode cX8_next 93 = .ok (.aload_n 0, 1) := by decide +kernel
theorem dX8_next_94 : decode cX8_next 94 = .ok (.iconst 1, 1) := by decide +kernel
theorem dX8_next_95 : decode cX8_next 95 = .ok (.putfield 22, 3) := by decide +kernel
theorem dX8_next_98 : decode cX8_next 98 = .ok (.aload_n 0, 1) := by decide +kernel
theorem dX8_next_99 : decode cX8_next 99 = .ok (.getfield 19, 3) := by decide +kernel
theorem dX8_next_102 : decode cX8_next 102 = .ok (.aload_n 0, 1) := by decide +kernel
theorem dX8_next_103 : decode cX8_next 103 = .ok (.getfield 15, 3) := by decide +kernel
theorem dX8_next_106 : decode cX8_next 106 = .ok (.if_icmp .ge 251, 3) := by decide +kernel
theorem dX8_next_109 : decode cX8_next 109 = .ok (.aload_n 0, 1) := by decide +kernel
theorem dX8_next_110 : decode cX8_next 110 = .ok (.getfield 9, 3) := by decide +kernel
theorem dX8_next_113 : decode cX8_next 113 = .ok (.aload_n 0, 1) := by decide +kernel
theorem dX8_next_114 : decode cX8_next 114 = .ok (.getfield 19, 3) := by decide +kernel
theorem dX8_next_117 : decode cX8_next 117 = .ok (.baload, 1) := by decide +kernel
theorem dX8_next_118 : decode cX8_next 118 = .ok (.bipush 97, 2) := by decide +kernel
theorem dX8_next_120 : decode cX8_next 120 = .ok (.if_icmp .lt 237, 3) := by decide +kernel
theorem dX8_next_123 : decode cX8_next 123 = .ok (.aload_n 0, 1) := by decide +kernel
theorem dX8_next_124 : decode cX8_next 124 = .ok (.getfield 9, 3) := by decide +kernel
theorem dX8_next_127 : decode cX8_next 127 = .ok (.aload_n 0, 1) := by decide +kernel
theorem dX8_next_128 : decode cX8_next 128 = .ok (.getfield 19, 3) := by decide +kernel
theorem dX8_next_131 : decode cX8_next 131 = .ok (.baload, 1) := by decide +kernel
theorem dX8_next_132 : decode cX8_next 132 = .ok (.bipush 122, 2) := by decide +kernel
theorem dX8_next_134 : decode cX8_next 134 = .ok (.if_icmp .gt 223, 3) := by decide +kernel
theorem dX8_next_137 : decode cX8_next 137 = .ok (.aload_n 0, 1) := by decide +kernel
theorem dX8_next_138 : decode cX8_next 138 = .ok (.dup, 1) := by decide +kernel
theorem dX8_next_139 : decode cX8_next 139 = .ok (.getfield 19, 3) := by decide +kernel
theorem dX8_next_142 : decode cX8_next 142 = .ok (.iconst 1, 1) := by decide +kernel
theorem dX8_next_143 : decode cX8_next 143 = .ok (.iadd, 1) := by decide +kernel
theorem dX8_next_144 : decode cX8_next 144 = .ok (.putfield 19, 3) := by decide +kernel
theorem dX8_next_147 : decode cX8_next 147 = .ok (.goto (-49), 3) := by decide +kernel
theorem dX8_next_150 : decode cX8_next 150 = .ok (.aload_n 0, 1) := by decide +kernel
theorem dX8_next_151 : decode cX8_next 151 = .ok (.getfield 9, 3) := by decide +kernel
theorem dX8_next_154 : decode cX8_next 154 = .ok (.aload_n 0, 1) := by decide +kernel
theorem dX8_next_155 : decode cX8_next 155 = .ok (.getfield 19, 3) := by decide +kernel
theorem dX8_next_158 : decode cX8_next 158 = .ok (.baload, 1) := by decide +kernel
theorem dX8_next_159 : decode cX8_next 159 = .ok (.bipush 48, 2) := by decide +kernel
theorem dX8_next_161 : decode cX8_next 161 = .ok (.if_icmp .lt 103, 3) := by decide +kernel
theorem dX8_next_164 : decode cX8_next 164 = .ok (.aload_n 0, 1) := by decide +kernel
theorem dX8_next_165 : decode cX8_next 165 = .ok (.getfield 9, 3) := by decide +kernel
theorem dX8_next_168 : decode cX8_next 168 = .ok (.aload_n 0, 1) := by decide +kernel
theorem dX8_next_169 : decode cX8_next 169 = .ok (.getfield 19, 3) := by decide +kernel
theorem dX8_next_172 : decode cX8_next 172 = .ok (.baload, 1) := by decide +kernel
theorem dX8_next_173 : decode cX8_next 173 = .ok (.bipush 57, 2) := by decide +kernel
theorem dX8_next_175 : decode cX8_next 175 = .ok (.if_icmp .gt 89, 3) := by decide +kernel
theorem dX8_next_178 : decode cX8_next 178 = .ok (.aload_n 0, 1) := by decide +kernel
theorem dX8_next_179 : decode cX8_next 179 = .ok (.iconst 2, 1) := by decide +kernel
theorem dX8_next_180 : decode cX8_next 180 = .ok (.putfield 22, 3) := by decide +kernel
theorem dX8_next_183 : decode cX8_next 183 = .ok (.aload_n 0, 1) := by decide +kernel
theorem dX8_next_184 : decode cX8_next 184 = .ok (.iconst 0, 1) := by decide +kernel
theorem dX8_next_185 : decode cX8_next 185 = .ok (.putfield 28, 3) := by decide +kernel
theorem dX8_next_188 : decode cX8_next 188 = .ok (.aload_n 0, 1) := by decide +kernel
theorem dX8_next_189 : decode cX8_next 189 = .ok (.getfield 19, 3) := by decide +kernel
theorem dX8_next_192 : decode cX8_next 192 = .ok (.aload_n 0, 1) := by decide +kernel
theorem dX8_next_193 : decode cX8_next 193 = .ok (.getfield 15, 3) := by decide +kernel
theorem dX8_next_196 : decode cX8_next 196 = .ok (.if_icmp .ge 161, 3) := by decide +kernel
theorem dX8_next_199 : decode cX8_next 199 = .ok (.aload_n 0, 1) := by decide +kernel
theorem dX8_next_200 : decode cX8_next 200 = .ok (.getfield 9, 3) := by decide +kernel
theorem dX8_next_203 : decode cX8_next 203 = .ok (.aload_n 0, 1) := by decide +kernel
theorem dX8_next_204 : decode cX8_next 204 = .ok (.getfield 19, 3) := by decide +kernel
theorem dX8_next_207 : decode cX8_next 207 = .ok (.baload, 1) := by decide +kernel
theorem dX8_next_208 : decode cX8_next 208 = .ok (.bipush 48, 2) := by decide +kernel
theorem dX8_next_210 : decode cX8_next 210 = .ok (.if_icmp .lt 147, 3) := by decide +kernel
theorem dX8_next_213 : decode cX8_next 213 = .ok (.aload_n 0, 1) := by decide +kernel
theorem dX8_next_214 : decode cX8_next 214 = .ok (.getfield 9, 3) := by decide +kernel
theorem dX8_next_217 : decode cX8_next 217 = .ok (.aload_n 0, 1) := by decide +kernel
theorem dX8_next_218 : decode cX8_next 218 = .ok (.getfield 19, 3) := by decide +kernel
theorem dX8_next_221 : decode cX8_next 221 = .ok (.baload, 1) := by decide +kernel
theorem dX8_next_222 : decode cX8_next 222 = .ok (.bipush 57, 2) := by decide +kernel
theorem dX8_next_224 : decode cX8_next 224 = .ok (.if_icmp .gt 133, 3) := by decide +kernel
theorem dX8_next_227 : decode cX8_next 227 = .ok (.aload_n 0, 1) := by decide +kernel
theorem dX8_next_228 : decode cX8_next 228 = .ok (.aload_n 0, 1) := by decide +kernel
theorem dX8_next_229 : decode cX8_next 229 = .ok (.getfield 28, 3) := by decide +kernel
theorem dX8_next_232 : decode cX8_next 232 = .ok (.bipush 10, 2) := by decide +kernel
theorem dX8_next_234 : decode cX8_next 234 = .ok (.imul, 1) := by decide +kernel
theorem dX8_next_235 : decode cX8_next 235 = .ok (.aload_n 0, 1) := by decide +kernel
theorem dX8_next_236 : decode cX8_next 236 = .ok (.getfield 9, 3) := by decide +kernel
theorem dX8_next_239 : decode cX8_next 239 = .ok (.aload_n 0, 1) := by decide +kernel
theorem dX8_next_240 : decode cX8_next 240 = .ok (.getfield 19, 3) := by decide +kernel
theorem dX8_next_243 : decode cX8_next 243 = .ok (.baload, 1) := by decide +kernel
theorem dX8_next_244 : decode cX8_next 244 = .ok (.iadd, 1) := by decide +kernel
theorem dX8_next_245 : decode cX8_next 245 = .ok (.bipush 48, 2) := by decide +kernel
theorem dX8_next_247 : decode cX8_next 247 = .ok (.isub, 1) := by decide +kernel
theorem dX8_next_248 : decode cX8_next 248 = .ok (.putfield 28, 3) := by decide +kernel
theorem dX8_next_251 : decode cX8_next 251 = .ok (.aload_n 0, 1) := by decide +kernel
theorem dX8_next_252 : decode cX8_next 252 = .ok (.dup, 1) := by decide +kernel
theorem dX8_next_253 : decode cX8_next 253 = .ok (.getfield 19, 3) := by decide +kernel
theorem dX8_next_256 : decode cX8_next 256 = .ok (.iconst 1, 1) := by decide +kernel
theorem dX8_next_257 : decode cX8_next 257 = .ok (.iadd, 1) := by decide +kernel
theorem dX8_next_258 : decode cX8_next 258 = .ok (.putfield 19, 3) := by decide +kernel
theorem dX8_next_261 : decode cX8_next 261 = .ok (.goto (-73), 3) := by decide +kernel
theorem dX8_next_264 : decode cX8_next 264 = .ok (.aload_n 0, 1) := by decide +kernel
theorem dX8_next_265 : decode cX8_next 265 = .ok (.iconst 3, 1) := by decide +kernel
theorem dX8_next_266 : decode cX8_next 266 = .ok (.putfield 22, 3) := by decide +kernel
theorem dX8_next_269 : decode cX8_next 269 = .ok (.aload_n 0, 1) := by decide +kernel
theorem dX8_next_270 : decode cX8_next 270 = .ok (.aload_n 0, 1) := by decide +kernel
theorem dX8_next_271 : decode cX8_next 271 = .ok (.getfield 9, 3) := by decide +kernel
theorem dX8_next_274 : decode cX8_next 274 = .ok (.aload_n 0, 1) := by decide +kernel
theorem dX8_next_275 : decode cX8_next 275 = .ok (.getfield 19, 3) := by decide +kernel
theorem dX8_next_278 : decode cX8_next 278 = .ok (.baload, 1) := by decide +kernel
theorem dX8_next_279 : decode cX8_next 279 = .ok (.putfield 28, 3) := by decide +kernel
theorem dX8_next_282 : decode cX8_next 282 = .ok (.aload_n 0, 1) := by decide +kernel
theorem dX8_next_283 : decode cX8_next 283 = .ok (.dup, 1) := by decide +kernel
theorem dX8_next_284 : decode cX8_next 284 = .ok (.getfield 19, 3) := by decide +kernel
theorem dX8_next_287 : decode cX8_next 287 = .ok (.iconst 1, 1) := by decide +kernel
theorem dX8_next_288 : decode cX8_next 288 = .ok (.iadd, 1) := by decide +kernel
theorem dX8_next_289 : decode cX8_next 289 = .ok (.putfield 19, 3) := by decide +kernel
theorem dX8_next_292 : decode cX8_next 292 = .ok (.aload_n 0, 1) := by decide +kernel
theorem dX8_next_293 : decode cX8_next 293 = .ok (.getfield 28, 3) := by decide +kernel
theorem dX8_next_296 : decode cX8_next 296 = .ok (.bipush 60, 2) := by decide +kernel
theorem dX8_next_298 : decode cX8_next 298 = .ok (.if_icmp .eq 12, 3) := by decide +kernel
theorem dX8_next_301 : decode cX8_next 301 = .ok (.aload_n 0, 1) := by decide +kernel
theorem dX8_next_302 : decode cX8_next 302 = .ok (.getfield 28, 3) := by decide +kernel
theorem dX8_next_305 : decode cX8_next 305 = .ok (.bipush 62, 2) := by decide +kernel
theorem dX8_next_307 : decode cX8_next 307 = .ok (.if_icmp .ne 50, 3) := by decide +kernel
theorem dX8_next_310 : decode cX8_next 310 = .ok (.aload_n 0, 1) := by decide +kernel
theorem dX8_next_311 : decode cX8_next 311 = .ok (.getfield 19, 3) := by decide +kernel
theorem dX8_next_314 : decode cX8_next 314 = .ok (.aload_n 0, 1) := by decide +kernel
theorem dX8_next_315 : decode cX8_next 315 = .ok (.getfield 15, 3) := by decide +kernel
theorem dX8_next_318 : decode cX8_next 318 = .ok (.if_icmp .ge 39, 3) := by decide +kernel
theorem dX8_next_321 : decode cX8_next 321 = .ok (.aload_n 0, 1) := by decide +kernel
theorem dX8_next_322 : decode cX8_next 322 = .ok (.getfield 9, 3) := by decide +kernel
theorem dX8_next_325 : decode cX8_next 325 = .ok (.aload_n 0, 1) := by decide +kernel
theorem dX8_next_326 : decode cX8_next 326 = .ok (.getfield 19, 3) := by decide +kernel
theorem dX8_next_329 : decode cX8_next 329 = .ok (.baload, 1) := by decide +kernel
theorem dX8_next_330 : decode cX8_next 330 = .ok (.bipush 61, 2) := by decide +kernel
theorem dX8_next_332 : decode cX8_next 332 = .ok (.if_icmp .ne 25, 3) := by decide +kernel
theorem dX8_next_335 : decode cX8_next 335 = .ok (.aload_n 0, 1) := by decide +kernel
theorem dX8_next_336 : decode cX8_next 336 = .ok (.dup, 1) := by decide +kernel
theorem dX8_next_337 : decode cX8_next 337 = .ok (.getfield 28, 3) := by decide +kernel
theorem dX8_next_340 : decode cX8_next 340 = .ok (.sipush 256, 3) := by decide +kernel
theorem dX8_next_343 : decode cX8_next 343 = .ok (.iadd, 1) := by decide +kernel
theorem dX8_next_344 : decode cX8_next 344 = .ok (.putfield 28, 3) := by decide +kernel
theorem dX8_next_347 : decode cX8_next 347 = .ok (.aload_n 0, 1) := by decide +kernel
theorem dX8_next_348 : decode cX8_next 348 = .ok (.dup, 1) := by decide +kernel
theorem dX8_next_349 : decode cX8_next 349 = .ok (.getfield 19, 3) := by decide +kernel
theorem dX8_next_352 : decode cX8_next 352 = .ok (.iconst 1, 1) := by decide +kernel
theorem dX8_next_353 : decode cX8_next 353 = .ok (.iadd, 1) := by decide +kernel
theorem dX8_next_354 : decode cX8_next 354 = .ok (.putfield 19, 3) := by decide +kernel
theorem dX8_next_357 : decode cX8_next 357 = .ok (.return_, 1) := by decide +kernel
theorem dX8_wordOf_0 : decode cX8_wordOf 0 = .ok (.aload_n 0, 1) := by decide +kernel
theorem dX8_wordOf_1 : decode cX8_wordOf 1 = .ok (.getfield 22, 3) := by decide +kernel
theorem dX8_wordOf_4 : decode cX8_wordOf 4 = .ok (.iconst 1, 1) := by decide +kernel
theorem dX8_wordOf_5 : decode cX8_wordOf 5 = .ok (.if_icmp .eq 5, 3) := by decide +kernel
theorem dX8_wordOf_8 : decode cX8_wordOf 8 = .ok (.iconst (-1), 1) := by decide +kernel
theorem dX8_wordOf_9 : decode cX8_wordOf 9 = .ok (.ireturn, 1) := by decide +kernel
theorem dX8_wordOf_10 : decode cX8_wordOf 10 = .ok (.iconst 0, 1) := by decide +kernel
theorem dX8_wordOf_11 : decode cX8_wordOf 11 = .ok (.istore_n 2, 1) := by decide +kernel
theorem dX8_wordOf_12 : decode cX8_wordOf 12 = .ok (.iconst 0, 1) := by decide +kernel
theorem dX8_wordOf_13 : decode cX8_wordOf 13 = .ok (.istore_n 3, 1) := by decide +kernel
theorem dX8_wordOf_14 : decode cX8_wordOf 14 = .ok (.iconst 0, 1) := by decide +kernel
theorem dX8_wordOf_15 : decode cX8_wordOf 15 = .ok (.istore 4, 2) := by decide +kernel
theorem dX8_wordOf_17 : decode cX8_wordOf 17 = .ok (.iload 4, 2) := by decide +kernel
theorem dX8_wordOf_19 : decode cX8_wordOf 19 = .ok (.aload_n 1, 1) := by decide +kernel
theorem dX8_wordOf_20 : decode cX8_wordOf 20 = .ok (.invokevirtual 37, 3) := by decide +kernel
theorem dX8_wordOf_23 : decode cX8_wordOf 23 = .ok (.if_icmp .gt 109, 3) := by decide +kernel
theorem dX8_wordOf_26 : decode cX8_wordOf 26 = .ok (.iload 4, 2) := by decide +kernel
theorem dX8_wordOf_28 : decode cX8_wordOf 28 = .ok (.aload_n 1, 1) := by decide +kernel
theorem dX8_wordOf_29 : decode cX8_wordOf 29 = .ok (.invokevirtual 37, 3) := by decide +kernel
theorem dX8_wordOf_32 : decode cX8_wordOf 32 = .ok (.if_icmp .eq 14, 3) := by decide +kernel
theorem dX8_wordOf_35 : decode cX8_wordOf 35 = .ok (.aload_n 1, 1) := by decide +kernel
theorem dX8_wordOf_36 : decode cX8_wordOf 36 = .ok (.iload 4, 2) := by decide +kernel
theorem dX8_wordOf_38 : decode cX8_wordOf 38 = .ok (.invokevirtual 42, 3) := by decide +kernel
theorem dX8_wordOf_41 : decode cX8_wordOf 41 = .ok (.bipush 32, 2) := by decide +kernel
theorem dX8_wordOf_43 : decode cX8_wordOf 43 = .ok (.if_icmp .ne 26, 3) := by decide +kernel
theorem dX8_wordOf_46 : decode cX8_wordOf 46 = .ok (.iload_n 3, 1) := by decide +kernel
theorem dX8_wordOf_47 : decode cX8_wordOf 47 = .ok (.aload_n 0, 1) := by decide +kernel
theorem dX8_wordOf_48 : decode cX8_wordOf 48 = .ok (.getfield 19, 3) := by decide +kernel
theorem dX8_wordOf_51 : decode cX8_wordOf 51 = .ok (.aload_n 0, 1) := by decide +kernel
theorem dX8_wordOf_52 : decode cX8_wordOf 52 = .ok (.getfield 25, 3) := by decide +kernel
theorem dX8_wordOf_55 : decode cX8_wordOf 55 = .ok (.isub, 1) := by decide +kernel
theorem dX8_wordOf_56 : decode cX8_wordOf 56 = .ok (.if_icmp .ne 5, 3) := by decide +kernel
theorem dX8_wordOf_59 : decode cX8_wordOf 59 = .ok (.iload_n 2, 1) := by decide +kernel
theorem dX8_wordOf_60 : decode cX8_wordOf 60 = .ok (.ireturn, 1) := by decide +kernel
theorem dX8_wordOf_61 : decode cX8_wordOf 61 = .ok (.iinc 2 1, 3) := by decide +kernel
theorem dX8_wordOf_64 : decode cX8_wordOf 64 = .ok (.iconst 0, 1) := by decide +kernel
theorem dX8_wordOf_65 : decode cX8_wordOf 65 = .ok (.istore_n 3, 1) := by decide +kernel
theorem dX8_wordOf_66 : decode cX8_wordOf 66 = .ok (.goto 60, 3) := by decide +kernel
theorem dX8_wordOf_69 : decode cX8_wordOf 69 = .ok (.iload_n 3, 1) := by decide +kernel
theorem dX8_wordOf_70 : decode cX8_wordOf 70 = .ok (.ifCond .lt 56, 3) := by decide +kernel
theorem dX8_wordOf_73 : decode cX8_wordOf 73 = .ok (.iload_n 3, 1) := by decide +kernel
theorem dX8_wordOf_74 : decode cX8_wordOf 74 = .ok (.aload_n 0, 1) := by decide +kernel
theorem dX8_wordOf_75 : decode cX8_wordOf 75 = .ok (.getfield 19, 3) := by decide +kernel
theorem dX8_wordOf_78 : decode cX8_wordOf 78 = .ok (.aload_n 0, 1) := by decide +kernel
theorem dX8_wordOf_79 : decode cX8_wordOf 79 = .ok (.getfield 25, 3) := by decide +kernel
theorem dX8_wordOf_82 : decode cX8_wordOf 82 = .ok (.isub, 1) := by decide +kernel
theorem dX8_wordOf_83 : decode cX8_wordOf 83 = .ok (.if_icmp .ge 27, 3) := by decide +kernel
theorem dX8_wordOf_86 : decode cX8_wordOf 86 = .ok (.aload_n 0, 1) := by decide +kernel
theorem dX8_wordOf_87 : decode cX8_wordOf 87 = .ok (.getfield 9, 3) := by decide +kernel
theorem dX8_wordOf_90 : decode cX8_wordOf 90 = .ok (.aload_n 0, 1) := by decide +kernel
theorem dX8_wordOf_91 : decode cX8_wordOf 91 = .ok (.getfield 25, 3) := by decide +kernel
theorem dX8_wordOf_94 : decode cX8_wordOf 94 = .ok (.iload_n 3, 1) := by decide +kernel
theorem dX8_wordOf_95 : decode cX8_wordOf 95 = .ok (.iadd, 1) := by decide +kernel
theorem dX8_wordOf_96 : decode cX8_wordOf 96 = .ok (.baload, 1) := by decide +kernel
theorem dX8_wordOf_97 : decode cX8_wordOf 97 = .ok (.aload_n 1, 1) := by decide +kernel
theorem dX8_wordOf_98 : decode cX8_wordOf 98 = .ok (.iload 4, 2) := by decide +kernel
theorem dX8_wordOf_100 : decode cX8_wordOf 100 = .ok (.invokevirtual 42, 3) := by decide +kernel
theorem dX8_wordOf_103 : decode cX8_wordOf 103 = .ok (.if_icmp .ne 7, 3) := by decide +kernel
theorem dX8_wordOf_106 : decode cX8_wordOf 106 = .ok (.iconst 1, 1) := by decide +kernel
theorem dX8_wordOf_107 : decode cX8_wordOf 107 = .ok (.goto 4, 3) := by decide +kernel
theorem dX8_wordOf_110 : decode cX8_wordOf 110 = .ok (.iconst 0, 1) := by decide +kernel
theorem dX8_wordOf_111 : decode cX8_wordOf 111 = .ok (.istore 5, 2) := by decide +kernel
theorem dX8_wordOf_113 : decode cX8_wordOf 113 = .ok (.iload 5, 2) := by decide +kernel
theorem dX8_wordOf_115 : decode cX8_wordOf 115 = .ok (.ifCond .eq 9, 3) := by decide +kernel
theorem dX8_wordOf_118 : decode cX8_wordOf 118 = .ok (.iload_n 3, 1) := by decide +kernel
theorem dX8_wordOf_119 : decode cX8_wordOf 119 = .ok (.iconst 1, 1) := by decide +kernel
theorem dX8_wordOf_120 : decode cX8_wordOf 120 = .ok (.iadd, 1) := by decide +kernel
theorem dX8_wordOf_121 : decode cX8_wordOf 121 = .ok (.goto 4, 3) := by decide +kernel
theorem dX8_wordOf_124 : decode cX8_wordOf 124 = .ok (.iconst (-1), 1) := by decide +kernel
theorem dX8_wordOf_125 : decode cX8_wordOf 125 = .ok (.istore_n 3, 1) := by decide +kernel
theorem dX8_wordOf_126 : decode cX8_wordOf 126 = .ok (.iinc 4 1, 3) := by decide +kernel
theorem dX8_wordOf_129 : decode cX8_wordOf 129 = .ok (.goto (-112), 3) := by decide +kernel
theorem dX8_wordOf_132 : decode cX8_wordOf 132 = .ok (.iconst (-1), 1) := by decide +kernel
theorem dX8_wordOf_133 : decode cX8_wordOf 133 = .ok (.ireturn, 1) := by decide +kernel
theorem dX8_isSign_0 : decode cX8_isSign 0 = .ok (.aload_n 0, 1) := by decide +kernel
theorem dX8_isSign_1 : decode cX8_isSign 1 = .ok (.getfield 22, 3) := by decide +kernel
theorem dX8_isSign_4 : decode cX8_isSign 4 = .ok (.iconst 3, 1) := by decide +kernel
theorem dX8_isSign_5 : decode cX8_isSign 5 = .ok (.if_icmp .ne 15, 3) := by decide +kernel
theorem dX8_isSign_8 : decode cX8_isSign 8 = .ok (.aload_n 0, 1) := by decide +kernel
theorem dX8_isSign_9 : decode cX8_isSign 9 = .ok (.getfield 28, 3) := by decide +kernel
theorem dX8_isSign_12 : decode cX8_isSign 12 = .ok (.iload_n 1, 1) := by decide +kernel
theorem dX8_isSign_13 : decode cX8_isSign 13 = .ok (.if_icmp .ne 7, 3) := by decide +kernel
theorem dX8_isSign_16 : decode cX8_isSign 16 = .ok (.iconst 1, 1) := by decide +kernel
theorem dX8_isSign_17 : decode cX8_isSign 17 = .ok (.goto 4, 3) := by decide +kernel
theorem dX8_isSign_20 : decode cX8_isSign 20 = .ok (.iconst 0, 1) := by decide +kernel
theorem dX8_isSign_21 : decode cX8_isSign 21 = .ok (.ireturn, 1) := by decide +kernel
theorem dX8_takeSign_0 : decode cX8_takeSign 0 = .ok (.aload_n 0, 1) := by decide +kernel
theorem dX8_takeSign_1 : decode cX8_takeSign 1 = .ok (.iload_n 1, 1) := by decide +kernel
theorem dX8_takeSign_2 : decode cX8_takeSign 2 = .ok (.invokevirtual 46, 3) := by decide +kernel
theorem dX8_takeSign_5 : decode cX8_takeSign 5 = .ok (.ifCond .eq 10, 3) := by decide +kernel
theorem dX8_takeSign_8 : decode cX8_takeSign 8 = .ok (.aload_n 0, 1) := by decide +kernel
theorem dX8_takeSign_9 : decode cX8_takeSign 9 = .ok (.invokevirtual 34, 3) := by decide +kernel
theorem dX8_takeSign_12 : decode cX8_takeSign 12 = .ok (.goto 8, 3) := by decide +kernel
theorem dX8_takeSign_15 : decode cX8_takeSign 15 = .ok (.aload_n 0, 1) := by decide +kernel
theorem dX8_takeSign_16 : decode cX8_takeSign 16 = .ok (.iconst 0, 1) := by decide +kernel
theorem dX8_takeSign_17 : decode cX8_takeSign 17 = .ok (.invokevirtual 50, 3) := by decide +kernel
theorem dX8_takeSign_20 : decode cX8_takeSign 20 = .ok (.return_, 1) := by decide +kernel
theorem dX8_takeNumber_0 : decode cX8_takeNumber 0 = .ok (.aload_n 0, 1) := by decide +kernel
theorem dX8_takeNumber_1 : decode cX8_takeNumber 1 = .ok (.getfield 31, 3) := by decide +kernel
theorem dX8_takeNumber_4 : decode cX8_takeNumber 4 = .ok (.ifCond .eq 5, 3) := by decide +kernel
theorem dX8_takeNumber_7 : decode cX8_takeNumber 7 = .ok (.iconst 0, 1) := by decide +kernel
theorem dX8_takeNumber_8 : decode cX8_takeNumber 8 = .ok (.ireturn, 1) := by decide +kernel
theorem dX8_takeNumber_9 : decode cX8_takeNumber 9 = .ok (.aload_n 0, 1) := by decide +kernel
theorem dX8_takeNumber_10 : decode cX8_takeNumber 10 = .ok (.getfield 22, 3) := by decide +kernel
theorem dX8_takeNumber_13 : decode cX8_takeNumber 13 = .ok (.iconst 2, 1) := by decide +kernel
theorem dX8_takeNumber_14 : decode cX8_takeNumber 14 = .ok (.if_icmp .eq 10, 3) := by decide +kernel
theorem dX8_takeNumber_17 : decode cX8_takeNumber 17 = .ok (.aload_n 0, 1) := by decide +kernel
theorem dX8_takeNumber_18 : decode cX8_takeNumber 18 = .ok (.iconst 0, 1) := by decide +kernel
theorem dX8_takeNumber_19 : decode cX8_takeNumber 19 = .ok (.invokevirtual 50, 3) := by decide +kernel
theorem dX8_takeNumber_22 : decode cX8_takeNumber 22 = .ok (.iconst 0, 1) := by decide +kernel
theorem dX8_takeNumber_23 : decode cX8_takeNumber 23 = .ok (.ireturn, 1) := by decide +kernel
theorem dX8_takeNumber_24 : decode cX8_takeNumber 24 = .ok (.aload_n 0, 1) := by decide +kernel
theorem dX8_takeNumber_25 : decode cX8_takeNumber 25 = .ok (.invokevirtual 54, 3) := by decide +kernel
theorem dX8_takeNumber_28 : decode cX8_takeNumber 28 = .ok (.ifCond .ne 19, 3) := by decide +kernel
theorem dX8_takeNumber_31 : decode cX8_takeNumber 31 = .ok (.aload_n 0, 1) := by decide +kernel
theorem dX8_takeNumber_32 : decode cX8_takeNumber 32 = .ok (.getfield 28, 3) := by decide +kernel
theorem dX8_takeNumber_35 : decode cX8_takeNumber 35 = .ok (.iload_n 1, 1) := by decide +kernel
theorem dX8_takeNumber_36 : decode cX8_takeNumber 36 = .ok (.if_icmp .lt 11, 3) := by decide +kernel
theorem dX8_takeNumber_39 : decode cX8_takeNumber 39 = .ok (.aload_n 0, 1) := by decide +kernel
theorem dX8_takeNumber_40 : decode cX8_takeNumber 40 = .ok (.getfield 28, 3) := by decide +kernel
theorem dX8_takeNumber_43 : decode cX8_takeNumber 43 = .ok (.iload_n 2, 1) := by decide +kernel
theorem dX8_takeNumber_44 : decode cX8_takeNumber 44 = .ok (.if_icmp .le 10, 3) := by decide +kernel
theorem dX8_takeNumber_47 : decode cX8_takeNumber 47 = .ok (.aload_n 0, 1) := by decide +kernel
theorem dX8_takeNumber_48 : decode cX8_takeNumber 48 = .ok (.iconst 1, 1) := by decide +kernel
theorem dX8_takeNumber_49 : decode cX8_takeNumber 49 = .ok (.invokevirtual 50, 3) := by decide +kernel
theorem dX8_takeNumber_52 : decode cX8_takeNumber 52 = .ok (.iconst 0, 1) := by decide +kernel
theorem dX8_takeNumber_53 : decode cX8_takeNumber 53 = .ok (.ireturn, 1) := by decide +kernel
theorem dX8_takeNumber_54 : decode cX8_takeNumber 54 = .ok (.aload_n 0, 1) := by decide +kernel
theorem dX8_takeNumber_55 : decode cX8_takeNumber 55 = .ok (.getfield 28, 3) := by decide +kernel
theorem dX8_takeNumber_58 : decode cX8_takeNumber 58 = .ok (.istore_n 3, 1) := by decide +kernel
theorem dX8_takeNumber_59 : decode cX8_takeNumber 59 = .ok (.aload_n 0, 1) := by decide +kernel
theorem dX8_takeNumber_60 : decode cX8_takeNumber 60 = .ok (.invokevirtual 34, 3) := by decide +kernel
theorem dX8_takeNumber_63 : decode cX8_takeNumber 63 = .ok (.iload_n 3, 1) := by decide +kernel
theorem dX8_takeNumber_64 : decode cX8_takeNumber 64 = .ok (.ireturn, 1) := by decide +kernel
theorem dX8_hasTooManyDigits_0 : decode cX8_hasTooManyDigits 0 = .ok (.aload_n 0, 1) := by decide +kernel
theorem dX8_hasTooManyDigits_1 : decode cX8_hasTooManyDigits 1 = .ok (.getfield 19, 3) := by decide +kernel
theorem dX8_hasTooManyDigits_4 : decode cX8_hasTooManyDigits 4 = .ok (.aload_n 0, 1) := by decide +kernel
theorem dX8_hasTooManyDigits_5 : decode cX8_hasTooManyDigits 5 = .ok (.getfield 25, 3) := by decide +kernel
theorem dX8_hasTooManyDigits_8 : decode cX8_hasTooManyDigits 8 = .ok (.isub, 1) := by decide +kernel
theorem dX8_hasTooManyDigits_9 : decode cX8_hasTooManyDigits 9 = .ok (.iconst 5, 1) := by decide +kernel
theorem dX8_hasTooManyDigits_10 : decode cX8_hasTooManyDigits 10 = .ok (.if_icmp .le 7, 3) := by decide +kernel
theorem dX8_hasTooManyDigits_13 : decode cX8_hasTooManyDigits 13 = .ok (.iconst 1, 1) := by decide +kernel
theorem dX8_hasTooManyDigits_14 : decode cX8_hasTooManyDigits 14 = .ok (.goto 4, 3) := by decide +kernel
theorem dX8_hasTooManyDigits_17 : decode cX8_hasTooManyDigits 17 = .ok (.iconst 0, 1) := by decide +kernel
theorem dX8_hasTooManyDigits_18 : decode cX8_hasTooManyDigits 18 = .ok (.ireturn, 1) := by decide +kernel
theorem dX8_fail_0 : decode cX8_fail 0 = .ok (.aload_n 0, 1) := by decide +kernel
theorem dX8_fail_1 : decode cX8_fail 1 = .ok (.getfield 31, 3) := by decide +kernel
theorem dX8_fail_4 : decode cX8_fail 4 = .ok (.ifCond .ne 18, 3) := by decide +kernel
theorem dX8_fail_7 : decode cX8_fail 7 = .ok (.aload_n 0, 1) := by decide +kernel
theorem dX8_fail_8 : decode cX8_fail 8 = .ok (.iconst 1, 1) := by decide +kernel
theorem dX8_fail_9 : decode cX8_fail 9 = .ok (.bipush 8, 2) := by decide +kernel
theorem dX8_fail_11 : decode cX8_fail 11 = .ok (.aload_n 0, 1) := by decide +kernel
theorem dX8_fail_12 : decode cX8_fail 12 = .ok (.getfield 25, 3) := by decide +kernel
theorem dX8_fail_15 : decode cX8_fail 15 = .ok (.imul, 1) := by decide +kernel
theorem dX8_fail_16 : decode cX8_fail 16 = .ok (.iadd, 1) := by decide +kernel
theorem dX8_fail_17 : decode cX8_fail 17 = .ok (.iload_n 1, 1) := by decide +kernel
theorem dX8_fail_18 : decode cX8_fail 18 = .ok (.iadd, 1) := by decide +kernel
theorem dX8_fail_19 : decode cX8_fail 19 = .ok (.putfield 31, 3) := by decide +kernel
theorem dX8_fail_22 : decode cX8_fail 22 = .ok (.return_, 1) := by decide +kernel
theorem dX9_init_0 : decode cX9_init 0 = .ok (.aload_n 0, 1) := by decide +kernel
theorem dX9_init_1 : decode cX9_init 1 = .ok (.invokespecial 3, 3) := by decide +kernel
theorem dX9_init_4 : decode cX9_init 4 = .ok (.aload_n 0, 1) := by decide +kernel
theorem dX9_init_5 : decode cX9_init 5 = .ok (.aload_n 1, 1) := by decide +kernel
theorem dX9_init_6 : decode cX9_init 6 = .ok (.putfield 9, 3) := by decide +kernel
theorem dX9_init_9 : decode cX9_init 9 = .ok (.return_, 1) := by decide +kernel
theorem dX9_readClauses_0 : decode cX9_readClauses 0 = .ok (.aload_n 0, 1) := by decide +kernel
theorem dX9_readClauses_1 : decode cX9_readClauses 1 = .ok (.getfield 9, 3) := by decide +kernel
theorem dX9_readClauses_4 : decode cX9_readClauses 4 = .ok (.invokevirtual 15, 3) := by decide +kernel
theorem dX9_readClauses_7 : decode cX9_readClauses 7 = .ok (.iconst 0, 1) := by decide +kernel
theorem dX9_readClauses_8 : decode cX9_readClauses 8 = .ok (.istore_n 1, 1) := by decide +kernel
theorem dX9_readClauses_9 : decode cX9_readClauses 9 = .ok (.iload_n 1, 1) := by decide +kernel
theorem dX9_readClauses_10 : decode cX9_readClauses 10 = .ok (.sipush 400, 3) := by decide +kernel
theorem dX9_readClauses_13 : decode cX9_readClauses 13 = .ok (.if_icmp .gt 59, 3) := by decide +kernel
theorem dX9_readClauses_16 : decode cX9_readClauses 16 = .ok (.aload_n 0, 1) := by decide +kernel
theorem dX9_readClauses_17 : decode cX9_readClauses 17 = .ok (.iload_n 1, 1) := by decide +kernel
theorem dX9_readClauses_18 : decode cX9_readClauses 18 = .ok (.invokevirtual 20, 3) := by decide +kernel
theorem dX9_readClauses_21 : decode cX9_readClauses 21 = .ok (.aload_n 0, 1) := by decide +kernel
theorem dX9_readClauses_22 : decode cX9_readClauses 22 = .ok (.getfield 9, 3) := by decide +kernel
theorem dX9_readClauses_25 : decode cX9_readClauses 25 = .ok (.getfield 24, 3) := by decide +kernel
theorem dX9_readClauses_28 : decode cX9_readClauses 28 = .ok (.ifCond .ne 44, 3) := by decide +kernel
theorem dX9_readClauses_31 : decode cX9_readClauses 31 = .ok (.aload_n 0, 1) := by decide +kernel
theorem dX9_readClauses_32 : decode cX9_readClauses 32 = .ok (.getfield 9, 3) := by decide +kernel
theorem dX9_readClauses_35 : decode cX9_readClauses 35 = .ok (.getfield 28, 3) := by decide +kernel
theorem dX9_readClauses_38 : decode cX9_readClauses 38 = .ok (.ifCond .ne 6, 3) := by decide +kernel
theorem dX9_readClauses_41 : decode cX9_readClauses 41 = .ok (.goto 31, 3) := by decide +kernel
theorem dX9_readClauses_44 : decode cX9_readClauses 44 = .ok (.aload_n 0, 1) := by decide +kernel
theorem dX9_readClauses_45 : decode cX9_readClauses 45 = .ok (.getfield 9, 3) := by decide +kernel
theorem dX9_readClauses_48 : decode cX9_readClauses 48 = .ok (.bipush 59, 2) := by decide +kernel
theorem dX9_readClauses_50 : decode cX9_readClauses 50 = .ok (.invokevirtual 31, 3) := by decide +kernel
theorem dX9_readClauses_53 : decode cX9_readClauses 53 = .ok (.aload_n 0, 1) := by decide +kernel
theorem dX9_readClauses_54 : decode cX9_readClauses 54 = .ok (.getfield 9, 3) := by decide +kernel
theorem dX9_readClauses_57 : decode cX9_readClauses 57 = .ok (.getfield 24, 3) := by decide +kernel
theorem dX9_readClauses_60 : decode cX9_readClauses 60 = .ok (.ifCond .eq 6, 3) := by decide +kernel
theorem dX9_readClauses_63 : decode cX9_readClauses 63 = .ok (.goto 9, 3) := by decide +kernel
theorem dX9_readClauses_66 : decode cX9_readClauses 66 = .ok (.iinc 1 1, 3) := by decide +kernel
theorem dX9_readClauses_69 : decode cX9_readClauses 69 = .ok (.goto (-60), 3) := by decide +kernel
theorem dX9_readClauses_72 : decode cX9_readClauses 72 = .ok (.aload_n 0, 1) := by decide +kernel
theorem dX9_readClauses_73 : decode cX9_readClauses 73 = .ok (.getfield 9, 3) := by decide +kernel
theorem dX9_readClauses_76 : decode cX9_readClauses 76 = .ok (.getfield 24, 3) := by decide +kernel
theorem dX9_readClauses_79 : decode cX9_readClauses 79 = .ok (.ireturn, 1) := by decide +kernel
theorem dJ6_numberOfTrailingZeros_0f7a4_0 : decode cJ6_numberOfTrailingZeros_0f7a4 0 = .ok (.iload_n 0, 1) := by decide +kernel
theorem dJ6_numberOfTrailingZeros_0f7a4_1 : decode cJ6_numberOfTrailingZeros_0f7a4 1 = .ok (.iconst (-1), 1) := by decide +kernel
theorem dJ6_numberOfTrailingZeros_0f7a4_2 : decode cJ6_numberOfTrailingZeros_0f7a4 2 = .ok (.ixor, 1) := by decide +kernel
theorem dJ6_numberOfTrailingZeros_0f7a4_3 : decode cJ6_numberOfTrailingZeros_0f7a4 3 = .ok (.iload_n 0, 1) := by decide +kernel
theorem dJ6_numberOfTrailingZeros_0f7a4_4 : decode cJ6_numberOfTrailingZeros_0f7a4 4 = .ok (.iconst 1, 1) := by decide +kernel
theorem dJ6_numberOfTrailingZeros_0f7a4_5 : decode cJ6_numberOfTrailingZeros_0f7a4 5 = .ok (.isub, 1) := by decide +kernel
theorem dJ6_numberOfTrailingZeros_0f7a4_6 : decode cJ6_numberOfTrailingZeros_0f7a4 6 = .ok (.iand, 1) := by decide +kernel
theorem dJ6_numberOfTrailingZeros_0f7a4_7 : decode cJ6_numberOfTrailingZeros_0f7a4 7 = .ok (.istore_n 0, 1) := by decide +kernel
theorem dJ6_numberOfTrailingZeros_0f7a4_8 : decode cJ6_numberOfTrailingZeros_0f7a4 8 = .ok (.iload_n 0, 1) := by decide +kernel
theorem dJ6_numberOfTrailingZeros_0f7a4_9 : decode cJ6_numberOfTrailingZeros_0f7a4 9 = .ok (.ifCond .gt 8, 3) := by decide +kernel
theorem dJ6_numberOfTrailingZeros_0f7a4_12 : decode cJ6_numberOfTrailingZeros_0f7a4 12 = .ok (.iload_n 0, 1) := by decide +kernel
theorem dJ6_numberOfTrailingZeros_0f7a4_13 : decode cJ6_numberOfTrailingZeros_0f7a4 13 = .ok (.bipush 32, 2) := by decide +kernel
theorem dJ6_numberOfTrailingZeros_0f7a4_15 : decode cJ6_numberOfTrailingZeros_0f7a4 15 = .ok (.iand, 1) := by decide +kernel
theorem dJ6_numberOfTrailingZeros_0f7a4_16 : decode cJ6_numberOfTrailingZeros_0f7a4 16 = .ok (.ireturn, 1) := by decide +kernel
theorem dJ6_numberOfTrailingZeros_0f7a4_17 : decode cJ6_numberOfTrailingZeros_0f7a4 17 = .ok (.iconst 1, 1) := by decide +kernel
theorem dJ6_numberOfTrailingZeros_0f7a4_18 : decode cJ6_numberOfTrailingZeros_0f7a4 18 = .ok (.istore_n 1, 1) := by decide +kernel
theorem dJ6_numberOfTrailingZeros_0f7a4_19 : decode cJ6_numberOfTrailingZeros_0f7a4 19 = .ok (.iload_n 0, 1) := by decide +kernel
theorem dJ6_numberOfTrailingZeros_0f7a4_20 : decode cJ6_numberOfTrailingZeros_0f7a4 20 = .ok (.ldc_w 264, 3) := by decide +kernel
theorem dJ6_numberOfTrailingZeros_0f7a4_23 : decode cJ6_numberOfTrailingZeros_0f7a4 23 = .ok (.if_icmp .le 11, 3) := by decide +kernel
theorem dJ6_numberOfTrailingZeros_0f7a4_26 : decode cJ6_numberOfTrailingZeros_0f7a4 26 = .ok (.iinc 1 16, 3) := by decide +kernel
theorem dJ6_numberOfTrailingZeros_0f7a4_29 : decode cJ6_numberOfTrailingZeros_0f7a4 29 = .ok (.iload_n 0, 1) := by decide +kernel
theorem dJ6_numberOfTrailingZeros_0f7a4_30 : decode cJ6_numberOfTrailingZeros_0f7a4 30 = .ok (.bipush 16, 2) := by decide +kernel
theorem dJ6_numberOfTrailingZeros_0f7a4_32 : decode cJ6_numberOfTrailingZeros_0f7a4 32 = .ok (.iushr, 1) := by decide +kernel
theorem dJ6_numberOfTrailingZeros_0f7a4_33 : decode cJ6_numberOfTrailingZeros_0f7a4 33 = .ok (.istore_n 0, 1) := by decide +kernel
theorem dJ6_numberOfTrailingZeros_0f7a4_34 : decode cJ6_numberOfTrailingZeros_0f7a4 34 = .ok (.iload_n 0, 1) := by decide +kernel
theorem dJ6_numberOfTrailingZeros_0f7a4_35 : decode cJ6_numberOfTrailingZeros_0f7a4 35 = .ok (.sipush 256, 3) := by decide +kernel
theorem dJ6_numberOfTrailingZeros_0f7a4_38 : decode cJ6_numberOfTrailingZeros_0f7a4 38 = .ok (.if_icmp .le 11, 3) := by decide +kernel
theorem dJ6_numberOfTrailingZeros_0f7a4_41 : decode cJ6_numberOfTrailingZeros_0f7a4 41 = .ok (.iinc 1 8, 3) := by decide +kernel
theorem dJ6_numberOfTrailingZeros_0f7a4_44 : decode cJ6_numberOfTrailingZeros_0f7a4 44 = .ok (.iload_n 0, 1) := by decide +kernel
theorem dJ6_numberOfTrailingZeros_0f7a4_45 : decode cJ6_numberOfTrailingZeros_0f7a4 45 = .ok (.bipush 8, 2) := by decide +kernel
theorem dJ6_numberOfTrailingZeros_0f7a4_47 : decode cJ6_numberOfTrailingZeros_0f7a4 47 = .ok (.iushr, 1) := by decide +kernel
theorem dJ6_numberOfTrailingZeros_0f7a4_48 : decode cJ6_numberOfTrailingZeros_0f7a4 48 = .ok (.istore_n 0, 1) := by decide +kernel
theorem dJ6_numberOfTrailingZeros_0f7a4_49 : decode cJ6_numberOfTrailingZeros_0f7a4 49 = .ok (.iload_n 0, 1) := by decide +kernel
theorem dJ6_numberOfTrailingZeros_0f7a4_50 : decode cJ6_numberOfTrailingZeros_0f7a4 50 = .ok (.bipush 16, 2) := by decide +kernel
theorem dJ6_numberOfTrailingZeros_0f7a4_52 : decode cJ6_numberOfTrailingZeros_0f7a4 52 = .ok (.if_icmp .le 10, 3) := by decide +kernel
theorem dJ6_numberOfTrailingZeros_0f7a4_55 : decode cJ6_numberOfTrailingZeros_0f7a4 55 = .ok (.iinc 1 4, 3) := by decide +kernel
theorem dJ6_numberOfTrailingZeros_0f7a4_58 : decode cJ6_numberOfTrailingZeros_0f7a4 58 = .ok (.iload_n 0, 1) := by decide +kernel
theorem dJ6_numberOfTrailingZeros_0f7a4_59 : decode cJ6_numberOfTrailingZeros_0f7a4 59 = .ok (.iconst 4, 1) := by decide +kernel
theorem dJ6_numberOfTrailingZeros_0f7a4_60 : decode cJ6_numberOfTrailingZeros_0f7a4 60 = .ok (.iushr, 1) := by decide +kernel
theorem dJ6_numberOfTrailingZeros_0f7a4_61 : decode cJ6_numberOfTrailingZeros_0f7a4 61 = .ok (.istore_n 0, 1) := by decide +kernel
theorem dJ6_numberOfTrailingZeros_0f7a4_62 : decode cJ6_numberOfTrailingZeros_0f7a4 62 = .ok (.iload_n 0, 1) := by decide +kernel
theorem dJ6_numberOfTrailingZeros_0f7a4_63 : decode cJ6_numberOfTrailingZeros_0f7a4 63 = .ok (.iconst 4, 1) := by decide +kernel
theorem dJ6_numberOfTrailingZeros_0f7a4_64 : decode cJ6_numberOfTrailingZeros_0f7a4 64 = .ok (.if_icmp .le 10, 3) := by decide +kernel
theorem dJ6_numberOfTrailingZeros_0f7a4_67 : decode cJ6_numberOfTrailingZeros_0f7a4 67 = .ok (.iinc 1 2, 3) := by decide +kernel
theorem dJ6_numberOfTrailingZeros_0f7a4_70 : decode cJ6_numberOfTrailingZeros_0f7a4 70 = .ok (.iload_n 0, 1) := by decide +kernel
theorem dJ6_numberOfTrailingZeros_0f7a4_71 : decode cJ6_numberOfTrailingZeros_0f7a4 71 = .ok (.iconst 2, 1) := by decide +kernel
theorem dJ6_numberOfTrailingZeros_0f7a4_72 : decode cJ6_numberOfTrailingZeros_0f7a4 72 = .ok (.iushr, 1) := by decide +kernel
theorem dJ6_numberOfTrailingZeros_0f7a4_73 : decode cJ6_numberOfTrailingZeros_0f7a4 73 = .ok (.istore_n 0, 1) := by decide +kernel
theorem dJ6_numberOfTrailingZeros_0f7a4_74 : decode cJ6_numberOfTrailingZeros_0f7a4 74 = .ok (.iload_n 1, 1) := by decide +kernel
theorem dJ6_numberOfTrailingZeros_0f7a4_75 : decode cJ6_numberOfTrailingZeros_0f7a4 75 = .ok (.iload_n 0, 1) := by decide +kernel
theorem dJ6_numberOfTrailingZeros_0f7a4_76 : decode cJ6_numberOfTrailingZeros_0f7a4 76 = .ok (.iconst 1, 1) := by decide +kernel
theorem dJ6_numberOfTrailingZeros_0f7a4_77 : decode cJ6_numberOfTrailingZeros_0f7a4 77 = .ok (.iushr, 1) := by decide +kernel
theorem dJ6_numberOfTrailingZeros_0f7a4_78 : decode cJ6_numberOfTrailingZeros_0f7a4 78 = .ok (.iadd, 1) := by decide +kernel
theorem dJ6_numberOfTrailingZeros_0f7a4_79 : decode cJ6_numberOfTrailingZeros_0f7a4 79 = .ok (.ireturn, 1) := by decide +kernel
theorem dJ6_bitCount_0f7a4_0 : decode cJ6_bitCount_0f7a4 0 = .ok (.iload_n 0, 1) := by decide +kernel
theorem dJ6_bitCount_0f7a4_1 : decode cJ6_bitCount_0f7a4 1 = .ok (.iload_n 0, 1) := by decide +kernel
theorem dJ6_bitCount_0f7a4_2 : decode cJ6_bitCount_0f7a4 2 = .ok (.iconst 1, 1) := by decide +kernel
theorem dJ6_bitCount_0f7a4_3 : decode cJ6_bitCount_0f7a4 3 = .ok (.iushr, 1) := by decide +kernel
theorem dJ6_bitCount_0f7a4_4 : decode cJ6_bitCount_0f7a4 4 = .ok (.ldc_w 265, 3) := by decide +kernel
theorem dJ6_bitCount_0f7a4_7 : decode cJ6_bitCount_0f7a4 7 = .ok (.iand, 1) := by decide +kernel
theorem dJ6_bitCount_0f7a4_8 : decode cJ6_bitCount_0f7a4 8 = .ok (.isub, 1) := by decide +kernel
theorem dJ6_bitCount_0f7a4_9 : decode cJ6_bitCount_0f7a4 9 = .ok (.istore_n 0, 1) := by decide +kernel
theorem dJ6_bitCount_0f7a4_10 : decode cJ6_bitCount_0f7a4 10 = .ok (.iload_n 0, 1) := by decide +kernel
theorem dJ6_bitCount_0f7a4_11 : decode cJ6_bitCount_0f7a4 11 = .ok (.ldc_w 266, 3) := by decide +kernel
theorem dJ6_bitCount_0f7a4_14 : decode cJ6_bitCount_0f7a4 14 = .ok (.iand, 1) := by decide +kernel
theorem dJ6_bitCount_0f7a4_15 : decode cJ6_bitCount_0f7a4 15 = .ok (.iload_n 0, 1) := by decide +kernel
theorem dJ6_bitCount_0f7a4_16 : decode cJ6_bitCount_0f7a4 16 = .ok (.iconst 2, 1) := by decide +kernel
theorem dJ6_bitCount_0f7a4_17 : decode cJ6_bitCount_0f7a4 17 = .ok (.iushr, 1) := by decide +kernel
theorem dJ6_bitCount_0f7a4_18 : decode cJ6_bitCount_0f7a4 18 = .ok (.ldc_w 266, 3) := by decide +kernel
theorem dJ6_bitCount_0f7a4_21 : decode cJ6_bitCount_0f7a4 21 = .ok (.iand, 1) := by decide +kernel
theorem dJ6_bitCount_0f7a4_22 : decode cJ6_bitCount_0f7a4 22 = .ok (.iadd, 1) := by decide +kernel
theorem dJ6_bitCount_0f7a4_23 : decode cJ6_bitCount_0f7a4 23 = .ok (.istore_n 0, 1) := by decide +kernel
theorem dJ6_bitCount_0f7a4_24 : decode cJ6_bitCount_0f7a4 24 = .ok (.iload_n 0, 1) := by decide +kernel
theorem dJ6_bitCount_0f7a4_25 : decode cJ6_bitCount_0f7a4 25 = .ok (.iload_n 0, 1) := by decide +kernel
theorem dJ6_bitCount_0f7a4_26 : decode cJ6_bitCount_0f7a4 26 = .ok (.iconst 4, 1) := by decide +kernel
theorem dJ6_bitCount_0f7a4_27 : decode cJ6_bitCount_0f7a4 27 = .ok (.iushr, 1) := by decide +kernel
theorem dJ6_bitCount_0f7a4_28 : decode cJ6_bitCount_0f7a4 28 = .ok (.iadd, 1) := by decide +kernel
theorem dJ6_bitCount_0f7a4_29 : decode cJ6_bitCount_0f7a4 29 = .ok (.ldc_w 267, 3) := by decide +kernel
theorem dJ6_bitCount_0f7a4_32 : decode cJ6_bitCount_0f7a4 32 = .ok (.iand, 1) := by decide +kernel
theorem dJ6_bitCount_0f7a4_33 : decode cJ6_bitCount_0f7a4 33 = .ok (.istore_n 0, 1) := by decide +kernel
theorem dJ6_bitCount_0f7a4_34 : decode cJ6_bitCount_0f7a4 34 = .ok (.iload_n 0, 1) := by decide +kernel
theorem dJ6_bitCount_0f7a4_35 : decode cJ6_bitCount_0f7a4 35 = .ok (.iload_n 0, 1) := by decide +kernel
theorem dJ6_bitCount_0f7a4_36 : decode cJ6_bitCount_0f7a4 36 = .ok (.bipush 8, 2) := by decide +kernel
theorem dJ6_bitCount_0f7a4_38 : decode cJ6_bitCount_0f7a4 38 = .ok (.iushr, 1) := by decide +kernel
theorem dJ6_bitCount_0f7a4_39 : decode cJ6_bitCount_0f7a4 39 = .ok (.iadd, 1) := by decide +kernel
theorem dJ6_bitCount_0f7a4_40 : decode cJ6_bitCount_0f7a4 40 = .ok (.istore_n 0, 1) := by decide +kernel
theorem dJ6_bitCount_0f7a4_41 : decode cJ6_bitCount_0f7a4 41 = .ok (.iload_n 0, 1) := by decide +kernel
theorem dJ6_bitCount_0f7a4_42 : decode cJ6_bitCount_0f7a4 42 = .ok (.iload_n 0, 1) := by decide +kernel
theorem dJ6_bitCount_0f7a4_43 : decode cJ6_bitCount_0f7a4 43 = .ok (.bipush 16, 2) := by decide +kernel
theorem dJ6_bitCount_0f7a4_45 : decode cJ6_bitCount_0f7a4 45 = .ok (.iushr, 1) := by decide +kernel
theorem dJ6_bitCount_0f7a4_46 : decode cJ6_bitCount_0f7a4 46 = .ok (.iadd, 1) := by decide +kernel
theorem dJ6_bitCount_0f7a4_47 : decode cJ6_bitCount_0f7a4 47 = .ok (.istore_n 0, 1) := by decide +kernel
theorem dJ6_bitCount_0f7a4_48 : decode cJ6_bitCount_0f7a4 48 = .ok (.iload_n 0, 1) := by decide +kernel
theorem dJ6_bitCount_0f7a4_49 : decode cJ6_bitCount_0f7a4 49 = .ok (.bipush 63, 2) := by decide +kernel
theorem dJ6_bitCount_0f7a4_51 : decode cJ6_bitCount_0f7a4 51 = .ok (.iand, 1) := by decide +kernel
theorem dJ6_bitCount_0f7a4_52 : decode cJ6_bitCount_0f7a4 52 = .ok (.ireturn, 1) := by decide +kernel
theorem dJ7_fill_53178_0 : decode cJ7_fill_53178 0 = .ok (.iconst 0, 1) := by decide +kernel
theorem dJ7_fill_53178_1 : decode cJ7_fill_53178 1 = .ok (.istore_n 2, 1) := by decide +kernel
theorem dJ7_fill_53178_2 : decode cJ7_fill_53178 2 = .ok (.aload_n 0, 1) := by decide +kernel
theorem dJ7_fill_53178_3 : decode cJ7_fill_53178 3 = .ok (.arraylength, 1) := by decide +kernel
theorem dJ7_fill_53178_4 : decode cJ7_fill_53178 4 = .ok (.istore_n 3, 1) := by decide +kernel
theorem dJ7_fill_53178_5 : decode cJ7_fill_53178 5 = .ok (.iload_n 2, 1) := by decide +kernel
theorem dJ7_fill_53178_6 : decode cJ7_fill_53178 6 = .ok (.iload_n 3, 1) := by decide +kernel
theorem dJ7_fill_53178_7 : decode cJ7_fill_53178 7 = .ok (.if_icmp .ge 13, 3) := by decide +kernel
theorem dJ7_fill_53178_10 : decode cJ7_fill_53178 10 = .ok (.aload_n 0, 1) := by decide +kernel
theorem dJ7_fill_53178_11 : decode cJ7_fill_53178 11 = .ok (.iload_n 2, 1) := by decide +kernel
theorem dJ7_fill_53178_12 : decode cJ7_fill_53178 12 = .ok (.iload_n 1, 1) := by decide +kernel
theorem dJ7_fill_53178_13 : decode cJ7_fill_53178 13 = .ok (.iastore, 1) := by decide +kernel
theorem dJ7_fill_53178_14 : decode cJ7_fill_53178 14 = .ok (.iinc 2 1, 3) := by decide +kernel
theorem dJ7_fill_53178_17 : decode cJ7_fill_53178 17 = .ok (.goto (-12), 3) := by decide +kernel
theorem dJ7_fill_53178_20 : decode cJ7_fill_53178 20 = .ok (.return_, 1) := by decide +kernel
theorem dJ7_copyOf_59c91_0 : decode cJ7_copyOf_59c91 0 = .ok (.iload_n 1, 1) := by decide +kernel
theorem dJ7_copyOf_59c91_1 : decode cJ7_copyOf_59c91 1 = .ok (.aload_n 0, 1) := by decide +kernel
theorem dJ7_copyOf_59c91_2 : decode cJ7_copyOf_59c91 2 = .ok (.arraylength, 1) := by decide +kernel
theorem dJ7_copyOf_59c91_3 : decode cJ7_copyOf_59c91 3 = .ok (.if_icmp .ne 11, 3) := by decide +kernel
theorem dJ7_copyOf_59c91_6 : decode cJ7_copyOf_59c91 6 = .ok (.aload_n 0, 1) := by decide +kernel
theorem dJ7_copyOf_59c91_7 : decode cJ7_copyOf_59c91 7 = .ok (.invokevirtual 316, 3) := by decide +kernel
theorem dJ7_copyOf_59c91_10 : decode cJ7_copyOf_59c91 10 = .ok (.checkcast 317, 3) := by decide +kernel
theorem dJ7_copyOf_59c91_13 : decode cJ7_copyOf_59c91 13 = .ok (.areturn, 1) := by decide +kernel
theorem dJ7_copyOf_59c91_14 : decode cJ7_copyOf_59c91 14 = .ok (.iload_n 1, 1) := by decide +kernel
theorem dJ7_copyOf_59c91_15 : decode cJ7_copyOf_59c91 15 = .ok (.newarray .int, 2) := by decide +kernel
theorem dJ7_copyOf_59c91_17 : decode cJ7_copyOf_59c91 17 = .ok (.astore_n 2, 1) := by decide +kernel
theorem dJ7_copyOf_59c91_18 : decode cJ7_copyOf_59c91 18 = .ok (.aload_n 0, 1) := by decide +kernel
theorem dJ7_copyOf_59c91_19 : decode cJ7_copyOf_59c91 19 = .ok (.iconst 0, 1) := by decide +kernel
theorem dJ7_copyOf_59c91_20 : decode cJ7_copyOf_59c91 20 = .ok (.aload_n 2, 1) := by decide +kernel
theorem dJ7_copyOf_59c91_21 : decode cJ7_copyOf_59c91 21 = .ok (.iconst 0, 1) := by decide +kernel
theorem dJ7_copyOf_59c91_22 : decode cJ7_copyOf_59c91 22 = .ok (.aload_n 0, 1) := by decide +kernel
theorem dJ7_copyOf_59c91_23 : decode cJ7_copyOf_59c91 23 = .ok (.arraylength, 1) := by decide +kernel
theorem dJ7_copyOf_59c91_24 : decode cJ7_copyOf_59c91 24 = .ok (.iload_n 1, 1) := by decide +kernel
theorem dJ7_copyOf_59c91_25 : decode cJ7_copyOf_59c91 25 = .ok (.invokestatic 304, 3) := by decide +kernel
theorem dJ7_copyOf_59c91_28 : decode cJ7_copyOf_59c91 28 = .ok (.invokestatic 150, 3) := by decide +kernel
theorem dJ7_copyOf_59c91_31 : decode cJ7_copyOf_59c91 31 = .ok (.aload_n 2, 1) := by decide +kernel
theorem dJ7_copyOf_59c91_32 : decode cJ7_copyOf_59c91 32 = .ok (.areturn, 1) := by decide +kernel
theorem dJ0_length_8abf5_0 : decode cJ0_length_8abf5 0 = .ok (.aload_n 0, 1) := by decide +kernel
theorem dJ0_length_8abf5_1 : decode cJ0_length_8abf5 1 = .ok (.getfield 9, 3) := by decide +kernel
theorem dJ0_length_8abf5_4 : decode cJ0_length_8abf5 4 = .ok (.arraylength, 1) := by decide +kernel
theorem dJ0_length_8abf5_5 : decode cJ0_length_8abf5 5 = .ok (.aload_n 0, 1) := by decide +kernel
theorem dJ0_length_8abf5_6 : decode cJ0_length_8abf5 6 = .ok (.invokevirtual 335, 3) := by decide +kernel
theorem dJ0_length_8abf5_9 : decode cJ0_length_8abf5 9 = .ok (.ishr, 1) := by decide +kernel
theorem dJ0_length_8abf5_10 : decode cJ0_length_8abf5 10 = .ok (.ireturn, 1) := by decide +kernel
theorem dJ0_charAt_5068e_0 : decode cJ0_charAt_5068e 0 = .ok (.aload_n 0, 1) := by decide +kernel
theorem dJ0_charAt_5068e_1 : decode cJ0_charAt_5068e 1 = .ok (.invokevirtual 492, 3) := by decide +kernel
theorem dJ0_charAt_5068e_4 : decode cJ0_charAt_5068e 4 = .ok (.ifCond .eq 12, 3) := by decide +kernel
theorem dJ0_charAt_5068e_7 : decode cJ0_charAt_5068e 7 = .ok (.aload_n 0, 1) := by decide +kernel
theorem dJ0_charAt_5068e_8 : decode cJ0_charAt_5068e 8 = .ok (.getfield 9, 3) := by decide +kernel
theorem dJ0_charAt_5068e_11 : decode cJ0_charAt_5068e 11 = .ok (.iload_n 1, 1) := by decide +kernel
theorem dJ0_charAt_5068e_12 : decode cJ0_charAt_5068e 12 = .ok (.invokestatic 495, 3) := by decide +kernel
theorem dJ0_charAt_5068e_15 : decode cJ0_charAt_5068e 15 = .ok (.ireturn, 1) := by decide +kernel
theorem dJ0_charAt_5068e_16 : decode cJ0_charAt_5068e 16 = .ok (.aload_n 0, 1) := by decide +kernel
theorem dJ0_charAt_5068e_17 : decode cJ0_charAt_5068e 17 = .ok (.getfield 9, 3) := by decide +kernel
theorem dJ0_charAt_5068e_20 : decode cJ0_charAt_5068e 20 = .ok (.iload_n 1, 1) := by decide +kernel
theorem dJ0_charAt_5068e_21 : decode cJ0_charAt_5068e 21 = .ok (.invokestatic 498, 3) := by decide +kernel
theorem dJ0_charAt_5068e_24 : decode cJ0_charAt_5068e 24 = .ok (.ireturn, 1) := by decide +kernel
theorem dJ0_coder_7d493_0 : decode cJ0_coder_7d493 0 = .ok (.getstatic 38, 3) := by decide +kernel
theorem dJ0_coder_7d493_3 : decode cJ0_coder_7d493 3 = .ok (.ifCond .eq 10, 3) := by decide +kernel
theorem dJ0_coder_7d493_6 : decode cJ0_coder_7d493 6 = .ok (.aload_n 0, 1) := by decide +kernel
theorem dJ0_coder_7d493_7 : decode cJ0_coder_7d493 7 = .ok (.getfield 15, 3) := by decide +kernel
theorem dJ0_coder_7d493_10 : decode cJ0_coder_7d493 10 = .ok (.goto 4, 3) := by decide +kernel
theorem dJ0_coder_7d493_13 : decode cJ0_coder_7d493 13 = .ok (.iconst 1, 1) := by decide +kernel
theorem dJ0_coder_7d493_14 : decode cJ0_coder_7d493 14 = .ok (.ireturn, 1) := by decide +kernel
theorem dJ0_isLatin1_aae02_0 : decode cJ0_isLatin1_aae02 0 = .ok (.getstatic 38, 3) := by decide +kernel
theorem dJ0_isLatin1_aae02_3 : decode cJ0_isLatin1_aae02 3 = .ok (.ifCond .eq 14, 3) := by decide +kernel
theorem dJ0_isLatin1_aae02_6 : decode cJ0_isLatin1_aae02 6 = .ok (.aload_n 0, 1) := by decide +kernel
theorem dJ0_isLatin1_aae02_7 : decode cJ0_isLatin1_aae02 7 = .ok (.getfield 15, 3) := by decide +kernel
theorem dJ0_isLatin1_aae02_10 : decode cJ0_isLatin1_aae02 10 = .ok (.ifCond .ne 7, 3) := by decide +kernel
theorem dJ0_isLatin1_aae02_13 : decode cJ0_isLatin1_aae02 13 = .ok (.iconst 1, 1) := by decide +kernel
theorem dJ0_isLatin1_aae02_14 : decode cJ0_isLatin1_aae02 14 = .ok (.goto 4, 3) := by decide +kernel
theorem dJ0_isLatin1_aae02_17 : decode cJ0_isLatin1_aae02 17 = .ok (.iconst 0, 1) := by decide +kernel
theorem dJ0_isLatin1_aae02_18 : decode cJ0_isLatin1_aae02 18 = .ok (.ireturn, 1) := by decide +kernel
theorem dJ0_checkIndex_df160_0 : decode cJ0_checkIndex_df160 0 = .ok (.iload_n 0, 1) := by decide +kernel
theorem dJ0_checkIndex_df160_1 : decode cJ0_checkIndex_df160 1 = .ok (.iload_n 1, 1) := by decide +kernel
theorem dJ0_checkIndex_df160_2 : decode cJ0_checkIndex_df160 2 = .ok (.getstatic 1053, 3) := by decide +kernel
theorem dJ0_checkIndex_df160_5 : decode cJ0_checkIndex_df160 5 = .ok (.invokestatic 1059, 3) := by decide +kernel
theorem dJ0_checkIndex_df160_8 : decode cJ0_checkIndex_df160 8 = .ok (.pop, 1) := by decide +kernel
theorem dJ0_checkIndex_df160_9 : decode cJ0_checkIndex_df160 9 = .ok (.return_, 1) := by decide +kernel
theorem dJ1_charAt_3b067_0 : decode cJ1_charAt_3b067 0 = .ok (.iload_n 1, 1) := by decide +kernel
theorem dJ1_charAt_3b067_1 : decode cJ1_charAt_3b067 1 = .ok (.aload_n 0, 1) := by decide +kernel
theorem dJ1_charAt_3b067_2 : decode cJ1_charAt_3b067 2 = .ok (.arraylength, 1) := by decide +kernel
theorem dJ1_charAt_3b067_3 : decode cJ1_charAt_3b067 3 = .ok (.invokestatic 9, 3) := by decide +kernel
theorem dJ1_charAt_3b067_6 : decode cJ1_charAt_3b067 6 = .ok (.aload_n 0, 1) := by decide +kernel
theorem dJ1_charAt_3b067_7 : decode cJ1_charAt_3b067 7 = .ok (.iload_n 1, 1) := by decide +kernel
theorem dJ1_charAt_3b067_8 : decode cJ1_charAt_3b067 8 = .ok (.baload, 1) := by decide +kernel
theorem dJ1_charAt_3b067_9 : decode cJ1_charAt_3b067 9 = .ok (.sipush 255, 3) := by decide +kernel
theorem dJ1_charAt_3b067_12 : decode cJ1_charAt_3b067 12 = .ok (.iand, 1) := by decide +kernel
theorem dJ1_charAt_3b067_13 : decode cJ1_charAt_3b067 13 = .ok (.i2c, 1) := by decide +kernel
theorem dJ1_charAt_3b067_14 : decode cJ1_charAt_3b067 14 = .ok (.ireturn, 1) := by decide +kernel
