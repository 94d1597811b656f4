theorem dX0_init_0 : decode cX0_init 0 = .ok (.aload_n 0, 1) := by decide +kernel
theorem dX0_init_1 : decode cX0_init 1 = .ok (.invokespecial 3, 3) := by decide +kernel
theorem dX0_init_4 : decode cX0_init 4 = .ok (.aload_n 0, 1) := by decide +kernel
theorem dX0_init_5 : decode cX0_init 5 = .ok (.bipush 20, 2) := by decide +kernel
theorem dX0_init_7 : decode cX0_init 7 = .ok (.anewarray 9, 3) := by decide +kernel
theorem dX0_init_10 : decode cX0_init 10 = .ok (.putfield 11, 3) := by decide +kernel
theorem dX0_init_13 : decode cX0_init 13 = .ok (.aload_n 0, 1) := by decide +kernel
theorem dX0_init_14 : decode cX0_init 14 = .ok (.iconst 0, 1) := by decide +kernel
theorem dX0_init_15 : decode cX0_init 15 = .ok (.putfield 17, 3) := by decide +kernel
theorem dX0_init_18 : decode cX0_init 18 = .ok (.aload_n 0, 1) := by decide +kernel
theorem dX0_init_19 : decode cX0_init 19 = .ok (.iconst 0, 1) := by decide +kernel
theorem dX0_init_20 : decode cX0_init 20 = .ok (.putfield 21, 3) := by decide +kernel
theorem dX0_init_23 : decode cX0_init 23 = .ok (.iconst 0, 1) := by decide +kernel
theorem dX0_init_24 : decode cX0_init 24 = .ok (.istore_n 1, 1) := by decide +kernel
theorem dX0_init_25 : decode cX0_init 25 = .ok (.iload_n 1, 1) := by decide +kernel
theorem dX0_init_26 : decode cX0_init 26 = .ok (.bipush 20, 2) := by decide +kernel
theorem dX0_init_28 : decode cX0_init 28 = .ok (.if_icmp .ge 22, 3) := by decide +kernel
theorem dX0_init_31 : decode cX0_init 31 = .ok (.aload_n 0, 1) := by decide +kernel
theorem dX0_init_32 : decode cX0_init 32 = .ok (.getfield 11, 3) := by decide +kernel
theorem dX0_init_35 : decode cX0_init 35 = .ok (.iload_n 1, 1) := by decide +kernel
theorem dX0_init_36 : decode cX0_init 36 = .ok (.new 9, 3) := by decide +kernel
theorem dX0_init_39 : decode cX0_init 39 = .ok (.dup, 1) := by decide +kernel
theorem dX0_init_40 : decode cX0_init 40 = .ok (.invokespecial 24, 3) := by decide +kernel
theorem dX0_init_43 : decode cX0_init 43 = .ok (.aastore, 1) := by decide +kernel
theorem dX0_init_44 : decode cX0_init 44 = .ok (.iinc 1 1, 3) := by decide +kernel
theorem dX0_init_47 : decode cX0_init 47 = .ok (.goto (-22), 3) := by decide +kernel
theorem dX0_init_50 : decode cX0_init 50 = .ok (.return_, 1) := by decide +kernel
theorem dX0_keep_0 : decode cX0_keep 0 = .ok (.aload_n 0, 1) := by decide +kernel
theorem dX0_keep_1 : decode cX0_keep 1 = .ok (.getfield 11, 3) := by decide +kernel
theorem dX0_keep_4 : decode cX0_keep 4 = .ok (.aload_n 0, 1) := by decide +kernel
theorem dX0_keep_5 : decode cX0_keep 5 = .ok (.getfield 17, 3) := by decide +kernel
theorem dX0_keep_8 : decode cX0_keep 8 = .ok (.aaload, 1) := by decide +kernel
theorem dX0_keep_9 : decode cX0_keep 9 = .ok (.aload_n 1, 1) := by decide +kernel
theorem dX0_keep_10 : decode cX0_keep 10 = .ok (.invokevirtual 25, 3) := by decide +kernel
theorem dX0_keep_13 : decode cX0_keep 13 = .ok (.aload_n 0, 1) := by decide +kernel
theorem dX0_keep_14 : decode cX0_keep 14 = .ok (.aload_n 0, 1) := by decide +kernel
theorem dX0_keep_15 : decode cX0_keep 15 = .ok (.getfield 17, 3) := by decide +kernel
theorem dX0_keep_18 : decode cX0_keep 18 = .ok (.iconst 1, 1) := by decide +kernel
theorem dX0_keep_19 : decode cX0_keep 19 = .ok (.iadd, 1) := by decide +kernel
theorem dX0_keep_20 : decode cX0_keep 20 = .ok (.bipush 20, 2) := by decide +kernel
theorem dX0_keep_22 : decode cX0_keep 22 = .ok (.irem, 1) := by decide +kernel
theorem dX0_keep_23 : decode cX0_keep 23 = .ok (.putfield 17, 3) := by decide +kernel
theorem dX0_keep_26 : decode cX0_keep 26 = .ok (.aload_n 0, 1) := by decide +kernel
theorem dX0_keep_27 : decode cX0_keep 27 = .ok (.bipush 20, 2) := by decide +kernel
theorem dX0_keep_29 : decode cX0_keep 29 = .ok (.aload_n 0, 1) := by decide +kernel
theorem dX0_keep_30 : decode cX0_keep 30 = .ok (.getfield 21, 3) := by decide +kernel
theorem dX0_keep_33 : decode cX0_keep 33 = .ok (.iconst 1, 1) := by decide +kernel
theorem dX0_keep_34 : decode cX0_keep 34 = .ok (.iadd, 1) := by decide +kernel
theorem dX0_keep_35 : decode cX0_keep 35 = .ok (.invokestatic 29, 3) := by decide +kernel
theorem dX0_keep_38 : decode cX0_keep 38 = .ok (.putfield 21, 3) := by decide +kernel
theorem dX0_keep_41 : decode cX0_keep 41 = .ok (.return_, 1) := by decide +kernel
theorem dX0_takeBack_0 : decode cX0_takeBack 0 = .ok (.aload_n 0, 1) := by decide +kernel
theorem dX0_takeBack_1 : decode cX0_takeBack 1 = .ok (.getfield 21, 3) := by decide +kernel
theorem dX0_takeBack_4 : decode cX0_takeBack 4 = .ok (.ifCond .le 42, 3) := by decide +kernel
theorem dX0_takeBack_7 : decode cX0_takeBack 7 = .ok (.aload_n 0, 1) := by decide +kernel
theorem dX0_takeBack_8 : decode cX0_takeBack 8 = .ok (.aload_n 0, 1) := by decide +kernel
theorem dX0_takeBack_9 : decode cX0_takeBack 9 = .ok (.getfield 17, 3) := by decide +kernel
theorem dX0_takeBack_12 : decode cX0_takeBack 12 = .ok (.bipush 20, 2) := by decide +kernel
theorem dX0_takeBack_14 : decode cX0_takeBack 14 = .ok (.iadd, 1) := by decide +kernel
theorem dX0_takeBack_15 : decode cX0_takeBack 15 = .ok (.iconst 1, 1) := by decide +kernel
theorem dX0_takeBack_16 : decode cX0_takeBack 16 = .ok (.isub, 1) := by decide +kernel
theorem dX0_takeBack_17 : decode cX0_takeBack 17 = .ok (.bipush 20, 2) := by decide +kernel
theorem dX0_takeBack_19 : decode cX0_takeBack 19 = .ok (.irem, 1) := by decide +kernel
theorem dX0_takeBack_20 : decode cX0_takeBack 20 = .ok (.putfield 17, 3) := by decide +kernel
theorem dX0_takeBack_23 : decode cX0_takeBack 23 = .ok (.aload_n 0, 1) := by decide +kernel
theorem dX0_takeBack_24 : decode cX0_takeBack 24 = .ok (.dup, 1) := by decide +kernel
theorem dX0_takeBack_25 : decode cX0_takeBack 25 = .ok (.getfield 21, 3) := by decide +kernel
theorem dX0_takeBack_28 : decode cX0_takeBack 28 = .ok (.iconst 1, 1) := by decide +kernel
theorem dX0_takeBack_29 : decode cX0_takeBack 29 = .ok (.isub, 1) := by decide +kernel
theorem dX0_takeBack_30 : decode cX0_takeBack 30 = .ok (.putfield 21, 3) := by decide +kernel
theorem dX0_takeBack_33 : decode cX0_takeBack 33 = .ok (.aload_n 1, 1) := by decide +kernel
theorem dX0_takeBack_34 : decode cX0_takeBack 34 = .ok (.aload_n 0, 1) := by decide +kernel
theorem dX0_takeBack_35 : decode cX0_takeBack 35 = .ok (.getfield 11, 3) := by decide +kernel
theorem dX0_takeBack_38 : decode cX0_takeBack 38 = .ok (.aload_n 0, 1) := by decide +kernel
theorem dX0_takeBack_39 : decode cX0_takeBack 39 = .ok (.getfield 17, 3) := by decide +kernel
theorem dX0_takeBack_42 : decode cX0_takeBack 42 = .ok (.aaload, 1) := by decide +kernel
theorem dX0_takeBack_43 : decode cX0_takeBack 43 = .ok (.invokevirtual 25, 3) := by decide +kernel
theorem dX0_takeBack_46 : decode cX0_takeBack 46 = .ok (.return_, 1) := by decide +kernel
theorem dX1_init_0 : decode cX1_init 0 = .ok (.aload_n 0, 1) := by decide +kernel
theorem dX1_init_1 : decode cX1_init 1 = .ok (.invokespecial 3, 3) := by decide +kernel
theorem dX1_init_4 : decode cX1_init 4 = .ok (.aload_n 0, 1) := by decide +kernel
theorem dX1_init_5 : decode cX1_init 5 = .ok (.new 9, 3) := by decide +kernel
theorem dX1_init_8 : decode cX1_init 8 = .ok (.dup, 1) := by decide +kernel
theorem dX1_init_9 : decode cX1_init 9 = .ok (.invokespecial 11, 3) := by decide +kernel
theorem dX1_init_12 : decode cX1_init 12 = .ok (.putfield 12, 3) := by decide +kernel
theorem dX1_init_15 : decode cX1_init 15 = .ok (.aload_n 0, 1) := by decide +kernel
theorem dX1_init_16 : decode cX1_init 16 = .ok (.new 9, 3) := by decide +kernel
theorem dX1_init_19 : decode cX1_init 19 = .ok (.dup, 1) := by decide +kernel
theorem dX1_init_20 : decode cX1_init 20 = .ok (.invokespecial 11, 3) := by decide +kernel
theorem dX1_init_23 : decode cX1_init 23 = .ok (.putfield 18, 3) := by decide +kernel
theorem dX1_init_26 : decode cX1_init 26 = .ok (.aload_n 0, 1) := by decide +kernel
theorem dX1_init_27 : decode cX1_init 27 = .ok (.new 21, 3) := by decide +kernel
theorem dX1_init_30 : decode cX1_init 30 = .ok (.dup, 1) := by decide +kernel
theorem dX1_init_31 : decode cX1_init 31 = .ok (.invokespecial 23, 3) := by decide +kernel
theorem dX1_init_34 : decode cX1_init 34 = .ok (.putfield 24, 3) := by decide +kernel
theorem dX1_init_37 : decode cX1_init 37 = .ok (.aload_n 0, 1) := by decide +kernel
theorem dX1_init_38 : decode cX1_init 38 = .ok (.iconst 0, 1) := by decide +kernel
theorem dX1_init_39 : decode cX1_init 39 = .ok (.putfield 28, 3) := by decide +kernel
theorem dX1_init_42 : decode cX1_init 42 = .ok (.aload_n 0, 1) := by decide +kernel
theorem dX1_init_43 : decode cX1_init 43 = .ok (.iconst (-1), 1) := by decide +kernel
theorem dX1_init_44 : decode cX1_init 44 = .ok (.putfield 32, 3) := by decide +kernel
theorem dX1_init_47 : decode cX1_init 47 = .ok (.aload_n 0, 1) := by decide +kernel
theorem dX1_init_48 : decode cX1_init 48 = .ok (.iconst 0, 1) := by decide +kernel
theorem dX1_init_49 : decode cX1_init 49 = .ok (.putfield 36, 3) := by decide +kernel
theorem dX1_init_52 : decode cX1_init 52 = .ok (.return_, 1) := by decide +kernel
theorem dX2_init_0 : decode cX2_init 0 = .ok (.aload_n 0, 1) := by decide +kernel
theorem dX2_init_1 : decode cX2_init 1 = .ok (.invokespecial 3, 3) := by decide +kernel
theorem dX2_init_4 : decode cX2_init 4 = .ok (.aload_n 0, 1) := by decide +kernel
theorem dX2_init_5 : decode cX2_init 5 = .ok (.bipush 6, 2) := by decide +kernel
theorem dX2_init_7 : decode cX2_init 7 = .ok (.newarray .int, 2) := by decide +kernel
theorem dX2_init_9 : decode cX2_init 9 = .ok (.putfield 9, 3) := by decide +kernel
theorem dX2_init_12 : decode cX2_init 12 = .ok (.aload_n 0, 1) := by decide +kernel
theorem dX2_init_13 : decode cX2_init 13 = .ok (.bipush 6, 2) := by decide +kernel
theorem dX2_init_15 : decode cX2_init 15 = .ok (.newarray .int, 2) := by decide +kernel
theorem dX2_init_17 : decode cX2_init 17 = .ok (.putfield 15, 3) := by decide +kernel
theorem dX2_init_20 : decode cX2_init 20 = .ok (.aload_n 0, 1) := by decide +kernel
theorem dX2_init_21 : decode cX2_init 21 = .ok (.bipush 6, 2) := by decide +kernel
theorem dX2_init_23 : decode cX2_init 23 = .ok (.newarray .int, 2) := by decide +kernel
theorem dX2_init_25 : decode cX2_init 25 = .ok (.putfield 18, 3) := by decide +kernel
theorem dX2_init_28 : decode cX2_init 28 = .ok (.aload_n 0, 1) := by decide +kernel
theorem dX2_init_29 : decode cX2_init 29 = .ok (.bipush 6, 2) := by decide +kernel
theorem dX2_init_31 : decode cX2_init 31 = .ok (.newarray .int, 2) := by decide +kernel
theorem dX2_init_33 : decode cX2_init 33 = .ok (.putfield 21, 3) := by decide +kernel
theorem dX2_init_36 : decode cX2_init 36 = .ok (.aload_n 0, 1) := by decide +kernel
theorem dX2_init_37 : decode cX2_init 37 = .ok (.bipush 6, 2) := by decide +kernel
theorem dX2_init_39 : decode cX2_init 39 = .ok (.newarray .int, 2) := by decide +kernel
theorem dX2_init_41 : decode cX2_init 41 = .ok (.putfield 24, 3) := by decide +kernel
theorem dX2_init_44 : decode cX2_init 44 = .ok (.aload_n 0, 1) := by decide +kernel
theorem dX2_init_45 : decode cX2_init 45 = .ok (.bipush 6, 2) := by decide +kernel
theorem dX2_init_47 : decode cX2_init 47 = .ok (.newarray .int, 2) := by decide +kernel
theorem dX2_init_49 : decode cX2_init 49 = .ok (.putfield 27, 3) := by decide +kernel
theorem dX2_init_52 : decode cX2_init 52 = .ok (.aload_n 0, 1) := by decide +kernel
theorem dX2_init_53 : decode cX2_init 53 = .ok (.bipush 6, 2) := by decide +kernel
theorem dX2_init_55 : decode cX2_init 55 = .ok (.newarray .int, 2) := by decide +kernel
theorem dX2_init_57 : decode cX2_init 57 = .ok (.putfield 30, 3) := by decide +kernel
theorem dX2_init_60 : decode cX2_init 60 = .ok (.aload_n 0, 1) := by decide +kernel
theorem dX2_init_61 : decode cX2_init 61 = .ok (.bipush 6, 2) := by decide +kernel
theorem dX2_init_63 : decode cX2_init 63 = .ok (.newarray .int, 2) := by decide +kernel
theorem dX2_init_65 : decode cX2_init 65 = .ok (.putfield 33, 3) := by decide +kernel
theorem dX2_init_68 : decode cX2_init 68 = .ok (.aload_n 0, 1) := by decide +kernel
theorem dX2_init_69 : decode cX2_init 69 = .ok (.bipush 12, 2) := by decide +kernel
theorem dX2_init_71 : decode cX2_init 71 = .ok (.newarray .int, 2) := by decide +kernel
theorem dX2_init_73 : decode cX2_init 73 = .ok (.putfield 36, 3) := by decide +kernel
theorem dX2_init_76 : decode cX2_init 76 = .ok (.aload_n 0, 1) := by decide +kernel
theorem dX2_init_77 : decode cX2_init 77 = .ok (.iconst 0, 1) := by decide +kernel
theorem dX2_init_78 : decode cX2_init 78 = .ok (.putfield 39, 3) := by decide +kernel
theorem dX2_init_81 : decode cX2_init 81 = .ok (.aload_n 0, 1) := by decide +kernel
theorem dX2_init_82 : decode cX2_init 82 = .ok (.iconst 0, 1) := by decide +kernel
theorem dX2_init_83 : decode cX2_init 83 = .ok (.putfield 43, 3) := by decide +kernel
theorem dX2_init_86 : decode cX2_init 86 = .ok (.aload_n 0, 1) := by decide +kernel
theorem dX2_init_87 : decode cX2_init 87 = .ok (.iconst 0, 1) := by decide +kernel
theorem dX2_init_88 : decode cX2_init 88 = .ok (.putfield 46, 3) := by decide +kernel
theorem dX2_init_91 : decode cX2_init 91 = .ok (.aload_n 0, 1) := by decide +kernel
theorem dX2_init_92 : decode cX2_init 92 = .ok (.iconst 0, 1) := by decide +kernel
theorem dX2_init_93 : decode cX2_init 93 = .ok (.putfield 49, 3) := by decide +kernel
theorem dX2_init_96 : decode cX2_init 96 = .ok (.aload_n 0, 1) := by decide +kernel
theorem dX2_init_97 : decode cX2_init 97 = .ok (.iconst 0, 1) := by decide +kernel
theorem dX2_init_98 : decode cX2_init 98 = .ok (.putfield 52, 3) := by decide +kernel
theorem dX2_init_101 : decode cX2_init 101 = .ok (.aload_n 0, 1) := by decide +kernel
theorem dX2_init_102 : decode cX2_init 102 = .ok (.iconst (-1), 1) := by decide +kernel
theorem dX2_init_103 : decode cX2_init 103 = .ok (.putfield 55, 3) := by decide +kernel
theorem dX2_init_106 : decode cX2_init 106 = .ok (.return_, 1) := by decide +kernel
theorem dX2_forget_0 : decode cX2_forget 0 = .ok (.aload_n 0, 1) := by decide +kernel
theorem dX2_forget_1 : decode cX2_forget 1 = .ok (.getfield 9, 3) := by decide +kernel
theorem dX2_forget_4 : decode cX2_forget 4 = .ok (.iconst 0, 1) := by decide +kernel
theorem dX2_forget_5 : decode cX2_forget 5 = .ok (.invokestatic 58, 3) := by decide +kernel
theorem dX2_forget_8 : decode cX2_forget 8 = .ok (.aload_n 0, 1) := by decide +kernel
theorem dX2_forget_9 : decode cX2_forget 9 = .ok (.getfield 15, 3) := by decide +kernel
theorem dX2_forget_12 : decode cX2_forget 12 = .ok (.iconst 0, 1) := by decide +kernel
theorem dX2_forget_13 : decode cX2_forget 13 = .ok (.invokestatic 58, 3) := by decide +kernel
theorem dX2_forget_16 : decode cX2_forget 16 = .ok (.aload_n 0, 1) := by decide +kernel
theorem dX2_forget_17 : decode cX2_forget 17 = .ok (.getfield 18, 3) := by decide +kernel
theorem dX2_forget_20 : decode cX2_forget 20 = .ok (.iconst 0, 1) := by decide +kernel
theorem dX2_forget_21 : decode cX2_forget 21 = .ok (.invokestatic 58, 3) := by decide +kernel
theorem dX2_forget_24 : decode cX2_forget 24 = .ok (.aload_n 0, 1) := by decide +kernel
theorem dX2_forget_25 : decode cX2_forget 25 = .ok (.getfield 21, 3) := by decide +kernel
theorem dX2_forget_28 : decode cX2_forget 28 = .ok (.iconst 0, 1) := by decide +kernel
theorem dX2_forget_29 : decode cX2_forget 29 = .ok (.invokestatic 58, 3) := by decide +kernel
theorem dX2_forget_32 : decode cX2_forget 32 = .ok (.aload_n 0, 1) := by decide +kernel
theorem dX2_forget_33 : decode cX2_forget 33 = .ok (.getfield 24, 3) := by decide +kernel
theorem dX2_forget_36 : decode cX2_forget 36 = .ok (.iconst 0, 1) := by decide +kernel
theorem dX2_forget_37 : decode cX2_forget 37 = .ok (.invokestatic 58, 3) := by decide +kernel
theorem dX2_forget_40 : decode cX2_forget 40 = .ok (.aload_n 0, 1) := by decide +kernel
theorem dX2_forget_41 : decode cX2_forget 41 = .ok (.getfield 27, 3) := by decide +kernel
theorem dX2_forget_44 : decode cX2_forget 44 = .ok (.iconst 0, 1) := by decide +kernel
theorem dX2_forget_45 : decode cX2_forget 45 = .ok (.invokestatic 58, 3) := by decide +kernel
theorem dX2_forget_48 : decode cX2_forget 48 = .ok (.aload_n 0, 1) := by decide +kernel
theorem dX2_forget_49 : decode cX2_forget 49 = .ok (.getfield 30, 3) := by decide +kernel
theorem dX2_forget_52 : decode cX2_forget 52 = .ok (.iconst (-1), 1) := by decide +kernel
theorem dX2_forget_53 : decode cX2_forget 53 = .ok (.invokestatic 58, 3) := by decide +kernel
theorem dX2_forget_56 : decode cX2_forget 56 = .ok (.aload_n 0, 1) := by decide +kernel
theorem dX2_forget_57 : decode cX2_forget 57 = .ok (.getfield 33, 3) := by decide +kernel
theorem dX2_forget_60 : decode cX2_forget 60 = .ok (.iconst 0, 1) := by decide +kernel
theorem dX2_forget_61 : decode cX2_forget 61 = .ok (.invokestatic 58, 3) := by decide +kernel
theorem dX2_forget_64 : decode cX2_forget 64 = .ok (.aload_n 0, 1) := by decide +kernel
theorem dX2_forget_65 : decode cX2_forget 65 = .ok (.getfield 36, 3) := by decide +kernel
theorem dX2_forget_68 : decode cX2_forget 68 = .ok (.iconst 0, 1) := by decide +kernel
theorem dX2_forget_69 : decode cX2_forget 69 = .ok (.invokestatic 58, 3) := by decide +kernel
theorem dX2_forget_72 : decode cX2_forget 72 = .ok (.aload_n 0, 1) := by decide +kernel
theorem dX2_forget_73 : decode cX2_forget 73 = .ok (.iconst 0, 1) := by decide +kernel
theorem dX2_forget_74 : decode cX2_forget 74 = .ok (.putfield 39, 3) := by decide +kernel
theorem dX2_forget_77 : decode cX2_forget 77 = .ok (.aload_n 0, 1) := by decide +kernel
theorem dX2_forget_78 : decode cX2_forget 78 = .ok (.iconst 0, 1) := by decide +kernel
theorem dX2_forget_79 : decode cX2_forget 79 = .ok (.putfield 43, 3) := by decide +kernel
theorem dX2_forget_82 : decode cX2_forget 82 = .ok (.aload_n 0, 1) := by decide +kernel
theorem dX2_forget_83 : decode cX2_forget 83 = .ok (.iconst 0, 1) := by decide +kernel
theorem dX2_forget_84 : decode cX2_forget 84 = .ok (.putfield 46, 3) := by decide +kernel
theorem dX2_forget_87 : decode cX2_forget 87 = .ok (.aload_n 0, 1) := by decide +kernel
theorem dX2_forget_88 : decode cX2_forget 88 = .ok (.iconst 0, 1) := by decide +kernel
theorem dX2_forget_89 : decode cX2_forget 89 = .ok (.putfield 49, 3) := by decide +kernel
theorem dX2_forget_92 : decode cX2_forget 92 = .ok (.aload_n 0, 1) := by decide +kernel
theorem dX2_forget_93 : decode cX2_forget 93 = .ok (.iconst 0, 1) := by decide +kernel
theorem dX2_forget_94 : decode cX2_forget 94 = .ok (.putfield 52, 3) := by decide +kernel
theorem dX2_forget_97 : decode cX2_forget 97 = .ok (.aload_n 0, 1) := by decide +kernel
theorem dX2_forget_98 : decode cX2_forget 98 = .ok (.iconst (-1), 1) := by decide +kernel
theorem dX2_forget_99 : decode cX2_forget 99 = .ok (.putfield 55, 3) := by decide +kernel
theorem dX2_forget_102 : decode cX2_forget 102 = .ok (.return_, 1) := by decide +kernel
theorem dX2_copyFrom_0 : decode cX2_copyFrom 0 = .ok (.aload_n 1, 1) := by decide +kernel
theorem dX2_copyFrom_1 : decode cX2_copyFrom 1 = .ok (.getfield 9, 3) := by decide +kernel
theorem dX2_copyFrom_4 : decode cX2_copyFrom 4 = .ok (.iconst 0, 1) := by decide +kernel
theorem dX2_copyFrom_5 : decode cX2_copyFrom 5 = .ok (.aload_n 0, 1) := by decide +kernel
theorem dX2_copyFrom_6 : decode cX2_copyFrom 6 = .ok (.getfield 9, 3) := by decide +kernel
theorem dX2_copyFrom_9 : decode cX2_copyFrom 9 = .ok (.iconst 0, 1) := by decide +kernel
theorem dX2_copyFrom_10 : decode cX2_copyFrom 10 = .ok (.bipush 6, 2) := by decide +kernel
theorem dX2_copyFrom_12 : decode cX2_copyFrom 12 = .ok (.invokestatic 64, 3) := by decide +kernel
theorem dX2_copyFrom_15 : decode cX2_copyFrom 15 = .ok (.aload_n 1, 1) := by decide +kernel
theorem dX2_copyFrom_16 : decode cX2_copyFrom 16 = .ok (.getfield 15, 3) := by decide +kernel
theorem dX2_copyFrom_19 : decode cX2_copyFrom 19 = .ok (.iconst 0, 1) := by decide +kernel
theorem dX2_copyFrom_20 : decode cX2_copyFrom 20 = .ok (.aload_n 0, 1) := by decide +kernel
theorem dX2_copyFrom_21 : decode cX2_copyFrom 21 = .ok (.getfield 15, 3) := by decide +kernel
theorem dX2_copyFrom_24 : decode cX2_copyFrom 24 = .ok (.iconst 0, 1) := by decide +kernel
theorem dX2_copyFrom_25 : decode cX2_copyFrom 25 = .ok (.bipush 6, 2) := by decide +kernel
theorem dX2_copyFrom_27 : decode cX2_copyFrom 27 = .ok (.invokestatic 64, 3) := by decide +kernel
theorem dX2_copyFrom_30 : decode cX2_copyFrom 30 = .ok (.aload_n 1, 1) := by decide +kernel
theorem dX2_copyFrom_31 : decode cX2_copyFrom 31 = .ok (.getfield 18, 3) := by decide +kernel
theorem dX2_copyFrom_34 : decode cX2_copyFrom 34 = .ok (.iconst 0, 1) := by decide +kernel
theorem dX2_copyFrom_35 : decode cX2_copyFrom 35 = .ok (.aload_n 0, 1) := by decide +kernel
theorem dX2_copyFrom_36 : decode cX2_copyFrom 36 = .ok (.getfield 18, 3) := by decide +kernel
theorem dX2_copyFrom_39 : decode cX2_copyFrom 39 = .ok (.iconst 0, 1) := by decide +kernel
theorem dX2_copyFrom_40 : decode cX2_copyFrom 40 = .ok (.bipush 6, 2) := by decide +kernel
theorem dX2_copyFrom_42 : decode cX2_copyFrom 42 = .ok (.invokestatic 64, 3) := by decide +kernel
theorem dX2_copyFrom_45 : decode cX2_copyFrom 45 = .ok (.aload_n 1, 1) := by decide +kernel
theorem dX2_copyFrom_46 : decode cX2_copyFrom 46 = .ok (.getfield 21, 3) := by decide +kernel
theorem dX2_copyFrom_49 : decode cX2_copyFrom 49 = .ok (.iconst 0, 1) := by decide +kernel
theorem dX2_copyFrom_50 : decode cX2_copyFrom 50 = .ok (.aload_n 0, 1) := by decide +kernel
theorem dX2_copyFrom_51 : decode cX2_copyFrom 51 = .ok (.getfield 21, 3) := by decide +kernel
theorem dX2_copyFrom_54 : decode cX2_copyFrom 54 = .ok (.iconst 0, 1) := by decide +kernel
theorem dX2_copyFrom_55 : decode cX2_copyFrom 55 = .ok (.bipush 6, 2) := by decide +kernel
theorem dX2_copyFrom_57 : decode cX2_copyFrom 57 = .ok (.invokestatic 64, 3) := by decide +kernel
theorem dX2_copyFrom_60 : decode cX2_copyFrom 60 = .ok (.aload_n 1, 1) := by decide +kernel
theorem dX2_copyFrom_61 : decode cX2_copyFrom 61 = .ok (.getfield 24, 3) := by decide +kernel
theorem dX2_copyFrom_64 : decode cX2_copyFrom 64 = .ok (.iconst 0, 1) := by decide +kernel
theorem dX2_copyFrom_65 : decode cX2_copyFrom 65 = .ok (.aload_n 0, 1) := by decide +kernel
theorem dX2_copyFrom_66 : decode cX2_copyFrom 66 = .ok (.getfield 24, 3) := by decide +kernel
theorem dX2_copyFrom_69 : decode cX2_copyFrom 69 = .ok (.iconst 0, 1) := by decide +kernel
theorem dX2_copyFrom_70 : decode cX2_copyFrom 70 = .ok (.bipush 6, 2) := by decide +kernel
theorem dX2_copyFrom_72 : decode cX2_copyFrom 72 = .ok (.invokestatic 64, 3) := by decide +kernel
theorem dX2_copyFrom_75 : decode cX2_copyFrom 75 = .ok (.aload_n 1, 1) := by decide +kernel
theorem dX2_copyFrom_76 : decode cX2_copyFrom 76 = .ok (.getfield 27, 3) := by decide +kernel
theorem dX2_copyFrom_79 : decode cX2_copyFrom 79 = .ok (.iconst 0, 1) := by decide +kernel
theorem dX2_copyFrom_80 : decode cX2_copyFrom 80 = .ok (.aload_n 0, 1) := by decide +kernel
theorem dX2_copyFrom_81 : decode cX2_copyFrom 81 = .ok (.getfield 27, 3) := by decide +kernel
theorem dX2_copyFrom_84 : decode cX2_copyFrom 84 = .ok (.iconst 0, 1) := by decide +kernel
theorem dX2_copyFrom_85 : decode cX2_copyFrom 85 = .ok (.bipush 6, 2) := by decide +kernel
theorem dX2_copyFrom_87 : decode cX2_copyFrom 87 = .ok (.invokestatic 64, 3) := by decide +kernel
theorem dX2_copyFrom_90 : decode cX2_copyFrom 90 = .ok (.aload_n 1, 1) := by decide +kernel
theorem dX2_copyFrom_91 : decode cX2_copyFrom 91 = .ok (.getfield 30, 3) := by decide +kernel
theorem dX2_copyFrom_94 : decode cX2_copyFrom 94 = .ok (.iconst 0, 1) := by decide +kernel
theorem dX2_copyFrom_95 : decode cX2_copyFrom 95 = .ok (.aload_n 0, 1) := by decide +kernel
theorem dX2_copyFrom_96 : decode cX2_copyFrom 96 = .ok (.getfield 30, 3) := by decide +kernel
theorem dX2_copyFrom_99 : decode cX2_copyFrom 99 = .ok (.iconst 0, 1) := by decide +kernel
theorem dX2_copyFrom_100 : decode cX2_copyFrom 100 = .ok (.bipush 6, 2) := by decide +kernel
theorem dX2_copyFrom_102 : decode cX2_copyFrom 102 = .ok (.invokestatic 64, 3) := by decide +kernel
theorem dX2_copyFrom_105 : decode cX2_copyFrom 105 = .ok (.aload_n 1, 1) := by decide +kernel
theorem dX2_copyFrom_106 : decode cX2_copyFrom 106 = .ok (.getfield 33, 3) := by decide +kernel
theorem dX2_copyFrom_109 : decode cX2_copyFrom 109 = .ok (.iconst 0, 1) := by decide +kernel
theorem dX2_copyFrom_110 : decode cX2_copyFrom 110 = .ok (.aload_n 0, 1) := by decide +kernel
theorem dX2_copyFrom_111 : decode cX2_copyFrom 111 = .ok (.getfield 33, 3) := by decide +kernel
theorem dX2_copyFrom_114 : decode cX2_copyFrom 114 = .ok (.iconst 0, 1) := by decide +kernel
theorem dX2_copyFrom_115 : decode cX2_copyFrom 115 = .ok (.bipush 6, 2) := by decide +kernel
theorem dX2_copyFrom_117 : decode cX2_copyFrom 117 = .ok (.invokestatic 64, 3) := by decide +kernel
theorem dX2_copyFrom_120 : decode cX2_copyFrom 120 = .ok (.aload_n 1, 1) := by decide +kernel
theorem dX2_copyFrom_121 : decode cX2_copyFrom 121 = .ok (.getfield 36, 3) := by decide +kernel
theorem dX2_copyFrom_124 : decode cX2_copyFrom 124 = .ok (.iconst 0, 1) := by decide +kernel
theorem dX2_copyFrom_125 : decode cX2_copyFrom 125 = .ok (.aload_n 0, 1) := by decide +kernel
theorem dX2_copyFrom_126 : decode cX2_copyFrom 126 = .ok (.getfield 36, 3) := by decide +kernel
theorem dX2_copyFrom_129 : decode cX2_copyFrom 129 = .ok (.iconst 0, 1) := by decide +kernel
theorem dX2_copyFrom_130 : decode cX2_copyFrom 130 = .ok (.bipush 12, 2) := by decide +kernel
theorem dX2_copyFrom_132 : decode cX2_copyFrom 132 = .ok (.invokestatic 64, 3) := by decide +kernel
theorem dX2_copyFrom_135 : decode cX2_copyFrom 135 = .ok (.aload_n 0, 1) := by decide +kernel
theorem dX2_copyFrom_136 : decode cX2_copyFrom 136 = .ok (.aload_n 1, 1) := by decide +kernel
theorem dX2_copyFrom_137 : decode cX2_copyFrom 137 = .ok (.getfield 39, 3) := by decide +kernel
theorem dX2_copyFrom_140 : decode cX2_copyFrom 140 = .ok (.putfield 39, 3) := by decide +kernel
theorem dX2_copyFrom_143 : decode cX2_copyFrom 143 = .ok (.aload_n 0, 1) := by decide +kernel
theorem dX2_copyFrom_144 : decode cX2_copyFrom 144 = .ok (.aload_n 1, 1) := by decide +kernel
theorem dX2_copyFrom_145 : decode cX2_copyFrom 145 = .ok (.getfield 43, 3) := by decide +kernel
theorem dX2_copyFrom_148 : decode cX2_copyFrom 148 = .ok (.putfield 43, 3) := by decide +kernel
theorem dX2_copyFrom_151 : decode cX2_copyFrom 151 = .ok (.aload_n 0, 1) := by decide +kernel
theorem dX2_copyFrom_152 : decode cX2_copyFrom 152 = .ok (.aload_n 1, 1) := by decide +kernel
theorem dX2_copyFrom_153 : decode cX2_copyFrom 153 = .ok (.getfield 46, 3) := by decide +kernel
theorem dX2_copyFrom_156 : decode cX2_copyFrom 156 = .ok (.putfield 46, 3) := by decide +kernel
theorem dX2_copyFrom_159 : decode cX2_copyFrom 159 = .ok (.aload_n 0, 1) := by decide +kernel
theorem dX2_copyFrom_160 : decode cX2_copyFrom 160 = .ok (.aload_n 1, 1) := by decide +kernel
theorem dX2_copyFrom_161 : decode cX2_copyFrom 161 = .ok (.getfield 49, 3) := by decide +kernel
theorem dX2_copyFrom_164 : decode cX2_copyFrom 164 = .ok (.putfield 49, 3) := by decide +kernel
theorem dX2_copyFrom_167 : decode cX2_copyFrom 167 = .ok (.aload_n 0, 1) := by decide +kernel
theorem dX2_copyFrom_168 : decode cX2_copyFrom 168 = .ok (.aload_n 1, 1) := by decide +kernel
theorem dX2_copyFrom_169 : decode cX2_copyFrom 169 = .ok (.getfield 52, 3) := by decide +kernel
theorem dX2_copyFrom_172 : decode cX2_copyFrom 172 = .ok (.putfield 52, 3) := by decide +kernel
theorem dX2_copyFrom_175 : decode cX2_copyFrom 175 = .ok (.aload_n 0, 1) := by decide +kernel
theorem dX2_copyFrom_176 : decode cX2_copyFrom 176 = .ok (.aload_n 1, 1) := by decide +kernel
theorem dX2_copyFrom_177 : decode cX2_copyFrom 177 = .ok (.getfield 55, 3) := by decide +kernel
theorem dX2_copyFrom_180 : decode cX2_copyFrom 180 = .ok (.putfield 55, 3) := by decide +kernel
theorem dX2_copyFrom_183 : decode cX2_copyFrom 183 = .ok (.return_, 1) := by decide +kernel
theorem dX2_addRoad_0 : decode cX2_addRoad 0 = .ok (.aload_n 0, 1) := by decide +kernel
theorem dX2_addRoad_1 : decode cX2_addRoad 1 = .ok (.getfield 46, 3) := by decide +kernel
theorem dX2_addRoad_4 : decode cX2_addRoad 4 = .ok (.ifCond .lt 52, 3) := by decide +kernel
theorem dX2_addRoad_7 : decode cX2_addRoad 7 = .ok (.aload_n 0, 1) := by decide +kernel
theorem dX2_addRoad_8 : decode cX2_addRoad 8 = .ok (.getfield 46, 3) := by decide +kernel
theorem dX2_addRoad_11 : decode cX2_addRoad 11 = .ok (.bipush 6, 2) := by decide +kernel
theorem dX2_addRoad_13 : decode cX2_addRoad 13 = .ok (.if_icmp .ge 43, 3) := by decide +kernel
theorem dX2_addRoad_16 : decode cX2_addRoad 16 = .ok (.aload_n 0, 1) := by decide +kernel
theorem dX2_addRoad_17 : decode cX2_addRoad 17 = .ok (.getfield 9, 3) := by decide +kernel
theorem dX2_addRoad_20 : decode cX2_addRoad 20 = .ok (.aload_n 0, 1) := by decide +kernel
theorem dX2_addRoad_21 : decode cX2_addRoad 21 = .ok (.getfield 46, 3) := by decide +kernel
theorem dX2_addRoad_24 : decode cX2_addRoad 24 = .ok (.iload_n 1, 1) := by decide +kernel
theorem dX2_addRoad_25 : decode cX2_addRoad 25 = .ok (.iastore, 1) := by decide +kernel
theorem dX2_addRoad_26 : decode cX2_addRoad 26 = .ok (.aload_n 0, 1) := by decide +kernel
theorem dX2_addRoad_27 : decode cX2_addRoad 27 = .ok (.getfield 15, 3) := by decide +kernel
theorem dX2_addRoad_30 : decode cX2_addRoad 30 = .ok (.aload_n 0, 1) := by decide +kernel
theorem dX2_addRoad_31 : decode cX2_addRoad 31 = .ok (.getfield 46, 3) := by decide +kernel
theorem dX2_addRoad_34 : decode cX2_addRoad 34 = .ok (.iload_n 2, 1) := by decide +kernel
theorem dX2_addRoad_35 : decode cX2_addRoad 35 = .ok (.iastore, 1) := by decide +kernel
theorem dX2_addRoad_36 : decode cX2_addRoad 36 = .ok (.aload_n 0, 1) := by decide +kernel
theorem dX2_addRoad_37 : decode cX2_addRoad 37 = .ok (.getfield 18, 3) := by decide +kernel
theorem dX2_addRoad_40 : decode cX2_addRoad 40 = .ok (.aload_n 0, 1) := by decide +kernel
theorem dX2_addRoad_41 : decode cX2_addRoad 41 = .ok (.getfield 46, 3) := by decide +kernel
theorem dX2_addRoad_44 : decode cX2_addRoad 44 = .ok (.iload_n 3, 1) := by decide +kernel
theorem dX2_addRoad_45 : decode cX2_addRoad 45 = .ok (.iastore, 1) := by decide +kernel
theorem dX2_addRoad_46 : decode cX2_addRoad 46 = .ok (.aload_n 0, 1) := by decide +kernel
theorem dX2_addRoad_47 : decode cX2_addRoad 47 = .ok (.dup, 1) := by decide +kernel
theorem dX2_addRoad_48 : decode cX2_addRoad 48 = .ok (.getfield 46, 3) := by decide +kernel
theorem dX2_addRoad_51 : decode cX2_addRoad 51 = .ok (.iconst 1, 1) := by decide +kernel
theorem dX2_addRoad_52 : decode cX2_addRoad 52 = .ok (.iadd, 1) := by decide +kernel
theorem dX2_addRoad_53 : decode cX2_addRoad 53 = .ok (.putfield 46, 3) := by decide +kernel
theorem dX2_addRoad_56 : decode cX2_addRoad 56 = .ok (.return_, 1) := by decide +kernel
theorem dX2_isTold_0 : decode cX2_isTold 0 = .ok (.aload_n 0, 1) := by decide +kernel
theorem dX2_isTold_1 : decode cX2_isTold 1 = .ok (.getfield 39, 3) := by decide +kernel
theorem dX2_isTold_4 : decode cX2_isTold 4 = .ok (.ifCond .le 7, 3) := by decide +kernel
theorem dX2_isTold_7 : decode cX2_isTold 7 = .ok (.iconst 1, 1) := by decide +kernel
theorem dX2_isTold_8 : decode cX2_isTold 8 = .ok (.goto 4, 3) := by decide +kernel
theorem dX2_isTold_11 : decode cX2_isTold 11 = .ok (.iconst 0, 1) := by decide +kernel
theorem dX2_isTold_12 : decode cX2_isTold 12 = .ok (.ireturn, 1) := by decide +kernel
theorem dX2_hasRoad_0 : decode cX2_hasRoad 0 = .ok (.iload_n 1, 1) := by decide +kernel
theorem dX2_hasRoad_1 : decode cX2_hasRoad 1 = .ok (.ifCond .lt 15, 3) := by decide +kernel
theorem dX2_hasRoad_4 : decode cX2_hasRoad 4 = .ok (.iload_n 1, 1) := by decide +kernel
theorem dX2_hasRoad_5 : decode cX2_hasRoad 5 = .ok (.aload_n 0, 1) := by decide +kernel
theorem dX2_hasRoad_6 : decode cX2_hasRoad 6 = .ok (.getfield 46, 3) := by decide +kernel
theorem dX2_hasRoad_9 : decode cX2_hasRoad 9 = .ok (.if_icmp .ge 7, 3) := by decide +kernel
theorem dX2_hasRoad_12 : decode cX2_hasRoad 12 = .ok (.iconst 1, 1) := by decide +kernel
theorem dX2_hasRoad_13 : decode cX2_hasRoad 13 = .ok (.goto 4, 3) := by decide +kernel
theorem dX2_hasRoad_16 : decode cX2_hasRoad 16 = .ok (.iconst 0, 1) := by decide +kernel
theorem dX2_hasRoad_17 : decode cX2_hasRoad 17 = .ok (.ireturn, 1) := by decide +kernel
theorem dX2_hasBeat_0 : decode cX2_hasBeat 0 = .ok (.iload_n 1, 1) := by decide +kernel
theorem dX2_hasBeat_1 : decode cX2_hasBeat 1 = .ok (.ifCond .lt 15, 3) := by decide +kernel
theorem dX2_hasBeat_4 : decode cX2_hasBeat 4 = .ok (.iload_n 1, 1) := by decide +kernel
theorem dX2_hasBeat_5 : decode cX2_hasBeat 5 = .ok (.aload_n 0, 1) := by decide +kernel
theorem dX2_hasBeat_6 : decode cX2_hasBeat 6 = .ok (.getfield 39, 3) := by decide +kernel
theorem dX2_hasBeat_9 : decode cX2_hasBeat 9 = .ok (.if_icmp .ge 7, 3) := by decide +kernel
theorem dX2_hasBeat_12 : decode cX2_hasBeat 12 = .ok (.iconst 1, 1) := by decide +kernel
theorem dX2_hasBeat_13 : decode cX2_hasBeat 13 = .ok (.goto 4, 3) := by decide +kernel
theorem dX2_hasBeat_16 : decode cX2_hasBeat 16 = .ok (.iconst 0, 1) := by decide +kernel
theorem dX2_hasBeat_17 : decode cX2_hasBeat 17 = .ok (.ireturn, 1) := by decide +kernel
theorem dX2_beatOfBar_0 : decode cX2_beatOfBar 0 = .ok (.aload_n 0, 1) := by decide +kernel
theorem dX2_beatOfBar_1 : decode cX2_beatOfBar 1 = .ok (.getfield 39, 3) := by decide +kernel
theorem dX2_beatOfBar_4 : decode cX2_beatOfBar 4 = .ok (.ifCond .le 15, 3) := by decide +kernel
theorem dX2_beatOfBar_7 : decode cX2_beatOfBar 7 = .ok (.aload_n 0, 1) := by decide +kernel
theorem dX2_beatOfBar_8 : decode cX2_beatOfBar 8 = .ok (.getfield 49, 3) := by decide +kernel
theorem dX2_beatOfBar_11 : decode cX2_beatOfBar 11 = .ok (.aload_n 0, 1) := by decide +kernel
theorem dX2_beatOfBar_12 : decode cX2_beatOfBar 12 = .ok (.getfield 39, 3) := by decide +kernel
theorem dX2_beatOfBar_15 : decode cX2_beatOfBar 15 = .ok (.irem, 1) := by decide +kernel
theorem dX2_beatOfBar_16 : decode cX2_beatOfBar 16 = .ok (.goto 4, 3) := by decide +kernel
theorem dX2_beatOfBar_19 : decode cX2_beatOfBar 19 = .ok (.iconst 0, 1) := by decide +kernel
theorem dX2_beatOfBar_20 : decode cX2_beatOfBar 20 = .ok (.ireturn, 1) := by decide +kernel
theorem dX2_sumOf_0 : decode cX2_sumOf 0 = .ok (.iconst 0, 1) := by decide +kernel
theorem dX2_sumOf_1 : decode cX2_sumOf 1 = .ok (.istore_n 2, 1) := by decide +kernel
theorem dX2_sumOf_2 : decode cX2_sumOf 2 = .ok (.iconst 0, 1) := by decide +kernel
theorem dX2_sumOf_3 : decode cX2_sumOf 3 = .ok (.istore_n 3, 1) := by decide +kernel
theorem dX2_sumOf_4 : decode cX2_sumOf 4 = .ok (.iload_n 3, 1) := by decide +kernel
theorem dX2_sumOf_5 : decode cX2_sumOf 5 = .ok (.aload_n 0, 1) := by decide +kernel
theorem dX2_sumOf_6 : decode cX2_sumOf 6 = .ok (.getfield 46, 3) := by decide +kernel
theorem dX2_sumOf_9 : decode cX2_sumOf 9 = .ok (.if_icmp .ge 15, 3) := by decide +kernel
theorem dX2_sumOf_12 : decode cX2_sumOf 12 = .ok (.iload_n 2, 1) := by decide +kernel
theorem dX2_sumOf_13 : decode cX2_sumOf 13 = .ok (.aload_n 1, 1) := by decide +kernel
theorem dX2_sumOf_14 : decode cX2_sumOf 14 = .ok (.iload_n 3, 1) := by decide +kernel
theorem dX2_sumOf_15 : decode cX2_sumOf 15 = .ok (.iaload, 1) := by decide +kernel
theorem dX2_sumOf_16 : decode cX2_sumOf 16 = .ok (.iadd, 1) := by decide +kernel
theorem dX2_sumOf_17 : decode cX2_sumOf 17 = .ok (.istore_n 2, 1) := by decide +kernel
theorem dX2_sumOf_18 : decode cX2_sumOf 18 = .ok (.iinc 3 1, 3) := by decide +kernel
theorem dX2_sumOf_21 : decode cX2_sumOf 21 = .ok (.goto (-17), 3) := by decide +kernel
theorem dX2_sumOf_24 : decode cX2_sumOf 24 = .ok (.iload_n 2, 1) := by decide +kernel
theorem dX2_sumOf_25 : decode cX2_sumOf 25 = .ok (.ireturn, 1) := by decide +kernel
theorem dX2_fullest_0 : decode cX2_fullest 0 = .ok (.iconst 0, 1) := by decide +kernel
theorem dX2_fullest_1 : decode cX2_fullest 1 = .ok (.istore_n 1, 1) := by decide +kernel
theorem dX2_fullest_2 : decode cX2_fullest 2 = .ok (.iconst 1, 1) := by decide +kernel
theorem dX2_fullest_3 : decode cX2_fullest 3 = .ok (.istore_n 2, 1) := by decide +kernel
theorem dX2_fullest_4 : decode cX2_fullest 4 = .ok (.iload_n 2, 1) := by decide +kernel
theorem dX2_fullest_5 : decode cX2_fullest 5 = .ok (.aload_n 0, 1) := by decide +kernel
theorem dX2_fullest_6 : decode cX2_fullest 6 = .ok (.getfield 46, 3) := by decide +kernel
theorem dX2_fullest_9 : decode cX2_fullest 9 = .ok (.if_icmp .ge 26, 3) := by decide +kernel
theorem dX2_fullest_12 : decode cX2_fullest 12 = .ok (.aload_n 0, 1) := by decide +kernel
theorem dX2_fullest_13 : decode cX2_fullest 13 = .ok (.getfield 9, 3) := by decide +kernel
theorem dX2_fullest_16 : decode cX2_fullest 16 = .ok (.iload_n 2, 1) := by decide +kernel
theorem dX2_fullest_17 : decode cX2_fullest 17 = .ok (.iaload, 1) := by decide +kernel
theorem dX2_fullest_18 : decode cX2_fullest 18 = .ok (.aload_n 0, 1) := by decide +kernel
theorem dX2_fullest_19 : decode cX2_fullest 19 = .ok (.getfield 9, 3) := by decide +kernel
theorem dX2_fullest_22 : decode cX2_fullest 22 = .ok (.iload_n 1, 1) := by decide +kernel
theorem dX2_fullest_23 : decode cX2_fullest 23 = .ok (.iaload, 1) := by decide +kernel
theorem dX2_fullest_24 : decode cX2_fullest 24 = .ok (.if_icmp .le 5, 3) := by decide +kernel
theorem dX2_fullest_27 : decode cX2_fullest 27 = .ok (.iload_n 2, 1) := by decide +kernel
theorem dX2_fullest_28 : decode cX2_fullest 28 = .ok (.istore_n 1, 1) := by decide +kernel
theorem dX2_fullest_29 : decode cX2_fullest 29 = .ok (.iinc 2 1, 3) := by decide +kernel
theorem dX2_fullest_32 : decode cX2_fullest 32 = .ok (.goto (-28), 3) := by decide +kernel
theorem dX2_fullest_35 : decode cX2_fullest 35 = .ok (.iload_n 1, 1) := by decide +kernel
theorem dX2_fullest_36 : decode cX2_fullest 36 = .ok (.ireturn, 1) := by decide +kernel
theorem dX2_sinceLetIn_0 : decode cX2_sinceLetIn 0 = .ok (.aload_n 0, 1) := by decide +kernel
theorem dX2_sinceLetIn_1 : decode cX2_sinceLetIn 1 = .ok (.getfield 30, 3) := by decide +kernel
theorem dX2_sinceLetIn_4 : decode cX2_sinceLetIn 4 = .ok (.iload_n 1, 1) := by decide +kernel
theorem dX2_sinceLetIn_5 : decode cX2_sinceLetIn 5 = .ok (.iaload, 1) := by decide +kernel
theorem dX2_sinceLetIn_6 : decode cX2_sinceLetIn 6 = .ok (.iconst (-1), 1) := by decide +kernel
theorem dX2_sinceLetIn_7 : decode cX2_sinceLetIn 7 = .ok (.if_icmp .ne 8, 3) := by decide +kernel
theorem dX2_sinceLetIn_10 : decode cX2_sinceLetIn 10 = .ok (.bipush 99, 2) := by decide +kernel
theorem dX2_sinceLetIn_12 : decode cX2_sinceLetIn 12 = .ok (.goto 19, 3) := by decide +kernel
theorem dX2_sinceLetIn_15 : decode cX2_sinceLetIn 15 = .ok (.bipush 99, 2) := by decide +kernel
theorem dX2_sinceLetIn_17 : decode cX2_sinceLetIn 17 = .ok (.aload_n 0, 1) := by decide +kernel
theorem dX2_sinceLetIn_18 : decode cX2_sinceLetIn 18 = .ok (.getfield 49, 3) := by decide +kernel
theorem dX2_sinceLetIn_21 : decode cX2_sinceLetIn 21 = .ok (.aload_n 0, 1) := by decide +kernel
theorem dX2_sinceLetIn_22 : decode cX2_sinceLetIn 22 = .ok (.getfield 30, 3) := by decide +kernel
theorem dX2_sinceLetIn_25 : decode cX2_sinceLetIn 25 = .ok (.iload_n 1, 1) := by decide +kernel
theorem dX2_sinceLetIn_26 : decode cX2_sinceLetIn 26 = .ok (.iaload, 1) := by decide +kernel
theorem dX2_sinceLetIn_27 : decode cX2_sinceLetIn 27 = .ok (.isub, 1) := by decide +kernel
theorem dX2_sinceLetIn_28 : decode cX2_sinceLetIn 28 = .ok (.invokestatic 70, 3) := by decide +kernel
theorem dX2_sinceLetIn_31 : decode cX2_sinceLetIn 31 = .ok (.ireturn, 1) := by decide +kernel
theorem dX2_isPeaceful_0 : decode cX2_isPeaceful 0 = .ok (.iconst 0, 1) := by decide +kernel
theorem dX2_isPeaceful_1 : decode cX2_isPeaceful 1 = .ok (.istore_n 2, 1) := by decide +kernel
theorem dX2_isPeaceful_2 : decode cX2_isPeaceful 2 = .ok (.iload_n 2, 1) := by decide +kernel
theorem dX2_isPeaceful_3 : decode cX2_isPeaceful 3 = .ok (.aload_n 0, 1) := by decide +kernel
theorem dX2_isPeaceful_4 : decode cX2_isPeaceful 4 = .ok (.getfield 46, 3) := by decide +kernel
theorem dX2_isPeaceful_7 : decode cX2_isPeaceful 7 = .ok (.if_icmp .ge 31, 3) := by decide +kernel
theorem dX2_isPeaceful_10 : decode cX2_isPeaceful 10 = .ok (.iload_n 1, 1) := by decide +kernel
theorem dX2_isPeaceful_11 : decode cX2_isPeaceful 11 = .ok (.iload_n 2, 1) := by decide +kernel
theorem dX2_isPeaceful_12 : decode cX2_isPeaceful 12 = .ok (.ishr, 1) := by decide +kernel
theorem dX2_isPeaceful_13 : decode cX2_isPeaceful 13 = .ok (.iconst 1, 1) := by decide +kernel
theorem dX2_isPeaceful_14 : decode cX2_isPeaceful 14 = .ok (.iand, 1) := by decide +kernel
theorem dX2_isPeaceful_15 : decode cX2_isPeaceful 15 = .ok (.iconst 1, 1) := by decide +kernel
theorem dX2_isPeaceful_16 : decode cX2_isPeaceful 16 = .ok (.if_icmp .ne 16, 3) := by decide +kernel
theorem dX2_isPeaceful_19 : decode cX2_isPeaceful 19 = .ok (.aload_n 0, 1) := by decide +kernel
theorem dX2_isPeaceful_20 : decode cX2_isPeaceful 20 = .ok (.getfield 21, 3) := by decide +kernel
theorem dX2_isPeaceful_23 : decode cX2_isPeaceful 23 = .ok (.iload_n 2, 1) := by decide +kernel
theorem dX2_isPeaceful_24 : decode cX2_isPeaceful 24 = .ok (.iaload, 1) := by decide +kernel
theorem dX2_isPeaceful_25 : decode cX2_isPeaceful 25 = .ok (.iload_n 1, 1) := by decide +kernel
theorem dX2_isPeaceful_26 : decode cX2_isPeaceful 26 = .ok (.iand, 1) := by decide +kernel
theorem dX2_isPeaceful_27 : decode cX2_isPeaceful 27 = .ok (.ifCond .eq 5, 3) := by decide +kernel
theorem dX2_isPeaceful_30 : decode cX2_isPeaceful 30 = .ok (.iconst 0, 1) := by decide +kernel
theorem dX2_isPeaceful_31 : decode cX2_isPeaceful 31 = .ok (.ireturn, 1) := by decide +kernel
theorem dX2_isPeaceful_32 : decode cX2_isPeaceful 32 = .ok (.iinc 2 1, 3) := by decide +kernel
theorem dX2_isPeaceful_35 : decode cX2_isPeaceful 35 = .ok (.goto (-33), 3) := by decide +kernel
theorem dX2_isPeaceful_38 : decode cX2_isPeaceful 38 = .ok (.iconst 1, 1) := by decide +kernel
theorem dX2_isPeaceful_39 : decode cX2_isPeaceful 39 = .ok (.ireturn, 1) := by decide +kernel
theorem dX2_soundOf_0 : decode cX2_soundOf 0 = .ok (.iconst 0, 1) := by decide +kernel
theorem dX2_soundOf_1 : decode cX2_soundOf 1 = .ok (.istore_n 2, 1) := by decide +kernel
theorem dX2_soundOf_2 : decode cX2_soundOf 2 = .ok (.iconst 1, 1) := by decide +kernel
theorem dX2_soundOf_3 : decode cX2_soundOf 3 = .ok (.istore_n 3, 1) := by decide +kernel
theorem dX2_soundOf_4 : decode cX2_soundOf 4 = .ok (.iload_n 3, 1) := by decide +kernel
theorem dX2_soundOf_5 : decode cX2_soundOf 5 = .ok (.aload_n 0, 1) := by decide +kernel
theorem dX2_soundOf_6 : decode cX2_soundOf 6 = .ok (.getfield 46, 3) := by decide +kernel
theorem dX2_soundOf_9 : decode cX2_soundOf 9 = .ok (.if_icmp .ge 33, 3) := by decide +kernel
theorem dX2_soundOf_12 : decode cX2_soundOf 12 = .ok (.iload_n 1, 1) := by decide +kernel
theorem dX2_soundOf_13 : decode cX2_soundOf 13 = .ok (.iload_n 3, 1) := by decide +kernel
theorem dX2_soundOf_14 : decode cX2_soundOf 14 = .ok (.ishr, 1) := by decide +kernel
theorem dX2_soundOf_15 : decode cX2_soundOf 15 = .ok (.iconst 1, 1) := by decide +kernel
theorem dX2_soundOf_16 : decode cX2_soundOf 16 = .ok (.iand, 1) := by decide +kernel
theorem dX2_soundOf_17 : decode cX2_soundOf 17 = .ok (.iconst 1, 1) := by decide +kernel
theorem dX2_soundOf_18 : decode cX2_soundOf 18 = .ok (.if_icmp .ne 18, 3) := by decide +kernel
theorem dX2_soundOf_21 : decode cX2_soundOf 21 = .ok (.iload_n 2, 1) := by decide +kernel
theorem dX2_soundOf_22 : decode cX2_soundOf 22 = .ok (.aload_n 0, 1) := by decide +kernel
theorem dX2_soundOf_23 : decode cX2_soundOf 23 = .ok (.iload_n 1, 1) := by decide +kernel
theorem dX2_soundOf_24 : decode cX2_soundOf 24 = .ok (.iconst 1, 1) := by decide +kernel
theorem dX2_soundOf_25 : decode cX2_soundOf 25 = .ok (.iload_n 3, 1) := by decide +kernel
theorem dX2_soundOf_26 : decode cX2_soundOf 26 = .ok (.ishl, 1) := by decide +kernel
theorem dX2_soundOf_27 : decode cX2_soundOf 27 = .ok (.iconst 1, 1) := by decide +kernel
theorem dX2_soundOf_28 : decode cX2_soundOf 28 = .ok (.isub, 1) := by decide +kernel
theorem dX2_soundOf_29 : decode cX2_soundOf 29 = .ok (.iand, 1) := by decide +kernel
theorem dX2_soundOf_30 : decode cX2_soundOf 30 = .ok (.iload_n 3, 1) := by decide +kernel
theorem dX2_soundOf_31 : decode cX2_soundOf 31 = .ok (.invokevirtual 76, 3) := by decide +kernel
theorem dX2_soundOf_34 : decode cX2_soundOf 34 = .ok (.iadd, 1) := by decide +kernel
theorem dX2_soundOf_35 : decode cX2_soundOf 35 = .ok (.istore_n 2, 1) := by decide +kernel
theorem dX2_soundOf_36 : decode cX2_soundOf 36 = .ok (.iinc 3 1, 3) := by decide +kernel
theorem dX2_soundOf_39 : decode cX2_soundOf 39 = .ok (.goto (-35), 3) := by decide +kernel
theorem dX2_soundOf_42 : decode cX2_soundOf 42 = .ok (.iload_n 2, 1) := by decide +kernel
theorem dX2_soundOf_43 : decode cX2_soundOf 43 = .ok (.ireturn, 1) := by decide +kernel
theorem dX2_soundWith_0 : decode cX2_soundWith 0 = .ok (.iconst 0, 1) := by decide +kernel
theorem dX2_soundWith_1 : decode cX2_soundWith 1 = .ok (.istore_n 3, 1) := by decide +kernel
theorem dX2_soundWith_2 : decode cX2_soundWith 2 = .ok (.iconst 0, 1) := by decide +kernel
theorem dX2_soundWith_3 : decode cX2_soundWith 3 = .ok (.istore 4, 2) := by decide +kernel
theorem dX2_soundWith_5 : decode cX2_soundWith 5 = .ok (.iload 4, 2) := by decide +kernel
theorem dX2_soundWith_7 : decode cX2_soundWith 7 = .ok (.aload_n 0, 1) := by decide +kernel
theorem dX2_soundWith_8 : decode cX2_soundWith 8 = .ok (.getfield 46, 3) := by decide +kernel
theorem dX2_soundWith_11 : decode cX2_soundWith 11 = .ok (.if_icmp .ge 60, 3) := by decide +kernel
theorem dX2_soundWith_14 : decode cX2_soundWith 14 = .ok (.iload_n 1, 1) := by decide +kernel
theorem dX2_soundWith_15 : decode cX2_soundWith 15 = .ok (.iload 4, 2) := by decide +kernel
theorem dX2_soundWith_17 : decode cX2_soundWith 17 = .ok (.ishr, 1) := by decide +kernel
theorem dX2_soundWith_18 : decode cX2_soundWith 18 = .ok (.iconst 1, 1) := by decide +kernel
theorem dX2_soundWith_19 : decode cX2_soundWith 19 = .ok (.iand, 1) := by decide +kernel
theorem dX2_soundWith_20 : decode cX2_soundWith 20 = .ok (.iconst 1, 1) := by decide +kernel
theorem dX2_soundWith_21 : decode cX2_soundWith 21 = .ok (.if_icmp .ne 44, 3) := by decide +kernel
theorem dX2_soundWith_24 : decode cX2_soundWith 24 = .ok (.aload_n 0, 1) := by decide +kernel
theorem dX2_soundWith_25 : decode cX2_soundWith 25 = .ok (.getfield 18, 3) := by decide +kernel
theorem dX2_soundWith_28 : decode cX2_soundWith 28 = .ok (.iload_n 2, 1) := by decide +kernel
theorem dX2_soundWith_29 : decode cX2_soundWith 29 = .ok (.iaload, 1) := by decide +kernel
theorem dX2_soundWith_30 : decode cX2_soundWith 30 = .ok (.aload_n 0, 1) := by decide +kernel
theorem dX2_soundWith_31 : decode cX2_soundWith 31 = .ok (.getfield 18, 3) := by decide +kernel
theorem dX2_soundWith_34 : decode cX2_soundWith 34 = .ok (.iload 4, 2) := by decide +kernel
theorem dX2_soundWith_36 : decode cX2_soundWith 36 = .ok (.iaload, 1) := by decide +kernel
theorem dX2_soundWith_37 : decode cX2_soundWith 37 = .ok (.isub, 1) := by decide +kernel
theorem dX2_soundWith_38 : decode cX2_soundWith 38 = .ok (.invokestatic 79, 3) := by decide +kernel
theorem dX2_soundWith_41 : decode cX2_soundWith 41 = .ok (.istore 5, 2) := by decide +kernel
theorem dX2_soundWith_43 : decode cX2_soundWith 43 = .ok (.iload_n 3, 1) := by decide +kernel
theorem dX2_soundWith_44 : decode cX2_soundWith 44 = .ok (.iload 5, 2) := by decide +kernel
theorem dX2_soundWith_46 : decode cX2_soundWith 46 = .ok (.getstatic 83, 3) := by decide +kernel
theorem dX2_soundWith_49 : decode cX2_soundWith 49 = .ok (.arraylength, 1) := by decide +kernel
theorem dX2_soundWith_50 : decode cX2_soundWith 50 = .ok (.if_icmp .ge 12, 3) := by decide +kernel
theorem dX2_soundWith_53 : decode cX2_soundWith 53 = .ok (.getstatic 83, 3) := by decide +kernel
theorem dX2_soundWith_56 : decode cX2_soundWith 56 = .ok (.iload 5, 2) := by decide +kernel
theorem dX2_soundWith_58 : decode cX2_soundWith 58 = .ok (.iaload, 1) := by decide +kernel
theorem dX2_soundWith_59 : decode cX2_soundWith 59 = .ok (.goto 4, 3) := by decide +kernel
theorem dX2_soundWith_62 : decode cX2_soundWith 62 = .ok (.iconst 0, 1) := by decide +kernel
theorem dX2_soundWith_63 : decode cX2_soundWith 63 = .ok (.iadd, 1) := by decide +kernel
theorem dX2_soundWith_64 : decode cX2_soundWith 64 = .ok (.istore_n 3, 1) := by decide +kernel
theorem dX2_soundWith_65 : decode cX2_soundWith 65 = .ok (.iinc 4 1, 3) := by decide +kernel
theorem dX2_soundWith_68 : decode cX2_soundWith 68 = .ok (.goto (-63), 3) := by decide +kernel
theorem dX2_soundWith_71 : decode cX2_soundWith 71 = .ok (.iload_n 3, 1) := by decide +kernel
theorem dX2_soundWith_72 : decode cX2_soundWith 72 = .ok (.ireturn, 1) := by decide +kernel
theorem dX2_wordFor_0 : decode cX2_wordFor 0 = .ok (.iload_n 1, 1) := by decide +kernel
theorem dX2_wordFor_1 : decode cX2_wordFor 1 = .ok (.tableswitch 146 0 10 #[59, 62, 70, 78, 86, 101, 107, 115, 122, 130, 140], 59) := by decide +kernel
theorem dX2_wordFor_60 : decode cX2_wordFor 60 = .ok (.iload_n 2, 1) := by decide +kernel
theorem dX2_wordFor_61 : decode cX2_wordFor 61 = .ok (.i2l, 1) := by decide +kernel
theorem dX2_wordFor_62 : decode cX2_wordFor 62 = .ok (.lreturn, 1) := by decide +kernel
theorem dX2_wordFor_63 : decode cX2_wordFor 63 = .ok (.aload_n 0, 1) := by decide +kernel
theorem dX2_wordFor_64 : decode cX2_wordFor 64 = .ok (.getfield 9, 3) := by decide +kernel
theorem dX2_wordFor_67 : decode cX2_wordFor 67 = .ok (.iload_n 2, 1) := by decide +kernel
theorem dX2_wordFor_68 : decode cX2_wordFor 68 = .ok (.iaload, 1) := by decide +kernel
theorem dX2_wordFor_69 : decode cX2_wordFor 69 = .ok (.i2l, 1) := by decide +kernel
theorem dX2_wordFor_70 : decode cX2_wordFor 70 = .ok (.lreturn, 1) := by decide +kernel
theorem dX2_wordFor_71 : decode cX2_wordFor 71 = .ok (.aload_n 0, 1) := by decide +kernel
theorem dX2_wordFor_72 : decode cX2_wordFor 72 = .ok (.getfield 15, 3) := by decide +kernel
theorem dX2_wordFor_75 : decode cX2_wordFor 75 = .ok (.iload_n 2, 1) := by decide +kernel
theorem dX2_wordFor_76 : decode cX2_wordFor 76 = .ok (.iaload, 1) := by decide +kernel
theorem dX2_wordFor_77 : decode cX2_wordFor 77 = .ok (.i2l, 1) := by decide +kernel
theorem dX2_wordFor_78 : decode cX2_wordFor 78 = .ok (.lreturn, 1) := by decide +kernel
theorem dX2_wordFor_79 : decode cX2_wordFor 79 = .ok (.aload_n 0, 1) := by decide +kernel
theorem dX2_wordFor_80 : decode cX2_wordFor 80 = .ok (.getfield 18, 3) := by decide +kernel
theorem dX2_wordFor_83 : decode cX2_wordFor 83 = .ok (.iload_n 2, 1) := by decide +kernel
theorem dX2_wordFor_84 : decode cX2_wordFor 84 = .ok (.iaload, 1) := by decide +kernel
theorem dX2_wordFor_85 : decode cX2_wordFor 85 = .ok (.i2l, 1) := by decide +kernel
theorem dX2_wordFor_86 : decode cX2_wordFor 86 = .ok (.lreturn, 1) := by decide +kernel
theorem dX2_wordFor_87 : decode cX2_wordFor 87 = .ok (.aload_n 0, 1) := by decide +kernel
theorem dX2_wordFor_88 : decode cX2_wordFor 88 = .ok (.getfield 36, 3) := by decide +kernel
theorem dX2_wordFor_91 : decode cX2_wordFor 91 = .ok (.aload_n 0, 1) := by decide +kernel
theorem dX2_wordFor_92 : decode cX2_wordFor 92 = .ok (.invokevirtual 86, 3) := by decide +kernel
theorem dX2_wordFor_95 : decode cX2_wordFor 95 = .ok (.iaload, 1) := by decide +kernel
theorem dX2_wordFor_96 : decode cX2_wordFor 96 = .ok (.iload_n 2, 1) := by decide +kernel
theorem dX2_wordFor_97 : decode cX2_wordFor 97 = .ok (.ishr, 1) := by decide +kernel
theorem dX2_wordFor_98 : decode cX2_wordFor 98 = .ok (.iconst 1, 1) := by decide +kernel
theorem dX2_wordFor_99 : decode cX2_wordFor 99 = .ok (.iand, 1) := by decide +kernel
theorem dX2_wordFor_100 : decode cX2_wordFor 100 = .ok (.i2l, 1) := by decide +kernel
theorem dX2_wordFor_101 : decode cX2_wordFor 101 = .ok (.lreturn, 1) := by decide +kernel
theorem dX2_wordFor_102 : decode cX2_wordFor 102 = .ok (.iload_n 3, 1) := by decide +kernel
theorem dX2_wordFor_103 : decode cX2_wordFor 103 = .ok (.invokestatic 90, 3) := by decide +kernel
theorem dX2_wordFor_106 : decode cX2_wordFor 106 = .ok (.i2l, 1) := by decide +kernel
theorem dX2_wordFor_107 : decode cX2_wordFor 107 = .ok (.lreturn, 1) := by decide +kernel
theorem dX2_wordFor_108 : decode cX2_wordFor 108 = .ok (.aload_n 0, 1) := by decide +kernel
theorem dX2_wordFor_109 : decode cX2_wordFor 109 = .ok (.iload_n 3, 1) := by decide +kernel
theorem dX2_wordFor_110 : decode cX2_wordFor 110 = .ok (.iload_n 2, 1) := by decide +kernel
theorem dX2_wordFor_111 : decode cX2_wordFor 111 = .ok (.invokevirtual 76, 3) := by decide +kernel
theorem dX2_wordFor_114 : decode cX2_wordFor 114 = .ok (.i2l, 1) := by decide +kernel
theorem dX2_wordFor_115 : decode cX2_wordFor 115 = .ok (.lreturn, 1) := by decide +kernel
theorem dX2_wordFor_116 : decode cX2_wordFor 116 = .ok (.aload_n 0, 1) := by decide +kernel
theorem dX2_wordFor_117 : decode cX2_wordFor 117 = .ok (.iload_n 2, 1) := by decide +kernel
theorem dX2_wordFor_118 : decode cX2_wordFor 118 = .ok (.invokevirtual 95, 3) := by decide +kernel
theorem dX2_wordFor_121 : decode cX2_wordFor 121 = .ok (.i2l, 1) := by decide +kernel
theorem dX2_wordFor_122 : decode cX2_wordFor 122 = .ok (.lreturn, 1) := by decide +kernel
theorem dX2_wordFor_123 : decode cX2_wordFor 123 = .ok (.aload_n 0, 1) := by decide +kernel
theorem dX2_wordFor_124 : decode cX2_wordFor 124 = .ok (.getfield 24, 3) := by decide +kernel
theorem dX2_wordFor_127 : decode cX2_wordFor 127 = .ok (.iload_n 2, 1) := by decide +kernel
theorem dX2_wordFor_128 : decode cX2_wordFor 128 = .ok (.iaload, 1) := by decide +kernel
theorem dX2_wordFor_129 : decode cX2_wordFor 129 = .ok (.i2l, 1) := by decide +kernel
theorem dX2_wordFor_130 : decode cX2_wordFor 130 = .ok (.lreturn, 1) := by decide +kernel
theorem dX2_wordFor_131 : decode cX2_wordFor 131 = .ok (.aload_n 0, 1) := by decide +kernel
theorem dX2_wordFor_132 : decode cX2_wordFor 132 = .ok (.aload_n 0, 1) := by decide +kernel
theorem dX2_wordFor_133 : decode cX2_wordFor 133 = .ok (.getfield 9, 3) := by decide +kernel
theorem dX2_wordFor_136 : decode cX2_wordFor 136 = .ok (.invokevirtual 98, 3) := by decide +kernel
theorem dX2_wordFor_139 : decode cX2_wordFor 139 = .ok (.i2l, 1) := by decide +kernel
theorem dX2_wordFor_140 : decode cX2_wordFor 140 = .ok (.lreturn, 1) := by decide +kernel
theorem dX2_wordFor_141 : decode cX2_wordFor 141 = .ok (.aload_n 0, 1) := by decide +kernel
theorem dX2_wordFor_142 : decode cX2_wordFor 142 = .ok (.invokevirtual 86, 3) := by decide +kernel
theorem dX2_wordFor_145 : decode cX2_wordFor 145 = .ok (.i2l, 1) := by decide +kernel
theorem dX2_wordFor_146 : decode cX2_wordFor 146 = .ok (.lreturn, 1) := by decide +kernel
theorem dX2_wordFor_147 : decode cX2_wordFor 147 = .ok (.aload_n 0, 1) := by decide +kernel
theorem dX2_wordFor_148 : decode cX2_wordFor 148 = .ok (.getfield 39, 3) := by decide +kernel
theorem dX2_wordFor_151 : decode cX2_wordFor 151 = .ok (.ifCond .le 16, 3) := by decide +kernel
theorem dX2_wordFor_154 : decode cX2_wordFor 154 = .ok (.aload_n 0, 1) := by decide +kernel
theorem dX2_wordFor_155 : decode cX2_wordFor 155 = .ok (.getfield 49, 3) := by decide +kernel
theorem dX2_wordFor_158 : decode cX2_wordFor 158 = .ok (.aload_n 0, 1) := by decide +kernel
theorem dX2_wordFor_159 : decode cX2_wordFor 159 = .ok (.getfield 39, 3) := by decide +kernel
theorem dX2_wordFor_162 : decode cX2_wordFor 162 = .ok (.idiv, 1) := by decide +kernel
theorem dX2_wordFor_163 : decode cX2_wordFor 163 = .ok (.i2l, 1) := by decide +kernel
theorem dX2_wordFor_164 : decode cX2_wordFor 164 = .ok (.goto 4, 3) := by decide +kernel
theorem dX2_wordFor_167 : decode cX2_wordFor 167 = .ok (.lconst 0, 1) := by decide +kernel
theorem dX2_wordFor_168 : decode cX2_wordFor 168 = .ok (.lreturn, 1) := by decide +kernel
theorem dX2_addWaiting_0 : decode cX2_addWaiting 0 = .ok (.aload_n 0, 1) := by decide +kernel
theorem dX2_addWaiting_1 : decode cX2_addWaiting 1 = .ok (.getfield 9, 3) := by decide +kernel
theorem dX2_addWaiting_4 : decode cX2_addWaiting 4 = .ok (.iload_n 1, 1) := by decide +kernel
theorem dX2_addWaiting_5 : decode cX2_addWaiting 5 = .ok (.sipush 999, 3) := by decide +kernel
theorem dX2_addWaiting_8 : decode cX2_addWaiting 8 = .ok (.aload_n 0, 1) := by decide +kernel
theorem dX2_addWaiting_9 : decode cX2_addWaiting 9 = .ok (.getfield 9, 3) := by decide +kernel
theorem dX2_addWaiting_12 : decode cX2_addWaiting 12 = .ok (.iload_n 1, 1) := by decide +kernel
theorem dX2_addWaiting_13 : decode cX2_addWaiting 13 = .ok (.iaload, 1) := by decide +kernel
theorem dX2_addWaiting_14 : decode cX2_addWaiting 14 = .ok (.iload_n 2, 1) := by decide +kernel
theorem dX2_addWaiting_15 : decode cX2_addWaiting 15 = .ok (.iadd, 1) := by decide +kernel
theorem dX2_addWaiting_16 : decode cX2_addWaiting 16 = .ok (.invokestatic 70, 3) := by decide +kernel
theorem dX2_addWaiting_19 : decode cX2_addWaiting 19 = .ok (.iastore, 1) := by decide +kernel
theorem dX2_addWaiting_20 : decode cX2_addWaiting 20 = .ok (.return_, 1) := by decide +kernel
theorem dX2_leave_0 : decode cX2_leave 0 = .ok (.aload_n 0, 1) := by decide +kernel
theorem dX2_leave_1 : decode cX2_leave 1 = .ok (.getfield 43, 3) := by decide +kernel
theorem dX2_leave_4 : decode cX2_leave 4 = .ok (.aload_n 0, 1) := by decide +kernel
theorem dX2_leave_5 : decode cX2_leave 5 = .ok (.getfield 9, 3) := by decide +kernel
theorem dX2_leave_8 : decode cX2_leave 8 = .ok (.iload_n 1, 1) := by decide +kernel
theorem dX2_leave_9 : decode cX2_leave 9 = .ok (.iaload, 1) := by decide +kernel
theorem dX2_leave_10 : decode cX2_leave 10 = .ok (.invokestatic 70, 3) := by decide +kernel
theorem dX2_leave_13 : decode cX2_leave 13 = .ok (.istore_n 2, 1) := by decide +kernel
theorem dX2_leave_14 : decode cX2_leave 14 = .ok (.aload_n 0, 1) := by decide +kernel
theorem dX2_leave_15 : decode cX2_leave 15 = .ok (.getfield 9, 3) := by decide +kernel
theorem dX2_leave_18 : decode cX2_leave 18 = .ok (.iload_n 1, 1) := by decide +kernel
theorem dX2_leave_19 : decode cX2_leave 19 = .ok (.dup2, 1) := by decide +kernel
theorem dX2_leave_20 : decode cX2_leave 20 = .ok (.iaload, 1) := by decide +kernel
theorem dX2_leave_21 : decode cX2_leave 21 = .ok (.iload_n 2, 1) := by decide +kernel
theorem dX2_leave_22 : decode cX2_leave 22 = .ok (.isub, 1) := by decide +kernel
theorem dX2_leave_23 : decode cX2_leave 23 = .ok (.iastore, 1) := by decide +kernel
theorem dX2_leave_24 : decode cX2_leave 24 = .ok (.aload_n 0, 1) := by decide +kernel
theorem dX2_leave_25 : decode cX2_leave 25 = .ok (.getfield 24, 3) := by decide +kernel
theorem dX2_leave_28 : decode cX2_leave 28 = .ok (.iload_n 1, 1) := by decide +kernel
theorem dX2_leave_29 : decode cX2_leave 29 = .ok (.dup2, 1) := by decide +kernel
theorem dX2_leave_30 : decode cX2_leave 30 = .ok (.iaload, 1) := by decide +kernel
theorem dX2_leave_31 : decode cX2_leave 31 = .ok (.iload_n 2, 1) := by decide +kernel
theorem dX2_leave_32 : decode cX2_leave 32 = .ok (.iadd, 1) := by decide +kernel
theorem dX2_leave_33 : decode cX2_leave 33 = .ok (.iastore, 1) := by decide +kernel
theorem dX2_leave_34 : decode cX2_leave 34 = .ok (.iload_n 2, 1) := by decide +kernel
theorem dX2_leave_35 : decode cX2_leave 35 = .ok (.ireturn, 1) := by decide +kernel
theorem dX2_oneBeat_0 : decode cX2_oneBeat 0 = .ok (.aload_n 0, 1) := by decide +kernel
theorem dX2_oneBeat_1 : decode cX2_oneBeat 1 = .ok (.invokevirtual 102, 3) := by decide +kernel
theorem dX2_oneBeat_4 : decode cX2_oneBeat 4 = .ok (.iconst 0, 1) := by decide +kernel
theorem dX2_oneBeat_5 : decode cX2_oneBeat 5 = .ok (.istore_n 2, 1) := by decide +kernel
theorem dX2_oneBeat_6 : decode cX2_oneBeat 6 = .ok (.aload_n 0, 1) := by decide +kernel
theorem dX2_oneBeat_7 : decode cX2_oneBeat 7 = .ok (.getfield 36, 3) := by decide +kernel
theorem dX2_oneBeat_10 : decode cX2_oneBeat 10 = .ok (.aload_n 0, 1) := by decide +kernel
theorem dX2_oneBeat_11 : decode cX2_oneBeat 11 = .ok (.invokevirtual 86, 3) := by decide +kernel
theorem dX2_oneBeat_14 : decode cX2_oneBeat 14 = .ok (.iaload, 1) := by decide +kernel
theorem dX2_oneBeat_15 : decode cX2_oneBeat 15 = .ok (.istore_n 3, 1) := by decide +kernel
theorem dX2_oneBeat_16 : decode cX2_oneBeat 16 = .ok (.iconst 0, 1) := by decide +kernel
theorem dX2_oneBeat_17 : decode cX2_oneBeat 17 = .ok (.istore 4, 2) := by decide +kernel
theorem dX2_oneBeat_19 : decode cX2_oneBeat 19 = .ok (.iload 4, 2) := by decide +kernel
theorem dX2_oneBeat_21 : decode cX2_oneBeat 21 = .ok (.aload_n 0, 1) := by decide +kernel
theorem dX2_oneBeat_22 : decode cX2_oneBeat 22 = .ok (.getfield 46, 3) := by decide +kernel
theorem dX2_oneBeat_25 : decode cX2_oneBeat 25 = .ok (.if_icmp .ge 79, 3) := by decide +kernel
theorem dX2_oneBeat_28 : decode cX2_oneBeat 28 = .ok (.aload_n 0, 1) := by decide +kernel
theorem dX2_oneBeat_29 : decode cX2_oneBeat 29 = .ok (.getfield 21, 3) := by decide +kernel
theorem dX2_oneBeat_32 : decode cX2_oneBeat 32 = .ok (.iload 4, 2) := by decide +kernel
theorem dX2_oneBeat_34 : decode cX2_oneBeat 34 = .ok (.iaload, 1) := by decide +kernel
theorem dX2_oneBeat_35 : decode cX2_oneBeat 35 = .ok (.iload_n 2, 1) := by decide +kernel
theorem dX2_oneBeat_36 : decode cX2_oneBeat 36 = .ok (.iand, 1) := by decide +kernel
theorem dX2_oneBeat_37 : decode cX2_oneBeat 37 = .ok (.ifCond .ne 61, 3) := by decide +kernel
theorem dX2_oneBeat_40 : decode cX2_oneBeat 40 = .ok (.aload_n 1, 1) := by decide +kernel
theorem dX2_oneBeat_41 : decode cX2_oneBeat 41 = .ok (.ifnonnull 21, 3) := by decide +kernel
theorem dX2_oneBeat_44 : decode cX2_oneBeat 44 = .ok (.iload_n 3, 1) := by decide +kernel
theorem dX2_oneBeat_45 : decode cX2_oneBeat 45 = .ok (.iload 4, 2) := by decide +kernel
theorem dX2_oneBeat_47 : decode cX2_oneBeat 47 = .ok (.ishr, 1) := by decide +kernel
theorem dX2_oneBeat_48 : decode cX2_oneBeat 48 = .ok (.iconst 1, 1) := by decide +kernel
theorem dX2_oneBeat_49 : decode cX2_oneBeat 49 = .ok (.iand, 1) := by decide +kernel
theorem dX2_oneBeat_50 : decode cX2_oneBeat 50 = .ok (.iconst 1, 1) := by decide +kernel
theorem dX2_oneBeat_51 : decode cX2_oneBeat 51 = .ok (.if_icmp .ne 7, 3) := by decide +kernel
theorem dX2_oneBeat_54 : decode cX2_oneBeat 54 = .ok (.iconst 1, 1) := by decide +kernel
theorem dX2_oneBeat_55 : decode cX2_oneBeat 55 = .ok (.goto 25, 3) := by decide +kernel
theorem dX2_oneBeat_58 : decode cX2_oneBeat 58 = .ok (.iconst 0, 1) := by decide +kernel
theorem dX2_oneBeat_59 : decode cX2_oneBeat 59 = .ok (.goto 21, 3) := by decide +kernel
theorem dX2_oneBeat_62 : decode cX2_oneBeat 62 = .ok (.aload_n 1, 1) := by decide +kernel
theorem dX2_oneBeat_63 : decode cX2_oneBeat 63 = .ok (.aload_n 0, 1) := by decide +kernel
theorem dX2_oneBeat_64 : decode cX2_oneBeat 64 = .ok (.iload 4, 2) := by decide +kernel
theorem dX2_oneBeat_66 : decode cX2_oneBeat 66 = .ok (.iload_n 2, 1) := by decide +kernel
theorem dX2_oneBeat_67 : decode cX2_oneBeat 67 = .ok (.invokevirtual 105, 3) := by decide +kernel
theorem dX2_oneBeat_70 : decode cX2_oneBeat 70 = .ok (.lconst 0, 1) := by decide +kernel
theorem dX2_oneBeat_71 : decode cX2_oneBeat 71 = .ok (.lcmp, 1) := by decide +kernel
theorem dX2_oneBeat_72 : decode cX2_oneBeat 72 = .ok (.ifCond .le 7, 3) := by decide +kernel
theorem dX2_oneBeat_75 : decode cX2_oneBeat 75 = .ok (.iconst 1, 1) := by decide +kernel
theorem dX2_oneBeat_76 : decode cX2_oneBeat 76 = .ok (.goto 4, 3) := by decide +kernel
theorem dX2_oneBeat_79 : decode cX2_oneBeat 79 = .ok (.iconst 0, 1) := by decide +kernel
theorem dX2_oneBeat_80 : decode cX2_oneBeat 80 = .ok (.istore 5, 2) := by decide +kernel
theorem dX2_oneBeat_82 : decode cX2_oneBeat 82 = .ok (.iload_n 2, 1) := by decide +kernel
theorem dX2_oneBeat_83 : decode cX2_oneBeat 83 = .ok (.iload 5, 2) := by decide +kernel
theorem dX2_oneBeat_85 : decode cX2_oneBeat 85 = .ok (.ifCond .eq 10, 3) := by decide +kernel
theorem dX2_oneBeat_88 : decode cX2_oneBeat 88 = .ok (.iconst 1, 1) := by decide +kernel
theorem dX2_oneBeat_89 : decode cX2_oneBeat 89 = .ok (.iload 4, 2) := by decide +kernel
theorem dX2_oneBeat_91 : decode cX2_oneBeat 91 = .ok (.ishl, 1) := by decide +kernel
theorem dX2_oneBeat_92 : decode cX2_oneBeat 92 = .ok (.goto 4, 3) := by decide +kernel
theorem dX2_oneBeat_95 : decode cX2_oneBeat 95 = .ok (.iconst 0, 1) := by decide +kernel
theorem dX2_oneBeat_96 : decode cX2_oneBeat 96 = .ok (.ior, 1) := by decide +kernel
theorem dX2_oneBeat_97 : decode cX2_oneBeat 97 = .ok (.istore_n 2, 1) := by decide +kernel
theorem dX2_oneBeat_98 : decode cX2_oneBeat 98 = .ok (.iinc 4 1, 3) := by decide +kernel
theorem dX2_oneBeat_101 : decode cX2_oneBeat 101 = .ok (.goto (-82), 3) := by decide +kernel
theorem dX2_oneBeat_104 : decode cX2_oneBeat 104 = .ok (.aload_n 0, 1) := by decide +kernel
theorem dX2_oneBeat_105 : decode cX2_oneBeat 105 = .ok (.iload_n 2, 1) := by decide +kernel
theorem dX2_oneBeat_106 : decode cX2_oneBeat 106 = .ok (.invokevirtual 111, 3) := by decide +kernel
theorem dX2_oneBeat_109 : decode cX2_oneBeat 109 = .ok (.iload_n 2, 1) := by decide +kernel
theorem dX2_oneBeat_110 : decode cX2_oneBeat 110 = .ok (.ireturn, 1) := by decide +kernel
theorem dX2_goOn_0 : decode cX2_goOn 0 = .ok (.iconst 0, 1) := by decide +kernel
theorem dX2_goOn_1 : decode cX2_goOn 1 = .ok (.istore_n 3, 1) := by decide +kernel
theorem dX2_goOn_2 : decode cX2_goOn 2 = .ok (.iload_n 3, 1) := by decide +kernel
theorem dX2_goOn_3 : decode cX2_goOn 3 = .ok (.iload_n 1, 1) := by decide +kernel
theorem dX2_goOn_4 : decode cX2_goOn 4 = .ok (.if_icmp .ge 15, 3) := by decide +kernel
theorem dX2_goOn_7 : decode cX2_goOn 7 = .ok (.aload_n 0, 1) := by decide +kernel
theorem dX2_goOn_8 : decode cX2_goOn 8 = .ok (.aload_n 2, 1) := by decide +kernel
theorem dX2_goOn_9 : decode cX2_goOn 9 = .ok (.invokevirtual 115, 3) := by decide +kernel
theorem dX2_goOn_12 : decode cX2_goOn 12 = .ok (.pop, 1) := by decide +kernel
theorem dX2_goOn_13 : decode cX2_goOn 13 = .ok (.iinc 3 1, 3) := by decide +kernel
theorem dX2_goOn_16 : decode cX2_goOn 16 = .ok (.goto (-14), 3) := by decide +kernel
theorem dX2_goOn_19 : decode cX2_goOn 19 = .ok (.return_, 1) := by decide +kernel
theorem dX2_arrive_0 : decode cX2_arrive 0 = .ok (.iconst 0, 1) := by decide +kernel
theorem dX2_arrive_1 : decode cX2_arrive 1 = .ok (.istore_n 1, 1) := by decide +kernel
theorem dX2_arrive_2 : decode cX2_arrive 2 = .ok (.iload_n 1, 1) := by decide +kernel
theorem dX2_arrive_3 : decode cX2_arrive 3 = .ok (.aload_n 0, 1) := by decide +kernel
theorem dX2_arrive_4 : decode cX2_arrive 4 = .ok (.getfield 46, 3) := by decide +kernel
theorem dX2_arrive_7 : decode cX2_arrive 7 = .ok (.if_icmp .ge 46, 3) := by decide +kernel
theorem dX2_arrive_10 : decode cX2_arrive 10 = .ok (.iload_n 1, 1) := by decide +kernel
theorem dX2_arrive_11 : decode cX2_arrive 11 = .ok (.aload_n 0, 1) := by decide +kernel
theorem dX2_arrive_12 : decode cX2_arrive 12 = .ok (.getfield 55, 3) := by decide +kernel
theorem dX2_arrive_15 : decode cX2_arrive 15 = .ok (.if_icmp .eq 32, 3) := by decide +kernel
theorem dX2_arrive_18 : decode cX2_arrive 18 = .ok (.aload_n 0, 1) := by decide +kernel
theorem dX2_arrive_19 : decode cX2_arrive 19 = .ok (.getfield 15, 3) := by decide +kernel
theorem dX2_arrive_22 : decode cX2_arrive 22 = .ok (.iload_n 1, 1) := by decide +kernel
theorem dX2_arrive_23 : decode cX2_arrive 23 = .ok (.iaload, 1) := by decide +kernel
theorem dX2_arrive_24 : decode cX2_arrive 24 = .ok (.ifCond .le 23, 3) := by decide +kernel
theorem dX2_arrive_27 : decode cX2_arrive 27 = .ok (.aload_n 0, 1) := by decide +kernel
theorem dX2_arrive_28 : decode cX2_arrive 28 = .ok (.getfield 49, 3) := by decide +kernel
theorem dX2_arrive_31 : decode cX2_arrive 31 = .ok (.aload_n 0, 1) := by decide +kernel
theorem dX2_arrive_32 : decode cX2_arrive 32 = .ok (.getfield 15, 3) := by decide +kernel
theorem dX2_arrive_35 : decode cX2_arrive 35 = .ok (.iload_n 1, 1) := by decide +kernel
theorem dX2_arrive_36 : decode cX2_arrive 36 = .ok (.iaload, 1) := by decide +kernel
theorem dX2_arrive_37 : decode cX2_arrive 37 = .ok (.irem, 1) := by decide +kernel
theorem dX2_arrive_38 : decode cX2_arrive 38 = .ok (.ifCond .ne 9, 3) := by decide +kernel
theorem dX2_arrive_41 : decode cX2_arrive 41 = .ok (.aload_n 0, 1) := by decide +kernel
theorem dX2_arrive_42 : decode cX2_arrive 42 = .ok (.iload_n 1, 1) := by decide +kernel
theorem dX2_arrive_43 : decode cX2_arrive 43 = .ok (.iconst 1, 1) := by decide +kernel
theorem dX2_arrive_44 : decode cX2_arrive 44 = .ok (.invokevirtual 119, 3) := by decide +kernel
theorem dX2_arrive_47 : decode cX2_arrive 47 = .ok (.iinc 1 1, 3) := by decide +kernel
theorem dX2_arrive_50 : decode cX2_arrive 50 = .ok (.goto (-48), 3) := by decide +kernel
theorem dX2_arrive_53 : decode cX2_arrive 53 = .ok (.return_, 1) := by decide +kernel
theorem dX2_goThrough_0 : decode cX2_goThrough 0 = .ok (.iconst 0, 1) := by decide +kernel
theorem dX2_goThrough_1 : decode cX2_goThrough 1 = .ok (.istore_n 2, 1) := by decide +kernel
theorem dX2_goThrough_2 : decode cX2_goThrough 2 = .ok (.iconst 0, 1) := by decide +kernel
theorem dX2_goThrough_3 : decode cX2_goThrough 3 = .ok (.istore_n 3, 1) := by decide +kernel
theorem dX2_goThrough_4 : decode cX2_goThrough 4 = .ok (.iload_n 3, 1) := by decide +kernel
theorem dX2_goThrough_5 : decode cX2_goThrough 5 = .ok (.aload_n 0, 1) := by decide +kernel
theorem dX2_goThrough_6 : decode cX2_goThrough 6 = .ok (.getfield 46, 3) := by decide +kernel
theorem dX2_goThrough_9 : decode cX2_goThrough 9 = .ok (.if_icmp .ge 89, 3) := by decide +kernel
theorem dX2_goThrough_12 : decode cX2_goThrough 12 = .ok (.aload_n 0, 1) := by decide +kernel
theorem dX2_goThrough_13 : decode cX2_goThrough 13 = .ok (.getfield 33, 3) := by decide +kernel
theorem dX2_goThrough_16 : decode cX2_goThrough 16 = .ok (.iload_n 3, 1) := by decide +kernel
theorem dX2_goThrough_17 : decode cX2_goThrough 17 = .ok (.iconst 0, 1) := by decide +kernel
theorem dX2_goThrough_18 : decode cX2_goThrough 18 = .ok (.iastore, 1) := by decide +kernel
theorem dX2_goThrough_19 : decode cX2_goThrough 19 = .ok (.iload_n 1, 1) := by decide +kernel
theorem dX2_goThrough_20 : decode cX2_goThrough 20 = .ok (.iload_n 3, 1) := by decide +kernel
theorem dX2_goThrough_21 : decode cX2_goThrough 21 = .ok (.ishr, 1) := by decide +kernel
theorem dX2_goThrough_22 : decode cX2_goThrough 22 = .ok (.iconst 1, 1) := by decide +kernel
theorem dX2_goThrough_23 : decode cX2_goThrough 23 = .ok (.iand, 1) := by decide +kernel
theorem dX2_goThrough_24 : decode cX2_goThrough 24 = .ok (.iconst 1, 1) := by decide +kernel
theorem dX2_goThrough_25 : decode cX2_goThrough 25 = .ok (.if_icmp .ne 43, 3) := by decide +kernel
theorem dX2_goThrough_28 : decode cX2_goThrough 28 = .ok (.aload_n 0, 1) := by decide +kernel
theorem dX2_goThrough_29 : decode cX2_goThrough 29 = .ok (.getfield 30, 3) := by decide +kernel
theorem dX2_goThrough_32 : decode cX2_goThrough 32 = .ok (.iload_n 3, 1) := by decide +kernel
theorem dX2_goThrough_33 : decode cX2_goThrough 33 = .ok (.aload_n 0, 1) := by decide +kernel
theorem dX2_goThrough_34 : decode cX2_goThrough 34 = .ok (.getfield 49, 3) := by decide +kernel
theorem dX2_goThrough_37 : decode cX2_goThrough 37 = .ok (.iastore, 1) := by decide +kernel
theorem dX2_goThrough_38 : decode cX2_goThrough 38 = .ok (.aload_n 0, 1) := by decide +kernel
theorem dX2_goThrough_39 : decode cX2_goThrough 39 = .ok (.getfield 33, 3) := by decide +kernel
theorem dX2_goThrough_42 : decode cX2_goThrough 42 = .ok (.iload_n 3, 1) := by decide +kernel
theorem dX2_goThrough_43 : decode cX2_goThrough 43 = .ok (.aload_n 0, 1) := by decide +kernel
theorem dX2_goThrough_44 : decode cX2_goThrough 44 = .ok (.iload_n 3, 1) := by decide +kernel
theorem dX2_goThrough_45 : decode cX2_goThrough 45 = .ok (.invokevirtual 123, 3) := by decide +kernel
theorem dX2_goThrough_48 : decode cX2_goThrough 48 = .ok (.iastore, 1) := by decide +kernel
theorem dX2_goThrough_49 : decode cX2_goThrough 49 = .ok (.iload_n 2, 1) := by decide +kernel
theorem dX2_goThrough_50 : decode cX2_goThrough 50 = .ok (.aload_n 0, 1) := by decide +kernel
theorem dX2_goThrough_51 : decode cX2_goThrough 51 = .ok (.getfield 33, 3) := by decide +kernel
theorem dX2_goThrough_54 : decode cX2_goThrough 54 = .ok (.iload_n 3, 1) := by decide +kernel
theorem dX2_goThrough_55 : decode cX2_goThrough 55 = .ok (.iaload, 1) := by decide +kernel
theorem dX2_goThrough_56 : decode cX2_goThrough 56 = .ok (.ifCond .le 9, 3) := by decide +kernel
theorem dX2_goThrough_59 : decode cX2_goThrough 59 = .ok (.iconst 1, 1) := by decide +kernel
theorem dX2_goThrough_60 : decode cX2_goThrough 60 = .ok (.iload_n 3, 1) := by decide +kernel
theorem dX2_goThrough_61 : decode cX2_goThrough 61 = .ok (.ishl, 1) := by decide +kernel
theorem dX2_goThrough_62 : decode cX2_goThrough 62 = .ok (.goto 4, 3) := by decide +kernel
theorem dX2_goThrough_65 : decode cX2_goThrough 65 = .ok (.iconst 0, 1) := by decide +kernel
theorem dX2_goThrough_66 : decode cX2_goThrough 66 = .ok (.ior, 1) := by decide +kernel
theorem dX2_goThrough_67 : decode cX2_goThrough 67 = .ok (.istore_n 2, 1) := by decide +kernel
theorem dX2_goThrough_68 : decode cX2_goThrough 68 = .ok (.aload_n 0, 1) := by decide +kernel
theorem dX2_goThrough_69 : decode cX2_goThrough 69 = .ok (.getfield 27, 3) := by decide +kernel
theorem dX2_goThrough_72 : decode cX2_goThrough 72 = .ok (.iload_n 3, 1) := by decide +kernel
theorem dX2_goThrough_73 : decode cX2_goThrough 73 = .ok (.ldc 126, 2) := by decide +kernel
theorem dX2_goThrough_75 : decode cX2_goThrough 75 = .ok (.aload_n 0, 1) := by decide +kernel
theorem dX2_goThrough_76 : decode cX2_goThrough 76 = .ok (.getfield 27, 3) := by decide +kernel
theorem dX2_goThrough_79 : decode cX2_goThrough 79 = .ok (.iload_n 3, 1) := by decide +kernel
theorem dX2_goThrough_80 : decode cX2_goThrough 80 = .ok (.iaload, 1) := by decide +kernel
theorem dX2_goThrough_81 : decode cX2_goThrough 81 = .ok (.aload_n 0, 1) := by decide +kernel
theorem dX2_goThrough_82 : decode cX2_goThrough 82 = .ok (.getfield 9, 3) := by decide +kernel
theorem dX2_goThrough_85 : decode cX2_goThrough 85 = .ok (.iload_n 3, 1) := by decide +kernel
theorem dX2_goThrough_86 : decode cX2_goThrough 86 = .ok (.iaload, 1) := by decide +kernel
theorem dX2_goThrough_87 : decode cX2_goThrough 87 = .ok (.iadd, 1) := by decide +kernel
theorem dX2_goThrough_88 : decode cX2_goThrough 88 = .ok (.invokestatic 70, 3) := by decide +kernel
theorem dX2_goThrough_91 : decode cX2_goThrough 91 = .ok (.iastore, 1) := by decide +kernel
theorem dX2_goThrough_92 : decode cX2_goThrough 92 = .ok (.iinc 3 1, 3) := by decide +kernel
theorem dX2_goThrough_95 : decode cX2_goThrough 95 = .ok (.goto (-91), 3) := by decide +kernel
theorem dX2_goThrough_98 : decode cX2_goThrough 98 = .ok (.aload_n 0, 1) := by decide +kernel
theorem dX2_goThrough_99 : decode cX2_goThrough 99 = .ok (.aload_n 0, 1) := by decide +kernel
theorem dX2_goThrough_100 : decode cX2_goThrough 100 = .ok (.getfield 52, 3) := by decide +kernel
theorem dX2_goThrough_103 : decode cX2_goThrough 103 = .ok (.aload_n 0, 1) := by decide +kernel
theorem dX2_goThrough_104 : decode cX2_goThrough 104 = .ok (.iload_n 2, 1) := by decide +kernel
theorem dX2_goThrough_105 : decode cX2_goThrough 105 = .ok (.invokevirtual 127, 3) := by decide +kernel
theorem dX2_goThrough_108 : decode cX2_goThrough 108 = .ok (.invokestatic 130, 3) := by decide +kernel
theorem dX2_goThrough_111 : decode cX2_goThrough 111 = .ok (.putfield 52, 3) := by decide +kernel
theorem dX2_goThrough_114 : decode cX2_goThrough 114 = .ok (.aload_n 0, 1) := by decide +kernel
theorem dX2_goThrough_115 : decode cX2_goThrough 115 = .ok (.dup, 1) := by decide +kernel
theorem dX2_goThrough_116 : decode cX2_goThrough 116 = .ok (.getfield 49, 3) := by decide +kernel
theorem dX2_goThrough_119 : decode cX2_goThrough 119 = .ok (.iconst 1, 1) := by decide +kernel
theorem dX2_goThrough_120 : decode cX2_goThrough 120 = .ok (.iadd, 1) := by decide +kernel
theorem dX2_goThrough_121 : decode cX2_goThrough 121 = .ok (.putfield 49, 3) := by decide +kernel
theorem dX2_goThrough_124 : decode cX2_goThrough 124 = .ok (.return_, 1) := by decide +kernel
theorem dX2_heardBehind_0 : decode cX2_heardBehind 0 = .ok (.sipush (-9999), 3) := by decide +kernel
theorem dX2_heardBehind_3 : decode cX2_heardBehind 3 = .ok (.sipush 9999, 3) := by decide +kernel
theorem dX2_heardBehind_6 : decode cX2_heardBehind 6 = .ok (.iload_n 0, 1) := by decide +kernel
theorem dX2_heardBehind_7 : decode cX2_heardBehind 7 = .ok (.iload_n 1, 1) := by decide +kernel
theorem dX2_heardBehind_8 : decode cX2_heardBehind 8 = .ok (.iadd, 1) := by decide +kernel
theorem dX2_heardBehind_9 : decode cX2_heardBehind 9 = .ok (.invokestatic 70, 3) := by decide +kernel
theorem dX2_heardBehind_12 : decode cX2_heardBehind 12 = .ok (.invokestatic 133, 3) := by decide +kernel
theorem dX2_heardBehind_15 : decode cX2_heardBehind 15 = .ok (.ireturn, 1) := by decide +kernel
theorem dX3_init_0 : decode cX3_init 0 = .ok (.aload_n 0, 1) := by decide +kernel
theorem dX3_init_1 : decode cX3_init 1 = .ok (.aload_n 1, 1) := by decide +kernel
theorem dX3_init_2 : decode cX3_init 2 = .ok (.invokespecial 3, 3) := by decide +kernel
theorem dX3_init_5 : decode cX3_init 5 = .ok (.aload_n 0, 1) := by decide +kernel
theorem dX3_init_6 : decode cX3_init 6 = .ok (.aload_n 2, 1) := by decide +kernel
theorem dX3_init_7 : decode cX3_init 7 = .ok (.putfield 9, 3) := by decide +kernel
theorem dX3_init_10 : decode cX3_init 10 = .ok (.return_, 1) := by decide +kernel
theorem dX3_readClause_0 : decode cX3_readClause 0 = .ok (.aload_n 0, 1) := by decide +kernel
theorem dX3_readClause_1 : decode cX3_readClause 1 = .ok (.getfield 15, 3) := by decide +kernel
theorem dX3_readClause_4 : decode cX3_readClause 4 = .ok (.ldc 19, 2) := by decide +kernel
theorem dX3_readClause_6 : decode cX3_readClause 6 = .ok (.invokevirtual 21, 3) := by decide +kernel
theorem dX3_readClause_9 : decode cX3_readClause 9 = .ok (.istore_n 2, 1) := by decide +kernel
theorem dX3_readClause_10 : decode cX3_readClause 10 = .ok (.iload_n 2, 1) := by decide +kernel
theorem dX3_readClause_11 : decode cX3_readClause 11 = .ok (.iconst (-1), 1) := by decide +kernel
theorem dX3_readClause_12 : decode cX3_readClause 12 = .ok (.if_icmp .ne 12, 3) := by decide +kernel
theorem dX3_readClause_15 : decode cX3_readClause 15 = .ok (.aload_n 0, 1) := by decide +kernel
theorem dX3_readClause_16 : decode cX3_readClause 16 = .ok (.getfield 15, 3) := by decide +kernel
theorem dX3_readClause_19 : decode cX3_readClause 19 = .ok (.iconst 0, 1) := by decide +kernel
theorem dX3_readClause_20 : decode cX3_readClause 20 = .ok (.invokevirtual 27, 3) := by decide +kernel
theorem dX3_readClause_23 : decode cX3_readClause 23 = .ok (.return_, 1) := by decide +kernel
theorem dX3_readClause_24 : decode cX3_readClause 24 = .ok (.iload_n 1, 1) := by decide +kernel
theorem dX3_readClause_25 : decode cX3_readClause 25 = .ok (.ifCond .ne 7, 3) := by decide +kernel
theorem dX3_readClause_28 : decode cX3_readClause 28 = .ok (.iconst 1, 1) := by decide +kernel
theorem dX3_readClause_29 : decode cX3_readClause 29 = .ok (.goto 4, 3) := by decide +kernel
theorem dX3_readClause_32 : decode cX3_readClause 32 = .ok (.iconst 0, 1) := by decide +kernel
theorem dX3_readClause_33 : decode cX3_readClause 33 = .ok (.istore_n 3, 1) := by decide +kernel
theorem dX3_readClause_34 : decode cX3_readClause 34 = .ok (.iload_n 1, 1) := by decide +kernel
theorem dX3_readClause_35 : decode cX3_readClause 35 = .ok (.bipush 40, 2) := by decide +kernel
theorem dX3_readClause_37 : decode cX3_readClause 37 = .ok (.if_icmp .ge 20, 3) := by decide +kernel
theorem dX3_readClause_40 : decode cX3_readClause 40 = .ok (.iload_n 2, 1) := by decide +kernel
theorem dX3_readClause_41 : decode cX3_readClause 41 = .ok (.iconst 1, 1) := by decide +kernel
theorem dX3_readClause_42 : decode cX3_readClause 42 = .ok (.if_icmp .ne 19, 3) := by decide +kernel
theorem dX3_readClause_45 : decode cX3_readClause 45 = .ok (.aload_n 0, 1) := by decide +kernel
theorem dX3_readClause_46 : decode cX3_readClause 46 = .ok (.getfield 9, 3) := by decide +kernel
theorem dX3_readClause_49 : decode cX3_readClause 49 = .ok (.getfield 31, 3) := by decide +kernel
theorem dX3_readClause_52 : decode cX3_readClause 52 = .ok (.bipush 6, 2) := by decide +kernel
theorem dX3_readClause_54 : decode cX3_readClause 54 = .ok (.if_icmp .lt 7, 3) := by decide +kernel
theorem dX3_readClause_57 : decode cX3_readClause 57 = .ok (.iconst 1, 1) := by decide +kernel
theorem dX3_readClause_58 : decode cX3_readClause 58 = .ok (.goto 4, 3) := by decide +kernel
theorem dX3_readClause_61 : decode cX3_readClause 61 = .ok (.iconst 0, 1) := by decide +kernel
theorem dX3_readClause_62 : decode cX3_readClause 62 = .ok (.istore 4, 2) := by decide +kernel
theorem dX3_readClause_64 : decode cX3_readClause 64 = .ok (.iload 4, 2) := by decide +kernel
theorem dX3_readClause_66 : decode cX3_readClause 66 = .ok (.ifCond .ne 16, 3) := by decide +kernel
theorem dX3_readClause_69 : decode cX3_readClause 69 = .ok (.iload_n 3, 1) := by decide +kernel
theorem dX3_readClause_70 : decode cX3_readClause 70 = .ok (.iload_n 2, 1) := by decide +kernel
theorem dX3_readClause_71 : decode cX3_readClause 71 = .ok (.ifCond .ne 7, 3) := by decide +kernel
theorem dX3_readClause_74 : decode cX3_readClause 74 = .ok (.iconst 1, 1) := by decide +kernel
theorem dX3_readClause_75 : decode cX3_readClause 75 = .ok (.goto 4, 3) := by decide +kernel
theorem dX3_readClause_78 : decode cX3_readClause 78 = .ok (.iconst 0, 1) := by decide +kernel
theorem dX3_readClause_79 : decode cX3_readClause 79 = .ok (.if_icmp .eq 12, 3) := by decide +kernel
theorem dX3_readClause_82 : decode cX3_readClause 82 = .ok (.aload_n 0, 1) := by decide +kernel
theorem dX3_readClause_83 : decode cX3_readClause 83 = .ok (.getfield 15, 3) := by decide +kernel
theorem dX3_readClause_86 : decode cX3_readClause 86 = .ok (.iconst 4, 1) := by decide +kernel
theorem dX3_readClause_87 : decode cX3_readClause 87 = .ok (.invokevirtual 27, 3) := by decide +kernel
theorem dX3_readClause_90 : decode cX3_readClause 90 = .ok (.return_, 1) := by decide +kernel
theorem dX3_readClause_91 : decode cX3_readClause 91 = .ok (.aload_n 0, 1) := by decide +kernel
theorem dX3_readClause_92 : decode cX3_readClause 92 = .ok (.getfield 15, 3) := by decide +kernel
theorem dX3_readClause_95 : decode cX3_readClause 95 = .ok (.invokevirtual 37, 3) := by decide +kernel
theorem dX3_readClause_98 : decode cX3_readClause 98 = .ok (.iload_n 2, 1) := by decide +kernel
theorem dX3_readClause_99 : decode cX3_readClause 99 = .ok (.ifCond .ne 40, 3) := by decide +kernel
theorem dX3_readClause_102 : decode cX3_readClause 102 = .ok (.aload_n 0, 1) := by decide +kernel
theorem dX3_readClause_103 : decode cX3_readClause 103 = .ok (.getfield 9, 3) := by decide +kernel
theorem dX3_readClause_106 : decode cX3_readClause 106 = .ok (.aload_n 0, 1) := by decide +kernel
theorem dX3_readClause_107 : decode cX3_readClause 107 = .ok (.getfield 15, 3) := by decide +kernel
theorem dX3_readClause_110 : decode cX3_readClause 110 = .ok (.iconst 1, 1) := by decide +kernel
theorem dX3_readClause_111 : decode cX3_readClause 111 = .ok (.bipush 12, 2) := by decide +kernel
theorem dX3_readClause_113 : decode cX3_readClause 113 = .ok (.invokevirtual 41, 3) := by decide +kernel
theorem dX3_readClause_116 : decode cX3_readClause 116 = .ok (.putfield 45, 3) := by decide +kernel
theorem dX3_readClause_119 : decode cX3_readClause 119 = .ok (.aload_n 0, 1) := by decide +kernel
theorem dX3_readClause_120 : decode cX3_readClause 120 = .ok (.getfield 9, 3) := by decide +kernel
theorem dX3_readClause_123 : decode cX3_readClause 123 = .ok (.aload_n 0, 1) := by decide +kernel
theorem dX3_readClause_124 : decode cX3_readClause 124 = .ok (.getfield 15, 3) := by decide +kernel
theorem dX3_readClause_127 : decode cX3_readClause 127 = .ok (.iconst 1, 1) := by decide +kernel
theorem dX3_readClause_128 : decode cX3_readClause 128 = .ok (.bipush 9, 2) := by decide +kernel
theorem dX3_readClause_130 : decode cX3_readClause 130 = .ok (.invokevirtual 41, 3) := by decide +kernel
theorem dX3_readClause_133 : decode cX3_readClause 133 = .ok (.putfield 48, 3) := by decide +kernel
theorem dX3_readClause_136 : decode cX3_readClause 136 = .ok (.goto 31, 3) := by decide +kernel
theorem dX3_readClause_139 : decode cX3_readClause 139 = .ok (.iload_n 2, 1) := by decide +kernel
theorem dX3_readClause_140 : decode cX3_readClause 140 = .ok (.iconst 1, 1) := by decide +kernel
theorem dX3_readClause_141 : decode cX3_readClause 141 = .ok (.if_icmp .ne 10, 3) := by decide +kernel
theorem dX3_readClause_144 : decode cX3_readClause 144 = .ok (.aload_n 0, 1) := by decide +kernel
theorem dX3_readClause_145 : decode cX3_readClause 145 = .ok (.invokevirtual 51, 3) := by decide +kernel
theorem dX3_readClause_148 : decode cX3_readClause 148 = .ok (.goto 19, 3) := by decide +kernel
theorem dX3_readClause_151 : decode cX3_readClause 151 = .ok (.iload_n 2, 1) := by decide +kernel
theorem dX3_readClause_152 : decode cX3_readClause 152 = .ok (.iconst 2, 1) := by decide +kernel
theorem dX3_readClause_153 : decode cX3_readClause 153 = .ok (.if_icmp .ne 10, 3) := by decide +kernel
theorem dX3_readClause_156 : decode cX3_readClause 156 = .ok (.aload_n 0, 1) := by decide +kernel
theorem dX3_readClause_157 : decode cX3_readClause 157 = .ok (.invokevirtual 54, 3) := by decide +kernel
theorem dX3_readClause_160 : decode cX3_readClause 160 = .ok (.goto 7, 3) := by decide +kernel
theorem dX3_readClause_163 : decode cX3_readClause 163 = .ok (.aload_n 0, 1) := by decide +kernel
theorem dX3_readClause_164 : decode cX3_readClause 164 = .ok (.invokevirtual 57, 3) := by decide +kernel
theorem dX3_readClause_167 : decode cX3_readClause 167 = .ok (.return_, 1) := by decide +kernel
theorem dX3_readRoad_0 : decode cX3_readRoad 0 = .ok (.aload_n 0, 1) := by decide +kernel
theorem dX3_readRoad_1 : decode cX3_readRoad 1 = .ok (.getfield 15, 3) := by decide +kernel
theorem dX3_readRoad_4 : decode cX3_readRoad 4 = .ok (.iconst 0, 1) := by decide +kernel
theorem dX3_readRoad_5 : decode cX3_readRoad 5 = .ok (.bipush 30, 2) := by decide +kernel
theorem dX3_readRoad_7 : decode cX3_readRoad 7 = .ok (.invokevirtual 41, 3) := by decide +kernel
theorem dX3_readRoad_10 : decode cX3_readRoad 10 = .ok (.istore_n 1, 1) := by decide +kernel
theorem dX3_readRoad_11 : decode cX3_readRoad 11 = .ok (.aload_n 0, 1) := by decide +kernel
theorem dX3_readRoad_12 : decode cX3_readRoad 12 = .ok (.getfield 15, 3) := by decide +kernel
theorem dX3_readRoad_15 : decode cX3_readRoad 15 = .ok (.iconst 1, 1) := by decide +kernel
theorem dX3_readRoad_16 : decode cX3_readRoad 16 = .ok (.bipush 12, 2) := by decide +kernel
theorem dX3_readRoad_18 : decode cX3_readRoad 18 = .ok (.invokevirtual 41, 3) := by decide +kernel
theorem dX3_readRoad_21 : decode cX3_readRoad 21 = .ok (.istore_n 2, 1) := by decide +kernel
theorem dX3_readRoad_22 : decode cX3_readRoad 22 = .ok (.aload_n 0, 1) := by decide +kernel
theorem dX3_readRoad_23 : decode cX3_readRoad 23 = .ok (.getfield 15, 3) := by decide +kernel
theorem dX3_readRoad_26 : decode cX3_readRoad 26 = .ok (.iconst 0, 1) := by decide +kernel
theorem dX3_readRoad_27 : decode cX3_readRoad 27 = .ok (.bipush 11, 2) := by decide +kernel
theorem dX3_readRoad_29 : decode cX3_readRoad 29 = .ok (.invokevirtual 41, 3) := by decide +kernel
theorem dX3_readRoad_32 : decode cX3_readRoad 32 = .ok (.istore_n 3, 1) := by decide +kernel
theorem dX3_readRoad_33 : decode cX3_readRoad 33 = .ok (.aload_n 0, 1) := by decide +kernel
theorem dX3_readRoad_34 : decode cX3_readRoad 34 = .ok (.getfield 15, 3) := by decide +kernel
theorem dX3_readRoad_37 : decode cX3_readRoad 37 = .ok (.getfield 60, 3) := by decide +kernel
theorem dX3_readRoad_40 : decode cX3_readRoad 40 = .ok (.ifCond .ne 13, 3) := by decide +kernel
theorem dX3_readRoad_43 : decode cX3_readRoad 43 = .ok (.aload_n 0, 1) := by decide +kernel
theorem dX3_readRoad_44 : decode cX3_readRoad 44 = .ok (.getfield 9, 3) := by decide +kernel
theorem dX3_readRoad_47 : decode cX3_readRoad 47 = .ok (.iload_n 1, 1) := by decide +kernel
theorem dX3_readRoad_48 : decode cX3_readRoad 48 = .ok (.iload_n 2, 1) := by decide +kernel
theorem dX3_readRoad_49 : decode cX3_readRoad 49 = .ok (.iload_n 3, 1) := by decide +kernel
theorem dX3_readRoad_50 : decode cX3_readRoad 50 = .ok (.invokevirtual 63, 3) := by decide +kernel
theorem dX3_readRoad_53 : decode cX3_readRoad 53 = .ok (.return_, 1) := by decide +kernel
theorem dX3_readClash_0 : decode cX3_readClash 0 = .ok (.aload_n 0, 1) := by decide +kernel
theorem dX3_readClash_1 : decode cX3_readClash 1 = .ok (.getfield 15, 3) := by decide +kernel
theorem dX3_readClash_4 : decode cX3_readClash 4 = .ok (.iconst 0, 1) := by decide +kernel
theorem dX3_readClash_5 : decode cX3_readClash 5 = .ok (.aload_n 0, 1) := by decide +kernel
theorem dX3_readClash_6 : decode cX3_readClash 6 = .ok (.getfield 9, 3) := by decide +kernel
theorem dX3_readClash_9 : decode cX3_readClash 9 = .ok (.getfield 31, 3) := by decide +kernel
theorem dX3_readClash_12 : decode cX3_readClash 12 = .ok (.iconst 1, 1) := by decide +kernel
theorem dX3_readClash_13 : decode cX3_readClash 13 = .ok (.isub, 1) := by decide +kernel
theorem dX3_readClash_14 : decode cX3_readClash 14 = .ok (.invokevirtual 41, 3) := by decide +kernel
theorem dX3_readClash_17 : decode cX3_readClash 17 = .ok (.istore_n 1, 1) := by decide +kernel
theorem dX3_readClash_18 : decode cX3_readClash 18 = .ok (.aload_n 0, 1) := by decide +kernel
theorem dX3_readClash_19 : decode cX3_readClash 19 = .ok (.getfield 15, 3) := by decide +kernel
theorem dX3_readClash_22 : decode cX3_readClash 22 = .ok (.getfield 67, 3) := by decide +kernel
theorem dX3_readClash_25 : decode cX3_readClash 25 = .ok (.iconst 2, 1) := by decide +kernel
theorem dX3_readClash_26 : decode cX3_readClash 26 = .ok (.if_icmp .ne 22, 3) := by decide +kernel
theorem dX3_readClash_29 : decode cX3_readClash 29 = .ok (.aload_n 0, 1) := by decide +kernel
theorem dX3_readClash_30 : decode cX3_readClash 30 = .ok (.getfield 15, 3) := by decide +kernel
theorem dX3_readClash_33 : decode cX3_readClash 33 = .ok (.getfield 70, 3) := by decide +kernel
theorem dX3_readClash_36 : decode cX3_readClash 36 = .ok (.iload_n 1, 1) := by decide +kernel
theorem dX3_readClash_37 : decode cX3_readClash 37 = .ok (.if_icmp .ne 11, 3) := by decide +kernel
theorem dX3_readClash_40 : decode cX3_readClash 40 = .ok (.aload_n 0, 1) := by decide +kernel
theorem dX3_readClash_41 : decode cX3_readClash 41 = .ok (.getfield 15, 3) := by decide +kernel
theorem dX3_readClash_44 : decode cX3_readClash 44 = .ok (.iconst 1, 1) := by decide +kernel
theorem dX3_readClash_45 : decode cX3_readClash 45 = .ok (.invokevirtual 27, 3) := by decide +kernel
theorem dX3_readClash_48 : decode cX3_readClash 48 = .ok (.aload_n 0, 1) := by decide +kernel
theorem dX3_readClash_49 : decode cX3_readClash 49 = .ok (.getfield 15, 3) := by decide +kernel
theorem dX3_readClash_52 : decode cX3_readClash 52 = .ok (.iconst 0, 1) := by decide +kernel
theorem dX3_readClash_53 : decode cX3_readClash 53 = .ok (.aload_n 0, 1) := by decide +kernel
theorem dX3_readClash_54 : decode cX3_readClash 54 = .ok (.getfield 9, 3) := by decide +kernel
theorem dX3_readClash_57 : decode cX3_readClash 57 = .ok (.getfield 31, 3) := by decide +kernel
theorem dX3_readClash_60 : decode cX3_readClash 60 = .ok (.iconst 1, 1) := by decide +kernel
theorem dX3_readClash_61 : decode cX3_readClash 61 = .ok (.isub, 1) := by decide +kernel
theorem dX3_readClash_62 : decode cX3_readClash 62 = .ok (.invokevirtual 41, 3) := by decide +kernel
theorem dX3_readClash_65 : decode cX3_readClash 65 = .ok (.istore_n 2, 1) := by decide +kernel
theorem dX3_readClash_66 : decode cX3_readClash 66 = .ok (.aload_n 0, 1) := by decide +kernel
theorem dX3_readClash_67 : decode cX3_readClash 67 = .ok (.getfield 15, 3) := by decide +kernel
theorem dX3_readClash_70 : decode cX3_readClash 70 = .ok (.getfield 60, 3) := by decide +kernel
theorem dX3_readClash_73 : decode cX3_readClash 73 = .ok (.ifCond .ne 33, 3) := by decide +kernel
theorem dX3_readClash_76 : decode cX3_readClash 76 = .ok (.aload_n 0, 1) := by decide +kernel
theorem dX3_readClash_77 : decode cX3_readClash 77 = .ok (.getfield 9, 3) := by decide +kernel
theorem dX3_readClash_80 : decode cX3_readClash 80 = .ok (.getfield 73, 3) := by decide +kernel
theorem dX3_readClash_83 : decode cX3_readClash 83 = .ok (.iload_n 1, 1) := by decide +kernel
theorem dX3_readClash_84 : decode cX3_readClash 84 = .ok (.dup2, 1) := by decide +kernel
theorem dX3_readClash_85 : decode cX3_readClash 85 = .ok (.iaload, 1) := by decide +kernel
theorem dX3_readClash_86 : decode cX3_readClash 86 = .ok (.iconst 1, 1) := by decide +kernel
theorem dX3_readClash_87 : decode cX3_readClash 87 = .ok (.iload_n 2, 1) := by decide +kernel
theorem dX3_readClash_88 : decode cX3_readClash 88 = .ok (.ishl, 1) := by decide +kernel
theorem dX3_readClash_89 : decode cX3_readClash 89 = .ok (.ior, 1) := by decide +kernel
theorem dX3_readClash_90 : decode cX3_readClash 90 = .ok (.iastore, 1) := by decide +kernel
theorem dX3_readClash_91 : decode cX3_readClash 91 = .ok (.aload_n 0, 1) := by decide +kernel
theorem dX3_readClash_92 : decode cX3_readClash 92 = .ok (.getfield 9, 3) := by decide +kernel
theorem dX3_readClash_95 : decode cX3_readClash 95 = .ok (.getfield 73, 3) := by decide +kernel
theorem dX3_readClash_98 : decode cX3_readClash 98 = .ok (.iload_n 2, 1) := by decide +kernel
theorem dX3_readClash_99 : decode cX3_readClash 99 = .ok (.dup2, 1) := by decide +kernel
theorem dX3_readClash_100 : decode cX3_readClash 100 = .ok (.iaload, 1) := by decide +kernel
theorem dX3_readClash_101 : decode cX3_readClash 101 = .ok (.iconst 1, 1) := by decide +kernel
theorem dX3_readClash_102 : decode cX3_readClash 102 = .ok (.iload_n 1, 1) := by decide +kernel
theorem dX3_readClash_103 : decode cX3_readClash 103 = .ok (.ishl, 1) := by decide +kernel
theorem dX3_readClash_104 : decode cX3_readClash 104 = .ok (.ior, 1) := by decide +kernel
theorem dX3_readClash_105 : decode cX3_readClash 105 = .ok (.iastore, 1) := by decide +kernel
theorem dX3_readClash_106 : decode cX3_readClash 106 = .ok (.return_, 1) := by decide +kernel
theorem dX3_readScore_0 : decode cX3_readScore 0 = .ok (.aload_n 0, 1) := by decide +kernel
theorem dX3_readScore_1 : decode cX3_readScore 1 = .ok (.getfield 15, 3) := by decide +kernel
theorem dX3_readScore_4 : decode cX3_readScore 4 = .ok (.iconst 0, 1) := by decide +kernel
theorem dX3_readScore_5 : decode cX3_readScore 5 = .ok (.aload_n 0, 1) := by decide +kernel
theorem dX3_readScore_6 : decode cX3_readScore 6 = .ok (.getfield 9, 3) := by decide +kernel
theorem dX3_readScore_9 : decode cX3_readScore 9 = .ok (.getfield 45, 3) := by decide +kernel
theorem dX3_readScore_12 : decode cX3_readScore 12 = .ok (.iconst 1, 1) := by decide +kernel
theorem dX3_readScore_13 : decode cX3_readScore 13 = .ok (.isub, 1) := by decide +kernel
theorem dX3_readScore_14 : decode cX3_readScore 14 = .ok (.invokevirtual 41, 3) := by decide +kernel
theorem dX3_readScore_17 : decode cX3_readScore 17 = .ok (.istore_n 1, 1) := by decide +kernel
theorem dX3_readScore_18 : decode cX3_readScore 18 = .ok (.aload_n 0, 1) := by decide +kernel
theorem dX3_readScore_19 : decode cX3_readScore 19 = .ok (.getfield 15, 3) := by decide +kernel
theorem dX3_readScore_22 : decode cX3_readScore 22 = .ok (.iconst 0, 1) := by decide +kernel
theorem dX3_readScore_23 : decode cX3_readScore 23 = .ok (.aload_n 0, 1) := by decide +kernel
theorem dX3_readScore_24 : decode cX3_readScore 24 = .ok (.getfield 9, 3) := by decide +kernel
theorem dX3_readScore_27 : decode cX3_readScore 27 = .ok (.getfield 31, 3) := by decide +kernel
theorem dX3_readScore_30 : decode cX3_readScore 30 = .ok (.iconst 1, 1) := by decide +kernel
theorem dX3_readScore_31 : decode cX3_readScore 31 = .ok (.isub, 1) := by decide +kernel
theorem dX3_readScore_32 : decode cX3_readScore 32 = .ok (.invokevirtual 41, 3) := by decide +kernel
theorem dX3_readScore_35 : decode cX3_readScore 35 = .ok (.istore_n 2, 1) := by decide +kernel
theorem dX3_readScore_36 : decode cX3_readScore 36 = .ok (.aload_n 0, 1) := by decide +kernel
theorem dX3_readScore_37 : decode cX3_readScore 37 = .ok (.getfield 15, 3) := by decide +kernel
theorem dX3_readScore_40 : decode cX3_readScore 40 = .ok (.getfield 60, 3) := by decide +kernel
theorem dX3_readScore_43 : decode cX3_readScore 43 = .ok (.ifCond .ne 18, 3) := by decide +kernel
theorem dX3_readScore_46 : decode cX3_readScore 46 = .ok (.aload_n 0, 1) := by decide +kernel
theorem dX3_readScore_47 : decode cX3_readScore 47 = .ok (.getfield 9, 3) := by decide +kernel
theorem dX3_readScore_50 : decode cX3_readScore 50 = .ok (.getfield 77, 3) := by decide +kernel
theorem dX3_readScore_53 : decode cX3_readScore 53 = .ok (.iload_n 1, 1) := by decide +kernel
theorem dX3_readScore_54 : decode cX3_readScore 54 = .ok (.dup2, 1) := by decide +kernel
theorem dX3_readScore_55 : decode cX3_readScore 55 = .ok (.iaload, 1) := by decide +kernel
theorem dX3_readScore_56 : decode cX3_readScore 56 = .ok (.iconst 1, 1) := by decide +kernel
theorem dX3_readScore_57 : decode cX3_readScore 57 = .ok (.iload_n 2, 1) := by decide +kernel
theorem dX3_readScore_58 : decode cX3_readScore 58 = .ok (.ishl, 1) := by decide +kernel
theorem dX3_readScore_59 : decode cX3_readScore 59 = .ok (.ior, 1) := by decide +kernel
theorem dX3_readScore_60 : decode cX3_readScore 60 = .ok (.iastore, 1) := by decide +kernel
theorem dX3_readScore_61 : decode cX3_readScore 61 = .ok (.return_, 1) := by decide +kernel
theorem dX4_init_0 : decode cX4_init 0 = .ok (.aload_n 0, 1) := by decide +kernel
theorem dX4_init_1 : decode cX4_init 1 = .ok (.invokespecial 3, 3) := by decide +kernel
theorem dX4_init_4 : decode cX4_init 4 = .ok (.aload_n 0, 1) := by decide +kernel
theorem dX4_init_5 : decode cX4_init 5 = .ok (.bipush 10, 2) := by decide +kernel
theorem dX4_init_7 : decode cX4_init 7 = .ok (.newarray .int, 2) := by decide +kernel
theorem dX4_init_9 : decode cX4_init 9 = .ok (.putfield 9, 3) := by decide +kernel
theorem dX4_init_12 : decode cX4_init 12 = .ok (.aload_n 0, 1) := by decide +kernel
theorem dX4_init_13 : decode cX4_init 13 = .ok (.bipush 10, 2) := by decide +kernel
theorem dX4_init_15 : decode cX4_init 15 = .ok (.newarray .int, 2) := by decide +kernel
theorem dX4_init_17 : decode cX4_init 17 = .ok (.putfield 15, 3) := by decide +kernel
theorem dX4_init_20 : decode cX4_init 20 = .ok (.aload_n 0, 1) := by decide +kernel
theorem dX4_init_21 : decode cX4_init 21 = .ok (.bipush 10, 2) := by decide +kernel
theorem dX4_init_23 : decode cX4_init 23 = .ok (.newarray .int, 2) := by decide +kernel
theorem dX4_init_25 : decode cX4_init 25 = .ok (.putfield 18, 3) := by decide +kernel
theorem dX4_init_28 : decode cX4_init 28 = .ok (.aload_n 0, 1) := by decide +kernel
theorem dX4_init_29 : decode cX4_init 29 = .ok (.iconst 0, 1) := by decide +kernel
theorem dX4_init_30 : decode cX4_init 30 = .ok (.putfield 21, 3) := by decide +kernel
theorem dX4_init_33 : decode cX4_init 33 = .ok (.return_, 1) := by decide +kernel
theorem dX4_add_0 : decode cX4_add 0 = .ok (.aload_n 0, 1) := by decide +kernel
theorem dX4_add_1 : decode cX4_add 1 = .ok (.getfield 21, 3) := by decide +kernel
theorem dX4_add_4 : decode cX4_add 4 = .ok (.ifCond .lt 52, 3) := by decide +kernel
theorem dX4_add_7 : decode cX4_add 7 = .ok (.aload_n 0, 1) := by decide +kernel
theorem dX4_add_8 : decode cX4_add 8 = .ok (.getfield 21, 3) := by decide +kernel
theorem dX4_add_11 : decode cX4_add 11 = .ok (.bipush 10, 2) := by decide +kernel
theorem dX4_add_13 : decode cX4_add 13 = .ok (.if_icmp .ge 43, 3) := by decide +kernel
theorem dX4_add_16 : decode cX4_add 16 = .ok (.aload_n 0, 1) := by decide +kernel
theorem dX4_add_17 : decode cX4_add 17 = .ok (.getfield 9, 3) := by decide +kernel
theorem dX4_add_20 : decode cX4_add 20 = .ok (.aload_n 0, 1) := by decide +kernel
theorem dX4_add_21 : decode cX4_add 21 = .ok (.getfield 21, 3) := by decide +kernel
theorem dX4_add_24 : decode cX4_add 24 = .ok (.iload_n 1, 1) := by decide +kernel
theorem dX4_add_25 : decode cX4_add 25 = .ok (.iastore, 1) := by decide +kernel
theorem dX4_add_26 : decode cX4_add 26 = .ok (.aload_n 0, 1) := by decide +kernel
theorem dX4_add_27 : decode cX4_add 27 = .ok (.getfield 15, 3) := by decide +kernel
theorem dX4_add_30 : decode cX4_add 30 = .ok (.aload_n 0, 1) := by decide +kernel
theorem dX4_add_31 : decode cX4_add 31 = .ok (.getfield 21, 3) := by decide +kernel
theorem dX4_add_34 : decode cX4_add 34 = .ok (.iload_n 2, 1) := by decide +kernel
theorem dX4_add_35 : decode cX4_add 35 = .ok (.iastore, 1) := by decide +kernel
theorem dX4_add_36 : decode cX4_add 36 = .ok (.aload_n 0, 1) := by decide +kernel
theorem dX4_add_37 : decode cX4_add 37 = .ok (.getfield 18, 3) := by decide +kernel
theorem dX4_add_40 : decode cX4_add 40 = .ok (.aload_n 0, 1) := by decide +kernel
theorem dX4_add_41 : decode cX4_add 41 = .ok (.getfield 21, 3) := by decide +kernel
theorem dX4_add_44 : decode cX4_add 44 = .ok (.iload_n 3, 1) := by decide +kernel
theorem dX4_add_45 : decode cX4_add 45 = .ok (.iastore, 1) := by decide +kernel
theorem dX4_add_46 : decode cX4_add 46 = .ok (.aload_n 0, 1) := by decide +kernel
theorem dX4_add_47 : decode cX4_add 47 = .ok (.dup, 1) := by decide +kernel
theorem dX4_add_48 : decode cX4_add 48 = .ok (.getfield 21, 3) := by decide +kernel
theorem dX4_add_51 : decode cX4_add 51 = .ok (.iconst 1, 1) := by decide +kernel
theorem dX4_add_52 : decode cX4_add 52 = .ok (.iadd, 1) := by decide +kernel
theorem dX4_add_53 : decode cX4_add 53 = .ok (.putfield 21, 3) := by decide +kernel
theorem dX4_add_56 : decode cX4_add 56 = .ok (.return_, 1) := by decide +kernel
theorem dX4_agree_0 : decode cX4_agree 0 = .ok (.iconst 0, 1) := by decide +kernel
theorem dX4_agree_1 : decode cX4_agree 1 = .ok (.istore_n 3, 1) := by decide +kernel
theorem dX4_agree_2 : decode cX4_agree 2 = .ok (.iload_n 3, 1) := by decide +kernel
theorem dX4_agree_3 : decode cX4_agree 3 = .ok (.aload_n 0, 1) := by decide +kernel
theorem dX4_agree_4 : decode cX4_agree 4 = .ok (.getfield 21, 3) := by decide +kernel
theorem dX4_agree_7 : decode cX4_agree 7 = .ok (.if_icmp .ge 38, 3) := by decide +kernel
theorem dX4_agree_10 : decode cX4_agree 10 = .ok (.aload_n 0, 1) := by decide +kernel
theorem dX4_agree_11 : decode cX4_agree 11 = .ok (.getfield 9, 3) := by decide +kernel
theorem dX4_agree_14 : decode cX4_agree 14 = .ok (.iload_n 3, 1) := by decide +kernel
theorem dX4_agree_15 : decode cX4_agree 15 = .ok (.iaload, 1) := by decide +kernel
theorem dX4_agree_16 : decode cX4_agree 16 = .ok (.iload_n 1, 1) := by decide +kernel
theorem dX4_agree_17 : decode cX4_agree 17 = .ok (.if_icmp .ne 22, 3) := by decide +kernel
theorem dX4_agree_20 : decode cX4_agree 20 = .ok (.aload_n 2, 1) := by decide +kernel
theorem dX4_agree_21 : decode cX4_agree 21 = .ok (.aload_n 0, 1) := by decide +kernel
theorem dX4_agree_22 : decode cX4_agree 22 = .ok (.getfield 15, 3) := by decide +kernel
theorem dX4_agree_25 : decode cX4_agree 25 = .ok (.iload_n 3, 1) := by decide +kernel
theorem dX4_agree_26 : decode cX4_agree 26 = .ok (.iaload, 1) := by decide +kernel
theorem dX4_agree_27 : decode cX4_agree 27 = .ok (.iaload, 1) := by decide +kernel
theorem dX4_agree_28 : decode cX4_agree 28 = .ok (.aload_n 0, 1) := by decide +kernel
theorem dX4_agree_29 : decode cX4_agree 29 = .ok (.getfield 18, 3) := by decide +kernel
theorem dX4_agree_32 : decode cX4_agree 32 = .ok (.iload_n 3, 1) := by decide +kernel
theorem dX4_agree_33 : decode cX4_agree 33 = .ok (.iaload, 1) := by decide +kernel
theorem dX4_agree_34 : decode cX4_agree 34 = .ok (.if_icmp .eq 5, 3) := by decide +kernel
theorem dX4_agree_37 : decode cX4_agree 37 = .ok (.iconst 0, 1) := by decide +kernel
theorem dX4_agree_38 : decode cX4_agree 38 = .ok (.ireturn, 1) := by decide +kernel
theorem dX4_agree_39 : decode cX4_agree 39 = .ok (.iinc 3 1, 3) := by decide +kernel
theorem dX4_agree_42 : decode cX4_agree 42 = .ok (.goto (-40), 3) := by decide +kernel
theorem dX4_agree_45 : decode cX4_agree 45 = .ok (.iconst 1, 1) := by decide +kernel
theorem dX4_agree_46 : decode cX4_agree 46 = .ok (.ireturn, 1) := by decide +kernel
theorem dX4_copyFrom_0 : decode cX4_copyFrom 0 = .ok (.aload_n 1, 1) := by decide +kernel
theorem dX4_copyFrom_1 : decode cX4_copyFrom 1 = .ok (.getfield 9, 3) := by decide +kernel
theorem dX4_copyFrom_4 : decode cX4_copyFrom 4 = .ok (.iconst 0, 1) := by decide +kernel
theorem dX4_copyFrom_5 : decode cX4_copyFrom 5 = .ok (.aload_n 0, 1) := by decide +kernel
theorem dX4_copyFrom_6 : decode cX4_copyFrom 6 = .ok (.getfield 9, 3) := by decide +kernel
theorem dX4_copyFrom_9 : decode cX4_copyFrom 9 = .ok (.iconst 0, 1) := by decide +kernel
theorem dX4_copyFrom_10 : decode cX4_copyFrom 10 = .ok (.bipush 10, 2) := by decide +kernel
theorem dX4_copyFrom_12 : decode cX4_copyFrom 12 = .ok (.invokestatic 25, 3) := by decide +kernel
theorem dX4_copyFrom_15 : decode cX4_copyFrom 15 = .ok (.aload_n 1, 1) := by decide +kernel
theorem dX4_copyFrom_16 : decode cX4_copyFrom 16 = .ok (.getfield 15, 3) := by decide +kernel
theorem dX4_copyFrom_19 : decode cX4_copyFrom 19 = .ok (.iconst 0, 1) := by decide +kernel
theorem dX4_copyFrom_20 : decode cX4_copyFrom 20 = .ok (.aload_n 0, 1) := by decide +kernel
theorem dX4_copyFrom_21 : decode cX4_copyFrom 21 = .ok (.getfield 15, 3) := by decide +kernel
theorem dX4_copyFrom_24 : decode cX4_copyFrom 24 = .ok (.iconst 0, 1) := by decide +kernel
theorem dX4_copyFrom_25 : decode cX4_copyFrom 25 = .ok (.bipush 10, 2) := by decide +kernel
theorem dX4_copyFrom_27 : decode cX4_copyFrom 27 = .ok (.invokestatic 25, 3) := by decide +kernel
theorem dX4_copyFrom_30 : decode cX4_copyFrom 30 = .ok (.aload_n 1, 1) := by decide +kernel
theorem dX4_copyFrom_31 : decode cX4_copyFrom 31 = .ok (.getfield 18, 3) := by decide +kernel
theorem dX4_copyFrom_34 : decode cX4_copyFrom 34 = .ok (.iconst 0, 1) := by decide +kernel
theorem dX4_copyFrom_35 : decode cX4_copyFrom 35 = .ok (.aload_n 0, 1) := by decide +kernel
theorem dX4_copyFrom_36 : decode cX4_copyFrom 36 = .ok (.getfield 18, 3) := by decide +kernel
theorem dX4_copyFrom_39 : decode cX4_copyFrom 39 = .ok (.iconst 0, 1) := by decide +kernel
theorem dX4_copyFrom_40 : decode cX4_copyFrom 40 = .ok (.bipush 10, 2) := by decide +kernel
theorem dX4_copyFrom_42 : decode cX4_copyFrom 42 = .ok (.invokestatic 25, 3) := by decide +kernel
theorem dX4_copyFrom_45 : decode cX4_copyFrom 45 = .ok (.aload_n 0, 1) := by decide +kernel
theorem dX4_copyFrom_46 : decode cX4_copyFrom 46 = .ok (.aload_n 1, 1) := by decide +kernel
theorem dX4_copyFrom_47 : decode cX4_copyFrom 47 = .ok (.getfield 21, 3) := by decide +kernel
theorem dX4_copyFrom_50 : decode cX4_copyFrom 50 = .ok (.putfield 21, 3) := by decide +kernel
theorem dX4_copyFrom_53 : decode cX4_copyFrom 53 = .ok (.return_, 1) := by decide +kernel
