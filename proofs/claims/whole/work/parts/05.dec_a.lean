theorem dX0_init_0 : decode cX0_init 0 = .ok (.aload_n 0, 1) := by decide +kernel
theorem dX0_init_1 : decode cX0_init 1 = .ok (.invokespecial 3, 3) := by decide +kernel
theorem dX0_init_4 : decode cX0_init 4 = .ok (.aload_n 0, 1) := by decide +kernel
theorem dX0_init_5 : decode cX0_init 5 = .ok (.bipush 94, 2) := by decide +kernel
theorem dX0_init_7 : decode cX0_init 7 = .ok (.newarray .long, 2) := by decide +kernel
theorem dX0_init_9 : decode cX0_init 9 = .ok (.putfield 9, 3) := by decide +kernel
theorem dX0_init_12 : decode cX0_init 12 = .ok (.aload_n 0, 1) := by decide +kernel
theorem dX0_init_13 : decode cX0_init 13 = .ok (.sipush 800, 3) := by decide +kernel
theorem dX0_init_16 : decode cX0_init 16 = .ok (.newarray .int, 2) := by decide +kernel
theorem dX0_init_18 : decode cX0_init 18 = .ok (.putfield 15, 3) := by decide +kernel
theorem dX0_init_21 : decode cX0_init 21 = .ok (.aload_n 0, 1) := by decide +kernel
theorem dX0_init_22 : decode cX0_init 22 = .ok (.bipush 64, 2) := by decide +kernel
theorem dX0_init_24 : decode cX0_init 24 = .ok (.newarray .int, 2) := by decide +kernel
theorem dX0_init_26 : decode cX0_init 26 = .ok (.putfield 19, 3) := by decide +kernel
theorem dX0_init_29 : decode cX0_init 29 = .ok (.aload_n 0, 1) := by decide +kernel
theorem dX0_init_30 : decode cX0_init 30 = .ok (.bipush 48, 2) := by decide +kernel
theorem dX0_init_32 : decode cX0_init 32 = .ok (.newarray .int, 2) := by decide +kernel
theorem dX0_init_34 : decode cX0_init 34 = .ok (.putfield 22, 3) := by decide +kernel
theorem dX0_init_37 : decode cX0_init 37 = .ok (.aload_n 0, 1) := by decide +kernel
theorem dX0_init_38 : decode cX0_init 38 = .ok (.iload_n 1, 1) := by decide +kernel
theorem dX0_init_39 : decode cX0_init 39 = .ok (.putfield 25, 3) := by decide +kernel
theorem dX0_init_42 : decode cX0_init 42 = .ok (.return_, 1) := by decide +kernel
theorem dX0_fillWith_0 : decode cX0_fillWith 0 = .ok (.iconst 0, 1) := by decide +kernel
theorem dX0_fillWith_1 : decode cX0_fillWith 1 = .ok (.istore 4, 2) := by decide +kernel
theorem dX0_fillWith_3 : decode cX0_fillWith 3 = .ok (.iload 4, 2) := by decide +kernel
theorem dX0_fillWith_5 : decode cX0_fillWith 5 = .ok (.bipush 94, 2) := by decide +kernel
theorem dX0_fillWith_7 : decode cX0_fillWith 7 = .ok (.if_icmp .ge 17, 3) := by decide +kernel
theorem dX0_fillWith_10 : decode cX0_fillWith 10 = .ok (.aload_n 0, 1) := by decide +kernel
theorem dX0_fillWith_11 : decode cX0_fillWith 11 = .ok (.getfield 9, 3) := by decide +kernel
theorem dX0_fillWith_14 : decode cX0_fillWith 14 = .ok (.iload 4, 2) := by decide +kernel
theorem dX0_fillWith_16 : decode cX0_fillWith 16 = .ok (.lconst 0, 1) := by decide +kernel
theorem dX0_fillWith_17 : decode cX0_fillWith 17 = .ok (.lastore, 1) := by decide +kernel
theorem dX0_fillWith_18 : decode cX0_fillWith 18 = .ok (.iinc 4 1, 3) := by decide +kernel
theorem dX0_fillWith_21 : decode cX0_fillWith 21 = .ok (.goto (-18), 3) := by decide +kernel
theorem dX0_fillWith_24 : decode cX0_fillWith 24 = .ok (.iconst 0, 1) := by decide +kernel
theorem dX0_fillWith_25 : decode cX0_fillWith 25 = .ok (.istore 4, 2) := by decide +kernel
theorem dX0_fillWith_27 : decode cX0_fillWith 27 = .ok (.iload 4, 2) := by decide +kernel
theorem dX0_fillWith_29 : decode cX0_fillWith 29 = .ok (.iload_n 2, 1) := by decide +kernel
theorem dX0_fillWith_30 : decode cX0_fillWith 30 = .ok (.if_icmp .ge 33, 3) := by decide +kernel
theorem dX0_fillWith_33 : decode cX0_fillWith 33 = .ok (.aload_n 0, 1) := by decide +kernel
theorem dX0_fillWith_34 : decode cX0_fillWith 34 = .ok (.getfield 9, 3) := by decide +kernel
theorem dX0_fillWith_37 : decode cX0_fillWith 37 = .ok (.aload_n 1, 1) := by decide +kernel
theorem dX0_fillWith_38 : decode cX0_fillWith 38 = .ok (.iload 4, 2) := by decide +kernel
theorem dX0_fillWith_40 : decode cX0_fillWith 40 = .ok (.iaload, 1) := by decide +kernel
theorem dX0_fillWith_41 : decode cX0_fillWith 41 = .ok (.bipush 6, 2) := by decide +kernel
theorem dX0_fillWith_43 : decode cX0_fillWith 43 = .ok (.ishr, 1) := by decide +kernel
theorem dX0_fillWith_44 : decode cX0_fillWith 44 = .ok (.dup2, 1) := by decide +kernel
theorem dX0_fillWith_45 : decode cX0_fillWith 45 = .ok (.laload, 1) := by decide +kernel
theorem dX0_fillWith_46 : decode cX0_fillWith 46 = .ok (.lconst 1, 1) := by decide +kernel
theorem dX0_fillWith_47 : decode cX0_fillWith 47 = .ok (.aload_n 1, 1) := by decide +kernel
theorem dX0_fillWith_48 : decode cX0_fillWith 48 = .ok (.iload 4, 2) := by decide +kernel
theorem dX0_fillWith_50 : decode cX0_fillWith 50 = .ok (.iaload, 1) := by decide +kernel
theorem dX0_fillWith_51 : decode cX0_fillWith 51 = .ok (.bipush 63, 2) := by decide +kernel
theorem dX0_fillWith_53 : decode cX0_fillWith 53 = .ok (.iand, 1) := by decide +kernel
theorem dX0_fillWith_54 : decode cX0_fillWith 54 = .ok (.lshl, 1) := by decide +kernel
theorem dX0_fillWith_55 : decode cX0_fillWith 55 = .ok (.lor, 1) := by decide +kernel
theorem dX0_fillWith_56 : decode cX0_fillWith 56 = .ok (.lastore, 1) := by decide +kernel
theorem dX0_fillWith_57 : decode cX0_fillWith 57 = .ok (.iinc 4 1, 3) := by decide +kernel
theorem dX0_fillWith_60 : decode cX0_fillWith 60 = .ok (.goto (-33), 3) := by decide +kernel
theorem dX0_fillWith_63 : decode cX0_fillWith 63 = .ok (.aload_n 0, 1) := by decide +kernel
theorem dX0_fillWith_64 : decode cX0_fillWith 64 = .ok (.iconst 0, 1) := by decide +kernel
theorem dX0_fillWith_65 : decode cX0_fillWith 65 = .ok (.putfield 29, 3) := by decide +kernel
theorem dX0_fillWith_68 : decode cX0_fillWith 68 = .ok (.iconst 0, 1) := by decide +kernel
theorem dX0_fillWith_69 : decode cX0_fillWith 69 = .ok (.istore 4, 2) := by decide +kernel
theorem dX0_fillWith_71 : decode cX0_fillWith 71 = .ok (.iload 4, 2) := by decide +kernel
theorem dX0_fillWith_73 : decode cX0_fillWith 73 = .ok (.iload_n 3, 1) := by decide +kernel
theorem dX0_fillWith_74 : decode cX0_fillWith 74 = .ok (.if_icmp .ge 63, 3) := by decide +kernel
theorem dX0_fillWith_77 : decode cX0_fillWith 77 = .ok (.aload_n 0, 1) := by decide +kernel
theorem dX0_fillWith_78 : decode cX0_fillWith 78 = .ok (.getfield 9, 3) := by decide +kernel
theorem dX0_fillWith_81 : decode cX0_fillWith 81 = .ok (.iload 4, 2) := by decide +kernel
theorem dX0_fillWith_83 : decode cX0_fillWith 83 = .ok (.bipush 6, 2) := by decide +kernel
theorem dX0_fillWith_85 : decode cX0_fillWith 85 = .ok (.ishr, 1) := by decide +kernel
theorem dX0_fillWith_86 : decode cX0_fillWith 86 = .ok (.laload, 1) := by decide +kernel
theorem dX0_fillWith_87 : decode cX0_fillWith 87 = .ok (.iload 4, 2) := by decide +kernel
theorem dX0_fillWith_89 : decode cX0_fillWith 89 = .ok (.bipush 63, 2) := by decide +kernel
theorem dX0_fillWith_91 : decode cX0_fillWith 91 = .ok (.iand, 1) := by decide +kernel
theorem dX0_fillWith_92 : decode cX0_fillWith 92 = .ok (.lushr, 1) := by decide +kernel
theorem dX0_fillWith_93 : decode cX0_fillWith 93 = .ok (.lconst 1, 1) := by decide +kernel
theorem dX0_fillWith_94 : decode cX0_fillWith 94 = .ok (.land, 1) := by decide +kernel
theorem dX0_fillWith_95 : decode cX0_fillWith 95 = .ok (.lconst 0, 1) := by decide +kernel
theorem dX0_fillWith_96 : decode cX0_fillWith 96 = .ok (.lcmp, 1) := by decide +kernel
theorem dX0_fillWith_97 : decode cX0_fillWith 97 = .ok (.ifCond .eq 34, 3) := by decide +kernel
theorem dX0_fillWith_100 : decode cX0_fillWith 100 = .ok (.aload_n 0, 1) := by decide +kernel
theorem dX0_fillWith_101 : decode cX0_fillWith 101 = .ok (.getfield 29, 3) := by decide +kernel
theorem dX0_fillWith_104 : decode cX0_fillWith 104 = .ok (.sipush 800, 3) := by decide +kernel
theorem dX0_fillWith_107 : decode cX0_fillWith 107 = .ok (.if_icmp .ge 24, 3) := by decide +kernel
theorem dX0_fillWith_110 : decode cX0_fillWith 110 = .ok (.aload_n 0, 1) := by decide +kernel
theorem dX0_fillWith_111 : decode cX0_fillWith 111 = .ok (.getfield 15, 3) := by decide +kernel
theorem dX0_fillWith_114 : decode cX0_fillWith 114 = .ok (.aload_n 0, 1) := by decide +kernel
theorem dX0_fillWith_115 : decode cX0_fillWith 115 = .ok (.getfield 29, 3) := by decide +kernel
theorem dX0_fillWith_118 : decode cX0_fillWith 118 = .ok (.iload 4, 2) := by decide +kernel
theorem dX0_fillWith_120 : decode cX0_fillWith 120 = .ok (.iastore, 1) := by decide +kernel
theorem dX0_fillWith_121 : decode cX0_fillWith 121 = .ok (.aload_n 0, 1) := by decide +kernel
theorem dX0_fillWith_122 : decode cX0_fillWith 122 = .ok (.dup, 1) := by decide +kernel
theorem dX0_fillWith_123 : decode cX0_fillWith 123 = .ok (.getfield 29, 3) := by decide +kernel
theorem dX0_fillWith_126 : decode cX0_fillWith 126 = .ok (.iconst 1, 1) := by decide +kernel
theorem dX0_fillWith_127 : decode cX0_fillWith 127 = .ok (.iadd, 1) := by decide +kernel
theorem dX0_fillWith_128 : decode cX0_fillWith 128 = .ok (.putfield 29, 3) := by decide +kernel
theorem dX0_fillWith_131 : decode cX0_fillWith 131 = .ok (.iinc 4 1, 3) := by decide +kernel
theorem dX0_fillWith_134 : decode cX0_fillWith 134 = .ok (.goto (-63), 3) := by decide +kernel
theorem dX0_fillWith_137 : decode cX0_fillWith 137 = .ok (.return_, 1) := by decide +kernel
theorem dX0_countShared_0 : decode cX0_countShared 0 = .ok (.iconst 0, 1) := by decide +kernel
theorem dX0_countShared_1 : decode cX0_countShared 1 = .ok (.istore_n 2, 1) := by decide +kernel
theorem dX0_countShared_2 : decode cX0_countShared 2 = .ok (.iconst 0, 1) := by decide +kernel
theorem dX0_countShared_3 : decode cX0_countShared 3 = .ok (.istore_n 3, 1) := by decide +kernel
theorem dX0_countShared_4 : decode cX0_countShared 4 = .ok (.iload_n 3, 1) := by decide +kernel
theorem dX0_countShared_5 : decode cX0_countShared 5 = .ok (.bipush 94, 2) := by decide +kernel
theorem dX0_countShared_7 : decode cX0_countShared 7 = .ok (.if_icmp .ge 28, 3) := by decide +kernel
theorem dX0_countShared_10 : decode cX0_countShared 10 = .ok (.iload_n 2, 1) := by decide +kernel
theorem dX0_countShared_11 : decode cX0_countShared 11 = .ok (.aload_n 0, 1) := by decide +kernel
theorem dX0_countShared_12 : decode cX0_countShared 12 = .ok (.getfield 9, 3) := by decide +kernel
theorem dX0_countShared_15 : decode cX0_countShared 15 = .ok (.iload_n 3, 1) := by decide +kernel
theorem dX0_countShared_16 : decode cX0_countShared 16 = .ok (.laload, 1) := by decide +kernel
theorem dX0_countShared_17 : decode cX0_countShared 17 = .ok (.aload_n 1, 1) := by decide +kernel
theorem dX0_countShared_18 : decode cX0_countShared 18 = .ok (.getfield 9, 3) := by decide +kernel
theorem dX0_countShared_21 : decode cX0_countShared 21 = .ok (.iload_n 3, 1) := by decide +kernel
theorem dX0_countShared_22 : decode cX0_countShared 22 = .ok (.laload, 1) := by decide +kernel
theorem dX0_countShared_23 : decode cX0_countShared 23 = .ok (.land, 1) := by decide +kernel
theorem dX0_countShared_24 : decode cX0_countShared 24 = .ok (.invokestatic 32, 3) := by decide +kernel
theorem dX0_countShared_27 : decode cX0_countShared 27 = .ok (.iadd, 1) := by decide +kernel
theorem dX0_countShared_28 : decode cX0_countShared 28 = .ok (.istore_n 2, 1) := by decide +kernel
theorem dX0_countShared_29 : decode cX0_countShared 29 = .ok (.iinc 3 1, 3) := by decide +kernel
theorem dX0_countShared_32 : decode cX0_countShared 32 = .ok (.goto (-28), 3) := by decide +kernel
theorem dX0_countShared_35 : decode cX0_countShared 35 = .ok (.iload_n 2, 1) := by decide +kernel
theorem dX0_countShared_36 : decode cX0_countShared 36 = .ok (.ireturn, 1) := by decide +kernel
theorem dX1_init_0 : decode cX1_init 0 = .ok (.aload_n 0, 1) := by decide +kernel
theorem dX1_init_1 : decode cX1_init 1 = .ok (.invokespecial 3, 3) := by decide +kernel
theorem dX1_init_4 : decode cX1_init 4 = .ok (.aload_n 0, 1) := by decide +kernel
theorem dX1_init_5 : decode cX1_init 5 = .ok (.new 9, 3) := by decide +kernel
theorem dX1_init_8 : decode cX1_init 8 = .ok (.dup, 1) := by decide +kernel
theorem dX1_init_9 : decode cX1_init 9 = .ok (.invokespecial 11, 3) := by decide +kernel
theorem dX1_init_12 : decode cX1_init 12 = .ok (.putfield 12, 3) := by decide +kernel
theorem dX1_init_15 : decode cX1_init 15 = .ok (.aload_n 0, 1) := by decide +kernel
theorem dX1_init_16 : decode cX1_init 16 = .ok (.new 9, 3) := by decide +kernel
theorem dX1_init_19 : decode cX1_init 19 = .ok (.dup, 1) := by decide +kernel
theorem dX1_init_20 : decode cX1_init 20 = .ok (.invokespecial 11, 3) := by decide +kernel
theorem dX1_init_23 : decode cX1_init 23 = .ok (.putfield 18, 3) := by decide +kernel
theorem dX1_init_26 : decode cX1_init 26 = .ok (.aload_n 0, 1) := by decide +kernel
theorem dX1_init_27 : decode cX1_init 27 = .ok (.bipush 48, 2) := by decide +kernel
theorem dX1_init_29 : decode cX1_init 29 = .ok (.newarray .int, 2) := by decide +kernel
theorem dX1_init_31 : decode cX1_init 31 = .ok (.putfield 21, 3) := by decide +kernel
theorem dX1_init_34 : decode cX1_init 34 = .ok (.aload_n 0, 1) := by decide +kernel
theorem dX1_init_35 : decode cX1_init 35 = .ok (.bipush 48, 2) := by decide +kernel
theorem dX1_init_37 : decode cX1_init 37 = .ok (.newarray .int, 2) := by decide +kernel
theorem dX1_init_39 : decode cX1_init 39 = .ok (.putfield 25, 3) := by decide +kernel
theorem dX1_init_42 : decode cX1_init 42 = .ok (.aload_n 0, 1) := by decide +kernel
theorem dX1_init_43 : decode cX1_init 43 = .ok (.bipush 48, 2) := by decide +kernel
theorem dX1_init_45 : decode cX1_init 45 = .ok (.newarray .int, 2) := by decide +kernel
theorem dX1_init_47 : decode cX1_init 47 = .ok (.putfield 28, 3) := by decide +kernel
theorem dX1_init_50 : decode cX1_init 50 = .ok (.aload_n 0, 1) := by decide +kernel
theorem dX1_init_51 : decode cX1_init 51 = .ok (.bipush 48, 2) := by decide +kernel
theorem dX1_init_53 : decode cX1_init 53 = .ok (.newarray .int, 2) := by decide +kernel
theorem dX1_init_55 : decode cX1_init 55 = .ok (.putfield 31, 3) := by decide +kernel
theorem dX1_init_58 : decode cX1_init 58 = .ok (.return_, 1) := by decide +kernel
theorem dX1_learn_0 : decode cX1_learn 0 = .ok (.aload_n 0, 1) := by decide +kernel
theorem dX1_learn_1 : decode cX1_learn 1 = .ok (.getfield 34, 3) := by decide +kernel
theorem dX1_learn_4 : decode cX1_learn 4 = .ok (.ifCond .eq 4, 3) := by decide +kernel
theorem dX1_learn_7 : decode cX1_learn 7 = .ok (.return_, 1) := by decide +kernel
theorem dX1_learn_8 : decode cX1_learn 8 = .ok (.aload_n 0, 1) := by decide +kernel
theorem dX1_learn_9 : decode cX1_learn 9 = .ok (.aload_n 1, 1) := by decide +kernel
theorem dX1_learn_10 : decode cX1_learn 10 = .ok (.invokevirtual 38, 3) := by decide +kernel
theorem dX1_learn_13 : decode cX1_learn 13 = .ok (.iconst 0, 1) := by decide +kernel
theorem dX1_learn_14 : decode cX1_learn 14 = .ok (.istore_n 3, 1) := by decide +kernel
theorem dX1_learn_15 : decode cX1_learn 15 = .ok (.iload_n 3, 1) := by decide +kernel
theorem dX1_learn_16 : decode cX1_learn 16 = .ok (.aload_n 0, 1) := by decide +kernel
theorem dX1_learn_17 : decode cX1_learn 17 = .ok (.getfield 42, 3) := by decide +kernel
theorem dX1_learn_20 : decode cX1_learn 20 = .ok (.if_icmp .ge 54, 3) := by decide +kernel
theorem dX1_learn_23 : decode cX1_learn 23 = .ok (.iload_n 3, 1) := by decide +kernel
theorem dX1_learn_24 : decode cX1_learn 24 = .ok (.iconst 1, 1) := by decide +kernel
theorem dX1_learn_25 : decode cX1_learn 25 = .ok (.iadd, 1) := by decide +kernel
theorem dX1_learn_26 : decode cX1_learn 26 = .ok (.istore 4, 2) := by decide +kernel
theorem dX1_learn_28 : decode cX1_learn 28 = .ok (.iload 4, 2) := by decide +kernel
theorem dX1_learn_30 : decode cX1_learn 30 = .ok (.aload_n 0, 1) := by decide +kernel
theorem dX1_learn_31 : decode cX1_learn 31 = .ok (.getfield 42, 3) := by decide +kernel
theorem dX1_learn_34 : decode cX1_learn 34 = .ok (.if_icmp .ge 34, 3) := by decide +kernel
theorem dX1_learn_37 : decode cX1_learn 37 = .ok (.aload_n 0, 1) := by decide +kernel
theorem dX1_learn_38 : decode cX1_learn 38 = .ok (.iload_n 3, 1) := by decide +kernel
theorem dX1_learn_39 : decode cX1_learn 39 = .ok (.aload_n 1, 1) := by decide +kernel
theorem dX1_learn_40 : decode cX1_learn 40 = .ok (.iload_n 3, 1) := by decide +kernel
theorem dX1_learn_41 : decode cX1_learn 41 = .ok (.invokevirtual 46, 3) := by decide +kernel
theorem dX1_learn_44 : decode cX1_learn 44 = .ok (.checkcast 52, 3) := by decide +kernel
theorem dX1_learn_47 : decode cX1_learn 47 = .ok (.iload 4, 2) := by decide +kernel
theorem dX1_learn_49 : decode cX1_learn 49 = .ok (.aload_n 1, 1) := by decide +kernel
theorem dX1_learn_50 : decode cX1_learn 50 = .ok (.iload 4, 2) := by decide +kernel
theorem dX1_learn_52 : decode cX1_learn 52 = .ok (.invokevirtual 46, 3) := by decide +kernel
theorem dX1_learn_55 : decode cX1_learn 55 = .ok (.checkcast 52, 3) := by decide +kernel
theorem dX1_learn_58 : decode cX1_learn 58 = .ok (.aload_n 2, 1) := by decide +kernel
theorem dX1_learn_59 : decode cX1_learn 59 = .ok (.invokevirtual 54, 3) := by decide +kernel
theorem dX1_learn_62 : decode cX1_learn 62 = .ok (.iinc 4 1, 3) := by decide +kernel
theorem dX1_learn_65 : decode cX1_learn 65 = .ok (.goto (-37), 3) := by decide +kernel
theorem dX1_learn_68 : decode cX1_learn 68 = .ok (.iinc 3 1, 3) := by decide +kernel
theorem dX1_learn_71 : decode cX1_learn 71 = .ok (.goto (-56), 3) := by decide +kernel
theorem dX1_learn_74 : decode cX1_learn 74 = .ok (.iconst 0, 1) := by decide +kernel
theorem dX1_learn_75 : decode cX1_learn 75 = .ok (.istore_n 3, 1) := by decide +kernel
theorem dX1_learn_76 : decode cX1_learn 76 = .ok (.iload_n 3, 1) := by decide +kernel
theorem dX1_learn_77 : decode cX1_learn 77 = .ok (.aload_n 0, 1) := by decide +kernel
theorem dX1_learn_78 : decode cX1_learn 78 = .ok (.getfield 42, 3) := by decide +kernel
theorem dX1_learn_81 : decode cX1_learn 81 = .ok (.if_icmp .ge 24, 3) := by decide +kernel
theorem dX1_learn_84 : decode cX1_learn 84 = .ok (.aload_n 0, 1) := by decide +kernel
theorem dX1_learn_85 : decode cX1_learn 85 = .ok (.getfield 31, 3) := by decide +kernel
theorem dX1_learn_88 : decode cX1_learn 88 = .ok (.aload_n 0, 1) := by decide +kernel
theorem dX1_learn_89 : decode cX1_learn 89 = .ok (.getfield 28, 3) := by decide +kernel
theorem dX1_learn_92 : decode cX1_learn 92 = .ok (.iload_n 3, 1) := by decide +kernel
theorem dX1_learn_93 : decode cX1_learn 93 = .ok (.iaload, 1) := by decide +kernel
theorem dX1_learn_94 : decode cX1_learn 94 = .ok (.dup2, 1) := by decide +kernel
theorem dX1_learn_95 : decode cX1_learn 95 = .ok (.iaload, 1) := by decide +kernel
theorem dX1_learn_96 : decode cX1_learn 96 = .ok (.iconst 1, 1) := by decide +kernel
theorem dX1_learn_97 : decode cX1_learn 97 = .ok (.iadd, 1) := by decide +kernel
theorem dX1_learn_98 : decode cX1_learn 98 = .ok (.iastore, 1) := by decide +kernel
theorem dX1_learn_99 : decode cX1_learn 99 = .ok (.iinc 3 1, 3) := by decide +kernel
theorem dX1_learn_102 : decode cX1_learn 102 = .ok (.goto (-26), 3) := by decide +kernel
theorem dX1_learn_105 : decode cX1_learn 105 = .ok (.aload_n 0, 1) := by decide +kernel
theorem dX1_learn_106 : decode cX1_learn 106 = .ok (.iconst 1, 1) := by decide +kernel
theorem dX1_learn_107 : decode cX1_learn 107 = .ok (.putfield 34, 3) := by decide +kernel
theorem dX1_learn_110 : decode cX1_learn 110 = .ok (.return_, 1) := by decide +kernel
theorem dX1_begin_0 : decode cX1_begin 0 = .ok (.aload_n 0, 1) := by decide +kernel
theorem dX1_begin_1 : decode cX1_begin 1 = .ok (.aload_n 1, 1) := by decide +kernel
theorem dX1_begin_2 : decode cX1_begin 2 = .ok (.invokevirtual 58, 3) := by decide +kernel
theorem dX1_begin_5 : decode cX1_begin 5 = .ok (.bipush 48, 2) := by decide +kernel
theorem dX1_begin_7 : decode cX1_begin 7 = .ok (.invokestatic 62, 3) := by decide +kernel
theorem dX1_begin_10 : decode cX1_begin 10 = .ok (.putfield 42, 3) := by decide +kernel
theorem dX1_begin_13 : decode cX1_begin 13 = .ok (.aload_n 0, 1) := by decide +kernel
theorem dX1_begin_14 : decode cX1_begin 14 = .ok (.getfield 12, 3) := by decide +kernel
theorem dX1_begin_17 : decode cX1_begin 17 = .ok (.iconst 0, 1) := by decide +kernel
theorem dX1_begin_18 : decode cX1_begin 18 = .ok (.putfield 68, 3) := by decide +kernel
theorem dX1_begin_21 : decode cX1_begin 21 = .ok (.aload_n 0, 1) := by decide +kernel
theorem dX1_begin_22 : decode cX1_begin 22 = .ok (.getfield 18, 3) := by decide +kernel
theorem dX1_begin_25 : decode cX1_begin 25 = .ok (.iconst 0, 1) := by decide +kernel
theorem dX1_begin_26 : decode cX1_begin 26 = .ok (.putfield 68, 3) := by decide +kernel
theorem dX1_begin_29 : decode cX1_begin 29 = .ok (.iconst 0, 1) := by decide +kernel
theorem dX1_begin_30 : decode cX1_begin 30 = .ok (.istore_n 2, 1) := by decide +kernel
theorem dX1_begin_31 : decode cX1_begin 31 = .ok (.iload_n 2, 1) := by decide +kernel
theorem dX1_begin_32 : decode cX1_begin 32 = .ok (.aload_n 0, 1) := by decide +kernel
theorem dX1_begin_33 : decode cX1_begin 33 = .ok (.getfield 42, 3) := by decide +kernel
theorem dX1_begin_36 : decode cX1_begin 36 = .ok (.if_icmp .ge 47, 3) := by decide +kernel
theorem dX1_begin_39 : decode cX1_begin 39 = .ok (.aload_n 0, 1) := by decide +kernel
theorem dX1_begin_40 : decode cX1_begin 40 = .ok (.getfield 21, 3) := by decide +kernel
theorem dX1_begin_43 : decode cX1_begin 43 = .ok (.iload_n 2, 1) := by decide +kernel
theorem dX1_begin_44 : decode cX1_begin 44 = .ok (.aload_n 1, 1) := by decide +kernel
theorem dX1_begin_45 : decode cX1_begin 45 = .ok (.iload_n 2, 1) := by decide +kernel
theorem dX1_begin_46 : decode cX1_begin 46 = .ok (.invokevirtual 46, 3) := by decide +kernel
theorem dX1_begin_49 : decode cX1_begin 49 = .ok (.checkcast 52, 3) := by decide +kernel
theorem dX1_begin_52 : decode cX1_begin 52 = .ok (.getfield 70, 3) := by decide +kernel
theorem dX1_begin_55 : decode cX1_begin 55 = .ok (.iastore, 1) := by decide +kernel
theorem dX1_begin_56 : decode cX1_begin 56 = .ok (.aload_n 0, 1) := by decide +kernel
theorem dX1_begin_57 : decode cX1_begin 57 = .ok (.getfield 25, 3) := by decide +kernel
theorem dX1_begin_60 : decode cX1_begin 60 = .ok (.iload_n 2, 1) := by decide +kernel
theorem dX1_begin_61 : decode cX1_begin 61 = .ok (.iconst 0, 1) := by decide +kernel
theorem dX1_begin_62 : decode cX1_begin 62 = .ok (.iastore, 1) := by decide +kernel
theorem dX1_begin_63 : decode cX1_begin 63 = .ok (.aload_n 0, 1) := by decide +kernel
theorem dX1_begin_64 : decode cX1_begin 64 = .ok (.getfield 28, 3) := by decide +kernel
theorem dX1_begin_67 : decode cX1_begin 67 = .ok (.iload_n 2, 1) := by decide +kernel
theorem dX1_begin_68 : decode cX1_begin 68 = .ok (.iload_n 2, 1) := by decide +kernel
theorem dX1_begin_69 : decode cX1_begin 69 = .ok (.iastore, 1) := by decide +kernel
theorem dX1_begin_70 : decode cX1_begin 70 = .ok (.aload_n 0, 1) := by decide +kernel
theorem dX1_begin_71 : decode cX1_begin 71 = .ok (.getfield 31, 3) := by decide +kernel
theorem dX1_begin_74 : decode cX1_begin 74 = .ok (.iload_n 2, 1) := by decide +kernel
theorem dX1_begin_75 : decode cX1_begin 75 = .ok (.iconst 0, 1) := by decide +kernel
theorem dX1_begin_76 : decode cX1_begin 76 = .ok (.iastore, 1) := by decide +kernel
theorem dX1_begin_77 : decode cX1_begin 77 = .ok (.iinc 2 1, 3) := by decide +kernel
theorem dX1_begin_80 : decode cX1_begin 80 = .ok (.goto (-49), 3) := by decide +kernel
theorem dX1_begin_83 : decode cX1_begin 83 = .ok (.return_, 1) := by decide +kernel
theorem dX1_compare_0 : decode cX1_compare 0 = .ok (.aload 5, 2) := by decide +kernel
theorem dX1_compare_2 : decode cX1_compare 2 = .ok (.aload_n 2, 1) := by decide +kernel
theorem dX1_compare_3 : decode cX1_compare 3 = .ok (.aload 4, 2) := by decide +kernel
theorem dX1_compare_5 : decode cX1_compare 5 = .ok (.invokevirtual 72, 3) := by decide +kernel
theorem dX1_compare_8 : decode cX1_compare 8 = .ok (.iconst (-1), 1) := by decide +kernel
theorem dX1_compare_9 : decode cX1_compare 9 = .ok (.if_icmp .ne 4, 3) := by decide +kernel
theorem dX1_compare_12 : decode cX1_compare 12 = .ok (.return_, 1) := by decide +kernel
theorem dX1_compare_13 : decode cX1_compare 13 = .ok (.aload_n 0, 1) := by decide +kernel
theorem dX1_compare_14 : decode cX1_compare 14 = .ok (.getfield 12, 3) := by decide +kernel
theorem dX1_compare_17 : decode cX1_compare 17 = .ok (.aload_n 2, 1) := by decide +kernel
theorem dX1_compare_18 : decode cX1_compare 18 = .ok (.getfield 70, 3) := by decide +kernel
theorem dX1_compare_21 : decode cX1_compare 21 = .ok (.aload 4, 2) := by decide +kernel
theorem dX1_compare_23 : decode cX1_compare 23 = .ok (.getfield 70, 3) := by decide +kernel
theorem dX1_compare_26 : decode cX1_compare 26 = .ok (.invokevirtual 78, 3) := by decide +kernel
theorem dX1_compare_29 : decode cX1_compare 29 = .ok (.aload 5, 2) := by decide +kernel
theorem dX1_compare_31 : decode cX1_compare 31 = .ok (.aload_n 2, 1) := by decide +kernel
theorem dX1_compare_32 : decode cX1_compare 32 = .ok (.aload 4, 2) := by decide +kernel
theorem dX1_compare_34 : decode cX1_compare 34 = .ok (.invokevirtual 82, 3) := by decide +kernel
theorem dX1_compare_37 : decode cX1_compare 37 = .ok (.ifCond .eq 55, 3) := by decide +kernel
theorem dX1_compare_40 : decode cX1_compare 40 = .ok (.aload_n 0, 1) := by decide +kernel
theorem dX1_compare_41 : decode cX1_compare 41 = .ok (.getfield 18, 3) := by decide +kernel
theorem dX1_compare_44 : decode cX1_compare 44 = .ok (.aload_n 2, 1) := by decide +kernel
theorem dX1_compare_45 : decode cX1_compare 45 = .ok (.getfield 70, 3) := by decide +kernel
theorem dX1_compare_48 : decode cX1_compare 48 = .ok (.aload 4, 2) := by decide +kernel
theorem dX1_compare_50 : decode cX1_compare 50 = .ok (.getfield 70, 3) := by decide +kernel
theorem dX1_compare_53 : decode cX1_compare 53 = .ok (.invokevirtual 78, 3) := by decide +kernel
theorem dX1_compare_56 : decode cX1_compare 56 = .ok (.aload_n 0, 1) := by decide +kernel
theorem dX1_compare_57 : decode cX1_compare 57 = .ok (.getfield 25, 3) := by decide +kernel
theorem dX1_compare_60 : decode cX1_compare 60 = .ok (.iload_n 1, 1) := by decide +kernel
theorem dX1_compare_61 : decode cX1_compare 61 = .ok (.dup2, 1) := by decide +kernel
theorem dX1_compare_62 : decode cX1_compare 62 = .ok (.iaload, 1) := by decide +kernel
theorem dX1_compare_63 : decode cX1_compare 63 = .ok (.iconst 1, 1) := by decide +kernel
theorem dX1_compare_64 : decode cX1_compare 64 = .ok (.iadd, 1) := by decide +kernel
theorem dX1_compare_65 : decode cX1_compare 65 = .ok (.iastore, 1) := by decide +kernel
theorem dX1_compare_66 : decode cX1_compare 66 = .ok (.aload_n 0, 1) := by decide +kernel
theorem dX1_compare_67 : decode cX1_compare 67 = .ok (.getfield 25, 3) := by decide +kernel
theorem dX1_compare_70 : decode cX1_compare 70 = .ok (.iload_n 3, 1) := by decide +kernel
theorem dX1_compare_71 : decode cX1_compare 71 = .ok (.dup2, 1) := by decide +kernel
theorem dX1_compare_72 : decode cX1_compare 72 = .ok (.iaload, 1) := by decide +kernel
theorem dX1_compare_73 : decode cX1_compare 73 = .ok (.iconst 1, 1) := by decide +kernel
theorem dX1_compare_74 : decode cX1_compare 74 = .ok (.iadd, 1) := by decide +kernel
theorem dX1_compare_75 : decode cX1_compare 75 = .ok (.iastore, 1) := by decide +kernel
theorem dX1_compare_76 : decode cX1_compare 76 = .ok (.aload_n 0, 1) := by decide +kernel
theorem dX1_compare_77 : decode cX1_compare 77 = .ok (.aload_n 0, 1) := by decide +kernel
theorem dX1_compare_78 : decode cX1_compare 78 = .ok (.getfield 28, 3) := by decide +kernel
theorem dX1_compare_81 : decode cX1_compare 81 = .ok (.iload_n 1, 1) := by decide +kernel
theorem dX1_compare_82 : decode cX1_compare 82 = .ok (.iaload, 1) := by decide +kernel
theorem dX1_compare_83 : decode cX1_compare 83 = .ok (.aload_n 0, 1) := by decide +kernel
theorem dX1_compare_84 : decode cX1_compare 84 = .ok (.getfield 28, 3) := by decide +kernel
theorem dX1_compare_87 : decode cX1_compare 87 = .ok (.iload_n 3, 1) := by decide +kernel
theorem dX1_compare_88 : decode cX1_compare 88 = .ok (.iaload, 1) := by decide +kernel
theorem dX1_compare_89 : decode cX1_compare 89 = .ok (.invokevirtual 86, 3) := by decide +kernel
theorem dX1_compare_92 : decode cX1_compare 92 = .ok (.return_, 1) := by decide +kernel
theorem dX1_join_0 : decode cX1_join 0 = .ok (.iload_n 1, 1) := by decide +kernel
theorem dX1_join_1 : decode cX1_join 1 = .ok (.iload_n 2, 1) := by decide +kernel
theorem dX1_join_2 : decode cX1_join 2 = .ok (.invokestatic 62, 3) := by decide +kernel
theorem dX1_join_5 : decode cX1_join 5 = .ok (.istore_n 3, 1) := by decide +kernel
theorem dX1_join_6 : decode cX1_join 6 = .ok (.iload_n 1, 1) := by decide +kernel
theorem dX1_join_7 : decode cX1_join 7 = .ok (.iload_n 2, 1) := by decide +kernel
theorem dX1_join_8 : decode cX1_join 8 = .ok (.invokestatic 89, 3) := by decide +kernel
theorem dX1_join_11 : decode cX1_join 11 = .ok (.istore 4, 2) := by decide +kernel
theorem dX1_join_13 : decode cX1_join 13 = .ok (.iconst 0, 1) := by decide +kernel
theorem dX1_join_14 : decode cX1_join 14 = .ok (.istore 5, 2) := by decide +kernel
theorem dX1_join_16 : decode cX1_join 16 = .ok (.iload 5, 2) := by decide +kernel
theorem dX1_join_18 : decode cX1_join 18 = .ok (.aload_n 0, 1) := by decide +kernel
theorem dX1_join_19 : decode cX1_join 19 = .ok (.getfield 42, 3) := by decide +kernel
theorem dX1_join_22 : decode cX1_join 22 = .ok (.if_icmp .ge 29, 3) := by decide +kernel
theorem dX1_join_25 : decode cX1_join 25 = .ok (.aload_n 0, 1) := by decide +kernel
theorem dX1_join_26 : decode cX1_join 26 = .ok (.getfield 28, 3) := by decide +kernel
theorem dX1_join_29 : decode cX1_join 29 = .ok (.iload 5, 2) := by decide +kernel
theorem dX1_join_31 : decode cX1_join 31 = .ok (.iaload, 1) := by decide +kernel
theorem dX1_join_32 : decode cX1_join 32 = .ok (.iload 4, 2) := by decide +kernel
theorem dX1_join_34 : decode cX1_join 34 = .ok (.if_icmp .ne 11, 3) := by decide +kernel
theorem dX1_join_37 : decode cX1_join 37 = .ok (.aload_n 0, 1) := by decide +kernel
theorem dX1_join_38 : decode cX1_join 38 = .ok (.getfield 28, 3) := by decide +kernel
theorem dX1_join_41 : decode cX1_join 41 = .ok (.iload 5, 2) := by decide +kernel
theorem dX1_join_43 : decode cX1_join 43 = .ok (.iload_n 3, 1) := by decide +kernel
theorem dX1_join_44 : decode cX1_join 44 = .ok (.iastore, 1) := by decide +kernel
theorem dX1_join_45 : decode cX1_join 45 = .ok (.iinc 5 1, 3) := by decide +kernel
theorem dX1_join_48 : decode cX1_join 48 = .ok (.goto (-32), 3) := by decide +kernel
theorem dX1_join_51 : decode cX1_join 51 = .ok (.return_, 1) := by decide +kernel
theorem dX1_familyOf_0 : decode cX1_familyOf 0 = .ok (.iload_n 1, 1) := by decide +kernel
theorem dX1_familyOf_1 : decode cX1_familyOf 1 = .ok (.ifCond .lt 25, 3) := by decide +kernel
theorem dX1_familyOf_4 : decode cX1_familyOf 4 = .ok (.iload_n 1, 1) := by decide +kernel
theorem dX1_familyOf_5 : decode cX1_familyOf 5 = .ok (.aload_n 0, 1) := by decide +kernel
theorem dX1_familyOf_6 : decode cX1_familyOf 6 = .ok (.getfield 42, 3) := by decide +kernel
theorem dX1_familyOf_9 : decode cX1_familyOf 9 = .ok (.if_icmp .ge 17, 3) := by decide +kernel
theorem dX1_familyOf_12 : decode cX1_familyOf 12 = .ok (.aload_n 0, 1) := by decide +kernel
theorem dX1_familyOf_13 : decode cX1_familyOf 13 = .ok (.getfield 21, 3) := by decide +kernel
theorem dX1_familyOf_16 : decode cX1_familyOf 16 = .ok (.aload_n 0, 1) := by decide +kernel
theorem dX1_familyOf_17 : decode cX1_familyOf 17 = .ok (.getfield 28, 3) := by decide +kernel
theorem dX1_familyOf_20 : decode cX1_familyOf 20 = .ok (.iload_n 1, 1) := by decide +kernel
theorem dX1_familyOf_21 : decode cX1_familyOf 21 = .ok (.iaload, 1) := by decide +kernel
theorem dX1_familyOf_22 : decode cX1_familyOf 22 = .ok (.iaload, 1) := by decide +kernel
theorem dX1_familyOf_23 : decode cX1_familyOf 23 = .ok (.goto 4, 3) := by decide +kernel
theorem dX1_familyOf_26 : decode cX1_familyOf 26 = .ok (.iconst (-1), 1) := by decide +kernel
theorem dX1_familyOf_27 : decode cX1_familyOf 27 = .ok (.ireturn, 1) := by decide +kernel
theorem dX1_membersWith_0 : decode cX1_membersWith 0 = .ok (.iload_n 1, 1) := by decide +kernel
theorem dX1_membersWith_1 : decode cX1_membersWith 1 = .ok (.ifCond .lt 25, 3) := by decide +kernel
theorem dX1_membersWith_4 : decode cX1_membersWith 4 = .ok (.iload_n 1, 1) := by decide +kernel
theorem dX1_membersWith_5 : decode cX1_membersWith 5 = .ok (.aload_n 0, 1) := by decide +kernel
theorem dX1_membersWith_6 : decode cX1_membersWith 6 = .ok (.getfield 42, 3) := by decide +kernel
theorem dX1_membersWith_9 : decode cX1_membersWith 9 = .ok (.if_icmp .ge 17, 3) := by decide +kernel
theorem dX1_membersWith_12 : decode cX1_membersWith 12 = .ok (.aload_n 0, 1) := by decide +kernel
theorem dX1_membersWith_13 : decode cX1_membersWith 13 = .ok (.getfield 31, 3) := by decide +kernel
theorem dX1_membersWith_16 : decode cX1_membersWith 16 = .ok (.aload_n 0, 1) := by decide +kernel
theorem dX1_membersWith_17 : decode cX1_membersWith 17 = .ok (.getfield 28, 3) := by decide +kernel
theorem dX1_membersWith_20 : decode cX1_membersWith 20 = .ok (.iload_n 1, 1) := by decide +kernel
theorem dX1_membersWith_21 : decode cX1_membersWith 21 = .ok (.iaload, 1) := by decide +kernel
theorem dX1_membersWith_22 : decode cX1_membersWith 22 = .ok (.iaload, 1) := by decide +kernel
theorem dX1_membersWith_23 : decode cX1_membersWith 23 = .ok (.goto 4, 3) := by decide +kernel
theorem dX1_membersWith_26 : decode cX1_membersWith 26 = .ok (.iconst (-1), 1) := by decide +kernel
theorem dX1_membersWith_27 : decode cX1_membersWith 27 = .ok (.ireturn, 1) := by decide +kernel
theorem dX1_twinsOf_0 : decode cX1_twinsOf 0 = .ok (.iload_n 1, 1) := by decide +kernel
theorem dX1_twinsOf_1 : decode cX1_twinsOf 1 = .ok (.ifCond .lt 20, 3) := by decide +kernel
theorem dX1_twinsOf_4 : decode cX1_twinsOf 4 = .ok (.iload_n 1, 1) := by decide +kernel
theorem dX1_twinsOf_5 : decode cX1_twinsOf 5 = .ok (.aload_n 0, 1) := by decide +kernel
theorem dX1_twinsOf_6 : decode cX1_twinsOf 6 = .ok (.getfield 42, 3) := by decide +kernel
theorem dX1_twinsOf_9 : decode cX1_twinsOf 9 = .ok (.if_icmp .ge 12, 3) := by decide +kernel
theorem dX1_twinsOf_12 : decode cX1_twinsOf 12 = .ok (.aload_n 0, 1) := by decide +kernel
theorem dX1_twinsOf_13 : decode cX1_twinsOf 13 = .ok (.getfield 25, 3) := by decide +kernel
theorem dX1_twinsOf_16 : decode cX1_twinsOf 16 = .ok (.iload_n 1, 1) := by decide +kernel
theorem dX1_twinsOf_17 : decode cX1_twinsOf 17 = .ok (.iaload, 1) := by decide +kernel
theorem dX1_twinsOf_18 : decode cX1_twinsOf 18 = .ok (.goto 4, 3) := by decide +kernel
theorem dX1_twinsOf_21 : decode cX1_twinsOf 21 = .ok (.iconst (-1), 1) := by decide +kernel
theorem dX1_twinsOf_22 : decode cX1_twinsOf 22 = .ok (.ireturn, 1) := by decide +kernel
theorem dX1_families_0 : decode cX1_families 0 = .ok (.iconst 0, 1) := by decide +kernel
theorem dX1_families_1 : decode cX1_families 1 = .ok (.istore_n 2, 1) := by decide +kernel
theorem dX1_families_2 : decode cX1_families 2 = .ok (.iconst 0, 1) := by decide +kernel
theorem dX1_families_3 : decode cX1_families 3 = .ok (.istore_n 3, 1) := by decide +kernel
theorem dX1_families_4 : decode cX1_families 4 = .ok (.iload_n 3, 1) := by decide +kernel
theorem dX1_families_5 : decode cX1_families 5 = .ok (.aload_n 0, 1) := by decide +kernel
theorem dX1_families_6 : decode cX1_families 6 = .ok (.getfield 42, 3) := by decide +kernel
theorem dX1_families_9 : decode cX1_families 9 = .ok (.if_icmp .ge 22, 3) := by decide +kernel
theorem dX1_families_12 : decode cX1_families 12 = .ok (.aload_n 0, 1) := by decide +kernel
theorem dX1_families_13 : decode cX1_families 13 = .ok (.getfield 31, 3) := by decide +kernel
theorem dX1_families_16 : decode cX1_families 16 = .ok (.iload_n 3, 1) := by decide +kernel
theorem dX1_families_17 : decode cX1_families 17 = .ok (.iaload, 1) := by decide +kernel
theorem dX1_families_18 : decode cX1_families 18 = .ok (.iload_n 1, 1) := by decide +kernel
theorem dX1_families_19 : decode cX1_families 19 = .ok (.if_icmp .lt 6, 3) := by decide +kernel
theorem dX1_families_22 : decode cX1_families 22 = .ok (.iinc 2 1, 3) := by decide +kernel
theorem dX1_families_25 : decode cX1_families 25 = .ok (.iinc 3 1, 3) := by decide +kernel
theorem dX1_families_28 : decode cX1_families 28 = .ok (.goto (-24), 3) := by decide +kernel
theorem dX1_families_31 : decode cX1_families 31 = .ok (.iload_n 2, 1) := by decide +kernel
theorem dX1_families_32 : decode cX1_families 32 = .ok (.ireturn, 1) := by decide +kernel
theorem dX1_familyAt_0 : decode cX1_familyAt 0 = .ok (.iconst 0, 1) := by decide +kernel
theorem dX1_familyAt_1 : decode cX1_familyAt 1 = .ok (.istore_n 3, 1) := by decide +kernel
theorem dX1_familyAt_2 : decode cX1_familyAt 2 = .ok (.iconst 0, 1) := by decide +kernel
theorem dX1_familyAt_3 : decode cX1_familyAt 3 = .ok (.istore 4, 2) := by decide +kernel
theorem dX1_familyAt_5 : decode cX1_familyAt 5 = .ok (.iload 4, 2) := by decide +kernel
theorem dX1_familyAt_7 : decode cX1_familyAt 7 = .ok (.aload_n 0, 1) := by decide +kernel
theorem dX1_familyAt_8 : decode cX1_familyAt 8 = .ok (.getfield 42, 3) := by decide +kernel
theorem dX1_familyAt_11 : decode cX1_familyAt 11 = .ok (.if_icmp .ge 36, 3) := by decide +kernel
theorem dX1_familyAt_14 : decode cX1_familyAt 14 = .ok (.aload_n 0, 1) := by decide +kernel
theorem dX1_familyAt_15 : decode cX1_familyAt 15 = .ok (.getfield 31, 3) := by decide +kernel
theorem dX1_familyAt_18 : decode cX1_familyAt 18 = .ok (.iload 4, 2) := by decide +kernel
theorem dX1_familyAt_20 : decode cX1_familyAt 20 = .ok (.iaload, 1) := by decide +kernel
theorem dX1_familyAt_21 : decode cX1_familyAt 21 = .ok (.iload_n 2, 1) := by decide +kernel
theorem dX1_familyAt_22 : decode cX1_familyAt 22 = .ok (.if_icmp .lt 19, 3) := by decide +kernel
theorem dX1_familyAt_25 : decode cX1_familyAt 25 = .ok (.iload_n 3, 1) := by decide +kernel
theorem dX1_familyAt_26 : decode cX1_familyAt 26 = .ok (.iload_n 1, 1) := by decide +kernel
theorem dX1_familyAt_27 : decode cX1_familyAt 27 = .ok (.if_icmp .ne 11, 3) := by decide +kernel
theorem dX1_familyAt_30 : decode cX1_familyAt 30 = .ok (.aload_n 0, 1) := by decide +kernel
theorem dX1_familyAt_31 : decode cX1_familyAt 31 = .ok (.getfield 21, 3) := by decide +kernel
theorem dX1_familyAt_34 : decode cX1_familyAt 34 = .ok (.iload 4, 2) := by decide +kernel
theorem dX1_familyAt_36 : decode cX1_familyAt 36 = .ok (.iaload, 1) := by decide +kernel
theorem dX1_familyAt_37 : decode cX1_familyAt 37 = .ok (.ireturn, 1) := by decide +kernel
theorem dX1_familyAt_38 : decode cX1_familyAt 38 = .ok (.iinc 3 1, 3) := by decide +kernel
theorem dX1_familyAt_41 : decode cX1_familyAt 41 = .ok (.iinc 4 1, 3) := by decide +kernel
theorem dX1_familyAt_44 : decode cX1_familyAt 44 = .ok (.goto (-39), 3) := by decide +kernel
theorem dX1_familyAt_47 : decode cX1_familyAt 47 = .ok (.iconst (-1), 1) := by decide +kernel
theorem dX1_familyAt_48 : decode cX1_familyAt 48 = .ok (.ireturn, 1) := by decide +kernel
theorem dX2_init_0 : decode cX2_init 0 = .ok (.aload_n 0, 1) := by decide +kernel
theorem dX2_init_1 : decode cX2_init 1 = .ok (.invokespecial 3, 3) := by decide +kernel
theorem dX2_init_4 : decode cX2_init 4 = .ok (.aload_n 0, 1) := by decide +kernel
theorem dX2_init_5 : decode cX2_init 5 = .ok (.bipush 16, 2) := by decide +kernel
theorem dX2_init_7 : decode cX2_init 7 = .ok (.putfield 9, 3) := by decide +kernel
theorem dX2_init_10 : decode cX2_init 10 = .ok (.aload_n 0, 1) := by decide +kernel
theorem dX2_init_11 : decode cX2_init 11 = .ok (.iconst 4, 1) := by decide +kernel
theorem dX2_init_12 : decode cX2_init 12 = .ok (.putfield 15, 3) := by decide +kernel
theorem dX2_init_15 : decode cX2_init 15 = .ok (.aload_n 0, 1) := by decide +kernel
theorem dX2_init_16 : decode cX2_init 16 = .ok (.iconst 1, 1) := by decide +kernel
theorem dX2_init_17 : decode cX2_init 17 = .ok (.putfield 18, 3) := by decide +kernel
theorem dX2_init_20 : decode cX2_init 20 = .ok (.aload_n 0, 1) := by decide +kernel
theorem dX2_init_21 : decode cX2_init 21 = .ok (.iconst 2, 1) := by decide +kernel
theorem dX2_init_22 : decode cX2_init 22 = .ok (.putfield 21, 3) := by decide +kernel
theorem dX2_init_25 : decode cX2_init 25 = .ok (.return_, 1) := by decide +kernel
theorem dX2_takeBands_0 : decode cX2_takeBands 0 = .ok (.iload_n 1, 1) := by decide +kernel
theorem dX2_takeBands_1 : decode cX2_takeBands 1 = .ok (.iconst 1, 1) := by decide +kernel
theorem dX2_takeBands_2 : decode cX2_takeBands 2 = .ok (.if_icmp .lt 28, 3) := by decide +kernel
theorem dX2_takeBands_5 : decode cX2_takeBands 5 = .ok (.iload_n 2, 1) := by decide +kernel
theorem dX2_takeBands_6 : decode cX2_takeBands 6 = .ok (.iconst 1, 1) := by decide +kernel
theorem dX2_takeBands_7 : decode cX2_takeBands 7 = .ok (.if_icmp .lt 23, 3) := by decide +kernel
theorem dX2_takeBands_10 : decode cX2_takeBands 10 = .ok (.iload_n 1, 1) := by decide +kernel
theorem dX2_takeBands_11 : decode cX2_takeBands 11 = .ok (.bipush 64, 2) := by decide +kernel
theorem dX2_takeBands_13 : decode cX2_takeBands 13 = .ok (.if_icmp .gt 17, 3) := by decide +kernel
theorem dX2_takeBands_16 : decode cX2_takeBands 16 = .ok (.iload_n 2, 1) := by decide +kernel
theorem dX2_takeBands_17 : decode cX2_takeBands 17 = .ok (.bipush 64, 2) := by decide +kernel
theorem dX2_takeBands_19 : decode cX2_takeBands 19 = .ok (.if_icmp .gt 11, 3) := by decide +kernel
theorem dX2_takeBands_22 : decode cX2_takeBands 22 = .ok (.iload_n 1, 1) := by decide +kernel
theorem dX2_takeBands_23 : decode cX2_takeBands 23 = .ok (.iload_n 2, 1) := by decide +kernel
theorem dX2_takeBands_24 : decode cX2_takeBands 24 = .ok (.imul, 1) := by decide +kernel
theorem dX2_takeBands_25 : decode cX2_takeBands 25 = .ok (.bipush 64, 2) := by decide +kernel
theorem dX2_takeBands_27 : decode cX2_takeBands 27 = .ok (.if_icmp .le 5, 3) := by decide +kernel
theorem dX2_takeBands_30 : decode cX2_takeBands 30 = .ok (.iconst 0, 1) := by decide +kernel
theorem dX2_takeBands_31 : decode cX2_takeBands 31 = .ok (.ireturn, 1) := by decide +kernel
theorem dX2_takeBands_32 : decode cX2_takeBands 32 = .ok (.aload_n 0, 1) := by decide +kernel
theorem dX2_takeBands_33 : decode cX2_takeBands 33 = .ok (.iload_n 1, 1) := by decide +kernel
theorem dX2_takeBands_34 : decode cX2_takeBands 34 = .ok (.putfield 9, 3) := by decide +kernel
theorem dX2_takeBands_37 : decode cX2_takeBands 37 = .ok (.aload_n 0, 1) := by decide +kernel
theorem dX2_takeBands_38 : decode cX2_takeBands 38 = .ok (.iload_n 2, 1) := by decide +kernel
theorem dX2_takeBands_39 : decode cX2_takeBands 39 = .ok (.putfield 15, 3) := by decide +kernel
theorem dX2_takeBands_42 : decode cX2_takeBands 42 = .ok (.iconst 1, 1) := by decide +kernel
theorem dX2_takeBands_43 : decode cX2_takeBands 43 = .ok (.ireturn, 1) := by decide +kernel
theorem dX2_takeThreshold_0 : decode cX2_takeThreshold 0 = .ok (.iload_n 1, 1) := by decide +kernel
theorem dX2_takeThreshold_1 : decode cX2_takeThreshold 1 = .ok (.ifCond .lt 20, 3) := by decide +kernel
theorem dX2_takeThreshold_4 : decode cX2_takeThreshold 4 = .ok (.iload_n 1, 1) := by decide +kernel
theorem dX2_takeThreshold_5 : decode cX2_takeThreshold 5 = .ok (.iload_n 2, 1) := by decide +kernel
theorem dX2_takeThreshold_6 : decode cX2_takeThreshold 6 = .ok (.if_icmp .gt 15, 3) := by decide +kernel
theorem dX2_takeThreshold_9 : decode cX2_takeThreshold 9 = .ok (.iload_n 2, 1) := by decide +kernel
theorem dX2_takeThreshold_10 : decode cX2_takeThreshold 10 = .ok (.iconst 1, 1) := by decide +kernel
theorem dX2_takeThreshold_11 : decode cX2_takeThreshold 11 = .ok (.if_icmp .lt 10, 3) := by decide +kernel
theorem dX2_takeThreshold_14 : decode cX2_takeThreshold 14 = .ok (.iload_n 2, 1) := by decide +kernel
theorem dX2_takeThreshold_15 : decode cX2_takeThreshold 15 = .ok (.sipush 10000, 3) := by decide +kernel
theorem dX2_takeThreshold_18 : decode cX2_takeThreshold 18 = .ok (.if_icmp .le 5, 3) := by decide +kernel
theorem dX2_takeThreshold_21 : decode cX2_takeThreshold 21 = .ok (.iconst 0, 1) := by decide +kernel
theorem dX2_takeThreshold_22 : decode cX2_takeThreshold 22 = .ok (.ireturn, 1) := by decide +kernel
theorem dX2_takeThreshold_23 : decode cX2_takeThreshold 23 = .ok (.aload_n 0, 1) := by decide +kernel
theorem dX2_takeThreshold_24 : decode cX2_takeThreshold 24 = .ok (.iload_n 1, 1) := by decide +kernel
theorem dX2_takeThreshold_25 : decode cX2_takeThreshold 25 = .ok (.putfield 18, 3) := by decide +kernel
theorem dX2_takeThreshold_28 : decode cX2_takeThreshold 28 = .ok (.aload_n 0, 1) := by decide +kernel
theorem dX2_takeThreshold_29 : decode cX2_takeThreshold 29 = .ok (.iload_n 2, 1) := by decide +kernel
theorem dX2_takeThreshold_30 : decode cX2_takeThreshold 30 = .ok (.putfield 21, 3) := by decide +kernel
theorem dX2_takeThreshold_33 : decode cX2_takeThreshold 33 = .ok (.iconst 1, 1) := by decide +kernel
theorem dX2_takeThreshold_34 : decode cX2_takeThreshold 34 = .ok (.ireturn, 1) := by decide +kernel
theorem dX2_common_0 : decode cX2_common 0 = .ok (.aload_n 1, 1) := by decide +kernel
theorem dX2_common_1 : decode cX2_common 1 = .ok (.getfield 24, 3) := by decide +kernel
theorem dX2_common_4 : decode cX2_common 4 = .ok (.aload_n 2, 1) := by decide +kernel
theorem dX2_common_5 : decode cX2_common 5 = .ok (.getfield 30, 3) := by decide +kernel
theorem dX2_common_8 : decode cX2_common 8 = .ok (.iaload, 1) := by decide +kernel
theorem dX2_common_9 : decode cX2_common 9 = .ok (.ireturn, 1) := by decide +kernel
theorem dX2_all_0 : decode cX2_all 0 = .ok (.aload_n 1, 1) := by decide +kernel
theorem dX2_all_1 : decode cX2_all 1 = .ok (.getfield 33, 3) := by decide +kernel
theorem dX2_all_4 : decode cX2_all 4 = .ok (.aload_n 2, 1) := by decide +kernel
theorem dX2_all_5 : decode cX2_all 5 = .ok (.getfield 33, 3) := by decide +kernel
theorem dX2_all_8 : decode cX2_all 8 = .ok (.iadd, 1) := by decide +kernel
theorem dX2_all_9 : decode cX2_all 9 = .ok (.aload_n 0, 1) := by decide +kernel
theorem dX2_all_10 : decode cX2_all 10 = .ok (.aload_n 1, 1) := by decide +kernel
theorem dX2_all_11 : decode cX2_all 11 = .ok (.aload_n 2, 1) := by decide +kernel
theorem dX2_all_12 : decode cX2_all 12 = .ok (.invokevirtual 36, 3) := by decide +kernel
theorem dX2_all_15 : decode cX2_all 15 = .ok (.isub, 1) := by decide +kernel
theorem dX2_all_16 : decode cX2_all 16 = .ok (.ireturn, 1) := by decide +kernel
theorem dX2_sameImages_0 : decode cX2_sameImages 0 = .ok (.iconst 0, 1) := by decide +kernel
theorem dX2_sameImages_1 : decode cX2_sameImages 1 = .ok (.istore_n 3, 1) := by decide +kernel
theorem dX2_sameImages_2 : decode cX2_sameImages 2 = .ok (.iconst 0, 1) := by decide +kernel
theorem dX2_sameImages_3 : decode cX2_sameImages 3 = .ok (.istore 4, 2) := by decide +kernel
theorem dX2_sameImages_5 : decode cX2_sameImages 5 = .ok (.iload 4, 2) := by decide +kernel
theorem dX2_sameImages_7 : decode cX2_sameImages 7 = .ok (.aload_n 0, 1) := by decide +kernel
theorem dX2_sameImages_8 : decode cX2_sameImages 8 = .ok (.getfield 9, 3) := by decide +kernel
theorem dX2_sameImages_11 : decode cX2_sameImages 11 = .ok (.aload_n 0, 1) := by decide +kernel
theorem dX2_sameImages_12 : decode cX2_sameImages 12 = .ok (.getfield 15, 3) := by decide +kernel
theorem dX2_sameImages_15 : decode cX2_sameImages 15 = .ok (.imul, 1) := by decide +kernel
theorem dX2_sameImages_16 : decode cX2_sameImages 16 = .ok (.if_icmp .ge 29, 3) := by decide +kernel
theorem dX2_sameImages_19 : decode cX2_sameImages 19 = .ok (.aload_n 1, 1) := by decide +kernel
theorem dX2_sameImages_20 : decode cX2_sameImages 20 = .ok (.getfield 40, 3) := by decide +kernel
theorem dX2_sameImages_23 : decode cX2_sameImages 23 = .ok (.iload 4, 2) := by decide +kernel
theorem dX2_sameImages_25 : decode cX2_sameImages 25 = .ok (.iaload, 1) := by decide +kernel
theorem dX2_sameImages_26 : decode cX2_sameImages 26 = .ok (.aload_n 2, 1) := by decide +kernel
theorem dX2_sameImages_27 : decode cX2_sameImages 27 = .ok (.getfield 40, 3) := by decide +kernel
theorem dX2_sameImages_30 : decode cX2_sameImages 30 = .ok (.iload 4, 2) := by decide +kernel
theorem dX2_sameImages_32 : decode cX2_sameImages 32 = .ok (.iaload, 1) := by decide +kernel
theorem dX2_sameImages_33 : decode cX2_sameImages 33 = .ok (.if_icmp .ne 6, 3) := by decide +kernel
theorem dX2_sameImages_36 : decode cX2_sameImages 36 = .ok (.iinc 3 1, 3) := by decide +kernel
theorem dX2_sameImages_39 : decode cX2_sameImages 39 = .ok (.iinc 4 1, 3) := by decide +kernel
theorem dX2_sameImages_42 : decode cX2_sameImages 42 = .ok (.goto (-37), 3) := by decide +kernel
theorem dX2_sameImages_45 : decode cX2_sameImages 45 = .ok (.iload_n 3, 1) := by decide +kernel
theorem dX2_sameImages_46 : decode cX2_sameImages 46 = .ok (.ireturn, 1) := by decide +kernel
theorem dX2_firstBand_0 : decode cX2_firstBand 0 = .ok (.aload_n 1, 1) := by decide +kernel
theorem dX2_firstBand_1 : decode cX2_firstBand 1 = .ok (.getfield 33, 3) := by decide +kernel
theorem dX2_firstBand_4 : decode cX2_firstBand 4 = .ok (.ifCond .eq 10, 3) := by decide +kernel
theorem dX2_firstBand_7 : decode cX2_firstBand 7 = .ok (.aload_n 2, 1) := by decide +kernel
theorem dX2_firstBand_8 : decode cX2_firstBand 8 = .ok (.getfield 33, 3) := by decide +kernel
theorem dX2_firstBand_11 : decode cX2_firstBand 11 = .ok (.ifCond .ne 5, 3) := by decide +kernel
theorem dX2_firstBand_14 : decode cX2_firstBand 14 = .ok (.iconst (-1), 1) := by decide +kernel
theorem dX2_firstBand_15 : decode cX2_firstBand 15 = .ok (.ireturn, 1) := by decide +kernel
theorem dX2_firstBand_16 : decode cX2_firstBand 16 = .ok (.iconst 0, 1) := by decide +kernel
theorem dX2_firstBand_17 : decode cX2_firstBand 17 = .ok (.istore_n 3, 1) := by decide +kernel
theorem dX2_firstBand_18 : decode cX2_firstBand 18 = .ok (.iload_n 3, 1) := by decide +kernel
theorem dX2_firstBand_19 : decode cX2_firstBand 19 = .ok (.aload_n 0, 1) := by decide +kernel
theorem dX2_firstBand_20 : decode cX2_firstBand 20 = .ok (.getfield 9, 3) := by decide +kernel
theorem dX2_firstBand_23 : decode cX2_firstBand 23 = .ok (.if_icmp .ge 26, 3) := by decide +kernel
theorem dX2_firstBand_26 : decode cX2_firstBand 26 = .ok (.aload_n 0, 1) := by decide +kernel
theorem dX2_firstBand_27 : decode cX2_firstBand 27 = .ok (.aload_n 1, 1) := by decide +kernel
theorem dX2_firstBand_28 : decode cX2_firstBand 28 = .ok (.aload_n 2, 1) := by decide +kernel
theorem dX2_firstBand_29 : decode cX2_firstBand 29 = .ok (.iload_n 3, 1) := by decide +kernel
theorem dX2_firstBand_30 : decode cX2_firstBand 30 = .ok (.aload_n 0, 1) := by decide +kernel
theorem dX2_firstBand_31 : decode cX2_firstBand 31 = .ok (.getfield 15, 3) := by decide +kernel
theorem dX2_firstBand_34 : decode cX2_firstBand 34 = .ok (.imul, 1) := by decide +kernel
theorem dX2_firstBand_35 : decode cX2_firstBand 35 = .ok (.invokevirtual 43, 3) := by decide +kernel
theorem dX2_firstBand_38 : decode cX2_firstBand 38 = .ok (.ifCond .eq 5, 3) := by decide +kernel
theorem dX2_firstBand_41 : decode cX2_firstBand 41 = .ok (.iload_n 3, 1) := by decide +kernel
theorem dX2_firstBand_42 : decode cX2_firstBand 42 = .ok (.ireturn, 1) := by decide +kernel
theorem dX2_firstBand_43 : decode cX2_firstBand 43 = .ok (.iinc 3 1, 3) := by decide +kernel
theorem dX2_firstBand_46 : decode cX2_firstBand 46 = .ok (.goto (-28), 3) := by decide +kernel
theorem dX2_firstBand_49 : decode cX2_firstBand 49 = .ok (.iconst (-1), 1) := by decide +kernel
theorem dX2_firstBand_50 : decode cX2_firstBand 50 = .ok (.ireturn, 1) := by decide +kernel
theorem dX2_agree_0 : decode cX2_agree 0 = .ok (.iload_n 3, 1) := by decide +kernel
theorem dX2_agree_1 : decode cX2_agree 1 = .ok (.istore 4, 2) := by decide +kernel
theorem dX2_agree_3 : decode cX2_agree 3 = .ok (.iload 4, 2) := by decide +kernel
theorem dX2_agree_5 : decode cX2_agree 5 = .ok (.iload_n 3, 1) := by decide +kernel
theorem dX2_agree_6 : decode cX2_agree 6 = .ok (.aload_n 0, 1) := by decide +kernel
theorem dX2_agree_7 : decode cX2_agree 7 = .ok (.getfield 15, 3) := by decide +kernel
theorem dX2_agree_10 : decode cX2_agree 10 = .ok (.iadd, 1) := by decide +kernel
theorem dX2_agree_11 : decode cX2_agree 11 = .ok (.if_icmp .ge 28, 3) := by decide +kernel
theorem dX2_agree_14 : decode cX2_agree 14 = .ok (.aload_n 1, 1) := by decide +kernel
theorem dX2_agree_15 : decode cX2_agree 15 = .ok (.getfield 40, 3) := by decide +kernel
theorem dX2_agree_18 : decode cX2_agree 18 = .ok (.iload 4, 2) := by decide +kernel
theorem dX2_agree_20 : decode cX2_agree 20 = .ok (.iaload, 1) := by decide +kernel
theorem dX2_agree_21 : decode cX2_agree 21 = .ok (.aload_n 2, 1) := by decide +kernel
theorem dX2_agree_22 : decode cX2_agree 22 = .ok (.getfield 40, 3) := by decide +kernel
theorem dX2_agree_25 : decode cX2_agree 25 = .ok (.iload 4, 2) := by decide +kernel
theorem dX2_agree_27 : decode cX2_agree 27 = .ok (.iaload, 1) := by decide +kernel
theorem dX2_agree_28 : decode cX2_agree 28 = .ok (.if_icmp .eq 5, 3) := by decide +kernel
theorem dX2_agree_31 : decode cX2_agree 31 = .ok (.iconst 0, 1) := by decide +kernel
theorem dX2_agree_32 : decode cX2_agree 32 = .ok (.ireturn, 1) := by decide +kernel
theorem dX2_agree_33 : decode cX2_agree 33 = .ok (.iinc 4 1, 3) := by decide +kernel
theorem dX2_agree_36 : decode cX2_agree 36 = .ok (.goto (-33), 3) := by decide +kernel
theorem dX2_agree_39 : decode cX2_agree 39 = .ok (.iconst 1, 1) := by decide +kernel
theorem dX2_agree_40 : decode cX2_agree 40 = .ok (.ireturn, 1) := by decide +kernel
theorem dX2_areTwins_0 : decode cX2_areTwins 0 = .ok (.aload_n 0, 1) := by decide +kernel
theorem dX2_areTwins_1 : decode cX2_areTwins 1 = .ok (.aload_n 1, 1) := by decide +kernel
theorem dX2_areTwins_2 : decode cX2_areTwins 2 = .ok (.aload_n 2, 1) := by decide +kernel
theorem dX2_areTwins_3 : decode cX2_areTwins 3 = .ok (.invokevirtual 47, 3) := by decide +kernel
theorem dX2_areTwins_6 : decode cX2_areTwins 6 = .ok (.iconst (-1), 1) := by decide +kernel
theorem dX2_areTwins_7 : decode cX2_areTwins 7 = .ok (.if_icmp .eq 16, 3) := by decide +kernel
theorem dX2_areTwins_10 : decode cX2_areTwins 10 = .ok (.aload_n 0, 1) := by decide +kernel
theorem dX2_areTwins_11 : decode cX2_areTwins 11 = .ok (.aload_n 1, 1) := by decide +kernel
theorem dX2_areTwins_12 : decode cX2_areTwins 12 = .ok (.aload_n 2, 1) := by decide +kernel
theorem dX2_areTwins_13 : decode cX2_areTwins 13 = .ok (.invokevirtual 50, 3) := by decide +kernel
theorem dX2_areTwins_16 : decode cX2_areTwins 16 = .ok (.ifCond .eq 7, 3) := by decide +kernel
theorem dX2_areTwins_19 : decode cX2_areTwins 19 = .ok (.iconst 1, 1) := by decide +kernel
theorem dX2_areTwins_20 : decode cX2_areTwins 20 = .ok (.goto 4, 3) := by decide +kernel
theorem dX2_areTwins_23 : decode cX2_areTwins 23 = .ok (.iconst 0, 1) := by decide +kernel
theorem dX2_areTwins_24 : decode cX2_areTwins 24 = .ok (.ireturn, 1) := by decide +kernel
theorem dX2_areNear_0 : decode cX2_areNear 0 = .ok (.aload_n 0, 1) := by decide +kernel
theorem dX2_areNear_1 : decode cX2_areNear 1 = .ok (.aload_n 1, 1) := by decide +kernel
theorem dX2_areNear_2 : decode cX2_areNear 2 = .ok (.aload_n 2, 1) := by decide +kernel
theorem dX2_areNear_3 : decode cX2_areNear 3 = .ok (.invokevirtual 36, 3) := by decide +kernel
theorem dX2_areNear_6 : decode cX2_areNear 6 = .ok (.aload_n 0, 1) := by decide +kernel
theorem dX2_areNear_7 : decode cX2_areNear 7 = .ok (.getfield 21, 3) := by decide +kernel
theorem dX2_areNear_10 : decode cX2_areNear 10 = .ok (.imul, 1) := by decide +kernel
theorem dX2_areNear_11 : decode cX2_areNear 11 = .ok (.aload_n 0, 1) := by decide +kernel
theorem dX2_areNear_12 : decode cX2_areNear 12 = .ok (.aload_n 1, 1) := by decide +kernel
theorem dX2_areNear_13 : decode cX2_areNear 13 = .ok (.aload_n 2, 1) := by decide +kernel
theorem dX2_areNear_14 : decode cX2_areNear 14 = .ok (.invokevirtual 54, 3) := by decide +kernel
theorem dX2_areNear_17 : decode cX2_areNear 17 = .ok (.aload_n 0, 1) := by decide +kernel
theorem dX2_areNear_18 : decode cX2_areNear 18 = .ok (.getfield 18, 3) := by decide +kernel
theorem dX2_areNear_21 : decode cX2_areNear 21 = .ok (.imul, 1) := by decide +kernel
theorem dX2_areNear_22 : decode cX2_areNear 22 = .ok (.if_icmp .lt 7, 3) := by decide +kernel
theorem dX2_areNear_25 : decode cX2_areNear 25 = .ok (.iconst 1, 1) := by decide +kernel
theorem dX2_areNear_26 : decode cX2_areNear 26 = .ok (.goto 4, 3) := by decide +kernel
theorem dX2_areNear_29 : decode cX2_areNear 29 = .ok (.iconst 0, 1) := by decide +kernel
theorem dX2_areNear_30 : decode cX2_areNear 30 = .ok (.ireturn, 1) := by decide +kernel
theorem dX2_isNearer_0 : decode cX2_isNearer 0 = .ok (.aload_n 0, 1) := by decide +kernel
theorem dX2_isNearer_1 : decode cX2_isNearer 1 = .ok (.aload_n 1, 1) := by decide +kernel
theorem dX2_isNearer_2 : decode cX2_isNearer 2 = .ok (.aload_n 2, 1) := by decide +kernel
theorem dX2_isNearer_3 : decode cX2_isNearer 3 = .ok (.invokevirtual 36, 3) := by decide +kernel
theorem dX2_isNearer_6 : decode cX2_isNearer 6 = .ok (.iconst 1, 1) := by decide +kernel
theorem dX2_isNearer_7 : decode cX2_isNearer 7 = .ok (.aload_n 0, 1) := by decide +kernel
theorem dX2_isNearer_8 : decode cX2_isNearer 8 = .ok (.aload_n 1, 1) := by decide +kernel
theorem dX2_isNearer_9 : decode cX2_isNearer 9 = .ok (.aload_n 3, 1) := by decide +kernel
theorem dX2_isNearer_10 : decode cX2_isNearer 10 = .ok (.invokevirtual 54, 3) := by decide +kernel
theorem dX2_isNearer_13 : decode cX2_isNearer 13 = .ok (.invokestatic 57, 3) := by decide +kernel
theorem dX2_isNearer_16 : decode cX2_isNearer 16 = .ok (.imul, 1) := by decide +kernel
theorem dX2_isNearer_17 : decode cX2_isNearer 17 = .ok (.aload_n 0, 1) := by decide +kernel
theorem dX2_isNearer_18 : decode cX2_isNearer 18 = .ok (.aload_n 1, 1) := by decide +kernel
theorem dX2_isNearer_19 : decode cX2_isNearer 19 = .ok (.aload_n 3, 1) := by decide +kernel
theorem dX2_isNearer_20 : decode cX2_isNearer 20 = .ok (.invokevirtual 36, 3) := by decide +kernel
theorem dX2_isNearer_23 : decode cX2_isNearer 23 = .ok (.iconst 1, 1) := by decide +kernel
theorem dX2_isNearer_24 : decode cX2_isNearer 24 = .ok (.aload_n 0, 1) := by decide +kernel
theorem dX2_isNearer_25 : decode cX2_isNearer 25 = .ok (.aload_n 1, 1) := by decide +kernel
theorem dX2_isNearer_26 : decode cX2_isNearer 26 = .ok (.aload_n 2, 1) := by decide +kernel
theorem dX2_isNearer_27 : decode cX2_isNearer 27 = .ok (.invokevirtual 54, 3) := by decide +kernel
theorem dX2_isNearer_30 : decode cX2_isNearer 30 = .ok (.invokestatic 57, 3) := by decide +kernel
theorem dX2_isNearer_33 : decode cX2_isNearer 33 = .ok (.imul, 1) := by decide +kernel
theorem dX2_isNearer_34 : decode cX2_isNearer 34 = .ok (.if_icmp .le 7, 3) := by decide +kernel
theorem dX2_isNearer_37 : decode cX2_isNearer 37 = .ok (.iconst 1, 1) := by decide +kernel
theorem dX2_isNearer_38 : decode cX2_isNearer 38 = .ok (.goto 4, 3) := by decide +kernel
theorem dX2_isNearer_41 : decode cX2_isNearer 41 = .ok (.iconst 0, 1) := by decide +kernel
theorem dX2_isNearer_42 : decode cX2_isNearer 42 = .ok (.ireturn, 1) := by decide +kernel
theorem dX3_init_0 : decode cX3_init 0 = .ok (.aload_n 0, 1) := by decide +kernel
theorem dX3_init_1 : decode cX3_init 1 = .ok (.invokespecial 3, 3) := by decide +kernel
theorem dX3_init_4 : decode cX3_init 4 = .ok (.aload_n 0, 1) := by decide +kernel
theorem dX3_init_5 : decode cX3_init 5 = .ok (.sipush 1128, 3) := by decide +kernel
theorem dX3_init_8 : decode cX3_init 8 = .ok (.newarray .int, 2) := by decide +kernel
theorem dX3_init_10 : decode cX3_init 10 = .ok (.putfield 9, 3) := by decide +kernel
theorem dX3_init_13 : decode cX3_init 13 = .ok (.aload_n 0, 1) := by decide +kernel
theorem dX3_init_14 : decode cX3_init 14 = .ok (.sipush 1128, 3) := by decide +kernel
theorem dX3_init_17 : decode cX3_init 17 = .ok (.newarray .int, 2) := by decide +kernel
theorem dX3_init_19 : decode cX3_init 19 = .ok (.putfield 15, 3) := by decide +kernel
theorem dX3_init_22 : decode cX3_init 22 = .ok (.return_, 1) := by decide +kernel
theorem dX3_put_0 : decode cX3_put 0 = .ok (.aload_n 0, 1) := by decide +kernel
theorem dX3_put_1 : decode cX3_put 1 = .ok (.getfield 18, 3) := by decide +kernel
theorem dX3_put_4 : decode cX3_put 4 = .ok (.sipush 1128, 3) := by decide +kernel
theorem dX3_put_7 : decode cX3_put 7 = .ok (.if_icmp .ge 33, 3) := by decide +kernel
theorem dX3_put_10 : decode cX3_put 10 = .ok (.aload_n 0, 1) := by decide +kernel
theorem dX3_put_11 : decode cX3_put 11 = .ok (.getfield 9, 3) := by decide +kernel
theorem dX3_put_14 : decode cX3_put 14 = .ok (.aload_n 0, 1) := by decide +kernel
theorem dX3_put_15 : decode cX3_put 15 = .ok (.getfield 18, 3) := by decide +kernel
theorem dX3_put_18 : decode cX3_put 18 = .ok (.iload_n 1, 1) := by decide +kernel
theorem dX3_put_19 : decode cX3_put 19 = .ok (.iastore, 1) := by decide +kernel
theorem dX3_put_20 : decode cX3_put 20 = .ok (.aload_n 0, 1) := by decide +kernel
theorem dX3_put_21 : decode cX3_put 21 = .ok (.getfield 15, 3) := by decide +kernel
theorem dX3_put_24 : decode cX3_put 24 = .ok (.aload_n 0, 1) := by decide +kernel
theorem dX3_put_25 : decode cX3_put 25 = .ok (.getfield 18, 3) := by decide +kernel
theorem dX3_put_28 : decode cX3_put 28 = .ok (.iload_n 2, 1) := by decide +kernel
theorem dX3_put_29 : decode cX3_put 29 = .ok (.iastore, 1) := by decide +kernel
theorem dX3_put_30 : decode cX3_put 30 = .ok (.aload_n 0, 1) := by decide +kernel
theorem dX3_put_31 : decode cX3_put 31 = .ok (.dup, 1) := by decide +kernel
theorem dX3_put_32 : decode cX3_put 32 = .ok (.getfield 18, 3) := by decide +kernel
theorem dX3_put_35 : decode cX3_put 35 = .ok (.iconst 1, 1) := by decide +kernel
theorem dX3_put_36 : decode cX3_put 36 = .ok (.iadd, 1) := by decide +kernel
theorem dX3_put_37 : decode cX3_put 37 = .ok (.putfield 18, 3) := by decide +kernel
theorem dX3_put_40 : decode cX3_put 40 = .ok (.return_, 1) := by decide +kernel
theorem dX3_side_0 : decode cX3_side 0 = .ok (.iload_n 1, 1) := by decide +kernel
theorem dX3_side_1 : decode cX3_side 1 = .ok (.ifCond .lt 20, 3) := by decide +kernel
theorem dX3_side_4 : decode cX3_side 4 = .ok (.iload_n 1, 1) := by decide +kernel
theorem dX3_side_5 : decode cX3_side 5 = .ok (.aload_n 0, 1) := by decide +kernel
theorem dX3_side_6 : decode cX3_side 6 = .ok (.getfield 18, 3) := by decide +kernel
theorem dX3_side_9 : decode cX3_side 9 = .ok (.if_icmp .ge 12, 3) := by decide +kernel
theorem dX3_side_12 : decode cX3_side 12 = .ok (.iload_n 2, 1) := by decide +kernel
theorem dX3_side_13 : decode cX3_side 13 = .ok (.ifCond .lt 8, 3) := by decide +kernel
theorem dX3_side_16 : decode cX3_side 16 = .ok (.iload_n 2, 1) := by decide +kernel
theorem dX3_side_17 : decode cX3_side 17 = .ok (.iconst 1, 1) := by decide +kernel
theorem dX3_side_18 : decode cX3_side 18 = .ok (.if_icmp .le 5, 3) := by decide +kernel
theorem dX3_side_21 : decode cX3_side 21 = .ok (.iconst (-1), 1) := by decide +kernel
theorem dX3_side_22 : decode cX3_side 22 = .ok (.ireturn, 1) := by decide +kernel
theorem dX3_side_23 : decode cX3_side 23 = .ok (.iload_n 2, 1) := by decide +kernel
theorem dX3_side_24 : decode cX3_side 24 = .ok (.ifCond .ne 12, 3) := by decide +kernel
theorem dX3_side_27 : decode cX3_side 27 = .ok (.aload_n 0, 1) := by decide +kernel
theorem dX3_side_28 : decode cX3_side 28 = .ok (.getfield 9, 3) := by decide +kernel
theorem dX3_side_31 : decode cX3_side 31 = .ok (.iload_n 1, 1) := by decide +kernel
theorem dX3_side_32 : decode cX3_side 32 = .ok (.iaload, 1) := by decide +kernel
theorem dX3_side_33 : decode cX3_side 33 = .ok (.goto 9, 3) := by decide +kernel
theorem dX3_side_36 : decode cX3_side 36 = .ok (.aload_n 0, 1) := by decide +kernel
theorem dX3_side_37 : decode cX3_side 37 = .ok (.getfield 15, 3) := by decide +kernel
theorem dX3_side_40 : decode cX3_side 40 = .ok (.iload_n 1, 1) := by decide +kernel
theorem dX3_side_41 : decode cX3_side 41 = .ok (.iaload, 1) := by decide +kernel
theorem dX3_side_42 : decode cX3_side 42 = .ok (.ireturn, 1) := by decide +kernel
theorem dX4_init_0 : decode cX4_init 0 = .ok (.aload_n 0, 1) := by decide +kernel
theorem dX4_init_1 : decode cX4_init 1 = .ok (.invokespecial 3, 3) := by decide +kernel
theorem dX4_init_4 : decode cX4_init 4 = .ok (.aload_n 0, 1) := by decide +kernel
theorem dX4_init_5 : decode cX4_init 5 = .ok (.bipush 64, 2) := by decide +kernel
theorem dX4_init_7 : decode cX4_init 7 = .ok (.newarray .int, 2) := by decide +kernel
theorem dX4_init_9 : decode cX4_init 9 = .ok (.putfield 9, 3) := by decide +kernel
theorem dX4_init_12 : decode cX4_init 12 = .ok (.aload_n 0, 1) := by decide +kernel
theorem dX4_init_13 : decode cX4_init 13 = .ok (.bipush 64, 2) := by decide +kernel
theorem dX4_init_15 : decode cX4_init 15 = .ok (.newarray .int, 2) := by decide +kernel
theorem dX4_init_17 : decode cX4_init 17 = .ok (.putfield 15, 3) := by decide +kernel
theorem dX4_init_20 : decode cX4_init 20 = .ok (.aload_n 0, 1) := by decide +kernel
theorem dX4_init_21 : decode cX4_init 21 = .ok (.bipush 64, 2) := by decide +kernel
theorem dX4_init_23 : decode cX4_init 23 = .ok (.newarray .int, 2) := by decide +kernel
theorem dX4_init_25 : decode cX4_init 25 = .ok (.putfield 18, 3) := by decide +kernel
theorem dX4_init_28 : decode cX4_init 28 = .ok (.aload_n 0, 1) := by decide +kernel
theorem dX4_init_29 : decode cX4_init 29 = .ok (.sipush 600, 3) := by decide +kernel
theorem dX4_init_32 : decode cX4_init 32 = .ok (.newarray .int, 2) := by decide +kernel
theorem dX4_init_34 : decode cX4_init 34 = .ok (.putfield 21, 3) := by decide +kernel
theorem dX4_init_37 : decode cX4_init 37 = .ok (.aload_n 0, 1) := by decide +kernel
theorem dX4_init_38 : decode cX4_init 38 = .ok (.sipush 600, 3) := by decide +kernel
theorem dX4_init_41 : decode cX4_init 41 = .ok (.newarray .int, 2) := by decide +kernel
theorem dX4_init_43 : decode cX4_init 43 = .ok (.putfield 24, 3) := by decide +kernel
theorem dX4_init_46 : decode cX4_init 46 = .ok (.iconst 0, 1) := by decide +kernel
theorem dX4_init_47 : decode cX4_init 47 = .ok (.istore_n 1, 1) := by decide +kernel
theorem dX4_init_48 : decode cX4_init 48 = .ok (.iload_n 1, 1) := by decide +kernel
theorem dX4_init_49 : decode cX4_init 49 = .ok (.bipush 64, 2) := by decide +kernel
theorem dX4_init_51 : decode cX4_init 51 = .ok (.if_icmp .ge 16, 3) := by decide +kernel
theorem dX4_init_54 : decode cX4_init 54 = .ok (.aload_n 0, 1) := by decide +kernel
theorem dX4_init_55 : decode cX4_init 55 = .ok (.getfield 9, 3) := by decide +kernel
theorem dX4_init_58 : decode cX4_init 58 = .ok (.iload_n 1, 1) := by decide +kernel
theorem dX4_init_59 : decode cX4_init 59 = .ok (.iconst 1, 1) := by decide +kernel
theorem dX4_init_60 : decode cX4_init 60 = .ok (.iastore, 1) := by decide +kernel
theorem dX4_init_61 : decode cX4_init 61 = .ok (.iinc 1 1, 3) := by decide +kernel
theorem dX4_init_64 : decode cX4_init 64 = .ok (.goto (-16), 3) := by decide +kernel
theorem dX4_init_67 : decode cX4_init 67 = .ok (.return_, 1) := by decide +kernel
theorem dX4_isOne_0 : decode cX4_isOne 0 = .ok (.iload_n 0, 1) := by decide +kernel
theorem dX4_isOne_1 : decode cX4_isOne 1 = .ok (.ifCond .lt 13, 3) := by decide +kernel
theorem dX4_isOne_4 : decode cX4_isOne 4 = .ok (.iload_n 0, 1) := by decide +kernel
theorem dX4_isOne_5 : decode cX4_isOne 5 = .ok (.bipush 64, 2) := by decide +kernel
theorem dX4_isOne_7 : decode cX4_isOne 7 = .ok (.if_icmp .ge 7, 3) := by decide +kernel
theorem dX4_isOne_10 : decode cX4_isOne 10 = .ok (.iconst 1, 1) := by decide +kernel
theorem dX4_isOne_11 : decode cX4_isOne 11 = .ok (.goto 4, 3) := by decide +kernel
theorem dX4_isOne_14 : decode cX4_isOne 14 = .ok (.iconst 0, 1) := by decide +kernel
theorem dX4_isOne_15 : decode cX4_isOne 15 = .ok (.ireturn, 1) := by decide +kernel
theorem dX4_isNumber_0 : decode cX4_isNumber 0 = .ok (.iload_n 0, 1) := by decide +kernel
theorem dX4_isNumber_1 : decode cX4_isNumber 1 = .ok (.ifCond .lt 13, 3) := by decide +kernel
theorem dX4_isNumber_4 : decode cX4_isNumber 4 = .ok (.iload_n 0, 1) := by decide +kernel
theorem dX4_isNumber_5 : decode cX4_isNumber 5 = .ok (.ldc 27, 2) := by decide +kernel
theorem dX4_isNumber_7 : decode cX4_isNumber 7 = .ok (.if_icmp .ge 7, 3) := by decide +kernel
theorem dX4_isNumber_10 : decode cX4_isNumber 10 = .ok (.iconst 1, 1) := by decide +kernel
theorem dX4_isNumber_11 : decode cX4_isNumber 11 = .ok (.goto 4, 3) := by decide +kernel
theorem dX4_isNumber_14 : decode cX4_isNumber 14 = .ok (.iconst 0, 1) := by decide +kernel
theorem dX4_isNumber_15 : decode cX4_isNumber 15 = .ok (.ireturn, 1) := by decide +kernel
theorem dX4_become_0 : decode cX4_become 0 = .ok (.iload_n 1, 1) := by decide +kernel
theorem dX4_become_1 : decode cX4_become 1 = .ok (.invokestatic 28, 3) := by decide +kernel
theorem dX4_become_4 : decode cX4_become 4 = .ok (.ifCond .eq 21, 3) := by decide +kernel
theorem dX4_become_7 : decode cX4_become 7 = .ok (.iload_n 2, 1) := by decide +kernel
theorem dX4_become_8 : decode cX4_become 8 = .ok (.invokestatic 32, 3) := by decide +kernel
theorem dX4_become_11 : decode cX4_become 11 = .ok (.ifCond .eq 14, 3) := by decide +kernel
theorem dX4_become_14 : decode cX4_become 14 = .ok (.iload_n 2, 1) := by decide +kernel
theorem dX4_become_15 : decode cX4_become 15 = .ok (.ifCond .eq 10, 3) := by decide +kernel
theorem dX4_become_18 : decode cX4_become 18 = .ok (.iload_n 3, 1) := by decide +kernel
theorem dX4_become_19 : decode cX4_become 19 = .ok (.invokestatic 32, 3) := by decide +kernel
theorem dX4_become_22 : decode cX4_become 22 = .ok (.ifCond .ne 5, 3) := by decide +kernel
theorem dX4_become_25 : decode cX4_become 25 = .ok (.iconst 0, 1) := by decide +kernel
theorem dX4_become_26 : decode cX4_become 26 = .ok (.ireturn, 1) := by decide +kernel
theorem dX4_become_27 : decode cX4_become 27 = .ok (.aload_n 0, 1) := by decide +kernel
theorem dX4_become_28 : decode cX4_become 28 = .ok (.getfield 9, 3) := by decide +kernel
theorem dX4_become_31 : decode cX4_become 31 = .ok (.iload_n 1, 1) := by decide +kernel
theorem dX4_become_32 : decode cX4_become 32 = .ok (.iload_n 2, 1) := by decide +kernel
theorem dX4_become_33 : decode cX4_become 33 = .ok (.iastore, 1) := by decide +kernel
theorem dX4_become_34 : decode cX4_become 34 = .ok (.aload_n 0, 1) := by decide +kernel
theorem dX4_become_35 : decode cX4_become 35 = .ok (.getfield 15, 3) := by decide +kernel
theorem dX4_become_38 : decode cX4_become 38 = .ok (.iload_n 1, 1) := by decide +kernel
theorem dX4_become_39 : decode cX4_become 39 = .ok (.iload_n 3, 1) := by decide +kernel
theorem dX4_become_40 : decode cX4_become 40 = .ok (.iastore, 1) := by decide +kernel
theorem dX4_become_41 : decode cX4_become 41 = .ok (.aload_n 0, 1) := by decide +kernel
theorem dX4_become_42 : decode cX4_become 42 = .ok (.dup, 1) := by decide +kernel
theorem dX4_become_43 : decode cX4_become 43 = .ok (.getfield 35, 3) := by decide +kernel
theorem dX4_become_46 : decode cX4_become 46 = .ok (.aload_n 0, 1) := by decide +kernel
theorem dX4_become_47 : decode cX4_become 47 = .ok (.getfield 18, 3) := by decide +kernel
theorem dX4_become_50 : decode cX4_become 50 = .ok (.iload_n 1, 1) := by decide +kernel
theorem dX4_become_51 : decode cX4_become 51 = .ok (.iaload, 1) := by decide +kernel
theorem dX4_become_52 : decode cX4_become 52 = .ok (.isub, 1) := by decide +kernel
theorem dX4_become_53 : decode cX4_become 53 = .ok (.putfield 35, 3) := by decide +kernel
theorem dX4_become_56 : decode cX4_become 56 = .ok (.aload_n 0, 1) := by decide +kernel
theorem dX4_become_57 : decode cX4_become 57 = .ok (.getfield 18, 3) := by decide +kernel
theorem dX4_become_60 : decode cX4_become 60 = .ok (.iload_n 1, 1) := by decide +kernel
theorem dX4_become_61 : decode cX4_become 61 = .ok (.iconst 0, 1) := by decide +kernel
theorem dX4_become_62 : decode cX4_become 62 = .ok (.iastore, 1) := by decide +kernel
theorem dX4_become_63 : decode cX4_become 63 = .ok (.aload_n 0, 1) := by decide +kernel
theorem dX4_become_64 : decode cX4_become 64 = .ok (.iload_n 1, 1) := by decide +kernel
theorem dX4_become_65 : decode cX4_become 65 = .ok (.invokevirtual 39, 3) := by decide +kernel
theorem dX4_become_68 : decode cX4_become 68 = .ok (.iconst 1, 1) := by decide +kernel
theorem dX4_become_69 : decode cX4_become 69 = .ok (.ireturn, 1) := by decide +kernel
theorem dX4_swap_0 : decode cX4_swap 0 = .ok (.iload_n 1, 1) := by decide +kernel
theorem dX4_swap_1 : decode cX4_swap 1 = .ok (.invokestatic 28, 3) := by decide +kernel
theorem dX4_swap_4 : decode cX4_swap 4 = .ok (.ifCond .eq 27, 3) := by decide +kernel
theorem dX4_swap_7 : decode cX4_swap 7 = .ok (.iload_n 2, 1) := by decide +kernel
theorem dX4_swap_8 : decode cX4_swap 8 = .ok (.invokestatic 32, 3) := by decide +kernel
theorem dX4_swap_11 : decode cX4_swap 11 = .ok (.ifCond .eq 20, 3) := by decide +kernel
theorem dX4_swap_14 : decode cX4_swap 14 = .ok (.iload_n 3, 1) := by decide +kernel
theorem dX4_swap_15 : decode cX4_swap 15 = .ok (.invokestatic 32, 3) := by decide +kernel
theorem dX4_swap_18 : decode cX4_swap 18 = .ok (.ifCond .eq 13, 3) := by decide +kernel
theorem dX4_swap_21 : decode cX4_swap 21 = .ok (.aload_n 0, 1) := by decide +kernel
theorem dX4_swap_22 : decode cX4_swap 22 = .ok (.getfield 35, 3) := by decide +kernel
theorem dX4_swap_25 : decode cX4_swap 25 = .ok (.sipush 300, 3) := by decide +kernel
theorem dX4_swap_28 : decode cX4_swap 28 = .ok (.if_icmp .lt 5, 3) := by decide +kernel
theorem dX4_swap_31 : decode cX4_swap 31 = .ok (.iconst 0, 1) := by decide +kernel
theorem dX4_swap_32 : decode cX4_swap 32 = .ok (.ireturn, 1) := by decide +kernel
theorem dX4_swap_33 : decode cX4_swap 33 = .ok (.aload_n 0, 1) := by decide +kernel
theorem dX4_swap_34 : decode cX4_swap 34 = .ok (.iload_n 1, 1) := by decide +kernel
theorem dX4_swap_35 : decode cX4_swap 35 = .ok (.iload_n 2, 1) := by decide +kernel
theorem dX4_swap_36 : decode cX4_swap 36 = .ok (.invokevirtual 43, 3) := by decide +kernel
theorem dX4_swap_39 : decode cX4_swap 39 = .ok (.istore 4, 2) := by decide +kernel
theorem dX4_swap_41 : decode cX4_swap 41 = .ok (.aload_n 0, 1) := by decide +kernel
theorem dX4_swap_42 : decode cX4_swap 42 = .ok (.iload_n 1, 1) := by decide +kernel
theorem dX4_swap_43 : decode cX4_swap 43 = .ok (.iload_n 3, 1) := by decide +kernel
theorem dX4_swap_44 : decode cX4_swap 44 = .ok (.invokevirtual 43, 3) := by decide +kernel
theorem dX4_swap_47 : decode cX4_swap 47 = .ok (.istore 5, 2) := by decide +kernel
theorem dX4_swap_49 : decode cX4_swap 49 = .ok (.aload_n 0, 1) := by decide +kernel
theorem dX4_swap_50 : decode cX4_swap 50 = .ok (.getfield 18, 3) := by decide +kernel
theorem dX4_swap_53 : decode cX4_swap 53 = .ok (.iload_n 1, 1) := by decide +kernel
theorem dX4_swap_54 : decode cX4_swap 54 = .ok (.dup2, 1) := by decide +kernel
theorem dX4_swap_55 : decode cX4_swap 55 = .ok (.iaload, 1) := by decide +kernel
theorem dX4_swap_56 : decode cX4_swap 56 = .ok (.iconst 1, 1) := by decide +kernel
theorem dX4_swap_57 : decode cX4_swap 57 = .ok (.iadd, 1) := by decide +kernel
theorem dX4_swap_58 : decode cX4_swap 58 = .ok (.iastore, 1) := by decide +kernel
theorem dX4_swap_59 : decode cX4_swap 59 = .ok (.aload_n 0, 1) := by decide +kernel
theorem dX4_swap_60 : decode cX4_swap 60 = .ok (.dup, 1) := by decide +kernel
theorem dX4_swap_61 : decode cX4_swap 61 = .ok (.getfield 35, 3) := by decide +kernel
theorem dX4_swap_64 : decode cX4_swap 64 = .ok (.iconst 1, 1) := by decide +kernel
theorem dX4_swap_65 : decode cX4_swap 65 = .ok (.iadd, 1) := by decide +kernel
theorem dX4_swap_66 : decode cX4_swap 66 = .ok (.putfield 35, 3) := by decide +kernel
theorem dX4_swap_69 : decode cX4_swap 69 = .ok (.aload_n 0, 1) := by decide +kernel
theorem dX4_swap_70 : decode cX4_swap 70 = .ok (.iload_n 1, 1) := by decide +kernel
theorem dX4_swap_71 : decode cX4_swap 71 = .ok (.iload_n 2, 1) := by decide +kernel
theorem dX4_swap_72 : decode cX4_swap 72 = .ok (.invokestatic 47, 3) := by decide +kernel
theorem dX4_swap_75 : decode cX4_swap 75 = .ok (.iload 5, 2) := by decide +kernel
theorem dX4_swap_77 : decode cX4_swap 77 = .ok (.invokevirtual 50, 3) := by decide +kernel
theorem dX4_swap_80 : decode cX4_swap 80 = .ok (.aload_n 0, 1) := by decide +kernel
theorem dX4_swap_81 : decode cX4_swap 81 = .ok (.iload_n 1, 1) := by decide +kernel
theorem dX4_swap_82 : decode cX4_swap 82 = .ok (.iload_n 3, 1) := by decide +kernel
theorem dX4_swap_83 : decode cX4_swap 83 = .ok (.invokestatic 47, 3) := by decide +kernel
theorem dX4_swap_86 : decode cX4_swap 86 = .ok (.iload 4, 2) := by decide +kernel
theorem dX4_swap_88 : decode cX4_swap 88 = .ok (.invokevirtual 50, 3) := by decide +kernel
theorem dX4_swap_91 : decode cX4_swap 91 = .ok (.iconst 1, 1) := by decide +kernel
theorem dX4_swap_92 : decode cX4_swap 92 = .ok (.ireturn, 1) := by decide +kernel
theorem dX4_imageOf_0 : decode cX4_imageOf 0 = .ok (.iload_n 1, 1) := by decide +kernel
theorem dX4_imageOf_1 : decode cX4_imageOf 1 = .ok (.invokestatic 28, 3) := by decide +kernel
theorem dX4_imageOf_4 : decode cX4_imageOf 4 = .ok (.ifCond .eq 10, 3) := by decide +kernel
theorem dX4_imageOf_7 : decode cX4_imageOf 7 = .ok (.iload_n 2, 1) := by decide +kernel
theorem dX4_imageOf_8 : decode cX4_imageOf 8 = .ok (.invokestatic 32, 3) := by decide +kernel
theorem dX4_imageOf_11 : decode cX4_imageOf 11 = .ok (.ifCond .ne 5, 3) := by decide +kernel
theorem dX4_imageOf_14 : decode cX4_imageOf 14 = .ok (.iconst (-1), 1) := by decide +kernel
theorem dX4_imageOf_15 : decode cX4_imageOf 15 = .ok (.ireturn, 1) := by decide +kernel
theorem dX4_imageOf_16 : decode cX4_imageOf 16 = .ok (.aload_n 0, 1) := by decide +kernel
theorem dX4_imageOf_17 : decode cX4_imageOf 17 = .ok (.getfield 18, 3) := by decide +kernel
theorem dX4_imageOf_20 : decode cX4_imageOf 20 = .ok (.iload_n 1, 1) := by decide +kernel
theorem dX4_imageOf_21 : decode cX4_imageOf 21 = .ok (.iaload, 1) := by decide +kernel
theorem dX4_imageOf_22 : decode cX4_imageOf 22 = .ok (.ifCond .le 44, 3) := by decide +kernel
theorem dX4_imageOf_25 : decode cX4_imageOf 25 = .ok (.iload_n 1, 1) := by decide +kernel
theorem dX4_imageOf_26 : decode cX4_imageOf 26 = .ok (.iload_n 2, 1) := by decide +kernel
theorem dX4_imageOf_27 : decode cX4_imageOf 27 = .ok (.invokestatic 47, 3) := by decide +kernel
theorem dX4_imageOf_30 : decode cX4_imageOf 30 = .ok (.istore_n 3, 1) := by decide +kernel
theorem dX4_imageOf_31 : decode cX4_imageOf 31 = .ok (.aload_n 0, 1) := by decide +kernel
theorem dX4_imageOf_32 : decode cX4_imageOf 32 = .ok (.iload_n 3, 1) := by decide +kernel
theorem dX4_imageOf_33 : decode cX4_imageOf 33 = .ok (.invokevirtual 54, 3) := by decide +kernel
theorem dX4_imageOf_36 : decode cX4_imageOf 36 = .ok (.istore 4, 2) := by decide +kernel
theorem dX4_imageOf_38 : decode cX4_imageOf 38 = .ok (.iload 4, 2) := by decide +kernel
theorem dX4_imageOf_40 : decode cX4_imageOf 40 = .ok (.aload_n 0, 1) := by decide +kernel
theorem dX4_imageOf_41 : decode cX4_imageOf 41 = .ok (.getfield 58, 3) := by decide +kernel
theorem dX4_imageOf_44 : decode cX4_imageOf 44 = .ok (.if_icmp .ge 22, 3) := by decide +kernel
theorem dX4_imageOf_47 : decode cX4_imageOf 47 = .ok (.aload_n 0, 1) := by decide +kernel
theorem dX4_imageOf_48 : decode cX4_imageOf 48 = .ok (.getfield 21, 3) := by decide +kernel
theorem dX4_imageOf_51 : decode cX4_imageOf 51 = .ok (.iload 4, 2) := by decide +kernel
theorem dX4_imageOf_53 : decode cX4_imageOf 53 = .ok (.iaload, 1) := by decide +kernel
theorem dX4_imageOf_54 : decode cX4_imageOf 54 = .ok (.iload_n 3, 1) := by decide +kernel
theorem dX4_imageOf_55 : decode cX4_imageOf 55 = .ok (.if_icmp .ne 11, 3) := by decide +kernel
theorem dX4_imageOf_58 : decode cX4_imageOf 58 = .ok (.aload_n 0, 1) := by decide +kernel
theorem dX4_imageOf_59 : decode cX4_imageOf 59 = .ok (.getfield 24, 3) := by decide +kernel
theorem dX4_imageOf_62 : decode cX4_imageOf 62 = .ok (.iload 4, 2) := by decide +kernel
theorem dX4_imageOf_64 : decode cX4_imageOf 64 = .ok (.iaload, 1) := by decide +kernel
theorem dX4_imageOf_65 : decode cX4_imageOf 65 = .ok (.ireturn, 1) := by decide +kernel
theorem dX4_imageOf_66 : decode cX4_imageOf 66 = .ok (.aload_n 0, 1) := by decide +kernel
theorem dX4_imageOf_67 : decode cX4_imageOf 67 = .ok (.getfield 9, 3) := by decide +kernel
theorem dX4_imageOf_70 : decode cX4_imageOf 70 = .ok (.iload_n 1, 1) := by decide +kernel
theorem dX4_imageOf_71 : decode cX4_imageOf 71 = .ok (.iaload, 1) := by decide +kernel
theorem dX4_imageOf_72 : decode cX4_imageOf 72 = .ok (.i2l, 1) := by decide +kernel
theorem dX4_imageOf_73 : decode cX4_imageOf 73 = .ok (.iload_n 2, 1) := by decide +kernel
theorem dX4_imageOf_74 : decode cX4_imageOf 74 = .ok (.i2l, 1) := by decide +kernel
theorem dX4_imageOf_75 : decode cX4_imageOf 75 = .ok (.lmul, 1) := by decide +kernel
theorem dX4_imageOf_76 : decode cX4_imageOf 76 = .ok (.aload_n 0, 1) := by decide +kernel
theorem dX4_imageOf_77 : decode cX4_imageOf 77 = .ok (.getfield 15, 3) := by decide +kernel
theorem dX4_imageOf_80 : decode cX4_imageOf 80 = .ok (.iload_n 1, 1) := by decide +kernel
theorem dX4_imageOf_81 : decode cX4_imageOf 81 = .ok (.iaload, 1) := by decide +kernel
theorem dX4_imageOf_82 : decode cX4_imageOf 82 = .ok (.i2l, 1) := by decide +kernel
theorem dX4_imageOf_83 : decode cX4_imageOf 83 = .ok (.ladd, 1) := by decide +kernel
theorem dX4_imageOf_84 : decode cX4_imageOf 84 = .ok (.ldc2_w 61, 3) := by decide +kernel
theorem dX4_imageOf_87 : decode cX4_imageOf 87 = .ok (.lrem, 1) := by decide +kernel
theorem dX4_imageOf_88 : decode cX4_imageOf 88 = .ok (.l2i, 1) := by decide +kernel
theorem dX4_imageOf_89 : decode cX4_imageOf 89 = .ok (.ireturn, 1) := by decide +kernel
theorem dX4_leastOf_0 : decode cX4_leastOf 0 = .ok (.ldc 27, 2) := by decide +kernel
theorem dX4_leastOf_2 : decode cX4_leastOf 2 = .ok (.istore_n 3, 1) := by decide +kernel
theorem dX4_leastOf_3 : decode cX4_leastOf 3 = .ok (.iconst 0, 1) := by decide +kernel
theorem dX4_leastOf_4 : decode cX4_leastOf 4 = .ok (.istore 4, 2) := by decide +kernel
theorem dX4_leastOf_6 : decode cX4_leastOf 6 = .ok (.iload 4, 2) := by decide +kernel
theorem dX4_leastOf_8 : decode cX4_leastOf 8 = .ok (.aload_n 1, 1) := by decide +kernel
theorem dX4_leastOf_9 : decode cX4_leastOf 9 = .ok (.getfield 63, 3) := by decide +kernel
theorem dX4_leastOf_12 : decode cX4_leastOf 12 = .ok (.if_icmp .ge 26, 3) := by decide +kernel
theorem dX4_leastOf_15 : decode cX4_leastOf 15 = .ok (.iload_n 3, 1) := by decide +kernel
theorem dX4_leastOf_16 : decode cX4_leastOf 16 = .ok (.aload_n 0, 1) := by decide +kernel
theorem dX4_leastOf_17 : decode cX4_leastOf 17 = .ok (.iload_n 2, 1) := by decide +kernel
theorem dX4_leastOf_18 : decode cX4_leastOf 18 = .ok (.aload_n 1, 1) := by decide +kernel
theorem dX4_leastOf_19 : decode cX4_leastOf 19 = .ok (.getfield 68, 3) := by decide +kernel
theorem dX4_leastOf_22 : decode cX4_leastOf 22 = .ok (.iload 4, 2) := by decide +kernel
theorem dX4_leastOf_24 : decode cX4_leastOf 24 = .ok (.iaload, 1) := by decide +kernel
theorem dX4_leastOf_25 : decode cX4_leastOf 25 = .ok (.invokevirtual 43, 3) := by decide +kernel
theorem dX4_leastOf_28 : decode cX4_leastOf 28 = .ok (.invokestatic 71, 3) := by decide +kernel
theorem dX4_leastOf_31 : decode cX4_leastOf 31 = .ok (.istore_n 3, 1) := by decide +kernel
theorem dX4_leastOf_32 : decode cX4_leastOf 32 = .ok (.iinc 4 1, 3) := by decide +kernel
theorem dX4_leastOf_35 : decode cX4_leastOf 35 = .ok (.goto (-29), 3) := by decide +kernel
theorem dX4_leastOf_38 : decode cX4_leastOf 38 = .ok (.iload_n 3, 1) := by decide +kernel
theorem dX4_leastOf_39 : decode cX4_leastOf 39 = .ok (.ireturn, 1) := by decide +kernel
theorem dX4_keyOf_0 : decode cX4_keyOf 0 = .ok (.iload_n 0, 1) := by decide +kernel
theorem dX4_keyOf_1 : decode cX4_keyOf 1 = .ok (.bipush 16, 2) := by decide +kernel
theorem dX4_keyOf_3 : decode cX4_keyOf 3 = .ok (.ishl, 1) := by decide +kernel
theorem dX4_keyOf_4 : decode cX4_keyOf 4 = .ok (.iload_n 1, 1) := by decide +kernel
theorem dX4_keyOf_5 : decode cX4_keyOf 5 = .ok (.ior, 1) := by decide +kernel
theorem dX4_keyOf_6 : decode cX4_keyOf 6 = .ok (.ireturn, 1) := by decide +kernel
theorem dX4_placeFor_0 : decode cX4_placeFor 0 = .ok (.iconst 0, 1) := by decide +kernel
theorem dX4_placeFor_1 : decode cX4_placeFor 1 = .ok (.istore_n 2, 1) := by decide +kernel
theorem dX4_placeFor_2 : decode cX4_placeFor 2 = .ok (.sipush 512, 3) := by decide +kernel
theorem dX4_placeFor_5 : decode cX4_placeFor 5 = .ok (.istore_n 3, 1) := by decide +kernel
theorem dX4_placeFor_6 : decode cX4_placeFor 6 = .ok (.iload_n 3, 1) := by decide +kernel
theorem dX4_placeFor_7 : decode cX4_placeFor 7 = .ok (.ifCond .le 38, 3) := by decide +kernel
theorem dX4_placeFor_10 : decode cX4_placeFor 10 = .ok (.iload_n 2, 1) := by decide +kernel
theorem dX4_placeFor_11 : decode cX4_placeFor 11 = .ok (.iload_n 3, 1) := by decide +kernel
theorem dX4_placeFor_12 : decode cX4_placeFor 12 = .ok (.iadd, 1) := by decide +kernel
theorem dX4_placeFor_13 : decode cX4_placeFor 13 = .ok (.aload_n 0, 1) := by decide +kernel
theorem dX4_placeFor_14 : decode cX4_placeFor 14 = .ok (.getfield 58, 3) := by decide +kernel
theorem dX4_placeFor_17 : decode cX4_placeFor 17 = .ok (.if_icmp .gt 21, 3) := by decide +kernel
theorem dX4_placeFor_20 : decode cX4_placeFor 20 = .ok (.aload_n 0, 1) := by decide +kernel
theorem dX4_placeFor_21 : decode cX4_placeFor 21 = .ok (.getfield 21, 3) := by decide +kernel
theorem dX4_placeFor_24 : decode cX4_placeFor 24 = .ok (.iload_n 2, 1) := by decide +kernel
theorem dX4_placeFor_25 : decode cX4_placeFor 25 = .ok (.iload_n 3, 1) := by decide +kernel
theorem dX4_placeFor_26 : decode cX4_placeFor 26 = .ok (.iadd, 1) := by decide +kernel
theorem dX4_placeFor_27 : decode cX4_placeFor 27 = .ok (.iconst 1, 1) := by decide +kernel
theorem dX4_placeFor_28 : decode cX4_placeFor 28 = .ok (.isub, 1) := by decide +kernel
theorem dX4_placeFor_29 : decode cX4_placeFor 29 = .ok (.iaload, 1) := by decide +kernel
theorem dX4_placeFor_30 : decode cX4_placeFor 30 = .ok (.iload_n 1, 1) := by decide +kernel
theorem dX4_placeFor_31 : decode cX4_placeFor 31 = .ok (.if_icmp .ge 7, 3) := by decide +kernel
theorem dX4_placeFor_34 : decode cX4_placeFor 34 = .ok (.iload_n 2, 1) := by decide +kernel
theorem dX4_placeFor_35 : decode cX4_placeFor 35 = .ok (.iload_n 3, 1) := by decide +kernel
theorem dX4_placeFor_36 : decode cX4_placeFor 36 = .ok (.iadd, 1) := by decide +kernel
theorem dX4_placeFor_37 : decode cX4_placeFor 37 = .ok (.istore_n 2, 1) := by decide +kernel
theorem dX4_placeFor_38 : decode cX4_placeFor 38 = .ok (.iload_n 3, 1) := by decide +kernel
theorem dX4_placeFor_39 : decode cX4_placeFor 39 = .ok (.iconst 2, 1) := by decide +kernel
theorem dX4_placeFor_40 : decode cX4_placeFor 40 = .ok (.idiv, 1) := by decide +kernel
theorem dX4_placeFor_41 : decode cX4_placeFor 41 = .ok (.istore_n 3, 1) := by decide +kernel
theorem dX4_placeFor_42 : decode cX4_placeFor 42 = .ok (.goto (-36), 3) := by decide +kernel
theorem dX4_placeFor_45 : decode cX4_placeFor 45 = .ok (.iload_n 2, 1) := by decide +kernel
theorem dX4_placeFor_46 : decode cX4_placeFor 46 = .ok (.ireturn, 1) := by decide +kernel
theorem dX4_move_0 : decode cX4_move 0 = .ok (.aload_n 0, 1) := by decide +kernel
theorem dX4_move_1 : decode cX4_move 1 = .ok (.iload_n 1, 1) := by decide +kernel
theorem dX4_move_2 : decode cX4_move 2 = .ok (.invokevirtual 54, 3) := by decide +kernel
theorem dX4_move_5 : decode cX4_move 5 = .ok (.istore_n 3, 1) := by decide +kernel
theorem dX4_move_6 : decode cX4_move 6 = .ok (.iload_n 3, 1) := by decide +kernel
theorem dX4_move_7 : decode cX4_move 7 = .ok (.aload_n 0, 1) := by decide +kernel
theorem dX4_move_8 : decode cX4_move 8 = .ok (.getfield 58, 3) := by decide +kernel
theorem dX4_move_11 : decode cX4_move 11 = .ok (.if_icmp .ge 23, 3) := by decide +kernel
theorem dX4_move_14 : decode cX4_move 14 = .ok (.aload_n 0, 1) := by decide +kernel
theorem dX4_move_15 : decode cX4_move 15 = .ok (.getfield 21, 3) := by decide +kernel
theorem dX4_move_18 : decode cX4_move 18 = .ok (.iload_n 3, 1) := by decide +kernel
theorem dX4_move_19 : decode cX4_move 19 = .ok (.iaload, 1) := by decide +kernel
theorem dX4_move_20 : decode cX4_move 20 = .ok (.iload_n 1, 1) := by decide +kernel
theorem dX4_move_21 : decode cX4_move 21 = .ok (.if_icmp .ne 13, 3) := by decide +kernel
theorem dX4_move_24 : decode cX4_move 24 = .ok (.aload_n 0, 1) := by decide +kernel
theorem dX4_move_25 : decode cX4_move 25 = .ok (.getfield 24, 3) := by decide +kernel
theorem dX4_move_28 : decode cX4_move 28 = .ok (.iload_n 3, 1) := by decide +kernel
theorem dX4_move_29 : decode cX4_move 29 = .ok (.iload_n 2, 1) := by decide +kernel
theorem dX4_move_30 : decode cX4_move 30 = .ok (.iastore, 1) := by decide +kernel
theorem dX4_move_31 : decode cX4_move 31 = .ok (.goto 89, 3) := by decide +kernel
theorem dX4_move_34 : decode cX4_move 34 = .ok (.aload_n 0, 1) := by decide +kernel
theorem dX4_move_35 : decode cX4_move 35 = .ok (.getfield 58, 3) := by decide +kernel
theorem dX4_move_38 : decode cX4_move 38 = .ok (.aload_n 0, 1) := by decide +kernel
theorem dX4_move_39 : decode cX4_move 39 = .ok (.getfield 21, 3) := by decide +kernel
theorem dX4_move_42 : decode cX4_move 42 = .ok (.arraylength, 1) := by decide +kernel
theorem dX4_move_43 : decode cX4_move 43 = .ok (.if_icmp .ge 77, 3) := by decide +kernel
theorem dX4_move_46 : decode cX4_move 46 = .ok (.aload_n 0, 1) := by decide +kernel
theorem dX4_move_47 : decode cX4_move 47 = .ok (.getfield 58, 3) := by decide +kernel
theorem dX4_move_50 : decode cX4_move 50 = .ok (.istore 4, 2) := by decide +kernel
theorem dX4_move_52 : decode cX4_move 52 = .ok (.iload 4, 2) := by decide +kernel
theorem dX4_move_54 : decode cX4_move 54 = .ok (.iload_n 3, 1) := by decide +kernel
theorem dX4_move_55 : decode cX4_move 55 = .ok (.if_icmp .le 41, 3) := by decide +kernel
theorem dX4_move_58 : decode cX4_move 58 = .ok (.aload_n 0, 1) := by decide +kernel
theorem dX4_move_59 : decode cX4_move 59 = .ok (.getfield 21, 3) := by decide +kernel
theorem dX4_move_62 : decode cX4_move 62 = .ok (.iload 4, 2) := by decide +kernel
theorem dX4_move_64 : decode cX4_move 64 = .ok (.aload_n 0, 1) := by decide +kernel
theorem dX4_move_65 : decode cX4_move 65 = .ok (.getfield 21, 3) := by decide +kernel
theorem dX4_move_68 : decode cX4_move 68 = .ok (.iload 4, 2) := by decide +kernel
theorem dX4_move_70 : decode cX4_move 70 = .ok (.iconst 1, 1) := by decide +kernel
theorem dX4_move_71 : decode cX4_move 71 = .ok (.isub, 1) := by decide +kernel
theorem dX4_move_72 : decode cX4_move 72 = .ok (.iaload, 1) := by decide +kernel
theorem dX4_move_73 : decode cX4_move 73 = .ok (.iastore, 1) := by decide +kernel
theorem dX4_move_74 : decode cX4_move 74 = .ok (.aload_n 0, 1) := by decide +kernel
theorem dX4_move_75 : decode cX4_move 75 = .ok (.getfield 24, 3) := by decide +kernel
theorem dX4_move_78 : decode cX4_move 78 = .ok (.iload 4, 2) := by decide +kernel
theorem dX4_move_80 : decode cX4_move 80 = .ok (.aload_n 0, 1) := by decide +kernel
theorem dX4_move_81 : decode cX4_move 81 = .ok (.getfield 24, 3) := by decide +kernel
theorem dX4_move_84 : decode cX4_move 84 = .ok (.iload 4, 2) := by decide +kernel
theorem dX4_move_86 : decode cX4_move 86 = .ok (.iconst 1, 1) := by decide +kernel
theorem dX4_move_87 : decode cX4_move 87 = .ok (.isub, 1) := by decide +kernel
theorem dX4_move_88 : decode cX4_move 88 = .ok (.iaload, 1) := by decide +kernel
theorem dX4_move_89 : decode cX4_move 89 = .ok (.iastore, 1) := by decide +kernel
theorem dX4_move_90 : decode cX4_move 90 = .ok (.iinc 4 (-1), 3) := by decide +kernel
theorem dX4_move_93 : decode cX4_move 93 = .ok (.goto (-41), 3) := by decide +kernel
theorem dX4_move_96 : decode cX4_move 96 = .ok (.aload_n 0, 1) := by decide +kernel
theorem dX4_move_97 : decode cX4_move 97 = .ok (.getfield 21, 3) := by decide +kernel
theorem dX4_move_100 : decode cX4_move 100 = .ok (.iload_n 3, 1) := by decide +kernel
theorem dX4_move_101 : decode cX4_move 101 = .ok (.iload_n 1, 1) := by decide +kernel
theorem dX4_move_102 : decode cX4_move 102 = .ok (.iastore, 1) := by decide +kernel
theorem dX4_move_103 : decode cX4_move 103 = .ok (.aload_n 0, 1) := by decide +kernel
theorem dX4_move_104 : decode cX4_move 104 = .ok (.getfield 24, 3) := by decide +kernel
theorem dX4_move_107 : decode cX4_move 107 = .ok (.iload_n 3, 1) := by decide +kernel
theorem dX4_move_108 : decode cX4_move 108 = .ok (.iload_n 2, 1) := by decide +kernel
theorem dX4_move_109 : decode cX4_move 109 = .ok (.iastore, 1) := by decide +kernel
theorem dX4_move_110 : decode cX4_move 110 = .ok (.aload_n 0, 1) := by decide +kernel
theorem dX4_move_111 : decode cX4_move 111 = .ok (.dup, 1) := by decide +kernel
theorem dX4_move_112 : decode cX4_move 112 = .ok (.getfield 58, 3) := by decide +kernel
theorem dX4_move_115 : decode cX4_move 115 = .ok (.iconst 1, 1) := by decide +kernel
theorem dX4_move_116 : decode cX4_move 116 = .ok (.iadd, 1) := by decide +kernel
theorem dX4_move_117 : decode cX4_move 117 = .ok (.putfield 58, 3) := by decide +kernel
theorem dX4_move_120 : decode cX4_move 120 = .ok (.return_, 1) := by decide +kernel
theorem dX4_dropMoved_0 : decode cX4_dropMoved 0 = .ok (.iconst 0, 1) := by decide +kernel
theorem dX4_dropMoved_1 : decode cX4_dropMoved 1 = .ok (.istore_n 2, 1) := by decide +kernel
theorem dX4_dropMoved_2 : decode cX4_dropMoved 2 = .ok (.iconst 0, 1) := by decide +kernel
theorem dX4_dropMoved_3 : decode cX4_dropMoved 3 = .ok (.istore_n 3, 1) := by decide +kernel
theorem dX4_dropMoved_4 : decode cX4_dropMoved 4 = .ok (.iload_n 3, 1) := by decide +kernel
theorem dX4_dropMoved_5 : decode cX4_dropMoved 5 = .ok (.aload_n 0, 1) := by decide +kernel
theorem dX4_dropMoved_6 : decode cX4_dropMoved 6 = .ok (.getfield 58, 3) := by decide +kernel
theorem dX4_dropMoved_9 : decode cX4_dropMoved 9 = .ok (.if_icmp .ge 49, 3) := by decide +kernel
theorem dX4_dropMoved_12 : decode cX4_dropMoved 12 = .ok (.aload_n 0, 1) := by decide +kernel
theorem dX4_dropMoved_13 : decode cX4_dropMoved 13 = .ok (.getfield 21, 3) := by decide +kernel
theorem dX4_dropMoved_16 : decode cX4_dropMoved 16 = .ok (.iload_n 3, 1) := by decide +kernel
theorem dX4_dropMoved_17 : decode cX4_dropMoved 17 = .ok (.iaload, 1) := by decide +kernel
theorem dX4_dropMoved_18 : decode cX4_dropMoved 18 = .ok (.bipush 16, 2) := by decide +kernel
theorem dX4_dropMoved_20 : decode cX4_dropMoved 20 = .ok (.ishr, 1) := by decide +kernel
theorem dX4_dropMoved_21 : decode cX4_dropMoved 21 = .ok (.iload_n 1, 1) := by decide +kernel
theorem dX4_dropMoved_22 : decode cX4_dropMoved 22 = .ok (.if_icmp .eq 30, 3) := by decide +kernel
theorem dX4_dropMoved_25 : decode cX4_dropMoved 25 = .ok (.aload_n 0, 1) := by decide +kernel
theorem dX4_dropMoved_26 : decode cX4_dropMoved 26 = .ok (.getfield 21, 3) := by decide +kernel
theorem dX4_dropMoved_29 : decode cX4_dropMoved 29 = .ok (.iload_n 2, 1) := by decide +kernel
theorem dX4_dropMoved_30 : decode cX4_dropMoved 30 = .ok (.aload_n 0, 1) := by decide +kernel
theorem dX4_dropMoved_31 : decode cX4_dropMoved 31 = .ok (.getfield 21, 3) := by decide +kernel
theorem dX4_dropMoved_34 : decode cX4_dropMoved 34 = .ok (.iload_n 3, 1) := by decide +kernel
theorem dX4_dropMoved_35 : decode cX4_dropMoved 35 = .ok (.iaload, 1) := by decide +kernel
theorem dX4_dropMoved_36 : decode cX4_dropMoved 36 = .ok (.iastore, 1) := by decide +kernel
theorem dX4_dropMoved_37 : decode cX4_dropMoved 37 = .ok (.aload_n 0, 1) := by decide +kernel
theorem dX4_dropMoved_38 : decode cX4_dropMoved 38 = .ok (.getfield 24, 3) := by decide +kernel
theorem dX4_dropMoved_41 : decode cX4_dropMoved 41 = .ok (.iload_n 2, 1) := by decide +kernel
theorem dX4_dropMoved_42 : decode cX4_dropMoved 42 = .ok (.aload_n 0, 1) := by decide +kernel
theorem dX4_dropMoved_43 : decode cX4_dropMoved 43 = .ok (.getfield 24, 3) := by decide +kernel
theorem dX4_dropMoved_46 : decode cX4_dropMoved 46 = .ok (.iload_n 3, 1) := by decide +kernel
theorem dX4_dropMoved_47 : decode cX4_dropMoved 47 = .ok (.iaload, 1) := by decide +kernel
theorem dX4_dropMoved_48 : decode cX4_dropMoved 48 = .ok (.iastore, 1) := by decide +kernel
theorem dX4_dropMoved_49 : decode cX4_dropMoved 49 = .ok (.iinc 2 1, 3) := by decide +kernel
theorem dX4_dropMoved_52 : decode cX4_dropMoved 52 = .ok (.iinc 3 1, 3) := by decide +kernel
theorem dX4_dropMoved_55 : decode cX4_dropMoved 55 = .ok (.goto (-51), 3) := by decide +kernel
theorem dX4_dropMoved_58 : decode cX4_dropMoved 58 = .ok (.aload_n 0, 1) := by decide +kernel
theorem dX4_dropMoved_59 : decode cX4_dropMoved 59 = .ok (.iload_n 2, 1) := by decide +kernel
theorem dX4_dropMoved_60 : decode cX4_dropMoved 60 = .ok (.putfield 58, 3) := by decide +kernel
theorem dX4_dropMoved_63 : decode cX4_dropMoved 63 = .ok (.return_, 1) := by decide +kernel
theorem dX5_init_0 : decode cX5_init 0 = .ok (.aload_n 0, 1) := by decide +kernel
theorem dX5_init_1 : decode cX5_init 1 = .ok (.invokespecial 3, 3) := by decide +kernel
theorem dX5_init_4 : decode cX5_init 4 = .ok (.aload_n 0, 1) := by decide +kernel
theorem dX5_init_5 : decode cX5_init 5 = .ok (.new 9, 3) := by decide +kernel
theorem dX5_init_8 : decode cX5_init 8 = .ok (.dup, 1) := by decide +kernel
theorem dX5_init_9 : decode cX5_init 9 = .ok (.invokespecial 11, 3) := by decide +kernel
theorem dX5_init_12 : decode cX5_init 12 = .ok (.putfield 12, 3) := by decide +kernel
theorem dX5_init_15 : decode cX5_init 15 = .ok (.aload_n 0, 1) := by decide +kernel
theorem dX5_init_16 : decode cX5_init 16 = .ok (.new 9, 3) := by decide +kernel
theorem dX5_init_19 : decode cX5_init 19 = .ok (.dup, 1) := by decide +kernel
theorem dX5_init_20 : decode cX5_init 20 = .ok (.invokespecial 11, 3) := by decide +kernel
theorem dX5_init_23 : decode cX5_init 23 = .ok (.putfield 18, 3) := by decide +kernel
theorem dX5_init_26 : decode cX5_init 26 = .ok (.aload_n 0, 1) := by decide +kernel
theorem dX5_init_27 : decode cX5_init 27 = .ok (.new 9, 3) := by decide +kernel
theorem dX5_init_30 : decode cX5_init 30 = .ok (.dup, 1) := by decide +kernel
theorem dX5_init_31 : decode cX5_init 31 = .ok (.invokespecial 11, 3) := by decide +kernel
theorem dX5_init_34 : decode cX5_init 34 = .ok (.putfield 21, 3) := by decide +kernel
theorem dX5_init_37 : decode cX5_init 37 = .ok (.return_, 1) := by decide +kernel
theorem dX5_isFull_0 : decode cX5_isFull 0 = .ok (.aload_n 0, 1) := by decide +kernel
theorem dX5_isFull_1 : decode cX5_isFull 1 = .ok (.getfield 12, 3) := by decide +kernel
theorem dX5_isFull_4 : decode cX5_isFull 4 = .ok (.invokevirtual 24, 3) := by decide +kernel
theorem dX5_isFull_7 : decode cX5_isFull 7 = .ok (.bipush 48, 2) := by decide +kernel
theorem dX5_isFull_9 : decode cX5_isFull 9 = .ok (.if_icmp .ge 13, 3) := by decide +kernel
theorem dX5_isFull_12 : decode cX5_isFull 12 = .ok (.aload_n 0, 1) := by decide +kernel
theorem dX5_isFull_13 : decode cX5_isFull 13 = .ok (.getfield 28, 3) := by decide +kernel
theorem dX5_isFull_16 : decode cX5_isFull 16 = .ok (.sipush 400, 3) := by decide +kernel
theorem dX5_isFull_19 : decode cX5_isFull 19 = .ok (.if_icmp .lt 7, 3) := by decide +kernel
theorem dX5_isFull_22 : decode cX5_isFull 22 = .ok (.iconst 1, 1) := by decide +kernel
theorem dX5_isFull_23 : decode cX5_isFull 23 = .ok (.goto 4, 3) := by decide +kernel
theorem dX5_isFull_26 : decode cX5_isFull 26 = .ok (.iconst 0, 1) := by decide +kernel
theorem dX5_isFull_27 : decode cX5_isFull 27 = .ok (.ireturn, 1) := by decide +kernel
theorem dX5_placeOf_0 : decode cX5_placeOf 0 = .ok (.iconst 0, 1) := by decide +kernel
theorem dX5_placeOf_1 : decode cX5_placeOf 1 = .ok (.istore_n 2, 1) := by decide +kernel
theorem dX5_placeOf_2 : decode cX5_placeOf 2 = .ok (.iload_n 2, 1) := by decide +kernel
theorem dX5_placeOf_3 : decode cX5_placeOf 3 = .ok (.aload_n 0, 1) := by decide +kernel
theorem dX5_placeOf_4 : decode cX5_placeOf 4 = .ok (.getfield 12, 3) := by decide +kernel
theorem dX5_placeOf_7 : decode cX5_placeOf 7 = .ok (.invokevirtual 24, 3) := by decide +kernel
theorem dX5_placeOf_10 : decode cX5_placeOf 10 = .ok (.if_icmp .ge 29, 3) := by decide +kernel
theorem dX5_placeOf_13 : decode cX5_placeOf 13 = .ok (.aload_n 0, 1) := by decide +kernel
theorem dX5_placeOf_14 : decode cX5_placeOf 14 = .ok (.getfield 12, 3) := by decide +kernel
theorem dX5_placeOf_17 : decode cX5_placeOf 17 = .ok (.iload_n 2, 1) := by decide +kernel
theorem dX5_placeOf_18 : decode cX5_placeOf 18 = .ok (.invokevirtual 32, 3) := by decide +kernel
theorem dX5_placeOf_21 : decode cX5_placeOf 21 = .ok (.checkcast 36, 3) := by decide +kernel
theorem dX5_placeOf_24 : decode cX5_placeOf 24 = .ok (.getfield 38, 3) := by decide +kernel
theorem dX5_placeOf_27 : decode cX5_placeOf 27 = .ok (.iload_n 1, 1) := by decide +kernel
theorem dX5_placeOf_28 : decode cX5_placeOf 28 = .ok (.if_icmp .ne 5, 3) := by decide +kernel
theorem dX5_placeOf_31 : decode cX5_placeOf 31 = .ok (.iload_n 2, 1) := by decide +kernel
theorem dX5_placeOf_32 : decode cX5_placeOf 32 = .ok (.ireturn, 1) := by decide +kernel
theorem dX5_placeOf_33 : decode cX5_placeOf 33 = .ok (.iinc 2 1, 3) := by decide +kernel
theorem dX5_placeOf_36 : decode cX5_placeOf 36 = .ok (.goto (-34), 3) := by decide +kernel
theorem dX5_placeOf_39 : decode cX5_placeOf 39 = .ok (.iconst (-1), 1) := by decide +kernel
theorem dX5_placeOf_40 : decode cX5_placeOf 40 = .ok (.ireturn, 1) := by decide +kernel
theorem dX5_takeNext_0 : decode cX5_takeNext 0 = .ok (.aload_n 0, 1) := by decide +kernel
theorem dX5_takeNext_1 : decode cX5_takeNext 1 = .ok (.getfield 18, 3) := by decide +kernel
theorem dX5_takeNext_4 : decode cX5_takeNext 4 = .ok (.invokevirtual 41, 3) := by decide +kernel
theorem dX5_takeNext_7 : decode cX5_takeNext 7 = .ok (.ifCond .eq 20, 3) := by decide +kernel
theorem dX5_takeNext_10 : decode cX5_takeNext 10 = .ok (.new 36, 3) := by decide +kernel
theorem dX5_takeNext_13 : decode cX5_takeNext 13 = .ok (.dup, 1) := by decide +kernel
theorem dX5_takeNext_14 : decode cX5_takeNext 14 = .ok (.aload_n 0, 1) := by decide +kernel
theorem dX5_takeNext_15 : decode cX5_takeNext 15 = .ok (.getfield 12, 3) := by decide +kernel
theorem dX5_takeNext_18 : decode cX5_takeNext 18 = .ok (.invokevirtual 24, 3) := by decide +kernel
theorem dX5_takeNext_21 : decode cX5_takeNext 21 = .ok (.invokespecial 45, 3) := by decide +kernel
theorem dX5_takeNext_24 : decode cX5_takeNext 24 = .ok (.goto 22, 3) := by decide +kernel
theorem dX5_takeNext_27 : decode cX5_takeNext 27 = .ok (.aload_n 0, 1) := by decide +kernel
theorem dX5_takeNext_28 : decode cX5_takeNext 28 = .ok (.getfield 18, 3) := by decide +kernel
theorem dX5_takeNext_31 : decode cX5_takeNext 31 = .ok (.aload_n 0, 1) := by decide +kernel
theorem dX5_takeNext_32 : decode cX5_takeNext 32 = .ok (.getfield 18, 3) := by decide +kernel
theorem dX5_takeNext_35 : decode cX5_takeNext 35 = .ok (.invokevirtual 24, 3) := by decide +kernel
theorem dX5_takeNext_38 : decode cX5_takeNext 38 = .ok (.iconst 1, 1) := by decide +kernel
theorem dX5_takeNext_39 : decode cX5_takeNext 39 = .ok (.isub, 1) := by decide +kernel
theorem dX5_takeNext_40 : decode cX5_takeNext 40 = .ok (.invokevirtual 48, 3) := by decide +kernel
theorem dX5_takeNext_43 : decode cX5_takeNext 43 = .ok (.checkcast 36, 3) := by decide +kernel
theorem dX5_takeNext_46 : decode cX5_takeNext 46 = .ok (.astore_n 1, 1) := by decide +kernel
theorem dX5_takeNext_47 : decode cX5_takeNext 47 = .ok (.aload_n 1, 1) := by decide +kernel
theorem dX5_takeNext_48 : decode cX5_takeNext 48 = .ok (.aload_n 0, 1) := by decide +kernel
theorem dX5_takeNext_49 : decode cX5_takeNext 49 = .ok (.getfield 28, 3) := by decide +kernel
theorem dX5_takeNext_52 : decode cX5_takeNext 52 = .ok (.putfield 38, 3) := by decide +kernel
theorem dX5_takeNext_55 : decode cX5_takeNext 55 = .ok (.aload_n 0, 1) := by decide +kernel
theorem dX5_takeNext_56 : decode cX5_takeNext 56 = .ok (.dup, 1) := by decide +kernel
theorem dX5_takeNext_57 : decode cX5_takeNext 57 = .ok (.getfield 28, 3) := by decide +kernel
theorem dX5_takeNext_60 : decode cX5_takeNext 60 = .ok (.iconst 1, 1) := by decide +kernel
theorem dX5_takeNext_61 : decode cX5_takeNext 61 = .ok (.iadd, 1) := by decide +kernel
theorem dX5_takeNext_62 : decode cX5_takeNext 62 = .ok (.putfield 28, 3) := by decide +kernel
theorem dX5_takeNext_65 : decode cX5_takeNext 65 = .ok (.aload_n 0, 1) := by decide +kernel
theorem dX5_takeNext_66 : decode cX5_takeNext 66 = .ok (.getfield 12, 3) := by decide +kernel
theorem dX5_takeNext_69 : decode cX5_takeNext 69 = .ok (.aload_n 1, 1) := by decide +kernel
theorem dX5_takeNext_70 : decode cX5_takeNext 70 = .ok (.invokevirtual 51, 3) := by decide +kernel
theorem dX5_takeNext_73 : decode cX5_takeNext 73 = .ok (.pop, 1) := by decide +kernel
theorem dX5_takeNext_74 : decode cX5_takeNext 74 = .ok (.aload_n 1, 1) := by decide +kernel
theorem dX5_takeNext_75 : decode cX5_takeNext 75 = .ok (.areturn, 1) := by decide +kernel
theorem dX5_shareWithAll_0 : decode cX5_shareWithAll 0 = .ok (.iconst 0, 1) := by decide +kernel
theorem dX5_shareWithAll_1 : decode cX5_shareWithAll 1 = .ok (.istore_n 2, 1) := by decide +kernel
theorem dX5_shareWithAll_2 : decode cX5_shareWithAll 2 = .ok (.iload_n 2, 1) := by decide +kernel
theorem dX5_shareWithAll_3 : decode cX5_shareWithAll 3 = .ok (.aload_n 0, 1) := by decide +kernel
theorem dX5_shareWithAll_4 : decode cX5_shareWithAll 4 = .ok (.getfield 12, 3) := by decide +kernel
theorem dX5_shareWithAll_7 : decode cX5_shareWithAll 7 = .ok (.invokevirtual 24, 3) := by decide +kernel
theorem dX5_shareWithAll_10 : decode cX5_shareWithAll 10 = .ok (.if_icmp .ge 50, 3) := by decide +kernel
theorem dX5_shareWithAll_13 : decode cX5_shareWithAll 13 = .ok (.aload_n 0, 1) := by decide +kernel
theorem dX5_shareWithAll_14 : decode cX5_shareWithAll 14 = .ok (.getfield 12, 3) := by decide +kernel
theorem dX5_shareWithAll_17 : decode cX5_shareWithAll 17 = .ok (.iload_n 2, 1) := by decide +kernel
theorem dX5_shareWithAll_18 : decode cX5_shareWithAll 18 = .ok (.invokevirtual 32, 3) := by decide +kernel
theorem dX5_shareWithAll_21 : decode cX5_shareWithAll 21 = .ok (.checkcast 36, 3) := by decide +kernel
theorem dX5_shareWithAll_24 : decode cX5_shareWithAll 24 = .ok (.astore_n 3, 1) := by decide +kernel
theorem dX5_shareWithAll_25 : decode cX5_shareWithAll 25 = .ok (.aload_n 1, 1) := by decide +kernel
theorem dX5_shareWithAll_26 : decode cX5_shareWithAll 26 = .ok (.aload_n 3, 1) := by decide +kernel
theorem dX5_shareWithAll_27 : decode cX5_shareWithAll 27 = .ok (.invokevirtual 55, 3) := by decide +kernel
theorem dX5_shareWithAll_30 : decode cX5_shareWithAll 30 = .ok (.istore 4, 2) := by decide +kernel
theorem dX5_shareWithAll_32 : decode cX5_shareWithAll 32 = .ok (.aload_n 1, 1) := by decide +kernel
theorem dX5_shareWithAll_33 : decode cX5_shareWithAll 33 = .ok (.getfield 59, 3) := by decide +kernel
theorem dX5_shareWithAll_36 : decode cX5_shareWithAll 36 = .ok (.aload_n 3, 1) := by decide +kernel
theorem dX5_shareWithAll_37 : decode cX5_shareWithAll 37 = .ok (.getfield 63, 3) := by decide +kernel
theorem dX5_shareWithAll_40 : decode cX5_shareWithAll 40 = .ok (.iload 4, 2) := by decide +kernel
theorem dX5_shareWithAll_42 : decode cX5_shareWithAll 42 = .ok (.iastore, 1) := by decide +kernel
theorem dX5_shareWithAll_43 : decode cX5_shareWithAll 43 = .ok (.aload_n 3, 1) := by decide +kernel
theorem dX5_shareWithAll_44 : decode cX5_shareWithAll 44 = .ok (.getfield 59, 3) := by decide +kernel
theorem dX5_shareWithAll_47 : decode cX5_shareWithAll 47 = .ok (.aload_n 1, 1) := by decide +kernel
theorem dX5_shareWithAll_48 : decode cX5_shareWithAll 48 = .ok (.getfield 63, 3) := by decide +kernel
theorem dX5_shareWithAll_51 : decode cX5_shareWithAll 51 = .ok (.iload 4, 2) := by decide +kernel
theorem dX5_shareWithAll_53 : decode cX5_shareWithAll 53 = .ok (.iastore, 1) := by decide +kernel
theorem dX5_shareWithAll_54 : decode cX5_shareWithAll 54 = .ok (.iinc 2 1, 3) := by decide +kernel
theorem dX5_shareWithAll_57 : decode cX5_shareWithAll 57 = .ok (.goto (-55), 3) := by decide +kernel
theorem dX5_shareWithAll_60 : decode cX5_shareWithAll 60 = .ok (.return_, 1) := by decide +kernel
theorem dX5_putAway_0 : decode cX5_putAway 0 = .ok (.aload_n 0, 1) := by decide +kernel
theorem dX5_putAway_1 : decode cX5_putAway 1 = .ok (.iload_n 1, 1) := by decide +kernel
theorem dX5_putAway_2 : decode cX5_putAway 2 = .ok (.invokevirtual 66, 3) := by decide +kernel
theorem dX5_putAway_5 : decode cX5_putAway 5 = .ok (.istore_n 2, 1) := by decide +kernel
theorem dX5_putAway_6 : decode cX5_putAway 6 = .ok (.iload_n 2, 1) := by decide +kernel
theorem dX5_putAway_7 : decode cX5_putAway 7 = .ok (.iconst (-1), 1) := by decide +kernel
theorem dX5_putAway_8 : decode cX5_putAway 8 = .ok (.if_icmp .ne 5, 3) := by decide +kernel
theorem dX5_putAway_11 : decode cX5_putAway 11 = .ok (.iconst 0, 1) := by decide +kernel
theorem dX5_putAway_12 : decode cX5_putAway 12 = .ok (.ireturn, 1) := by decide +kernel
theorem dX5_putAway_13 : decode cX5_putAway 13 = .ok (.aload_n 0, 1) := by decide +kernel
theorem dX5_putAway_14 : decode cX5_putAway 14 = .ok (.getfield 18, 3) := by decide +kernel
theorem dX5_putAway_17 : decode cX5_putAway 17 = .ok (.aload_n 0, 1) := by decide +kernel
theorem dX5_putAway_18 : decode cX5_putAway 18 = .ok (.getfield 12, 3) := by decide +kernel
theorem dX5_putAway_21 : decode cX5_putAway 21 = .ok (.iload_n 2, 1) := by decide +kernel
theorem dX5_putAway_22 : decode cX5_putAway 22 = .ok (.invokevirtual 48, 3) := by decide +kernel
theorem dX5_putAway_25 : decode cX5_putAway 25 = .ok (.checkcast 36, 3) := by decide +kernel
theorem dX5_putAway_28 : decode cX5_putAway 28 = .ok (.invokevirtual 51, 3) := by decide +kernel
theorem dX5_putAway_31 : decode cX5_putAway 31 = .ok (.pop, 1) := by decide +kernel
theorem dX5_putAway_32 : decode cX5_putAway 32 = .ok (.iconst 1, 1) := by decide +kernel
theorem dX5_putAway_33 : decode cX5_putAway 33 = .ok (.ireturn, 1) := by decide +kernel
theorem dX5_putAllAway_0 : decode cX5_putAllAway 0 = .ok (.aload_n 0, 1) := by decide +kernel
theorem dX5_putAllAway_1 : decode cX5_putAllAway 1 = .ok (.getfield 12, 3) := by decide +kernel
theorem dX5_putAllAway_4 : decode cX5_putAllAway 4 = .ok (.invokevirtual 24, 3) := by decide +kernel
theorem dX5_putAllAway_7 : decode cX5_putAllAway 7 = .ok (.istore_n 1, 1) := by decide +kernel
theorem dX5_putAllAway_8 : decode cX5_putAllAway 8 = .ok (.iconst 0, 1) := by decide +kernel
theorem dX5_putAllAway_9 : decode cX5_putAllAway 9 = .ok (.istore_n 2, 1) := by decide +kernel
theorem dX5_putAllAway_10 : decode cX5_putAllAway 10 = .ok (.iload_n 2, 1) := by decide +kernel
theorem dX5_putAllAway_11 : decode cX5_putAllAway 11 = .ok (.iload_n 1, 1) := by decide +kernel
theorem dX5_putAllAway_12 : decode cX5_putAllAway 12 = .ok (.if_icmp .ge 28, 3) := by decide +kernel
theorem dX5_putAllAway_15 : decode cX5_putAllAway 15 = .ok (.aload_n 0, 1) := by decide +kernel
theorem dX5_putAllAway_16 : decode cX5_putAllAway 16 = .ok (.getfield 18, 3) := by decide +kernel
theorem dX5_putAllAway_19 : decode cX5_putAllAway 19 = .ok (.aload_n 0, 1) := by decide +kernel
theorem dX5_putAllAway_20 : decode cX5_putAllAway 20 = .ok (.getfield 12, 3) := by decide +kernel
theorem dX5_putAllAway_23 : decode cX5_putAllAway 23 = .ok (.iload_n 2, 1) := by decide +kernel
theorem dX5_putAllAway_24 : decode cX5_putAllAway 24 = .ok (.invokevirtual 32, 3) := by decide +kernel
theorem dX5_putAllAway_27 : decode cX5_putAllAway 27 = .ok (.checkcast 36, 3) := by decide +kernel
theorem dX5_putAllAway_30 : decode cX5_putAllAway 30 = .ok (.invokevirtual 51, 3) := by decide +kernel
theorem dX5_putAllAway_33 : decode cX5_putAllAway 33 = .ok (.pop, 1) := by decide +kernel
theorem dX5_putAllAway_34 : decode cX5_putAllAway 34 = .ok (.iinc 2 1, 3) := by decide +kernel
theorem dX5_putAllAway_37 : decode cX5_putAllAway 37 = .ok (.goto (-27), 3) := by decide +kernel
theorem dX5_putAllAway_40 : decode cX5_putAllAway 40 = .ok (.aload_n 0, 1) := by decide +kernel
theorem dX5_putAllAway_41 : decode cX5_putAllAway 41 = .ok (.getfield 12, 3) := by decide +kernel
theorem dX5_putAllAway_44 : decode cX5_putAllAway 44 = .ok (.invokevirtual 70, 3) := by decide +kernel
theorem dX5_putAllAway_47 : decode cX5_putAllAway 47 = .ok (.aload_n 0, 1) := by decide +kernel
theorem dX5_putAllAway_48 : decode cX5_putAllAway 48 = .ok (.iconst 0, 1) := by decide +kernel
theorem dX5_putAllAway_49 : decode cX5_putAllAway 49 = .ok (.putfield 28, 3) := by decide +kernel
theorem dX5_putAllAway_52 : decode cX5_putAllAway 52 = .ok (.iload_n 1, 1) := by decide +kernel
theorem dX5_putAllAway_53 : decode cX5_putAllAway 53 = .ok (.ireturn, 1) := by decide +kernel
theorem dX5_othersByNearness_0 : decode cX5_othersByNearness 0 = .ok (.aload_n 0, 1) := by decide +kernel
theorem dX5_othersByNearness_1 : decode cX5_othersByNearness 1 = .ok (.getfield 21, 3) := by decide +kernel
theorem dX5_othersByNearness_4 : decode cX5_othersByNearness 4 = .ok (.invokevirtual 70, 3) := by decide +kernel
theorem dX5_othersByNearness_7 : decode cX5_othersByNearness 7 = .ok (.iconst 0, 1) := by decide +kernel
theorem dX5_othersByNearness_8 : decode cX5_othersByNearness 8 = .ok (.istore_n 3, 1) := by decide +kernel
theorem dX5_othersByNearness_9 : decode cX5_othersByNearness 9 = .ok (.iload_n 3, 1) := by decide +kernel
theorem dX5_othersByNearness_10 : decode cX5_othersByNearness 10 = .ok (.aload_n 0, 1) := by decide +kernel
theorem dX5_othersByNearness_11 : decode cX5_othersByNearness 11 = .ok (.getfield 12, 3) := by decide +kernel
theorem dX5_othersByNearness_14 : decode cX5_othersByNearness 14 = .ok (.invokevirtual 24, 3) := by decide +kernel
theorem dX5_othersByNearness_17 : decode cX5_othersByNearness 17 = .ok (.if_icmp .ge 45, 3) := by decide +kernel
theorem dX5_othersByNearness_20 : decode cX5_othersByNearness 20 = .ok (.aload_n 0, 1) := by decide +kernel
theorem dX5_othersByNearness_21 : decode cX5_othersByNearness 21 = .ok (.getfield 12, 3) := by decide +kernel
theorem dX5_othersByNearness_24 : decode cX5_othersByNearness 24 = .ok (.iload_n 3, 1) := by decide +kernel
theorem dX5_othersByNearness_25 : decode cX5_othersByNearness 25 = .ok (.invokevirtual 32, 3) := by decide +kernel
theorem dX5_othersByNearness_28 : decode cX5_othersByNearness 28 = .ok (.checkcast 36, 3) := by decide +kernel
theorem dX5_othersByNearness_31 : decode cX5_othersByNearness 31 = .ok (.astore 4, 2) := by decide +kernel
theorem dX5_othersByNearness_33 : decode cX5_othersByNearness 33 = .ok (.aload 4, 2) := by decide +kernel
theorem dX5_othersByNearness_35 : decode cX5_othersByNearness 35 = .ok (.aload_n 1, 1) := by decide +kernel
theorem dX5_othersByNearness_36 : decode cX5_othersByNearness 36 = .ok (.if_acmp .eq 20, 3) := by decide +kernel
theorem dX5_othersByNearness_39 : decode cX5_othersByNearness 39 = .ok (.aload_n 0, 1) := by decide +kernel
theorem dX5_othersByNearness_40 : decode cX5_othersByNearness 40 = .ok (.getfield 21, 3) := by decide +kernel
theorem dX5_othersByNearness_43 : decode cX5_othersByNearness 43 = .ok (.aload_n 0, 1) := by decide +kernel
theorem dX5_othersByNearness_44 : decode cX5_othersByNearness 44 = .ok (.aload 4, 2) := by decide +kernel
theorem dX5_othersByNearness_46 : decode cX5_othersByNearness 46 = .ok (.aload_n 1, 1) := by decide +kernel
theorem dX5_othersByNearness_47 : decode cX5_othersByNearness 47 = .ok (.aload_n 2, 1) := by decide +kernel
theorem dX5_othersByNearness_48 : decode cX5_othersByNearness 48 = .ok (.invokevirtual 73, 3) := by decide +kernel
theorem dX5_othersByNearness_51 : decode cX5_othersByNearness 51 = .ok (.aload 4, 2) := by decide +kernel
theorem dX5_othersByNearness_53 : decode cX5_othersByNearness 53 = .ok (.invokevirtual 77, 3) := by decide +kernel
theorem dX5_othersByNearness_56 : decode cX5_othersByNearness 56 = .ok (.iinc 3 1, 3) := by decide +kernel
theorem dX5_othersByNearness_59 : decode cX5_othersByNearness 59 = .ok (.goto (-50), 3) := by decide +kernel
theorem dX5_othersByNearness_62 : decode cX5_othersByNearness 62 = .ok (.aload_n 0, 1) := by decide +kernel
theorem dX5_othersByNearness_63 : decode cX5_othersByNearness 63 = .ok (.getfield 21, 3) := by decide +kernel
theorem dX5_othersByNearness_66 : decode cX5_othersByNearness 66 = .ok (.areturn, 1) := by decide +kernel
theorem dX5_rankOf_0 : decode cX5_rankOf 0 = .ok (.aload_n 0, 1) := by decide +kernel
theorem dX5_rankOf_1 : decode cX5_rankOf 1 = .ok (.getfield 21, 3) := by decide +kernel
theorem dX5_rankOf_4 : decode cX5_rankOf 4 = .ok (.invokevirtual 24, 3) := by decide +kernel
theorem dX5_rankOf_7 : decode cX5_rankOf 7 = .ok (.istore 4, 2) := by decide +kernel
theorem dX5_rankOf_9 : decode cX5_rankOf 9 = .ok (.iload 4, 2) := by decide +kernel
theorem dX5_rankOf_11 : decode cX5_rankOf 11 = .ok (.ifCond .le 35, 3) := by decide +kernel
theorem dX5_rankOf_14 : decode cX5_rankOf 14 = .ok (.aload_n 3, 1) := by decide +kernel
theorem dX5_rankOf_15 : decode cX5_rankOf 15 = .ok (.aload_n 2, 1) := by decide +kernel
theorem dX5_rankOf_16 : decode cX5_rankOf 16 = .ok (.aload_n 1, 1) := by decide +kernel
theorem dX5_rankOf_17 : decode cX5_rankOf 17 = .ok (.aload_n 0, 1) := by decide +kernel
theorem dX5_rankOf_18 : decode cX5_rankOf 18 = .ok (.getfield 21, 3) := by decide +kernel
theorem dX5_rankOf_21 : decode cX5_rankOf 21 = .ok (.iload 4, 2) := by decide +kernel
theorem dX5_rankOf_23 : decode cX5_rankOf 23 = .ok (.iconst 1, 1) := by decide +kernel
theorem dX5_rankOf_24 : decode cX5_rankOf 24 = .ok (.isub, 1) := by decide +kernel
theorem dX5_rankOf_25 : decode cX5_rankOf 25 = .ok (.invokevirtual 32, 3) := by decide +kernel
theorem dX5_rankOf_28 : decode cX5_rankOf 28 = .ok (.checkcast 36, 3) := by decide +kernel
theorem dX5_rankOf_31 : decode cX5_rankOf 31 = .ok (.invokevirtual 80, 3) := by decide +kernel
theorem dX5_rankOf_34 : decode cX5_rankOf 34 = .ok (.ifCond .ne 6, 3) := by decide +kernel
theorem dX5_rankOf_37 : decode cX5_rankOf 37 = .ok (.iload 4, 2) := by decide +kernel
theorem dX5_rankOf_39 : decode cX5_rankOf 39 = .ok (.ireturn, 1) := by decide +kernel
theorem dX5_rankOf_40 : decode cX5_rankOf 40 = .ok (.iinc 4 (-1), 3) := by decide +kernel
theorem dX5_rankOf_43 : decode cX5_rankOf 43 = .ok (.goto (-34), 3) := by decide +kernel
theorem dX5_rankOf_46 : decode cX5_rankOf 46 = .ok (.iconst 0, 1) := by decide +kernel
theorem dX5_rankOf_47 : decode cX5_rankOf 47 = .ok (.ireturn, 1) := by decide +kernel
theorem dX6_init_0 : decode cX6_init 0 = .ok (.aload_n 0, 1) := by decide +kernel
theorem dX6_init_1 : decode cX6_init 1 = .ok (.invokespecial 3, 3) := by decide +kernel
theorem dX6_init_4 : decode cX6_init 4 = .ok (.aload_n 0, 1) := by decide +kernel
theorem dX6_init_5 : decode cX6_init 5 = .ok (.ldc 9, 2) := by decide +kernel
theorem dX6_init_7 : decode cX6_init 7 = .ok (.newarray .byte, 2) := by decide +kernel
theorem dX6_init_9 : decode cX6_init 9 = .ok (.putfield 10, 3) := by decide +kernel
theorem dX6_init_12 : decode cX6_init 12 = .ok (.aload_n 0, 1) := by decide +kernel
theorem dX6_init_13 : decode cX6_init 13 = .ok (.sipush 6001, 3) := by decide +kernel
theorem dX6_init_16 : decode cX6_init 16 = .ok (.newarray .int, 2) := by decide +kernel
theorem dX6_init_18 : decode cX6_init 18 = .ok (.putfield 16, 3) := by decide +kernel
theorem dX6_init_21 : decode cX6_init 21 = .ok (.aload_n 0, 1) := by decide +kernel
theorem dX6_init_22 : decode cX6_init 22 = .ok (.sipush 6000, 3) := by decide +kernel
theorem dX6_init_25 : decode cX6_init 25 = .ok (.newarray .int, 2) := by decide +kernel
theorem dX6_init_27 : decode cX6_init 27 = .ok (.putfield 20, 3) := by decide +kernel
theorem dX6_init_30 : decode cX6_init 30 = .ok (.aload_n 0, 1) := by decide +kernel
theorem dX6_init_31 : decode cX6_init 31 = .ok (.sipush 16384, 3) := by decide +kernel
theorem dX6_init_34 : decode cX6_init 34 = .ok (.newarray .int, 2) := by decide +kernel
theorem dX6_init_36 : decode cX6_init 36 = .ok (.putfield 23, 3) := by decide +kernel
theorem dX6_init_39 : decode cX6_init 39 = .ok (.return_, 1) := by decide +kernel
theorem dX6_bytesUsed_0 : decode cX6_bytesUsed 0 = .ok (.aload_n 0, 1) := by decide +kernel
theorem dX6_bytesUsed_1 : decode cX6_bytesUsed 1 = .ok (.getfield 16, 3) := by decide +kernel
theorem dX6_bytesUsed_4 : decode cX6_bytesUsed 4 = .ok (.aload_n 0, 1) := by decide +kernel
theorem dX6_bytesUsed_5 : decode cX6_bytesUsed 5 = .ok (.getfield 26, 3) := by decide +kernel
theorem dX6_bytesUsed_8 : decode cX6_bytesUsed 8 = .ok (.iaload, 1) := by decide +kernel
theorem dX6_bytesUsed_9 : decode cX6_bytesUsed 9 = .ok (.ireturn, 1) := by decide +kernel
theorem dX6_byteOf_0 : decode cX6_byteOf 0 = .ok (.iload_n 1, 1) := by decide +kernel
theorem dX6_byteOf_1 : decode cX6_byteOf 1 = .ok (.ifCond .lt 34, 3) := by decide +kernel
theorem dX6_byteOf_4 : decode cX6_byteOf 4 = .ok (.iload_n 1, 1) := by decide +kernel
theorem dX6_byteOf_5 : decode cX6_byteOf 5 = .ok (.aload_n 0, 1) := by decide +kernel
theorem dX6_byteOf_6 : decode cX6_byteOf 6 = .ok (.getfield 26, 3) := by decide +kernel
theorem dX6_byteOf_9 : decode cX6_byteOf 9 = .ok (.if_icmp .ge 26, 3) := by decide +kernel
theorem dX6_byteOf_12 : decode cX6_byteOf 12 = .ok (.iload_n 2, 1) := by decide +kernel
theorem dX6_byteOf_13 : decode cX6_byteOf 13 = .ok (.ifCond .lt 22, 3) := by decide +kernel
theorem dX6_byteOf_16 : decode cX6_byteOf 16 = .ok (.iload_n 2, 1) := by decide +kernel
theorem dX6_byteOf_17 : decode cX6_byteOf 17 = .ok (.aload_n 0, 1) := by decide +kernel
theorem dX6_byteOf_18 : decode cX6_byteOf 18 = .ok (.getfield 16, 3) := by decide +kernel
theorem dX6_byteOf_21 : decode cX6_byteOf 21 = .ok (.iload_n 1, 1) := by decide +kernel
theorem dX6_byteOf_22 : decode cX6_byteOf 22 = .ok (.iconst 1, 1) := by decide +kernel
theorem dX6_byteOf_23 : decode cX6_byteOf 23 = .ok (.iadd, 1) := by decide +kernel
theorem dX6_byteOf_24 : decode cX6_byteOf 24 = .ok (.iaload, 1) := by decide +kernel
theorem dX6_byteOf_25 : decode cX6_byteOf 25 = .ok (.aload_n 0, 1) := by decide +kernel
theorem dX6_byteOf_26 : decode cX6_byteOf 26 = .ok (.getfield 16, 3) := by decide +kernel
theorem dX6_byteOf_29 : decode cX6_byteOf 29 = .ok (.iload_n 1, 1) := by decide +kernel
theorem dX6_byteOf_30 : decode cX6_byteOf 30 = .ok (.iaload, 1) := by decide +kernel
theorem dX6_byteOf_31 : decode cX6_byteOf 31 = .ok (.isub, 1) := by decide +kernel
theorem dX6_byteOf_32 : decode cX6_byteOf 32 = .ok (.if_icmp .lt 5, 3) := by decide +kernel
theorem dX6_byteOf_35 : decode cX6_byteOf 35 = .ok (.iconst (-1), 1) := by decide +kernel
theorem dX6_byteOf_36 : decode cX6_byteOf 36 = .ok (.ireturn, 1) := by decide +kernel
theorem dX6_byteOf_37 : decode cX6_byteOf 37 = .ok (.aload_n 0, 1) := by decide +kernel
theorem dX6_byteOf_38 : decode cX6_byteOf 38 = .ok (.getfield 10, 3) := by decide +kernel
theorem dX6_byteOf_41 : decode cX6_byteOf 41 = .ok (.aload_n 0, 1) := by decide +kernel
theorem dX6_byteOf_42 : decode cX6_byteOf 42 = .ok (.getfield 16, 3) := by decide +kernel
theorem dX6_byteOf_45 : decode cX6_byteOf 45 = .ok (.iload_n 1, 1) := by decide +kernel
theorem dX6_byteOf_46 : decode cX6_byteOf 46 = .ok (.iaload, 1) := by decide +kernel
theorem dX6_byteOf_47 : decode cX6_byteOf 47 = .ok (.iload_n 2, 1) := by decide +kernel
theorem dX6_byteOf_48 : decode cX6_byteOf 48 = .ok (.iadd, 1) := by decide +kernel
theorem dX6_byteOf_49 : decode cX6_byteOf 49 = .ok (.baload, 1) := by decide +kernel
theorem dX6_byteOf_50 : decode cX6_byteOf 50 = .ok (.ireturn, 1) := by decide +kernel
theorem dX6_numberOf_0 : decode cX6_numberOf 0 = .ok (.aload_n 1, 1) := by decide +kernel
theorem dX6_numberOf_1 : decode cX6_numberOf 1 = .ok (.iload_n 2, 1) := by decide +kernel
theorem dX6_numberOf_2 : decode cX6_numberOf 2 = .ok (.iload_n 3, 1) := by decide +kernel
theorem dX6_numberOf_3 : decode cX6_numberOf 3 = .ok (.invokestatic 30, 3) := by decide +kernel
theorem dX6_numberOf_6 : decode cX6_numberOf 6 = .ok (.istore 4, 2) := by decide +kernel
theorem dX6_numberOf_8 : decode cX6_numberOf 8 = .ok (.iconst 0, 1) := by decide +kernel
theorem dX6_numberOf_9 : decode cX6_numberOf 9 = .ok (.istore 5, 2) := by decide +kernel
theorem dX6_numberOf_11 : decode cX6_numberOf 11 = .ok (.iload 5, 2) := by decide +kernel
theorem dX6_numberOf_13 : decode cX6_numberOf 13 = .ok (.sipush 16384, 3) := by decide +kernel
theorem dX6_numberOf_16 : decode cX6_numberOf 16 = .ok (.if_icmp .ge 60, 3) := by decide +kernel
theorem dX6_numberOf_19 : decode cX6_numberOf 19 = .ok (.aload_n 0, 1) := by decide +kernel
theorem dX6_numberOf_20 : decode cX6_numberOf 20 = .ok (.getfield 23, 3) := by decide +kernel
theorem dX6_numberOf_23 : decode cX6_numberOf 23 = .ok (.iload 4, 2) := by decide +kernel
theorem dX6_numberOf_25 : decode cX6_numberOf 25 = .ok (.iaload, 1) := by decide +kernel
theorem dX6_numberOf_26 : decode cX6_numberOf 26 = .ok (.iconst 1, 1) := by decide +kernel
theorem dX6_numberOf_27 : decode cX6_numberOf 27 = .ok (.isub, 1) := by decide +kernel
theorem dX6_numberOf_28 : decode cX6_numberOf 28 = .ok (.istore 6, 2) := by decide +kernel
theorem dX6_numberOf_30 : decode cX6_numberOf 30 = .ok (.iload 6, 2) := by decide +kernel
theorem dX6_numberOf_32 : decode cX6_numberOf 32 = .ok (.ifCond .ge 13, 3) := by decide +kernel
theorem dX6_numberOf_35 : decode cX6_numberOf 35 = .ok (.aload_n 0, 1) := by decide +kernel
theorem dX6_numberOf_36 : decode cX6_numberOf 36 = .ok (.aload_n 1, 1) := by decide +kernel
theorem dX6_numberOf_37 : decode cX6_numberOf 37 = .ok (.iload_n 2, 1) := by decide +kernel
theorem dX6_numberOf_38 : decode cX6_numberOf 38 = .ok (.iload_n 3, 1) := by decide +kernel
theorem dX6_numberOf_39 : decode cX6_numberOf 39 = .ok (.iload 4, 2) := by decide +kernel
theorem dX6_numberOf_41 : decode cX6_numberOf 41 = .ok (.invokevirtual 34, 3) := by decide +kernel
theorem dX6_numberOf_44 : decode cX6_numberOf 44 = .ok (.ireturn, 1) := by decide +kernel
theorem dX6_numberOf_45 : decode cX6_numberOf 45 = .ok (.aload_n 0, 1) := by decide +kernel
theorem dX6_numberOf_46 : decode cX6_numberOf 46 = .ok (.iload 6, 2) := by decide +kernel
theorem dX6_numberOf_48 : decode cX6_numberOf 48 = .ok (.aload_n 1, 1) := by decide +kernel
theorem dX6_numberOf_49 : decode cX6_numberOf 49 = .ok (.iload_n 2, 1) := by decide +kernel
theorem dX6_numberOf_50 : decode cX6_numberOf 50 = .ok (.iload_n 3, 1) := by decide +kernel
theorem dX6_numberOf_51 : decode cX6_numberOf 51 = .ok (.invokevirtual 38, 3) := by decide +kernel
theorem dX6_numberOf_54 : decode cX6_numberOf 54 = .ok (.ifCond .eq 6, 3) := by decide +kernel
theorem dX6_numberOf_57 : decode cX6_numberOf 57 = .ok (.iload 6, 2) := by decide +kernel
theorem dX6_numberOf_59 : decode cX6_numberOf 59 = .ok (.ireturn, 1) := by decide +kernel
theorem dX6_numberOf_60 : decode cX6_numberOf 60 = .ok (.iload 4, 2) := by decide +kernel
theorem dX6_numberOf_62 : decode cX6_numberOf 62 = .ok (.iconst 1, 1) := by decide +kernel
theorem dX6_numberOf_63 : decode cX6_numberOf 63 = .ok (.iadd, 1) := by decide +kernel
theorem dX6_numberOf_64 : decode cX6_numberOf 64 = .ok (.sipush 16383, 3) := by decide +kernel
theorem dX6_numberOf_67 : decode cX6_numberOf 67 = .ok (.iand, 1) := by decide +kernel
theorem dX6_numberOf_68 : decode cX6_numberOf 68 = .ok (.istore 4, 2) := by decide +kernel
theorem dX6_numberOf_70 : decode cX6_numberOf 70 = .ok (.iinc 5 1, 3) := by decide +kernel
theorem dX6_numberOf_73 : decode cX6_numberOf 73 = .ok (.goto (-62), 3) := by decide +kernel
theorem dX6_numberOf_76 : decode cX6_numberOf 76 = .ok (.iconst (-1), 1) := by decide +kernel
theorem dX6_numberOf_77 : decode cX6_numberOf 77 = .ok (.ireturn, 1) := by decide +kernel
theorem dX6_firstSeat_0 : decode cX6_firstSeat 0 = .ok (.iconst 0, 1) := by decide +kernel
theorem dX6_firstSeat_1 : decode cX6_firstSeat 1 = .ok (.istore_n 3, 1) := by decide +kernel
theorem dX6_firstSeat_2 : decode cX6_firstSeat 2 = .ok (.iload_n 1, 1) := by decide +kernel
theorem dX6_firstSeat_3 : decode cX6_firstSeat 3 = .ok (.istore 4, 2) := by decide +kernel
theorem dX6_firstSeat_5 : decode cX6_firstSeat 5 = .ok (.iload 4, 2) := by decide +kernel
theorem dX6_firstSeat_7 : decode cX6_firstSeat 7 = .ok (.iload_n 2, 1) := by decide +kernel
theorem dX6_firstSeat_8 : decode cX6_firstSeat 8 = .ok (.if_icmp .ge 19, 3) := by decide +kernel
theorem dX6_firstSeat_11 : decode cX6_firstSeat 11 = .ok (.iload_n 3, 1) := by decide +kernel
theorem dX6_firstSeat_12 : decode cX6_firstSeat 12 = .ok (.bipush 31, 2) := by decide +kernel
theorem dX6_firstSeat_14 : decode cX6_firstSeat 14 = .ok (.imul, 1) := by decide +kernel
theorem dX6_firstSeat_15 : decode cX6_firstSeat 15 = .ok (.aload_n 0, 1) := by decide +kernel
theorem dX6_firstSeat_16 : decode cX6_firstSeat 16 = .ok (.iload 4, 2) := by decide +kernel
theorem dX6_firstSeat_18 : decode cX6_firstSeat 18 = .ok (.baload, 1) := by decide +kernel
theorem dX6_firstSeat_19 : decode cX6_firstSeat 19 = .ok (.iadd, 1) := by decide +kernel
theorem dX6_firstSeat_20 : decode cX6_firstSeat 20 = .ok (.istore_n 3, 1) := by decide +kernel
theorem dX6_firstSeat_21 : decode cX6_firstSeat 21 = .ok (.iinc 4 1, 3) := by decide +kernel
theorem dX6_firstSeat_24 : decode cX6_firstSeat 24 = .ok (.goto (-19), 3) := by decide +kernel
theorem dX6_firstSeat_27 : decode cX6_firstSeat 27 = .ok (.iload_n 3, 1) := by decide +kernel
theorem dX6_firstSeat_28 : decode cX6_firstSeat 28 = .ok (.iload_n 3, 1) := by decide +kernel
theorem dX6_firstSeat_29 : decode cX6_firstSeat 29 = .ok (.bipush 14, 2) := by decide +kernel
theorem dX6_firstSeat_31 : decode cX6_firstSeat 31 = .ok (.iushr, 1) := by decide +kernel
theorem dX6_firstSeat_32 : decode cX6_firstSeat 32 = .ok (.ixor, 1) := by decide +kernel
theorem dX6_firstSeat_33 : decode cX6_firstSeat 33 = .ok (.sipush 16383, 3) := by decide +kernel
theorem dX6_firstSeat_36 : decode cX6_firstSeat 36 = .ok (.iand, 1) := by decide +kernel
theorem dX6_firstSeat_37 : decode cX6_firstSeat 37 = .ok (.ireturn, 1) := by decide +kernel
theorem dX6_isThere_0 : decode cX6_isThere 0 = .ok (.aload_n 0, 1) := by decide +kernel
theorem dX6_isThere_1 : decode cX6_isThere 1 = .ok (.getfield 16, 3) := by decide +kernel
theorem dX6_isThere_4 : decode cX6_isThere 4 = .ok (.iload_n 1, 1) := by decide +kernel
theorem dX6_isThere_5 : decode cX6_isThere 5 = .ok (.iaload, 1) := by decide +kernel
theorem dX6_isThere_6 : decode cX6_isThere 6 = .ok (.istore 5, 2) := by decide +kernel
theorem dX6_isThere_8 : decode cX6_isThere 8 = .ok (.aload_n 0, 1) := by decide +kernel
theorem dX6_isThere_9 : decode cX6_isThere 9 = .ok (.getfield 16, 3) := by decide +kernel
theorem dX6_isThere_12 : decode cX6_isThere 12 = .ok (.iload_n 1, 1) := by decide +kernel
theorem dX6_isThere_13 : decode cX6_isThere 13 = .ok (.iconst 1, 1) := by decide +kernel
theorem dX6_isThere_14 : decode cX6_isThere 14 = .ok (.iadd, 1) := by decide +kernel
theorem dX6_isThere_15 : decode cX6_isThere 15 = .ok (.iaload, 1) := by decide +kernel
theorem dX6_isThere_16 : decode cX6_isThere 16 = .ok (.iload 5, 2) := by decide +kernel
theorem dX6_isThere_18 : decode cX6_isThere 18 = .ok (.isub, 1) := by decide +kernel
theorem dX6_isThere_19 : decode cX6_isThere 19 = .ok (.iload 4, 2) := by decide +kernel
theorem dX6_isThere_21 : decode cX6_isThere 21 = .ok (.iload_n 3, 1) := by decide +kernel
theorem dX6_isThere_22 : decode cX6_isThere 22 = .ok (.isub, 1) := by decide +kernel
theorem dX6_isThere_23 : decode cX6_isThere 23 = .ok (.if_icmp .eq 5, 3) := by decide +kernel
theorem dX6_isThere_26 : decode cX6_isThere 26 = .ok (.iconst 0, 1) := by decide +kernel
theorem dX6_isThere_27 : decode cX6_isThere 27 = .ok (.ireturn, 1) := by decide +kernel
theorem dX6_isThere_28 : decode cX6_isThere 28 = .ok (.iload_n 3, 1) := by decide +kernel
theorem dX6_isThere_29 : decode cX6_isThere 29 = .ok (.istore 6, 2) := by decide +kernel
theorem dX6_isThere_31 : decode cX6_isThere 31 = .ok (.iload 6, 2) := by decide +kernel
theorem dX6_isThere_33 : decode cX6_isThere 33 = .ok (.iload 4, 2) := by decide +kernel
theorem dX6_isThere_35 : decode cX6_isThere 35 = .ok (.if_icmp .ge 30, 3) := by decide +kernel
theorem dX6_isThere_38 : decode cX6_isThere 38 = .ok (.aload_n 0, 1) := by decide +kernel
theorem dX6_isThere_39 : decode cX6_isThere 39 = .ok (.getfield 10, 3) := by decide +kernel
theorem dX6_isThere_42 : decode cX6_isThere 42 = .ok (.iload 5, 2) := by decide +kernel
theorem dX6_isThere_44 : decode cX6_isThere 44 = .ok (.iload 6, 2) := by decide +kernel
theorem dX6_isThere_46 : decode cX6_isThere 46 = .ok (.iadd, 1) := by decide +kernel
theorem dX6_isThere_47 : decode cX6_isThere 47 = .ok (.iload_n 3, 1) := by decide +kernel
theorem dX6_isThere_48 : decode cX6_isThere 48 = .ok (.isub, 1) := by decide +kernel
theorem dX6_isThere_49 : decode cX6_isThere 49 = .ok (.baload, 1) := by decide +kernel
theorem dX6_isThere_50 : decode cX6_isThere 50 = .ok (.aload_n 2, 1) := by decide +kernel
theorem dX6_isThere_51 : decode cX6_isThere 51 = .ok (.iload 6, 2) := by decide +kernel
theorem dX6_isThere_53 : decode cX6_isThere 53 = .ok (.baload, 1) := by decide +kernel
theorem dX6_isThere_54 : decode cX6_isThere 54 = .ok (.if_icmp .eq 5, 3) := by decide +kernel
theorem dX6_isThere_57 : decode cX6_isThere 57 = .ok (.iconst 0, 1) := by decide +kernel
theorem dX6_isThere_58 : decode cX6_isThere 58 = .ok (.ireturn, 1) := by decide +kernel
theorem dX6_isThere_59 : decode cX6_isThere 59 = .ok (.iinc 6 1, 3) := by decide +kernel
theorem dX6_isThere_62 : decode cX6_isThere 62 = .ok (.goto (-31), 3) := by decide +kernel
theorem dX6_isThere_65 : decode cX6_isThere 65 = .ok (.iconst 1, 1) := by decide +kernel
theorem dX6_isThere_66 : decode cX6_isThere 66 = .ok (.ireturn, 1) := by decide +kernel
theorem dX6_enter_0 : decode cX6_enter 0 = .ok (.aload_n 0, 1) := by decide +kernel
theorem dX6_enter_1 : decode cX6_enter 1 = .ok (.getfield 16, 3) := by decide +kernel
theorem dX6_enter_4 : decode cX6_enter 4 = .ok (.aload_n 0, 1) := by decide +kernel
theorem dX6_enter_5 : decode cX6_enter 5 = .ok (.getfield 26, 3) := by decide +kernel
theorem dX6_enter_8 : decode cX6_enter 8 = .ok (.iaload, 1) := by decide +kernel
theorem dX6_enter_9 : decode cX6_enter 9 = .ok (.istore 5, 2) := by decide +kernel
theorem dX6_enter_11 : decode cX6_enter 11 = .ok (.aload_n 0, 1) := by decide +kernel
theorem dX6_enter_12 : decode cX6_enter 12 = .ok (.getfield 26, 3) := by decide +kernel
theorem dX6_enter_15 : decode cX6_enter 15 = .ok (.sipush 6000, 3) := by decide +kernel
theorem dX6_enter_18 : decode cX6_enter 18 = .ok (.if_icmp .ge 14, 3) := by decide +kernel
theorem dX6_enter_21 : decode cX6_enter 21 = .ok (.iload 5, 2) := by decide +kernel
theorem dX6_enter_23 : decode cX6_enter 23 = .ok (.iload_n 3, 1) := by decide +kernel
theorem dX6_enter_24 : decode cX6_enter 24 = .ok (.iadd, 1) := by decide +kernel
theorem dX6_enter_25 : decode cX6_enter 25 = .ok (.iload_n 2, 1) := by decide +kernel
theorem dX6_enter_26 : decode cX6_enter 26 = .ok (.isub, 1) := by decide +kernel
theorem dX6_enter_27 : decode cX6_enter 27 = .ok (.ldc 9, 2) := by decide +kernel
theorem dX6_enter_29 : decode cX6_enter 29 = .ok (.if_icmp .le 5, 3) := by decide +kernel
theorem dX6_enter_32 : decode cX6_enter 32 = .ok (.iconst (-1), 1) := by decide +kernel
theorem dX6_enter_33 : decode cX6_enter 33 = .ok (.ireturn, 1) := by decide +kernel
theorem dX6_enter_34 : decode cX6_enter 34 = .ok (.iload_n 2, 1) := by decide +kernel
theorem dX6_enter_35 : decode cX6_enter 35 = .ok (.istore 6, 2) := by decide +kernel
theorem dX6_enter_37 : decode cX6_enter 37 = .ok (.iload 6, 2) := by decide +kernel
theorem dX6_enter_39 : decode cX6_enter 39 = .ok (.iload_n 3, 1) := by decide +kernel
theorem dX6_enter_40 : decode cX6_enter 40 = .ok (.if_icmp .ge 25, 3) := by decide +kernel
theorem dX6_enter_43 : decode cX6_enter 43 = .ok (.aload_n 0, 1) := by decide +kernel
theorem dX6_enter_44 : decode cX6_enter 44 = .ok (.getfield 10, 3) := by decide +kernel
theorem dX6_enter_47 : decode cX6_enter 47 = .ok (.iload 5, 2) := by decide +kernel
theorem dX6_enter_49 : decode cX6_enter 49 = .ok (.iload 6, 2) := by decide +kernel
theorem dX6_enter_51 : decode cX6_enter 51 = .ok (.iadd, 1) := by decide +kernel
theorem dX6_enter_52 : decode cX6_enter 52 = .ok (.iload_n 2, 1) := by decide +kernel
theorem dX6_enter_53 : decode cX6_enter 53 = .ok (.isub, 1) := by decide +kernel
theorem dX6_enter_54 : decode cX6_enter 54 = .ok (.aload_n 1, 1) := by decide +kernel
theorem dX6_enter_55 : decode cX6_enter 55 = .ok (.iload 6, 2) := by decide +kernel
theorem dX6_enter_57 : decode cX6_enter 57 = .ok (.baload, 1) := by decide +kernel
theorem dX6_enter_58 : decode cX6_enter 58 = .ok (.bastore, 1) := by decide +kernel
theorem dX6_enter_59 : decode cX6_enter 59 = .ok (.iinc 6 1, 3) := by decide +kernel
theorem dX6_enter_62 : decode cX6_enter 62 = .ok (.goto (-25), 3) := by decide +kernel
theorem dX6_enter_65 : decode cX6_enter 65 = .ok (.aload_n 0, 1) := by decide +kernel
theorem dX6_enter_66 : decode cX6_enter 66 = .ok (.getfield 23, 3) := by decide +kernel
theorem dX6_enter_69 : decode cX6_enter 69 = .ok (.iload 4, 2) := by decide +kernel
theorem dX6_enter_71 : decode cX6_enter 71 = .ok (.aload_n 0, 1) := by decide +kernel
theorem dX6_enter_72 : decode cX6_enter 72 = .ok (.getfield 26, 3) := by decide +kernel
theorem dX6_enter_75 : decode cX6_enter 75 = .ok (.iconst 1, 1) := by decide +kernel
theorem dX6_enter_76 : decode cX6_enter 76 = .ok (.iadd, 1) := by decide +kernel
theorem dX6_enter_77 : decode cX6_enter 77 = .ok (.iastore, 1) := by decide +kernel
theorem dX6_enter_78 : decode cX6_enter 78 = .ok (.aload_n 0, 1) := by decide +kernel
theorem dX6_enter_79 : decode cX6_enter 79 = .ok (.getfield 20, 3) := by decide +kernel
theorem dX6_enter_82 : decode cX6_enter 82 = .ok (.aload_n 0, 1) := by decide +kernel
theorem dX6_enter_83 : decode cX6_enter 83 = .ok (.getfield 26, 3) := by decide +kernel
theorem dX6_enter_86 : decode cX6_enter 86 = .ok (.iload 4, 2) := by decide +kernel
theorem dX6_enter_88 : decode cX6_enter 88 = .ok (.iastore, 1) := by decide +kernel
theorem dX6_enter_89 : decode cX6_enter 89 = .ok (.aload_n 0, 1) := by decide +kernel
theorem dX6_enter_90 : decode cX6_enter 90 = .ok (.dup, 1) := by decide +kernel
theorem dX6_enter_91 : decode cX6_enter 91 = .ok (.getfield 26, 3) := by decide +kernel
theorem dX6_enter_94 : decode cX6_enter 94 = .ok (.iconst 1, 1) := by decide +kernel
theorem dX6_enter_95 : decode cX6_enter 95 = .ok (.iadd, 1) := by decide +kernel
theorem dX6_enter_96 : decode cX6_enter 96 = .ok (.putfield 26, 3) := by decide +kernel
theorem dX6_enter_99 : decode cX6_enter 99 = .ok (.aload_n 0, 1) := by decide +kernel
theorem dX6_enter_100 : decode cX6_enter 100 = .ok (.getfield 16, 3) := by decide +kernel
theorem dX6_enter_103 : decode cX6_enter 103 = .ok (.aload_n 0, 1) := by decide +kernel
theorem dX6_enter_104 : decode cX6_enter 104 = .ok (.getfield 26, 3) := by decide +kernel
theorem dX6_enter_107 : decode cX6_enter 107 = .ok (.iload 5, 2) := by decide +kernel
theorem dX6_enter_109 : decode cX6_enter 109 = .ok (.iload_n 3, 1) := by decide +kernel
theorem dX6_enter_110 : decode cX6_enter 110 = .ok (.iadd, 1) := by decide +kernel
theorem dX6_enter_111 : decode cX6_enter 111 = .ok (.iload_n 2, 1) := by decide +kernel
theorem dX6_enter_112 : decode cX6_enter 112 = .ok (.isub, 1) := by decide +kernel
theorem dX6_enter_113 : decode cX6_enter 113 = .ok (.iastore, 1) := by decide +kernel
theorem dX6_enter_114 : decode cX6_enter 114 = .ok (.aload_n 0, 1) := by decide +kernel
theorem dX6_enter_115 : decode cX6_enter 115 = .ok (.getfield 26, 3) := by decide +kernel
theorem dX6_enter_118 : decode cX6_enter 118 = .ok (.iconst 1, 1) := by decide +kernel
theorem dX6_enter_119 : decode cX6_enter 119 = .ok (.isub, 1) := by decide +kernel
theorem dX6_enter_120 : decode cX6_enter 120 = .ok (.ireturn, 1) := by decide +kernel
theorem dX6_forgetFrom_0 : decode cX6_forgetFrom 0 = .ok (.aload_n 0, 1) := by decide +kernel
theorem dX6_forgetFrom_1 : decode cX6_forgetFrom 1 = .ok (.getfield 26, 3) := by decide +kernel
theorem dX6_forgetFrom_4 : decode cX6_forgetFrom 4 = .ok (.iconst 1, 1) := by decide +kernel
theorem dX6_forgetFrom_5 : decode cX6_forgetFrom 5 = .ok (.isub, 1) := by decide +kernel
theorem dX6_forgetFrom_6 : decode cX6_forgetFrom 6 = .ok (.istore_n 2, 1) := by decide +kernel
theorem dX6_forgetFrom_7 : decode cX6_forgetFrom 7 = .ok (.iload_n 2, 1) := by decide +kernel
theorem dX6_forgetFrom_8 : decode cX6_forgetFrom 8 = .ok (.iload_n 1, 1) := by decide +kernel
theorem dX6_forgetFrom_9 : decode cX6_forgetFrom 9 = .ok (.if_icmp .lt 30, 3) := by decide +kernel
theorem dX6_forgetFrom_12 : decode cX6_forgetFrom 12 = .ok (.iload_n 2, 1) := by decide +kernel
theorem dX6_forgetFrom_13 : decode cX6_forgetFrom 13 = .ok (.ifCond .lt 26, 3) := by decide +kernel
theorem dX6_forgetFrom_16 : decode cX6_forgetFrom 16 = .ok (.aload_n 0, 1) := by decide +kernel
theorem dX6_forgetFrom_17 : decode cX6_forgetFrom 17 = .ok (.getfield 23, 3) := by decide +kernel
theorem dX6_forgetFrom_20 : decode cX6_forgetFrom 20 = .ok (.aload_n 0, 1) := by decide +kernel
theorem dX6_forgetFrom_21 : decode cX6_forgetFrom 21 = .ok (.getfield 20, 3) := by decide +kernel
theorem dX6_forgetFrom_24 : decode cX6_forgetFrom 24 = .ok (.iload_n 2, 1) := by decide +kernel
theorem dX6_forgetFrom_25 : decode cX6_forgetFrom 25 = .ok (.iaload, 1) := by decide +kernel
theorem dX6_forgetFrom_26 : decode cX6_forgetFrom 26 = .ok (.iconst 0, 1) := by decide +kernel
theorem dX6_forgetFrom_27 : decode cX6_forgetFrom 27 = .ok (.iastore, 1) := by decide +kernel
theorem dX6_forgetFrom_28 : decode cX6_forgetFrom 28 = .ok (.aload_n 0, 1) := by decide +kernel
theorem dX6_forgetFrom_29 : decode cX6_forgetFrom 29 = .ok (.iload_n 2, 1) := by decide +kernel
theorem dX6_forgetFrom_30 : decode cX6_forgetFrom 30 = .ok (.putfield 26, 3) := by decide +kernel
theorem dX6_forgetFrom_33 : decode cX6_forgetFrom 33 = .ok (.iinc 2 (-1), 3) := by decide +kernel
theorem dX6_forgetFrom_36 : decode cX6_forgetFrom 36 = .ok (.goto (-29), 3) := by decide +kernel
theorem dX6_forgetFrom_39 : decode cX6_forgetFrom 39 = .ok (.return_, 1) := by decide +kernel
theorem dX7_init_0 : decode cX7_init 0 = .ok (.aload_n 0, 1) := by decide +kernel
theorem dX7_init_1 : decode cX7_init 1 = .ok (.invokespecial 3, 3) := by decide +kernel
theorem dX7_init_4 : decode cX7_init 4 = .ok (.aload_n 0, 1) := by decide +kernel
theorem dX7_init_5 : decode cX7_init 5 = .ok (.sipush 800, 3) := by decide +kernel
theorem dX7_init_8 : decode cX7_init 8 = .ok (.newarray .byte, 2) := by decide +kernel
theorem dX7_init_10 : decode cX7_init 10 = .ok (.putfield 9, 3) := by decide +kernel
theorem dX7_init_13 : decode cX7_init 13 = .ok (.aload_n 0, 1) := by decide +kernel
theorem dX7_init_14 : decode cX7_init 14 = .ok (.sipush 800, 3) := by decide +kernel
theorem dX7_init_17 : decode cX7_init 17 = .ok (.newarray .byte, 2) := by decide +kernel
theorem dX7_init_19 : decode cX7_init 19 = .ok (.putfield 15, 3) := by decide +kernel
theorem dX7_init_22 : decode cX7_init 22 = .ok (.aload_n 0, 1) := by decide +kernel
theorem dX7_init_23 : decode cX7_init 23 = .ok (.sipush 801, 3) := by decide +kernel
theorem dX7_init_26 : decode cX7_init 26 = .ok (.newarray .int, 2) := by decide +kernel
theorem dX7_init_28 : decode cX7_init 28 = .ok (.putfield 18, 3) := by decide +kernel
theorem dX7_init_31 : decode cX7_init 31 = .ok (.return_, 1) := by decide +kernel
theorem dX7_putFour_0 : decode cX7_putFour 0 = .ok (.bipush 24, 2) := by decide +kernel
theorem dX7_putFour_2 : decode cX7_putFour 2 = .ok (.istore_n 2, 1) := by decide +kernel
theorem dX7_putFour_3 : decode cX7_putFour 3 = .ok (.iload_n 2, 1) := by decide +kernel
theorem dX7_putFour_4 : decode cX7_putFour 4 = .ok (.ifCond .lt 42, 3) := by decide +kernel
theorem dX7_putFour_7 : decode cX7_putFour 7 = .ok (.aload_n 0, 1) := by decide +kernel
theorem dX7_putFour_8 : decode cX7_putFour 8 = .ok (.getfield 22, 3) := by decide +kernel
theorem dX7_putFour_11 : decode cX7_putFour 11 = .ok (.sipush 800, 3) := by decide +kernel
theorem dX7_putFour_14 : decode cX7_putFour 14 = .ok (.if_icmp .ge 26, 3) := by decide +kernel
theorem dX7_putFour_17 : decode cX7_putFour 17 = .ok (.aload_n 0, 1) := by decide +kernel
theorem dX7_putFour_18 : decode cX7_putFour 18 = .ok (.getfield 9, 3) := by decide +kernel
theorem dX7_putFour_21 : decode cX7_putFour 21 = .ok (.aload_n 0, 1) := by decide +kernel
theorem dX7_putFour_22 : decode cX7_putFour 22 = .ok (.getfield 22, 3) := by decide +kernel
theorem dX7_putFour_25 : decode cX7_putFour 25 = .ok (.iload_n 1, 1) := by decide +kernel
theorem dX7_putFour_26 : decode cX7_putFour 26 = .ok (.iload_n 2, 1) := by decide +kernel
theorem dX7_putFour_27 : decode cX7_putFour 27 = .ok (.iushr, 1) := by decide +kernel
theorem dX7_putFour_28 : decode cX7_putFour 28 = .ok (.i2b, 1) := by decide +kernel
theorem dX7_putFour_29 : decode cX7_putFour 29 = .ok (.bastore, 1) := by decide +kernel
theorem dX7_putFour_30 : decode cX7_putFour 30 = .ok (.aload_n 0, 1) := by decide +kernel
theorem dX7_putFour_31 : decode cX7_putFour 31 = .ok (.dup, 1) := by decide +kernel
theorem dX7_putFour_32 : decode cX7_putFour 32 = .ok (.getfield 22, 3) := by decide +kernel
theorem dX7_putFour_35 : decode cX7_putFour 35 = .ok (.iconst 1, 1) := by decide +kernel
theorem dX7_putFour_36 : decode cX7_putFour 36 = .ok (.iadd, 1) := by decide +kernel
theorem dX7_putFour_37 : decode cX7_putFour 37 = .ok (.putfield 22, 3) := by decide +kernel
theorem dX7_putFour_40 : decode cX7_putFour 40 = .ok (.iinc 2 (-8), 3) := by decide +kernel
theorem dX7_putFour_43 : decode cX7_putFour 43 = .ok (.goto (-40), 3) := by decide +kernel
theorem dX7_putFour_46 : decode cX7_putFour 46 = .ok (.return_, 1) := by decide +kernel
theorem dX7_cutTo_0 : decode cX7_cutTo 0 = .ok (.iload_n 1, 1) := by decide +kernel
theorem dX7_cutTo_1 : decode cX7_cutTo 1 = .ok (.ifCond .lt 11, 3) := by decide +kernel
theorem dX7_cutTo_4 : decode cX7_cutTo 4 = .ok (.iload_n 1, 1) := by decide +kernel
theorem dX7_cutTo_5 : decode cX7_cutTo 5 = .ok (.aload_n 0, 1) := by decide +kernel
theorem dX7_cutTo_6 : decode cX7_cutTo 6 = .ok (.getfield 22, 3) := by decide +kernel
theorem dX7_cutTo_9 : decode cX7_cutTo 9 = .ok (.if_icmp .le 5, 3) := by decide +kernel
theorem dX7_cutTo_12 : decode cX7_cutTo 12 = .ok (.iconst 0, 1) := by decide +kernel
theorem dX7_cutTo_13 : decode cX7_cutTo 13 = .ok (.ireturn, 1) := by decide +kernel
theorem dX7_cutTo_14 : decode cX7_cutTo 14 = .ok (.aload_n 0, 1) := by decide +kernel
theorem dX7_cutTo_15 : decode cX7_cutTo 15 = .ok (.iload_n 1, 1) := by decide +kernel
theorem dX7_cutTo_16 : decode cX7_cutTo 16 = .ok (.putfield 22, 3) := by decide +kernel
theorem dX7_cutTo_19 : decode cX7_cutTo 19 = .ok (.iconst 1, 1) := by decide +kernel
theorem dX7_cutTo_20 : decode cX7_cutTo 20 = .ok (.ireturn, 1) := by decide +kernel
theorem dX7_makePlain_0 : decode cX7_makePlain 0 = .ok (.aload_n 0, 1) := by decide +kernel
theorem dX7_makePlain_1 : decode cX7_makePlain 1 = .ok (.iconst 0, 1) := by decide +kernel
theorem dX7_makePlain_2 : decode cX7_makePlain 2 = .ok (.putfield 26, 3) := by decide +kernel
theorem dX7_makePlain_5 : decode cX7_makePlain 5 = .ok (.iconst 0, 1) := by decide +kernel
theorem dX7_makePlain_6 : decode cX7_makePlain 6 = .ok (.istore_n 1, 1) := by decide +kernel
theorem dX7_makePlain_7 : decode cX7_makePlain 7 = .ok (.iconst 0, 1) := by decide +kernel
theorem dX7_makePlain_8 : decode cX7_makePlain 8 = .ok (.istore_n 2, 1) := by decide +kernel
theorem dX7_makePlain_9 : decode cX7_makePlain 9 = .ok (.iload_n 2, 1) := by decide +kernel
theorem dX7_makePlain_10 : decode cX7_makePlain 10 = .ok (.aload_n 0, 1) := by decide +kernel
theorem dX7_makePlain_11 : decode cX7_makePlain 11 = .ok (.getfield 22, 3) := by decide +kernel
theorem dX7_makePlain_14 : decode cX7_makePlain 14 = .ok (.if_icmp .ge 58, 3) := by decide +kernel
theorem dX7_makePlain_17 : decode cX7_makePlain 17 = .ok (.aload_n 0, 1) := by decide +kernel
theorem dX7_makePlain_18 : decode cX7_makePlain 18 = .ok (.getfield 9, 3) := by decide +kernel
theorem dX7_makePlain_21 : decode cX7_makePlain 21 = .ok (.iload_n 2, 1) := by decide +kernel
theorem dX7_makePlain_22 : decode cX7_makePlain 22 = .ok (.baload, 1) := by decide +kernel
theorem dX7_makePlain_23 : decode cX7_makePlain 23 = .ok (.invokestatic 29, 3) := by decide +kernel
theorem dX7_makePlain_26 : decode cX7_makePlain 26 = .ok (.istore_n 3, 1) := by decide +kernel
theorem dX7_makePlain_27 : decode cX7_makePlain 27 = .ok (.iload_n 3, 1) := by decide +kernel
theorem dX7_makePlain_28 : decode cX7_makePlain 28 = .ok (.bipush 32, 2) := by decide +kernel
theorem dX7_makePlain_30 : decode cX7_makePlain 30 = .ok (.if_icmp .ne 19, 3) := by decide +kernel
theorem dX7_makePlain_33 : decode cX7_makePlain 33 = .ok (.aload_n 0, 1) := by decide +kernel
theorem dX7_makePlain_34 : decode cX7_makePlain 34 = .ok (.getfield 26, 3) := by decide +kernel
theorem dX7_makePlain_37 : decode cX7_makePlain 37 = .ok (.ifCond .le 7, 3) := by decide +kernel
theorem dX7_makePlain_40 : decode cX7_makePlain 40 = .ok (.iconst 1, 1) := by decide +kernel
theorem dX7_makePlain_41 : decode cX7_makePlain 41 = .ok (.goto 4, 3) := by decide +kernel
theorem dX7_makePlain_44 : decode cX7_makePlain 44 = .ok (.iconst 0, 1) := by decide +kernel
theorem dX7_makePlain_45 : decode cX7_makePlain 45 = .ok (.istore_n 1, 1) := by decide +kernel
theorem dX7_makePlain_46 : decode cX7_makePlain 46 = .ok (.goto 20, 3) := by decide +kernel
theorem dX7_makePlain_49 : decode cX7_makePlain 49 = .ok (.iload_n 1, 1) := by decide +kernel
theorem dX7_makePlain_50 : decode cX7_makePlain 50 = .ok (.ifCond .eq 9, 3) := by decide +kernel
theorem dX7_makePlain_53 : decode cX7_makePlain 53 = .ok (.aload_n 0, 1) := by decide +kernel
theorem dX7_makePlain_54 : decode cX7_makePlain 54 = .ok (.bipush 32, 2) := by decide +kernel
theorem dX7_makePlain_56 : decode cX7_makePlain 56 = .ok (.invokevirtual 33, 3) := by decide +kernel
theorem dX7_makePlain_59 : decode cX7_makePlain 59 = .ok (.iconst 0, 1) := by decide +kernel
theorem dX7_makePlain_60 : decode cX7_makePlain 60 = .ok (.istore_n 1, 1) := by decide +kernel
theorem dX7_makePlain_61 : decode cX7_makePlain 61 = .ok (.aload_n 0, 1) := by decide +kernel
theorem dX7_makePlain_62 : decode cX7_makePlain 62 = .ok (.iload_n 3, 1) := by decide +kernel
theorem dX7_makePlain_63 : decode cX7_makePlain 63 = .ok (.invokevirtual 33, 3) := by decide +kernel
theorem dX7_makePlain_66 : decode cX7_makePlain 66 = .ok (.iinc 2 1, 3) := by decide +kernel
theorem dX7_makePlain_69 : decode cX7_makePlain 69 = .ok (.goto (-60), 3) := by decide +kernel
theorem dX7_makePlain_72 : decode cX7_makePlain 72 = .ok (.aload_n 0, 1) := by decide +kernel
theorem dX7_makePlain_73 : decode cX7_makePlain 73 = .ok (.getfield 26, 3) := by decide +kernel
theorem dX7_makePlain_76 : decode cX7_makePlain 76 = .ok (.ireturn, 1) := by decide +kernel
theorem dX7_putPlain_0 : decode cX7_putPlain 0 = .ok (.aload_n 0, 1) := by decide +kernel
theorem dX7_putPlain_1 : decode cX7_putPlain 1 = .ok (.getfield 26, 3) := by decide +kernel
theorem dX7_putPlain_4 : decode cX7_putPlain 4 = .ok (.sipush 800, 3) := by decide +kernel
theorem dX7_putPlain_7 : decode cX7_putPlain 7 = .ok (.if_icmp .ge 24, 3) := by decide +kernel
theorem dX7_putPlain_10 : decode cX7_putPlain 10 = .ok (.aload_n 0, 1) := by decide +kernel
theorem dX7_putPlain_11 : decode cX7_putPlain 11 = .ok (.getfield 15, 3) := by decide +kernel
theorem dX7_putPlain_14 : decode cX7_putPlain 14 = .ok (.aload_n 0, 1) := by decide +kernel
theorem dX7_putPlain_15 : decode cX7_putPlain 15 = .ok (.getfield 26, 3) := by decide +kernel
theorem dX7_putPlain_18 : decode cX7_putPlain 18 = .ok (.iload_n 1, 1) := by decide +kernel
theorem dX7_putPlain_19 : decode cX7_putPlain 19 = .ok (.i2b, 1) := by decide +kernel
theorem dX7_putPlain_20 : decode cX7_putPlain 20 = .ok (.bastore, 1) := by decide +kernel
theorem dX7_putPlain_21 : decode cX7_putPlain 21 = .ok (.aload_n 0, 1) := by decide +kernel
theorem dX7_putPlain_22 : decode cX7_putPlain 22 = .ok (.dup, 1) := by decide +kernel
theorem dX7_putPlain_23 : decode cX7_putPlain 23 = .ok (.getfield 26, 3) := by decide +kernel
theorem dX7_putPlain_26 : decode cX7_putPlain 26 = .ok (.iconst 1, 1) := by decide +kernel
theorem dX7_putPlain_27 : decode cX7_putPlain 27 = .ok (.iadd, 1) := by decide +kernel
theorem dX7_putPlain_28 : decode cX7_putPlain 28 = .ok (.putfield 26, 3) := by decide +kernel
theorem dX7_putPlain_31 : decode cX7_putPlain 31 = .ok (.return_, 1) := by decide +kernel
theorem dX7_plainSign_0 : decode cX7_plainSign 0 = .ok (.iload_n 0, 1) := by decide +kernel
theorem dX7_plainSign_1 : decode cX7_plainSign 1 = .ok (.bipush 65, 2) := by decide +kernel
theorem dX7_plainSign_3 : decode cX7_plainSign 3 = .ok (.if_icmp .lt 17, 3) := by decide +kernel
theorem dX7_plainSign_6 : decode cX7_plainSign 6 = .ok (.iload_n 0, 1) := by decide +kernel
theorem dX7_plainSign_7 : decode cX7_plainSign 7 = .ok (.bipush 90, 2) := by decide +kernel
theorem dX7_plainSign_9 : decode cX7_plainSign 9 = .ok (.if_icmp .gt 11, 3) := by decide +kernel
theorem dX7_plainSign_12 : decode cX7_plainSign 12 = .ok (.iload_n 0, 1) := by decide +kernel
theorem dX7_plainSign_13 : decode cX7_plainSign 13 = .ok (.bipush 65, 2) := by decide +kernel
theorem dX7_plainSign_15 : decode cX7_plainSign 15 = .ok (.isub, 1) := by decide +kernel
theorem dX7_plainSign_16 : decode cX7_plainSign 16 = .ok (.bipush 97, 2) := by decide +kernel
theorem dX7_plainSign_18 : decode cX7_plainSign 18 = .ok (.iadd, 1) := by decide +kernel
theorem dX7_plainSign_19 : decode cX7_plainSign 19 = .ok (.ireturn, 1) := by decide +kernel
theorem dX7_plainSign_20 : decode cX7_plainSign 20 = .ok (.iload_n 0, 1) := by decide +kernel
theorem dX7_plainSign_21 : decode cX7_plainSign 21 = .ok (.bipush 97, 2) := by decide +kernel
theorem dX7_plainSign_23 : decode cX7_plainSign 23 = .ok (.if_icmp .lt 9, 3) := by decide +kernel
theorem dX7_plainSign_26 : decode cX7_plainSign 26 = .ok (.iload_n 0, 1) := by decide +kernel
theorem dX7_plainSign_27 : decode cX7_plainSign 27 = .ok (.bipush 122, 2) := by decide +kernel
theorem dX7_plainSign_29 : decode cX7_plainSign 29 = .ok (.if_icmp .le 15, 3) := by decide +kernel
theorem dX7_plainSign_32 : decode cX7_plainSign 32 = .ok (.iload_n 0, 1) := by decide +kernel
theorem dX7_plainSign_33 : decode cX7_plainSign 33 = .ok (.bipush 48, 2) := by decide +kernel
theorem dX7_plainSign_35 : decode cX7_plainSign 35 = .ok (.if_icmp .lt 13, 3) := by decide +kernel
theorem dX7_plainSign_38 : decode cX7_plainSign 38 = .ok (.iload_n 0, 1) := by decide +kernel
theorem dX7_plainSign_39 : decode cX7_plainSign 39 = .ok (.bipush 57, 2) := by decide +kernel
theorem dX7_plainSign_41 : decode cX7_plainSign 41 = .ok (.if_icmp .gt 7, 3) := by decide +kernel
theorem dX7_plainSign_44 : decode cX7_plainSign 44 = .ok (.iconst 1, 1) := by decide +kernel
theorem dX7_plainSign_45 : decode cX7_plainSign 45 = .ok (.goto 4, 3) := by decide +kernel
theorem dX7_plainSign_48 : decode cX7_plainSign 48 = .ok (.iconst 0, 1) := by decide +kernel
theorem dX7_plainSign_49 : decode cX7_plainSign 49 = .ok (.istore_n 1, 1) := by decide +kernel
theorem dX7_plainSign_50 : decode cX7_plainSign 50 = .ok (.iload_n 1, 1) := by decide +kernel
theorem dX7_plainSign_51 : decode cX7_plainSign 51 = .ok (.ifCond .eq 7, 3) := by decide +kernel
theorem dX7_plainSign_54 : decode cX7_plainSign 54 = .ok (.iload_n 0, 1) := by decide +kernel
theorem dX7_plainSign_55 : decode cX7_plainSign 55 = .ok (.goto 5, 3) := by decide +kernel
theorem dX7_plainSign_58 : decode cX7_plainSign 58 = .ok (.bipush 32, 2) := by decide +kernel
theorem dX7_plainSign_60 : decode cX7_plainSign 60 = .ok (.ireturn, 1) := by decide +kernel
theorem dX7_markPieces_0 : decode cX7_markPieces 0 = .ok (.aload_n 0, 1) := by decide +kernel
theorem dX7_markPieces_1 : decode cX7_markPieces 1 = .ok (.iload_n 1, 1) := by decide +kernel
theorem dX7_markPieces_2 : decode cX7_markPieces 2 = .ok (.ifCond .eq 7, 3) := by decide +kernel
theorem dX7_markPieces_5 : decode cX7_markPieces 5 = .ok (.iconst 1, 1) := by decide +kernel
theorem dX7_markPieces_6 : decode cX7_markPieces 6 = .ok (.goto 4, 3) := by decide +kernel
theorem dX7_markPieces_9 : decode cX7_markPieces 9 = .ok (.iconst 0, 1) := by decide +kernel
theorem dX7_markPieces_10 : decode cX7_markPieces 10 = .ok (.putfield 37, 3) := by decide +kernel
theorem dX7_markPieces_13 : decode cX7_markPieces 13 = .ok (.aload_n 0, 1) := by decide +kernel
theorem dX7_markPieces_14 : decode cX7_markPieces 14 = .ok (.iconst 0, 1) := by decide +kernel
theorem dX7_markPieces_15 : decode cX7_markPieces 15 = .ok (.putfield 40, 3) := by decide +kernel
theorem dX7_markPieces_18 : decode cX7_markPieces 18 = .ok (.iconst 0, 1) := by decide +kernel
theorem dX7_markPieces_19 : decode cX7_markPieces 19 = .ok (.istore_n 2, 1) := by decide +kernel
theorem dX7_markPieces_20 : decode cX7_markPieces 20 = .ok (.iload_n 2, 1) := by decide +kernel
theorem dX7_markPieces_21 : decode cX7_markPieces 21 = .ok (.aload_n 0, 1) := by decide +kernel
theorem dX7_markPieces_22 : decode cX7_markPieces 22 = .ok (.getfield 26, 3) := by decide +kernel
theorem dX7_markPieces_25 : decode cX7_markPieces 25 = .ok (.if_icmp .ge 50, 3) := by decide +kernel
theorem dX7_markPieces_28 : decode cX7_markPieces 28 = .ok (.iload_n 1, 1) := by decide +kernel
theorem dX7_markPieces_29 : decode cX7_markPieces 29 = .ok (.ifCond .eq 20, 3) := by decide +kernel
theorem dX7_markPieces_32 : decode cX7_markPieces 32 = .ok (.iload_n 2, 1) := by decide +kernel
theorem dX7_markPieces_33 : decode cX7_markPieces 33 = .ok (.ifCond .eq 16, 3) := by decide +kernel
theorem dX7_markPieces_36 : decode cX7_markPieces 36 = .ok (.aload_n 0, 1) := by decide +kernel
theorem dX7_markPieces_37 : decode cX7_markPieces 37 = .ok (.getfield 15, 3) := by decide +kernel
theorem dX7_markPieces_40 : decode cX7_markPieces 40 = .ok (.iload_n 2, 1) := by decide +kernel
theorem dX7_markPieces_41 : decode cX7_markPieces 41 = .ok (.iconst 1, 1) := by decide +kernel
theorem dX7_markPieces_42 : decode cX7_markPieces 42 = .ok (.isub, 1) := by decide +kernel
theorem dX7_markPieces_43 : decode cX7_markPieces 43 = .ok (.baload, 1) := by decide +kernel
theorem dX7_markPieces_44 : decode cX7_markPieces 44 = .ok (.bipush 32, 2) := by decide +kernel
theorem dX7_markPieces_46 : decode cX7_markPieces 46 = .ok (.if_icmp .ne 23, 3) := by decide +kernel
theorem dX7_markPieces_49 : decode cX7_markPieces 49 = .ok (.aload_n 0, 1) := by decide +kernel
theorem dX7_markPieces_50 : decode cX7_markPieces 50 = .ok (.getfield 18, 3) := by decide +kernel
theorem dX7_markPieces_53 : decode cX7_markPieces 53 = .ok (.aload_n 0, 1) := by decide +kernel
theorem dX7_markPieces_54 : decode cX7_markPieces 54 = .ok (.getfield 40, 3) := by decide +kernel
theorem dX7_markPieces_57 : decode cX7_markPieces 57 = .ok (.iload_n 2, 1) := by decide +kernel
theorem dX7_markPieces_58 : decode cX7_markPieces 58 = .ok (.iastore, 1) := by decide +kernel
theorem dX7_markPieces_59 : decode cX7_markPieces 59 = .ok (.aload_n 0, 1) := by decide +kernel
theorem dX7_markPieces_60 : decode cX7_markPieces 60 = .ok (.dup, 1) := by decide +kernel
theorem dX7_markPieces_61 : decode cX7_markPieces 61 = .ok (.getfield 40, 3) := by decide +kernel
theorem dX7_markPieces_64 : decode cX7_markPieces 64 = .ok (.iconst 1, 1) := by decide +kernel
theorem dX7_markPieces_65 : decode cX7_markPieces 65 = .ok (.iadd, 1) := by decide +kernel
theorem dX7_markPieces_66 : decode cX7_markPieces 66 = .ok (.putfield 40, 3) := by decide +kernel
theorem dX7_markPieces_69 : decode cX7_markPieces 69 = .ok (.iinc 2 1, 3) := by decide +kernel
theorem dX7_markPieces_72 : decode cX7_markPieces 72 = .ok (.goto (-52), 3) := by decide +kernel
theorem dX7_markPieces_75 : decode cX7_markPieces 75 = .ok (.aload_n 0, 1) := by decide +kernel
theorem dX7_markPieces_76 : decode cX7_markPieces 76 = .ok (.getfield 18, 3) := by decide +kernel
theorem dX7_markPieces_79 : decode cX7_markPieces 79 = .ok (.aload_n 0, 1) := by decide +kernel
theorem dX7_markPieces_80 : decode cX7_markPieces 80 = .ok (.getfield 40, 3) := by decide +kernel
theorem dX7_markPieces_83 : decode cX7_markPieces 83 = .ok (.aload_n 0, 1) := by decide +kernel
theorem dX7_markPieces_84 : decode cX7_markPieces 84 = .ok (.getfield 26, 3) := by decide +kernel
theorem dX7_markPieces_87 : decode cX7_markPieces 87 = .ok (.aload_n 0, 1) := by decide +kernel
theorem dX7_markPieces_88 : decode cX7_markPieces 88 = .ok (.getfield 37, 3) := by decide +kernel
theorem dX7_markPieces_91 : decode cX7_markPieces 91 = .ok (.iadd, 1) := by decide +kernel
theorem dX7_markPieces_92 : decode cX7_markPieces 92 = .ok (.iastore, 1) := by decide +kernel
theorem dX7_markPieces_93 : decode cX7_markPieces 93 = .ok (.return_, 1) := by decide +kernel
theorem dJ13_bitCount_95d88_0 : decode cJ13_bitCount_95d88 0 = .ok (.lload_n 0, 1) := by decide +kernel
theorem dJ13_bitCount_95d88_1 : decode cJ13_bitCount_95d88 1 = .ok (.lload_n 0, 1) := by decide +kernel
theorem dJ13_bitCount_95d88_2 : decode cJ13_bitCount_95d88 2 = .ok (.iconst 1, 1) := by decide +kernel
theorem dJ13_bitCount_95d88_3 : decode cJ13_bitCount_95d88 3 = .ok (.lushr, 1) := by decide +kernel
theorem dJ13_bitCount_95d88_4 : decode cJ13_bitCount_95d88 4 = .ok (.ldc2_w 314, 3) := by decide +kernel
theorem dJ13_bitCount_95d88_7 : decode cJ13_bitCount_95d88 7 = .ok (.land, 1) := by decide +kernel
theorem dJ13_bitCount_95d88_8 : decode cJ13_bitCount_95d88 8 = .ok (.lsub, 1) := by decide +kernel
theorem dJ13_bitCount_95d88_9 : decode cJ13_bitCount_95d88 9 = .ok (.lstore_n 0, 1) := by decide +kernel
theorem dJ13_bitCount_95d88_10 : decode cJ13_bitCount_95d88 10 = .ok (.lload_n 0, 1) := by decide +kernel
theorem dJ13_bitCount_95d88_11 : decode cJ13_bitCount_95d88 11 = .ok (.ldc2_w 316, 3) := by decide +kernel
theorem dJ13_bitCount_95d88_14 : decode cJ13_bitCount_95d88 14 = .ok (.land, 1) := by decide +kernel
theorem dJ13_bitCount_95d88_15 : decode cJ13_bitCount_95d88 15 = .ok (.lload_n 0, 1) := by decide +kernel
theorem dJ13_bitCount_95d88_16 : decode cJ13_bitCount_95d88 16 = .ok (.iconst 2, 1) := by decide +kernel
theorem dJ13_bitCount_95d88_17 : decode cJ13_bitCount_95d88 17 = .ok (.lushr, 1) := by decide +kernel
theorem dJ13_bitCount_95d88_18 : decode cJ13_bitCount_95d88 18 = .ok (.ldc2_w 316, 3) := by decide +kernel
theorem dJ13_bitCount_95d88_21 : decode cJ13_bitCount_95d88 21 = .ok (.land, 1) := by decide +kernel
theorem dJ13_bitCount_95d88_22 : decode cJ13_bitCount_95d88 22 = .ok (.ladd, 1) := by decide +kernel
theorem dJ13_bitCount_95d88_23 : decode cJ13_bitCount_95d88 23 = .ok (.lstore_n 0, 1) := by decide +kernel
theorem dJ13_bitCount_95d88_24 : decode cJ13_bitCount_95d88 24 = .ok (.lload_n 0, 1) := by decide +kernel
theorem dJ13_bitCount_95d88_25 : decode cJ13_bitCount_95d88 25 = .ok (.lload_n 0, 1) := by decide +kernel
theorem dJ13_bitCount_95d88_26 : decode cJ13_bitCount_95d88 26 = .ok (.iconst 4, 1) := by decide +kernel
theorem dJ13_bitCount_95d88_27 : decode cJ13_bitCount_95d88 27 = .ok (.lushr, 1) := by decide +kernel
theorem dJ13_bitCount_95d88_28 : decode cJ13_bitCount_95d88 28 = .ok (.ladd, 1) := by decide +kernel
theorem dJ13_bitCount_95d88_29 : decode cJ13_bitCount_95d88 29 = .ok (.ldc2_w 318, 3) := by decide +kernel
theorem dJ13_bitCount_95d88_32 : decode cJ13_bitCount_95d88 32 = .ok (.land, 1) := by decide +kernel
theorem dJ13_bitCount_95d88_33 : decode cJ13_bitCount_95d88 33 = .ok (.lstore_n 0, 1) := by decide +kernel
theorem dJ13_bitCount_95d88_34 : decode cJ13_bitCount_95d88 34 = .ok (.lload_n 0, 1) := by decide +kernel
theorem dJ13_bitCount_95d88_35 : decode cJ13_bitCount_95d88 35 = .ok (.lload_n 0, 1) := by decide +kernel
theorem dJ13_bitCount_95d88_36 : decode cJ13_bitCount_95d88 36 = .ok (.bipush 8, 2) := by decide +kernel
theorem dJ13_bitCount_95d88_38 : decode cJ13_bitCount_95d88 38 = .ok (.lushr, 1) := by decide +kernel
theorem dJ13_bitCount_95d88_39 : decode cJ13_bitCount_95d88 39 = .ok (.ladd, 1) := by decide +kernel
theorem dJ13_bitCount_95d88_40 : decode cJ13_bitCount_95d88 40 = .ok (.lstore_n 0, 1) := by decide +kernel
theorem dJ13_bitCount_95d88_41 : decode cJ13_bitCount_95d88 41 = .ok (.lload_n 0, 1) := by decide +kernel
theorem dJ13_bitCount_95d88_42 : decode cJ13_bitCount_95d88 42 = .ok (.lload_n 0, 1) := by decide +kernel
theorem dJ13_bitCount_95d88_43 : decode cJ13_bitCount_95d88 43 = .ok (.bipush 16, 2) := by decide +kernel
theorem dJ13_bitCount_95d88_45 : decode cJ13_bitCount_95d88 45 = .ok (.lushr, 1) := by decide +kernel
theorem dJ13_bitCount_95d88_46 : decode cJ13_bitCount_95d88 46 = .ok (.ladd, 1) := by decide +kernel
theorem dJ13_bitCount_95d88_47 : decode cJ13_bitCount_95d88 47 = .ok (.lstore_n 0, 1) := by decide +kernel
theorem dJ13_bitCount_95d88_48 : decode cJ13_bitCount_95d88 48 = .ok (.lload_n 0, 1) := by decide +kernel
theorem dJ13_bitCount_95d88_49 : decode cJ13_bitCount_95d88 49 = .ok (.lload_n 0, 1) := by decide +kernel
theorem dJ13_bitCount_95d88_50 : decode cJ13_bitCount_95d88 50 = .ok (.bipush 32, 2) := by decide +kernel
theorem dJ13_bitCount_95d88_52 : decode cJ13_bitCount_95d88 52 = .ok (.lushr, 1) := by decide +kernel
theorem dJ13_bitCount_95d88_53 : decode cJ13_bitCount_95d88 53 = .ok (.ladd, 1) := by decide +kernel
theorem dJ13_bitCount_95d88_54 : decode cJ13_bitCount_95d88 54 = .ok (.lstore_n 0, 1) := by decide +kernel
theorem dJ13_bitCount_95d88_55 : decode cJ13_bitCount_95d88 55 = .ok (.lload_n 0, 1) := by decide +kernel
theorem dJ13_bitCount_95d88_56 : decode cJ13_bitCount_95d88 56 = .ok (.l2i, 1) := by decide +kernel
theorem dJ13_bitCount_95d88_57 : decode cJ13_bitCount_95d88 57 = .ok (.bipush 127, 2) := by decide +kernel
theorem dJ13_bitCount_95d88_59 : decode cJ13_bitCount_95d88 59 = .ok (.iand, 1) := by decide +kernel
theorem dJ13_bitCount_95d88_60 : decode cJ13_bitCount_95d88 60 = .ok (.ireturn, 1) := by decide +kernel
theorem dJ9_max_7cf53_0 : decode cJ9_max_7cf53 0 = .ok (.iload_n 0, 1) := by decide +kernel
theorem dJ9_max_7cf53_1 : decode cJ9_max_7cf53 1 = .ok (.iload_n 1, 1) := by decide +kernel
theorem dJ9_max_7cf53_2 : decode cJ9_max_7cf53 2 = .ok (.if_icmp .lt 7, 3) := by decide +kernel
theorem dJ9_max_7cf53_5 : decode cJ9_max_7cf53 5 = .ok (.iload_n 0, 1) := by decide +kernel
theorem dJ9_max_7cf53_6 : decode cJ9_max_7cf53 6 = .ok (.goto 4, 3) := by decide +kernel
theorem dJ9_max_7cf53_9 : decode cJ9_max_7cf53 9 = .ok (.iload_n 1, 1) := by decide +kernel
theorem dJ9_max_7cf53_10 : decode cJ9_max_7cf53 10 = .ok (.ireturn, 1) := by decide +kernel
theorem dJ9_min_7cf53_0 : decode cJ9_min_7cf53 0 = .ok (.iload_n 0, 1) := by decide +kernel
theorem dJ9_min_7cf53_1 : decode cJ9_min_7cf53 1 = .ok (.iload_n 1, 1) := by decide +kernel
theorem dJ9_min_7cf53_2 : decode cJ9_min_7cf53 2 = .ok (.if_icmp .gt 7, 3) := by decide +kernel
theorem dJ9_min_7cf53_5 : decode cJ9_min_7cf53 5 = .ok (.iload_n 0, 1) := by decide +kernel
theorem dJ9_min_7cf53_6 : decode cJ9_min_7cf53 6 = .ok (.goto 4, 3) := by decide +kernel
theorem dJ9_min_7cf53_9 : decode cJ9_min_7cf53 9 = .ok (.iload_n 1, 1) := by decide +kernel
theorem dJ9_min_7cf53_10 : decode cJ9_min_7cf53 10 = .ok (.ireturn, 1) := by decide +kernel
theorem dJxa1e45_init_da8c8_0 : decode cJxa1e45_init_da8c8 0 = .ok (.aload_n 0, 1) := by decide +kernel
theorem dJxa1e45_init_da8c8_1 : decode cJxa1e45_init_da8c8 1 = .ok (.invokespecial 1, 3) := by decide +kernel
theorem dJxa1e45_init_da8c8_4 : decode cJxa1e45_init_da8c8 4 = .ok (.return_, 1) := by decide +kernel
theorem dJxc12de_init_da8c8_0 : decode cJxc12de_init_da8c8 0 = .ok (.aload_n 0, 1) := by decide +kernel
theorem dJxc12de_init_da8c8_1 : decode cJxc12de_init_da8c8 1 = .ok (.invokespecial 1, 3) := by decide +kernel
theorem dJxc12de_init_da8c8_4 : decode cJxc12de_init_da8c8 4 = .ok (.aload_n 0, 1) := by decide +kernel
theorem dJxc12de_init_da8c8_5 : decode cJxc12de_init_da8c8 5 = .ok (.iconst 0, 1) := by decide +kernel
theorem dJxc12de_init_da8c8_6 : decode cJxc12de_init_da8c8 6 = .ok (.putfield 7, 3) := by decide +kernel
theorem dJxc12de_init_da8c8_9 : decode cJxc12de_init_da8c8 9 = .ok (.return_, 1) := by decide +kernel
theorem dJx4a65c_init_da8c8_0 : decode cJx4a65c_init_da8c8 0 = .ok (.aload_n 0, 1) := by decide +kernel
theorem dJx4a65c_init_da8c8_1 : decode cJx4a65c_init_da8c8 1 = .ok (.invokespecial 1, 3) := by decide +kernel
theorem dJx4a65c_init_da8c8_4 : decode cJx4a65c_init_da8c8 4 = .ok (.aload_n 0, 1) := by decide +kernel
theorem dJx4a65c_init_da8c8_5 : decode cJx4a65c_init_da8c8 5 = .ok (.getstatic 39, 3) := by decide +kernel
theorem dJx4a65c_init_da8c8_8 : decode cJx4a65c_init_da8c8 8 = .ok (.putfield 9, 3) := by decide +kernel
theorem dJx4a65c_init_da8c8_11 : decode cJx4a65c_init_da8c8 11 = .ok (.return_, 1) := by decide +kernel
theorem dJx4a65c_grow_92f84_0 : decode cJx4a65c_grow_92f84 0 = .ok (.aload_n 0, 1) := by decide +kernel
theorem dJx4a65c_grow_92f84_1 : decode cJx4a65c_grow_92f84 1 = .ok (.getfield 9, 3) := by decide +kernel
theorem dJx4a65c_grow_92f84_4 : decode cJx4a65c_grow_92f84 4 = .ok (.arraylength, 1) := by decide +kernel
theorem dJx4a65c_grow_92f84_5 : decode cJx4a65c_grow_92f84 5 = .ok (.istore_n 2, 1) := by decide +kernel
theorem dJx4a65c_grow_92f84_6 : decode cJx4a65c_grow_92f84 6 = .ok (.iload_n 2, 1) := by decide +kernel
theorem dJx4a65c_grow_92f84_7 : decode cJx4a65c_grow_92f84 7 = .ok (.ifCond .gt 13, 3) := by decide +kernel
theorem dJx4a65c_grow_92f84_10 : decode cJx4a65c_grow_92f84 10 = .ok (.aload_n 0, 1) := by decide +kernel
theorem dJx4a65c_grow_92f84_11 : decode cJx4a65c_grow_92f84 11 = .ok (.getfield 9, 3) := by decide +kernel
theorem dJx4a65c_grow_92f84_14 : decode cJx4a65c_grow_92f84 14 = .ok (.getstatic 39, 3) := by decide +kernel
theorem dJx4a65c_grow_92f84_17 : decode cJx4a65c_grow_92f84 17 = .ok (.if_acmp .eq 28, 3) := by decide +kernel
theorem dJx4a65c_grow_92f84_20 : decode cJx4a65c_grow_92f84 20 = .ok (.iload_n 2, 1) := by decide +kernel
theorem dJx4a65c_grow_92f84_21 : decode cJx4a65c_grow_92f84 21 = .ok (.iload_n 1, 1) := by decide +kernel
theorem dJx4a65c_grow_92f84_22 : decode cJx4a65c_grow_92f84 22 = .ok (.iload_n 2, 1) := by decide +kernel
theorem dJx4a65c_grow_92f84_23 : decode cJx4a65c_grow_92f84 23 = .ok (.isub, 1) := by decide +kernel
theorem dJx4a65c_grow_92f84_24 : decode cJx4a65c_grow_92f84 24 = .ok (.iload_n 2, 1) := by decide +kernel
theorem dJx4a65c_grow_92f84_25 : decode cJx4a65c_grow_92f84 25 = .ok (.iconst 1, 1) := by decide +kernel
theorem dJx4a65c_grow_92f84_26 : decode cJx4a65c_grow_92f84 26 = .ok (.ishr, 1) := by decide +kernel
theorem dJx4a65c_grow_92f84_27 : decode cJx4a65c_grow_92f84 27 = .ok (.invokestatic 73, 3) := by decide +kernel
theorem dJx4a65c_grow_92f84_30 : decode cJx4a65c_grow_92f84 30 = .ok (.istore_n 3, 1) := by decide +kernel
theorem dJx4a65c_grow_92f84_31 : decode cJx4a65c_grow_92f84 31 = .ok (.aload_n 0, 1) := by decide +kernel
theorem dJx4a65c_grow_92f84_32 : decode cJx4a65c_grow_92f84 32 = .ok (.aload_n 0, 1) := by decide +kernel
theorem dJx4a65c_grow_92f84_33 : decode cJx4a65c_grow_92f84 33 = .ok (.getfield 9, 3) := by decide +kernel
theorem dJx4a65c_grow_92f84_36 : decode cJx4a65c_grow_92f84 36 = .ok (.iload_n 3, 1) := by decide +kernel
theorem dJx4a65c_grow_92f84_37 : decode cJx4a65c_grow_92f84 37 = .ok (.invokestatic 66, 3) := by decide +kernel
theorem dJx4a65c_grow_92f84_40 : decode cJx4a65c_grow_92f84 40 = .ok (.dup_x1, 1) := by decide +kernel
theorem dJx4a65c_grow_92f84_41 : decode cJx4a65c_grow_92f84 41 = .ok (.putfield 9, 3) := by decide +kernel
theorem dJx4a65c_grow_92f84_44 : decode cJx4a65c_grow_92f84 44 = .ok (.areturn, 1) := by decide +kernel
theorem dJx4a65c_grow_92f84_45 : decode cJx4a65c_grow_92f84 45 = .ok (.aload_n 0, 1) := by decide +kernel
theorem dJx4a65c_grow_92f84_46 : decode cJx4a65c_grow_92f84 46 = .ok (.bipush 10, 2) := by decide +kernel
theorem dJx4a65c_grow_92f84_48 : decode cJx4a65c_grow_92f84 48 = .ok (.iload_n 1, 1) := by decide +kernel
theorem dJx4a65c_grow_92f84_49 : decode cJx4a65c_grow_92f84 49 = .ok (.invokestatic 79, 3) := by decide +kernel
theorem dJx4a65c_grow_92f84_52 : decode cJx4a65c_grow_92f84 52 = .ok (.anewarray 7, 3) := by decide +kernel
theorem dJx4a65c_grow_92f84_55 : decode cJx4a65c_grow_92f84 55 = .ok (.dup_x1, 1) := by decide +kernel
theorem dJx4a65c_grow_92f84_56 : decode cJx4a65c_grow_92f84 56 = .ok (.putfield 9, 3) := by decide +kernel
theorem dJx4a65c_grow_92f84_59 : decode cJx4a65c_grow_92f84 59 = .ok (.areturn, 1) := by decide +kernel
theorem dJx4a65c_grow_d5877_0 : decode cJx4a65c_grow_d5877 0 = .ok (.aload_n 0, 1) := by decide +kernel
theorem dJx4a65c_grow_d5877_1 : decode cJx4a65c_grow_d5877 1 = .ok (.aload_n 0, 1) := by decide +kernel
theorem dJx4a65c_grow_d5877_2 : decode cJx4a65c_grow_d5877 2 = .ok (.getfield 48, 3) := by decide +kernel
theorem dJx4a65c_grow_d5877_5 : decode cJx4a65c_grow_d5877 5 = .ok (.iconst 1, 1) := by decide +kernel
theorem dJx4a65c_grow_d5877_6 : decode cJx4a65c_grow_d5877 6 = .ok (.iadd, 1) := by decide +kernel
theorem dJx4a65c_grow_d5877_7 : decode cJx4a65c_grow_d5877 7 = .ok (.invokevirtual 69, 3) := by decide +kernel
theorem dJx4a65c_grow_d5877_10 : decode cJx4a65c_grow_d5877 10 = .ok (.areturn, 1) := by decide +kernel
theorem dJx4a65c_size_8abf5_0 : decode cJx4a65c_size_8abf5 0 = .ok (.aload_n 0, 1) := by decide +kernel
theorem dJx4a65c_size_8abf5_1 : decode cJx4a65c_size_8abf5 1 = .ok (.getfield 48, 3) := by decide +kernel
theorem dJx4a65c_size_8abf5_4 : decode cJx4a65c_size_8abf5 4 = .ok (.ireturn, 1) := by decide +kernel
theorem dJx4a65c_isEmpty_aae02_0 : decode cJx4a65c_isEmpty_aae02 0 = .ok (.aload_n 0, 1) := by decide +kernel
theorem dJx4a65c_isEmpty_aae02_1 : decode cJx4a65c_isEmpty_aae02 1 = .ok (.getfield 48, 3) := by decide +kernel
theorem dJx4a65c_isEmpty_aae02_4 : decode cJx4a65c_isEmpty_aae02 4 = .ok (.ifCond .ne 7, 3) := by decide +kernel
theorem dJx4a65c_isEmpty_aae02_7 : decode cJx4a65c_isEmpty_aae02 7 = .ok (.iconst 1, 1) := by decide +kernel
theorem dJx4a65c_isEmpty_aae02_8 : decode cJx4a65c_isEmpty_aae02 8 = .ok (.goto 4, 3) := by decide +kernel
theorem dJx4a65c_isEmpty_aae02_11 : decode cJx4a65c_isEmpty_aae02 11 = .ok (.iconst 0, 1) := by decide +kernel
theorem dJx4a65c_isEmpty_aae02_12 : decode cJx4a65c_isEmpty_aae02 12 = .ok (.ireturn, 1) := by decide +kernel
theorem dJx4a65c_elementData_915e3_0 : decode cJx4a65c_elementData_915e3 0 = .ok (.aload_n 0, 1) := by decide +kernel
theorem dJx4a65c_elementData_915e3_1 : decode cJx4a65c_elementData_915e3 1 = .ok (.getfield 9, 3) := by decide +kernel
theorem dJx4a65c_elementData_915e3_4 : decode cJx4a65c_elementData_915e3 4 = .ok (.iload_n 1, 1) := by decide +kernel
theorem dJx4a65c_elementData_915e3_5 : decode cJx4a65c_elementData_915e3 5 = .ok (.aaload, 1) := by decide +kernel
theorem dJx4a65c_elementData_915e3_6 : decode cJx4a65c_elementData_915e3 6 = .ok (.areturn, 1) := by decide +kernel
theorem dJx4a65c_get_915e3_0 : decode cJx4a65c_get_915e3 0 = .ok (.iload_n 1, 1) := by decide +kernel
theorem dJx4a65c_get_915e3_1 : decode cJx4a65c_get_915e3 1 = .ok (.aload_n 0, 1) := by decide +kernel
theorem dJx4a65c_get_915e3_2 : decode cJx4a65c_get_915e3 2 = .ok (.getfield 48, 3) := by decide +kernel
theorem dJx4a65c_get_915e3_5 : decode cJx4a65c_get_915e3 5 = .ok (.invokestatic 118, 3) := by decide +kernel
theorem dJx4a65c_get_915e3_8 : decode cJx4a65c_get_915e3 8 = .ok (.pop, 1) := by decide +kernel
theorem dJx4a65c_get_915e3_9 : decode cJx4a65c_get_915e3 9 = .ok (.aload_n 0, 1) := by decide +kernel
theorem dJx4a65c_get_915e3_10 : decode cJx4a65c_get_915e3 10 = .ok (.iload_n 1, 1) := by decide +kernel
theorem dJx4a65c_get_915e3_11 : decode cJx4a65c_get_915e3 11 = .ok (.invokevirtual 123, 3) := by decide +kernel
theorem dJx4a65c_get_915e3_14 : decode cJx4a65c_get_915e3 14 = .ok (.areturn, 1) := by decide +kernel
theorem dJx4a65c_add_72be8_0 : decode cJx4a65c_add_72be8 0 = .ok (.iload_n 3, 1) := by decide +kernel
theorem dJx4a65c_add_72be8_1 : decode cJx4a65c_add_72be8 1 = .ok (.aload_n 2, 1) := by decide +kernel
theorem dJx4a65c_add_72be8_2 : decode cJx4a65c_add_72be8 2 = .ok (.arraylength, 1) := by decide +kernel
theorem dJx4a65c_add_72be8_3 : decode cJx4a65c_add_72be8 3 = .ok (.if_icmp .ne 8, 3) := by decide +kernel
theorem dJx4a65c_add_72be8_6 : decode cJx4a65c_add_72be8 6 = .ok (.aload_n 0, 1) := by decide +kernel
theorem dJx4a65c_add_72be8_7 : decode cJx4a65c_add_72be8 7 = .ok (.invokevirtual 129, 3) := by decide +kernel
theorem dJx4a65c_add_72be8_10 : decode cJx4a65c_add_72be8 10 = .ok (.astore_n 2, 1) := by decide +kernel
theorem dJx4a65c_add_72be8_11 : decode cJx4a65c_add_72be8 11 = .ok (.aload_n 2, 1) := by decide +kernel
theorem dJx4a65c_add_72be8_12 : decode cJx4a65c_add_72be8 12 = .ok (.iload_n 3, 1) := by decide +kernel
theorem dJx4a65c_add_72be8_13 : decode cJx4a65c_add_72be8 13 = .ok (.aload_n 1, 1) := by decide +kernel
theorem dJx4a65c_add_72be8_14 : decode cJx4a65c_add_72be8 14 = .ok (.aastore, 1) := by decide +kernel
theorem dJx4a65c_add_72be8_15 : decode cJx4a65c_add_72be8 15 = .ok (.aload_n 0, 1) := by decide +kernel
theorem dJx4a65c_add_72be8_16 : decode cJx4a65c_add_72be8 16 = .ok (.iload_n 3, 1) := by decide +kernel
theorem dJx4a65c_add_72be8_17 : decode cJx4a65c_add_72be8 17 = .ok (.iconst 1, 1) := by decide +kernel
theorem dJx4a65c_add_72be8_18 : decode cJx4a65c_add_72be8 18 = .ok (.iadd, 1) := by decide +kernel
theorem dJx4a65c_add_72be8_19 : decode cJx4a65c_add_72be8 19 = .ok (.putfield 48, 3) := by decide +kernel
theorem dJx4a65c_add_72be8_22 : decode cJx4a65c_add_72be8 22 = .ok (.return_, 1) := by decide +kernel
theorem dJx4a65c_add_9ea2d_0 : decode cJx4a65c_add_9ea2d 0 = .ok (.aload_n 0, 1) := by decide +kernel
theorem dJx4a65c_add_9ea2d_1 : decode cJx4a65c_add_9ea2d 1 = .ok (.dup, 1) := by decide +kernel
theorem dJx4a65c_add_9ea2d_2 : decode cJx4a65c_add_9ea2d 2 = .ok (.getfield 63, 3) := by decide +kernel
theorem dJx4a65c_add_9ea2d_5 : decode cJx4a65c_add_9ea2d 5 = .ok (.iconst 1, 1) := by decide +kernel
theorem dJx4a65c_add_9ea2d_6 : decode cJx4a65c_add_9ea2d 6 = .ok (.iadd, 1) := by decide +kernel
theorem dJx4a65c_add_9ea2d_7 : decode cJx4a65c_add_9ea2d 7 = .ok (.putfield 63, 3) := by decide +kernel
theorem dJx4a65c_add_9ea2d_10 : decode cJx4a65c_add_9ea2d 10 = .ok (.aload_n 0, 1) := by decide +kernel
theorem dJx4a65c_add_9ea2d_11 : decode cJx4a65c_add_9ea2d 11 = .ok (.aload_n 1, 1) := by decide +kernel
theorem dJx4a65c_add_9ea2d_12 : decode cJx4a65c_add_9ea2d 12 = .ok (.aload_n 0, 1) := by decide +kernel
theorem dJx4a65c_add_9ea2d_13 : decode cJx4a65c_add_9ea2d 13 = .ok (.getfield 9, 3) := by decide +kernel
theorem dJx4a65c_add_9ea2d_16 : decode cJx4a65c_add_9ea2d 16 = .ok (.aload_n 0, 1) := by decide +kernel
theorem dJx4a65c_add_9ea2d_17 : decode cJx4a65c_add_9ea2d 17 = .ok (.getfield 48, 3) := by decide +kernel
theorem dJx4a65c_add_9ea2d_20 : decode cJx4a65c_add_9ea2d 20 = .ok (.invokevirtual 131, 3) := by decide +kernel
theorem dJx4a65c_add_9ea2d_23 : decode cJx4a65c_add_9ea2d 23 = .ok (.iconst 1, 1) := by decide +kernel
theorem dJx4a65c_add_9ea2d_24 : decode cJx4a65c_add_9ea2d 24 = .ok (.ireturn, 1) := by decide +kernel
theorem dJx4a65c_add_7a177_0 : decode cJx4a65c_add_7a177 0 = .ok (.aload_n 0, 1) := by decide +kernel
theorem dJx4a65c_add_7a177_1 : decode cJx4a65c_add_7a177 1 = .ok (.iload_n 1, 1) := by decide +kernel
theorem dJx4a65c_add_7a177_2 : decode cJx4a65c_add_7a177 2 = .ok (.invokevirtual 135, 3) := by decide +kernel
theorem dJx4a65c_add_7a177_5 : decode cJx4a65c_add_7a177 5 = .ok (.aload_n 0, 1) := by decide +kernel
theorem dJx4a65c_add_7a177_6 : decode cJx4a65c_add_7a177 6 = .ok (.dup, 1) := by decide +kernel
theorem dJx4a65c_add_7a177_7 : decode cJx4a65c_add_7a177 7 = .ok (.getfield 63, 3) := by decide +kernel
theorem dJx4a65c_add_7a177_10 : decode cJx4a65c_add_7a177 10 = .ok (.iconst 1, 1) := by decide +kernel
theorem dJx4a65c_add_7a177_11 : decode cJx4a65c_add_7a177 11 = .ok (.iadd, 1) := by decide +kernel
theorem dJx4a65c_add_7a177_12 : decode cJx4a65c_add_7a177 12 = .ok (.putfield 63, 3) := by decide +kernel
theorem dJx4a65c_add_7a177_15 : decode cJx4a65c_add_7a177 15 = .ok (.aload_n 0, 1) := by decide +kernel
theorem dJx4a65c_add_7a177_16 : decode cJx4a65c_add_7a177 16 = .ok (.getfield 48, 3) := by decide +kernel
theorem dJx4a65c_add_7a177_19 : decode cJx4a65c_add_7a177 19 = .ok (.dup, 1) := by decide +kernel
theorem dJx4a65c_add_7a177_20 : decode cJx4a65c_add_7a177 20 = .ok (.istore_n 3, 1) := by decide +kernel
theorem dJx4a65c_add_7a177_21 : decode cJx4a65c_add_7a177 21 = .ok (.aload_n 0, 1) := by decide +kernel
theorem dJx4a65c_add_7a177_22 : decode cJx4a65c_add_7a177 22 = .ok (.getfield 9, 3) := by decide +kernel
theorem dJx4a65c_add_7a177_25 : decode cJx4a65c_add_7a177 25 = .ok (.dup, 1) := by decide +kernel
theorem dJx4a65c_add_7a177_26 : decode cJx4a65c_add_7a177 26 = .ok (.astore 4, 2) := by decide +kernel
theorem dJx4a65c_add_7a177_28 : decode cJx4a65c_add_7a177 28 = .ok (.arraylength, 1) := by decide +kernel
theorem dJx4a65c_add_7a177_29 : decode cJx4a65c_add_7a177 29 = .ok (.if_icmp .ne 9, 3) := by decide +kernel
theorem dJx4a65c_add_7a177_32 : decode cJx4a65c_add_7a177 32 = .ok (.aload_n 0, 1) := by decide +kernel
theorem dJx4a65c_add_7a177_33 : decode cJx4a65c_add_7a177 33 = .ok (.invokevirtual 129, 3) := by decide +kernel
theorem dJx4a65c_add_7a177_36 : decode cJx4a65c_add_7a177 36 = .ok (.astore 4, 2) := by decide +kernel
theorem dJx4a65c_add_7a177_38 : decode cJx4a65c_add_7a177 38 = .ok (.aload 4, 2) := by decide +kernel
theorem dJx4a65c_add_7a177_40 : decode cJx4a65c_add_7a177 40 = .ok (.iload_n 1, 1) := by decide +kernel
theorem dJx4a65c_add_7a177_41 : decode cJx4a65c_add_7a177 41 = .ok (.aload 4, 2) := by decide +kernel
theorem dJx4a65c_add_7a177_43 : decode cJx4a65c_add_7a177 43 = .ok (.iload_n 1, 1) := by decide +kernel
theorem dJx4a65c_add_7a177_44 : decode cJx4a65c_add_7a177 44 = .ok (.iconst 1, 1) := by decide +kernel
theorem dJx4a65c_add_7a177_45 : decode cJx4a65c_add_7a177 45 = .ok (.iadd, 1) := by decide +kernel
theorem dJx4a65c_add_7a177_46 : decode cJx4a65c_add_7a177 46 = .ok (.iload_n 3, 1) := by decide +kernel
theorem dJx4a65c_add_7a177_47 : decode cJx4a65c_add_7a177 47 = .ok (.iload_n 1, 1) := by decide +kernel
theorem dJx4a65c_add_7a177_48 : decode cJx4a65c_add_7a177 48 = .ok (.isub, 1) := by decide +kernel
theorem dJx4a65c_add_7a177_49 : decode cJx4a65c_add_7a177 49 = .ok (.invokestatic 112, 3) := by decide +kernel
theorem dJx4a65c_add_7a177_52 : decode cJx4a65c_add_7a177 52 = .ok (.aload 4, 2) := by decide +kernel
theorem dJx4a65c_add_7a177_54 : decode cJx4a65c_add_7a177 54 = .ok (.iload_n 1, 1) := by decide +kernel
theorem dJx4a65c_add_7a177_55 : decode cJx4a65c_add_7a177 55 = .ok (.aload_n 2, 1) := by decide +kernel
theorem dJx4a65c_add_7a177_56 : decode cJx4a65c_add_7a177 56 = .ok (.aastore, 1) := by decide +kernel
theorem dJx4a65c_add_7a177_57 : decode cJx4a65c_add_7a177 57 = .ok (.aload_n 0, 1) := by decide +kernel
theorem dJx4a65c_add_7a177_58 : decode cJx4a65c_add_7a177 58 = .ok (.iload_n 3, 1) := by decide +kernel
theorem dJx4a65c_add_7a177_59 : decode cJx4a65c_add_7a177 59 = .ok (.iconst 1, 1) := by decide +kernel
theorem dJx4a65c_add_7a177_60 : decode cJx4a65c_add_7a177 60 = .ok (.iadd, 1) := by decide +kernel
theorem dJx4a65c_add_7a177_61 : decode cJx4a65c_add_7a177 61 = .ok (.putfield 48, 3) := by decide +kernel
theorem dJx4a65c_add_7a177_64 : decode cJx4a65c_add_7a177 64 = .ok (.return_, 1) := by decide +kernel
theorem dJx4a65c_remove_915e3_0 : decode cJx4a65c_remove_915e3 0 = .ok (.iload_n 1, 1) := by decide +kernel
theorem dJx4a65c_remove_915e3_1 : decode cJx4a65c_remove_915e3 1 = .ok (.aload_n 0, 1) := by decide +kernel
theorem dJx4a65c_remove_915e3_2 : decode cJx4a65c_remove_915e3 2 = .ok (.getfield 48, 3) := by decide +kernel
theorem dJx4a65c_remove_915e3_5 : decode cJx4a65c_remove_915e3 5 = .ok (.invokestatic 118, 3) := by decide +kernel
theorem dJx4a65c_remove_915e3_8 : decode cJx4a65c_remove_915e3 8 = .ok (.pop, 1) := by decide +kernel
theorem dJx4a65c_remove_915e3_9 : decode cJx4a65c_remove_915e3 9 = .ok (.aload_n 0, 1) := by decide +kernel
theorem dJx4a65c_remove_915e3_10 : decode cJx4a65c_remove_915e3 10 = .ok (.getfield 9, 3) := by decide +kernel
theorem dJx4a65c_remove_915e3_13 : decode cJx4a65c_remove_915e3 13 = .ok (.astore_n 2, 1) := by decide +kernel
theorem dJx4a65c_remove_915e3_14 : decode cJx4a65c_remove_915e3 14 = .ok (.aload_n 2, 1) := by decide +kernel
theorem dJx4a65c_remove_915e3_15 : decode cJx4a65c_remove_915e3 15 = .ok (.iload_n 1, 1) := by decide +kernel
theorem dJx4a65c_remove_915e3_16 : decode cJx4a65c_remove_915e3 16 = .ok (.aaload, 1) := by decide +kernel
theorem dJx4a65c_remove_915e3_17 : decode cJx4a65c_remove_915e3 17 = .ok (.astore_n 3, 1) := by decide +kernel
theorem dJx4a65c_remove_915e3_18 : decode cJx4a65c_remove_915e3 18 = .ok (.aload_n 0, 1) := by decide +kernel
theorem dJx4a65c_remove_915e3_19 : decode cJx4a65c_remove_915e3 19 = .ok (.aload_n 2, 1) := by decide +kernel
theorem dJx4a65c_remove_915e3_20 : decode cJx4a65c_remove_915e3 20 = .ok (.iload_n 1, 1) := by decide +kernel
theorem dJx4a65c_remove_915e3_21 : decode cJx4a65c_remove_915e3 21 = .ok (.invokevirtual 144, 3) := by decide +kernel
theorem dJx4a65c_remove_915e3_24 : decode cJx4a65c_remove_915e3 24 = .ok (.aload_n 3, 1) := by decide +kernel
theorem dJx4a65c_remove_915e3_25 : decode cJx4a65c_remove_915e3 25 = .ok (.areturn, 1) := by decide +kernel
theorem dJx4a65c_fastRemove_b59b0_0 : decode cJx4a65c_fastRemove_b59b0 0 = .ok (.aload_n 0, 1) := by decide +kernel
theorem dJx4a65c_fastRemove_b59b0_1 : decode cJx4a65c_fastRemove_b59b0 1 = .ok (.dup, 1) := by decide +kernel
theorem dJx4a65c_fastRemove_b59b0_2 : decode cJx4a65c_fastRemove_b59b0 2 = .ok (.getfield 63, 3) := by decide +kernel
theorem dJx4a65c_fastRemove_b59b0_5 : decode cJx4a65c_fastRemove_b59b0 5 = .ok (.iconst 1, 1) := by decide +kernel
theorem dJx4a65c_fastRemove_b59b0_6 : decode cJx4a65c_fastRemove_b59b0 6 = .ok (.iadd, 1) := by decide +kernel
theorem dJx4a65c_fastRemove_b59b0_7 : decode cJx4a65c_fastRemove_b59b0 7 = .ok (.putfield 63, 3) := by decide +kernel
theorem dJx4a65c_fastRemove_b59b0_10 : decode cJx4a65c_fastRemove_b59b0 10 = .ok (.aload_n 0, 1) := by decide +kernel
theorem dJx4a65c_fastRemove_b59b0_11 : decode cJx4a65c_fastRemove_b59b0 11 = .ok (.getfield 48, 3) := by decide +kernel
theorem dJx4a65c_fastRemove_b59b0_14 : decode cJx4a65c_fastRemove_b59b0 14 = .ok (.iconst 1, 1) := by decide +kernel
theorem dJx4a65c_fastRemove_b59b0_15 : decode cJx4a65c_fastRemove_b59b0 15 = .ok (.isub, 1) := by decide +kernel
theorem dJx4a65c_fastRemove_b59b0_16 : decode cJx4a65c_fastRemove_b59b0 16 = .ok (.dup, 1) := by decide +kernel
theorem dJx4a65c_fastRemove_b59b0_17 : decode cJx4a65c_fastRemove_b59b0 17 = .ok (.istore_n 3, 1) := by decide +kernel
theorem dJx4a65c_fastRemove_b59b0_18 : decode cJx4a65c_fastRemove_b59b0 18 = .ok (.iload_n 2, 1) := by decide +kernel
theorem dJx4a65c_fastRemove_b59b0_19 : decode cJx4a65c_fastRemove_b59b0 19 = .ok (.if_icmp .le 15, 3) := by decide +kernel
theorem dJx4a65c_fastRemove_b59b0_22 : decode cJx4a65c_fastRemove_b59b0 22 = .ok (.aload_n 1, 1) := by decide +kernel
theorem dJx4a65c_fastRemove_b59b0_23 : decode cJx4a65c_fastRemove_b59b0 23 = .ok (.iload_n 2, 1) := by decide +kernel
theorem dJx4a65c_fastRemove_b59b0_24 : decode cJx4a65c_fastRemove_b59b0 24 = .ok (.iconst 1, 1) := by decide +kernel
theorem dJx4a65c_fastRemove_b59b0_25 : decode cJx4a65c_fastRemove_b59b0 25 = .ok (.iadd, 1) := by decide +kernel
theorem dJx4a65c_fastRemove_b59b0_26 : decode cJx4a65c_fastRemove_b59b0 26 = .ok (.aload_n 1, 1) := by decide +kernel
theorem dJx4a65c_fastRemove_b59b0_27 : decode cJx4a65c_fastRemove_b59b0 27 = .ok (.iload_n 2, 1) := by decide +kernel
theorem dJx4a65c_fastRemove_b59b0_28 : decode cJx4a65c_fastRemove_b59b0 28 = .ok (.iload_n 3, 1) := by decide +kernel
theorem dJx4a65c_fastRemove_b59b0_29 : decode cJx4a65c_fastRemove_b59b0 29 = .ok (.iload_n 2, 1) := by decide +kernel
theorem dJx4a65c_fastRemove_b59b0_30 : decode cJx4a65c_fastRemove_b59b0 30 = .ok (.isub, 1) := by decide +kernel
theorem dJx4a65c_fastRemove_b59b0_31 : decode cJx4a65c_fastRemove_b59b0 31 = .ok (.invokestatic 112, 3) := by decide +kernel
theorem dJx4a65c_fastRemove_b59b0_34 : decode cJx4a65c_fastRemove_b59b0 34 = .ok (.aload_n 1, 1) := by decide +kernel
theorem dJx4a65c_fastRemove_b59b0_35 : decode cJx4a65c_fastRemove_b59b0 35 = .ok (.aload_n 0, 1) := by decide +kernel
theorem dJx4a65c_fastRemove_b59b0_36 : decode cJx4a65c_fastRemove_b59b0 36 = .ok (.iload_n 3, 1) := by decide +kernel
theorem dJx4a65c_fastRemove_b59b0_37 : decode cJx4a65c_fastRemove_b59b0 37 = .ok (.dup_x1, 1) := by decide +kernel
theorem dJx4a65c_fastRemove_b59b0_38 : decode cJx4a65c_fastRemove_b59b0 38 = .ok (.putfield 48, 3) := by decide +kernel
theorem dJx4a65c_fastRemove_b59b0_41 : decode cJx4a65c_fastRemove_b59b0 41 = .ok (.aconst_null, 1) := by decide +kernel
theorem dJx4a65c_fastRemove_b59b0_42 : decode cJx4a65c_fastRemove_b59b0 42 = .ok (.aastore, 1) := by decide +kernel
theorem dJx4a65c_fastRemove_b59b0_43 : decode cJx4a65c_fastRemove_b59b0 43 = .ok (.return_, 1) := by decide +kernel
theorem dJx4a65c_clear_da8c8_0 : decode cJx4a65c_clear_da8c8 0 = .ok (.aload_n 0, 1) := by decide +kernel
theorem dJx4a65c_clear_da8c8_1 : decode cJx4a65c_clear_da8c8 1 = .ok (.dup, 1) := by decide +kernel
theorem dJx4a65c_clear_da8c8_2 : decode cJx4a65c_clear_da8c8 2 = .ok (.getfield 63, 3) := by decide +kernel
theorem dJx4a65c_clear_da8c8_5 : decode cJx4a65c_clear_da8c8 5 = .ok (.iconst 1, 1) := by decide +kernel
theorem dJx4a65c_clear_da8c8_6 : decode cJx4a65c_clear_da8c8 6 = .ok (.iadd, 1) := by decide +kernel
theorem dJx4a65c_clear_da8c8_7 : decode cJx4a65c_clear_da8c8 7 = .ok (.putfield 63, 3) := by decide +kernel
theorem dJx4a65c_clear_da8c8_10 : decode cJx4a65c_clear_da8c8 10 = .ok (.aload_n 0, 1) := by decide +kernel
theorem dJx4a65c_clear_da8c8_11 : decode cJx4a65c_clear_da8c8 11 = .ok (.getfield 9, 3) := by decide +kernel
theorem dJx4a65c_clear_da8c8_14 : decode cJx4a65c_clear_da8c8 14 = .ok (.astore_n 1, 1) := by decide +kernel
theorem dJx4a65c_clear_da8c8_15 : decode cJx4a65c_clear_da8c8 15 = .ok (.aload_n 0, 1) := by decide +kernel
theorem dJx4a65c_clear_da8c8_16 : decode cJx4a65c_clear_da8c8 16 = .ok (.getfield 48, 3) := by decide +kernel
theorem dJx4a65c_clear_da8c8_19 : decode cJx4a65c_clear_da8c8 19 = .ok (.istore_n 2, 1) := by decide +kernel
theorem dJx4a65c_clear_da8c8_20 : decode cJx4a65c_clear_da8c8 20 = .ok (.aload_n 0, 1) := by decide +kernel
theorem dJx4a65c_clear_da8c8_21 : decode cJx4a65c_clear_da8c8 21 = .ok (.iconst 0, 1) := by decide +kernel
theorem dJx4a65c_clear_da8c8_22 : decode cJx4a65c_clear_da8c8 22 = .ok (.dup_x1, 1) := by decide +kernel
theorem dJx4a65c_clear_da8c8_23 : decode cJx4a65c_clear_da8c8 23 = .ok (.putfield 48, 3) := by decide +kernel
theorem dJx4a65c_clear_da8c8_26 : decode cJx4a65c_clear_da8c8 26 = .ok (.istore_n 3, 1) := by decide +kernel
theorem dJx4a65c_clear_da8c8_27 : decode cJx4a65c_clear_da8c8 27 = .ok (.iload_n 3, 1) := by decide +kernel
theorem dJx4a65c_clear_da8c8_28 : decode cJx4a65c_clear_da8c8 28 = .ok (.iload_n 2, 1) := by decide +kernel
theorem dJx4a65c_clear_da8c8_29 : decode cJx4a65c_clear_da8c8 29 = .ok (.if_icmp .ge 13, 3) := by decide +kernel
theorem dJx4a65c_clear_da8c8_32 : decode cJx4a65c_clear_da8c8 32 = .ok (.aload_n 1, 1) := by decide +kernel
theorem dJx4a65c_clear_da8c8_33 : decode cJx4a65c_clear_da8c8 33 = .ok (.iload_n 3, 1) := by decide +kernel
theorem dJx4a65c_clear_da8c8_34 : decode cJx4a65c_clear_da8c8 34 = .ok (.aconst_null, 1) := by decide +kernel
theorem dJx4a65c_clear_da8c8_35 : decode cJx4a65c_clear_da8c8 35 = .ok (.aastore, 1) := by decide +kernel
theorem dJx4a65c_clear_da8c8_36 : decode cJx4a65c_clear_da8c8 36 = .ok (.iinc 3 1, 3) := by decide +kernel
theorem dJx4a65c_clear_da8c8_39 : decode cJx4a65c_clear_da8c8 39 = .ok (.goto (-12), 3) := by decide +kernel
theorem dJx4a65c_clear_da8c8_42 : decode cJx4a65c_clear_da8c8 42 = .ok (.return_, 1) := by decide +kernel
theorem dJx4a65c_rangeCheckForAdd_d00df_0 : decode cJx4a65c_rangeCheckForAdd_d00df 0 = .ok (.iload_n 1, 1) := by decide +kernel
theorem dJx4a65c_rangeCheckForAdd_d00df_1 : decode cJx4a65c_rangeCheckForAdd_d00df 1 = .ok (.aload_n 0, 1) := by decide +kernel
theorem dJx4a65c_rangeCheckForAdd_d00df_2 : decode cJx4a65c_rangeCheckForAdd_d00df 2 = .ok (.getfield 48, 3) := by decide +kernel
theorem dJx4a65c_rangeCheckForAdd_d00df_5 : decode cJx4a65c_rangeCheckForAdd_d00df 5 = .ok (.if_icmp .gt 7, 3) := by decide +kernel
theorem dJx4a65c_rangeCheckForAdd_d00df_8 : decode cJx4a65c_rangeCheckForAdd_d00df 8 = .ok (.iload_n 1, 1) := by decide +kernel
theorem dJx4a65c_rangeCheckForAdd_d00df_9 : decode cJx4a65c_rangeCheckForAdd_d00df 9 = .ok (.ifCond .ge 16, 3) := by decide +kernel
theorem dJx4a65c_rangeCheckForAdd_d00df_12 : decode cJx4a65c_rangeCheckForAdd_d00df 12 = .ok (.new 187, 3) := by decide +kernel
theorem dJx4a65c_rangeCheckForAdd_d00df_15 : decode cJx4a65c_rangeCheckForAdd_d00df 15 = .ok (.dup, 1) := by decide +kernel
theorem dJx4a65c_rangeCheckForAdd_d00df_16 : decode cJx4a65c_rangeCheckForAdd_d00df 16 = .ok (.aload_n 0, 1) := by decide +kernel
theorem dJx4a65c_rangeCheckForAdd_d00df_17 : decode cJx4a65c_rangeCheckForAdd_d00df 17 = .ok (.iload_n 1, 1) := by decide +kernel
theorem dJx4a65c_rangeCheckForAdd_d00df_18 : decode cJx4a65c_rangeCheckForAdd_d00df 18 = .ok (.invokevirtual 198, 3) := by decide +kernel
theorem dJx4a65c_rangeCheckForAdd_d00df_21 : decode cJx4a65c_rangeCheckForAdd_d00df 21 = .ok (.invokespecial 193, 3) := by decide +kernel
theorem dJx4a65c_rangeCheckForAdd_d00df_24 : decode cJx4a65c_rangeCheckForAdd_d00df 24 = .ok (.athrow, 1) := by decide +kernel
theorem dJx4a65c_rangeCheckForAdd_d00df_25 : decode cJx4a65c_rangeCheckForAdd_d00df 25 = .ok (.return_, 1) := by decide +kernel
theorem dJ7_copyOf_1904c_0 : decode cJ7_copyOf_1904c 0 = .ok (.aload_n 0, 1) := by decide +kernel
theorem dJ7_copyOf_1904c_1 : decode cJ7_copyOf_1904c 1 = .ok (.iload_n 1, 1) := by decide +kernel
theorem dJ7_copyOf_1904c_2 : decode cJ7_copyOf_1904c 2 = .ok (.aload_n 0, 1) := by decide +kernel
theorem dJ7_copyOf_1904c_3 : decode cJ7_copyOf_1904c 3 = .ok (.invokevirtual 86, 3) := by decide +kernel
theorem dJ7_copyOf_1904c_6 : decode cJ7_copyOf_1904c 6 = .ok (.invokestatic 300, 3) := by decide +kernel
theorem dJ7_copyOf_1904c_9 : decode cJ7_copyOf_1904c 9 = .ok (.areturn, 1) := by decide +kernel
theorem dJ7_copyOf_6403c_0 : decode cJ7_copyOf_6403c 0 = .ok (.aload_n 2, 1) := by decide +kernel
theorem dJ7_copyOf_6403c_1 : decode cJ7_copyOf_6403c 1 = .ok (.ldc 110, 2) := by decide +kernel
theorem dJ7_copyOf_6403c_3 : decode cJ7_copyOf_6403c 3 = .ok (.if_acmp .ne 10, 3) := by decide +kernel
theorem dJ7_copyOf_6403c_6 : decode cJ7_copyOf_6403c 6 = .ok (.iload_n 1, 1) := by decide +kernel
theorem dJ7_copyOf_6403c_7 : decode cJ7_copyOf_6403c 7 = .ok (.anewarray 2, 3) := by decide +kernel
theorem dJ7_copyOf_6403c_10 : decode cJ7_copyOf_6403c 10 = .ok (.goto 14, 3) := by decide +kernel
theorem dJ7_copyOf_6403c_13 : decode cJ7_copyOf_6403c 13 = .ok (.aload_n 2, 1) := by decide +kernel
theorem dJ7_copyOf_6403c_14 : decode cJ7_copyOf_6403c 14 = .ok (.invokevirtual 90, 3) := by decide +kernel
theorem dJ7_copyOf_6403c_17 : decode cJ7_copyOf_6403c 17 = .ok (.iload_n 1, 1) := by decide +kernel
theorem dJ7_copyOf_6403c_18 : decode cJ7_copyOf_6403c 18 = .ok (.invokestatic 95, 3) := by decide +kernel
theorem dJ7_copyOf_6403c_21 : decode cJ7_copyOf_6403c 21 = .ok (.checkcast 110, 3) := by decide +kernel
theorem dJ7_copyOf_6403c_24 : decode cJ7_copyOf_6403c 24 = .ok (.astore_n 3, 1) := by decide +kernel
theorem dJ7_copyOf_6403c_25 : decode cJ7_copyOf_6403c 25 = .ok (.aload_n 0, 1) := by decide +kernel
theorem dJ7_copyOf_6403c_26 : decode cJ7_copyOf_6403c 26 = .ok (.iconst 0, 1) := by decide +kernel
theorem dJ7_copyOf_6403c_27 : decode cJ7_copyOf_6403c 27 = .ok (.aload_n 3, 1) := by decide +kernel
theorem dJ7_copyOf_6403c_28 : decode cJ7_copyOf_6403c 28 = .ok (.iconst 0, 1) := by decide +kernel
theorem dJ7_copyOf_6403c_29 : decode cJ7_copyOf_6403c 29 = .ok (.aload_n 0, 1) := by decide +kernel
theorem dJ7_copyOf_6403c_30 : decode cJ7_copyOf_6403c 30 = .ok (.arraylength, 1) := by decide +kernel
theorem dJ7_copyOf_6403c_31 : decode cJ7_copyOf_6403c 31 = .ok (.iload_n 1, 1) := by decide +kernel
theorem dJ7_copyOf_6403c_32 : decode cJ7_copyOf_6403c 32 = .ok (.invokestatic 304, 3) := by decide +kernel
theorem dJ7_copyOf_6403c_35 : decode cJ7_copyOf_6403c 35 = .ok (.invokestatic 150, 3) := by decide +kernel
theorem dJ7_copyOf_6403c_38 : decode cJ7_copyOf_6403c 38 = .ok (.aload_n 3, 1) := by decide +kernel
theorem dJ7_copyOf_6403c_39 : decode cJ7_copyOf_6403c 39 = .ok (.areturn, 1) := by decide +kernel
theorem dJ15_checkIndex_7cf53_0 : decode cJ15_checkIndex_7cf53 0 = .ok (.iload_n 0, 1) := by decide +kernel
theorem dJ15_checkIndex_7cf53_1 : decode cJ15_checkIndex_7cf53 1 = .ok (.iload_n 1, 1) := by decide +kernel
theorem dJ15_checkIndex_7cf53_2 : decode cJ15_checkIndex_7cf53 2 = .ok (.aconst_null, 1) := by decide +kernel
theorem dJ15_checkIndex_7cf53_3 : decode cJ15_checkIndex_7cf53 3 = .ok (.invokestatic 105, 3) := by decide +kernel
theorem dJ15_checkIndex_7cf53_6 : decode cJ15_checkIndex_7cf53 6 = .ok (.ireturn, 1) := by decide +kernel
theorem dJ8_newLength_cabcc_0 : decode cJ8_newLength_cabcc 0 = .ok (.iload_n 0, 1) := by decide +kernel
theorem dJ8_newLength_cabcc_1 : decode cJ8_newLength_cabcc 1 = .ok (.iload_n 1, 1) := by decide +kernel
theorem dJ8_newLength_cabcc_2 : decode cJ8_newLength_cabcc 2 = .ok (.iload_n 2, 1) := by decide +kernel
theorem dJ8_newLength_cabcc_3 : decode cJ8_newLength_cabcc 3 = .ok (.invokestatic 194, 3) := by decide +kernel
theorem dJ8_newLength_cabcc_6 : decode cJ8_newLength_cabcc 6 = .ok (.iadd, 1) := by decide +kernel
theorem dJ8_newLength_cabcc_7 : decode cJ8_newLength_cabcc 7 = .ok (.istore_n 3, 1) := by decide +kernel
theorem dJ8_newLength_cabcc_8 : decode cJ8_newLength_cabcc 8 = .ok (.iconst 0, 1) := by decide +kernel
theorem dJ8_newLength_cabcc_9 : decode cJ8_newLength_cabcc 9 = .ok (.iload_n 3, 1) := by decide +kernel
theorem dJ8_newLength_cabcc_10 : decode cJ8_newLength_cabcc 10 = .ok (.if_icmp .ge 11, 3) := by decide +kernel
theorem dJ8_newLength_cabcc_13 : decode cJ8_newLength_cabcc 13 = .ok (.iload_n 3, 1) := by decide +kernel
theorem dJ8_newLength_cabcc_14 : decode cJ8_newLength_cabcc 14 = .ok (.ldc 200, 2) := by decide +kernel
theorem dJ8_newLength_cabcc_16 : decode cJ8_newLength_cabcc 16 = .ok (.if_icmp .gt 5, 3) := by decide +kernel
theorem dJ8_newLength_cabcc_19 : decode cJ8_newLength_cabcc 19 = .ok (.iload_n 3, 1) := by decide +kernel
theorem dJ8_newLength_cabcc_20 : decode cJ8_newLength_cabcc 20 = .ok (.ireturn, 1) := by decide +kernel
theorem dJ8_newLength_cabcc_21 : decode cJ8_newLength_cabcc 21 = .ok (.iload_n 0, 1) := by decide +kernel
theorem dJ8_newLength_cabcc_22 : decode cJ8_newLength_cabcc 22 = .ok (.iload_n 1, 1) := by decide +kernel
theorem dJ8_newLength_cabcc_23 : decode cJ8_newLength_cabcc 23 = .ok (.invokestatic 201, 3) := by decide +kernel
theorem dJ8_newLength_cabcc_26 : decode cJ8_newLength_cabcc 26 = .ok (.ireturn, 1) := by decide +kernel
theorem dJ8_hugeLength_7cf53_0 : decode cJ8_hugeLength_7cf53 0 = .ok (.iload_n 0, 1) := by decide +kernel
theorem dJ8_hugeLength_7cf53_1 : decode cJ8_hugeLength_7cf53 1 = .ok (.iload_n 1, 1) := by decide +kernel
theorem dJ8_hugeLength_7cf53_2 : decode cJ8_hugeLength_7cf53 2 = .ok (.iadd, 1) := by decide +kernel
theorem dJ8_hugeLength_7cf53_3 : decode cJ8_hugeLength_7cf53 3 = .ok (.istore_n 2, 1) := by decide +kernel
theorem dJ8_hugeLength_7cf53_4 : decode cJ8_hugeLength_7cf53 4 = .ok (.iload_n 2, 1) := by decide +kernel
theorem dJ8_hugeLength_7cf53_5 : decode cJ8_hugeLength_7cf53 5 = .ok (.ifCond .ge 44, 3) := by decide +kernel
theorem dJ8_hugeLength_7cf53_8 : decode cJ8_hugeLength_7cf53 8 = .ok (.new 204, 3) := by decide +kernel
theorem dJ8_hugeLength_7cf53_11 : decode cJ8_hugeLength_7cf53 11 = .ok (.dup, 1) := by decide +kernel
theorem dJ8_hugeLength_7cf53_12 : decode cJ8_hugeLength_7cf53 12 = .ok (.new 89, 3) := by decide +kernel
theorem dJ8_hugeLength_7cf53_15 : decode cJ8_hugeLength_7cf53 15 = .ok (.dup, 1) := by decide +kernel
theorem dJ8_hugeLength_7cf53_16 : decode cJ8_hugeLength_7cf53 16 = .ok (.invokespecial 91, 3) := by decide +kernel
theorem dJ8_hugeLength_7cf53_19 : decode cJ8_hugeLength_7cf53 19 = .ok (.ldc 206, 2) := by decide +kernel
theorem dJ8_hugeLength_7cf53_21 : decode cJ8_hugeLength_7cf53 21 = .ok (.invokevirtual 94, 3) := by decide +kernel
theorem dJ8_hugeLength_7cf53_24 : decode cJ8_hugeLength_7cf53 24 = .ok (.iload_n 0, 1) := by decide +kernel
theorem dJ8_hugeLength_7cf53_25 : decode cJ8_hugeLength_7cf53 25 = .ok (.invokevirtual 98, 3) := by decide +kernel
theorem dJ8_hugeLength_7cf53_28 : decode cJ8_hugeLength_7cf53 28 = .ok (.ldc 208, 2) := by decide +kernel
theorem dJ8_hugeLength_7cf53_30 : decode cJ8_hugeLength_7cf53 30 = .ok (.invokevirtual 94, 3) := by decide +kernel
theorem dJ8_hugeLength_7cf53_33 : decode cJ8_hugeLength_7cf53 33 = .ok (.iload_n 1, 1) := by decide +kernel
theorem dJ8_hugeLength_7cf53_34 : decode cJ8_hugeLength_7cf53 34 = .ok (.invokevirtual 98, 3) := by decide +kernel
theorem dJ8_hugeLength_7cf53_37 : decode cJ8_hugeLength_7cf53 37 = .ok (.ldc 210, 2) := by decide +kernel
theorem dJ8_hugeLength_7cf53_39 : decode cJ8_hugeLength_7cf53 39 = .ok (.invokevirtual 94, 3) := by decide +kernel
theorem dJ8_hugeLength_7cf53_42 : decode cJ8_hugeLength_7cf53 42 = .ok (.invokevirtual 101, 3) := by decide +kernel
theorem dJ8_hugeLength_7cf53_45 : decode cJ8_hugeLength_7cf53 45 = .ok (.invokespecial 212, 3) := by decide +kernel
theorem dJ8_hugeLength_7cf53_48 : decode cJ8_hugeLength_7cf53 48 = .ok (.athrow, 1) := by decide +kernel
theorem dJ8_hugeLength_7cf53_49 : decode cJ8_hugeLength_7cf53 49 = .ok (.iload_n 2, 1) := by decide +kernel
theorem dJ8_hugeLength_7cf53_50 : decode cJ8_hugeLength_7cf53 50 = .ok (.ldc 200, 2) := by decide +kernel
theorem dJ8_hugeLength_7cf53_52 : decode cJ8_hugeLength_7cf53 52 = .ok (.if_icmp .gt 6, 3) := by decide +kernel
theorem dJ8_hugeLength_7cf53_55 : decode cJ8_hugeLength_7cf53 55 = .ok (.ldc 200, 2) := by decide +kernel
theorem dJ8_hugeLength_7cf53_57 : decode cJ8_hugeLength_7cf53 57 = .ok (.ireturn, 1) := by decide +kernel
theorem dJ8_hugeLength_7cf53_58 : decode cJ8_hugeLength_7cf53 58 = .ok (.iload_n 2, 1) := by decide +kernel
theorem dJ8_hugeLength_7cf53_59 : decode cJ8_hugeLength_7cf53 59 = .ok (.ireturn, 1) := by decide +kernel
theorem dJ3_checkIndex_8e157_0 : decode cJ3_checkIndex_8e157 0 = .ok (.iload_n 0, 1) := by decide +kernel
theorem dJ3_checkIndex_8e157_1 : decode cJ3_checkIndex_8e157 1 = .ok (.ifCond .lt 8, 3) := by decide +kernel
theorem dJ3_checkIndex_8e157_4 : decode cJ3_checkIndex_8e157 4 = .ok (.iload_n 0, 1) := by decide +kernel
theorem dJ3_checkIndex_8e157_5 : decode cJ3_checkIndex_8e157 5 = .ok (.iload_n 1, 1) := by decide +kernel
theorem dJ3_checkIndex_8e157_6 : decode cJ3_checkIndex_8e157 6 = .ok (.if_icmp .lt 10, 3) := by decide +kernel
theorem dJ3_checkIndex_8e157_9 : decode cJ3_checkIndex_8e157 9 = .ok (.aload_n 2, 1) := by decide +kernel
theorem dJ3_checkIndex_8e157_10 : decode cJ3_checkIndex_8e157 10 = .ok (.iload_n 0, 1) := by decide +kernel
theorem dJ3_checkIndex_8e157_11 : decode cJ3_checkIndex_8e157 11 = .ok (.iload_n 1, 1) := by decide +kernel
theorem dJ3_checkIndex_8e157_12 : decode cJ3_checkIndex_8e157 12 = .ok (.invokestatic 95, 3) := by decide +kernel
theorem dJ3_checkIndex_8e157_15 : decode cJ3_checkIndex_8e157 15 = .ok (.athrow, 1) := by decide +kernel
theorem dJ3_checkIndex_8e157_16 : decode cJ3_checkIndex_8e157 16 = .ok (.iload_n 0, 1) := by decide +kernel
theorem dJ3_checkIndex_8e157_17 : decode cJ3_checkIndex_8e157 17 = .ok (.ireturn, 1) := by decide +kernel
