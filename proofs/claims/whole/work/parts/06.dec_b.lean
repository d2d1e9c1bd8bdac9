theorem dX8_init_0 : decode cX8_init 0 = .ok (.aload_n 0, 1) := by decide +kernel
theorem dX8_init_1 : decode cX8_init 1 = .ok (.invokespecial 3, 3) := by decide +kernel
theorem dX8_init_4 : decode cX8_init 4 = .ok (.aload_n 0, 1) := by decide +kernel
theorem dX8_init_5 : decode cX8_init 5 = .ok (.new 9, 3) := by decide +kernel
theorem dX8_init_8 : decode cX8_init 8 = .ok (.dup, 1) := by decide +kernel
theorem dX8_init_9 : decode cX8_init 9 = .ok (.invokespecial 11, 3) := by decide +kernel
theorem dX8_init_12 : decode cX8_init 12 = .ok (.putfield 12, 3) := by decide +kernel
theorem dX8_init_15 : decode cX8_init 15 = .ok (.aload_n 0, 1) := by decide +kernel
theorem dX8_init_16 : decode cX8_init 16 = .ok (.new 16, 3) := by decide +kernel
theorem dX8_init_19 : decode cX8_init 19 = .ok (.dup, 1) := by decide +kernel
theorem dX8_init_20 : decode cX8_init 20 = .ok (.invokespecial 18, 3) := by decide +kernel
theorem dX8_init_23 : decode cX8_init 23 = .ok (.putfield 19, 3) := by decide +kernel
theorem dX8_init_26 : decode cX8_init 26 = .ok (.aload_n 0, 1) := by decide +kernel
theorem dX8_init_27 : decode cX8_init 27 = .ok (.new 23, 3) := by decide +kernel
theorem dX8_init_30 : decode cX8_init 30 = .ok (.dup, 1) := by decide +kernel
theorem dX8_init_31 : decode cX8_init 31 = .ok (.invokespecial 25, 3) := by decide +kernel
theorem dX8_init_34 : decode cX8_init 34 = .ok (.putfield 26, 3) := by decide +kernel
theorem dX8_init_37 : decode cX8_init 37 = .ok (.aload_n 0, 1) := by decide +kernel
theorem dX8_init_38 : decode cX8_init 38 = .ok (.new 30, 3) := by decide +kernel
theorem dX8_init_41 : decode cX8_init 41 = .ok (.dup, 1) := by decide +kernel
theorem dX8_init_42 : decode cX8_init 42 = .ok (.invokespecial 32, 3) := by decide +kernel
theorem dX8_init_45 : decode cX8_init 45 = .ok (.putfield 33, 3) := by decide +kernel
theorem dX8_init_48 : decode cX8_init 48 = .ok (.aload_n 0, 1) := by decide +kernel
theorem dX8_init_49 : decode cX8_init 49 = .ok (.new 37, 3) := by decide +kernel
theorem dX8_init_52 : decode cX8_init 52 = .ok (.dup, 1) := by decide +kernel
theorem dX8_init_53 : decode cX8_init 53 = .ok (.invokespecial 39, 3) := by decide +kernel
theorem dX8_init_56 : decode cX8_init 56 = .ok (.putfield 40, 3) := by decide +kernel
theorem dX8_init_59 : decode cX8_init 59 = .ok (.aload_n 0, 1) := by decide +kernel
theorem dX8_init_60 : decode cX8_init 60 = .ok (.new 44, 3) := by decide +kernel
theorem dX8_init_63 : decode cX8_init 63 = .ok (.dup, 1) := by decide +kernel
theorem dX8_init_64 : decode cX8_init 64 = .ok (.invokespecial 46, 3) := by decide +kernel
theorem dX8_init_67 : decode cX8_init 67 = .ok (.putfield 47, 3) := by decide +kernel
theorem dX8_init_70 : decode cX8_init 70 = .ok (.aload_n 0, 1) := by decide +kernel
theorem dX8_init_71 : decode cX8_init 71 = .ok (.sipush 800, 3) := by decide +kernel
theorem dX8_init_74 : decode cX8_init 74 = .ok (.newarray .int, 2) := by decide +kernel
theorem dX8_init_76 : decode cX8_init 76 = .ok (.putfield 51, 3) := by decide +kernel
theorem dX8_init_79 : decode cX8_init 79 = .ok (.aload_n 0, 1) := by decide +kernel
theorem dX8_init_80 : decode cX8_init 80 = .ok (.iconst 0, 1) := by decide +kernel
theorem dX8_init_81 : decode cX8_init 81 = .ok (.putfield 55, 3) := by decide +kernel
theorem dX8_init_84 : decode cX8_init 84 = .ok (.aload_n 0, 1) := by decide +kernel
theorem dX8_init_85 : decode cX8_init 85 = .ok (.iconst 4, 1) := by decide +kernel
theorem dX8_init_86 : decode cX8_init 86 = .ok (.putfield 59, 3) := by decide +kernel
theorem dX8_init_89 : decode cX8_init 89 = .ok (.return_, 1) := by decide +kernel
theorem dX8_feed_0 : decode cX8_feed 0 = .ok (.aload_n 0, 1) := by decide +kernel
theorem dX8_feed_1 : decode cX8_feed 1 = .ok (.getfield 12, 3) := by decide +kernel
theorem dX8_feed_4 : decode cX8_feed 4 = .ok (.getfield 62, 3) := by decide +kernel
theorem dX8_feed_7 : decode cX8_feed 7 = .ok (.bipush 20, 2) := by decide +kernel
theorem dX8_feed_9 : decode cX8_feed 9 = .ok (.iadd, 1) := by decide +kernel
theorem dX8_feed_10 : decode cX8_feed 10 = .ok (.sipush 800, 3) := by decide +kernel
theorem dX8_feed_13 : decode cX8_feed 13 = .ok (.if_icmp .le 5, 3) := by decide +kernel
theorem dX8_feed_16 : decode cX8_feed 16 = .ok (.iconst (-1), 1) := by decide +kernel
theorem dX8_feed_17 : decode cX8_feed 17 = .ok (.ireturn, 1) := by decide +kernel
theorem dX8_feed_18 : decode cX8_feed 18 = .ok (.aload_n 0, 1) := by decide +kernel
theorem dX8_feed_19 : decode cX8_feed 19 = .ok (.getfield 12, 3) := by decide +kernel
theorem dX8_feed_22 : decode cX8_feed 22 = .ok (.iload_n 1, 1) := by decide +kernel
theorem dX8_feed_23 : decode cX8_feed 23 = .ok (.invokevirtual 65, 3) := by decide +kernel
theorem dX8_feed_26 : decode cX8_feed 26 = .ok (.aload_n 0, 1) := by decide +kernel
theorem dX8_feed_27 : decode cX8_feed 27 = .ok (.getfield 12, 3) := by decide +kernel
theorem dX8_feed_30 : decode cX8_feed 30 = .ok (.iload_n 2, 1) := by decide +kernel
theorem dX8_feed_31 : decode cX8_feed 31 = .ok (.invokevirtual 65, 3) := by decide +kernel
theorem dX8_feed_34 : decode cX8_feed 34 = .ok (.aload_n 0, 1) := by decide +kernel
theorem dX8_feed_35 : decode cX8_feed 35 = .ok (.getfield 12, 3) := by decide +kernel
theorem dX8_feed_38 : decode cX8_feed 38 = .ok (.iload_n 3, 1) := by decide +kernel
theorem dX8_feed_39 : decode cX8_feed 39 = .ok (.invokevirtual 65, 3) := by decide +kernel
theorem dX8_feed_42 : decode cX8_feed 42 = .ok (.aload_n 0, 1) := by decide +kernel
theorem dX8_feed_43 : decode cX8_feed 43 = .ok (.getfield 12, 3) := by decide +kernel
theorem dX8_feed_46 : decode cX8_feed 46 = .ok (.iload 4, 2) := by decide +kernel
theorem dX8_feed_48 : decode cX8_feed 48 = .ok (.invokevirtual 65, 3) := by decide +kernel
theorem dX8_feed_51 : decode cX8_feed 51 = .ok (.aload_n 0, 1) := by decide +kernel
theorem dX8_feed_52 : decode cX8_feed 52 = .ok (.getfield 12, 3) := by decide +kernel
theorem dX8_feed_55 : decode cX8_feed 55 = .ok (.iload 5, 2) := by decide +kernel
theorem dX8_feed_57 : decode cX8_feed 57 = .ok (.invokevirtual 65, 3) := by decide +kernel
theorem dX8_feed_60 : decode cX8_feed 60 = .ok (.aload_n 0, 1) := by decide +kernel
theorem dX8_feed_61 : decode cX8_feed 61 = .ok (.getfield 12, 3) := by decide +kernel
theorem dX8_feed_64 : decode cX8_feed 64 = .ok (.getfield 62, 3) := by decide +kernel
theorem dX8_feed_67 : decode cX8_feed 67 = .ok (.ireturn, 1) := by decide +kernel
theorem dX8_end_0 : decode cX8_end 0 = .ok (.aload_n 0, 1) := by decide +kernel
theorem dX8_end_1 : decode cX8_end 1 = .ok (.getfield 12, 3) := by decide +kernel
theorem dX8_end_4 : decode cX8_end 4 = .ok (.iload_n 1, 1) := by decide +kernel
theorem dX8_end_5 : decode cX8_end 5 = .ok (.invokevirtual 69, 3) := by decide +kernel
theorem dX8_end_8 : decode cX8_end 8 = .ok (.ireturn, 1) := by decide +kernel
theorem dX8_add_0 : decode cX8_add 0 = .ok (.aload_n 0, 1) := by decide +kernel
theorem dX8_add_1 : decode cX8_add 1 = .ok (.getfield 12, 3) := by decide +kernel
theorem dX8_add_4 : decode cX8_add 4 = .ok (.invokevirtual 73, 3) := by decide +kernel
theorem dX8_add_7 : decode cX8_add 7 = .ok (.pop, 1) := by decide +kernel
theorem dX8_add_8 : decode cX8_add 8 = .ok (.aload_n 0, 1) := by decide +kernel
theorem dX8_add_9 : decode cX8_add 9 = .ok (.getfield 12, 3) := by decide +kernel
theorem dX8_add_12 : decode cX8_add 12 = .ok (.iconst 0, 1) := by decide +kernel
theorem dX8_add_13 : decode cX8_add 13 = .ok (.invokevirtual 69, 3) := by decide +kernel
theorem dX8_add_16 : decode cX8_add 16 = .ok (.pop, 1) := by decide +kernel
theorem dX8_add_17 : decode cX8_add 17 = .ok (.aload_n 0, 1) := by decide +kernel
theorem dX8_add_18 : decode cX8_add 18 = .ok (.getfield 33, 3) := by decide +kernel
theorem dX8_add_21 : decode cX8_add 21 = .ok (.invokevirtual 77, 3) := by decide +kernel
theorem dX8_add_24 : decode cX8_add 24 = .ok (.ifCond .eq 5, 3) := by decide +kernel
theorem dX8_add_27 : decode cX8_add 27 = .ok (.iconst (-1), 1) := by decide +kernel
theorem dX8_add_28 : decode cX8_add 28 = .ok (.ireturn, 1) := by decide +kernel
theorem dX8_add_29 : decode cX8_add 29 = .ok (.aload_n 0, 1) := by decide +kernel
theorem dX8_add_30 : decode cX8_add 30 = .ok (.getfield 12, 3) := by decide +kernel
theorem dX8_add_33 : decode cX8_add 33 = .ok (.aload_n 0, 1) := by decide +kernel
theorem dX8_add_34 : decode cX8_add 34 = .ok (.getfield 55, 3) := by decide +kernel
theorem dX8_add_37 : decode cX8_add 37 = .ok (.iconst 1, 1) := by decide +kernel
theorem dX8_add_38 : decode cX8_add 38 = .ok (.if_icmp .ne 7, 3) := by decide +kernel
theorem dX8_add_41 : decode cX8_add 41 = .ok (.iconst 1, 1) := by decide +kernel
theorem dX8_add_42 : decode cX8_add 42 = .ok (.goto 4, 3) := by decide +kernel
theorem dX8_add_45 : decode cX8_add 45 = .ok (.iconst 0, 1) := by decide +kernel
theorem dX8_add_46 : decode cX8_add 46 = .ok (.invokevirtual 81, 3) := by decide +kernel
theorem dX8_add_49 : decode cX8_add 49 = .ok (.aload_n 0, 1) := by decide +kernel
theorem dX8_add_50 : decode cX8_add 50 = .ok (.getfield 19, 3) := by decide +kernel
theorem dX8_add_53 : decode cX8_add 53 = .ok (.getfield 85, 3) := by decide +kernel
theorem dX8_add_56 : decode cX8_add 56 = .ok (.istore_n 1, 1) := by decide +kernel
theorem dX8_add_57 : decode cX8_add 57 = .ok (.aload_n 0, 1) := by decide +kernel
theorem dX8_add_58 : decode cX8_add 58 = .ok (.invokevirtual 88, 3) := by decide +kernel
theorem dX8_add_61 : decode cX8_add 61 = .ok (.istore_n 2, 1) := by decide +kernel
theorem dX8_add_62 : decode cX8_add 62 = .ok (.iload_n 2, 1) := by decide +kernel
theorem dX8_add_63 : decode cX8_add 63 = .ok (.iconst (-1), 1) := by decide +kernel
theorem dX8_add_64 : decode cX8_add 64 = .ok (.if_icmp .ne 13, 3) := by decide +kernel
theorem dX8_add_67 : decode cX8_add 67 = .ok (.aload_n 0, 1) := by decide +kernel
theorem dX8_add_68 : decode cX8_add 68 = .ok (.getfield 19, 3) := by decide +kernel
theorem dX8_add_71 : decode cX8_add 71 = .ok (.iload_n 1, 1) := by decide +kernel
theorem dX8_add_72 : decode cX8_add 72 = .ok (.invokevirtual 91, 3) := by decide +kernel
theorem dX8_add_75 : decode cX8_add 75 = .ok (.iconst (-1), 1) := by decide +kernel
theorem dX8_add_76 : decode cX8_add 76 = .ok (.ireturn, 1) := by decide +kernel
theorem dX8_add_77 : decode cX8_add 77 = .ok (.aload_n 0, 1) := by decide +kernel
theorem dX8_add_78 : decode cX8_add 78 = .ok (.getfield 33, 3) := by decide +kernel
theorem dX8_add_81 : decode cX8_add 81 = .ok (.invokevirtual 94, 3) := by decide +kernel
theorem dX8_add_84 : decode cX8_add 84 = .ok (.astore_n 3, 1) := by decide +kernel
theorem dX8_add_85 : decode cX8_add 85 = .ok (.aload_n 3, 1) := by decide +kernel
theorem dX8_add_86 : decode cX8_add 86 = .ok (.aload_n 0, 1) := by decide +kernel
theorem dX8_add_87 : decode cX8_add 87 = .ok (.getfield 51, 3) := by decide +kernel
theorem dX8_add_90 : decode cX8_add 90 = .ok (.iload_n 2, 1) := by decide +kernel
theorem dX8_add_91 : decode cX8_add 91 = .ok (.aload_n 0, 1) := by decide +kernel
theorem dX8_add_92 : decode cX8_add 92 = .ok (.getfield 19, 3) := by decide +kernel
theorem dX8_add_95 : decode cX8_add 95 = .ok (.getfield 85, 3) := by decide +kernel
theorem dX8_add_98 : decode cX8_add 98 = .ok (.invokevirtual 98, 3) := by decide +kernel
theorem dX8_add_101 : decode cX8_add 101 = .ok (.iconst 0, 1) := by decide +kernel
theorem dX8_add_102 : decode cX8_add 102 = .ok (.istore 4, 2) := by decide +kernel
theorem dX8_add_104 : decode cX8_add 104 = .ok (.iload 4, 2) := by decide +kernel
theorem dX8_add_106 : decode cX8_add 106 = .ok (.bipush 64, 2) := by decide +kernel
theorem dX8_add_108 : decode cX8_add 108 = .ok (.if_icmp .ge 26, 3) := by decide +kernel
theorem dX8_add_111 : decode cX8_add 111 = .ok (.aload_n 3, 1) := by decide +kernel
theorem dX8_add_112 : decode cX8_add 112 = .ok (.getfield 104, 3) := by decide +kernel
theorem dX8_add_115 : decode cX8_add 115 = .ok (.iload 4, 2) := by decide +kernel
theorem dX8_add_117 : decode cX8_add 117 = .ok (.aload_n 0, 1) := by decide +kernel
theorem dX8_add_118 : decode cX8_add 118 = .ok (.getfield 26, 3) := by decide +kernel
theorem dX8_add_121 : decode cX8_add 121 = .ok (.aload_n 3, 1) := by decide +kernel
theorem dX8_add_122 : decode cX8_add 122 = .ok (.iload 4, 2) := by decide +kernel
theorem dX8_add_124 : decode cX8_add 124 = .ok (.invokevirtual 107, 3) := by decide +kernel
theorem dX8_add_127 : decode cX8_add 127 = .ok (.iastore, 1) := by decide +kernel
theorem dX8_add_128 : decode cX8_add 128 = .ok (.iinc 4 1, 3) := by decide +kernel
theorem dX8_add_131 : decode cX8_add 131 = .ok (.goto (-27), 3) := by decide +kernel
theorem dX8_add_134 : decode cX8_add 134 = .ok (.aload_n 0, 1) := by decide +kernel
theorem dX8_add_135 : decode cX8_add 135 = .ok (.getfield 33, 3) := by decide +kernel
theorem dX8_add_138 : decode cX8_add 138 = .ok (.aload_n 3, 1) := by decide +kernel
theorem dX8_add_139 : decode cX8_add 139 = .ok (.invokevirtual 111, 3) := by decide +kernel
theorem dX8_add_142 : decode cX8_add 142 = .ok (.aload_n 0, 1) := by decide +kernel
theorem dX8_add_143 : decode cX8_add 143 = .ok (.getfield 47, 3) := by decide +kernel
theorem dX8_add_146 : decode cX8_add 146 = .ok (.iconst 0, 1) := by decide +kernel
theorem dX8_add_147 : decode cX8_add 147 = .ok (.putfield 115, 3) := by decide +kernel
theorem dX8_add_150 : decode cX8_add 150 = .ok (.aload_n 3, 1) := by decide +kernel
theorem dX8_add_151 : decode cX8_add 151 = .ok (.getfield 119, 3) := by decide +kernel
theorem dX8_add_154 : decode cX8_add 154 = .ok (.ireturn, 1) := by decide +kernel
theorem dX8_remove_0 : decode cX8_remove 0 = .ok (.aload_n 0, 1) := by decide +kernel
theorem dX8_remove_1 : decode cX8_remove 1 = .ok (.getfield 33, 3) := by decide +kernel
theorem dX8_remove_4 : decode cX8_remove 4 = .ok (.iload_n 1, 1) := by decide +kernel
theorem dX8_remove_5 : decode cX8_remove 5 = .ok (.invokevirtual 122, 3) := by decide +kernel
theorem dX8_remove_8 : decode cX8_remove 8 = .ok (.istore_n 2, 1) := by decide +kernel
theorem dX8_remove_9 : decode cX8_remove 9 = .ok (.iload_n 2, 1) := by decide +kernel
theorem dX8_remove_10 : decode cX8_remove 10 = .ok (.ifCond .eq 11, 3) := by decide +kernel
theorem dX8_remove_13 : decode cX8_remove 13 = .ok (.aload_n 0, 1) := by decide +kernel
theorem dX8_remove_14 : decode cX8_remove 14 = .ok (.getfield 47, 3) := by decide +kernel
theorem dX8_remove_17 : decode cX8_remove 17 = .ok (.iconst 0, 1) := by decide +kernel
theorem dX8_remove_18 : decode cX8_remove 18 = .ok (.putfield 115, 3) := by decide +kernel
theorem dX8_remove_21 : decode cX8_remove 21 = .ok (.iload_n 2, 1) := by decide +kernel
theorem dX8_remove_22 : decode cX8_remove 22 = .ok (.ireturn, 1) := by decide +kernel
theorem dX8_mode_0 : decode cX8_mode 0 = .ok (.iload_n 1, 1) := by decide +kernel
theorem dX8_mode_1 : decode cX8_mode 1 = .ok (.ifCond .lt 19, 3) := by decide +kernel
theorem dX8_mode_4 : decode cX8_mode 4 = .ok (.iload_n 1, 1) := by decide +kernel
theorem dX8_mode_5 : decode cX8_mode 5 = .ok (.iconst 1, 1) := by decide +kernel
theorem dX8_mode_6 : decode cX8_mode 6 = .ok (.if_icmp .gt 14, 3) := by decide +kernel
theorem dX8_mode_9 : decode cX8_mode 9 = .ok (.iload_n 2, 1) := by decide +kernel
theorem dX8_mode_10 : decode cX8_mode 10 = .ok (.iconst 1, 1) := by decide +kernel
theorem dX8_mode_11 : decode cX8_mode 11 = .ok (.if_icmp .lt 9, 3) := by decide +kernel
theorem dX8_mode_14 : decode cX8_mode 14 = .ok (.iload_n 2, 1) := by decide +kernel
theorem dX8_mode_15 : decode cX8_mode 15 = .ok (.bipush 9, 2) := by decide +kernel
theorem dX8_mode_17 : decode cX8_mode 17 = .ok (.if_icmp .le 13, 3) := by decide +kernel
theorem dX8_mode_20 : decode cX8_mode 20 = .ok (.new 125, 3) := by decide +kernel
theorem dX8_mode_23 : decode cX8_mode 23 = .ok (.dup, 1) := by decide +kernel
theorem dX8_mode_24 : decode cX8_mode 24 = .ok (.ldc 127, 2) := by decide +kernel
theorem dX8_mode_26 : decode cX8_mode 26 = .ok (.invokespecial 129, 3) := by decide +kernel
theorem dX8_mode_29 : decode cX8_mode 29 = .ok (.athrow, 1) := by decide +kernel
theorem dX8_mode_30 : decode cX8_mode 30 = .ok (.aload_n 0, 1) := by decide +kernel
theorem dX8_mode_31 : decode cX8_mode 31 = .ok (.iload_n 1, 1) := by decide +kernel
theorem dX8_mode_32 : decode cX8_mode 32 = .ok (.putfield 55, 3) := by decide +kernel
theorem dX8_mode_35 : decode cX8_mode 35 = .ok (.aload_n 0, 1) := by decide +kernel
theorem dX8_mode_36 : decode cX8_mode 36 = .ok (.iload_n 2, 1) := by decide +kernel
theorem dX8_mode_37 : decode cX8_mode 37 = .ok (.putfield 59, 3) := by decide +kernel
theorem dX8_mode_40 : decode cX8_mode 40 = .ok (.aload_n 0, 1) := by decide +kernel
theorem dX8_mode_41 : decode cX8_mode 41 = .ok (.getfield 19, 3) := by decide +kernel
theorem dX8_mode_44 : decode cX8_mode 44 = .ok (.iconst 0, 1) := by decide +kernel
theorem dX8_mode_45 : decode cX8_mode 45 = .ok (.invokevirtual 91, 3) := by decide +kernel
theorem dX8_mode_48 : decode cX8_mode 48 = .ok (.aload_n 0, 1) := by decide +kernel
theorem dX8_mode_49 : decode cX8_mode 49 = .ok (.getfield 47, 3) := by decide +kernel
theorem dX8_mode_52 : decode cX8_mode 52 = .ok (.iconst 0, 1) := by decide +kernel
theorem dX8_mode_53 : decode cX8_mode 53 = .ok (.putfield 115, 3) := by decide +kernel
theorem dX8_mode_56 : decode cX8_mode 56 = .ok (.aload_n 0, 1) := by decide +kernel
theorem dX8_mode_57 : decode cX8_mode 57 = .ok (.getfield 33, 3) := by decide +kernel
theorem dX8_mode_60 : decode cX8_mode 60 = .ok (.invokevirtual 132, 3) := by decide +kernel
theorem dX8_mode_63 : decode cX8_mode 63 = .ok (.ireturn, 1) := by decide +kernel
theorem dX8_tell_0 : decode cX8_tell 0 = .ok (.aload_n 0, 1) := by decide +kernel
theorem dX8_tell_1 : decode cX8_tell 1 = .ok (.getfield 26, 3) := by decide +kernel
theorem dX8_tell_4 : decode cX8_tell 4 = .ok (.iload_n 1, 1) := by decide +kernel
theorem dX8_tell_5 : decode cX8_tell 5 = .ok (.iload_n 2, 1) := by decide +kernel
theorem dX8_tell_6 : decode cX8_tell 6 = .ok (.iload_n 3, 1) := by decide +kernel
theorem dX8_tell_7 : decode cX8_tell 7 = .ok (.invokevirtual 135, 3) := by decide +kernel
theorem dX8_tell_10 : decode cX8_tell 10 = .ok (.ifCond .ne 5, 3) := by decide +kernel
theorem dX8_tell_13 : decode cX8_tell 13 = .ok (.iconst 0, 1) := by decide +kernel
theorem dX8_tell_14 : decode cX8_tell 14 = .ok (.ireturn, 1) := by decide +kernel
theorem dX8_tell_15 : decode cX8_tell 15 = .ok (.aload_n 0, 1) := by decide +kernel
theorem dX8_tell_16 : decode cX8_tell 16 = .ok (.iload_n 1, 1) := by decide +kernel
theorem dX8_tell_17 : decode cX8_tell 17 = .ok (.invokevirtual 139, 3) := by decide +kernel
theorem dX8_tell_20 : decode cX8_tell 20 = .ok (.iconst 1, 1) := by decide +kernel
theorem dX8_tell_21 : decode cX8_tell 21 = .ok (.ireturn, 1) := by decide +kernel
theorem dX8_exchange_0 : decode cX8_exchange 0 = .ok (.aload_n 0, 1) := by decide +kernel
theorem dX8_exchange_1 : decode cX8_exchange 1 = .ok (.getfield 26, 3) := by decide +kernel
theorem dX8_exchange_4 : decode cX8_exchange 4 = .ok (.iload_n 1, 1) := by decide +kernel
theorem dX8_exchange_5 : decode cX8_exchange 5 = .ok (.iload_n 2, 1) := by decide +kernel
theorem dX8_exchange_6 : decode cX8_exchange 6 = .ok (.iload_n 3, 1) := by decide +kernel
theorem dX8_exchange_7 : decode cX8_exchange 7 = .ok (.invokevirtual 142, 3) := by decide +kernel
theorem dX8_exchange_10 : decode cX8_exchange 10 = .ok (.ifCond .ne 5, 3) := by decide +kernel
theorem dX8_exchange_13 : decode cX8_exchange 13 = .ok (.iconst (-1), 1) := by decide +kernel
theorem dX8_exchange_14 : decode cX8_exchange 14 = .ok (.ireturn, 1) := by decide +kernel
theorem dX8_exchange_15 : decode cX8_exchange 15 = .ok (.aload_n 0, 1) := by decide +kernel
theorem dX8_exchange_16 : decode cX8_exchange 16 = .ok (.iload_n 1, 1) := by decide +kernel
theorem dX8_exchange_17 : decode cX8_exchange 17 = .ok (.invokevirtual 139, 3) := by decide +kernel
theorem dX8_exchange_20 : decode cX8_exchange 20 = .ok (.aload_n 0, 1) := by decide +kernel
theorem dX8_exchange_21 : decode cX8_exchange 21 = .ok (.getfield 26, 3) := by decide +kernel
theorem dX8_exchange_24 : decode cX8_exchange 24 = .ok (.getfield 145, 3) := by decide +kernel
theorem dX8_exchange_27 : decode cX8_exchange 27 = .ok (.ireturn, 1) := by decide +kernel
theorem dX8_image_0 : decode cX8_image 0 = .ok (.aload_n 0, 1) := by decide +kernel
theorem dX8_image_1 : decode cX8_image 1 = .ok (.getfield 26, 3) := by decide +kernel
theorem dX8_image_4 : decode cX8_image 4 = .ok (.iload_n 1, 1) := by decide +kernel
theorem dX8_image_5 : decode cX8_image 5 = .ok (.iload_n 2, 1) := by decide +kernel
theorem dX8_image_6 : decode cX8_image 6 = .ok (.invokevirtual 148, 3) := by decide +kernel
theorem dX8_image_9 : decode cX8_image 9 = .ok (.ireturn, 1) := by decide +kernel
theorem dX8_bands_0 : decode cX8_bands 0 = .ok (.aload_n 0, 1) := by decide +kernel
theorem dX8_bands_1 : decode cX8_bands 1 = .ok (.getfield 40, 3) := by decide +kernel
theorem dX8_bands_4 : decode cX8_bands 4 = .ok (.iload_n 1, 1) := by decide +kernel
theorem dX8_bands_5 : decode cX8_bands 5 = .ok (.iload_n 2, 1) := by decide +kernel
theorem dX8_bands_6 : decode cX8_bands 6 = .ok (.invokevirtual 152, 3) := by decide +kernel
theorem dX8_bands_9 : decode cX8_bands 9 = .ok (.istore_n 3, 1) := by decide +kernel
theorem dX8_bands_10 : decode cX8_bands 10 = .ok (.iload_n 3, 1) := by decide +kernel
theorem dX8_bands_11 : decode cX8_bands 11 = .ok (.ifCond .eq 11, 3) := by decide +kernel
theorem dX8_bands_14 : decode cX8_bands 14 = .ok (.aload_n 0, 1) := by decide +kernel
theorem dX8_bands_15 : decode cX8_bands 15 = .ok (.getfield 47, 3) := by decide +kernel
theorem dX8_bands_18 : decode cX8_bands 18 = .ok (.iconst 0, 1) := by decide +kernel
theorem dX8_bands_19 : decode cX8_bands 19 = .ok (.putfield 115, 3) := by decide +kernel
theorem dX8_bands_22 : decode cX8_bands 22 = .ok (.iload_n 3, 1) := by decide +kernel
theorem dX8_bands_23 : decode cX8_bands 23 = .ok (.ireturn, 1) := by decide +kernel
theorem dX8_threshold_0 : decode cX8_threshold 0 = .ok (.aload_n 0, 1) := by decide +kernel
theorem dX8_threshold_1 : decode cX8_threshold 1 = .ok (.getfield 40, 3) := by decide +kernel
theorem dX8_threshold_4 : decode cX8_threshold 4 = .ok (.iload_n 1, 1) := by decide +kernel
theorem dX8_threshold_5 : decode cX8_threshold 5 = .ok (.iload_n 2, 1) := by decide +kernel
theorem dX8_threshold_6 : decode cX8_threshold 6 = .ok (.invokevirtual 156, 3) := by decide +kernel
theorem dX8_threshold_9 : decode cX8_threshold 9 = .ok (.istore_n 3, 1) := by decide +kernel
theorem dX8_threshold_10 : decode cX8_threshold 10 = .ok (.iload_n 3, 1) := by decide +kernel
theorem dX8_threshold_11 : decode cX8_threshold 11 = .ok (.ifCond .eq 11, 3) := by decide +kernel
theorem dX8_threshold_14 : decode cX8_threshold 14 = .ok (.aload_n 0, 1) := by decide +kernel
theorem dX8_threshold_15 : decode cX8_threshold 15 = .ok (.getfield 47, 3) := by decide +kernel
theorem dX8_threshold_18 : decode cX8_threshold 18 = .ok (.iconst 0, 1) := by decide +kernel
theorem dX8_threshold_19 : decode cX8_threshold 19 = .ok (.putfield 115, 3) := by decide +kernel
theorem dX8_threshold_22 : decode cX8_threshold 22 = .ok (.iload_n 3, 1) := by decide +kernel
theorem dX8_threshold_23 : decode cX8_threshold 23 = .ok (.ireturn, 1) := by decide +kernel
theorem dX8_document_0 : decode cX8_document 0 = .ok (.aload_n 0, 1) := by decide +kernel
theorem dX8_document_1 : decode cX8_document 1 = .ok (.getfield 33, 3) := by decide +kernel
theorem dX8_document_4 : decode cX8_document 4 = .ok (.iload_n 1, 1) := by decide +kernel
theorem dX8_document_5 : decode cX8_document 5 = .ok (.invokevirtual 159, 3) := by decide +kernel
theorem dX8_document_8 : decode cX8_document 8 = .ok (.istore_n 3, 1) := by decide +kernel
theorem dX8_document_9 : decode cX8_document 9 = .ok (.iload_n 3, 1) := by decide +kernel
theorem dX8_document_10 : decode cX8_document 10 = .ok (.iconst (-1), 1) := by decide +kernel
theorem dX8_document_11 : decode cX8_document 11 = .ok (.if_icmp .eq 12, 3) := by decide +kernel
theorem dX8_document_14 : decode cX8_document 14 = .ok (.iload_n 2, 1) := by decide +kernel
theorem dX8_document_15 : decode cX8_document 15 = .ok (.ifCond .lt 8, 3) := by decide +kernel
theorem dX8_document_18 : decode cX8_document 18 = .ok (.iload_n 2, 1) := by decide +kernel
theorem dX8_document_19 : decode cX8_document 19 = .ok (.iconst 3, 1) := by decide +kernel
theorem dX8_document_20 : decode cX8_document 20 = .ok (.if_icmp .le 13, 3) := by decide +kernel
theorem dX8_document_23 : decode cX8_document 23 = .ok (.new 163, 3) := by decide +kernel
theorem dX8_document_26 : decode cX8_document 26 = .ok (.dup, 1) := by decide +kernel
theorem dX8_document_27 : decode cX8_document 27 = .ok (.ldc 165, 2) := by decide +kernel
theorem dX8_document_29 : decode cX8_document 29 = .ok (.invokespecial 167, 3) := by decide +kernel
theorem dX8_document_32 : decode cX8_document 32 = .ok (.athrow, 1) := by decide +kernel
theorem dX8_document_33 : decode cX8_document 33 = .ok (.iload_n 2, 1) := by decide +kernel
theorem dX8_document_34 : decode cX8_document 34 = .ok (.ifCond .ne 21, 3) := by decide +kernel
theorem dX8_document_37 : decode cX8_document 37 = .ok (.aload_n 0, 1) := by decide +kernel
theorem dX8_document_38 : decode cX8_document 38 = .ok (.getfield 33, 3) := by decide +kernel
theorem dX8_document_41 : decode cX8_document 41 = .ok (.getfield 168, 3) := by decide +kernel
theorem dX8_document_44 : decode cX8_document 44 = .ok (.iload_n 3, 1) := by decide +kernel
theorem dX8_document_45 : decode cX8_document 45 = .ok (.invokevirtual 172, 3) := by decide +kernel
theorem dX8_document_48 : decode cX8_document 48 = .ok (.checkcast 99, 3) := by decide +kernel
theorem dX8_document_51 : decode cX8_document 51 = .ok (.getfield 178, 3) := by decide +kernel
theorem dX8_document_54 : decode cX8_document 54 = .ok (.ireturn, 1) := by decide +kernel
theorem dX8_document_55 : decode cX8_document 55 = .ok (.aload_n 0, 1) := by decide +kernel
theorem dX8_document_56 : decode cX8_document 56 = .ok (.getfield 47, 3) := by decide +kernel
theorem dX8_document_59 : decode cX8_document 59 = .ok (.aload_n 0, 1) := by decide +kernel
theorem dX8_document_60 : decode cX8_document 60 = .ok (.getfield 33, 3) := by decide +kernel
theorem dX8_document_63 : decode cX8_document 63 = .ok (.getfield 168, 3) := by decide +kernel
theorem dX8_document_66 : decode cX8_document 66 = .ok (.aload_n 0, 1) := by decide +kernel
theorem dX8_document_67 : decode cX8_document 67 = .ok (.getfield 40, 3) := by decide +kernel
theorem dX8_document_70 : decode cX8_document 70 = .ok (.invokevirtual 181, 3) := by decide +kernel
theorem dX8_document_73 : decode cX8_document 73 = .ok (.iload_n 2, 1) := by decide +kernel
theorem dX8_document_74 : decode cX8_document 74 = .ok (.lookupswitch 48 #[(1, 26), (2, 37)], 26) := by decide +kernel
theorem dX8_document_100 : decode cX8_document 100 = .ok (.aload_n 0, 1) := by decide +kernel
theorem dX8_document_101 : decode cX8_document 101 = .ok (.getfield 47, 3) := by decide +kernel
theorem dX8_document_104 : decode cX8_document 104 = .ok (.iload_n 3, 1) := by decide +kernel
theorem dX8_document_105 : decode cX8_document 105 = .ok (.invokevirtual 185, 3) := by decide +kernel
theorem dX8_document_108 : decode cX8_document 108 = .ok (.goto 22, 3) := by decide +kernel
theorem dX8_document_111 : decode cX8_document 111 = .ok (.aload_n 0, 1) := by decide +kernel
theorem dX8_document_112 : decode cX8_document 112 = .ok (.getfield 47, 3) := by decide +kernel
theorem dX8_document_115 : decode cX8_document 115 = .ok (.iload_n 3, 1) := by decide +kernel
theorem dX8_document_116 : decode cX8_document 116 = .ok (.invokevirtual 188, 3) := by decide +kernel
theorem dX8_document_119 : decode cX8_document 119 = .ok (.goto 11, 3) := by decide +kernel
theorem dX8_document_122 : decode cX8_document 122 = .ok (.aload_n 0, 1) := by decide +kernel
theorem dX8_document_123 : decode cX8_document 123 = .ok (.getfield 47, 3) := by decide +kernel
theorem dX8_document_126 : decode cX8_document 126 = .ok (.iload_n 3, 1) := by decide +kernel
theorem dX8_document_127 : decode cX8_document 127 = .ok (.invokevirtual 191, 3) := by decide +kernel
theorem dX8_document_130 : decode cX8_document 130 = .ok (.ireturn, 1) := by decide +kernel
theorem dX8_shingle_0 : decode cX8_shingle 0 = .ok (.aload_n 0, 1) := by decide +kernel
theorem dX8_shingle_1 : decode cX8_shingle 1 = .ok (.iload_n 1, 1) := by decide +kernel
theorem dX8_shingle_2 : decode cX8_shingle 2 = .ok (.invokevirtual 194, 3) := by decide +kernel
theorem dX8_shingle_5 : decode cX8_shingle 5 = .ok (.astore_n 3, 1) := by decide +kernel
theorem dX8_shingle_6 : decode cX8_shingle 6 = .ok (.iload_n 2, 1) := by decide +kernel
theorem dX8_shingle_7 : decode cX8_shingle 7 = .ok (.ifCond .lt 20, 3) := by decide +kernel
theorem dX8_shingle_10 : decode cX8_shingle 10 = .ok (.iload_n 2, 1) := by decide +kernel
theorem dX8_shingle_11 : decode cX8_shingle 11 = .ok (.aload_n 3, 1) := by decide +kernel
theorem dX8_shingle_12 : decode cX8_shingle 12 = .ok (.getfield 178, 3) := by decide +kernel
theorem dX8_shingle_15 : decode cX8_shingle 15 = .ok (.if_icmp .ge 12, 3) := by decide +kernel
theorem dX8_shingle_18 : decode cX8_shingle 18 = .ok (.aload_n 3, 1) := by decide +kernel
theorem dX8_shingle_19 : decode cX8_shingle 19 = .ok (.getfield 198, 3) := by decide +kernel
theorem dX8_shingle_22 : decode cX8_shingle 22 = .ok (.iload_n 2, 1) := by decide +kernel
theorem dX8_shingle_23 : decode cX8_shingle 23 = .ok (.iaload, 1) := by decide +kernel
theorem dX8_shingle_24 : decode cX8_shingle 24 = .ok (.goto 4, 3) := by decide +kernel
theorem dX8_shingle_27 : decode cX8_shingle 27 = .ok (.iconst (-1), 1) := by decide +kernel
theorem dX8_shingle_28 : decode cX8_shingle 28 = .ok (.ireturn, 1) := by decide +kernel
theorem dX8_letter_0 : decode cX8_letter 0 = .ok (.aload_n 0, 1) := by decide +kernel
theorem dX8_letter_1 : decode cX8_letter 1 = .ok (.getfield 19, 3) := by decide +kernel
theorem dX8_letter_4 : decode cX8_letter 4 = .ok (.iload_n 1, 1) := by decide +kernel
theorem dX8_letter_5 : decode cX8_letter 5 = .ok (.iload_n 2, 1) := by decide +kernel
theorem dX8_letter_6 : decode cX8_letter 6 = .ok (.invokevirtual 201, 3) := by decide +kernel
theorem dX8_letter_9 : decode cX8_letter 9 = .ok (.ireturn, 1) := by decide +kernel
theorem dX8_signature_0 : decode cX8_signature 0 = .ok (.aload_n 0, 1) := by decide +kernel
theorem dX8_signature_1 : decode cX8_signature 1 = .ok (.iload_n 1, 1) := by decide +kernel
theorem dX8_signature_2 : decode cX8_signature 2 = .ok (.invokevirtual 194, 3) := by decide +kernel
theorem dX8_signature_5 : decode cX8_signature 5 = .ok (.astore_n 3, 1) := by decide +kernel
theorem dX8_signature_6 : decode cX8_signature 6 = .ok (.iload_n 2, 1) := by decide +kernel
theorem dX8_signature_7 : decode cX8_signature 7 = .ok (.ifCond .lt 9, 3) := by decide +kernel
theorem dX8_signature_10 : decode cX8_signature 10 = .ok (.iload_n 2, 1) := by decide +kernel
theorem dX8_signature_11 : decode cX8_signature 11 = .ok (.bipush 64, 2) := by decide +kernel
theorem dX8_signature_13 : decode cX8_signature 13 = .ok (.if_icmp .lt 13, 3) := by decide +kernel
theorem dX8_signature_16 : decode cX8_signature 16 = .ok (.new 163, 3) := by decide +kernel
theorem dX8_signature_19 : decode cX8_signature 19 = .ok (.dup, 1) := by decide +kernel
theorem dX8_signature_20 : decode cX8_signature 20 = .ok (.ldc 204, 2) := by decide +kernel
theorem dX8_signature_22 : decode cX8_signature 22 = .ok (.invokespecial 167, 3) := by decide +kernel
theorem dX8_signature_25 : decode cX8_signature 25 = .ok (.athrow, 1) := by decide +kernel
theorem dX8_signature_26 : decode cX8_signature 26 = .ok (.aload_n 3, 1) := by decide +kernel
theorem dX8_signature_27 : decode cX8_signature 27 = .ok (.getfield 104, 3) := by decide +kernel
theorem dX8_signature_30 : decode cX8_signature 30 = .ok (.iload_n 2, 1) := by decide +kernel
theorem dX8_signature_31 : decode cX8_signature 31 = .ok (.iaload, 1) := by decide +kernel
theorem dX8_signature_32 : decode cX8_signature 32 = .ok (.ireturn, 1) := by decide +kernel
theorem dX8_both_0 : decode cX8_both 0 = .ok (.aload_n 0, 1) := by decide +kernel
theorem dX8_both_1 : decode cX8_both 1 = .ok (.iload_n 1, 1) := by decide +kernel
theorem dX8_both_2 : decode cX8_both 2 = .ok (.invokevirtual 194, 3) := by decide +kernel
theorem dX8_both_5 : decode cX8_both 5 = .ok (.astore 4, 2) := by decide +kernel
theorem dX8_both_7 : decode cX8_both 7 = .ok (.aload_n 0, 1) := by decide +kernel
theorem dX8_both_8 : decode cX8_both 8 = .ok (.iload_n 2, 1) := by decide +kernel
theorem dX8_both_9 : decode cX8_both 9 = .ok (.invokevirtual 194, 3) := by decide +kernel
theorem dX8_both_12 : decode cX8_both 12 = .ok (.astore 5, 2) := by decide +kernel
theorem dX8_both_14 : decode cX8_both 14 = .ok (.iload_n 3, 1) := by decide +kernel
theorem dX8_both_15 : decode cX8_both 15 = .ok (.ifCond .lt 8, 3) := by decide +kernel
theorem dX8_both_18 : decode cX8_both 18 = .ok (.iload_n 3, 1) := by decide +kernel
theorem dX8_both_19 : decode cX8_both 19 = .ok (.iconst 4, 1) := by decide +kernel
theorem dX8_both_20 : decode cX8_both 20 = .ok (.if_icmp .le 13, 3) := by decide +kernel
theorem dX8_both_23 : decode cX8_both 23 = .ok (.new 163, 3) := by decide +kernel
theorem dX8_both_26 : decode cX8_both 26 = .ok (.dup, 1) := by decide +kernel
theorem dX8_both_27 : decode cX8_both 27 = .ok (.ldc 206, 2) := by decide +kernel
theorem dX8_both_29 : decode cX8_both 29 = .ok (.invokespecial 167, 3) := by decide +kernel
theorem dX8_both_32 : decode cX8_both 32 = .ok (.athrow, 1) := by decide +kernel
theorem dX8_both_33 : decode cX8_both 33 = .ok (.iload_n 3, 1) := by decide +kernel
theorem dX8_both_34 : decode cX8_both 34 = .ok (.tableswitch 86 0 3 #[30, 44, 58, 72], 30) := by decide +kernel
theorem dX8_both_64 : decode cX8_both 64 = .ok (.aload_n 0, 1) := by decide +kernel
theorem dX8_both_65 : decode cX8_both 65 = .ok (.getfield 40, 3) := by decide +kernel
theorem dX8_both_68 : decode cX8_both 68 = .ok (.aload 4, 2) := by decide +kernel
theorem dX8_both_70 : decode cX8_both 70 = .ok (.aload 5, 2) := by decide +kernel
theorem dX8_both_72 : decode cX8_both 72 = .ok (.invokevirtual 208, 3) := by decide +kernel
theorem dX8_both_75 : decode cX8_both 75 = .ok (.goto 64, 3) := by decide +kernel
theorem dX8_both_78 : decode cX8_both 78 = .ok (.aload_n 0, 1) := by decide +kernel
theorem dX8_both_79 : decode cX8_both 79 = .ok (.getfield 40, 3) := by decide +kernel
theorem dX8_both_82 : decode cX8_both 82 = .ok (.aload 4, 2) := by decide +kernel
theorem dX8_both_84 : decode cX8_both 84 = .ok (.aload 5, 2) := by decide +kernel
theorem dX8_both_86 : decode cX8_both 86 = .ok (.invokevirtual 212, 3) := by decide +kernel
theorem dX8_both_89 : decode cX8_both 89 = .ok (.goto 50, 3) := by decide +kernel
theorem dX8_both_92 : decode cX8_both 92 = .ok (.aload_n 0, 1) := by decide +kernel
theorem dX8_both_93 : decode cX8_both 93 = .ok (.getfield 40, 3) := by decide +kernel
theorem dX8_both_96 : decode cX8_both 96 = .ok (.aload 4, 2) := by decide +kernel
theorem dX8_both_98 : decode cX8_both 98 = .ok (.aload 5, 2) := by decide +kernel
theorem dX8_both_100 : decode cX8_both 100 = .ok (.invokevirtual 215, 3) := by decide +kernel
theorem dX8_both_103 : decode cX8_both 103 = .ok (.goto 36, 3) := by decide +kernel
theorem dX8_both_106 : decode cX8_both 106 = .ok (.aload_n 0, 1) := by decide +kernel
theorem dX8_both_107 : decode cX8_both 107 = .ok (.getfield 40, 3) := by decide +kernel
theorem dX8_both_110 : decode cX8_both 110 = .ok (.aload 4, 2) := by decide +kernel
theorem dX8_both_112 : decode cX8_both 112 = .ok (.aload 5, 2) := by decide +kernel
theorem dX8_both_114 : decode cX8_both 114 = .ok (.invokevirtual 218, 3) := by decide +kernel
theorem dX8_both_117 : decode cX8_both 117 = .ok (.goto 22, 3) := by decide +kernel
theorem dX8_both_120 : decode cX8_both 120 = .ok (.aload_n 0, 1) := by decide +kernel
theorem dX8_both_121 : decode cX8_both 121 = .ok (.getfield 40, 3) := by decide +kernel
theorem dX8_both_124 : decode cX8_both 124 = .ok (.aload 4, 2) := by decide +kernel
theorem dX8_both_126 : decode cX8_both 126 = .ok (.aload 5, 2) := by decide +kernel
theorem dX8_both_128 : decode cX8_both 128 = .ok (.invokevirtual 221, 3) := by decide +kernel
theorem dX8_both_131 : decode cX8_both 131 = .ok (.ifCond .eq 7, 3) := by decide +kernel
theorem dX8_both_134 : decode cX8_both 134 = .ok (.iconst 1, 1) := by decide +kernel
theorem dX8_both_135 : decode cX8_both 135 = .ok (.goto 4, 3) := by decide +kernel
theorem dX8_both_138 : decode cX8_both 138 = .ok (.iconst 0, 1) := by decide +kernel
theorem dX8_both_139 : decode cX8_both 139 = .ok (.ireturn, 1) := by decide +kernel
theorem dX8_pairs_0 : decode cX8_pairs 0 = .ok (.aload_n 0, 1) := by decide +kernel
theorem dX8_pairs_1 : decode cX8_pairs 1 = .ok (.getfield 47, 3) := by decide +kernel
theorem dX8_pairs_4 : decode cX8_pairs 4 = .ok (.aload_n 0, 1) := by decide +kernel
theorem dX8_pairs_5 : decode cX8_pairs 5 = .ok (.getfield 33, 3) := by decide +kernel
theorem dX8_pairs_8 : decode cX8_pairs 8 = .ok (.getfield 168, 3) := by decide +kernel
theorem dX8_pairs_11 : decode cX8_pairs 11 = .ok (.aload_n 0, 1) := by decide +kernel
theorem dX8_pairs_12 : decode cX8_pairs 12 = .ok (.getfield 40, 3) := by decide +kernel
theorem dX8_pairs_15 : decode cX8_pairs 15 = .ok (.invokevirtual 181, 3) := by decide +kernel
theorem dX8_pairs_18 : decode cX8_pairs 18 = .ok (.iload_n 1, 1) := by decide +kernel
theorem dX8_pairs_19 : decode cX8_pairs 19 = .ok (.tableswitch 77 0 3 #[29, 42, 55, 66], 29) := by decide +kernel
theorem dX8_pairs_48 : decode cX8_pairs 48 = .ok (.aload_n 0, 1) := by decide +kernel
theorem dX8_pairs_49 : decode cX8_pairs 49 = .ok (.getfield 47, 3) := by decide +kernel
theorem dX8_pairs_52 : decode cX8_pairs 52 = .ok (.getfield 225, 3) := by decide +kernel
theorem dX8_pairs_55 : decode cX8_pairs 55 = .ok (.getfield 229, 3) := by decide +kernel
theorem dX8_pairs_58 : decode cX8_pairs 58 = .ok (.goto 39, 3) := by decide +kernel
theorem dX8_pairs_61 : decode cX8_pairs 61 = .ok (.aload_n 0, 1) := by decide +kernel
theorem dX8_pairs_62 : decode cX8_pairs 62 = .ok (.getfield 47, 3) := by decide +kernel
theorem dX8_pairs_65 : decode cX8_pairs 65 = .ok (.getfield 232, 3) := by decide +kernel
theorem dX8_pairs_68 : decode cX8_pairs 68 = .ok (.getfield 229, 3) := by decide +kernel
theorem dX8_pairs_71 : decode cX8_pairs 71 = .ok (.goto 26, 3) := by decide +kernel
theorem dX8_pairs_74 : decode cX8_pairs 74 = .ok (.aload_n 0, 1) := by decide +kernel
theorem dX8_pairs_75 : decode cX8_pairs 75 = .ok (.getfield 47, 3) := by decide +kernel
theorem dX8_pairs_78 : decode cX8_pairs 78 = .ok (.iconst 2, 1) := by decide +kernel
theorem dX8_pairs_79 : decode cX8_pairs 79 = .ok (.invokevirtual 235, 3) := by decide +kernel
theorem dX8_pairs_82 : decode cX8_pairs 82 = .ok (.goto 15, 3) := by decide +kernel
theorem dX8_pairs_85 : decode cX8_pairs 85 = .ok (.aload_n 0, 1) := by decide +kernel
theorem dX8_pairs_86 : decode cX8_pairs 86 = .ok (.getfield 47, 3) := by decide +kernel
theorem dX8_pairs_89 : decode cX8_pairs 89 = .ok (.iconst 1, 1) := by decide +kernel
theorem dX8_pairs_90 : decode cX8_pairs 90 = .ok (.invokevirtual 235, 3) := by decide +kernel
theorem dX8_pairs_93 : decode cX8_pairs 93 = .ok (.goto 4, 3) := by decide +kernel
theorem dX8_pairs_96 : decode cX8_pairs 96 = .ok (.iconst (-1), 1) := by decide +kernel
theorem dX8_pairs_97 : decode cX8_pairs 97 = .ok (.ireturn, 1) := by decide +kernel
theorem dX8_pair_0 : decode cX8_pair 0 = .ok (.aload_n 0, 1) := by decide +kernel
theorem dX8_pair_1 : decode cX8_pair 1 = .ok (.getfield 47, 3) := by decide +kernel
theorem dX8_pair_4 : decode cX8_pair 4 = .ok (.aload_n 0, 1) := by decide +kernel
theorem dX8_pair_5 : decode cX8_pair 5 = .ok (.getfield 33, 3) := by decide +kernel
theorem dX8_pair_8 : decode cX8_pair 8 = .ok (.getfield 168, 3) := by decide +kernel
theorem dX8_pair_11 : decode cX8_pair 11 = .ok (.aload_n 0, 1) := by decide +kernel
theorem dX8_pair_12 : decode cX8_pair 12 = .ok (.getfield 40, 3) := by decide +kernel
theorem dX8_pair_15 : decode cX8_pair 15 = .ok (.invokevirtual 181, 3) := by decide +kernel
theorem dX8_pair_18 : decode cX8_pair 18 = .ok (.iload_n 1, 1) := by decide +kernel
theorem dX8_pair_19 : decode cX8_pair 19 = .ok (.tableswitch 99 0 3 #[29, 44, 59, 79], 29) := by decide +kernel
theorem dX8_pair_48 : decode cX8_pair 48 = .ok (.aload_n 0, 1) := by decide +kernel
theorem dX8_pair_49 : decode cX8_pair 49 = .ok (.getfield 47, 3) := by decide +kernel
theorem dX8_pair_52 : decode cX8_pair 52 = .ok (.getfield 225, 3) := by decide +kernel
theorem dX8_pair_55 : decode cX8_pair 55 = .ok (.iload_n 2, 1) := by decide +kernel
theorem dX8_pair_56 : decode cX8_pair 56 = .ok (.iload_n 3, 1) := by decide +kernel
theorem dX8_pair_57 : decode cX8_pair 57 = .ok (.invokevirtual 238, 3) := by decide +kernel
theorem dX8_pair_60 : decode cX8_pair 60 = .ok (.goto 59, 3) := by decide +kernel
theorem dX8_pair_63 : decode cX8_pair 63 = .ok (.aload_n 0, 1) := by decide +kernel
theorem dX8_pair_64 : decode cX8_pair 64 = .ok (.getfield 47, 3) := by decide +kernel
theorem dX8_pair_67 : decode cX8_pair 67 = .ok (.getfield 232, 3) := by decide +kernel
theorem dX8_pair_70 : decode cX8_pair 70 = .ok (.iload_n 2, 1) := by decide +kernel
theorem dX8_pair_71 : decode cX8_pair 71 = .ok (.iload_n 3, 1) := by decide +kernel
theorem dX8_pair_72 : decode cX8_pair 72 = .ok (.invokevirtual 238, 3) := by decide +kernel
theorem dX8_pair_75 : decode cX8_pair 75 = .ok (.goto 44, 3) := by decide +kernel
theorem dX8_pair_78 : decode cX8_pair 78 = .ok (.iload_n 3, 1) := by decide +kernel
theorem dX8_pair_79 : decode cX8_pair 79 = .ok (.ifCond .ne 15, 3) := by decide +kernel
theorem dX8_pair_82 : decode cX8_pair 82 = .ok (.aload_n 0, 1) := by decide +kernel
theorem dX8_pair_83 : decode cX8_pair 83 = .ok (.getfield 47, 3) := by decide +kernel
theorem dX8_pair_86 : decode cX8_pair 86 = .ok (.iload_n 2, 1) := by decide +kernel
theorem dX8_pair_87 : decode cX8_pair 87 = .ok (.iconst 2, 1) := by decide +kernel
theorem dX8_pair_88 : decode cX8_pair 88 = .ok (.invokevirtual 241, 3) := by decide +kernel
theorem dX8_pair_91 : decode cX8_pair 91 = .ok (.goto 28, 3) := by decide +kernel
theorem dX8_pair_94 : decode cX8_pair 94 = .ok (.iconst (-1), 1) := by decide +kernel
theorem dX8_pair_95 : decode cX8_pair 95 = .ok (.goto 24, 3) := by decide +kernel
theorem dX8_pair_98 : decode cX8_pair 98 = .ok (.iload_n 3, 1) := by decide +kernel
theorem dX8_pair_99 : decode cX8_pair 99 = .ok (.ifCond .ne 15, 3) := by decide +kernel
theorem dX8_pair_102 : decode cX8_pair 102 = .ok (.aload_n 0, 1) := by decide +kernel
theorem dX8_pair_103 : decode cX8_pair 103 = .ok (.getfield 47, 3) := by decide +kernel
theorem dX8_pair_106 : decode cX8_pair 106 = .ok (.iload_n 2, 1) := by decide +kernel
theorem dX8_pair_107 : decode cX8_pair 107 = .ok (.iconst 1, 1) := by decide +kernel
theorem dX8_pair_108 : decode cX8_pair 108 = .ok (.invokevirtual 241, 3) := by decide +kernel
theorem dX8_pair_111 : decode cX8_pair 111 = .ok (.goto 8, 3) := by decide +kernel
theorem dX8_pair_114 : decode cX8_pair 114 = .ok (.iconst (-1), 1) := by decide +kernel
theorem dX8_pair_115 : decode cX8_pair 115 = .ok (.goto 4, 3) := by decide +kernel
theorem dX8_pair_118 : decode cX8_pair 118 = .ok (.iconst (-1), 1) := by decide +kernel
theorem dX8_pair_119 : decode cX8_pair 119 = .ok (.ireturn, 1) := by decide +kernel
theorem dX8_nearest_0 : decode cX8_nearest 0 = .ok (.aload_n 0, 1) := by decide +kernel
theorem dX8_nearest_1 : decode cX8_nearest 1 = .ok (.getfield 33, 3) := by decide +kernel
theorem dX8_nearest_4 : decode cX8_nearest 4 = .ok (.aload_n 0, 1) := by decide +kernel
theorem dX8_nearest_5 : decode cX8_nearest 5 = .ok (.iload_n 1, 1) := by decide +kernel
theorem dX8_nearest_6 : decode cX8_nearest 6 = .ok (.invokevirtual 194, 3) := by decide +kernel
theorem dX8_nearest_9 : decode cX8_nearest 9 = .ok (.aload_n 0, 1) := by decide +kernel
theorem dX8_nearest_10 : decode cX8_nearest 10 = .ok (.getfield 40, 3) := by decide +kernel
theorem dX8_nearest_13 : decode cX8_nearest 13 = .ok (.invokevirtual 244, 3) := by decide +kernel
theorem dX8_nearest_16 : decode cX8_nearest 16 = .ok (.astore_n 3, 1) := by decide +kernel
theorem dX8_nearest_17 : decode cX8_nearest 17 = .ok (.iload_n 2, 1) := by decide +kernel
theorem dX8_nearest_18 : decode cX8_nearest 18 = .ok (.ifCond .lt 25, 3) := by decide +kernel
theorem dX8_nearest_21 : decode cX8_nearest 21 = .ok (.iload_n 2, 1) := by decide +kernel
theorem dX8_nearest_22 : decode cX8_nearest 22 = .ok (.aload_n 3, 1) := by decide +kernel
theorem dX8_nearest_23 : decode cX8_nearest 23 = .ok (.invokevirtual 248, 3) := by decide +kernel
theorem dX8_nearest_26 : decode cX8_nearest 26 = .ok (.if_icmp .ge 17, 3) := by decide +kernel
theorem dX8_nearest_29 : decode cX8_nearest 29 = .ok (.aload_n 3, 1) := by decide +kernel
theorem dX8_nearest_30 : decode cX8_nearest 30 = .ok (.iload_n 2, 1) := by decide +kernel
theorem dX8_nearest_31 : decode cX8_nearest 31 = .ok (.invokevirtual 172, 3) := by decide +kernel
theorem dX8_nearest_34 : decode cX8_nearest 34 = .ok (.checkcast 99, 3) := by decide +kernel
theorem dX8_nearest_37 : decode cX8_nearest 37 = .ok (.getfield 119, 3) := by decide +kernel
theorem dX8_nearest_40 : decode cX8_nearest 40 = .ok (.goto 4, 3) := by decide +kernel
theorem dX8_nearest_43 : decode cX8_nearest 43 = .ok (.iconst (-1), 1) := by decide +kernel
theorem dX8_nearest_44 : decode cX8_nearest 44 = .ok (.ireturn, 1) := by decide +kernel
theorem dX8_count_0 : decode cX8_count 0 = .ok (.iload_n 1, 1) := by decide +kernel
theorem dX8_count_1 : decode cX8_count 1 = .ok (.tableswitch 194 0 12 #[67, 77, 87, 100, 110, 120, 130, 140, 150, 160, 170, 180, 187], 67) := by decide +kernel
theorem dX8_count_68 : decode cX8_count 68 = .ok (.aload_n 0, 1) := by decide +kernel
theorem dX8_count_69 : decode cX8_count 69 = .ok (.getfield 12, 3) := by decide +kernel
theorem dX8_count_72 : decode cX8_count 72 = .ok (.getfield 62, 3) := by decide +kernel
theorem dX8_count_75 : decode cX8_count 75 = .ok (.goto 121, 3) := by decide +kernel
theorem dX8_count_78 : decode cX8_count 78 = .ok (.aload_n 0, 1) := by decide +kernel
theorem dX8_count_79 : decode cX8_count 79 = .ok (.getfield 12, 3) := by decide +kernel
theorem dX8_count_82 : decode cX8_count 82 = .ok (.invokevirtual 73, 3) := by decide +kernel
theorem dX8_count_85 : decode cX8_count 85 = .ok (.goto 111, 3) := by decide +kernel
theorem dX8_count_88 : decode cX8_count 88 = .ok (.aload_n 0, 1) := by decide +kernel
theorem dX8_count_89 : decode cX8_count 89 = .ok (.getfield 33, 3) := by decide +kernel
theorem dX8_count_92 : decode cX8_count 92 = .ok (.getfield 168, 3) := by decide +kernel
theorem dX8_count_95 : decode cX8_count 95 = .ok (.invokevirtual 248, 3) := by decide +kernel
theorem dX8_count_98 : decode cX8_count 98 = .ok (.goto 98, 3) := by decide +kernel
theorem dX8_count_101 : decode cX8_count 101 = .ok (.aload_n 0, 1) := by decide +kernel
theorem dX8_count_102 : decode cX8_count 102 = .ok (.getfield 33, 3) := by decide +kernel
theorem dX8_count_105 : decode cX8_count 105 = .ok (.getfield 250, 3) := by decide +kernel
theorem dX8_count_108 : decode cX8_count 108 = .ok (.goto 88, 3) := by decide +kernel
theorem dX8_count_111 : decode cX8_count 111 = .ok (.aload_n 0, 1) := by decide +kernel
theorem dX8_count_112 : decode cX8_count 112 = .ok (.getfield 19, 3) := by decide +kernel
theorem dX8_count_115 : decode cX8_count 115 = .ok (.getfield 85, 3) := by decide +kernel
theorem dX8_count_118 : decode cX8_count 118 = .ok (.goto 78, 3) := by decide +kernel
theorem dX8_count_121 : decode cX8_count 121 = .ok (.aload_n 0, 1) := by decide +kernel
theorem dX8_count_122 : decode cX8_count 122 = .ok (.getfield 19, 3) := by decide +kernel
theorem dX8_count_125 : decode cX8_count 125 = .ok (.invokevirtual 253, 3) := by decide +kernel
theorem dX8_count_128 : decode cX8_count 128 = .ok (.goto 68, 3) := by decide +kernel
theorem dX8_count_131 : decode cX8_count 131 = .ok (.aload_n 0, 1) := by decide +kernel
theorem dX8_count_132 : decode cX8_count 132 = .ok (.getfield 26, 3) := by decide +kernel
theorem dX8_count_135 : decode cX8_count 135 = .ok (.getfield 145, 3) := by decide +kernel
theorem dX8_count_138 : decode cX8_count 138 = .ok (.goto 58, 3) := by decide +kernel
theorem dX8_count_141 : decode cX8_count 141 = .ok (.aload_n 0, 1) := by decide +kernel
theorem dX8_count_142 : decode cX8_count 142 = .ok (.getfield 40, 3) := by decide +kernel
theorem dX8_count_145 : decode cX8_count 145 = .ok (.getfield 256, 3) := by decide +kernel
theorem dX8_count_148 : decode cX8_count 148 = .ok (.goto 48, 3) := by decide +kernel
theorem dX8_count_151 : decode cX8_count 151 = .ok (.aload_n 0, 1) := by decide +kernel
theorem dX8_count_152 : decode cX8_count 152 = .ok (.getfield 40, 3) := by decide +kernel
theorem dX8_count_155 : decode cX8_count 155 = .ok (.getfield 259, 3) := by decide +kernel
theorem dX8_count_158 : decode cX8_count 158 = .ok (.goto 38, 3) := by decide +kernel
theorem dX8_count_161 : decode cX8_count 161 = .ok (.aload_n 0, 1) := by decide +kernel
theorem dX8_count_162 : decode cX8_count 162 = .ok (.getfield 40, 3) := by decide +kernel
theorem dX8_count_165 : decode cX8_count 165 = .ok (.getfield 262, 3) := by decide +kernel
theorem dX8_count_168 : decode cX8_count 168 = .ok (.goto 28, 3) := by decide +kernel
theorem dX8_count_171 : decode cX8_count 171 = .ok (.aload_n 0, 1) := by decide +kernel
theorem dX8_count_172 : decode cX8_count 172 = .ok (.getfield 40, 3) := by decide +kernel
theorem dX8_count_175 : decode cX8_count 175 = .ok (.getfield 265, 3) := by decide +kernel
theorem dX8_count_178 : decode cX8_count 178 = .ok (.goto 18, 3) := by decide +kernel
theorem dX8_count_181 : decode cX8_count 181 = .ok (.aload_n 0, 1) := by decide +kernel
theorem dX8_count_182 : decode cX8_count 182 = .ok (.getfield 55, 3) := by decide +kernel
theorem dX8_count_185 : decode cX8_count 185 = .ok (.goto 11, 3) := by decide +kernel
theorem dX8_count_188 : decode cX8_count 188 = .ok (.aload_n 0, 1) := by decide +kernel
theorem dX8_count_189 : decode cX8_count 189 = .ok (.getfield 59, 3) := by decide +kernel
theorem dX8_count_192 : decode cX8_count 192 = .ok (.goto 4, 3) := by decide +kernel
theorem dX8_count_195 : decode cX8_count 195 = .ok (.iconst (-1), 1) := by decide +kernel
theorem dX8_count_196 : decode cX8_count 196 = .ok (.ireturn, 1) := by decide +kernel
theorem dX8_documentThere_0 : decode cX8_documentThere 0 = .ok (.aload_n 0, 1) := by decide +kernel
theorem dX8_documentThere_1 : decode cX8_documentThere 1 = .ok (.getfield 33, 3) := by decide +kernel
theorem dX8_documentThere_4 : decode cX8_documentThere 4 = .ok (.iload_n 1, 1) := by decide +kernel
theorem dX8_documentThere_5 : decode cX8_documentThere 5 = .ok (.invokevirtual 159, 3) := by decide +kernel
theorem dX8_documentThere_8 : decode cX8_documentThere 8 = .ok (.istore_n 2, 1) := by decide +kernel
theorem dX8_documentThere_9 : decode cX8_documentThere 9 = .ok (.iload_n 2, 1) := by decide +kernel
theorem dX8_documentThere_10 : decode cX8_documentThere 10 = .ok (.iconst (-1), 1) := by decide +kernel
theorem dX8_documentThere_11 : decode cX8_documentThere 11 = .ok (.if_icmp .ne 14, 3) := by decide +kernel
theorem dX8_documentThere_14 : decode cX8_documentThere 14 = .ok (.new 163, 3) := by decide +kernel
theorem dX8_documentThere_17 : decode cX8_documentThere 17 = .ok (.dup, 1) := by decide +kernel
theorem dX8_documentThere_18 : decode cX8_documentThere 18 = .ok (.ldc_w 268, 3) := by decide +kernel
theorem dX8_documentThere_21 : decode cX8_documentThere 21 = .ok (.invokespecial 167, 3) := by decide +kernel
theorem dX8_documentThere_24 : decode cX8_documentThere 24 = .ok (.athrow, 1) := by decide +kernel
theorem dX8_documentThere_25 : decode cX8_documentThere 25 = .ok (.aload_n 0, 1) := by decide +kernel
theorem dX8_documentThere_26 : decode cX8_documentThere 26 = .ok (.getfield 33, 3) := by decide +kernel
theorem dX8_documentThere_29 : decode cX8_documentThere 29 = .ok (.getfield 168, 3) := by decide +kernel
theorem dX8_documentThere_32 : decode cX8_documentThere 32 = .ok (.iload_n 2, 1) := by decide +kernel
theorem dX8_documentThere_33 : decode cX8_documentThere 33 = .ok (.invokevirtual 172, 3) := by decide +kernel
theorem dX8_documentThere_36 : decode cX8_documentThere 36 = .ok (.checkcast 99, 3) := by decide +kernel
theorem dX8_documentThere_39 : decode cX8_documentThere 39 = .ok (.areturn, 1) := by decide +kernel
theorem dX8_numberAlongText_0 : decode cX8_numberAlongText 0 = .ok (.iconst 0, 1) := by decide +kernel
theorem dX8_numberAlongText_1 : decode cX8_numberAlongText 1 = .ok (.aload_n 0, 1) := by decide +kernel
theorem dX8_numberAlongText_2 : decode cX8_numberAlongText 2 = .ok (.getfield 12, 3) := by decide +kernel
theorem dX8_numberAlongText_5 : decode cX8_numberAlongText 5 = .ok (.getfield 270, 3) := by decide +kernel
theorem dX8_numberAlongText_8 : decode cX8_numberAlongText 8 = .ok (.aload_n 0, 1) := by decide +kernel
theorem dX8_numberAlongText_9 : decode cX8_numberAlongText 9 = .ok (.getfield 59, 3) := by decide +kernel
theorem dX8_numberAlongText_12 : decode cX8_numberAlongText 12 = .ok (.isub, 1) := by decide +kernel
theorem dX8_numberAlongText_13 : decode cX8_numberAlongText 13 = .ok (.iconst 1, 1) := by decide +kernel
theorem dX8_numberAlongText_14 : decode cX8_numberAlongText 14 = .ok (.iadd, 1) := by decide +kernel
theorem dX8_numberAlongText_15 : decode cX8_numberAlongText 15 = .ok (.invokestatic 273, 3) := by decide +kernel
theorem dX8_numberAlongText_18 : decode cX8_numberAlongText 18 = .ok (.istore_n 1, 1) := by decide +kernel
theorem dX8_numberAlongText_19 : decode cX8_numberAlongText 19 = .ok (.iconst 0, 1) := by decide +kernel
theorem dX8_numberAlongText_20 : decode cX8_numberAlongText 20 = .ok (.istore_n 2, 1) := by decide +kernel
theorem dX8_numberAlongText_21 : decode cX8_numberAlongText 21 = .ok (.iload_n 2, 1) := by decide +kernel
theorem dX8_numberAlongText_22 : decode cX8_numberAlongText 22 = .ok (.iload_n 1, 1) := by decide +kernel
theorem dX8_numberAlongText_23 : decode cX8_numberAlongText 23 = .ok (.if_icmp .ge 69, 3) := by decide +kernel
theorem dX8_numberAlongText_26 : decode cX8_numberAlongText 26 = .ok (.aload_n 0, 1) := by decide +kernel
theorem dX8_numberAlongText_27 : decode cX8_numberAlongText 27 = .ok (.getfield 19, 3) := by decide +kernel
theorem dX8_numberAlongText_30 : decode cX8_numberAlongText 30 = .ok (.aload_n 0, 1) := by decide +kernel
theorem dX8_numberAlongText_31 : decode cX8_numberAlongText 31 = .ok (.getfield 12, 3) := by decide +kernel
theorem dX8_numberAlongText_34 : decode cX8_numberAlongText 34 = .ok (.getfield 278, 3) := by decide +kernel
theorem dX8_numberAlongText_37 : decode cX8_numberAlongText 37 = .ok (.aload_n 0, 1) := by decide +kernel
theorem dX8_numberAlongText_38 : decode cX8_numberAlongText 38 = .ok (.getfield 12, 3) := by decide +kernel
theorem dX8_numberAlongText_41 : decode cX8_numberAlongText 41 = .ok (.getfield 282, 3) := by decide +kernel
theorem dX8_numberAlongText_44 : decode cX8_numberAlongText 44 = .ok (.iload_n 2, 1) := by decide +kernel
theorem dX8_numberAlongText_45 : decode cX8_numberAlongText 45 = .ok (.iaload, 1) := by decide +kernel
theorem dX8_numberAlongText_46 : decode cX8_numberAlongText 46 = .ok (.aload_n 0, 1) := by decide +kernel
theorem dX8_numberAlongText_47 : decode cX8_numberAlongText 47 = .ok (.getfield 12, 3) := by decide +kernel
theorem dX8_numberAlongText_50 : decode cX8_numberAlongText 50 = .ok (.getfield 282, 3) := by decide +kernel
theorem dX8_numberAlongText_53 : decode cX8_numberAlongText 53 = .ok (.iload_n 2, 1) := by decide +kernel
theorem dX8_numberAlongText_54 : decode cX8_numberAlongText 54 = .ok (.aload_n 0, 1) := by decide +kernel
theorem dX8_numberAlongText_55 : decode cX8_numberAlongText 55 = .ok (.getfield 59, 3) := by decide +kernel
theorem dX8_numberAlongText_58 : decode cX8_numberAlongText 58 = .ok (.iadd, 1) := by decide +kernel
theorem dX8_numberAlongText_59 : decode cX8_numberAlongText 59 = .ok (.iaload, 1) := by decide +kernel
theorem dX8_numberAlongText_60 : decode cX8_numberAlongText 60 = .ok (.aload_n 0, 1) := by decide +kernel
theorem dX8_numberAlongText_61 : decode cX8_numberAlongText 61 = .ok (.getfield 12, 3) := by decide +kernel
theorem dX8_numberAlongText_64 : decode cX8_numberAlongText 64 = .ok (.getfield 285, 3) := by decide +kernel
theorem dX8_numberAlongText_67 : decode cX8_numberAlongText 67 = .ok (.isub, 1) := by decide +kernel
theorem dX8_numberAlongText_68 : decode cX8_numberAlongText 68 = .ok (.invokevirtual 288, 3) := by decide +kernel
theorem dX8_numberAlongText_71 : decode cX8_numberAlongText 71 = .ok (.istore_n 3, 1) := by decide +kernel
theorem dX8_numberAlongText_72 : decode cX8_numberAlongText 72 = .ok (.iload_n 3, 1) := by decide +kernel
theorem dX8_numberAlongText_73 : decode cX8_numberAlongText 73 = .ok (.iconst (-1), 1) := by decide +kernel
theorem dX8_numberAlongText_74 : decode cX8_numberAlongText 74 = .ok (.if_icmp .ne 5, 3) := by decide +kernel
theorem dX8_numberAlongText_77 : decode cX8_numberAlongText 77 = .ok (.iconst (-1), 1) := by decide +kernel
theorem dX8_numberAlongText_78 : decode cX8_numberAlongText 78 = .ok (.ireturn, 1) := by decide +kernel
theorem dX8_numberAlongText_79 : decode cX8_numberAlongText 79 = .ok (.aload_n 0, 1) := by decide +kernel
theorem dX8_numberAlongText_80 : decode cX8_numberAlongText 80 = .ok (.getfield 51, 3) := by decide +kernel
theorem dX8_numberAlongText_83 : decode cX8_numberAlongText 83 = .ok (.iload_n 2, 1) := by decide +kernel
theorem dX8_numberAlongText_84 : decode cX8_numberAlongText 84 = .ok (.iload_n 3, 1) := by decide +kernel
theorem dX8_numberAlongText_85 : decode cX8_numberAlongText 85 = .ok (.iastore, 1) := by decide +kernel
theorem dX8_numberAlongText_86 : decode cX8_numberAlongText 86 = .ok (.iinc 2 1, 3) := by decide +kernel
theorem dX8_numberAlongText_89 : decode cX8_numberAlongText 89 = .ok (.goto (-68), 3) := by decide +kernel
theorem dX8_numberAlongText_92 : decode cX8_numberAlongText 92 = .ok (.iload_n 1, 1) := by decide +kernel
theorem dX8_numberAlongText_93 : decode cX8_numberAlongText 93 = .ok (.ireturn, 1) := by decide +kernel
theorem dX8_renewImages_0 : decode cX8_renewImages 0 = .ok (.iconst 0, 1) := by decide +kernel
theorem dX8_renewImages_1 : decode cX8_renewImages 1 = .ok (.istore_n 2, 1) := by decide +kernel
theorem dX8_renewImages_2 : decode cX8_renewImages 2 = .ok (.iload_n 2, 1) := by decide +kernel
theorem dX8_renewImages_3 : decode cX8_renewImages 3 = .ok (.aload_n 0, 1) := by decide +kernel
theorem dX8_renewImages_4 : decode cX8_renewImages 4 = .ok (.getfield 33, 3) := by decide +kernel
theorem dX8_renewImages_7 : decode cX8_renewImages 7 = .ok (.getfield 168, 3) := by decide +kernel
theorem dX8_renewImages_10 : decode cX8_renewImages 10 = .ok (.invokevirtual 248, 3) := by decide +kernel
theorem dX8_renewImages_13 : decode cX8_renewImages 13 = .ok (.if_icmp .ge 39, 3) := by decide +kernel
theorem dX8_renewImages_16 : decode cX8_renewImages 16 = .ok (.aload_n 0, 1) := by decide +kernel
theorem dX8_renewImages_17 : decode cX8_renewImages 17 = .ok (.getfield 33, 3) := by decide +kernel
theorem dX8_renewImages_20 : decode cX8_renewImages 20 = .ok (.getfield 168, 3) := by decide +kernel
theorem dX8_renewImages_23 : decode cX8_renewImages 23 = .ok (.iload_n 2, 1) := by decide +kernel
theorem dX8_renewImages_24 : decode cX8_renewImages 24 = .ok (.invokevirtual 172, 3) := by decide +kernel
theorem dX8_renewImages_27 : decode cX8_renewImages 27 = .ok (.checkcast 99, 3) := by decide +kernel
theorem dX8_renewImages_30 : decode cX8_renewImages 30 = .ok (.astore_n 3, 1) := by decide +kernel
theorem dX8_renewImages_31 : decode cX8_renewImages 31 = .ok (.aload_n 3, 1) := by decide +kernel
theorem dX8_renewImages_32 : decode cX8_renewImages 32 = .ok (.getfield 104, 3) := by decide +kernel
theorem dX8_renewImages_35 : decode cX8_renewImages 35 = .ok (.iload_n 1, 1) := by decide +kernel
theorem dX8_renewImages_36 : decode cX8_renewImages 36 = .ok (.aload_n 0, 1) := by decide +kernel
theorem dX8_renewImages_37 : decode cX8_renewImages 37 = .ok (.getfield 26, 3) := by decide +kernel
theorem dX8_renewImages_40 : decode cX8_renewImages 40 = .ok (.aload_n 3, 1) := by decide +kernel
theorem dX8_renewImages_41 : decode cX8_renewImages 41 = .ok (.iload_n 1, 1) := by decide +kernel
theorem dX8_renewImages_42 : decode cX8_renewImages 42 = .ok (.invokevirtual 107, 3) := by decide +kernel
theorem dX8_renewImages_45 : decode cX8_renewImages 45 = .ok (.iastore, 1) := by decide +kernel
theorem dX8_renewImages_46 : decode cX8_renewImages 46 = .ok (.iinc 2 1, 3) := by decide +kernel
theorem dX8_renewImages_49 : decode cX8_renewImages 49 = .ok (.goto (-47), 3) := by decide +kernel
theorem dX8_renewImages_52 : decode cX8_renewImages 52 = .ok (.aload_n 0, 1) := by decide +kernel
theorem dX8_renewImages_53 : decode cX8_renewImages 53 = .ok (.getfield 47, 3) := by decide +kernel
theorem dX8_renewImages_56 : decode cX8_renewImages 56 = .ok (.iconst 0, 1) := by decide +kernel
theorem dX8_renewImages_57 : decode cX8_renewImages 57 = .ok (.putfield 115, 3) := by decide +kernel
theorem dX8_renewImages_60 : decode cX8_renewImages 60 = .ok (.return_, 1) := by decide +kernel
