theorem dX9_thrown_0 : decode cX9_thrown 0 = .ok (.aload_n 0, 1) := by decide +kernel
theorem dX9_thrown_1 : decode cX9_thrown 1 = .ok (.getfield 1, 3) := by decide +kernel
theorem dX9_thrown_4 : decode cX9_thrown 4 = .ok (.ireturn, 1) := by decide +kernel
theorem dX9_throwsIf_0 : decode cX9_throwsIf 0 = .ok (.aload_n 0, 1) := by decide +kernel
theorem dX9_throwsIf_1 : decode cX9_throwsIf 1 = .ok (.iload_n 1, 1) := by decide +kernel
theorem dX9_throwsIf_2 : decode cX9_throwsIf 2 = .ok (.ifCond .eq 7, 3) := by decide +kernel
theorem dX9_throwsIf_5 : decode cX9_throwsIf 5 = .ok (.iconst 1, 1) := by decide +kernel
theorem dX9_throwsIf_6 : decode cX9_throwsIf 6 = .ok (.goto 4, 3) := by decide +kernel
theorem dX9_throwsIf_9 : decode cX9_throwsIf 9 = .ok (.iconst 0, 1) := by decide +kernel
theorem dX9_throwsIf_10 : decode cX9_throwsIf 10 = .ok (.putfield 1, 3) := by decide +kernel
theorem dX9_throwsIf_13 : decode cX9_throwsIf 13 = .ok (.iload_n 1, 1) := by decide +kernel
theorem dX9_throwsIf_14 : decode cX9_throwsIf 14 = .ok (.ireturn, 1) := by decide +kernel
theorem dX9_feed_0 : decode cX9_feed 0 = .ok (.aload_n 0, 1) := by decide +kernel
theorem dX9_feed_1 : decode cX9_feed 1 = .ok (.iconst 0, 1) := by decide +kernel
theorem dX9_feed_2 : decode cX9_feed 2 = .ok (.putfield 1, 3) := by decide +kernel
theorem dX9_feed_5 : decode cX9_feed 5 = .ok (.aload_n 0, 1) := by decide +kernel
theorem dX9_feed_6 : decode cX9_feed 6 = .ok (.getfield 7, 3) := by decide +kernel
theorem dX9_feed_9 : decode cX9_feed 9 = .ok (.bipush 20, 2) := by decide +kernel
theorem dX9_feed_11 : decode cX9_feed 11 = .ok (.iadd, 1) := by decide +kernel
theorem dX9_feed_12 : decode cX9_feed 12 = .ok (.sipush 800, 3) := by decide +kernel
theorem dX9_feed_15 : decode cX9_feed 15 = .ok (.if_icmp .le 5, 3) := by decide +kernel
theorem dX9_feed_18 : decode cX9_feed 18 = .ok (.iconst (-1), 1) := by decide +kernel
theorem dX9_feed_19 : decode cX9_feed 19 = .ok (.ireturn, 1) := by decide +kernel
theorem dX9_feed_20 : decode cX9_feed 20 = .ok (.aload_n 0, 1) := by decide +kernel
theorem dX9_feed_21 : decode cX9_feed 21 = .ok (.iload_n 1, 1) := by decide +kernel
theorem dX9_feed_22 : decode cX9_feed 22 = .ok (.invokevirtual 10, 3) := by decide +kernel
theorem dX9_feed_25 : decode cX9_feed 25 = .ok (.aload_n 0, 1) := by decide +kernel
theorem dX9_feed_26 : decode cX9_feed 26 = .ok (.iload_n 2, 1) := by decide +kernel
theorem dX9_feed_27 : decode cX9_feed 27 = .ok (.invokevirtual 10, 3) := by decide +kernel
theorem dX9_feed_30 : decode cX9_feed 30 = .ok (.aload_n 0, 1) := by decide +kernel
theorem dX9_feed_31 : decode cX9_feed 31 = .ok (.iload_n 3, 1) := by decide +kernel
theorem dX9_feed_32 : decode cX9_feed 32 = .ok (.invokevirtual 10, 3) := by decide +kernel
theorem dX9_feed_35 : decode cX9_feed 35 = .ok (.aload_n 0, 1) := by decide +kernel
theorem dX9_feed_36 : decode cX9_feed 36 = .ok (.iload 4, 2) := by decide +kernel
theorem dX9_feed_38 : decode cX9_feed 38 = .ok (.invokevirtual 10, 3) := by decide +kernel
theorem dX9_feed_41 : decode cX9_feed 41 = .ok (.aload_n 0, 1) := by decide +kernel
theorem dX9_feed_42 : decode cX9_feed 42 = .ok (.iload 5, 2) := by decide +kernel
theorem dX9_feed_44 : decode cX9_feed 44 = .ok (.invokevirtual 10, 3) := by decide +kernel
theorem dX9_feed_47 : decode cX9_feed 47 = .ok (.aload_n 0, 1) := by decide +kernel
theorem dX9_feed_48 : decode cX9_feed 48 = .ok (.getfield 7, 3) := by decide +kernel
theorem dX9_feed_51 : decode cX9_feed 51 = .ok (.ireturn, 1) := by decide +kernel
theorem dX9_four_0 : decode cX9_four 0 = .ok (.bipush 24, 2) := by decide +kernel
theorem dX9_four_2 : decode cX9_four 2 = .ok (.istore_n 2, 1) := by decide +kernel
theorem dX9_four_3 : decode cX9_four 3 = .ok (.iload_n 2, 1) := by decide +kernel
theorem dX9_four_4 : decode cX9_four 4 = .ok (.ifCond .lt 32, 3) := by decide +kernel
theorem dX9_four_7 : decode cX9_four 7 = .ok (.aload_n 0, 1) := by decide +kernel
theorem dX9_four_8 : decode cX9_four 8 = .ok (.getfield 14, 3) := by decide +kernel
theorem dX9_four_11 : decode cX9_four 11 = .ok (.aload_n 0, 1) := by decide +kernel
theorem dX9_four_12 : decode cX9_four 12 = .ok (.getfield 7, 3) := by decide +kernel
theorem dX9_four_15 : decode cX9_four 15 = .ok (.iload_n 1, 1) := by decide +kernel
theorem dX9_four_16 : decode cX9_four 16 = .ok (.iload_n 2, 1) := by decide +kernel
theorem dX9_four_17 : decode cX9_four 17 = .ok (.ishr, 1) := by decide +kernel
theorem dX9_four_18 : decode cX9_four 18 = .ok (.i2b, 1) := by decide +kernel
theorem dX9_four_19 : decode cX9_four 19 = .ok (.bastore, 1) := by decide +kernel
theorem dX9_four_20 : decode cX9_four 20 = .ok (.aload_n 0, 1) := by decide +kernel
theorem dX9_four_21 : decode cX9_four 21 = .ok (.dup, 1) := by decide +kernel
theorem dX9_four_22 : decode cX9_four 22 = .ok (.getfield 7, 3) := by decide +kernel
theorem dX9_four_25 : decode cX9_four 25 = .ok (.iconst 1, 1) := by decide +kernel
theorem dX9_four_26 : decode cX9_four 26 = .ok (.iadd, 1) := by decide +kernel
theorem dX9_four_27 : decode cX9_four 27 = .ok (.putfield 7, 3) := by decide +kernel
theorem dX9_four_30 : decode cX9_four 30 = .ok (.iinc 2 (-8), 3) := by decide +kernel
theorem dX9_four_33 : decode cX9_four 33 = .ok (.goto (-30), 3) := by decide +kernel
theorem dX9_four_36 : decode cX9_four 36 = .ok (.return_, 1) := by decide +kernel
theorem dX9_end_0 : decode cX9_end 0 = .ok (.aload_n 0, 1) := by decide +kernel
theorem dX9_end_1 : decode cX9_end 1 = .ok (.iconst 0, 1) := by decide +kernel
theorem dX9_end_2 : decode cX9_end 2 = .ok (.putfield 1, 3) := by decide +kernel
theorem dX9_end_5 : decode cX9_end 5 = .ok (.iload_n 1, 1) := by decide +kernel
theorem dX9_end_6 : decode cX9_end 6 = .ok (.ifCond .lt 11, 3) := by decide +kernel
theorem dX9_end_9 : decode cX9_end 9 = .ok (.iload_n 1, 1) := by decide +kernel
theorem dX9_end_10 : decode cX9_end 10 = .ok (.aload_n 0, 1) := by decide +kernel
theorem dX9_end_11 : decode cX9_end 11 = .ok (.getfield 7, 3) := by decide +kernel
theorem dX9_end_14 : decode cX9_end 14 = .ok (.if_icmp .le 5, 3) := by decide +kernel
theorem dX9_end_17 : decode cX9_end 17 = .ok (.iconst 0, 1) := by decide +kernel
theorem dX9_end_18 : decode cX9_end 18 = .ok (.ireturn, 1) := by decide +kernel
theorem dX9_end_19 : decode cX9_end 19 = .ok (.aload_n 0, 1) := by decide +kernel
theorem dX9_end_20 : decode cX9_end 20 = .ok (.iload_n 1, 1) := by decide +kernel
theorem dX9_end_21 : decode cX9_end 21 = .ok (.putfield 7, 3) := by decide +kernel
theorem dX9_end_24 : decode cX9_end 24 = .ok (.iconst 1, 1) := by decide +kernel
theorem dX9_end_25 : decode cX9_end 25 = .ok (.ireturn, 1) := by decide +kernel
theorem dX9_makePlain_0 : decode cX9_makePlain 0 = .ok (.aload_n 0, 1) := by decide +kernel
theorem dX9_makePlain_1 : decode cX9_makePlain 1 = .ok (.iconst 0, 1) := by decide +kernel
theorem dX9_makePlain_2 : decode cX9_makePlain 2 = .ok (.putfield 18, 3) := by decide +kernel
theorem dX9_makePlain_5 : decode cX9_makePlain 5 = .ok (.iconst 0, 1) := by decide +kernel
theorem dX9_makePlain_6 : decode cX9_makePlain 6 = .ok (.istore_n 1, 1) := by decide +kernel
theorem dX9_makePlain_7 : decode cX9_makePlain 7 = .ok (.iconst 0, 1) := by decide +kernel
theorem dX9_makePlain_8 : decode cX9_makePlain 8 = .ok (.istore_n 2, 1) := by decide +kernel
theorem dX9_makePlain_9 : decode cX9_makePlain 9 = .ok (.iload_n 2, 1) := by decide +kernel
theorem dX9_makePlain_10 : decode cX9_makePlain 10 = .ok (.aload_n 0, 1) := by decide +kernel
theorem dX9_makePlain_11 : decode cX9_makePlain 11 = .ok (.getfield 7, 3) := by decide +kernel
theorem dX9_makePlain_14 : decode cX9_makePlain 14 = .ok (.if_icmp .ge 139, 3) := by decide +kernel
theorem dX9_makePlain_17 : decode cX9_makePlain 17 = .ok (.aload_n 0, 1) := by decide +kernel
theorem dX9_makePlain_18 : decode cX9_makePlain 18 = .ok (.getfield 14, 3) := by decide +kernel
theorem dX9_makePlain_21 : decode cX9_makePlain 21 = .ok (.iload_n 2, 1) := by decide +kernel
theorem dX9_makePlain_22 : decode cX9_makePlain 22 = .ok (.baload, 1) := by decide +kernel
theorem dX9_makePlain_23 : decode cX9_makePlain 23 = .ok (.istore_n 3, 1) := by decide +kernel
theorem dX9_makePlain_24 : decode cX9_makePlain 24 = .ok (.iload_n 3, 1) := by decide +kernel
theorem dX9_makePlain_25 : decode cX9_makePlain 25 = .ok (.bipush 65, 2) := by decide +kernel
theorem dX9_makePlain_27 : decode cX9_makePlain 27 = .ok (.if_icmp .lt 12, 3) := by decide +kernel
theorem dX9_makePlain_30 : decode cX9_makePlain 30 = .ok (.iload_n 3, 1) := by decide +kernel
theorem dX9_makePlain_31 : decode cX9_makePlain 31 = .ok (.bipush 90, 2) := by decide +kernel
theorem dX9_makePlain_33 : decode cX9_makePlain 33 = .ok (.if_icmp .gt 6, 3) := by decide +kernel
theorem dX9_makePlain_36 : decode cX9_makePlain 36 = .ok (.iinc 3 32, 3) := by decide +kernel
theorem dX9_makePlain_39 : decode cX9_makePlain 39 = .ok (.iload_n 3, 1) := by decide +kernel
theorem dX9_makePlain_40 : decode cX9_makePlain 40 = .ok (.bipush 97, 2) := by decide +kernel
theorem dX9_makePlain_42 : decode cX9_makePlain 42 = .ok (.if_icmp .lt 9, 3) := by decide +kernel
theorem dX9_makePlain_45 : decode cX9_makePlain 45 = .ok (.iload_n 3, 1) := by decide +kernel
theorem dX9_makePlain_46 : decode cX9_makePlain 46 = .ok (.bipush 122, 2) := by decide +kernel
theorem dX9_makePlain_48 : decode cX9_makePlain 48 = .ok (.if_icmp .le 15, 3) := by decide +kernel
theorem dX9_makePlain_51 : decode cX9_makePlain 51 = .ok (.iload_n 3, 1) := by decide +kernel
theorem dX9_makePlain_52 : decode cX9_makePlain 52 = .ok (.bipush 48, 2) := by decide +kernel
theorem dX9_makePlain_54 : decode cX9_makePlain 54 = .ok (.if_icmp .lt 13, 3) := by decide +kernel
theorem dX9_makePlain_57 : decode cX9_makePlain 57 = .ok (.iload_n 3, 1) := by decide +kernel
theorem dX9_makePlain_58 : decode cX9_makePlain 58 = .ok (.bipush 57, 2) := by decide +kernel
theorem dX9_makePlain_60 : decode cX9_makePlain 60 = .ok (.if_icmp .gt 7, 3) := by decide +kernel
theorem dX9_makePlain_63 : decode cX9_makePlain 63 = .ok (.iconst 1, 1) := by decide +kernel
theorem dX9_makePlain_64 : decode cX9_makePlain 64 = .ok (.goto 4, 3) := by decide +kernel
theorem dX9_makePlain_67 : decode cX9_makePlain 67 = .ok (.iconst 0, 1) := by decide +kernel
theorem dX9_makePlain_68 : decode cX9_makePlain 68 = .ok (.istore 4, 2) := by decide +kernel
theorem dX9_makePlain_70 : decode cX9_makePlain 70 = .ok (.iload 4, 2) := by decide +kernel
theorem dX9_makePlain_72 : decode cX9_makePlain 72 = .ok (.ifCond .eq 35, 3) := by decide +kernel
theorem dX9_makePlain_75 : decode cX9_makePlain 75 = .ok (.iload_n 1, 1) := by decide +kernel
theorem dX9_makePlain_76 : decode cX9_makePlain 76 = .ok (.ifCond .eq 31, 3) := by decide +kernel
theorem dX9_makePlain_79 : decode cX9_makePlain 79 = .ok (.aload_n 0, 1) := by decide +kernel
theorem dX9_makePlain_80 : decode cX9_makePlain 80 = .ok (.getfield 18, 3) := by decide +kernel
theorem dX9_makePlain_83 : decode cX9_makePlain 83 = .ok (.ifCond .le 24, 3) := by decide +kernel
theorem dX9_makePlain_86 : decode cX9_makePlain 86 = .ok (.aload_n 0, 1) := by decide +kernel
theorem dX9_makePlain_87 : decode cX9_makePlain 87 = .ok (.getfield 21, 3) := by decide +kernel
theorem dX9_makePlain_90 : decode cX9_makePlain 90 = .ok (.aload_n 0, 1) := by decide +kernel
theorem dX9_makePlain_91 : decode cX9_makePlain 91 = .ok (.getfield 18, 3) := by decide +kernel
theorem dX9_makePlain_94 : decode cX9_makePlain 94 = .ok (.bipush 32, 2) := by decide +kernel
theorem dX9_makePlain_96 : decode cX9_makePlain 96 = .ok (.bastore, 1) := by decide +kernel
theorem dX9_makePlain_97 : decode cX9_makePlain 97 = .ok (.aload_n 0, 1) := by decide +kernel
theorem dX9_makePlain_98 : decode cX9_makePlain 98 = .ok (.dup, 1) := by decide +kernel
theorem dX9_makePlain_99 : decode cX9_makePlain 99 = .ok (.getfield 18, 3) := by decide +kernel
theorem dX9_makePlain_102 : decode cX9_makePlain 102 = .ok (.iconst 1, 1) := by decide +kernel
theorem dX9_makePlain_103 : decode cX9_makePlain 103 = .ok (.iadd, 1) := by decide +kernel
theorem dX9_makePlain_104 : decode cX9_makePlain 104 = .ok (.putfield 18, 3) := by decide +kernel
theorem dX9_makePlain_107 : decode cX9_makePlain 107 = .ok (.iload 4, 2) := by decide +kernel
theorem dX9_makePlain_109 : decode cX9_makePlain 109 = .ok (.ifCond .ne 7, 3) := by decide +kernel
theorem dX9_makePlain_112 : decode cX9_makePlain 112 = .ok (.iconst 1, 1) := by decide +kernel
theorem dX9_makePlain_113 : decode cX9_makePlain 113 = .ok (.goto 4, 3) := by decide +kernel
theorem dX9_makePlain_116 : decode cX9_makePlain 116 = .ok (.iconst 0, 1) := by decide +kernel
theorem dX9_makePlain_117 : decode cX9_makePlain 117 = .ok (.istore_n 1, 1) := by decide +kernel
theorem dX9_makePlain_118 : decode cX9_makePlain 118 = .ok (.iload 4, 2) := by decide +kernel
theorem dX9_makePlain_120 : decode cX9_makePlain 120 = .ok (.ifCond .ne 6, 3) := by decide +kernel
theorem dX9_makePlain_123 : decode cX9_makePlain 123 = .ok (.goto 24, 3) := by decide +kernel
theorem dX9_makePlain_126 : decode cX9_makePlain 126 = .ok (.aload_n 0, 1) := by decide +kernel
theorem dX9_makePlain_127 : decode cX9_makePlain 127 = .ok (.getfield 21, 3) := by decide +kernel
theorem dX9_makePlain_130 : decode cX9_makePlain 130 = .ok (.aload_n 0, 1) := by decide +kernel
theorem dX9_makePlain_131 : decode cX9_makePlain 131 = .ok (.getfield 18, 3) := by decide +kernel
theorem dX9_makePlain_134 : decode cX9_makePlain 134 = .ok (.iload_n 3, 1) := by decide +kernel
theorem dX9_makePlain_135 : decode cX9_makePlain 135 = .ok (.i2b, 1) := by decide +kernel
theorem dX9_makePlain_136 : decode cX9_makePlain 136 = .ok (.bastore, 1) := by decide +kernel
theorem dX9_makePlain_137 : decode cX9_makePlain 137 = .ok (.aload_n 0, 1) := by decide +kernel
theorem dX9_makePlain_138 : decode cX9_makePlain 138 = .ok (.dup, 1) := by decide +kernel
theorem dX9_makePlain_139 : decode cX9_makePlain 139 = .ok (.getfield 18, 3) := by decide +kernel
theorem dX9_makePlain_142 : decode cX9_makePlain 142 = .ok (.iconst 1, 1) := by decide +kernel
theorem dX9_makePlain_143 : decode cX9_makePlain 143 = .ok (.iadd, 1) := by decide +kernel
theorem dX9_makePlain_144 : decode cX9_makePlain 144 = .ok (.putfield 18, 3) := by decide +kernel
theorem dX9_makePlain_147 : decode cX9_makePlain 147 = .ok (.iinc 2 1, 3) := by decide +kernel
theorem dX9_makePlain_150 : decode cX9_makePlain 150 = .ok (.goto (-141), 3) := by decide +kernel
theorem dX9_makePlain_153 : decode cX9_makePlain 153 = .ok (.return_, 1) := by decide +kernel
theorem dX9_numberOf_0 : decode cX9_numberOf 0 = .ok (.iconst 0, 1) := by decide +kernel
theorem dX9_numberOf_1 : decode cX9_numberOf 1 = .ok (.istore_n 3, 1) := by decide +kernel
theorem dX9_numberOf_2 : decode cX9_numberOf 2 = .ok (.iload_n 3, 1) := by decide +kernel
theorem dX9_numberOf_3 : decode cX9_numberOf 3 = .ok (.aload_n 0, 1) := by decide +kernel
theorem dX9_numberOf_4 : decode cX9_numberOf 4 = .ok (.getfield 24, 3) := by decide +kernel
theorem dX9_numberOf_7 : decode cX9_numberOf 7 = .ok (.if_icmp .ge 85, 3) := by decide +kernel
theorem dX9_numberOf_10 : decode cX9_numberOf 10 = .ok (.aload_n 0, 1) := by decide +kernel
theorem dX9_numberOf_11 : decode cX9_numberOf 11 = .ok (.getfield 27, 3) := by decide +kernel
theorem dX9_numberOf_14 : decode cX9_numberOf 14 = .ok (.iload_n 3, 1) := by decide +kernel
theorem dX9_numberOf_15 : decode cX9_numberOf 15 = .ok (.iaload, 1) := by decide +kernel
theorem dX9_numberOf_16 : decode cX9_numberOf 16 = .ok (.iload_n 2, 1) := by decide +kernel
theorem dX9_numberOf_17 : decode cX9_numberOf 17 = .ok (.if_icmp .eq 6, 3) := by decide +kernel
theorem dX9_numberOf_20 : decode cX9_numberOf 20 = .ok (.goto 66, 3) := by decide +kernel
theorem dX9_numberOf_23 : decode cX9_numberOf 23 = .ok (.iconst 1, 1) := by decide +kernel
theorem dX9_numberOf_24 : decode cX9_numberOf 24 = .ok (.istore 4, 2) := by decide +kernel
theorem dX9_numberOf_26 : decode cX9_numberOf 26 = .ok (.iconst 0, 1) := by decide +kernel
theorem dX9_numberOf_27 : decode cX9_numberOf 27 = .ok (.istore 5, 2) := by decide +kernel
theorem dX9_numberOf_29 : decode cX9_numberOf 29 = .ok (.iload 5, 2) := by decide +kernel
theorem dX9_numberOf_31 : decode cX9_numberOf 31 = .ok (.iload_n 2, 1) := by decide +kernel
theorem dX9_numberOf_32 : decode cX9_numberOf 32 = .ok (.if_icmp .ge 47, 3) := by decide +kernel
theorem dX9_numberOf_35 : decode cX9_numberOf 35 = .ok (.iload 4, 2) := by decide +kernel
theorem dX9_numberOf_37 : decode cX9_numberOf 37 = .ok (.ifCond .eq 42, 3) := by decide +kernel
theorem dX9_numberOf_40 : decode cX9_numberOf 40 = .ok (.aload_n 0, 1) := by decide +kernel
theorem dX9_numberOf_41 : decode cX9_numberOf 41 = .ok (.getfield 31, 3) := by decide +kernel
theorem dX9_numberOf_44 : decode cX9_numberOf 44 = .ok (.aload_n 0, 1) := by decide +kernel
theorem dX9_numberOf_45 : decode cX9_numberOf 45 = .ok (.getfield 34, 3) := by decide +kernel
theorem dX9_numberOf_48 : decode cX9_numberOf 48 = .ok (.iload_n 3, 1) := by decide +kernel
theorem dX9_numberOf_49 : decode cX9_numberOf 49 = .ok (.iaload, 1) := by decide +kernel
theorem dX9_numberOf_50 : decode cX9_numberOf 50 = .ok (.iload 5, 2) := by decide +kernel
theorem dX9_numberOf_52 : decode cX9_numberOf 52 = .ok (.iadd, 1) := by decide +kernel
theorem dX9_numberOf_53 : decode cX9_numberOf 53 = .ok (.baload, 1) := by decide +kernel
theorem dX9_numberOf_54 : decode cX9_numberOf 54 = .ok (.aload_n 0, 1) := by decide +kernel
theorem dX9_numberOf_55 : decode cX9_numberOf 55 = .ok (.getfield 21, 3) := by decide +kernel
theorem dX9_numberOf_58 : decode cX9_numberOf 58 = .ok (.iload_n 1, 1) := by decide +kernel
theorem dX9_numberOf_59 : decode cX9_numberOf 59 = .ok (.iload 5, 2) := by decide +kernel
theorem dX9_numberOf_61 : decode cX9_numberOf 61 = .ok (.iadd, 1) := by decide +kernel
theorem dX9_numberOf_62 : decode cX9_numberOf 62 = .ok (.baload, 1) := by decide +kernel
theorem dX9_numberOf_63 : decode cX9_numberOf 63 = .ok (.if_icmp .ne 7, 3) := by decide +kernel
theorem dX9_numberOf_66 : decode cX9_numberOf 66 = .ok (.iconst 1, 1) := by decide +kernel
theorem dX9_numberOf_67 : decode cX9_numberOf 67 = .ok (.goto 4, 3) := by decide +kernel
theorem dX9_numberOf_70 : decode cX9_numberOf 70 = .ok (.iconst 0, 1) := by decide +kernel
theorem dX9_numberOf_71 : decode cX9_numberOf 71 = .ok (.istore 4, 2) := by decide +kernel
theorem dX9_numberOf_73 : decode cX9_numberOf 73 = .ok (.iinc 5 1, 3) := by decide +kernel
theorem dX9_numberOf_76 : decode cX9_numberOf 76 = .ok (.goto (-47), 3) := by decide +kernel
theorem dX9_numberOf_79 : decode cX9_numberOf 79 = .ok (.iload 4, 2) := by decide +kernel
theorem dX9_numberOf_81 : decode cX9_numberOf 81 = .ok (.ifCond .eq 5, 3) := by decide +kernel
theorem dX9_numberOf_84 : decode cX9_numberOf 84 = .ok (.iload_n 3, 1) := by decide +kernel
theorem dX9_numberOf_85 : decode cX9_numberOf 85 = .ok (.ireturn, 1) := by decide +kernel
theorem dX9_numberOf_86 : decode cX9_numberOf 86 = .ok (.iinc 3 1, 3) := by decide +kernel
theorem dX9_numberOf_89 : decode cX9_numberOf 89 = .ok (.goto (-87), 3) := by decide +kernel
theorem dX9_numberOf_92 : decode cX9_numberOf 92 = .ok (.iconst (-1), 1) := by decide +kernel
theorem dX9_numberOf_93 : decode cX9_numberOf 93 = .ok (.ireturn, 1) := by decide +kernel
theorem dX9_comes_0 : decode cX9_comes 0 = .ok (.aload_n 0, 1) := by decide +kernel
theorem dX9_comes_1 : decode cX9_comes 1 = .ok (.iload_n 1, 1) := by decide +kernel
theorem dX9_comes_2 : decode cX9_comes 2 = .ok (.iload_n 2, 1) := by decide +kernel
theorem dX9_comes_3 : decode cX9_comes 3 = .ok (.invokevirtual 37, 3) := by decide +kernel
theorem dX9_comes_6 : decode cX9_comes 6 = .ok (.istore_n 3, 1) := by decide +kernel
theorem dX9_comes_7 : decode cX9_comes 7 = .ok (.iload_n 3, 1) := by decide +kernel
theorem dX9_comes_8 : decode cX9_comes 8 = .ok (.ifCond .ge 104, 3) := by decide +kernel
theorem dX9_comes_11 : decode cX9_comes 11 = .ok (.aload_n 0, 1) := by decide +kernel
theorem dX9_comes_12 : decode cX9_comes 12 = .ok (.getfield 24, 3) := by decide +kernel
theorem dX9_comes_15 : decode cX9_comes 15 = .ok (.sipush 6000, 3) := by decide +kernel
theorem dX9_comes_18 : decode cX9_comes 18 = .ok (.if_icmp .eq 14, 3) := by decide +kernel
theorem dX9_comes_21 : decode cX9_comes 21 = .ok (.aload_n 0, 1) := by decide +kernel
theorem dX9_comes_22 : decode cX9_comes 22 = .ok (.getfield 41, 3) := by decide +kernel
theorem dX9_comes_25 : decode cX9_comes 25 = .ok (.iload_n 2, 1) := by decide +kernel
theorem dX9_comes_26 : decode cX9_comes 26 = .ok (.iadd, 1) := by decide +kernel
theorem dX9_comes_27 : decode cX9_comes 27 = .ok (.ldc 44, 2) := by decide +kernel
theorem dX9_comes_29 : decode cX9_comes 29 = .ok (.if_icmp .le 5, 3) := by decide +kernel
theorem dX9_comes_32 : decode cX9_comes 32 = .ok (.iconst 0, 1) := by decide +kernel
theorem dX9_comes_33 : decode cX9_comes 33 = .ok (.ireturn, 1) := by decide +kernel
theorem dX9_comes_34 : decode cX9_comes 34 = .ok (.aload_n 0, 1) := by decide +kernel
theorem dX9_comes_35 : decode cX9_comes 35 = .ok (.getfield 24, 3) := by decide +kernel
theorem dX9_comes_38 : decode cX9_comes 38 = .ok (.istore_n 3, 1) := by decide +kernel
theorem dX9_comes_39 : decode cX9_comes 39 = .ok (.aload_n 0, 1) := by decide +kernel
theorem dX9_comes_40 : decode cX9_comes 40 = .ok (.getfield 34, 3) := by decide +kernel
theorem dX9_comes_43 : decode cX9_comes 43 = .ok (.iload_n 3, 1) := by decide +kernel
theorem dX9_comes_44 : decode cX9_comes 44 = .ok (.aload_n 0, 1) := by decide +kernel
theorem dX9_comes_45 : decode cX9_comes 45 = .ok (.getfield 41, 3) := by decide +kernel
theorem dX9_comes_48 : decode cX9_comes 48 = .ok (.iastore, 1) := by decide +kernel
theorem dX9_comes_49 : decode cX9_comes 49 = .ok (.aload_n 0, 1) := by decide +kernel
theorem dX9_comes_50 : decode cX9_comes 50 = .ok (.getfield 27, 3) := by decide +kernel
theorem dX9_comes_53 : decode cX9_comes 53 = .ok (.iload_n 3, 1) := by decide +kernel
theorem dX9_comes_54 : decode cX9_comes 54 = .ok (.iload_n 2, 1) := by decide +kernel
theorem dX9_comes_55 : decode cX9_comes 55 = .ok (.iastore, 1) := by decide +kernel
theorem dX9_comes_56 : decode cX9_comes 56 = .ok (.iconst 0, 1) := by decide +kernel
theorem dX9_comes_57 : decode cX9_comes 57 = .ok (.istore 4, 2) := by decide +kernel
theorem dX9_comes_59 : decode cX9_comes 59 = .ok (.iload 4, 2) := by decide +kernel
theorem dX9_comes_61 : decode cX9_comes 61 = .ok (.iload_n 2, 1) := by decide +kernel
theorem dX9_comes_62 : decode cX9_comes 62 = .ok (.if_icmp .ge 30, 3) := by decide +kernel
theorem dX9_comes_65 : decode cX9_comes 65 = .ok (.aload_n 0, 1) := by decide +kernel
theorem dX9_comes_66 : decode cX9_comes 66 = .ok (.getfield 31, 3) := by decide +kernel
theorem dX9_comes_69 : decode cX9_comes 69 = .ok (.aload_n 0, 1) := by decide +kernel
theorem dX9_comes_70 : decode cX9_comes 70 = .ok (.getfield 41, 3) := by decide +kernel
theorem dX9_comes_73 : decode cX9_comes 73 = .ok (.iload 4, 2) := by decide +kernel
theorem dX9_comes_75 : decode cX9_comes 75 = .ok (.iadd, 1) := by decide +kernel
theorem dX9_comes_76 : decode cX9_comes 76 = .ok (.aload_n 0, 1) := by decide +kernel
theorem dX9_comes_77 : decode cX9_comes 77 = .ok (.getfield 21, 3) := by decide +kernel
theorem dX9_comes_80 : decode cX9_comes 80 = .ok (.iload_n 1, 1) := by decide +kernel
theorem dX9_comes_81 : decode cX9_comes 81 = .ok (.iload 4, 2) := by decide +kernel
theorem dX9_comes_83 : decode cX9_comes 83 = .ok (.iadd, 1) := by decide +kernel
theorem dX9_comes_84 : decode cX9_comes 84 = .ok (.baload, 1) := by decide +kernel
theorem dX9_comes_85 : decode cX9_comes 85 = .ok (.bastore, 1) := by decide +kernel
theorem dX9_comes_86 : decode cX9_comes 86 = .ok (.iinc 4 1, 3) := by decide +kernel
theorem dX9_comes_89 : decode cX9_comes 89 = .ok (.goto (-30), 3) := by decide +kernel
theorem dX9_comes_92 : decode cX9_comes 92 = .ok (.aload_n 0, 1) := by decide +kernel
theorem dX9_comes_93 : decode cX9_comes 93 = .ok (.dup, 1) := by decide +kernel
theorem dX9_comes_94 : decode cX9_comes 94 = .ok (.getfield 41, 3) := by decide +kernel
theorem dX9_comes_97 : decode cX9_comes 97 = .ok (.iload_n 2, 1) := by decide +kernel
theorem dX9_comes_98 : decode cX9_comes 98 = .ok (.iadd, 1) := by decide +kernel
theorem dX9_comes_99 : decode cX9_comes 99 = .ok (.putfield 41, 3) := by decide +kernel
theorem dX9_comes_102 : decode cX9_comes 102 = .ok (.aload_n 0, 1) := by decide +kernel
theorem dX9_comes_103 : decode cX9_comes 103 = .ok (.dup, 1) := by decide +kernel
theorem dX9_comes_104 : decode cX9_comes 104 = .ok (.getfield 24, 3) := by decide +kernel
theorem dX9_comes_107 : decode cX9_comes 107 = .ok (.iconst 1, 1) := by decide +kernel
theorem dX9_comes_108 : decode cX9_comes 108 = .ok (.iadd, 1) := by decide +kernel
theorem dX9_comes_109 : decode cX9_comes 109 = .ok (.putfield 24, 3) := by decide +kernel
theorem dX9_comes_112 : decode cX9_comes 112 = .ok (.aload_n 0, 1) := by decide +kernel
theorem dX9_comes_113 : decode cX9_comes 113 = .ok (.getfield 45, 3) := by decide +kernel
theorem dX9_comes_116 : decode cX9_comes 116 = .ok (.istore 4, 2) := by decide +kernel
theorem dX9_comes_118 : decode cX9_comes 118 = .ok (.iload 4, 2) := by decide +kernel
theorem dX9_comes_120 : decode cX9_comes 120 = .ok (.ifCond .le 22, 3) := by decide +kernel
theorem dX9_comes_123 : decode cX9_comes 123 = .ok (.aload_n 0, 1) := by decide +kernel
theorem dX9_comes_124 : decode cX9_comes 124 = .ok (.getfield 48, 3) := by decide +kernel
theorem dX9_comes_127 : decode cX9_comes 127 = .ok (.iload 4, 2) := by decide +kernel
theorem dX9_comes_129 : decode cX9_comes 129 = .ok (.iconst 1, 1) := by decide +kernel
theorem dX9_comes_130 : decode cX9_comes 130 = .ok (.isub, 1) := by decide +kernel
theorem dX9_comes_131 : decode cX9_comes 131 = .ok (.iaload, 1) := by decide +kernel
theorem dX9_comes_132 : decode cX9_comes 132 = .ok (.iload_n 3, 1) := by decide +kernel
theorem dX9_comes_133 : decode cX9_comes 133 = .ok (.if_icmp .le 9, 3) := by decide +kernel
theorem dX9_comes_136 : decode cX9_comes 136 = .ok (.iinc 4 (-1), 3) := by decide +kernel
theorem dX9_comes_139 : decode cX9_comes 139 = .ok (.goto (-21), 3) := by decide +kernel
theorem dX9_comes_142 : decode cX9_comes 142 = .ok (.iload 4, 2) := by decide +kernel
theorem dX9_comes_144 : decode cX9_comes 144 = .ok (.ifCond .le 18, 3) := by decide +kernel
theorem dX9_comes_147 : decode cX9_comes 147 = .ok (.aload_n 0, 1) := by decide +kernel
theorem dX9_comes_148 : decode cX9_comes 148 = .ok (.getfield 48, 3) := by decide +kernel
theorem dX9_comes_151 : decode cX9_comes 151 = .ok (.iload 4, 2) := by decide +kernel
theorem dX9_comes_153 : decode cX9_comes 153 = .ok (.iconst 1, 1) := by decide +kernel
theorem dX9_comes_154 : decode cX9_comes 154 = .ok (.isub, 1) := by decide +kernel
theorem dX9_comes_155 : decode cX9_comes 155 = .ok (.iaload, 1) := by decide +kernel
theorem dX9_comes_156 : decode cX9_comes 156 = .ok (.iload_n 3, 1) := by decide +kernel
theorem dX9_comes_157 : decode cX9_comes 157 = .ok (.if_icmp .ne 5, 3) := by decide +kernel
theorem dX9_comes_160 : decode cX9_comes 160 = .ok (.iconst 1, 1) := by decide +kernel
theorem dX9_comes_161 : decode cX9_comes 161 = .ok (.ireturn, 1) := by decide +kernel
theorem dX9_comes_162 : decode cX9_comes 162 = .ok (.aload_n 0, 1) := by decide +kernel
theorem dX9_comes_163 : decode cX9_comes 163 = .ok (.getfield 45, 3) := by decide +kernel
theorem dX9_comes_166 : decode cX9_comes 166 = .ok (.istore 5, 2) := by decide +kernel
theorem dX9_comes_168 : decode cX9_comes 168 = .ok (.iload 5, 2) := by decide +kernel
theorem dX9_comes_170 : decode cX9_comes 170 = .ok (.iload 4, 2) := by decide +kernel
theorem dX9_comes_172 : decode cX9_comes 172 = .ok (.if_icmp .le 25, 3) := by decide +kernel
theorem dX9_comes_175 : decode cX9_comes 175 = .ok (.aload_n 0, 1) := by decide +kernel
theorem dX9_comes_176 : decode cX9_comes 176 = .ok (.getfield 48, 3) := by decide +kernel
theorem dX9_comes_179 : decode cX9_comes 179 = .ok (.iload 5, 2) := by decide +kernel
theorem dX9_comes_181 : decode cX9_comes 181 = .ok (.aload_n 0, 1) := by decide +kernel
theorem dX9_comes_182 : decode cX9_comes 182 = .ok (.getfield 48, 3) := by decide +kernel
theorem dX9_comes_185 : decode cX9_comes 185 = .ok (.iload 5, 2) := by decide +kernel
theorem dX9_comes_187 : decode cX9_comes 187 = .ok (.iconst 1, 1) := by decide +kernel
theorem dX9_comes_188 : decode cX9_comes 188 = .ok (.isub, 1) := by decide +kernel
theorem dX9_comes_189 : decode cX9_comes 189 = .ok (.iaload, 1) := by decide +kernel
theorem dX9_comes_190 : decode cX9_comes 190 = .ok (.iastore, 1) := by decide +kernel
theorem dX9_comes_191 : decode cX9_comes 191 = .ok (.iinc 5 (-1), 3) := by decide +kernel
theorem dX9_comes_194 : decode cX9_comes 194 = .ok (.goto (-26), 3) := by decide +kernel
theorem dX9_comes_197 : decode cX9_comes 197 = .ok (.aload_n 0, 1) := by decide +kernel
theorem dX9_comes_198 : decode cX9_comes 198 = .ok (.getfield 48, 3) := by decide +kernel
theorem dX9_comes_201 : decode cX9_comes 201 = .ok (.iload 4, 2) := by decide +kernel
theorem dX9_comes_203 : decode cX9_comes 203 = .ok (.iload_n 3, 1) := by decide +kernel
theorem dX9_comes_204 : decode cX9_comes 204 = .ok (.iastore, 1) := by decide +kernel
theorem dX9_comes_205 : decode cX9_comes 205 = .ok (.aload_n 0, 1) := by decide +kernel
theorem dX9_comes_206 : decode cX9_comes 206 = .ok (.dup, 1) := by decide +kernel
theorem dX9_comes_207 : decode cX9_comes 207 = .ok (.getfield 45, 3) := by decide +kernel
theorem dX9_comes_210 : decode cX9_comes 210 = .ok (.iconst 1, 1) := by decide +kernel
theorem dX9_comes_211 : decode cX9_comes 211 = .ok (.iadd, 1) := by decide +kernel
theorem dX9_comes_212 : decode cX9_comes 212 = .ok (.putfield 45, 3) := by decide +kernel
theorem dX9_comes_215 : decode cX9_comes 215 = .ok (.iconst 1, 1) := by decide +kernel
theorem dX9_comes_216 : decode cX9_comes 216 = .ok (.ireturn, 1) := by decide +kernel
theorem dX9_all_0 : decode cX9_all 0 = .ok (.aload_n 0, 1) := by decide +kernel
theorem dX9_all_1 : decode cX9_all 1 = .ok (.iconst 0, 1) := by decide +kernel
theorem dX9_all_2 : decode cX9_all 2 = .ok (.putfield 45, 3) := by decide +kernel
theorem dX9_all_5 : decode cX9_all 5 = .ok (.aload_n 0, 1) := by decide +kernel
theorem dX9_all_6 : decode cX9_all 6 = .ok (.getfield 51, 3) := by decide +kernel
theorem dX9_all_9 : decode cX9_all 9 = .ok (.ifCond .ne 40, 3) := by decide +kernel
theorem dX9_all_12 : decode cX9_all 12 = .ok (.iconst 0, 1) := by decide +kernel
theorem dX9_all_13 : decode cX9_all 13 = .ok (.istore_n 1, 1) := by decide +kernel
theorem dX9_all_14 : decode cX9_all 14 = .ok (.iload_n 1, 1) := by decide +kernel
theorem dX9_all_15 : decode cX9_all 15 = .ok (.aload_n 0, 1) := by decide +kernel
theorem dX9_all_16 : decode cX9_all 16 = .ok (.getfield 54, 3) := by decide +kernel
theorem dX9_all_19 : decode cX9_all 19 = .ok (.iadd, 1) := by decide +kernel
theorem dX9_all_20 : decode cX9_all 20 = .ok (.aload_n 0, 1) := by decide +kernel
theorem dX9_all_21 : decode cX9_all 21 = .ok (.getfield 18, 3) := by decide +kernel
theorem dX9_all_24 : decode cX9_all 24 = .ok (.if_icmp .gt 23, 3) := by decide +kernel
theorem dX9_all_27 : decode cX9_all 27 = .ok (.aload_n 0, 1) := by decide +kernel
theorem dX9_all_28 : decode cX9_all 28 = .ok (.iload_n 1, 1) := by decide +kernel
theorem dX9_all_29 : decode cX9_all 29 = .ok (.aload_n 0, 1) := by decide +kernel
theorem dX9_all_30 : decode cX9_all 30 = .ok (.getfield 54, 3) := by decide +kernel
theorem dX9_all_33 : decode cX9_all 33 = .ok (.invokevirtual 57, 3) := by decide +kernel
theorem dX9_all_36 : decode cX9_all 36 = .ok (.ifCond .ne 5, 3) := by decide +kernel
theorem dX9_all_39 : decode cX9_all 39 = .ok (.iconst 0, 1) := by decide +kernel
theorem dX9_all_40 : decode cX9_all 40 = .ok (.ireturn, 1) := by decide +kernel
theorem dX9_all_41 : decode cX9_all 41 = .ok (.iinc 1 1, 3) := by decide +kernel
theorem dX9_all_44 : decode cX9_all 44 = .ok (.goto (-30), 3) := by decide +kernel
theorem dX9_all_47 : decode cX9_all 47 = .ok (.iconst 1, 1) := by decide +kernel
theorem dX9_all_48 : decode cX9_all 48 = .ok (.ireturn, 1) := by decide +kernel
theorem dX9_all_49 : decode cX9_all 49 = .ok (.iconst 0, 1) := by decide +kernel
theorem dX9_all_50 : decode cX9_all 50 = .ok (.istore_n 1, 1) := by decide +kernel
theorem dX9_all_51 : decode cX9_all 51 = .ok (.iload_n 1, 1) := by decide +kernel
theorem dX9_all_52 : decode cX9_all 52 = .ok (.aload_n 0, 1) := by decide +kernel
theorem dX9_all_53 : decode cX9_all 53 = .ok (.getfield 18, 3) := by decide +kernel
theorem dX9_all_56 : decode cX9_all 56 = .ok (.if_icmp .ge 115, 3) := by decide +kernel
theorem dX9_all_59 : decode cX9_all 59 = .ok (.iload_n 1, 1) := by decide +kernel
theorem dX9_all_60 : decode cX9_all 60 = .ok (.istore_n 2, 1) := by decide +kernel
theorem dX9_all_61 : decode cX9_all 61 = .ok (.iconst 0, 1) := by decide +kernel
theorem dX9_all_62 : decode cX9_all 62 = .ok (.istore_n 3, 1) := by decide +kernel
theorem dX9_all_63 : decode cX9_all 63 = .ok (.iload_n 2, 1) := by decide +kernel
theorem dX9_all_64 : decode cX9_all 64 = .ok (.aload_n 0, 1) := by decide +kernel
theorem dX9_all_65 : decode cX9_all 65 = .ok (.getfield 18, 3) := by decide +kernel
theorem dX9_all_68 : decode cX9_all 68 = .ok (.if_icmp .ge 49, 3) := by decide +kernel
theorem dX9_all_71 : decode cX9_all 71 = .ok (.iload_n 3, 1) := by decide +kernel
theorem dX9_all_72 : decode cX9_all 72 = .ok (.aload_n 0, 1) := by decide +kernel
theorem dX9_all_73 : decode cX9_all 73 = .ok (.getfield 54, 3) := by decide +kernel
theorem dX9_all_76 : decode cX9_all 76 = .ok (.if_icmp .ge 41, 3) := by decide +kernel
theorem dX9_all_79 : decode cX9_all 79 = .ok (.iload_n 3, 1) := by decide +kernel
theorem dX9_all_80 : decode cX9_all 80 = .ok (.ifCond .le 6, 3) := by decide +kernel
theorem dX9_all_83 : decode cX9_all 83 = .ok (.iinc 2 1, 3) := by decide +kernel
theorem dX9_all_86 : decode cX9_all 86 = .ok (.iload_n 2, 1) := by decide +kernel
theorem dX9_all_87 : decode cX9_all 87 = .ok (.aload_n 0, 1) := by decide +kernel
theorem dX9_all_88 : decode cX9_all 88 = .ok (.getfield 18, 3) := by decide +kernel
theorem dX9_all_91 : decode cX9_all 91 = .ok (.if_icmp .ge 20, 3) := by decide +kernel
theorem dX9_all_94 : decode cX9_all 94 = .ok (.aload_n 0, 1) := by decide +kernel
theorem dX9_all_95 : decode cX9_all 95 = .ok (.getfield 21, 3) := by decide +kernel
theorem dX9_all_98 : decode cX9_all 98 = .ok (.iload_n 2, 1) := by decide +kernel
theorem dX9_all_99 : decode cX9_all 99 = .ok (.baload, 1) := by decide +kernel
theorem dX9_all_100 : decode cX9_all 100 = .ok (.bipush 32, 2) := by decide +kernel
theorem dX9_all_102 : decode cX9_all 102 = .ok (.if_icmp .eq 9, 3) := by decide +kernel
theorem dX9_all_105 : decode cX9_all 105 = .ok (.iinc 2 1, 3) := by decide +kernel
theorem dX9_all_108 : decode cX9_all 108 = .ok (.goto (-22), 3) := by decide +kernel
theorem dX9_all_111 : decode cX9_all 111 = .ok (.iinc 3 1, 3) := by decide +kernel
theorem dX9_all_114 : decode cX9_all 114 = .ok (.goto (-51), 3) := by decide +kernel
theorem dX9_all_117 : decode cX9_all 117 = .ok (.iload_n 3, 1) := by decide +kernel
theorem dX9_all_118 : decode cX9_all 118 = .ok (.aload_n 0, 1) := by decide +kernel
theorem dX9_all_119 : decode cX9_all 119 = .ok (.getfield 54, 3) := by decide +kernel
theorem dX9_all_122 : decode cX9_all 122 = .ok (.if_icmp .ge 5, 3) := by decide +kernel
theorem dX9_all_125 : decode cX9_all 125 = .ok (.iconst 1, 1) := by decide +kernel
theorem dX9_all_126 : decode cX9_all 126 = .ok (.ireturn, 1) := by decide +kernel
theorem dX9_all_127 : decode cX9_all 127 = .ok (.aload_n 0, 1) := by decide +kernel
theorem dX9_all_128 : decode cX9_all 128 = .ok (.iload_n 1, 1) := by decide +kernel
theorem dX9_all_129 : decode cX9_all 129 = .ok (.iload_n 2, 1) := by decide +kernel
theorem dX9_all_130 : decode cX9_all 130 = .ok (.iload_n 1, 1) := by decide +kernel
theorem dX9_all_131 : decode cX9_all 131 = .ok (.isub, 1) := by decide +kernel
theorem dX9_all_132 : decode cX9_all 132 = .ok (.invokevirtual 57, 3) := by decide +kernel
theorem dX9_all_135 : decode cX9_all 135 = .ok (.ifCond .ne 5, 3) := by decide +kernel
theorem dX9_all_138 : decode cX9_all 138 = .ok (.iconst 0, 1) := by decide +kernel
theorem dX9_all_139 : decode cX9_all 139 = .ok (.ireturn, 1) := by decide +kernel
theorem dX9_all_140 : decode cX9_all 140 = .ok (.iload_n 1, 1) := by decide +kernel
theorem dX9_all_141 : decode cX9_all 141 = .ok (.aload_n 0, 1) := by decide +kernel
theorem dX9_all_142 : decode cX9_all 142 = .ok (.getfield 18, 3) := by decide +kernel
theorem dX9_all_145 : decode cX9_all 145 = .ok (.if_icmp .ge 20, 3) := by decide +kernel
theorem dX9_all_148 : decode cX9_all 148 = .ok (.aload_n 0, 1) := by decide +kernel
theorem dX9_all_149 : decode cX9_all 149 = .ok (.getfield 21, 3) := by decide +kernel
theorem dX9_all_152 : decode cX9_all 152 = .ok (.iload_n 1, 1) := by decide +kernel
theorem dX9_all_153 : decode cX9_all 153 = .ok (.baload, 1) := by decide +kernel
theorem dX9_all_154 : decode cX9_all 154 = .ok (.bipush 32, 2) := by decide +kernel
theorem dX9_all_156 : decode cX9_all 156 = .ok (.if_icmp .eq 9, 3) := by decide +kernel
theorem dX9_all_159 : decode cX9_all 159 = .ok (.iinc 1 1, 3) := by decide +kernel
theorem dX9_all_162 : decode cX9_all 162 = .ok (.goto (-22), 3) := by decide +kernel
theorem dX9_all_165 : decode cX9_all 165 = .ok (.iinc 1 1, 3) := by decide +kernel
theorem dX9_all_168 : decode cX9_all 168 = .ok (.goto (-117), 3) := by decide +kernel
theorem dX9_all_171 : decode cX9_all 171 = .ok (.iconst 1, 1) := by decide +kernel
theorem dX9_all_172 : decode cX9_all 172 = .ok (.ireturn, 1) := by decide +kernel
theorem dX9_add_0 : decode cX9_add 0 = .ok (.aload_n 0, 1) := by decide +kernel
theorem dX9_add_1 : decode cX9_add 1 = .ok (.iconst 0, 1) := by decide +kernel
theorem dX9_add_2 : decode cX9_add 2 = .ok (.putfield 1, 3) := by decide +kernel
theorem dX9_add_5 : decode cX9_add 5 = .ok (.aload_n 0, 1) := by decide +kernel
theorem dX9_add_6 : decode cX9_add 6 = .ok (.invokevirtual 61, 3) := by decide +kernel
theorem dX9_add_9 : decode cX9_add 9 = .ok (.aload_n 0, 1) := by decide +kernel
theorem dX9_add_10 : decode cX9_add 10 = .ok (.iconst 0, 1) := by decide +kernel
theorem dX9_add_11 : decode cX9_add 11 = .ok (.putfield 7, 3) := by decide +kernel
theorem dX9_add_14 : decode cX9_add 14 = .ok (.aload_n 0, 1) := by decide +kernel
theorem dX9_add_15 : decode cX9_add 15 = .ok (.getfield 65, 3) := by decide +kernel
theorem dX9_add_18 : decode cX9_add 18 = .ok (.bipush 48, 2) := by decide +kernel
theorem dX9_add_20 : decode cX9_add 20 = .ok (.if_icmp .eq 13, 3) := by decide +kernel
theorem dX9_add_23 : decode cX9_add 23 = .ok (.aload_n 0, 1) := by decide +kernel
theorem dX9_add_24 : decode cX9_add 24 = .ok (.getfield 68, 3) := by decide +kernel
theorem dX9_add_27 : decode cX9_add 27 = .ok (.sipush 400, 3) := by decide +kernel
theorem dX9_add_30 : decode cX9_add 30 = .ok (.if_icmp .ne 5, 3) := by decide +kernel
theorem dX9_add_33 : decode cX9_add 33 = .ok (.iconst (-1), 1) := by decide +kernel
theorem dX9_add_34 : decode cX9_add 34 = .ok (.ireturn, 1) := by decide +kernel
theorem dX9_add_35 : decode cX9_add 35 = .ok (.aload_n 0, 1) := by decide +kernel
theorem dX9_add_36 : decode cX9_add 36 = .ok (.getfield 24, 3) := by decide +kernel
theorem dX9_add_39 : decode cX9_add 39 = .ok (.istore_n 1, 1) := by decide +kernel
theorem dX9_add_40 : decode cX9_add 40 = .ok (.aload_n 0, 1) := by decide +kernel
theorem dX9_add_41 : decode cX9_add 41 = .ok (.getfield 41, 3) := by decide +kernel
theorem dX9_add_44 : decode cX9_add 44 = .ok (.istore_n 2, 1) := by decide +kernel
theorem dX9_add_45 : decode cX9_add 45 = .ok (.aload_n 0, 1) := by decide +kernel
theorem dX9_add_46 : decode cX9_add 46 = .ok (.invokevirtual 71, 3) := by decide +kernel
theorem dX9_add_49 : decode cX9_add 49 = .ok (.ifCond .ne 15, 3) := by decide +kernel
theorem dX9_add_52 : decode cX9_add 52 = .ok (.aload_n 0, 1) := by decide +kernel
theorem dX9_add_53 : decode cX9_add 53 = .ok (.iload_n 1, 1) := by decide +kernel
theorem dX9_add_54 : decode cX9_add 54 = .ok (.putfield 24, 3) := by decide +kernel
theorem dX9_add_57 : decode cX9_add 57 = .ok (.aload_n 0, 1) := by decide +kernel
theorem dX9_add_58 : decode cX9_add 58 = .ok (.iload_n 2, 1) := by decide +kernel
theorem dX9_add_59 : decode cX9_add 59 = .ok (.putfield 41, 3) := by decide +kernel
theorem dX9_add_62 : decode cX9_add 62 = .ok (.iconst (-1), 1) := by decide +kernel
theorem dX9_add_63 : decode cX9_add 63 = .ok (.ireturn, 1) := by decide +kernel
theorem dX9_add_64 : decode cX9_add 64 = .ok (.iconst 0, 1) := by decide +kernel
theorem dX9_add_65 : decode cX9_add 65 = .ok (.istore_n 3, 1) := by decide +kernel
theorem dX9_add_66 : decode cX9_add 66 = .ok (.iload_n 3, 1) := by decide +kernel
theorem dX9_add_67 : decode cX9_add 67 = .ok (.aload_n 0, 1) := by decide +kernel
theorem dX9_add_68 : decode cX9_add 68 = .ok (.getfield 45, 3) := by decide +kernel
theorem dX9_add_71 : decode cX9_add 71 = .ok (.if_icmp .ge 30, 3) := by decide +kernel
theorem dX9_add_74 : decode cX9_add 74 = .ok (.aload_n 0, 1) := by decide +kernel
theorem dX9_add_75 : decode cX9_add 75 = .ok (.getfield 75, 3) := by decide +kernel
theorem dX9_add_78 : decode cX9_add 78 = .ok (.sipush 800, 3) := by decide +kernel
theorem dX9_add_81 : decode cX9_add 81 = .ok (.aload_n 0, 1) := by decide +kernel
theorem dX9_add_82 : decode cX9_add 82 = .ok (.getfield 65, 3) := by decide +kernel
theorem dX9_add_85 : decode cX9_add 85 = .ok (.imul, 1) := by decide +kernel
theorem dX9_add_86 : decode cX9_add 86 = .ok (.iload_n 3, 1) := by decide +kernel
theorem dX9_add_87 : decode cX9_add 87 = .ok (.iadd, 1) := by decide +kernel
theorem dX9_add_88 : decode cX9_add 88 = .ok (.aload_n 0, 1) := by decide +kernel
theorem dX9_add_89 : decode cX9_add 89 = .ok (.getfield 48, 3) := by decide +kernel
theorem dX9_add_92 : decode cX9_add 92 = .ok (.iload_n 3, 1) := by decide +kernel
theorem dX9_add_93 : decode cX9_add 93 = .ok (.iaload, 1) := by decide +kernel
theorem dX9_add_94 : decode cX9_add 94 = .ok (.iastore, 1) := by decide +kernel
theorem dX9_add_95 : decode cX9_add 95 = .ok (.iinc 3 1, 3) := by decide +kernel
theorem dX9_add_98 : decode cX9_add 98 = .ok (.goto (-32), 3) := by decide +kernel
theorem dX9_add_101 : decode cX9_add 101 = .ok (.aload_n 0, 1) := by decide +kernel
theorem dX9_add_102 : decode cX9_add 102 = .ok (.getfield 78, 3) := by decide +kernel
theorem dX9_add_105 : decode cX9_add 105 = .ok (.aload_n 0, 1) := by decide +kernel
theorem dX9_add_106 : decode cX9_add 106 = .ok (.getfield 65, 3) := by decide +kernel
theorem dX9_add_109 : decode cX9_add 109 = .ok (.aload_n 0, 1) := by decide +kernel
theorem dX9_add_110 : decode cX9_add 110 = .ok (.getfield 45, 3) := by decide +kernel
theorem dX9_add_113 : decode cX9_add 113 = .ok (.iastore, 1) := by decide +kernel
theorem dX9_add_114 : decode cX9_add 114 = .ok (.aload_n 0, 1) := by decide +kernel
theorem dX9_add_115 : decode cX9_add 115 = .ok (.getfield 81, 3) := by decide +kernel
theorem dX9_add_118 : decode cX9_add 118 = .ok (.aload_n 0, 1) := by decide +kernel
theorem dX9_add_119 : decode cX9_add 119 = .ok (.getfield 65, 3) := by decide +kernel
theorem dX9_add_122 : decode cX9_add 122 = .ok (.aload_n 0, 1) := by decide +kernel
theorem dX9_add_123 : decode cX9_add 123 = .ok (.getfield 68, 3) := by decide +kernel
theorem dX9_add_126 : decode cX9_add 126 = .ok (.iastore, 1) := by decide +kernel
theorem dX9_add_127 : decode cX9_add 127 = .ok (.aload_n 0, 1) := by decide +kernel
theorem dX9_add_128 : decode cX9_add 128 = .ok (.dup, 1) := by decide +kernel
theorem dX9_add_129 : decode cX9_add 129 = .ok (.getfield 65, 3) := by decide +kernel
theorem dX9_add_132 : decode cX9_add 132 = .ok (.iconst 1, 1) := by decide +kernel
theorem dX9_add_133 : decode cX9_add 133 = .ok (.iadd, 1) := by decide +kernel
theorem dX9_add_134 : decode cX9_add 134 = .ok (.putfield 65, 3) := by decide +kernel
theorem dX9_add_137 : decode cX9_add 137 = .ok (.aload_n 0, 1) := by decide +kernel
theorem dX9_add_138 : decode cX9_add 138 = .ok (.dup, 1) := by decide +kernel
theorem dX9_add_139 : decode cX9_add 139 = .ok (.getfield 68, 3) := by decide +kernel
theorem dX9_add_142 : decode cX9_add 142 = .ok (.iconst 1, 1) := by decide +kernel
theorem dX9_add_143 : decode cX9_add 143 = .ok (.iadd, 1) := by decide +kernel
theorem dX9_add_144 : decode cX9_add 144 = .ok (.putfield 68, 3) := by decide +kernel
theorem dX9_add_147 : decode cX9_add 147 = .ok (.aload_n 0, 1) := by decide +kernel
theorem dX9_add_148 : decode cX9_add 148 = .ok (.iconst 1, 1) := by decide +kernel
theorem dX9_add_149 : decode cX9_add 149 = .ok (.putfield 84, 3) := by decide +kernel
theorem dX9_add_152 : decode cX9_add 152 = .ok (.aload_n 0, 1) := by decide +kernel
theorem dX9_add_153 : decode cX9_add 153 = .ok (.getfield 68, 3) := by decide +kernel
theorem dX9_add_156 : decode cX9_add 156 = .ok (.iconst 1, 1) := by decide +kernel
theorem dX9_add_157 : decode cX9_add 157 = .ok (.isub, 1) := by decide +kernel
theorem dX9_add_158 : decode cX9_add 158 = .ok (.ireturn, 1) := by decide +kernel
theorem dX9_slot_0 : decode cX9_slot 0 = .ok (.iconst 0, 1) := by decide +kernel
theorem dX9_slot_1 : decode cX9_slot 1 = .ok (.istore_n 2, 1) := by decide +kernel
theorem dX9_slot_2 : decode cX9_slot 2 = .ok (.iload_n 2, 1) := by decide +kernel
theorem dX9_slot_3 : decode cX9_slot 3 = .ok (.aload_n 0, 1) := by decide +kernel
theorem dX9_slot_4 : decode cX9_slot 4 = .ok (.getfield 65, 3) := by decide +kernel
theorem dX9_slot_7 : decode cX9_slot 7 = .ok (.if_icmp .ge 21, 3) := by decide +kernel
theorem dX9_slot_10 : decode cX9_slot 10 = .ok (.aload_n 0, 1) := by decide +kernel
theorem dX9_slot_11 : decode cX9_slot 11 = .ok (.getfield 81, 3) := by decide +kernel
theorem dX9_slot_14 : decode cX9_slot 14 = .ok (.iload_n 2, 1) := by decide +kernel
theorem dX9_slot_15 : decode cX9_slot 15 = .ok (.iaload, 1) := by decide +kernel
theorem dX9_slot_16 : decode cX9_slot 16 = .ok (.iload_n 1, 1) := by decide +kernel
theorem dX9_slot_17 : decode cX9_slot 17 = .ok (.if_icmp .ne 5, 3) := by decide +kernel
theorem dX9_slot_20 : decode cX9_slot 20 = .ok (.iload_n 2, 1) := by decide +kernel
theorem dX9_slot_21 : decode cX9_slot 21 = .ok (.ireturn, 1) := by decide +kernel
theorem dX9_slot_22 : decode cX9_slot 22 = .ok (.iinc 2 1, 3) := by decide +kernel
theorem dX9_slot_25 : decode cX9_slot 25 = .ok (.goto (-23), 3) := by decide +kernel
theorem dX9_slot_28 : decode cX9_slot 28 = .ok (.iconst (-1), 1) := by decide +kernel
theorem dX9_slot_29 : decode cX9_slot 29 = .ok (.ireturn, 1) := by decide +kernel
theorem dX9_remove_0 : decode cX9_remove 0 = .ok (.aload_n 0, 1) := by decide +kernel
theorem dX9_remove_1 : decode cX9_remove 1 = .ok (.iconst 0, 1) := by decide +kernel
theorem dX9_remove_2 : decode cX9_remove 2 = .ok (.putfield 1, 3) := by decide +kernel
theorem dX9_remove_5 : decode cX9_remove 5 = .ok (.aload_n 0, 1) := by decide +kernel
theorem dX9_remove_6 : decode cX9_remove 6 = .ok (.iload_n 1, 1) := by decide +kernel
theorem dX9_remove_7 : decode cX9_remove 7 = .ok (.invokevirtual 88, 3) := by decide +kernel
theorem dX9_remove_10 : decode cX9_remove 10 = .ok (.istore_n 2, 1) := by decide +kernel
theorem dX9_remove_11 : decode cX9_remove 11 = .ok (.iload_n 2, 1) := by decide +kernel
theorem dX9_remove_12 : decode cX9_remove 12 = .ok (.ifCond .ge 5, 3) := by decide +kernel
theorem dX9_remove_15 : decode cX9_remove 15 = .ok (.iconst 0, 1) := by decide +kernel
theorem dX9_remove_16 : decode cX9_remove 16 = .ok (.ireturn, 1) := by decide +kernel
theorem dX9_remove_17 : decode cX9_remove 17 = .ok (.aload_n 0, 1) := by decide +kernel
theorem dX9_remove_18 : decode cX9_remove 18 = .ok (.dup, 1) := by decide +kernel
theorem dX9_remove_19 : decode cX9_remove 19 = .ok (.getfield 65, 3) := by decide +kernel
theorem dX9_remove_22 : decode cX9_remove 22 = .ok (.iconst 1, 1) := by decide +kernel
theorem dX9_remove_23 : decode cX9_remove 23 = .ok (.isub, 1) := by decide +kernel
theorem dX9_remove_24 : decode cX9_remove 24 = .ok (.putfield 65, 3) := by decide +kernel
theorem dX9_remove_27 : decode cX9_remove 27 = .ok (.iload_n 2, 1) := by decide +kernel
theorem dX9_remove_28 : decode cX9_remove 28 = .ok (.istore_n 3, 1) := by decide +kernel
theorem dX9_remove_29 : decode cX9_remove 29 = .ok (.iload_n 3, 1) := by decide +kernel
theorem dX9_remove_30 : decode cX9_remove 30 = .ok (.aload_n 0, 1) := by decide +kernel
theorem dX9_remove_31 : decode cX9_remove 31 = .ok (.getfield 65, 3) := by decide +kernel
theorem dX9_remove_34 : decode cX9_remove 34 = .ok (.if_icmp .ge 85, 3) := by decide +kernel
theorem dX9_remove_37 : decode cX9_remove 37 = .ok (.aload_n 0, 1) := by decide +kernel
theorem dX9_remove_38 : decode cX9_remove 38 = .ok (.getfield 81, 3) := by decide +kernel
theorem dX9_remove_41 : decode cX9_remove 41 = .ok (.iload_n 3, 1) := by decide +kernel
theorem dX9_remove_42 : decode cX9_remove 42 = .ok (.aload_n 0, 1) := by decide +kernel
theorem dX9_remove_43 : decode cX9_remove 43 = .ok (.getfield 81, 3) := by decide +kernel
theorem dX9_remove_46 : decode cX9_remove 46 = .ok (.iload_n 3, 1) := by decide +kernel
theorem dX9_remove_47 : decode cX9_remove 47 = .ok (.iconst 1, 1) := by decide +kernel
theorem dX9_remove_48 : decode cX9_remove 48 = .ok (.iadd, 1) := by decide +kernel
theorem dX9_remove_49 : decode cX9_remove 49 = .ok (.iaload, 1) := by decide +kernel
theorem dX9_remove_50 : decode cX9_remove 50 = .ok (.iastore, 1) := by decide +kernel
theorem dX9_remove_51 : decode cX9_remove 51 = .ok (.aload_n 0, 1) := by decide +kernel
theorem dX9_remove_52 : decode cX9_remove 52 = .ok (.getfield 78, 3) := by decide +kernel
theorem dX9_remove_55 : decode cX9_remove 55 = .ok (.iload_n 3, 1) := by decide +kernel
theorem dX9_remove_56 : decode cX9_remove 56 = .ok (.aload_n 0, 1) := by decide +kernel
theorem dX9_remove_57 : decode cX9_remove 57 = .ok (.getfield 78, 3) := by decide +kernel
theorem dX9_remove_60 : decode cX9_remove 60 = .ok (.iload_n 3, 1) := by decide +kernel
theorem dX9_remove_61 : decode cX9_remove 61 = .ok (.iconst 1, 1) := by decide +kernel
theorem dX9_remove_62 : decode cX9_remove 62 = .ok (.iadd, 1) := by decide +kernel
theorem dX9_remove_63 : decode cX9_remove 63 = .ok (.iaload, 1) := by decide +kernel
theorem dX9_remove_64 : decode cX9_remove 64 = .ok (.iastore, 1) := by decide +kernel
theorem dX9_remove_65 : decode cX9_remove 65 = .ok (.iconst 0, 1) := by decide +kernel
theorem dX9_remove_66 : decode cX9_remove 66 = .ok (.istore 4, 2) := by decide +kernel
theorem dX9_remove_68 : decode cX9_remove 68 = .ok (.iload 4, 2) := by decide +kernel
theorem dX9_remove_70 : decode cX9_remove 70 = .ok (.aload_n 0, 1) := by decide +kernel
theorem dX9_remove_71 : decode cX9_remove 71 = .ok (.getfield 78, 3) := by decide +kernel
theorem dX9_remove_74 : decode cX9_remove 74 = .ok (.iload_n 3, 1) := by decide +kernel
theorem dX9_remove_75 : decode cX9_remove 75 = .ok (.iaload, 1) := by decide +kernel
theorem dX9_remove_76 : decode cX9_remove 76 = .ok (.if_icmp .ge 37, 3) := by decide +kernel
theorem dX9_remove_79 : decode cX9_remove 79 = .ok (.aload_n 0, 1) := by decide +kernel
theorem dX9_remove_80 : decode cX9_remove 80 = .ok (.getfield 75, 3) := by decide +kernel
theorem dX9_remove_83 : decode cX9_remove 83 = .ok (.sipush 800, 3) := by decide +kernel
theorem dX9_remove_86 : decode cX9_remove 86 = .ok (.iload_n 3, 1) := by decide +kernel
theorem dX9_remove_87 : decode cX9_remove 87 = .ok (.imul, 1) := by decide +kernel
theorem dX9_remove_88 : decode cX9_remove 88 = .ok (.iload 4, 2) := by decide +kernel
theorem dX9_remove_90 : decode cX9_remove 90 = .ok (.iadd, 1) := by decide +kernel
theorem dX9_remove_91 : decode cX9_remove 91 = .ok (.aload_n 0, 1) := by decide +kernel
theorem dX9_remove_92 : decode cX9_remove 92 = .ok (.getfield 75, 3) := by decide +kernel
theorem dX9_remove_95 : decode cX9_remove 95 = .ok (.sipush 800, 3) := by decide +kernel
theorem dX9_remove_98 : decode cX9_remove 98 = .ok (.iload_n 3, 1) := by decide +kernel
theorem dX9_remove_99 : decode cX9_remove 99 = .ok (.iconst 1, 1) := by decide +kernel
theorem dX9_remove_100 : decode cX9_remove 100 = .ok (.iadd, 1) := by decide +kernel
theorem dX9_remove_101 : decode cX9_remove 101 = .ok (.imul, 1) := by decide +kernel
theorem dX9_remove_102 : decode cX9_remove 102 = .ok (.iload 4, 2) := by decide +kernel
theorem dX9_remove_104 : decode cX9_remove 104 = .ok (.iadd, 1) := by decide +kernel
theorem dX9_remove_105 : decode cX9_remove 105 = .ok (.iaload, 1) := by decide +kernel
theorem dX9_remove_106 : decode cX9_remove 106 = .ok (.iastore, 1) := by decide +kernel
theorem dX9_remove_107 : decode cX9_remove 107 = .ok (.iinc 4 1, 3) := by decide +kernel
theorem dX9_remove_110 : decode cX9_remove 110 = .ok (.goto (-42), 3) := by decide +kernel
theorem dX9_remove_113 : decode cX9_remove 113 = .ok (.iinc 3 1, 3) := by decide +kernel
theorem dX9_remove_116 : decode cX9_remove 116 = .ok (.goto (-87), 3) := by decide +kernel
theorem dX9_remove_119 : decode cX9_remove 119 = .ok (.aload_n 0, 1) := by decide +kernel
theorem dX9_remove_120 : decode cX9_remove 120 = .ok (.iconst 1, 1) := by decide +kernel
theorem dX9_remove_121 : decode cX9_remove 121 = .ok (.putfield 84, 3) := by decide +kernel
theorem dX9_remove_124 : decode cX9_remove 124 = .ok (.iconst 1, 1) := by decide +kernel
theorem dX9_remove_125 : decode cX9_remove 125 = .ok (.ireturn, 1) := by decide +kernel
theorem dX9_mode_0 : decode cX9_mode 0 = .ok (.aload_n 0, 1) := by decide +kernel
theorem dX9_mode_1 : decode cX9_mode 1 = .ok (.iload_n 1, 1) := by decide +kernel
theorem dX9_mode_2 : decode cX9_mode 2 = .ok (.ifCond .lt 19, 3) := by decide +kernel
theorem dX9_mode_5 : decode cX9_mode 5 = .ok (.iload_n 1, 1) := by decide +kernel
theorem dX9_mode_6 : decode cX9_mode 6 = .ok (.iconst 1, 1) := by decide +kernel
theorem dX9_mode_7 : decode cX9_mode 7 = .ok (.if_icmp .gt 14, 3) := by decide +kernel
theorem dX9_mode_10 : decode cX9_mode 10 = .ok (.iload_n 2, 1) := by decide +kernel
theorem dX9_mode_11 : decode cX9_mode 11 = .ok (.iconst 1, 1) := by decide +kernel
theorem dX9_mode_12 : decode cX9_mode 12 = .ok (.if_icmp .lt 9, 3) := by decide +kernel
theorem dX9_mode_15 : decode cX9_mode 15 = .ok (.iload_n 2, 1) := by decide +kernel
theorem dX9_mode_16 : decode cX9_mode 16 = .ok (.bipush 9, 2) := by decide +kernel
theorem dX9_mode_18 : decode cX9_mode 18 = .ok (.if_icmp .le 7, 3) := by decide +kernel
theorem dX9_mode_21 : decode cX9_mode 21 = .ok (.iconst 1, 1) := by decide +kernel
theorem dX9_mode_22 : decode cX9_mode 22 = .ok (.goto 4, 3) := by decide +kernel
theorem dX9_mode_25 : decode cX9_mode 25 = .ok (.iconst 0, 1) := by decide +kernel
theorem dX9_mode_26 : decode cX9_mode 26 = .ok (.invokevirtual 92, 3) := by decide +kernel
theorem dX9_mode_29 : decode cX9_mode 29 = .ok (.ifCond .eq 5, 3) := by decide +kernel
theorem dX9_mode_32 : decode cX9_mode 32 = .ok (.iconst 0, 1) := by decide +kernel
theorem dX9_mode_33 : decode cX9_mode 33 = .ok (.ireturn, 1) := by decide +kernel
theorem dX9_mode_34 : decode cX9_mode 34 = .ok (.aload_n 0, 1) := by decide +kernel
theorem dX9_mode_35 : decode cX9_mode 35 = .ok (.getfield 65, 3) := by decide +kernel
theorem dX9_mode_38 : decode cX9_mode 38 = .ok (.istore_n 3, 1) := by decide +kernel
theorem dX9_mode_39 : decode cX9_mode 39 = .ok (.aload_n 0, 1) := by decide +kernel
theorem dX9_mode_40 : decode cX9_mode 40 = .ok (.iload_n 1, 1) := by decide +kernel
theorem dX9_mode_41 : decode cX9_mode 41 = .ok (.putfield 51, 3) := by decide +kernel
theorem dX9_mode_44 : decode cX9_mode 44 = .ok (.aload_n 0, 1) := by decide +kernel
theorem dX9_mode_45 : decode cX9_mode 45 = .ok (.iload_n 2, 1) := by decide +kernel
theorem dX9_mode_46 : decode cX9_mode 46 = .ok (.putfield 54, 3) := by decide +kernel
theorem dX9_mode_49 : decode cX9_mode 49 = .ok (.aload_n 0, 1) := by decide +kernel
theorem dX9_mode_50 : decode cX9_mode 50 = .ok (.iconst 0, 1) := by decide +kernel
theorem dX9_mode_51 : decode cX9_mode 51 = .ok (.putfield 65, 3) := by decide +kernel
theorem dX9_mode_54 : decode cX9_mode 54 = .ok (.aload_n 0, 1) := by decide +kernel
theorem dX9_mode_55 : decode cX9_mode 55 = .ok (.iconst 0, 1) := by decide +kernel
theorem dX9_mode_56 : decode cX9_mode 56 = .ok (.putfield 68, 3) := by decide +kernel
theorem dX9_mode_59 : decode cX9_mode 59 = .ok (.aload_n 0, 1) := by decide +kernel
theorem dX9_mode_60 : decode cX9_mode 60 = .ok (.iconst 0, 1) := by decide +kernel
theorem dX9_mode_61 : decode cX9_mode 61 = .ok (.putfield 24, 3) := by decide +kernel
theorem dX9_mode_64 : decode cX9_mode 64 = .ok (.aload_n 0, 1) := by decide +kernel
theorem dX9_mode_65 : decode cX9_mode 65 = .ok (.iconst 0, 1) := by decide +kernel
theorem dX9_mode_66 : decode cX9_mode 66 = .ok (.putfield 41, 3) := by decide +kernel
theorem dX9_mode_69 : decode cX9_mode 69 = .ok (.aload_n 0, 1) := by decide +kernel
theorem dX9_mode_70 : decode cX9_mode 70 = .ok (.iconst 1, 1) := by decide +kernel
theorem dX9_mode_71 : decode cX9_mode 71 = .ok (.putfield 84, 3) := by decide +kernel
theorem dX9_mode_74 : decode cX9_mode 74 = .ok (.iload_n 3, 1) := by decide +kernel
theorem dX9_mode_75 : decode cX9_mode 75 = .ok (.ireturn, 1) := by decide +kernel
theorem dX9_init_0 : decode cX9_init 0 = .ok (.aload_n 0, 1) := by decide +kernel
theorem dX9_init_1 : decode cX9_init 1 = .ok (.invokespecial 96, 3) := by decide +kernel
theorem dX9_init_4 : decode cX9_init 4 = .ok (.aload_n 0, 1) := by decide +kernel
theorem dX9_init_5 : decode cX9_init 5 = .ok (.sipush 800, 3) := by decide +kernel
theorem dX9_init_8 : decode cX9_init 8 = .ok (.newarray .byte, 2) := by decide +kernel
theorem dX9_init_10 : decode cX9_init 10 = .ok (.putfield 14, 3) := by decide +kernel
theorem dX9_init_13 : decode cX9_init 13 = .ok (.aload_n 0, 1) := by decide +kernel
theorem dX9_init_14 : decode cX9_init 14 = .ok (.sipush 801, 3) := by decide +kernel
theorem dX9_init_17 : decode cX9_init 17 = .ok (.newarray .byte, 2) := by decide +kernel
theorem dX9_init_19 : decode cX9_init 19 = .ok (.putfield 21, 3) := by decide +kernel
theorem dX9_init_22 : decode cX9_init 22 = .ok (.aload_n 0, 1) := by decide +kernel
theorem dX9_init_23 : decode cX9_init 23 = .ok (.ldc 101, 2) := by decide +kernel
theorem dX9_init_25 : decode cX9_init 25 = .ok (.newarray .byte, 2) := by decide +kernel
theorem dX9_init_27 : decode cX9_init 27 = .ok (.putfield 31, 3) := by decide +kernel
theorem dX9_init_30 : decode cX9_init 30 = .ok (.aload_n 0, 1) := by decide +kernel
theorem dX9_init_31 : decode cX9_init 31 = .ok (.sipush 6800, 3) := by decide +kernel
theorem dX9_init_34 : decode cX9_init 34 = .ok (.newarray .int, 2) := by decide +kernel
theorem dX9_init_36 : decode cX9_init 36 = .ok (.putfield 34, 3) := by decide +kernel
theorem dX9_init_39 : decode cX9_init 39 = .ok (.aload_n 0, 1) := by decide +kernel
theorem dX9_init_40 : decode cX9_init 40 = .ok (.sipush 6800, 3) := by decide +kernel
theorem dX9_init_43 : decode cX9_init 43 = .ok (.newarray .int, 2) := by decide +kernel
theorem dX9_init_45 : decode cX9_init 45 = .ok (.putfield 27, 3) := by decide +kernel
theorem dX9_init_48 : decode cX9_init 48 = .ok (.aload_n 0, 1) := by decide +kernel
theorem dX9_init_49 : decode cX9_init 49 = .ok (.iconst 4, 1) := by decide +kernel
theorem dX9_init_50 : decode cX9_init 50 = .ok (.putfield 54, 3) := by decide +kernel
theorem dX9_init_53 : decode cX9_init 53 = .ok (.aload_n 0, 1) := by decide +kernel
theorem dX9_init_54 : decode cX9_init 54 = .ok (.sipush 801, 3) := by decide +kernel
theorem dX9_init_57 : decode cX9_init 57 = .ok (.newarray .int, 2) := by decide +kernel
theorem dX9_init_59 : decode cX9_init 59 = .ok (.putfield 48, 3) := by decide +kernel
theorem dX9_init_62 : decode cX9_init 62 = .ok (.aload_n 0, 1) := by decide +kernel
theorem dX9_init_63 : decode cX9_init 63 = .ok (.bipush 48, 2) := by decide +kernel
theorem dX9_init_65 : decode cX9_init 65 = .ok (.newarray .int, 2) := by decide +kernel
theorem dX9_init_67 : decode cX9_init 67 = .ok (.putfield 81, 3) := by decide +kernel
theorem dX9_init_70 : decode cX9_init 70 = .ok (.aload_n 0, 1) := by decide +kernel
theorem dX9_init_71 : decode cX9_init 71 = .ok (.bipush 48, 2) := by decide +kernel
theorem dX9_init_73 : decode cX9_init 73 = .ok (.newarray .int, 2) := by decide +kernel
theorem dX9_init_75 : decode cX9_init 75 = .ok (.putfield 78, 3) := by decide +kernel
theorem dX9_init_78 : decode cX9_init 78 = .ok (.aload_n 0, 1) := by decide +kernel
theorem dX9_init_79 : decode cX9_init 79 = .ok (.ldc 102, 2) := by decide +kernel
theorem dX9_init_81 : decode cX9_init 81 = .ok (.newarray .int, 2) := by decide +kernel
theorem dX9_init_83 : decode cX9_init 83 = .ok (.putfield 75, 3) := by decide +kernel
theorem dX9_init_86 : decode cX9_init 86 = .ok (.aload_n 0, 1) := by decide +kernel
theorem dX9_init_87 : decode cX9_init 87 = .ok (.bipush 64, 2) := by decide +kernel
theorem dX9_init_89 : decode cX9_init 89 = .ok (.newarray .int, 2) := by decide +kernel
theorem dX9_init_91 : decode cX9_init 91 = .ok (.putfield 103, 3) := by decide +kernel
theorem dX9_init_94 : decode cX9_init 94 = .ok (.aload_n 0, 1) := by decide +kernel
theorem dX9_init_95 : decode cX9_init 95 = .ok (.bipush 64, 2) := by decide +kernel
theorem dX9_init_97 : decode cX9_init 97 = .ok (.newarray .int, 2) := by decide +kernel
theorem dX9_init_99 : decode cX9_init 99 = .ok (.putfield 106, 3) := by decide +kernel
theorem dX9_init_102 : decode cX9_init 102 = .ok (.aload_n 0, 1) := by decide +kernel
theorem dX9_init_103 : decode cX9_init 103 = .ok (.sipush 300, 3) := by decide +kernel
theorem dX9_init_106 : decode cX9_init 106 = .ok (.newarray .int, 2) := by decide +kernel
theorem dX9_init_108 : decode cX9_init 108 = .ok (.putfield 109, 3) := by decide +kernel
theorem dX9_init_111 : decode cX9_init 111 = .ok (.aload_n 0, 1) := by decide +kernel
theorem dX9_init_112 : decode cX9_init 112 = .ok (.sipush 300, 3) := by decide +kernel
theorem dX9_init_115 : decode cX9_init 115 = .ok (.newarray .int, 2) := by decide +kernel
theorem dX9_init_117 : decode cX9_init 117 = .ok (.putfield 112, 3) := by decide +kernel
theorem dX9_init_120 : decode cX9_init 120 = .ok (.aload_n 0, 1) := by decide +kernel
theorem dX9_init_121 : decode cX9_init 121 = .ok (.sipush 300, 3) := by decide +kernel
theorem dX9_init_124 : decode cX9_init 124 = .ok (.newarray .int, 2) := by decide +kernel
theorem dX9_init_126 : decode cX9_init 126 = .ok (.putfield 115, 3) := by decide +kernel
theorem dX9_init_129 : decode cX9_init 129 = .ok (.aload_n 0, 1) := by decide +kernel
theorem dX9_init_130 : decode cX9_init 130 = .ok (.sipush 3072, 3) := by decide +kernel
theorem dX9_init_133 : decode cX9_init 133 = .ok (.newarray .int, 2) := by decide +kernel
theorem dX9_init_135 : decode cX9_init 135 = .ok (.putfield 118, 3) := by decide +kernel
theorem dX9_init_138 : decode cX9_init 138 = .ok (.aload_n 0, 1) := by decide +kernel
theorem dX9_init_139 : decode cX9_init 139 = .ok (.bipush 16, 2) := by decide +kernel
theorem dX9_init_141 : decode cX9_init 141 = .ok (.putfield 121, 3) := by decide +kernel
theorem dX9_init_144 : decode cX9_init 144 = .ok (.aload_n 0, 1) := by decide +kernel
theorem dX9_init_145 : decode cX9_init 145 = .ok (.iconst 4, 1) := by decide +kernel
theorem dX9_init_146 : decode cX9_init 146 = .ok (.putfield 124, 3) := by decide +kernel
theorem dX9_init_149 : decode cX9_init 149 = .ok (.aload_n 0, 1) := by decide +kernel
theorem dX9_init_150 : decode cX9_init 150 = .ok (.iconst 1, 1) := by decide +kernel
theorem dX9_init_151 : decode cX9_init 151 = .ok (.putfield 127, 3) := by decide +kernel
theorem dX9_init_154 : decode cX9_init 154 = .ok (.aload_n 0, 1) := by decide +kernel
theorem dX9_init_155 : decode cX9_init 155 = .ok (.iconst 2, 1) := by decide +kernel
theorem dX9_init_156 : decode cX9_init 156 = .ok (.putfield 130, 3) := by decide +kernel
theorem dX9_init_159 : decode cX9_init 159 = .ok (.aload_n 0, 1) := by decide +kernel
theorem dX9_init_160 : decode cX9_init 160 = .ok (.bipush 48, 2) := by decide +kernel
theorem dX9_init_162 : decode cX9_init 162 = .ok (.newarray .int, 2) := by decide +kernel
theorem dX9_init_164 : decode cX9_init 164 = .ok (.putfield 133, 3) := by decide +kernel
theorem dX9_init_167 : decode cX9_init 167 = .ok (.iconst 0, 1) := by decide +kernel
theorem dX9_init_168 : decode cX9_init 168 = .ok (.istore_n 1, 1) := by decide +kernel
theorem dX9_init_169 : decode cX9_init 169 = .ok (.iload_n 1, 1) := by decide +kernel
theorem dX9_init_170 : decode cX9_init 170 = .ok (.bipush 64, 2) := by decide +kernel
theorem dX9_init_172 : decode cX9_init 172 = .ok (.if_icmp .ge 16, 3) := by decide +kernel
theorem dX9_init_175 : decode cX9_init 175 = .ok (.aload_n 0, 1) := by decide +kernel
theorem dX9_init_176 : decode cX9_init 176 = .ok (.getfield 103, 3) := by decide +kernel
theorem dX9_init_179 : decode cX9_init 179 = .ok (.iload_n 1, 1) := by decide +kernel
theorem dX9_init_180 : decode cX9_init 180 = .ok (.iconst 1, 1) := by decide +kernel
theorem dX9_init_181 : decode cX9_init 181 = .ok (.iastore, 1) := by decide +kernel
theorem dX9_init_182 : decode cX9_init 182 = .ok (.iinc 1 1, 3) := by decide +kernel
theorem dX9_init_185 : decode cX9_init 185 = .ok (.goto (-16), 3) := by decide +kernel
theorem dX9_init_188 : decode cX9_init 188 = .ok (.return_, 1) := by decide +kernel
theorem dX9_isNone_0 : decode cX9_isNone 0 = .ok (.iload_n 0, 1) := by decide +kernel
theorem dX9_isNone_1 : decode cX9_isNone 1 = .ok (.iload_n 1, 1) := by decide +kernel
theorem dX9_isNone_2 : decode cX9_isNone 2 = .ok (.if_icmp .lt 8, 3) := by decide +kernel
theorem dX9_isNone_5 : decode cX9_isNone 5 = .ok (.iload_n 0, 1) := by decide +kernel
theorem dX9_isNone_6 : decode cX9_isNone 6 = .ok (.iload_n 2, 1) := by decide +kernel
theorem dX9_isNone_7 : decode cX9_isNone 7 = .ok (.if_icmp .le 7, 3) := by decide +kernel
theorem dX9_isNone_10 : decode cX9_isNone 10 = .ok (.iconst 1, 1) := by decide +kernel
theorem dX9_isNone_11 : decode cX9_isNone 11 = .ok (.goto 4, 3) := by decide +kernel
theorem dX9_isNone_14 : decode cX9_isNone 14 = .ok (.iconst 0, 1) := by decide +kernel
theorem dX9_isNone_15 : decode cX9_isNone 15 = .ok (.ireturn, 1) := by decide +kernel
theorem dX9_tell_0 : decode cX9_tell 0 = .ok (.aload_n 0, 1) := by decide +kernel
theorem dX9_tell_1 : decode cX9_tell 1 = .ok (.iconst 0, 1) := by decide +kernel
theorem dX9_tell_2 : decode cX9_tell 2 = .ok (.putfield 1, 3) := by decide +kernel
theorem dX9_tell_5 : decode cX9_tell 5 = .ok (.iload_n 1, 1) := by decide +kernel
theorem dX9_tell_6 : decode cX9_tell 6 = .ok (.iconst 0, 1) := by decide +kernel
theorem dX9_tell_7 : decode cX9_tell 7 = .ok (.bipush 63, 2) := by decide +kernel
theorem dX9_tell_9 : decode cX9_tell 9 = .ok (.invokestatic 136, 3) := by decide +kernel
theorem dX9_tell_12 : decode cX9_tell 12 = .ok (.ifCond .ne 23, 3) := by decide +kernel
theorem dX9_tell_15 : decode cX9_tell 15 = .ok (.iload_n 2, 1) := by decide +kernel
theorem dX9_tell_16 : decode cX9_tell 16 = .ok (.iconst 1, 1) := by decide +kernel
theorem dX9_tell_17 : decode cX9_tell 17 = .ok (.ldc 140, 2) := by decide +kernel
theorem dX9_tell_19 : decode cX9_tell 19 = .ok (.invokestatic 136, 3) := by decide +kernel
theorem dX9_tell_22 : decode cX9_tell 22 = .ok (.ifCond .ne 13, 3) := by decide +kernel
theorem dX9_tell_25 : decode cX9_tell 25 = .ok (.iload_n 3, 1) := by decide +kernel
theorem dX9_tell_26 : decode cX9_tell 26 = .ok (.iconst 0, 1) := by decide +kernel
theorem dX9_tell_27 : decode cX9_tell 27 = .ok (.ldc 140, 2) := by decide +kernel
theorem dX9_tell_29 : decode cX9_tell 29 = .ok (.invokestatic 136, 3) := by decide +kernel
theorem dX9_tell_32 : decode cX9_tell 32 = .ok (.ifCond .eq 5, 3) := by decide +kernel
theorem dX9_tell_35 : decode cX9_tell 35 = .ok (.iconst 0, 1) := by decide +kernel
theorem dX9_tell_36 : decode cX9_tell 36 = .ok (.ireturn, 1) := by decide +kernel
theorem dX9_tell_37 : decode cX9_tell 37 = .ok (.aload_n 0, 1) := by decide +kernel
theorem dX9_tell_38 : decode cX9_tell 38 = .ok (.getfield 103, 3) := by decide +kernel
theorem dX9_tell_41 : decode cX9_tell 41 = .ok (.iload_n 1, 1) := by decide +kernel
theorem dX9_tell_42 : decode cX9_tell 42 = .ok (.iload_n 2, 1) := by decide +kernel
theorem dX9_tell_43 : decode cX9_tell 43 = .ok (.iastore, 1) := by decide +kernel
theorem dX9_tell_44 : decode cX9_tell 44 = .ok (.aload_n 0, 1) := by decide +kernel
theorem dX9_tell_45 : decode cX9_tell 45 = .ok (.getfield 106, 3) := by decide +kernel
theorem dX9_tell_48 : decode cX9_tell 48 = .ok (.iload_n 1, 1) := by decide +kernel
theorem dX9_tell_49 : decode cX9_tell 49 = .ok (.iload_n 3, 1) := by decide +kernel
theorem dX9_tell_50 : decode cX9_tell 50 = .ok (.iastore, 1) := by decide +kernel
theorem dX9_tell_51 : decode cX9_tell 51 = .ok (.iconst 0, 1) := by decide +kernel
theorem dX9_tell_52 : decode cX9_tell 52 = .ok (.istore 4, 2) := by decide +kernel
theorem dX9_tell_54 : decode cX9_tell 54 = .ok (.iconst 0, 1) := by decide +kernel
theorem dX9_tell_55 : decode cX9_tell 55 = .ok (.istore 5, 2) := by decide +kernel
theorem dX9_tell_57 : decode cX9_tell 57 = .ok (.iload 5, 2) := by decide +kernel
theorem dX9_tell_59 : decode cX9_tell 59 = .ok (.aload_n 0, 1) := by decide +kernel
theorem dX9_tell_60 : decode cX9_tell 60 = .ok (.getfield 141, 3) := by decide +kernel
theorem dX9_tell_63 : decode cX9_tell 63 = .ok (.if_icmp .ge 68, 3) := by decide +kernel
theorem dX9_tell_66 : decode cX9_tell 66 = .ok (.aload_n 0, 1) := by decide +kernel
theorem dX9_tell_67 : decode cX9_tell 67 = .ok (.getfield 109, 3) := by decide +kernel
theorem dX9_tell_70 : decode cX9_tell 70 = .ok (.iload 5, 2) := by decide +kernel
theorem dX9_tell_72 : decode cX9_tell 72 = .ok (.iaload, 1) := by decide +kernel
theorem dX9_tell_73 : decode cX9_tell 73 = .ok (.iload_n 1, 1) := by decide +kernel
theorem dX9_tell_74 : decode cX9_tell 74 = .ok (.if_icmp .ne 6, 3) := by decide +kernel
theorem dX9_tell_77 : decode cX9_tell 77 = .ok (.goto 48, 3) := by decide +kernel
theorem dX9_tell_80 : decode cX9_tell 80 = .ok (.aload_n 0, 1) := by decide +kernel
theorem dX9_tell_81 : decode cX9_tell 81 = .ok (.getfield 109, 3) := by decide +kernel
theorem dX9_tell_84 : decode cX9_tell 84 = .ok (.iload 4, 2) := by decide +kernel
theorem dX9_tell_86 : decode cX9_tell 86 = .ok (.aload_n 0, 1) := by decide +kernel
theorem dX9_tell_87 : decode cX9_tell 87 = .ok (.getfield 109, 3) := by decide +kernel
theorem dX9_tell_90 : decode cX9_tell 90 = .ok (.iload 5, 2) := by decide +kernel
theorem dX9_tell_92 : decode cX9_tell 92 = .ok (.iaload, 1) := by decide +kernel
theorem dX9_tell_93 : decode cX9_tell 93 = .ok (.iastore, 1) := by decide +kernel
theorem dX9_tell_94 : decode cX9_tell 94 = .ok (.aload_n 0, 1) := by decide +kernel
theorem dX9_tell_95 : decode cX9_tell 95 = .ok (.getfield 112, 3) := by decide +kernel
theorem dX9_tell_98 : decode cX9_tell 98 = .ok (.iload 4, 2) := by decide +kernel
theorem dX9_tell_100 : decode cX9_tell 100 = .ok (.aload_n 0, 1) := by decide +kernel
theorem dX9_tell_101 : decode cX9_tell 101 = .ok (.getfield 112, 3) := by decide +kernel
theorem dX9_tell_104 : decode cX9_tell 104 = .ok (.iload 5, 2) := by decide +kernel
theorem dX9_tell_106 : decode cX9_tell 106 = .ok (.iaload, 1) := by decide +kernel
theorem dX9_tell_107 : decode cX9_tell 107 = .ok (.iastore, 1) := by decide +kernel
theorem dX9_tell_108 : decode cX9_tell 108 = .ok (.aload_n 0, 1) := by decide +kernel
theorem dX9_tell_109 : decode cX9_tell 109 = .ok (.getfield 115, 3) := by decide +kernel
theorem dX9_tell_112 : decode cX9_tell 112 = .ok (.iload 4, 2) := by decide +kernel
theorem dX9_tell_114 : decode cX9_tell 114 = .ok (.aload_n 0, 1) := by decide +kernel
theorem dX9_tell_115 : decode cX9_tell 115 = .ok (.getfield 115, 3) := by decide +kernel
theorem dX9_tell_118 : decode cX9_tell 118 = .ok (.iload 5, 2) := by decide +kernel
theorem dX9_tell_120 : decode cX9_tell 120 = .ok (.iaload, 1) := by decide +kernel
theorem dX9_tell_121 : decode cX9_tell 121 = .ok (.iastore, 1) := by decide +kernel
theorem dX9_tell_122 : decode cX9_tell 122 = .ok (.iinc 4 1, 3) := by decide +kernel
theorem dX9_tell_125 : decode cX9_tell 125 = .ok (.iinc 5 1, 3) := by decide +kernel
theorem dX9_tell_128 : decode cX9_tell 128 = .ok (.goto (-71), 3) := by decide +kernel
theorem dX9_tell_131 : decode cX9_tell 131 = .ok (.aload_n 0, 1) := by decide +kernel
theorem dX9_tell_132 : decode cX9_tell 132 = .ok (.iload 4, 2) := by decide +kernel
theorem dX9_tell_134 : decode cX9_tell 134 = .ok (.putfield 141, 3) := by decide +kernel
theorem dX9_tell_137 : decode cX9_tell 137 = .ok (.aload_n 0, 1) := by decide +kernel
theorem dX9_tell_138 : decode cX9_tell 138 = .ok (.iconst 1, 1) := by decide +kernel
theorem dX9_tell_139 : decode cX9_tell 139 = .ok (.putfield 84, 3) := by decide +kernel
theorem dX9_tell_142 : decode cX9_tell 142 = .ok (.iconst 1, 1) := by decide +kernel
theorem dX9_tell_143 : decode cX9_tell 143 = .ok (.ireturn, 1) := by decide +kernel
theorem dX9_exchange_0 : decode cX9_exchange 0 = .ok (.aload_n 0, 1) := by decide +kernel
theorem dX9_exchange_1 : decode cX9_exchange 1 = .ok (.iconst 0, 1) := by decide +kernel
theorem dX9_exchange_2 : decode cX9_exchange 2 = .ok (.putfield 1, 3) := by decide +kernel
theorem dX9_exchange_5 : decode cX9_exchange 5 = .ok (.iload_n 1, 1) := by decide +kernel
theorem dX9_exchange_6 : decode cX9_exchange 6 = .ok (.iconst 0, 1) := by decide +kernel
theorem dX9_exchange_7 : decode cX9_exchange 7 = .ok (.bipush 63, 2) := by decide +kernel
theorem dX9_exchange_9 : decode cX9_exchange 9 = .ok (.invokestatic 136, 3) := by decide +kernel
theorem dX9_exchange_12 : decode cX9_exchange 12 = .ok (.ifCond .ne 33, 3) := by decide +kernel
theorem dX9_exchange_15 : decode cX9_exchange 15 = .ok (.iload_n 2, 1) := by decide +kernel
theorem dX9_exchange_16 : decode cX9_exchange 16 = .ok (.iconst 0, 1) := by decide +kernel
theorem dX9_exchange_17 : decode cX9_exchange 17 = .ok (.ldc 140, 2) := by decide +kernel
theorem dX9_exchange_19 : decode cX9_exchange 19 = .ok (.invokestatic 136, 3) := by decide +kernel
theorem dX9_exchange_22 : decode cX9_exchange 22 = .ok (.ifCond .ne 23, 3) := by decide +kernel
theorem dX9_exchange_25 : decode cX9_exchange 25 = .ok (.iload_n 3, 1) := by decide +kernel
theorem dX9_exchange_26 : decode cX9_exchange 26 = .ok (.iconst 0, 1) := by decide +kernel
theorem dX9_exchange_27 : decode cX9_exchange 27 = .ok (.ldc 140, 2) := by decide +kernel
theorem dX9_exchange_29 : decode cX9_exchange 29 = .ok (.invokestatic 136, 3) := by decide +kernel
theorem dX9_exchange_32 : decode cX9_exchange 32 = .ok (.ifCond .ne 13, 3) := by decide +kernel
theorem dX9_exchange_35 : decode cX9_exchange 35 = .ok (.aload_n 0, 1) := by decide +kernel
theorem dX9_exchange_36 : decode cX9_exchange 36 = .ok (.getfield 141, 3) := by decide +kernel
theorem dX9_exchange_39 : decode cX9_exchange 39 = .ok (.sipush 300, 3) := by decide +kernel
theorem dX9_exchange_42 : decode cX9_exchange 42 = .ok (.if_icmp .ne 5, 3) := by decide +kernel
theorem dX9_exchange_45 : decode cX9_exchange 45 = .ok (.iconst (-1), 1) := by decide +kernel
theorem dX9_exchange_46 : decode cX9_exchange 46 = .ok (.ireturn, 1) := by decide +kernel
theorem dX9_exchange_47 : decode cX9_exchange 47 = .ok (.aload_n 0, 1) := by decide +kernel
theorem dX9_exchange_48 : decode cX9_exchange 48 = .ok (.getfield 109, 3) := by decide +kernel
theorem dX9_exchange_51 : decode cX9_exchange 51 = .ok (.aload_n 0, 1) := by decide +kernel
theorem dX9_exchange_52 : decode cX9_exchange 52 = .ok (.getfield 141, 3) := by decide +kernel
theorem dX9_exchange_55 : decode cX9_exchange 55 = .ok (.iload_n 1, 1) := by decide +kernel
theorem dX9_exchange_56 : decode cX9_exchange 56 = .ok (.iastore, 1) := by decide +kernel
theorem dX9_exchange_57 : decode cX9_exchange 57 = .ok (.aload_n 0, 1) := by decide +kernel
theorem dX9_exchange_58 : decode cX9_exchange 58 = .ok (.getfield 112, 3) := by decide +kernel
theorem dX9_exchange_61 : decode cX9_exchange 61 = .ok (.aload_n 0, 1) := by decide +kernel
theorem dX9_exchange_62 : decode cX9_exchange 62 = .ok (.getfield 141, 3) := by decide +kernel
theorem dX9_exchange_65 : decode cX9_exchange 65 = .ok (.iload_n 2, 1) := by decide +kernel
theorem dX9_exchange_66 : decode cX9_exchange 66 = .ok (.iastore, 1) := by decide +kernel
theorem dX9_exchange_67 : decode cX9_exchange 67 = .ok (.aload_n 0, 1) := by decide +kernel
theorem dX9_exchange_68 : decode cX9_exchange 68 = .ok (.getfield 115, 3) := by decide +kernel
theorem dX9_exchange_71 : decode cX9_exchange 71 = .ok (.aload_n 0, 1) := by decide +kernel
theorem dX9_exchange_72 : decode cX9_exchange 72 = .ok (.getfield 141, 3) := by decide +kernel
theorem dX9_exchange_75 : decode cX9_exchange 75 = .ok (.iload_n 3, 1) := by decide +kernel
theorem dX9_exchange_76 : decode cX9_exchange 76 = .ok (.iastore, 1) := by decide +kernel
theorem dX9_exchange_77 : decode cX9_exchange 77 = .ok (.aload_n 0, 1) := by decide +kernel
theorem dX9_exchange_78 : decode cX9_exchange 78 = .ok (.dup, 1) := by decide +kernel
theorem dX9_exchange_79 : decode cX9_exchange 79 = .ok (.getfield 141, 3) := by decide +kernel
theorem dX9_exchange_82 : decode cX9_exchange 82 = .ok (.iconst 1, 1) := by decide +kernel
theorem dX9_exchange_83 : decode cX9_exchange 83 = .ok (.iadd, 1) := by decide +kernel
theorem dX9_exchange_84 : decode cX9_exchange 84 = .ok (.putfield 141, 3) := by decide +kernel
theorem dX9_exchange_87 : decode cX9_exchange 87 = .ok (.aload_n 0, 1) := by decide +kernel
theorem dX9_exchange_88 : decode cX9_exchange 88 = .ok (.iconst 1, 1) := by decide +kernel
theorem dX9_exchange_89 : decode cX9_exchange 89 = .ok (.putfield 84, 3) := by decide +kernel
theorem dX9_exchange_92 : decode cX9_exchange 92 = .ok (.aload_n 0, 1) := by decide +kernel
theorem dX9_exchange_93 : decode cX9_exchange 93 = .ok (.getfield 141, 3) := by decide +kernel
theorem dX9_exchange_96 : decode cX9_exchange 96 = .ok (.ireturn, 1) := by decide +kernel
theorem dX9_imageOf_0 : decode cX9_imageOf 0 = .ok (.iload_n 2, 1) := by decide +kernel
theorem dX9_imageOf_1 : decode cX9_imageOf 1 = .ok (.istore_n 3, 1) := by decide +kernel
theorem dX9_imageOf_2 : decode cX9_imageOf 2 = .ok (.aload_n 0, 1) := by decide +kernel
theorem dX9_imageOf_3 : decode cX9_imageOf 3 = .ok (.getfield 141, 3) := by decide +kernel
theorem dX9_imageOf_6 : decode cX9_imageOf 6 = .ok (.iconst 1, 1) := by decide +kernel
theorem dX9_imageOf_7 : decode cX9_imageOf 7 = .ok (.isub, 1) := by decide +kernel
theorem dX9_imageOf_8 : decode cX9_imageOf 8 = .ok (.istore 4, 2) := by decide +kernel
theorem dX9_imageOf_10 : decode cX9_imageOf 10 = .ok (.iload 4, 2) := by decide +kernel
theorem dX9_imageOf_12 : decode cX9_imageOf 12 = .ok (.ifCond .lt 64, 3) := by decide +kernel
theorem dX9_imageOf_15 : decode cX9_imageOf 15 = .ok (.aload_n 0, 1) := by decide +kernel
theorem dX9_imageOf_16 : decode cX9_imageOf 16 = .ok (.getfield 109, 3) := by decide +kernel
theorem dX9_imageOf_19 : decode cX9_imageOf 19 = .ok (.iload 4, 2) := by decide +kernel
theorem dX9_imageOf_21 : decode cX9_imageOf 21 = .ok (.iaload, 1) := by decide +kernel
theorem dX9_imageOf_22 : decode cX9_imageOf 22 = .ok (.iload_n 1, 1) := by decide +kernel
theorem dX9_imageOf_23 : decode cX9_imageOf 23 = .ok (.if_icmp .eq 6, 3) := by decide +kernel
theorem dX9_imageOf_26 : decode cX9_imageOf 26 = .ok (.goto 44, 3) := by decide +kernel
theorem dX9_imageOf_29 : decode cX9_imageOf 29 = .ok (.iload_n 3, 1) := by decide +kernel
theorem dX9_imageOf_30 : decode cX9_imageOf 30 = .ok (.aload_n 0, 1) := by decide +kernel
theorem dX9_imageOf_31 : decode cX9_imageOf 31 = .ok (.getfield 112, 3) := by decide +kernel
theorem dX9_imageOf_34 : decode cX9_imageOf 34 = .ok (.iload 4, 2) := by decide +kernel
theorem dX9_imageOf_36 : decode cX9_imageOf 36 = .ok (.iaload, 1) := by decide +kernel
theorem dX9_imageOf_37 : decode cX9_imageOf 37 = .ok (.if_icmp .ne 14, 3) := by decide +kernel
theorem dX9_imageOf_40 : decode cX9_imageOf 40 = .ok (.aload_n 0, 1) := by decide +kernel
theorem dX9_imageOf_41 : decode cX9_imageOf 41 = .ok (.getfield 115, 3) := by decide +kernel
theorem dX9_imageOf_44 : decode cX9_imageOf 44 = .ok (.iload 4, 2) := by decide +kernel
theorem dX9_imageOf_46 : decode cX9_imageOf 46 = .ok (.iaload, 1) := by decide +kernel
theorem dX9_imageOf_47 : decode cX9_imageOf 47 = .ok (.istore_n 3, 1) := by decide +kernel
theorem dX9_imageOf_48 : decode cX9_imageOf 48 = .ok (.goto 22, 3) := by decide +kernel
theorem dX9_imageOf_51 : decode cX9_imageOf 51 = .ok (.iload_n 3, 1) := by decide +kernel
theorem dX9_imageOf_52 : decode cX9_imageOf 52 = .ok (.aload_n 0, 1) := by decide +kernel
theorem dX9_imageOf_53 : decode cX9_imageOf 53 = .ok (.getfield 115, 3) := by decide +kernel
theorem dX9_imageOf_56 : decode cX9_imageOf 56 = .ok (.iload 4, 2) := by decide +kernel
theorem dX9_imageOf_58 : decode cX9_imageOf 58 = .ok (.iaload, 1) := by decide +kernel
theorem dX9_imageOf_59 : decode cX9_imageOf 59 = .ok (.if_icmp .ne 11, 3) := by decide +kernel
theorem dX9_imageOf_62 : decode cX9_imageOf 62 = .ok (.aload_n 0, 1) := by decide +kernel
theorem dX9_imageOf_63 : decode cX9_imageOf 63 = .ok (.getfield 112, 3) := by decide +kernel
theorem dX9_imageOf_66 : decode cX9_imageOf 66 = .ok (.iload 4, 2) := by decide +kernel
theorem dX9_imageOf_68 : decode cX9_imageOf 68 = .ok (.iaload, 1) := by decide +kernel
theorem dX9_imageOf_69 : decode cX9_imageOf 69 = .ok (.istore_n 3, 1) := by decide +kernel
theorem dX9_imageOf_70 : decode cX9_imageOf 70 = .ok (.iinc 4 (-1), 3) := by decide +kernel
theorem dX9_imageOf_73 : decode cX9_imageOf 73 = .ok (.goto (-63), 3) := by decide +kernel
theorem dX9_imageOf_76 : decode cX9_imageOf 76 = .ok (.aload_n 0, 1) := by decide +kernel
theorem dX9_imageOf_77 : decode cX9_imageOf 77 = .ok (.getfield 103, 3) := by decide +kernel
theorem dX9_imageOf_80 : decode cX9_imageOf 80 = .ok (.iload_n 1, 1) := by decide +kernel
theorem dX9_imageOf_81 : decode cX9_imageOf 81 = .ok (.iaload, 1) := by decide +kernel
theorem dX9_imageOf_82 : decode cX9_imageOf 82 = .ok (.i2l, 1) := by decide +kernel
theorem dX9_imageOf_83 : decode cX9_imageOf 83 = .ok (.iload_n 3, 1) := by decide +kernel
theorem dX9_imageOf_84 : decode cX9_imageOf 84 = .ok (.i2l, 1) := by decide +kernel
theorem dX9_imageOf_85 : decode cX9_imageOf 85 = .ok (.lmul, 1) := by decide +kernel
theorem dX9_imageOf_86 : decode cX9_imageOf 86 = .ok (.aload_n 0, 1) := by decide +kernel
theorem dX9_imageOf_87 : decode cX9_imageOf 87 = .ok (.getfield 106, 3) := by decide +kernel
theorem dX9_imageOf_90 : decode cX9_imageOf 90 = .ok (.iload_n 1, 1) := by decide +kernel
theorem dX9_imageOf_91 : decode cX9_imageOf 91 = .ok (.iaload, 1) := by decide +kernel
theorem dX9_imageOf_92 : decode cX9_imageOf 92 = .ok (.i2l, 1) := by decide +kernel
theorem dX9_imageOf_93 : decode cX9_imageOf 93 = .ok (.ladd, 1) := by decide +kernel
theorem dX9_imageOf_94 : decode cX9_imageOf 94 = .ok (.ldc2_w 144, 3) := by decide +kernel
theorem dX9_imageOf_97 : decode cX9_imageOf 97 = .ok (.lrem, 1) := by decide +kernel
theorem dX9_imageOf_98 : decode cX9_imageOf 98 = .ok (.l2i, 1) := by decide +kernel
theorem dX9_imageOf_99 : decode cX9_imageOf 99 = .ok (.ireturn, 1) := by decide +kernel
theorem dX9_image_0 : decode cX9_image 0 = .ok (.aload_n 0, 1) := by decide +kernel
theorem dX9_image_1 : decode cX9_image 1 = .ok (.iconst 0, 1) := by decide +kernel
theorem dX9_image_2 : decode cX9_image 2 = .ok (.putfield 1, 3) := by decide +kernel
theorem dX9_image_5 : decode cX9_image 5 = .ok (.iload_n 1, 1) := by decide +kernel
theorem dX9_image_6 : decode cX9_image 6 = .ok (.iconst 0, 1) := by decide +kernel
theorem dX9_image_7 : decode cX9_image 7 = .ok (.bipush 63, 2) := by decide +kernel
theorem dX9_image_9 : decode cX9_image 9 = .ok (.invokestatic 136, 3) := by decide +kernel
theorem dX9_image_12 : decode cX9_image 12 = .ok (.ifCond .ne 13, 3) := by decide +kernel
theorem dX9_image_15 : decode cX9_image 15 = .ok (.iload_n 2, 1) := by decide +kernel
theorem dX9_image_16 : decode cX9_image 16 = .ok (.iconst 0, 1) := by decide +kernel
theorem dX9_image_17 : decode cX9_image 17 = .ok (.ldc 140, 2) := by decide +kernel
theorem dX9_image_19 : decode cX9_image 19 = .ok (.invokestatic 136, 3) := by decide +kernel
theorem dX9_image_22 : decode cX9_image 22 = .ok (.ifCond .eq 7, 3) := by decide +kernel
theorem dX9_image_25 : decode cX9_image 25 = .ok (.iconst (-1), 1) := by decide +kernel
theorem dX9_image_26 : decode cX9_image 26 = .ok (.goto 9, 3) := by decide +kernel
theorem dX9_image_29 : decode cX9_image 29 = .ok (.aload_n 0, 1) := by decide +kernel
theorem dX9_image_30 : decode cX9_image 30 = .ok (.iload_n 1, 1) := by decide +kernel
theorem dX9_image_31 : decode cX9_image 31 = .ok (.iload_n 2, 1) := by decide +kernel
theorem dX9_image_32 : decode cX9_image 32 = .ok (.invokevirtual 146, 3) := by decide +kernel
theorem dX9_image_35 : decode cX9_image 35 = .ok (.ireturn, 1) := by decide +kernel
theorem dX9_sign_0 : decode cX9_sign 0 = .ok (.aload_n 0, 1) := by decide +kernel
theorem dX9_sign_1 : decode cX9_sign 1 = .ok (.getfield 84, 3) := by decide +kernel
theorem dX9_sign_4 : decode cX9_sign 4 = .ok (.ifCond .ne 4, 3) := by decide +kernel
theorem dX9_sign_7 : decode cX9_sign 7 = .ok (.return_, 1) := by decide +kernel
theorem dX9_sign_8 : decode cX9_sign 8 = .ok (.aload_n 0, 1) := by decide +kernel
theorem dX9_sign_9 : decode cX9_sign 9 = .ok (.iconst 0, 1) := by decide +kernel
theorem dX9_sign_10 : decode cX9_sign 10 = .ok (.putfield 84, 3) := by decide +kernel
theorem dX9_sign_13 : decode cX9_sign 13 = .ok (.iconst 0, 1) := by decide +kernel
theorem dX9_sign_14 : decode cX9_sign 14 = .ok (.istore_n 1, 1) := by decide +kernel
theorem dX9_sign_15 : decode cX9_sign 15 = .ok (.iload_n 1, 1) := by decide +kernel
theorem dX9_sign_16 : decode cX9_sign 16 = .ok (.bipush 64, 2) := by decide +kernel
theorem dX9_sign_18 : decode cX9_sign 18 = .ok (.if_icmp .ge 171, 3) := by decide +kernel
theorem dX9_sign_21 : decode cX9_sign 21 = .ok (.iconst 0, 1) := by decide +kernel
theorem dX9_sign_22 : decode cX9_sign 22 = .ok (.istore_n 2, 1) := by decide +kernel
theorem dX9_sign_23 : decode cX9_sign 23 = .ok (.iconst 0, 1) := by decide +kernel
theorem dX9_sign_24 : decode cX9_sign 24 = .ok (.istore_n 3, 1) := by decide +kernel
theorem dX9_sign_25 : decode cX9_sign 25 = .ok (.iload_n 3, 1) := by decide +kernel
theorem dX9_sign_26 : decode cX9_sign 26 = .ok (.aload_n 0, 1) := by decide +kernel
theorem dX9_sign_27 : decode cX9_sign 27 = .ok (.getfield 141, 3) := by decide +kernel
theorem dX9_sign_30 : decode cX9_sign 30 = .ok (.if_icmp .ge 29, 3) := by decide +kernel
theorem dX9_sign_33 : decode cX9_sign 33 = .ok (.iload_n 2, 1) := by decide +kernel
theorem dX9_sign_34 : decode cX9_sign 34 = .ok (.ifCond .ne 13, 3) := by decide +kernel
theorem dX9_sign_37 : decode cX9_sign 37 = .ok (.aload_n 0, 1) := by decide +kernel
theorem dX9_sign_38 : decode cX9_sign 38 = .ok (.getfield 109, 3) := by decide +kernel
theorem dX9_sign_41 : decode cX9_sign 41 = .ok (.iload_n 3, 1) := by decide +kernel
theorem dX9_sign_42 : decode cX9_sign 42 = .ok (.iaload, 1) := by decide +kernel
theorem dX9_sign_43 : decode cX9_sign 43 = .ok (.iload_n 1, 1) := by decide +kernel
theorem dX9_sign_44 : decode cX9_sign 44 = .ok (.if_icmp .ne 7, 3) := by decide +kernel
theorem dX9_sign_47 : decode cX9_sign 47 = .ok (.iconst 1, 1) := by decide +kernel
theorem dX9_sign_48 : decode cX9_sign 48 = .ok (.goto 4, 3) := by decide +kernel
theorem dX9_sign_51 : decode cX9_sign 51 = .ok (.iconst 0, 1) := by decide +kernel
theorem dX9_sign_52 : decode cX9_sign 52 = .ok (.istore_n 2, 1) := by decide +kernel
theorem dX9_sign_53 : decode cX9_sign 53 = .ok (.iinc 3 1, 3) := by decide +kernel
theorem dX9_sign_56 : decode cX9_sign 56 = .ok (.goto (-31), 3) := by decide +kernel
theorem dX9_sign_59 : decode cX9_sign 59 = .ok (.iconst 0, 1) := by decide +kernel
theorem dX9_sign_60 : decode cX9_sign 60 = .ok (.istore_n 3, 1) := by decide +kernel
theorem dX9_sign_61 : decode cX9_sign 61 = .ok (.iload_n 3, 1) := by decide +kernel
theorem dX9_sign_62 : decode cX9_sign 62 = .ok (.aload_n 0, 1) := by decide +kernel
theorem dX9_sign_63 : decode cX9_sign 63 = .ok (.getfield 65, 3) := by decide +kernel
theorem dX9_sign_66 : decode cX9_sign 66 = .ok (.if_icmp .ge 117, 3) := by decide +kernel
theorem dX9_sign_69 : decode cX9_sign 69 = .ok (.ldc 149, 2) := by decide +kernel
theorem dX9_sign_71 : decode cX9_sign 71 = .ok (.istore 4, 2) := by decide +kernel
theorem dX9_sign_73 : decode cX9_sign 73 = .ok (.iconst 0, 1) := by decide +kernel
theorem dX9_sign_74 : decode cX9_sign 74 = .ok (.istore 5, 2) := by decide +kernel
theorem dX9_sign_76 : decode cX9_sign 76 = .ok (.iload 5, 2) := by decide +kernel
theorem dX9_sign_78 : decode cX9_sign 78 = .ok (.aload_n 0, 1) := by decide +kernel
theorem dX9_sign_79 : decode cX9_sign 79 = .ok (.getfield 78, 3) := by decide +kernel
theorem dX9_sign_82 : decode cX9_sign 82 = .ok (.iload_n 3, 1) := by decide +kernel
theorem dX9_sign_83 : decode cX9_sign 83 = .ok (.iaload, 1) := by decide +kernel
theorem dX9_sign_84 : decode cX9_sign 84 = .ok (.if_icmp .ge 80, 3) := by decide +kernel
theorem dX9_sign_87 : decode cX9_sign 87 = .ok (.aload_n 0, 1) := by decide +kernel
theorem dX9_sign_88 : decode cX9_sign 88 = .ok (.getfield 75, 3) := by decide +kernel
theorem dX9_sign_91 : decode cX9_sign 91 = .ok (.sipush 800, 3) := by decide +kernel
theorem dX9_sign_94 : decode cX9_sign 94 = .ok (.iload_n 3, 1) := by decide +kernel
theorem dX9_sign_95 : decode cX9_sign 95 = .ok (.imul, 1) := by decide +kernel
theorem dX9_sign_96 : decode cX9_sign 96 = .ok (.iload 5, 2) := by decide +kernel
theorem dX9_sign_98 : decode cX9_sign 98 = .ok (.iadd, 1) := by decide +kernel
theorem dX9_sign_99 : decode cX9_sign 99 = .ok (.iaload, 1) := by decide +kernel
theorem dX9_sign_100 : decode cX9_sign 100 = .ok (.istore 6, 2) := by decide +kernel
theorem dX9_sign_102 : decode cX9_sign 102 = .ok (.iload_n 2, 1) := by decide +kernel
theorem dX9_sign_103 : decode cX9_sign 103 = .ok (.ifCond .eq 13, 3) := by decide +kernel
theorem dX9_sign_106 : decode cX9_sign 106 = .ok (.aload_n 0, 1) := by decide +kernel
theorem dX9_sign_107 : decode cX9_sign 107 = .ok (.iload_n 1, 1) := by decide +kernel
theorem dX9_sign_108 : decode cX9_sign 108 = .ok (.iload 6, 2) := by decide +kernel
theorem dX9_sign_110 : decode cX9_sign 110 = .ok (.invokevirtual 146, 3) := by decide +kernel
theorem dX9_sign_113 : decode cX9_sign 113 = .ok (.goto 27, 3) := by decide +kernel
theorem dX9_sign_116 : decode cX9_sign 116 = .ok (.aload_n 0, 1) := by decide +kernel
theorem dX9_sign_117 : decode cX9_sign 117 = .ok (.getfield 103, 3) := by decide +kernel
theorem dX9_sign_120 : decode cX9_sign 120 = .ok (.iload_n 1, 1) := by decide +kernel
theorem dX9_sign_121 : decode cX9_sign 121 = .ok (.iaload, 1) := by decide +kernel
theorem dX9_sign_122 : decode cX9_sign 122 = .ok (.i2l, 1) := by decide +kernel
theorem dX9_sign_123 : decode cX9_sign 123 = .ok (.iload 6, 2) := by decide +kernel
theorem dX9_sign_125 : decode cX9_sign 125 = .ok (.i2l, 1) := by decide +kernel
theorem dX9_sign_126 : decode cX9_sign 126 = .ok (.lmul, 1) := by decide +kernel
theorem dX9_sign_127 : decode cX9_sign 127 = .ok (.aload_n 0, 1) := by decide +kernel
theorem dX9_sign_128 : decode cX9_sign 128 = .ok (.getfield 106, 3) := by decide +kernel
theorem dX9_sign_131 : decode cX9_sign 131 = .ok (.iload_n 1, 1) := by decide +kernel
theorem dX9_sign_132 : decode cX9_sign 132 = .ok (.iaload, 1) := by decide +kernel
theorem dX9_sign_133 : decode cX9_sign 133 = .ok (.i2l, 1) := by decide +kernel
theorem dX9_sign_134 : decode cX9_sign 134 = .ok (.ladd, 1) := by decide +kernel
theorem dX9_sign_135 : decode cX9_sign 135 = .ok (.ldc2_w 144, 3) := by decide +kernel
theorem dX9_sign_138 : decode cX9_sign 138 = .ok (.lrem, 1) := by decide +kernel
theorem dX9_sign_139 : decode cX9_sign 139 = .ok (.l2i, 1) := by decide +kernel
theorem dX9_sign_140 : decode cX9_sign 140 = .ok (.istore 7, 2) := by decide +kernel
theorem dX9_sign_142 : decode cX9_sign 142 = .ok (.iload 7, 2) := by decide +kernel
theorem dX9_sign_144 : decode cX9_sign 144 = .ok (.iload 4, 2) := by decide +kernel
theorem dX9_sign_146 : decode cX9_sign 146 = .ok (.if_icmp .ge 8, 3) := by decide +kernel
theorem dX9_sign_149 : decode cX9_sign 149 = .ok (.iload 7, 2) := by decide +kernel
theorem dX9_sign_151 : decode cX9_sign 151 = .ok (.goto 5, 3) := by decide +kernel
theorem dX9_sign_154 : decode cX9_sign 154 = .ok (.iload 4, 2) := by decide +kernel
theorem dX9_sign_156 : decode cX9_sign 156 = .ok (.istore 4, 2) := by decide +kernel
theorem dX9_sign_158 : decode cX9_sign 158 = .ok (.iinc 5 1, 3) := by decide +kernel
theorem dX9_sign_161 : decode cX9_sign 161 = .ok (.goto (-85), 3) := by decide +kernel
theorem dX9_sign_164 : decode cX9_sign 164 = .ok (.aload_n 0, 1) := by decide +kernel
theorem dX9_sign_165 : decode cX9_sign 165 = .ok (.getfield 118, 3) := by decide +kernel
theorem dX9_sign_168 : decode cX9_sign 168 = .ok (.bipush 64, 2) := by decide +kernel
theorem dX9_sign_170 : decode cX9_sign 170 = .ok (.iload_n 3, 1) := by decide +kernel
theorem dX9_sign_171 : decode cX9_sign 171 = .ok (.imul, 1) := by decide +kernel
theorem dX9_sign_172 : decode cX9_sign 172 = .ok (.iload_n 1, 1) := by decide +kernel
theorem dX9_sign_173 : decode cX9_sign 173 = .ok (.iadd, 1) := by decide +kernel
theorem dX9_sign_174 : decode cX9_sign 174 = .ok (.iload 4, 2) := by decide +kernel
theorem dX9_sign_176 : decode cX9_sign 176 = .ok (.iastore, 1) := by decide +kernel
theorem dX9_sign_177 : decode cX9_sign 177 = .ok (.iinc 3 1, 3) := by decide +kernel
theorem dX9_sign_180 : decode cX9_sign 180 = .ok (.goto (-119), 3) := by decide +kernel
theorem dX9_sign_183 : decode cX9_sign 183 = .ok (.iinc 1 1, 3) := by decide +kernel
theorem dX9_sign_186 : decode cX9_sign 186 = .ok (.goto (-171), 3) := by decide +kernel
theorem dX9_sign_189 : decode cX9_sign 189 = .ok (.return_, 1) := by decide +kernel
theorem dX9_bands_0 : decode cX9_bands 0 = .ok (.aload_n 0, 1) := by decide +kernel
theorem dX9_bands_1 : decode cX9_bands 1 = .ok (.iconst 0, 1) := by decide +kernel
theorem dX9_bands_2 : decode cX9_bands 2 = .ok (.putfield 1, 3) := by decide +kernel
theorem dX9_bands_5 : decode cX9_bands 5 = .ok (.iload_n 1, 1) := by decide +kernel
theorem dX9_bands_6 : decode cX9_bands 6 = .ok (.iconst 1, 1) := by decide +kernel
theorem dX9_bands_7 : decode cX9_bands 7 = .ok (.if_icmp .lt 28, 3) := by decide +kernel
theorem dX9_bands_10 : decode cX9_bands 10 = .ok (.iload_n 2, 1) := by decide +kernel
theorem dX9_bands_11 : decode cX9_bands 11 = .ok (.iconst 1, 1) := by decide +kernel
theorem dX9_bands_12 : decode cX9_bands 12 = .ok (.if_icmp .lt 23, 3) := by decide +kernel
theorem dX9_bands_15 : decode cX9_bands 15 = .ok (.iload_n 1, 1) := by decide +kernel
theorem dX9_bands_16 : decode cX9_bands 16 = .ok (.bipush 64, 2) := by decide +kernel
theorem dX9_bands_18 : decode cX9_bands 18 = .ok (.if_icmp .gt 17, 3) := by decide +kernel
theorem dX9_bands_21 : decode cX9_bands 21 = .ok (.iload_n 2, 1) := by decide +kernel
theorem dX9_bands_22 : decode cX9_bands 22 = .ok (.bipush 64, 2) := by decide +kernel
theorem dX9_bands_24 : decode cX9_bands 24 = .ok (.if_icmp .gt 11, 3) := by decide +kernel
theorem dX9_bands_27 : decode cX9_bands 27 = .ok (.iload_n 1, 1) := by decide +kernel
theorem dX9_bands_28 : decode cX9_bands 28 = .ok (.iload_n 2, 1) := by decide +kernel
theorem dX9_bands_29 : decode cX9_bands 29 = .ok (.imul, 1) := by decide +kernel
theorem dX9_bands_30 : decode cX9_bands 30 = .ok (.bipush 64, 2) := by decide +kernel
theorem dX9_bands_32 : decode cX9_bands 32 = .ok (.if_icmp .le 5, 3) := by decide +kernel
theorem dX9_bands_35 : decode cX9_bands 35 = .ok (.iconst 0, 1) := by decide +kernel
theorem dX9_bands_36 : decode cX9_bands 36 = .ok (.ireturn, 1) := by decide +kernel
theorem dX9_bands_37 : decode cX9_bands 37 = .ok (.aload_n 0, 1) := by decide +kernel
theorem dX9_bands_38 : decode cX9_bands 38 = .ok (.iload_n 1, 1) := by decide +kernel
theorem dX9_bands_39 : decode cX9_bands 39 = .ok (.putfield 121, 3) := by decide +kernel
theorem dX9_bands_42 : decode cX9_bands 42 = .ok (.aload_n 0, 1) := by decide +kernel
theorem dX9_bands_43 : decode cX9_bands 43 = .ok (.iload_n 2, 1) := by decide +kernel
theorem dX9_bands_44 : decode cX9_bands 44 = .ok (.putfield 124, 3) := by decide +kernel
theorem dX9_bands_47 : decode cX9_bands 47 = .ok (.iconst 1, 1) := by decide +kernel
theorem dX9_bands_48 : decode cX9_bands 48 = .ok (.ireturn, 1) := by decide +kernel
theorem dX9_threshold_0 : decode cX9_threshold 0 = .ok (.aload_n 0, 1) := by decide +kernel
theorem dX9_threshold_1 : decode cX9_threshold 1 = .ok (.iconst 0, 1) := by decide +kernel
theorem dX9_threshold_2 : decode cX9_threshold 2 = .ok (.putfield 1, 3) := by decide +kernel
theorem dX9_threshold_5 : decode cX9_threshold 5 = .ok (.iload_n 1, 1) := by decide +kernel
theorem dX9_threshold_6 : decode cX9_threshold 6 = .ok (.ifCond .lt 20, 3) := by decide +kernel
theorem dX9_threshold_9 : decode cX9_threshold 9 = .ok (.iload_n 1, 1) := by decide +kernel
theorem dX9_threshold_10 : decode cX9_threshold 10 = .ok (.iload_n 2, 1) := by decide +kernel
theorem dX9_threshold_11 : decode cX9_threshold 11 = .ok (.if_icmp .gt 15, 3) := by decide +kernel
theorem dX9_threshold_14 : decode cX9_threshold 14 = .ok (.iload_n 2, 1) := by decide +kernel
theorem dX9_threshold_15 : decode cX9_threshold 15 = .ok (.iconst 1, 1) := by decide +kernel
theorem dX9_threshold_16 : decode cX9_threshold 16 = .ok (.if_icmp .lt 10, 3) := by decide +kernel
theorem dX9_threshold_19 : decode cX9_threshold 19 = .ok (.iload_n 2, 1) := by decide +kernel
theorem dX9_threshold_20 : decode cX9_threshold 20 = .ok (.sipush 10000, 3) := by decide +kernel
theorem dX9_threshold_23 : decode cX9_threshold 23 = .ok (.if_icmp .le 5, 3) := by decide +kernel
theorem dX9_threshold_26 : decode cX9_threshold 26 = .ok (.iconst 0, 1) := by decide +kernel
theorem dX9_threshold_27 : decode cX9_threshold 27 = .ok (.ireturn, 1) := by decide +kernel
theorem dX9_threshold_28 : decode cX9_threshold 28 = .ok (.aload_n 0, 1) := by decide +kernel
theorem dX9_threshold_29 : decode cX9_threshold 29 = .ok (.iload_n 1, 1) := by decide +kernel
theorem dX9_threshold_30 : decode cX9_threshold 30 = .ok (.putfield 127, 3) := by decide +kernel
theorem dX9_threshold_33 : decode cX9_threshold 33 = .ok (.aload_n 0, 1) := by decide +kernel
theorem dX9_threshold_34 : decode cX9_threshold 34 = .ok (.iload_n 2, 1) := by decide +kernel
theorem dX9_threshold_35 : decode cX9_threshold 35 = .ok (.putfield 130, 3) := by decide +kernel
theorem dX9_threshold_38 : decode cX9_threshold 38 = .ok (.iconst 1, 1) := by decide +kernel
theorem dX9_threshold_39 : decode cX9_threshold 39 = .ok (.ireturn, 1) := by decide +kernel
theorem dX9_common_0 : decode cX9_common 0 = .ok (.iconst 0, 1) := by decide +kernel
theorem dX9_common_1 : decode cX9_common 1 = .ok (.istore_n 3, 1) := by decide +kernel
theorem dX9_common_2 : decode cX9_common 2 = .ok (.iconst 0, 1) := by decide +kernel
theorem dX9_common_3 : decode cX9_common 3 = .ok (.istore 4, 2) := by decide +kernel
theorem dX9_common_5 : decode cX9_common 5 = .ok (.iconst 0, 1) := by decide +kernel
theorem dX9_common_6 : decode cX9_common 6 = .ok (.istore 5, 2) := by decide +kernel
theorem dX9_common_8 : decode cX9_common 8 = .ok (.iload 5, 2) := by decide +kernel
theorem dX9_common_10 : decode cX9_common 10 = .ok (.aload_n 0, 1) := by decide +kernel
theorem dX9_common_11 : decode cX9_common 11 = .ok (.getfield 78, 3) := by decide +kernel
theorem dX9_common_14 : decode cX9_common 14 = .ok (.iload_n 1, 1) := by decide +kernel
theorem dX9_common_15 : decode cX9_common 15 = .ok (.iaload, 1) := by decide +kernel
theorem dX9_common_16 : decode cX9_common 16 = .ok (.if_icmp .ge 103, 3) := by decide +kernel
theorem dX9_common_19 : decode cX9_common 19 = .ok (.iload 4, 2) := by decide +kernel
theorem dX9_common_21 : decode cX9_common 21 = .ok (.aload_n 0, 1) := by decide +kernel
theorem dX9_common_22 : decode cX9_common 22 = .ok (.getfield 78, 3) := by decide +kernel
theorem dX9_common_25 : decode cX9_common 25 = .ok (.iload_n 2, 1) := by decide +kernel
theorem dX9_common_26 : decode cX9_common 26 = .ok (.iaload, 1) := by decide +kernel
theorem dX9_common_27 : decode cX9_common 27 = .ok (.if_icmp .ge 38, 3) := by decide +kernel
theorem dX9_common_30 : decode cX9_common 30 = .ok (.aload_n 0, 1) := by decide +kernel
theorem dX9_common_31 : decode cX9_common 31 = .ok (.getfield 75, 3) := by decide +kernel
theorem dX9_common_34 : decode cX9_common 34 = .ok (.sipush 800, 3) := by decide +kernel
theorem dX9_common_37 : decode cX9_common 37 = .ok (.iload_n 2, 1) := by decide +kernel
theorem dX9_common_38 : decode cX9_common 38 = .ok (.imul, 1) := by decide +kernel
theorem dX9_common_39 : decode cX9_common 39 = .ok (.iload 4, 2) := by decide +kernel
theorem dX9_common_41 : decode cX9_common 41 = .ok (.iadd, 1) := by decide +kernel
theorem dX9_common_42 : decode cX9_common 42 = .ok (.iaload, 1) := by decide +kernel
theorem dX9_common_43 : decode cX9_common 43 = .ok (.aload_n 0, 1) := by decide +kernel
theorem dX9_common_44 : decode cX9_common 44 = .ok (.getfield 75, 3) := by decide +kernel
theorem dX9_common_47 : decode cX9_common 47 = .ok (.sipush 800, 3) := by decide +kernel
theorem dX9_common_50 : decode cX9_common 50 = .ok (.iload_n 1, 1) := by decide +kernel
theorem dX9_common_51 : decode cX9_common 51 = .ok (.imul, 1) := by decide +kernel
theorem dX9_common_52 : decode cX9_common 52 = .ok (.iload 5, 2) := by decide +kernel
theorem dX9_common_54 : decode cX9_common 54 = .ok (.iadd, 1) := by decide +kernel
theorem dX9_common_55 : decode cX9_common 55 = .ok (.iaload, 1) := by decide +kernel
theorem dX9_common_56 : decode cX9_common 56 = .ok (.if_icmp .ge 9, 3) := by decide +kernel
theorem dX9_common_59 : decode cX9_common 59 = .ok (.iinc 4 1, 3) := by decide +kernel
theorem dX9_common_62 : decode cX9_common 62 = .ok (.goto (-43), 3) := by decide +kernel
theorem dX9_common_65 : decode cX9_common 65 = .ok (.iload_n 3, 1) := by decide +kernel
theorem dX9_common_66 : decode cX9_common 66 = .ok (.iload 4, 2) := by decide +kernel
theorem dX9_common_68 : decode cX9_common 68 = .ok (.aload_n 0, 1) := by decide +kernel
theorem dX9_common_69 : decode cX9_common 69 = .ok (.getfield 78, 3) := by decide +kernel
theorem dX9_common_72 : decode cX9_common 72 = .ok (.iload_n 2, 1) := by decide +kernel
theorem dX9_common_73 : decode cX9_common 73 = .ok (.iaload, 1) := by decide +kernel
theorem dX9_common_74 : decode cX9_common 74 = .ok (.if_icmp .ge 36, 3) := by decide +kernel
theorem dX9_common_77 : decode cX9_common 77 = .ok (.aload_n 0, 1) := by decide +kernel
theorem dX9_common_78 : decode cX9_common 78 = .ok (.getfield 75, 3) := by decide +kernel
theorem dX9_common_81 : decode cX9_common 81 = .ok (.sipush 800, 3) := by decide +kernel
theorem dX9_common_84 : decode cX9_common 84 = .ok (.iload_n 2, 1) := by decide +kernel
theorem dX9_common_85 : decode cX9_common 85 = .ok (.imul, 1) := by decide +kernel
theorem dX9_common_86 : decode cX9_common 86 = .ok (.iload 4, 2) := by decide +kernel
theorem dX9_common_88 : decode cX9_common 88 = .ok (.iadd, 1) := by decide +kernel
theorem dX9_common_89 : decode cX9_common 89 = .ok (.iaload, 1) := by decide +kernel
theorem dX9_common_90 : decode cX9_common 90 = .ok (.aload_n 0, 1) := by decide +kernel
theorem dX9_common_91 : decode cX9_common 91 = .ok (.getfield 75, 3) := by decide +kernel
theorem dX9_common_94 : decode cX9_common 94 = .ok (.sipush 800, 3) := by decide +kernel
theorem dX9_common_97 : decode cX9_common 97 = .ok (.iload_n 1, 1) := by decide +kernel
theorem dX9_common_98 : decode cX9_common 98 = .ok (.imul, 1) := by decide +kernel
theorem dX9_common_99 : decode cX9_common 99 = .ok (.iload 5, 2) := by decide +kernel
theorem dX9_common_101 : decode cX9_common 101 = .ok (.iadd, 1) := by decide +kernel
theorem dX9_common_102 : decode cX9_common 102 = .ok (.iaload, 1) := by decide +kernel
theorem dX9_common_103 : decode cX9_common 103 = .ok (.if_icmp .ne 7, 3) := by decide +kernel
theorem dX9_common_106 : decode cX9_common 106 = .ok (.iconst 1, 1) := by decide +kernel
theorem dX9_common_107 : decode cX9_common 107 = .ok (.goto 4, 3) := by decide +kernel
theorem dX9_common_110 : decode cX9_common 110 = .ok (.iconst 0, 1) := by decide +kernel
theorem dX9_common_111 : decode cX9_common 111 = .ok (.iadd, 1) := by decide +kernel
theorem dX9_common_112 : decode cX9_common 112 = .ok (.istore_n 3, 1) := by decide +kernel
theorem dX9_common_113 : decode cX9_common 113 = .ok (.iinc 5 1, 3) := by decide +kernel
theorem dX9_common_116 : decode cX9_common 116 = .ok (.goto (-108), 3) := by decide +kernel
theorem dX9_common_119 : decode cX9_common 119 = .ok (.iload_n 3, 1) := by decide +kernel
theorem dX9_common_120 : decode cX9_common 120 = .ok (.ireturn, 1) := by decide +kernel
theorem dX9_band_0 : decode cX9_band 0 = .ok (.aload_n 0, 1) := by decide +kernel
theorem dX9_band_1 : decode cX9_band 1 = .ok (.getfield 78, 3) := by decide +kernel
theorem dX9_band_4 : decode cX9_band 4 = .ok (.iload_n 1, 1) := by decide +kernel
theorem dX9_band_5 : decode cX9_band 5 = .ok (.iaload, 1) := by decide +kernel
theorem dX9_band_6 : decode cX9_band 6 = .ok (.ifCond .eq 12, 3) := by decide +kernel
theorem dX9_band_9 : decode cX9_band 9 = .ok (.aload_n 0, 1) := by decide +kernel
theorem dX9_band_10 : decode cX9_band 10 = .ok (.getfield 78, 3) := by decide +kernel
theorem dX9_band_13 : decode cX9_band 13 = .ok (.iload_n 2, 1) := by decide +kernel
theorem dX9_band_14 : decode cX9_band 14 = .ok (.iaload, 1) := by decide +kernel
theorem dX9_band_15 : decode cX9_band 15 = .ok (.ifCond .ne 5, 3) := by decide +kernel
theorem dX9_band_18 : decode cX9_band 18 = .ok (.iconst (-1), 1) := by decide +kernel
theorem dX9_band_19 : decode cX9_band 19 = .ok (.ireturn, 1) := by decide +kernel
theorem dX9_band_20 : decode cX9_band 20 = .ok (.aload_n 0, 1) := by decide +kernel
theorem dX9_band_21 : decode cX9_band 21 = .ok (.invokevirtual 150, 3) := by decide +kernel
theorem dX9_band_24 : decode cX9_band 24 = .ok (.iconst 0, 1) := by decide +kernel
theorem dX9_band_25 : decode cX9_band 25 = .ok (.istore_n 3, 1) := by decide +kernel
theorem dX9_band_26 : decode cX9_band 26 = .ok (.iload_n 3, 1) := by decide +kernel
theorem dX9_band_27 : decode cX9_band 27 = .ok (.aload_n 0, 1) := by decide +kernel
theorem dX9_band_28 : decode cX9_band 28 = .ok (.getfield 121, 3) := by decide +kernel
theorem dX9_band_31 : decode cX9_band 31 = .ok (.if_icmp .ge 88, 3) := by decide +kernel
theorem dX9_band_34 : decode cX9_band 34 = .ok (.iconst 1, 1) := by decide +kernel
theorem dX9_band_35 : decode cX9_band 35 = .ok (.istore 4, 2) := by decide +kernel
theorem dX9_band_37 : decode cX9_band 37 = .ok (.iload_n 3, 1) := by decide +kernel
theorem dX9_band_38 : decode cX9_band 38 = .ok (.aload_n 0, 1) := by decide +kernel
theorem dX9_band_39 : decode cX9_band 39 = .ok (.getfield 124, 3) := by decide +kernel
theorem dX9_band_42 : decode cX9_band 42 = .ok (.imul, 1) := by decide +kernel
theorem dX9_band_43 : decode cX9_band 43 = .ok (.istore 5, 2) := by decide +kernel
theorem dX9_band_45 : decode cX9_band 45 = .ok (.iload 5, 2) := by decide +kernel
theorem dX9_band_47 : decode cX9_band 47 = .ok (.iload_n 3, 1) := by decide +kernel
theorem dX9_band_48 : decode cX9_band 48 = .ok (.aload_n 0, 1) := by decide +kernel
theorem dX9_band_49 : decode cX9_band 49 = .ok (.getfield 124, 3) := by decide +kernel
theorem dX9_band_52 : decode cX9_band 52 = .ok (.imul, 1) := by decide +kernel
theorem dX9_band_53 : decode cX9_band 53 = .ok (.aload_n 0, 1) := by decide +kernel
theorem dX9_band_54 : decode cX9_band 54 = .ok (.getfield 124, 3) := by decide +kernel
theorem dX9_band_57 : decode cX9_band 57 = .ok (.iadd, 1) := by decide +kernel
theorem dX9_band_58 : decode cX9_band 58 = .ok (.if_icmp .ge 48, 3) := by decide +kernel
theorem dX9_band_61 : decode cX9_band 61 = .ok (.iload 4, 2) := by decide +kernel
theorem dX9_band_63 : decode cX9_band 63 = .ok (.ifCond .eq 43, 3) := by decide +kernel
theorem dX9_band_66 : decode cX9_band 66 = .ok (.aload_n 0, 1) := by decide +kernel
theorem dX9_band_67 : decode cX9_band 67 = .ok (.getfield 118, 3) := by decide +kernel
theorem dX9_band_70 : decode cX9_band 70 = .ok (.bipush 64, 2) := by decide +kernel
theorem dX9_band_72 : decode cX9_band 72 = .ok (.iload_n 1, 1) := by decide +kernel
theorem dX9_band_73 : decode cX9_band 73 = .ok (.imul, 1) := by decide +kernel
theorem dX9_band_74 : decode cX9_band 74 = .ok (.iload 5, 2) := by decide +kernel
theorem dX9_band_76 : decode cX9_band 76 = .ok (.iadd, 1) := by decide +kernel
theorem dX9_band_77 : decode cX9_band 77 = .ok (.iaload, 1) := by decide +kernel
theorem dX9_band_78 : decode cX9_band 78 = .ok (.aload_n 0, 1) := by decide +kernel
theorem dX9_band_79 : decode cX9_band 79 = .ok (.getfield 118, 3) := by decide +kernel
theorem dX9_band_82 : decode cX9_band 82 = .ok (.bipush 64, 2) := by decide +kernel
theorem dX9_band_84 : decode cX9_band 84 = .ok (.iload_n 2, 1) := by decide +kernel
theorem dX9_band_85 : decode cX9_band 85 = .ok (.imul, 1) := by decide +kernel
theorem dX9_band_86 : decode cX9_band 86 = .ok (.iload 5, 2) := by decide +kernel
theorem dX9_band_88 : decode cX9_band 88 = .ok (.iadd, 1) := by decide +kernel
theorem dX9_band_89 : decode cX9_band 89 = .ok (.iaload, 1) := by decide +kernel
theorem dX9_band_90 : decode cX9_band 90 = .ok (.if_icmp .ne 7, 3) := by decide +kernel
theorem dX9_band_93 : decode cX9_band 93 = .ok (.iconst 1, 1) := by decide +kernel
theorem dX9_band_94 : decode cX9_band 94 = .ok (.goto 4, 3) := by decide +kernel
theorem dX9_band_97 : decode cX9_band 97 = .ok (.iconst 0, 1) := by decide +kernel
theorem dX9_band_98 : decode cX9_band 98 = .ok (.istore 4, 2) := by decide +kernel
theorem dX9_band_100 : decode cX9_band 100 = .ok (.iinc 5 1, 3) := by decide +kernel
theorem dX9_band_103 : decode cX9_band 103 = .ok (.goto (-58), 3) := by decide +kernel
theorem dX9_band_106 : decode cX9_band 106 = .ok (.iload 4, 2) := by decide +kernel
theorem dX9_band_108 : decode cX9_band 108 = .ok (.ifCond .eq 5, 3) := by decide +kernel
theorem dX9_band_111 : decode cX9_band 111 = .ok (.iload_n 3, 1) := by decide +kernel
theorem dX9_band_112 : decode cX9_band 112 = .ok (.ireturn, 1) := by decide +kernel
theorem dX9_band_113 : decode cX9_band 113 = .ok (.iinc 3 1, 3) := by decide +kernel
theorem dX9_band_116 : decode cX9_band 116 = .ok (.goto (-90), 3) := by decide +kernel
theorem dX9_band_119 : decode cX9_band 119 = .ok (.iconst (-1), 1) := by decide +kernel
theorem dX9_band_120 : decode cX9_band 120 = .ok (.ireturn, 1) := by decide +kernel
theorem dX9_areTwins_0 : decode cX9_areTwins 0 = .ok (.aload_n 0, 1) := by decide +kernel
theorem dX9_areTwins_1 : decode cX9_areTwins 1 = .ok (.iload_n 1, 1) := by decide +kernel
theorem dX9_areTwins_2 : decode cX9_areTwins 2 = .ok (.iload_n 2, 1) := by decide +kernel
theorem dX9_areTwins_3 : decode cX9_areTwins 3 = .ok (.invokevirtual 153, 3) := by decide +kernel
theorem dX9_areTwins_6 : decode cX9_areTwins 6 = .ok (.ifCond .ge 5, 3) := by decide +kernel
theorem dX9_areTwins_9 : decode cX9_areTwins 9 = .ok (.iconst 0, 1) := by decide +kernel
theorem dX9_areTwins_10 : decode cX9_areTwins 10 = .ok (.ireturn, 1) := by decide +kernel
theorem dX9_areTwins_11 : decode cX9_areTwins 11 = .ok (.aload_n 0, 1) := by decide +kernel
theorem dX9_areTwins_12 : decode cX9_areTwins 12 = .ok (.iload_n 1, 1) := by decide +kernel
theorem dX9_areTwins_13 : decode cX9_areTwins 13 = .ok (.iload_n 2, 1) := by decide +kernel
theorem dX9_areTwins_14 : decode cX9_areTwins 14 = .ok (.invokevirtual 156, 3) := by decide +kernel
theorem dX9_areTwins_17 : decode cX9_areTwins 17 = .ok (.i2l, 1) := by decide +kernel
theorem dX9_areTwins_18 : decode cX9_areTwins 18 = .ok (.lstore_n 3, 1) := by decide +kernel
theorem dX9_areTwins_19 : decode cX9_areTwins 19 = .ok (.lload_n 3, 1) := by decide +kernel
theorem dX9_areTwins_20 : decode cX9_areTwins 20 = .ok (.aload_n 0, 1) := by decide +kernel
theorem dX9_areTwins_21 : decode cX9_areTwins 21 = .ok (.getfield 130, 3) := by decide +kernel
theorem dX9_areTwins_24 : decode cX9_areTwins 24 = .ok (.i2l, 1) := by decide +kernel
theorem dX9_areTwins_25 : decode cX9_areTwins 25 = .ok (.lmul, 1) := by decide +kernel
theorem dX9_areTwins_26 : decode cX9_areTwins 26 = .ok (.aload_n 0, 1) := by decide +kernel
theorem dX9_areTwins_27 : decode cX9_areTwins 27 = .ok (.getfield 78, 3) := by decide +kernel
theorem dX9_areTwins_30 : decode cX9_areTwins 30 = .ok (.iload_n 1, 1) := by decide +kernel
theorem dX9_areTwins_31 : decode cX9_areTwins 31 = .ok (.iaload, 1) := by decide +kernel
theorem dX9_areTwins_32 : decode cX9_areTwins 32 = .ok (.aload_n 0, 1) := by decide +kernel
theorem dX9_areTwins_33 : decode cX9_areTwins 33 = .ok (.getfield 78, 3) := by decide +kernel
theorem dX9_areTwins_36 : decode cX9_areTwins 36 = .ok (.iload_n 2, 1) := by decide +kernel
theorem dX9_areTwins_37 : decode cX9_areTwins 37 = .ok (.iaload, 1) := by decide +kernel
theorem dX9_areTwins_38 : decode cX9_areTwins 38 = .ok (.iadd, 1) := by decide +kernel
theorem dX9_areTwins_39 : decode cX9_areTwins 39 = .ok (.i2l, 1) := by decide +kernel
theorem dX9_areTwins_40 : decode cX9_areTwins 40 = .ok (.lload_n 3, 1) := by decide +kernel
theorem dX9_areTwins_41 : decode cX9_areTwins 41 = .ok (.lsub, 1) := by decide +kernel
theorem dX9_areTwins_42 : decode cX9_areTwins 42 = .ok (.aload_n 0, 1) := by decide +kernel
theorem dX9_areTwins_43 : decode cX9_areTwins 43 = .ok (.getfield 127, 3) := by decide +kernel
theorem dX9_areTwins_46 : decode cX9_areTwins 46 = .ok (.i2l, 1) := by decide +kernel
theorem dX9_areTwins_47 : decode cX9_areTwins 47 = .ok (.lmul, 1) := by decide +kernel
theorem dX9_areTwins_48 : decode cX9_areTwins 48 = .ok (.lcmp, 1) := by decide +kernel
theorem dX9_areTwins_49 : decode cX9_areTwins 49 = .ok (.ifCond .lt 7, 3) := by decide +kernel
theorem dX9_areTwins_52 : decode cX9_areTwins 52 = .ok (.iconst 1, 1) := by decide +kernel
theorem dX9_areTwins_53 : decode cX9_areTwins 53 = .ok (.goto 4, 3) := by decide +kernel
theorem dX9_areTwins_56 : decode cX9_areTwins 56 = .ok (.iconst 0, 1) := by decide +kernel
theorem dX9_areTwins_57 : decode cX9_areTwins 57 = .ok (.ireturn, 1) := by decide +kernel
theorem dX9_families_0 : decode cX9_families 0 = .ok (.iconst 0, 1) := by decide +kernel
theorem dX9_families_1 : decode cX9_families 1 = .ok (.istore_n 1, 1) := by decide +kernel
theorem dX9_families_2 : decode cX9_families 2 = .ok (.iload_n 1, 1) := by decide +kernel
theorem dX9_families_3 : decode cX9_families 3 = .ok (.aload_n 0, 1) := by decide +kernel
theorem dX9_families_4 : decode cX9_families 4 = .ok (.getfield 65, 3) := by decide +kernel
theorem dX9_families_7 : decode cX9_families 7 = .ok (.if_icmp .ge 16, 3) := by decide +kernel
theorem dX9_families_10 : decode cX9_families 10 = .ok (.aload_n 0, 1) := by decide +kernel
theorem dX9_families_11 : decode cX9_families 11 = .ok (.getfield 133, 3) := by decide +kernel
theorem dX9_families_14 : decode cX9_families 14 = .ok (.iload_n 1, 1) := by decide +kernel
theorem dX9_families_15 : decode cX9_families 15 = .ok (.iload_n 1, 1) := by decide +kernel
theorem dX9_families_16 : decode cX9_families 16 = .ok (.iastore, 1) := by decide +kernel
theorem dX9_families_17 : decode cX9_families 17 = .ok (.iinc 1 1, 3) := by decide +kernel
theorem dX9_families_20 : decode cX9_families 20 = .ok (.goto (-18), 3) := by decide +kernel
theorem dX9_families_23 : decode cX9_families 23 = .ok (.iconst 1, 1) := by decide +kernel
theorem dX9_families_24 : decode cX9_families 24 = .ok (.istore_n 1, 1) := by decide +kernel
theorem dX9_families_25 : decode cX9_families 25 = .ok (.iload_n 1, 1) := by decide +kernel
theorem dX9_families_26 : decode cX9_families 26 = .ok (.ifCond .eq 169, 3) := by decide +kernel
theorem dX9_families_29 : decode cX9_families 29 = .ok (.iconst 0, 1) := by decide +kernel
theorem dX9_families_30 : decode cX9_families 30 = .ok (.istore_n 1, 1) := by decide +kernel
theorem dX9_families_31 : decode cX9_families 31 = .ok (.iconst 0, 1) := by decide +kernel
theorem dX9_families_32 : decode cX9_families 32 = .ok (.istore_n 2, 1) := by decide +kernel
theorem dX9_families_33 : decode cX9_families 33 = .ok (.iload_n 2, 1) := by decide +kernel
theorem dX9_families_34 : decode cX9_families 34 = .ok (.aload_n 0, 1) := by decide +kernel
theorem dX9_families_35 : decode cX9_families 35 = .ok (.getfield 65, 3) := by decide +kernel
theorem dX9_families_38 : decode cX9_families 38 = .ok (.if_icmp .ge 154, 3) := by decide +kernel
theorem dX9_families_41 : decode cX9_families 41 = .ok (.iconst 0, 1) := by decide +kernel
theorem dX9_families_42 : decode cX9_families 42 = .ok (.istore_n 3, 1) := by decide +kernel
theorem dX9_families_43 : decode cX9_families 43 = .ok (.iload_n 3, 1) := by decide +kernel
theorem dX9_families_44 : decode cX9_families 44 = .ok (.iload_n 2, 1) := by decide +kernel
theorem dX9_families_45 : decode cX9_families 45 = .ok (.if_icmp .ge 141, 3) := by decide +kernel
theorem dX9_families_48 : decode cX9_families 48 = .ok (.aload_n 0, 1) := by decide +kernel
theorem dX9_families_49 : decode cX9_families 49 = .ok (.getfield 133, 3) := by decide +kernel
theorem dX9_families_52 : decode cX9_families 52 = .ok (.iload_n 2, 1) := by decide +kernel
theorem dX9_families_53 : decode cX9_families 53 = .ok (.iaload, 1) := by decide +kernel
theorem dX9_families_54 : decode cX9_families 54 = .ok (.aload_n 0, 1) := by decide +kernel
theorem dX9_families_55 : decode cX9_families 55 = .ok (.getfield 133, 3) := by decide +kernel
theorem dX9_families_58 : decode cX9_families 58 = .ok (.iload_n 3, 1) := by decide +kernel
theorem dX9_families_59 : decode cX9_families 59 = .ok (.iaload, 1) := by decide +kernel
theorem dX9_families_60 : decode cX9_families 60 = .ok (.if_icmp .eq 120, 3) := by decide +kernel
theorem dX9_families_63 : decode cX9_families 63 = .ok (.aload_n 0, 1) := by decide +kernel
theorem dX9_families_64 : decode cX9_families 64 = .ok (.iload_n 2, 1) := by decide +kernel
theorem dX9_families_65 : decode cX9_families 65 = .ok (.iload_n 3, 1) := by decide +kernel
theorem dX9_families_66 : decode cX9_families 66 = .ok (.invokevirtual 159, 3) := by decide +kernel
theorem dX9_families_69 : decode cX9_families 69 = .ok (.ifCond .ne 6, 3) := by decide +kernel
theorem dX9_families_72 : decode cX9_families 72 = .ok (.goto 108, 3) := by decide +kernel
theorem dX9_families_75 : decode cX9_families 75 = .ok (.aload_n 0, 1) := by decide +kernel
theorem dX9_families_76 : decode cX9_families 76 = .ok (.getfield 133, 3) := by decide +kernel
theorem dX9_families_79 : decode cX9_families 79 = .ok (.iload_n 2, 1) := by decide +kernel
theorem dX9_families_80 : decode cX9_families 80 = .ok (.iaload, 1) := by decide +kernel
theorem dX9_families_81 : decode cX9_families 81 = .ok (.aload_n 0, 1) := by decide +kernel
theorem dX9_families_82 : decode cX9_families 82 = .ok (.getfield 133, 3) := by decide +kernel
theorem dX9_families_85 : decode cX9_families 85 = .ok (.iload_n 3, 1) := by decide +kernel
theorem dX9_families_86 : decode cX9_families 86 = .ok (.iaload, 1) := by decide +kernel
theorem dX9_families_87 : decode cX9_families 87 = .ok (.if_icmp .ge 12, 3) := by decide +kernel
theorem dX9_families_90 : decode cX9_families 90 = .ok (.aload_n 0, 1) := by decide +kernel
theorem dX9_families_91 : decode cX9_families 91 = .ok (.getfield 133, 3) := by decide +kernel
theorem dX9_families_94 : decode cX9_families 94 = .ok (.iload_n 2, 1) := by decide +kernel
theorem dX9_families_95 : decode cX9_families 95 = .ok (.iaload, 1) := by decide +kernel
theorem dX9_families_96 : decode cX9_families 96 = .ok (.goto 9, 3) := by decide +kernel
theorem dX9_families_99 : decode cX9_families 99 = .ok (.aload_n 0, 1) := by decide +kernel
theorem dX9_families_100 : decode cX9_families 100 = .ok (.getfield 133, 3) := by decide +kernel
theorem dX9_families_103 : decode cX9_families 103 = .ok (.iload_n 3, 1) := by decide +kernel
theorem dX9_families_104 : decode cX9_families 104 = .ok (.iaload, 1) := by decide +kernel
theorem dX9_families_105 : decode cX9_families 105 = .ok (.istore 4, 2) := by decide +kernel
theorem dX9_families_107 : decode cX9_families 107 = .ok (.aload_n 0, 1) := by decide +kernel
theorem dX9_families_108 : decode cX9_families 108 = .ok (.getfield 133, 3) := by decide +kernel
theorem dX9_families_111 : decode cX9_families 111 = .ok (.iload_n 2, 1) := by decide +kernel
theorem dX9_families_112 : decode cX9_families 112 = .ok (.iaload, 1) := by decide +kernel
theorem dX9_families_113 : decode cX9_families 113 = .ok (.aload_n 0, 1) := by decide +kernel
theorem dX9_families_114 : decode cX9_families 114 = .ok (.getfield 133, 3) := by decide +kernel
theorem dX9_families_117 : decode cX9_families 117 = .ok (.iload_n 3, 1) := by decide +kernel
theorem dX9_families_118 : decode cX9_families 118 = .ok (.iaload, 1) := by decide +kernel
theorem dX9_families_119 : decode cX9_families 119 = .ok (.if_icmp .ge 12, 3) := by decide +kernel
theorem dX9_families_122 : decode cX9_families 122 = .ok (.aload_n 0, 1) := by decide +kernel
theorem dX9_families_123 : decode cX9_families 123 = .ok (.getfield 133, 3) := by decide +kernel
theorem dX9_families_126 : decode cX9_families 126 = .ok (.iload_n 3, 1) := by decide +kernel
theorem dX9_families_127 : decode cX9_families 127 = .ok (.iaload, 1) := by decide +kernel
theorem dX9_families_128 : decode cX9_families 128 = .ok (.goto 9, 3) := by decide +kernel
theorem dX9_families_131 : decode cX9_families 131 = .ok (.aload_n 0, 1) := by decide +kernel
theorem dX9_families_132 : decode cX9_families 132 = .ok (.getfield 133, 3) := by decide +kernel
theorem dX9_families_135 : decode cX9_families 135 = .ok (.iload_n 2, 1) := by decide +kernel
theorem dX9_families_136 : decode cX9_families 136 = .ok (.iaload, 1) := by decide +kernel
theorem dX9_families_137 : decode cX9_families 137 = .ok (.istore 5, 2) := by decide +kernel
theorem dX9_families_139 : decode cX9_families 139 = .ok (.iconst 0, 1) := by decide +kernel
theorem dX9_families_140 : decode cX9_families 140 = .ok (.istore 6, 2) := by decide +kernel
theorem dX9_families_142 : decode cX9_families 142 = .ok (.iload 6, 2) := by decide +kernel
theorem dX9_families_144 : decode cX9_families 144 = .ok (.aload_n 0, 1) := by decide +kernel
theorem dX9_families_145 : decode cX9_families 145 = .ok (.getfield 65, 3) := by decide +kernel
theorem dX9_families_148 : decode cX9_families 148 = .ok (.if_icmp .ge 30, 3) := by decide +kernel
theorem dX9_families_151 : decode cX9_families 151 = .ok (.aload_n 0, 1) := by decide +kernel
theorem dX9_families_152 : decode cX9_families 152 = .ok (.getfield 133, 3) := by decide +kernel
theorem dX9_families_155 : decode cX9_families 155 = .ok (.iload 6, 2) := by decide +kernel
theorem dX9_families_157 : decode cX9_families 157 = .ok (.iaload, 1) := by decide +kernel
theorem dX9_families_158 : decode cX9_families 158 = .ok (.iload 5, 2) := by decide +kernel
theorem dX9_families_160 : decode cX9_families 160 = .ok (.if_icmp .ne 12, 3) := by decide +kernel
theorem dX9_families_163 : decode cX9_families 163 = .ok (.aload_n 0, 1) := by decide +kernel
theorem dX9_families_164 : decode cX9_families 164 = .ok (.getfield 133, 3) := by decide +kernel
theorem dX9_families_167 : decode cX9_families 167 = .ok (.iload 6, 2) := by decide +kernel
theorem dX9_families_169 : decode cX9_families 169 = .ok (.iload 4, 2) := by decide +kernel
theorem dX9_families_171 : decode cX9_families 171 = .ok (.iastore, 1) := by decide +kernel
theorem dX9_families_172 : decode cX9_families 172 = .ok (.iinc 6 1, 3) := by decide +kernel
theorem dX9_families_175 : decode cX9_families 175 = .ok (.goto (-33), 3) := by decide +kernel
theorem dX9_families_178 : decode cX9_families 178 = .ok (.iconst 1, 1) := by decide +kernel
theorem dX9_families_179 : decode cX9_families 179 = .ok (.istore_n 1, 1) := by decide +kernel
theorem dX9_families_180 : decode cX9_families 180 = .ok (.iinc 3 1, 3) := by decide +kernel
theorem dX9_families_183 : decode cX9_families 183 = .ok (.goto (-140), 3) := by decide +kernel
theorem dX9_families_186 : decode cX9_families 186 = .ok (.iinc 2 1, 3) := by decide +kernel
theorem dX9_families_189 : decode cX9_families 189 = .ok (.goto (-156), 3) := by decide +kernel
theorem dX9_families_192 : decode cX9_families 192 = .ok (.goto (-167), 3) := by decide +kernel
theorem dX9_families_195 : decode cX9_families 195 = .ok (.return_, 1) := by decide +kernel
theorem dX9_inFamily_0 : decode cX9_inFamily 0 = .ok (.iconst 0, 1) := by decide +kernel
theorem dX9_inFamily_1 : decode cX9_inFamily 1 = .ok (.istore_n 2, 1) := by decide +kernel
theorem dX9_inFamily_2 : decode cX9_inFamily 2 = .ok (.iconst 0, 1) := by decide +kernel
theorem dX9_inFamily_3 : decode cX9_inFamily 3 = .ok (.istore_n 3, 1) := by decide +kernel
theorem dX9_inFamily_4 : decode cX9_inFamily 4 = .ok (.iload_n 3, 1) := by decide +kernel
theorem dX9_inFamily_5 : decode cX9_inFamily 5 = .ok (.aload_n 0, 1) := by decide +kernel
theorem dX9_inFamily_6 : decode cX9_inFamily 6 = .ok (.getfield 65, 3) := by decide +kernel
theorem dX9_inFamily_9 : decode cX9_inFamily 9 = .ok (.if_icmp .ge 27, 3) := by decide +kernel
theorem dX9_inFamily_12 : decode cX9_inFamily 12 = .ok (.iload_n 2, 1) := by decide +kernel
theorem dX9_inFamily_13 : decode cX9_inFamily 13 = .ok (.aload_n 0, 1) := by decide +kernel
theorem dX9_inFamily_14 : decode cX9_inFamily 14 = .ok (.getfield 133, 3) := by decide +kernel
theorem dX9_inFamily_17 : decode cX9_inFamily 17 = .ok (.iload_n 3, 1) := by decide +kernel
theorem dX9_inFamily_18 : decode cX9_inFamily 18 = .ok (.iaload, 1) := by decide +kernel
theorem dX9_inFamily_19 : decode cX9_inFamily 19 = .ok (.iload_n 1, 1) := by decide +kernel
theorem dX9_inFamily_20 : decode cX9_inFamily 20 = .ok (.if_icmp .ne 7, 3) := by decide +kernel
theorem dX9_inFamily_23 : decode cX9_inFamily 23 = .ok (.iconst 1, 1) := by decide +kernel
theorem dX9_inFamily_24 : decode cX9_inFamily 24 = .ok (.goto 4, 3) := by decide +kernel
theorem dX9_inFamily_27 : decode cX9_inFamily 27 = .ok (.iconst 0, 1) := by decide +kernel
theorem dX9_inFamily_28 : decode cX9_inFamily 28 = .ok (.iadd, 1) := by decide +kernel
theorem dX9_inFamily_29 : decode cX9_inFamily 29 = .ok (.istore_n 2, 1) := by decide +kernel
theorem dX9_inFamily_30 : decode cX9_inFamily 30 = .ok (.iinc 3 1, 3) := by decide +kernel
theorem dX9_inFamily_33 : decode cX9_inFamily 33 = .ok (.goto (-29), 3) := by decide +kernel
theorem dX9_inFamily_36 : decode cX9_inFamily 36 = .ok (.iload_n 2, 1) := by decide +kernel
theorem dX9_inFamily_37 : decode cX9_inFamily 37 = .ok (.ireturn, 1) := by decide +kernel
theorem dX9_document_0 : decode cX9_document 0 = .ok (.aload_n 0, 1) := by decide +kernel
theorem dX9_document_1 : decode cX9_document 1 = .ok (.iload_n 1, 1) := by decide +kernel
theorem dX9_document_2 : decode cX9_document 2 = .ok (.invokevirtual 88, 3) := by decide +kernel
theorem dX9_document_5 : decode cX9_document 5 = .ok (.istore_n 3, 1) := by decide +kernel
theorem dX9_document_6 : decode cX9_document 6 = .ok (.aload_n 0, 1) := by decide +kernel
theorem dX9_document_7 : decode cX9_document 7 = .ok (.iload_n 3, 1) := by decide +kernel
theorem dX9_document_8 : decode cX9_document 8 = .ok (.ifCond .lt 12, 3) := by decide +kernel
theorem dX9_document_11 : decode cX9_document 11 = .ok (.iload_n 2, 1) := by decide +kernel
theorem dX9_document_12 : decode cX9_document 12 = .ok (.ifCond .lt 8, 3) := by decide +kernel
theorem dX9_document_15 : decode cX9_document 15 = .ok (.iload_n 2, 1) := by decide +kernel
theorem dX9_document_16 : decode cX9_document 16 = .ok (.iconst 3, 1) := by decide +kernel
theorem dX9_document_17 : decode cX9_document 17 = .ok (.if_icmp .le 7, 3) := by decide +kernel
theorem dX9_document_20 : decode cX9_document 20 = .ok (.iconst 1, 1) := by decide +kernel
theorem dX9_document_21 : decode cX9_document 21 = .ok (.goto 4, 3) := by decide +kernel
theorem dX9_document_24 : decode cX9_document 24 = .ok (.iconst 0, 1) := by decide +kernel
theorem dX9_document_25 : decode cX9_document 25 = .ok (.invokevirtual 92, 3) := by decide +kernel
theorem dX9_document_28 : decode cX9_document 28 = .ok (.ifCond .eq 5, 3) := by decide +kernel
theorem dX9_document_31 : decode cX9_document 31 = .ok (.iconst 0, 1) := by decide +kernel
theorem dX9_document_32 : decode cX9_document 32 = .ok (.ireturn, 1) := by decide +kernel
theorem dX9_document_33 : decode cX9_document 33 = .ok (.iload_n 2, 1) := by decide +kernel
theorem dX9_document_34 : decode cX9_document 34 = .ok (.ifCond .ne 10, 3) := by decide +kernel
theorem dX9_document_37 : decode cX9_document 37 = .ok (.aload_n 0, 1) := by decide +kernel
theorem dX9_document_38 : decode cX9_document 38 = .ok (.getfield 78, 3) := by decide +kernel
theorem dX9_document_41 : decode cX9_document 41 = .ok (.iload_n 3, 1) := by decide +kernel
theorem dX9_document_42 : decode cX9_document 42 = .ok (.iaload, 1) := by decide +kernel
theorem dX9_document_43 : decode cX9_document 43 = .ok (.ireturn, 1) := by decide +kernel
theorem dX9_document_44 : decode cX9_document 44 = .ok (.iload_n 2, 1) := by decide +kernel
theorem dX9_document_45 : decode cX9_document 45 = .ok (.iconst 3, 1) := by decide +kernel
theorem dX9_document_46 : decode cX9_document 46 = .ok (.if_icmp .ne 53, 3) := by decide +kernel
theorem dX9_document_49 : decode cX9_document 49 = .ok (.iconst 0, 1) := by decide +kernel
theorem dX9_document_50 : decode cX9_document 50 = .ok (.istore 4, 2) := by decide +kernel
theorem dX9_document_52 : decode cX9_document 52 = .ok (.iconst 0, 1) := by decide +kernel
theorem dX9_document_53 : decode cX9_document 53 = .ok (.istore 5, 2) := by decide +kernel
theorem dX9_document_55 : decode cX9_document 55 = .ok (.iload 5, 2) := by decide +kernel
theorem dX9_document_57 : decode cX9_document 57 = .ok (.aload_n 0, 1) := by decide +kernel
theorem dX9_document_58 : decode cX9_document 58 = .ok (.getfield 65, 3) := by decide +kernel
theorem dX9_document_61 : decode cX9_document 61 = .ok (.if_icmp .ge 35, 3) := by decide +kernel
theorem dX9_document_64 : decode cX9_document 64 = .ok (.iload 4, 2) := by decide +kernel
theorem dX9_document_66 : decode cX9_document 66 = .ok (.iload 5, 2) := by decide +kernel
theorem dX9_document_68 : decode cX9_document 68 = .ok (.iload_n 3, 1) := by decide +kernel
theorem dX9_document_69 : decode cX9_document 69 = .ok (.if_icmp .eq 17, 3) := by decide +kernel
theorem dX9_document_72 : decode cX9_document 72 = .ok (.aload_n 0, 1) := by decide +kernel
theorem dX9_document_73 : decode cX9_document 73 = .ok (.iload_n 3, 1) := by decide +kernel
theorem dX9_document_74 : decode cX9_document 74 = .ok (.iload 5, 2) := by decide +kernel
theorem dX9_document_76 : decode cX9_document 76 = .ok (.invokevirtual 159, 3) := by decide +kernel
theorem dX9_document_79 : decode cX9_document 79 = .ok (.ifCond .eq 7, 3) := by decide +kernel
theorem dX9_document_82 : decode cX9_document 82 = .ok (.iconst 1, 1) := by decide +kernel
theorem dX9_document_83 : decode cX9_document 83 = .ok (.goto 4, 3) := by decide +kernel
theorem dX9_document_86 : decode cX9_document 86 = .ok (.iconst 0, 1) := by decide +kernel
theorem dX9_document_87 : decode cX9_document 87 = .ok (.iadd, 1) := by decide +kernel
theorem dX9_document_88 : decode cX9_document 88 = .ok (.istore 4, 2) := by decide +kernel
theorem dX9_document_90 : decode cX9_document 90 = .ok (.iinc 5 1, 3) := by decide +kernel
theorem dX9_document_93 : decode cX9_document 93 = .ok (.goto (-38), 3) := by decide +kernel
theorem dX9_document_96 : decode cX9_document 96 = .ok (.iload 4, 2) := by decide +kernel
theorem dX9_document_98 : decode cX9_document 98 = .ok (.ireturn, 1) := by decide +kernel
theorem dX9_document_99 : decode cX9_document 99 = .ok (.aload_n 0, 1) := by decide +kernel
theorem dX9_document_100 : decode cX9_document 100 = .ok (.invokevirtual 162, 3) := by decide +kernel
theorem dX9_document_103 : decode cX9_document 103 = .ok (.iload_n 2, 1) := by decide +kernel
theorem dX9_document_104 : decode cX9_document 104 = .ok (.iconst 1, 1) := by decide +kernel
theorem dX9_document_105 : decode cX9_document 105 = .ok (.if_icmp .ne 17, 3) := by decide +kernel
theorem dX9_document_108 : decode cX9_document 108 = .ok (.aload_n 0, 1) := by decide +kernel
theorem dX9_document_109 : decode cX9_document 109 = .ok (.getfield 81, 3) := by decide +kernel
theorem dX9_document_112 : decode cX9_document 112 = .ok (.aload_n 0, 1) := by decide +kernel
theorem dX9_document_113 : decode cX9_document 113 = .ok (.getfield 133, 3) := by decide +kernel
theorem dX9_document_116 : decode cX9_document 116 = .ok (.iload_n 3, 1) := by decide +kernel
theorem dX9_document_117 : decode cX9_document 117 = .ok (.iaload, 1) := by decide +kernel
theorem dX9_document_118 : decode cX9_document 118 = .ok (.iaload, 1) := by decide +kernel
theorem dX9_document_119 : decode cX9_document 119 = .ok (.goto 13, 3) := by decide +kernel
theorem dX9_document_122 : decode cX9_document 122 = .ok (.aload_n 0, 1) := by decide +kernel
theorem dX9_document_123 : decode cX9_document 123 = .ok (.aload_n 0, 1) := by decide +kernel
theorem dX9_document_124 : decode cX9_document 124 = .ok (.getfield 133, 3) := by decide +kernel
theorem dX9_document_127 : decode cX9_document 127 = .ok (.iload_n 3, 1) := by decide +kernel
theorem dX9_document_128 : decode cX9_document 128 = .ok (.iaload, 1) := by decide +kernel
theorem dX9_document_129 : decode cX9_document 129 = .ok (.invokevirtual 165, 3) := by decide +kernel
theorem dX9_document_132 : decode cX9_document 132 = .ok (.ireturn, 1) := by decide +kernel
theorem dX9_shingle_0 : decode cX9_shingle 0 = .ok (.aload_n 0, 1) := by decide +kernel
theorem dX9_shingle_1 : decode cX9_shingle 1 = .ok (.iload_n 1, 1) := by decide +kernel
theorem dX9_shingle_2 : decode cX9_shingle 2 = .ok (.invokevirtual 88, 3) := by decide +kernel
theorem dX9_shingle_5 : decode cX9_shingle 5 = .ok (.istore_n 3, 1) := by decide +kernel
theorem dX9_shingle_6 : decode cX9_shingle 6 = .ok (.aload_n 0, 1) := by decide +kernel
theorem dX9_shingle_7 : decode cX9_shingle 7 = .ok (.iload_n 3, 1) := by decide +kernel
theorem dX9_shingle_8 : decode cX9_shingle 8 = .ok (.ifCond .ge 7, 3) := by decide +kernel
theorem dX9_shingle_11 : decode cX9_shingle 11 = .ok (.iconst 1, 1) := by decide +kernel
theorem dX9_shingle_12 : decode cX9_shingle 12 = .ok (.goto 4, 3) := by decide +kernel
theorem dX9_shingle_15 : decode cX9_shingle 15 = .ok (.iconst 0, 1) := by decide +kernel
theorem dX9_shingle_16 : decode cX9_shingle 16 = .ok (.invokevirtual 92, 3) := by decide +kernel
theorem dX9_shingle_19 : decode cX9_shingle 19 = .ok (.ifCond .eq 5, 3) := by decide +kernel
theorem dX9_shingle_22 : decode cX9_shingle 22 = .ok (.iconst 0, 1) := by decide +kernel
theorem dX9_shingle_23 : decode cX9_shingle 23 = .ok (.ireturn, 1) := by decide +kernel
theorem dX9_shingle_24 : decode cX9_shingle 24 = .ok (.iload_n 2, 1) := by decide +kernel
theorem dX9_shingle_25 : decode cX9_shingle 25 = .ok (.ifCond .lt 13, 3) := by decide +kernel
theorem dX9_shingle_28 : decode cX9_shingle 28 = .ok (.iload_n 2, 1) := by decide +kernel
theorem dX9_shingle_29 : decode cX9_shingle 29 = .ok (.aload_n 0, 1) := by decide +kernel
theorem dX9_shingle_30 : decode cX9_shingle 30 = .ok (.getfield 78, 3) := by decide +kernel
theorem dX9_shingle_33 : decode cX9_shingle 33 = .ok (.iload_n 3, 1) := by decide +kernel
theorem dX9_shingle_34 : decode cX9_shingle 34 = .ok (.iaload, 1) := by decide +kernel
theorem dX9_shingle_35 : decode cX9_shingle 35 = .ok (.if_icmp .lt 7, 3) := by decide +kernel
theorem dX9_shingle_38 : decode cX9_shingle 38 = .ok (.iconst (-1), 1) := by decide +kernel
theorem dX9_shingle_39 : decode cX9_shingle 39 = .ok (.goto 15, 3) := by decide +kernel
theorem dX9_shingle_42 : decode cX9_shingle 42 = .ok (.aload_n 0, 1) := by decide +kernel
theorem dX9_shingle_43 : decode cX9_shingle 43 = .ok (.getfield 75, 3) := by decide +kernel
theorem dX9_shingle_46 : decode cX9_shingle 46 = .ok (.sipush 800, 3) := by decide +kernel
theorem dX9_shingle_49 : decode cX9_shingle 49 = .ok (.iload_n 3, 1) := by decide +kernel
theorem dX9_shingle_50 : decode cX9_shingle 50 = .ok (.imul, 1) := by decide +kernel
theorem dX9_shingle_51 : decode cX9_shingle 51 = .ok (.iload_n 2, 1) := by decide +kernel
theorem dX9_shingle_52 : decode cX9_shingle 52 = .ok (.iadd, 1) := by decide +kernel
theorem dX9_shingle_53 : decode cX9_shingle 53 = .ok (.iaload, 1) := by decide +kernel
theorem dX9_shingle_54 : decode cX9_shingle 54 = .ok (.ireturn, 1) := by decide +kernel
theorem dX9_letter_0 : decode cX9_letter 0 = .ok (.aload_n 0, 1) := by decide +kernel
theorem dX9_letter_1 : decode cX9_letter 1 = .ok (.iconst 0, 1) := by decide +kernel
theorem dX9_letter_2 : decode cX9_letter 2 = .ok (.putfield 1, 3) := by decide +kernel
theorem dX9_letter_5 : decode cX9_letter 5 = .ok (.iload_n 1, 1) := by decide +kernel
theorem dX9_letter_6 : decode cX9_letter 6 = .ok (.ifCond .lt 25, 3) := by decide +kernel
theorem dX9_letter_9 : decode cX9_letter 9 = .ok (.iload_n 1, 1) := by decide +kernel
theorem dX9_letter_10 : decode cX9_letter 10 = .ok (.aload_n 0, 1) := by decide +kernel
theorem dX9_letter_11 : decode cX9_letter 11 = .ok (.getfield 24, 3) := by decide +kernel
theorem dX9_letter_14 : decode cX9_letter 14 = .ok (.if_icmp .ge 17, 3) := by decide +kernel
theorem dX9_letter_17 : decode cX9_letter 17 = .ok (.iload_n 2, 1) := by decide +kernel
theorem dX9_letter_18 : decode cX9_letter 18 = .ok (.ifCond .lt 13, 3) := by decide +kernel
theorem dX9_letter_21 : decode cX9_letter 21 = .ok (.iload_n 2, 1) := by decide +kernel
theorem dX9_letter_22 : decode cX9_letter 22 = .ok (.aload_n 0, 1) := by decide +kernel
theorem dX9_letter_23 : decode cX9_letter 23 = .ok (.getfield 27, 3) := by decide +kernel
theorem dX9_letter_26 : decode cX9_letter 26 = .ok (.iload_n 1, 1) := by decide +kernel
theorem dX9_letter_27 : decode cX9_letter 27 = .ok (.iaload, 1) := by decide +kernel
theorem dX9_letter_28 : decode cX9_letter 28 = .ok (.if_icmp .lt 7, 3) := by decide +kernel
theorem dX9_letter_31 : decode cX9_letter 31 = .ok (.iconst (-1), 1) := by decide +kernel
theorem dX9_letter_32 : decode cX9_letter 32 = .ok (.goto 16, 3) := by decide +kernel
theorem dX9_letter_35 : decode cX9_letter 35 = .ok (.aload_n 0, 1) := by decide +kernel
theorem dX9_letter_36 : decode cX9_letter 36 = .ok (.getfield 31, 3) := by decide +kernel
theorem dX9_letter_39 : decode cX9_letter 39 = .ok (.aload_n 0, 1) := by decide +kernel
theorem dX9_letter_40 : decode cX9_letter 40 = .ok (.getfield 34, 3) := by decide +kernel
theorem dX9_letter_43 : decode cX9_letter 43 = .ok (.iload_n 1, 1) := by decide +kernel
theorem dX9_letter_44 : decode cX9_letter 44 = .ok (.iaload, 1) := by decide +kernel
theorem dX9_letter_45 : decode cX9_letter 45 = .ok (.iload_n 2, 1) := by decide +kernel
theorem dX9_letter_46 : decode cX9_letter 46 = .ok (.iadd, 1) := by decide +kernel
theorem dX9_letter_47 : decode cX9_letter 47 = .ok (.baload, 1) := by decide +kernel
theorem dX9_letter_48 : decode cX9_letter 48 = .ok (.ireturn, 1) := by decide +kernel
theorem dX9_signature_0 : decode cX9_signature 0 = .ok (.aload_n 0, 1) := by decide +kernel
theorem dX9_signature_1 : decode cX9_signature 1 = .ok (.iload_n 1, 1) := by decide +kernel
theorem dX9_signature_2 : decode cX9_signature 2 = .ok (.invokevirtual 88, 3) := by decide +kernel
theorem dX9_signature_5 : decode cX9_signature 5 = .ok (.istore_n 3, 1) := by decide +kernel
theorem dX9_signature_6 : decode cX9_signature 6 = .ok (.aload_n 0, 1) := by decide +kernel
theorem dX9_signature_7 : decode cX9_signature 7 = .ok (.iload_n 3, 1) := by decide +kernel
theorem dX9_signature_8 : decode cX9_signature 8 = .ok (.ifCond .lt 13, 3) := by decide +kernel
theorem dX9_signature_11 : decode cX9_signature 11 = .ok (.iload_n 2, 1) := by decide +kernel
theorem dX9_signature_12 : decode cX9_signature 12 = .ok (.iconst 0, 1) := by decide +kernel
theorem dX9_signature_13 : decode cX9_signature 13 = .ok (.bipush 63, 2) := by decide +kernel
theorem dX9_signature_15 : decode cX9_signature 15 = .ok (.invokestatic 136, 3) := by decide +kernel
theorem dX9_signature_18 : decode cX9_signature 18 = .ok (.ifCond .eq 7, 3) := by decide +kernel
theorem dX9_signature_21 : decode cX9_signature 21 = .ok (.iconst 1, 1) := by decide +kernel
theorem dX9_signature_22 : decode cX9_signature 22 = .ok (.goto 4, 3) := by decide +kernel
theorem dX9_signature_25 : decode cX9_signature 25 = .ok (.iconst 0, 1) := by decide +kernel
theorem dX9_signature_26 : decode cX9_signature 26 = .ok (.invokevirtual 92, 3) := by decide +kernel
theorem dX9_signature_29 : decode cX9_signature 29 = .ok (.ifCond .eq 5, 3) := by decide +kernel
theorem dX9_signature_32 : decode cX9_signature 32 = .ok (.iconst 0, 1) := by decide +kernel
theorem dX9_signature_33 : decode cX9_signature 33 = .ok (.ireturn, 1) := by decide +kernel
theorem dX9_signature_34 : decode cX9_signature 34 = .ok (.aload_n 0, 1) := by decide +kernel
theorem dX9_signature_35 : decode cX9_signature 35 = .ok (.invokevirtual 150, 3) := by decide +kernel
theorem dX9_signature_38 : decode cX9_signature 38 = .ok (.aload_n 0, 1) := by decide +kernel
theorem dX9_signature_39 : decode cX9_signature 39 = .ok (.getfield 118, 3) := by decide +kernel
theorem dX9_signature_42 : decode cX9_signature 42 = .ok (.bipush 64, 2) := by decide +kernel
theorem dX9_signature_44 : decode cX9_signature 44 = .ok (.iload_n 3, 1) := by decide +kernel
theorem dX9_signature_45 : decode cX9_signature 45 = .ok (.imul, 1) := by decide +kernel
theorem dX9_signature_46 : decode cX9_signature 46 = .ok (.iload_n 2, 1) := by decide +kernel
theorem dX9_signature_47 : decode cX9_signature 47 = .ok (.iadd, 1) := by decide +kernel
theorem dX9_signature_48 : decode cX9_signature 48 = .ok (.iaload, 1) := by decide +kernel
theorem dX9_signature_49 : decode cX9_signature 49 = .ok (.ireturn, 1) := by decide +kernel
theorem dX9_both_0 : decode cX9_both 0 = .ok (.aload_n 0, 1) := by decide +kernel
theorem dX9_both_1 : decode cX9_both 1 = .ok (.iload_n 1, 1) := by decide +kernel
theorem dX9_both_2 : decode cX9_both 2 = .ok (.invokevirtual 88, 3) := by decide +kernel
theorem dX9_both_5 : decode cX9_both 5 = .ok (.istore 4, 2) := by decide +kernel
theorem dX9_both_7 : decode cX9_both 7 = .ok (.aload_n 0, 1) := by decide +kernel
theorem dX9_both_8 : decode cX9_both 8 = .ok (.iload_n 2, 1) := by decide +kernel
theorem dX9_both_9 : decode cX9_both 9 = .ok (.invokevirtual 88, 3) := by decide +kernel
theorem dX9_both_12 : decode cX9_both 12 = .ok (.istore 5, 2) := by decide +kernel
theorem dX9_both_14 : decode cX9_both 14 = .ok (.aload_n 0, 1) := by decide +kernel
theorem dX9_both_15 : decode cX9_both 15 = .ok (.iload 4, 2) := by decide +kernel
theorem dX9_both_17 : decode cX9_both 17 = .ok (.ifCond .lt 17, 3) := by decide +kernel
theorem dX9_both_20 : decode cX9_both 20 = .ok (.iload 5, 2) := by decide +kernel
theorem dX9_both_22 : decode cX9_both 22 = .ok (.ifCond .lt 12, 3) := by decide +kernel
theorem dX9_both_25 : decode cX9_both 25 = .ok (.iload_n 3, 1) := by decide +kernel
theorem dX9_both_26 : decode cX9_both 26 = .ok (.ifCond .lt 8, 3) := by decide +kernel
theorem dX9_both_29 : decode cX9_both 29 = .ok (.iload_n 3, 1) := by decide +kernel
theorem dX9_both_30 : decode cX9_both 30 = .ok (.iconst 4, 1) := by decide +kernel
theorem dX9_both_31 : decode cX9_both 31 = .ok (.if_icmp .le 7, 3) := by decide +kernel
theorem dX9_both_34 : decode cX9_both 34 = .ok (.iconst 1, 1) := by decide +kernel
theorem dX9_both_35 : decode cX9_both 35 = .ok (.goto 4, 3) := by decide +kernel
theorem dX9_both_38 : decode cX9_both 38 = .ok (.iconst 0, 1) := by decide +kernel
theorem dX9_both_39 : decode cX9_both 39 = .ok (.invokevirtual 92, 3) := by decide +kernel
theorem dX9_both_42 : decode cX9_both 42 = .ok (.ifCond .eq 5, 3) := by decide +kernel
theorem dX9_both_45 : decode cX9_both 45 = .ok (.iconst 0, 1) := by decide +kernel
theorem dX9_both_46 : decode cX9_both 46 = .ok (.ireturn, 1) := by decide +kernel
theorem dX9_both_47 : decode cX9_both 47 = .ok (.iload_n 3, 1) := by decide +kernel
theorem dX9_both_48 : decode cX9_both 48 = .ok (.iconst 2, 1) := by decide +kernel
theorem dX9_both_49 : decode cX9_both 49 = .ok (.if_icmp .ge 41, 3) := by decide +kernel
theorem dX9_both_52 : decode cX9_both 52 = .ok (.aload_n 0, 1) := by decide +kernel
theorem dX9_both_53 : decode cX9_both 53 = .ok (.iload 4, 2) := by decide +kernel
theorem dX9_both_55 : decode cX9_both 55 = .ok (.iload 5, 2) := by decide +kernel
theorem dX9_both_57 : decode cX9_both 57 = .ok (.invokevirtual 156, 3) := by decide +kernel
theorem dX9_both_60 : decode cX9_both 60 = .ok (.istore 6, 2) := by decide +kernel
theorem dX9_both_62 : decode cX9_both 62 = .ok (.iload_n 3, 1) := by decide +kernel
theorem dX9_both_63 : decode cX9_both 63 = .ok (.ifCond .ne 8, 3) := by decide +kernel
theorem dX9_both_66 : decode cX9_both 66 = .ok (.iload 6, 2) := by decide +kernel
theorem dX9_both_68 : decode cX9_both 68 = .ok (.goto 21, 3) := by decide +kernel
theorem dX9_both_71 : decode cX9_both 71 = .ok (.aload_n 0, 1) := by decide +kernel
theorem dX9_both_72 : decode cX9_both 72 = .ok (.getfield 78, 3) := by decide +kernel
theorem dX9_both_75 : decode cX9_both 75 = .ok (.iload 4, 2) := by decide +kernel
theorem dX9_both_77 : decode cX9_both 77 = .ok (.iaload, 1) := by decide +kernel
theorem dX9_both_78 : decode cX9_both 78 = .ok (.aload_n 0, 1) := by decide +kernel
theorem dX9_both_79 : decode cX9_both 79 = .ok (.getfield 78, 3) := by decide +kernel
theorem dX9_both_82 : decode cX9_both 82 = .ok (.iload 5, 2) := by decide +kernel
theorem dX9_both_84 : decode cX9_both 84 = .ok (.iaload, 1) := by decide +kernel
theorem dX9_both_85 : decode cX9_both 85 = .ok (.iadd, 1) := by decide +kernel
theorem dX9_both_86 : decode cX9_both 86 = .ok (.iload 6, 2) := by decide +kernel
theorem dX9_both_88 : decode cX9_both 88 = .ok (.isub, 1) := by decide +kernel
theorem dX9_both_89 : decode cX9_both 89 = .ok (.ireturn, 1) := by decide +kernel
theorem dX9_both_90 : decode cX9_both 90 = .ok (.iload_n 3, 1) := by decide +kernel
theorem dX9_both_91 : decode cX9_both 91 = .ok (.iconst 3, 1) := by decide +kernel
theorem dX9_both_92 : decode cX9_both 92 = .ok (.if_icmp .ne 12, 3) := by decide +kernel
theorem dX9_both_95 : decode cX9_both 95 = .ok (.aload_n 0, 1) := by decide +kernel
theorem dX9_both_96 : decode cX9_both 96 = .ok (.iload 4, 2) := by decide +kernel
theorem dX9_both_98 : decode cX9_both 98 = .ok (.iload 5, 2) := by decide +kernel
theorem dX9_both_100 : decode cX9_both 100 = .ok (.invokevirtual 153, 3) := by decide +kernel
theorem dX9_both_103 : decode cX9_both 103 = .ok (.ireturn, 1) := by decide +kernel
theorem dX9_both_104 : decode cX9_both 104 = .ok (.iload_n 3, 1) := by decide +kernel
theorem dX9_both_105 : decode cX9_both 105 = .ok (.iconst 4, 1) := by decide +kernel
theorem dX9_both_106 : decode cX9_both 106 = .ok (.if_icmp .ne 20, 3) := by decide +kernel
theorem dX9_both_109 : decode cX9_both 109 = .ok (.aload_n 0, 1) := by decide +kernel
theorem dX9_both_110 : decode cX9_both 110 = .ok (.iload 4, 2) := by decide +kernel
theorem dX9_both_112 : decode cX9_both 112 = .ok (.iload 5, 2) := by decide +kernel
theorem dX9_both_114 : decode cX9_both 114 = .ok (.invokevirtual 159, 3) := by decide +kernel
theorem dX9_both_117 : decode cX9_both 117 = .ok (.ifCond .eq 7, 3) := by decide +kernel
theorem dX9_both_120 : decode cX9_both 120 = .ok (.iconst 1, 1) := by decide +kernel
theorem dX9_both_121 : decode cX9_both 121 = .ok (.goto 4, 3) := by decide +kernel
theorem dX9_both_124 : decode cX9_both 124 = .ok (.iconst 0, 1) := by decide +kernel
theorem dX9_both_125 : decode cX9_both 125 = .ok (.ireturn, 1) := by decide +kernel
theorem dX9_both_126 : decode cX9_both 126 = .ok (.aload_n 0, 1) := by decide +kernel
theorem dX9_both_127 : decode cX9_both 127 = .ok (.invokevirtual 150, 3) := by decide +kernel
theorem dX9_both_130 : decode cX9_both 130 = .ok (.iconst 0, 1) := by decide +kernel
theorem dX9_both_131 : decode cX9_both 131 = .ok (.istore 6, 2) := by decide +kernel
theorem dX9_both_133 : decode cX9_both 133 = .ok (.iconst 0, 1) := by decide +kernel
theorem dX9_both_134 : decode cX9_both 134 = .ok (.istore 7, 2) := by decide +kernel
theorem dX9_both_136 : decode cX9_both 136 = .ok (.iload 7, 2) := by decide +kernel
theorem dX9_both_138 : decode cX9_both 138 = .ok (.aload_n 0, 1) := by decide +kernel
theorem dX9_both_139 : decode cX9_both 139 = .ok (.getfield 121, 3) := by decide +kernel
theorem dX9_both_142 : decode cX9_both 142 = .ok (.aload_n 0, 1) := by decide +kernel
theorem dX9_both_143 : decode cX9_both 143 = .ok (.getfield 124, 3) := by decide +kernel
theorem dX9_both_146 : decode cX9_both 146 = .ok (.imul, 1) := by decide +kernel
theorem dX9_both_147 : decode cX9_both 147 = .ok (.if_icmp .ge 48, 3) := by decide +kernel
theorem dX9_both_150 : decode cX9_both 150 = .ok (.iload 6, 2) := by decide +kernel
theorem dX9_both_152 : decode cX9_both 152 = .ok (.aload_n 0, 1) := by decide +kernel
theorem dX9_both_153 : decode cX9_both 153 = .ok (.getfield 118, 3) := by decide +kernel
theorem dX9_both_156 : decode cX9_both 156 = .ok (.bipush 64, 2) := by decide +kernel
theorem dX9_both_158 : decode cX9_both 158 = .ok (.iload 4, 2) := by decide +kernel
theorem dX9_both_160 : decode cX9_both 160 = .ok (.imul, 1) := by decide +kernel
theorem dX9_both_161 : decode cX9_both 161 = .ok (.iload 7, 2) := by decide +kernel
theorem dX9_both_163 : decode cX9_both 163 = .ok (.iadd, 1) := by decide +kernel
theorem dX9_both_164 : decode cX9_both 164 = .ok (.iaload, 1) := by decide +kernel
theorem dX9_both_165 : decode cX9_both 165 = .ok (.aload_n 0, 1) := by decide +kernel
theorem dX9_both_166 : decode cX9_both 166 = .ok (.getfield 118, 3) := by decide +kernel
theorem dX9_both_169 : decode cX9_both 169 = .ok (.bipush 64, 2) := by decide +kernel
theorem dX9_both_171 : decode cX9_both 171 = .ok (.iload 5, 2) := by decide +kernel
theorem dX9_both_173 : decode cX9_both 173 = .ok (.imul, 1) := by decide +kernel
theorem dX9_both_174 : decode cX9_both 174 = .ok (.iload 7, 2) := by decide +kernel
theorem dX9_both_176 : decode cX9_both 176 = .ok (.iadd, 1) := by decide +kernel
theorem dX9_both_177 : decode cX9_both 177 = .ok (.iaload, 1) := by decide +kernel
theorem dX9_both_178 : decode cX9_both 178 = .ok (.if_icmp .ne 7, 3) := by decide +kernel
theorem dX9_both_181 : decode cX9_both 181 = .ok (.iconst 1, 1) := by decide +kernel
theorem dX9_both_182 : decode cX9_both 182 = .ok (.goto 4, 3) := by decide +kernel
theorem dX9_both_185 : decode cX9_both 185 = .ok (.iconst 0, 1) := by decide +kernel
theorem dX9_both_186 : decode cX9_both 186 = .ok (.iadd, 1) := by decide +kernel
theorem dX9_both_187 : decode cX9_both 187 = .ok (.istore 6, 2) := by decide +kernel
theorem dX9_both_189 : decode cX9_both 189 = .ok (.iinc 7 1, 3) := by decide +kernel
theorem dX9_both_192 : decode cX9_both 192 = .ok (.goto (-56), 3) := by decide +kernel
theorem dX9_both_195 : decode cX9_both 195 = .ok (.iload 6, 2) := by decide +kernel
theorem dX9_both_197 : decode cX9_both 197 = .ok (.ireturn, 1) := by decide +kernel
theorem dX9_isPair_0 : decode cX9_isPair 0 = .ok (.iload_n 1, 1) := by decide +kernel
theorem dX9_isPair_1 : decode cX9_isPair 1 = .ok (.ifCond .ne 20, 3) := by decide +kernel
theorem dX9_isPair_4 : decode cX9_isPair 4 = .ok (.aload_n 0, 1) := by decide +kernel
theorem dX9_isPair_5 : decode cX9_isPair 5 = .ok (.iload_n 2, 1) := by decide +kernel
theorem dX9_isPair_6 : decode cX9_isPair 6 = .ok (.iload_n 3, 1) := by decide +kernel
theorem dX9_isPair_7 : decode cX9_isPair 7 = .ok (.invokevirtual 153, 3) := by decide +kernel
theorem dX9_isPair_10 : decode cX9_isPair 10 = .ok (.ifCond .lt 7, 3) := by decide +kernel
theorem dX9_isPair_13 : decode cX9_isPair 13 = .ok (.iconst 1, 1) := by decide +kernel
theorem dX9_isPair_14 : decode cX9_isPair 14 = .ok (.goto 13, 3) := by decide +kernel
theorem dX9_isPair_17 : decode cX9_isPair 17 = .ok (.iconst 0, 1) := by decide +kernel
theorem dX9_isPair_18 : decode cX9_isPair 18 = .ok (.goto 9, 3) := by decide +kernel
theorem dX9_isPair_21 : decode cX9_isPair 21 = .ok (.aload_n 0, 1) := by decide +kernel
theorem dX9_isPair_22 : decode cX9_isPair 22 = .ok (.iload_n 2, 1) := by decide +kernel
theorem dX9_isPair_23 : decode cX9_isPair 23 = .ok (.iload_n 3, 1) := by decide +kernel
theorem dX9_isPair_24 : decode cX9_isPair 24 = .ok (.invokevirtual 159, 3) := by decide +kernel
theorem dX9_isPair_27 : decode cX9_isPair 27 = .ok (.ireturn, 1) := by decide +kernel
theorem dX9_isTold_0 : decode cX9_isTold 0 = .ok (.aload_n 0, 1) := by decide +kernel
theorem dX9_isTold_1 : decode cX9_isTold 1 = .ok (.getfield 133, 3) := by decide +kernel
theorem dX9_isTold_4 : decode cX9_isTold 4 = .ok (.iload_n 2, 1) := by decide +kernel
theorem dX9_isTold_5 : decode cX9_isTold 5 = .ok (.iaload, 1) := by decide +kernel
theorem dX9_isTold_6 : decode cX9_isTold 6 = .ok (.iload_n 2, 1) := by decide +kernel
theorem dX9_isTold_7 : decode cX9_isTold 7 = .ok (.if_icmp .ne 21, 3) := by decide +kernel
theorem dX9_isTold_10 : decode cX9_isTold 10 = .ok (.iload_n 1, 1) := by decide +kernel
theorem dX9_isTold_11 : decode cX9_isTold 11 = .ok (.iconst 3, 1) := by decide +kernel
theorem dX9_isTold_12 : decode cX9_isTold 12 = .ok (.if_icmp .eq 12, 3) := by decide +kernel
theorem dX9_isTold_15 : decode cX9_isTold 15 = .ok (.aload_n 0, 1) := by decide +kernel
theorem dX9_isTold_16 : decode cX9_isTold 16 = .ok (.iload_n 2, 1) := by decide +kernel
theorem dX9_isTold_17 : decode cX9_isTold 17 = .ok (.invokevirtual 165, 3) := by decide +kernel
theorem dX9_isTold_20 : decode cX9_isTold 20 = .ok (.iconst 1, 1) := by decide +kernel
theorem dX9_isTold_21 : decode cX9_isTold 21 = .ok (.if_icmp .le 7, 3) := by decide +kernel
theorem dX9_isTold_24 : decode cX9_isTold 24 = .ok (.iconst 1, 1) := by decide +kernel
theorem dX9_isTold_25 : decode cX9_isTold 25 = .ok (.goto 4, 3) := by decide +kernel
theorem dX9_isTold_28 : decode cX9_isTold 28 = .ok (.iconst 0, 1) := by decide +kernel
theorem dX9_isTold_29 : decode cX9_isTold 29 = .ok (.ireturn, 1) := by decide +kernel
theorem dX9_pairs_0 : decode cX9_pairs 0 = .ok (.aload_n 0, 1) := by decide +kernel
theorem dX9_pairs_1 : decode cX9_pairs 1 = .ok (.iconst 0, 1) := by decide +kernel
theorem dX9_pairs_2 : decode cX9_pairs 2 = .ok (.putfield 1, 3) := by decide +kernel
theorem dX9_pairs_5 : decode cX9_pairs 5 = .ok (.iload_n 1, 1) := by decide +kernel
theorem dX9_pairs_6 : decode cX9_pairs 6 = .ok (.ifCond .lt 8, 3) := by decide +kernel
theorem dX9_pairs_9 : decode cX9_pairs 9 = .ok (.iload_n 1, 1) := by decide +kernel
theorem dX9_pairs_10 : decode cX9_pairs 10 = .ok (.iconst 3, 1) := by decide +kernel
theorem dX9_pairs_11 : decode cX9_pairs 11 = .ok (.if_icmp .le 5, 3) := by decide +kernel
theorem dX9_pairs_14 : decode cX9_pairs 14 = .ok (.iconst (-1), 1) := by decide +kernel
theorem dX9_pairs_15 : decode cX9_pairs 15 = .ok (.ireturn, 1) := by decide +kernel
theorem dX9_pairs_16 : decode cX9_pairs 16 = .ok (.iconst 0, 1) := by decide +kernel
theorem dX9_pairs_17 : decode cX9_pairs 17 = .ok (.istore_n 2, 1) := by decide +kernel
theorem dX9_pairs_18 : decode cX9_pairs 18 = .ok (.iload_n 1, 1) := by decide +kernel
theorem dX9_pairs_19 : decode cX9_pairs 19 = .ok (.iconst 1, 1) := by decide +kernel
theorem dX9_pairs_20 : decode cX9_pairs 20 = .ok (.if_icmp .le 7, 3) := by decide +kernel
theorem dX9_pairs_23 : decode cX9_pairs 23 = .ok (.aload_n 0, 1) := by decide +kernel
theorem dX9_pairs_24 : decode cX9_pairs 24 = .ok (.invokevirtual 162, 3) := by decide +kernel
theorem dX9_pairs_27 : decode cX9_pairs 27 = .ok (.iconst 0, 1) := by decide +kernel
theorem dX9_pairs_28 : decode cX9_pairs 28 = .ok (.istore_n 3, 1) := by decide +kernel
theorem dX9_pairs_29 : decode cX9_pairs 29 = .ok (.iload_n 3, 1) := by decide +kernel
theorem dX9_pairs_30 : decode cX9_pairs 30 = .ok (.aload_n 0, 1) := by decide +kernel
theorem dX9_pairs_31 : decode cX9_pairs 31 = .ok (.getfield 65, 3) := by decide +kernel
theorem dX9_pairs_34 : decode cX9_pairs 34 = .ok (.if_icmp .ge 73, 3) := by decide +kernel
theorem dX9_pairs_37 : decode cX9_pairs 37 = .ok (.iload_n 1, 1) := by decide +kernel
theorem dX9_pairs_38 : decode cX9_pairs 38 = .ok (.iconst 1, 1) := by decide +kernel
theorem dX9_pairs_39 : decode cX9_pairs 39 = .ok (.if_icmp .le 23, 3) := by decide +kernel
theorem dX9_pairs_42 : decode cX9_pairs 42 = .ok (.iload_n 2, 1) := by decide +kernel
theorem dX9_pairs_43 : decode cX9_pairs 43 = .ok (.aload_n 0, 1) := by decide +kernel
theorem dX9_pairs_44 : decode cX9_pairs 44 = .ok (.iload_n 1, 1) := by decide +kernel
theorem dX9_pairs_45 : decode cX9_pairs 45 = .ok (.iload_n 3, 1) := by decide +kernel
theorem dX9_pairs_46 : decode cX9_pairs 46 = .ok (.invokevirtual 168, 3) := by decide +kernel
theorem dX9_pairs_49 : decode cX9_pairs 49 = .ok (.ifCond .eq 7, 3) := by decide +kernel
theorem dX9_pairs_52 : decode cX9_pairs 52 = .ok (.iconst 1, 1) := by decide +kernel
theorem dX9_pairs_53 : decode cX9_pairs 53 = .ok (.goto 4, 3) := by decide +kernel
theorem dX9_pairs_56 : decode cX9_pairs 56 = .ok (.iconst 0, 1) := by decide +kernel
theorem dX9_pairs_57 : decode cX9_pairs 57 = .ok (.iadd, 1) := by decide +kernel
theorem dX9_pairs_58 : decode cX9_pairs 58 = .ok (.istore_n 2, 1) := by decide +kernel
theorem dX9_pairs_59 : decode cX9_pairs 59 = .ok (.goto 42, 3) := by decide +kernel
theorem dX9_pairs_62 : decode cX9_pairs 62 = .ok (.iload_n 3, 1) := by decide +kernel
theorem dX9_pairs_63 : decode cX9_pairs 63 = .ok (.iconst 1, 1) := by decide +kernel
theorem dX9_pairs_64 : decode cX9_pairs 64 = .ok (.iadd, 1) := by decide +kernel
theorem dX9_pairs_65 : decode cX9_pairs 65 = .ok (.istore 4, 2) := by decide +kernel
theorem dX9_pairs_67 : decode cX9_pairs 67 = .ok (.iload 4, 2) := by decide +kernel
theorem dX9_pairs_69 : decode cX9_pairs 69 = .ok (.aload_n 0, 1) := by decide +kernel
theorem dX9_pairs_70 : decode cX9_pairs 70 = .ok (.getfield 65, 3) := by decide +kernel
theorem dX9_pairs_73 : decode cX9_pairs 73 = .ok (.if_icmp .ge 28, 3) := by decide +kernel
theorem dX9_pairs_76 : decode cX9_pairs 76 = .ok (.iload_n 2, 1) := by decide +kernel
theorem dX9_pairs_77 : decode cX9_pairs 77 = .ok (.aload_n 0, 1) := by decide +kernel
theorem dX9_pairs_78 : decode cX9_pairs 78 = .ok (.iload_n 1, 1) := by decide +kernel
theorem dX9_pairs_79 : decode cX9_pairs 79 = .ok (.iload_n 3, 1) := by decide +kernel
theorem dX9_pairs_80 : decode cX9_pairs 80 = .ok (.iload 4, 2) := by decide +kernel
theorem dX9_pairs_82 : decode cX9_pairs 82 = .ok (.invokevirtual 171, 3) := by decide +kernel
theorem dX9_pairs_85 : decode cX9_pairs 85 = .ok (.ifCond .eq 7, 3) := by decide +kernel
theorem dX9_pairs_88 : decode cX9_pairs 88 = .ok (.iconst 1, 1) := by decide +kernel
theorem dX9_pairs_89 : decode cX9_pairs 89 = .ok (.goto 4, 3) := by decide +kernel
theorem dX9_pairs_92 : decode cX9_pairs 92 = .ok (.iconst 0, 1) := by decide +kernel
theorem dX9_pairs_93 : decode cX9_pairs 93 = .ok (.iadd, 1) := by decide +kernel
theorem dX9_pairs_94 : decode cX9_pairs 94 = .ok (.istore_n 2, 1) := by decide +kernel
theorem dX9_pairs_95 : decode cX9_pairs 95 = .ok (.iinc 4 1, 3) := by decide +kernel
theorem dX9_pairs_98 : decode cX9_pairs 98 = .ok (.goto (-31), 3) := by decide +kernel
theorem dX9_pairs_101 : decode cX9_pairs 101 = .ok (.iinc 3 1, 3) := by decide +kernel
theorem dX9_pairs_104 : decode cX9_pairs 104 = .ok (.goto (-75), 3) := by decide +kernel
theorem dX9_pairs_107 : decode cX9_pairs 107 = .ok (.iload_n 2, 1) := by decide +kernel
theorem dX9_pairs_108 : decode cX9_pairs 108 = .ok (.ireturn, 1) := by decide +kernel
theorem dX9_pair_0 : decode cX9_pair 0 = .ok (.aload_n 0, 1) := by decide +kernel
theorem dX9_pair_1 : decode cX9_pair 1 = .ok (.iconst 0, 1) := by decide +kernel
theorem dX9_pair_2 : decode cX9_pair 2 = .ok (.putfield 1, 3) := by decide +kernel
theorem dX9_pair_5 : decode cX9_pair 5 = .ok (.iload_n 1, 1) := by decide +kernel
theorem dX9_pair_6 : decode cX9_pair 6 = .ok (.ifCond .lt 30, 3) := by decide +kernel
theorem dX9_pair_9 : decode cX9_pair 9 = .ok (.iload_n 1, 1) := by decide +kernel
theorem dX9_pair_10 : decode cX9_pair 10 = .ok (.iconst 3, 1) := by decide +kernel
theorem dX9_pair_11 : decode cX9_pair 11 = .ok (.if_icmp .gt 25, 3) := by decide +kernel
theorem dX9_pair_14 : decode cX9_pair 14 = .ok (.iload_n 2, 1) := by decide +kernel
theorem dX9_pair_15 : decode cX9_pair 15 = .ok (.ifCond .lt 21, 3) := by decide +kernel
theorem dX9_pair_18 : decode cX9_pair 18 = .ok (.iload_n 3, 1) := by decide +kernel
theorem dX9_pair_19 : decode cX9_pair 19 = .ok (.ifCond .lt 17, 3) := by decide +kernel
theorem dX9_pair_22 : decode cX9_pair 22 = .ok (.iload_n 3, 1) := by decide +kernel
theorem dX9_pair_23 : decode cX9_pair 23 = .ok (.iload_n 1, 1) := by decide +kernel
theorem dX9_pair_24 : decode cX9_pair 24 = .ok (.iconst 1, 1) := by decide +kernel
theorem dX9_pair_25 : decode cX9_pair 25 = .ok (.if_icmp .le 7, 3) := by decide +kernel
theorem dX9_pair_28 : decode cX9_pair 28 = .ok (.iconst 0, 1) := by decide +kernel
theorem dX9_pair_29 : decode cX9_pair 29 = .ok (.goto 4, 3) := by decide +kernel
theorem dX9_pair_32 : decode cX9_pair 32 = .ok (.iconst 1, 1) := by decide +kernel
theorem dX9_pair_33 : decode cX9_pair 33 = .ok (.if_icmp .le 5, 3) := by decide +kernel
theorem dX9_pair_36 : decode cX9_pair 36 = .ok (.iconst (-1), 1) := by decide +kernel
theorem dX9_pair_37 : decode cX9_pair 37 = .ok (.ireturn, 1) := by decide +kernel
theorem dX9_pair_38 : decode cX9_pair 38 = .ok (.iload_n 2, 1) := by decide +kernel
theorem dX9_pair_39 : decode cX9_pair 39 = .ok (.istore 4, 2) := by decide +kernel
theorem dX9_pair_41 : decode cX9_pair 41 = .ok (.iload_n 1, 1) := by decide +kernel
theorem dX9_pair_42 : decode cX9_pair 42 = .ok (.iconst 1, 1) := by decide +kernel
theorem dX9_pair_43 : decode cX9_pair 43 = .ok (.if_icmp .le 7, 3) := by decide +kernel
theorem dX9_pair_46 : decode cX9_pair 46 = .ok (.aload_n 0, 1) := by decide +kernel
theorem dX9_pair_47 : decode cX9_pair 47 = .ok (.invokevirtual 162, 3) := by decide +kernel
theorem dX9_pair_50 : decode cX9_pair 50 = .ok (.iconst 0, 1) := by decide +kernel
theorem dX9_pair_51 : decode cX9_pair 51 = .ok (.istore 5, 2) := by decide +kernel
theorem dX9_pair_53 : decode cX9_pair 53 = .ok (.iload 5, 2) := by decide +kernel
theorem dX9_pair_55 : decode cX9_pair 55 = .ok (.aload_n 0, 1) := by decide +kernel
theorem dX9_pair_56 : decode cX9_pair 56 = .ok (.getfield 65, 3) := by decide +kernel
theorem dX9_pair_59 : decode cX9_pair 59 = .ok (.if_icmp .ge 107, 3) := by decide +kernel
theorem dX9_pair_62 : decode cX9_pair 62 = .ok (.iload_n 1, 1) := by decide +kernel
theorem dX9_pair_63 : decode cX9_pair 63 = .ok (.iconst 1, 1) := by decide +kernel
theorem dX9_pair_64 : decode cX9_pair 64 = .ok (.if_icmp .le 35, 3) := by decide +kernel
theorem dX9_pair_67 : decode cX9_pair 67 = .ok (.aload_n 0, 1) := by decide +kernel
theorem dX9_pair_68 : decode cX9_pair 68 = .ok (.iload_n 1, 1) := by decide +kernel
theorem dX9_pair_69 : decode cX9_pair 69 = .ok (.iload 5, 2) := by decide +kernel
theorem dX9_pair_71 : decode cX9_pair 71 = .ok (.invokevirtual 168, 3) := by decide +kernel
theorem dX9_pair_74 : decode cX9_pair 74 = .ok (.ifCond .ne 6, 3) := by decide +kernel
theorem dX9_pair_77 : decode cX9_pair 77 = .ok (.goto 83, 3) := by decide +kernel
theorem dX9_pair_80 : decode cX9_pair 80 = .ok (.iload 4, 2) := by decide +kernel
theorem dX9_pair_82 : decode cX9_pair 82 = .ok (.ifCond .ne 11, 3) := by decide +kernel
theorem dX9_pair_85 : decode cX9_pair 85 = .ok (.aload_n 0, 1) := by decide +kernel
theorem dX9_pair_86 : decode cX9_pair 86 = .ok (.getfield 81, 3) := by decide +kernel
theorem dX9_pair_89 : decode cX9_pair 89 = .ok (.iload 5, 2) := by decide +kernel
theorem dX9_pair_91 : decode cX9_pair 91 = .ok (.iaload, 1) := by decide +kernel
theorem dX9_pair_92 : decode cX9_pair 92 = .ok (.ireturn, 1) := by decide +kernel
theorem dX9_pair_93 : decode cX9_pair 93 = .ok (.iinc 4 (-1), 3) := by decide +kernel
theorem dX9_pair_96 : decode cX9_pair 96 = .ok (.goto 64, 3) := by decide +kernel
theorem dX9_pair_99 : decode cX9_pair 99 = .ok (.iload 5, 2) := by decide +kernel
theorem dX9_pair_101 : decode cX9_pair 101 = .ok (.iconst 1, 1) := by decide +kernel
theorem dX9_pair_102 : decode cX9_pair 102 = .ok (.iadd, 1) := by decide +kernel
theorem dX9_pair_103 : decode cX9_pair 103 = .ok (.istore 6, 2) := by decide +kernel
theorem dX9_pair_105 : decode cX9_pair 105 = .ok (.iload 6, 2) := by decide +kernel
theorem dX9_pair_107 : decode cX9_pair 107 = .ok (.aload_n 0, 1) := by decide +kernel
theorem dX9_pair_108 : decode cX9_pair 108 = .ok (.getfield 65, 3) := by decide +kernel
theorem dX9_pair_111 : decode cX9_pair 111 = .ok (.if_icmp .ge 49, 3) := by decide +kernel
theorem dX9_pair_114 : decode cX9_pair 114 = .ok (.aload_n 0, 1) := by decide +kernel
theorem dX9_pair_115 : decode cX9_pair 115 = .ok (.iload_n 1, 1) := by decide +kernel
theorem dX9_pair_116 : decode cX9_pair 116 = .ok (.iload 5, 2) := by decide +kernel
theorem dX9_pair_118 : decode cX9_pair 118 = .ok (.iload 6, 2) := by decide +kernel
theorem dX9_pair_120 : decode cX9_pair 120 = .ok (.invokevirtual 171, 3) := by decide +kernel
theorem dX9_pair_123 : decode cX9_pair 123 = .ok (.ifCond .ne 6, 3) := by decide +kernel
theorem dX9_pair_126 : decode cX9_pair 126 = .ok (.goto 28, 3) := by decide +kernel
theorem dX9_pair_129 : decode cX9_pair 129 = .ok (.iload 4, 2) := by decide +kernel
theorem dX9_pair_131 : decode cX9_pair 131 = .ok (.ifCond .ne 20, 3) := by decide +kernel
theorem dX9_pair_134 : decode cX9_pair 134 = .ok (.aload_n 0, 1) := by decide +kernel
theorem dX9_pair_135 : decode cX9_pair 135 = .ok (.getfield 81, 3) := by decide +kernel
theorem dX9_pair_138 : decode cX9_pair 138 = .ok (.iload_n 3, 1) := by decide +kernel
theorem dX9_pair_139 : decode cX9_pair 139 = .ok (.ifCond .ne 8, 3) := by decide +kernel
theorem dX9_pair_142 : decode cX9_pair 142 = .ok (.iload 5, 2) := by decide +kernel
theorem dX9_pair_144 : decode cX9_pair 144 = .ok (.goto 5, 3) := by decide +kernel
theorem dX9_pair_147 : decode cX9_pair 147 = .ok (.iload 6, 2) := by decide +kernel
theorem dX9_pair_149 : decode cX9_pair 149 = .ok (.iaload, 1) := by decide +kernel
theorem dX9_pair_150 : decode cX9_pair 150 = .ok (.ireturn, 1) := by decide +kernel
theorem dX9_pair_151 : decode cX9_pair 151 = .ok (.iinc 4 (-1), 3) := by decide +kernel
theorem dX9_pair_154 : decode cX9_pair 154 = .ok (.iinc 6 1, 3) := by decide +kernel
theorem dX9_pair_157 : decode cX9_pair 157 = .ok (.goto (-52), 3) := by decide +kernel
theorem dX9_pair_160 : decode cX9_pair 160 = .ok (.iinc 5 1, 3) := by decide +kernel
theorem dX9_pair_163 : decode cX9_pair 163 = .ok (.goto (-110), 3) := by decide +kernel
theorem dX9_pair_166 : decode cX9_pair 166 = .ok (.iconst (-1), 1) := by decide +kernel
theorem dX9_pair_167 : decode cX9_pair 167 = .ok (.ireturn, 1) := by decide +kernel
theorem dX9_isNearer_0 : decode cX9_isNearer 0 = .ok (.aload_n 0, 1) := by decide +kernel
theorem dX9_isNearer_1 : decode cX9_isNearer 1 = .ok (.iload_n 1, 1) := by decide +kernel
theorem dX9_isNearer_2 : decode cX9_isNearer 2 = .ok (.iload_n 2, 1) := by decide +kernel
theorem dX9_isNearer_3 : decode cX9_isNearer 3 = .ok (.invokevirtual 156, 3) := by decide +kernel
theorem dX9_isNearer_6 : decode cX9_isNearer 6 = .ok (.i2l, 1) := by decide +kernel
theorem dX9_isNearer_7 : decode cX9_isNearer 7 = .ok (.lstore 4, 2) := by decide +kernel
theorem dX9_isNearer_9 : decode cX9_isNearer 9 = .ok (.aload_n 0, 1) := by decide +kernel
theorem dX9_isNearer_10 : decode cX9_isNearer 10 = .ok (.getfield 78, 3) := by decide +kernel
theorem dX9_isNearer_13 : decode cX9_isNearer 13 = .ok (.iload_n 1, 1) := by decide +kernel
theorem dX9_isNearer_14 : decode cX9_isNearer 14 = .ok (.iaload, 1) := by decide +kernel
theorem dX9_isNearer_15 : decode cX9_isNearer 15 = .ok (.aload_n 0, 1) := by decide +kernel
theorem dX9_isNearer_16 : decode cX9_isNearer 16 = .ok (.getfield 78, 3) := by decide +kernel
theorem dX9_isNearer_19 : decode cX9_isNearer 19 = .ok (.iload_n 2, 1) := by decide +kernel
theorem dX9_isNearer_20 : decode cX9_isNearer 20 = .ok (.iaload, 1) := by decide +kernel
theorem dX9_isNearer_21 : decode cX9_isNearer 21 = .ok (.iadd, 1) := by decide +kernel
theorem dX9_isNearer_22 : decode cX9_isNearer 22 = .ok (.i2l, 1) := by decide +kernel
theorem dX9_isNearer_23 : decode cX9_isNearer 23 = .ok (.lload 4, 2) := by decide +kernel
theorem dX9_isNearer_25 : decode cX9_isNearer 25 = .ok (.lsub, 1) := by decide +kernel
theorem dX9_isNearer_26 : decode cX9_isNearer 26 = .ok (.lstore 6, 2) := by decide +kernel
theorem dX9_isNearer_28 : decode cX9_isNearer 28 = .ok (.aload_n 0, 1) := by decide +kernel
theorem dX9_isNearer_29 : decode cX9_isNearer 29 = .ok (.iload_n 1, 1) := by decide +kernel
theorem dX9_isNearer_30 : decode cX9_isNearer 30 = .ok (.iload_n 3, 1) := by decide +kernel
theorem dX9_isNearer_31 : decode cX9_isNearer 31 = .ok (.invokevirtual 156, 3) := by decide +kernel
theorem dX9_isNearer_34 : decode cX9_isNearer 34 = .ok (.i2l, 1) := by decide +kernel
theorem dX9_isNearer_35 : decode cX9_isNearer 35 = .ok (.lstore 8, 2) := by decide +kernel
theorem dX9_isNearer_37 : decode cX9_isNearer 37 = .ok (.aload_n 0, 1) := by decide +kernel
theorem dX9_isNearer_38 : decode cX9_isNearer 38 = .ok (.getfield 78, 3) := by decide +kernel
theorem dX9_isNearer_41 : decode cX9_isNearer 41 = .ok (.iload_n 1, 1) := by decide +kernel
theorem dX9_isNearer_42 : decode cX9_isNearer 42 = .ok (.iaload, 1) := by decide +kernel
theorem dX9_isNearer_43 : decode cX9_isNearer 43 = .ok (.aload_n 0, 1) := by decide +kernel
theorem dX9_isNearer_44 : decode cX9_isNearer 44 = .ok (.getfield 78, 3) := by decide +kernel
theorem dX9_isNearer_47 : decode cX9_isNearer 47 = .ok (.iload_n 3, 1) := by decide +kernel
theorem dX9_isNearer_48 : decode cX9_isNearer 48 = .ok (.iaload, 1) := by decide +kernel
theorem dX9_isNearer_49 : decode cX9_isNearer 49 = .ok (.iadd, 1) := by decide +kernel
theorem dX9_isNearer_50 : decode cX9_isNearer 50 = .ok (.i2l, 1) := by decide +kernel
theorem dX9_isNearer_51 : decode cX9_isNearer 51 = .ok (.lload 8, 2) := by decide +kernel
theorem dX9_isNearer_53 : decode cX9_isNearer 53 = .ok (.lsub, 1) := by decide +kernel
theorem dX9_isNearer_54 : decode cX9_isNearer 54 = .ok (.lstore 10, 2) := by decide +kernel
theorem dX9_isNearer_56 : decode cX9_isNearer 56 = .ok (.lload 6, 2) := by decide +kernel
theorem dX9_isNearer_58 : decode cX9_isNearer 58 = .ok (.lconst 0, 1) := by decide +kernel
theorem dX9_isNearer_59 : decode cX9_isNearer 59 = .ok (.lcmp, 1) := by decide +kernel
theorem dX9_isNearer_60 : decode cX9_isNearer 60 = .ok (.ifCond .ne 6, 3) := by decide +kernel
theorem dX9_isNearer_63 : decode cX9_isNearer 63 = .ok (.lconst 1, 1) := by decide +kernel
theorem dX9_isNearer_64 : decode cX9_isNearer 64 = .ok (.lstore 6, 2) := by decide +kernel
theorem dX9_isNearer_66 : decode cX9_isNearer 66 = .ok (.lload 10, 2) := by decide +kernel
theorem dX9_isNearer_68 : decode cX9_isNearer 68 = .ok (.lconst 0, 1) := by decide +kernel
theorem dX9_isNearer_69 : decode cX9_isNearer 69 = .ok (.lcmp, 1) := by decide +kernel
theorem dX9_isNearer_70 : decode cX9_isNearer 70 = .ok (.ifCond .ne 6, 3) := by decide +kernel
theorem dX9_isNearer_73 : decode cX9_isNearer 73 = .ok (.lconst 1, 1) := by decide +kernel
theorem dX9_isNearer_74 : decode cX9_isNearer 74 = .ok (.lstore 10, 2) := by decide +kernel
theorem dX9_isNearer_76 : decode cX9_isNearer 76 = .ok (.lload 4, 2) := by decide +kernel
theorem dX9_isNearer_78 : decode cX9_isNearer 78 = .ok (.lload 10, 2) := by decide +kernel
theorem dX9_isNearer_80 : decode cX9_isNearer 80 = .ok (.lmul, 1) := by decide +kernel
theorem dX9_isNearer_81 : decode cX9_isNearer 81 = .ok (.lload 8, 2) := by decide +kernel
theorem dX9_isNearer_83 : decode cX9_isNearer 83 = .ok (.lload 6, 2) := by decide +kernel
theorem dX9_isNearer_85 : decode cX9_isNearer 85 = .ok (.lmul, 1) := by decide +kernel
theorem dX9_isNearer_86 : decode cX9_isNearer 86 = .ok (.lcmp, 1) := by decide +kernel
theorem dX9_isNearer_87 : decode cX9_isNearer 87 = .ok (.ifCond .gt 22, 3) := by decide +kernel
theorem dX9_isNearer_90 : decode cX9_isNearer 90 = .ok (.lload 4, 2) := by decide +kernel
theorem dX9_isNearer_92 : decode cX9_isNearer 92 = .ok (.lload 10, 2) := by decide +kernel
theorem dX9_isNearer_94 : decode cX9_isNearer 94 = .ok (.lmul, 1) := by decide +kernel
theorem dX9_isNearer_95 : decode cX9_isNearer 95 = .ok (.lload 8, 2) := by decide +kernel
theorem dX9_isNearer_97 : decode cX9_isNearer 97 = .ok (.lload 6, 2) := by decide +kernel
theorem dX9_isNearer_99 : decode cX9_isNearer 99 = .ok (.lmul, 1) := by decide +kernel
theorem dX9_isNearer_100 : decode cX9_isNearer 100 = .ok (.lcmp, 1) := by decide +kernel
theorem dX9_isNearer_101 : decode cX9_isNearer 101 = .ok (.ifCond .ne 12, 3) := by decide +kernel
theorem dX9_isNearer_104 : decode cX9_isNearer 104 = .ok (.iload_n 2, 1) := by decide +kernel
theorem dX9_isNearer_105 : decode cX9_isNearer 105 = .ok (.iload_n 3, 1) := by decide +kernel
theorem dX9_isNearer_106 : decode cX9_isNearer 106 = .ok (.if_icmp .ge 7, 3) := by decide +kernel
theorem dX9_isNearer_109 : decode cX9_isNearer 109 = .ok (.iconst 1, 1) := by decide +kernel
theorem dX9_isNearer_110 : decode cX9_isNearer 110 = .ok (.goto 4, 3) := by decide +kernel
theorem dX9_isNearer_113 : decode cX9_isNearer 113 = .ok (.iconst 0, 1) := by decide +kernel
theorem dX9_isNearer_114 : decode cX9_isNearer 114 = .ok (.ireturn, 1) := by decide +kernel
theorem dX9_nearest_0 : decode cX9_nearest 0 = .ok (.aload_n 0, 1) := by decide +kernel
theorem dX9_nearest_1 : decode cX9_nearest 1 = .ok (.iload_n 1, 1) := by decide +kernel
theorem dX9_nearest_2 : decode cX9_nearest 2 = .ok (.invokevirtual 88, 3) := by decide +kernel
theorem dX9_nearest_5 : decode cX9_nearest 5 = .ok (.istore_n 3, 1) := by decide +kernel
theorem dX9_nearest_6 : decode cX9_nearest 6 = .ok (.aload_n 0, 1) := by decide +kernel
theorem dX9_nearest_7 : decode cX9_nearest 7 = .ok (.iload_n 3, 1) := by decide +kernel
theorem dX9_nearest_8 : decode cX9_nearest 8 = .ok (.ifCond .ge 7, 3) := by decide +kernel
theorem dX9_nearest_11 : decode cX9_nearest 11 = .ok (.iconst 1, 1) := by decide +kernel
theorem dX9_nearest_12 : decode cX9_nearest 12 = .ok (.goto 4, 3) := by decide +kernel
theorem dX9_nearest_15 : decode cX9_nearest 15 = .ok (.iconst 0, 1) := by decide +kernel
theorem dX9_nearest_16 : decode cX9_nearest 16 = .ok (.invokevirtual 92, 3) := by decide +kernel
theorem dX9_nearest_19 : decode cX9_nearest 19 = .ok (.ifCond .eq 5, 3) := by decide +kernel
theorem dX9_nearest_22 : decode cX9_nearest 22 = .ok (.iconst 0, 1) := by decide +kernel
theorem dX9_nearest_23 : decode cX9_nearest 23 = .ok (.ireturn, 1) := by decide +kernel
theorem dX9_nearest_24 : decode cX9_nearest 24 = .ok (.iload_n 2, 1) := by decide +kernel
theorem dX9_nearest_25 : decode cX9_nearest 25 = .ok (.ifCond .lt 13, 3) := by decide +kernel
theorem dX9_nearest_28 : decode cX9_nearest 28 = .ok (.iload_n 2, 1) := by decide +kernel
theorem dX9_nearest_29 : decode cX9_nearest 29 = .ok (.aload_n 0, 1) := by decide +kernel
theorem dX9_nearest_30 : decode cX9_nearest 30 = .ok (.getfield 65, 3) := by decide +kernel
theorem dX9_nearest_33 : decode cX9_nearest 33 = .ok (.iconst 1, 1) := by decide +kernel
theorem dX9_nearest_34 : decode cX9_nearest 34 = .ok (.isub, 1) := by decide +kernel
theorem dX9_nearest_35 : decode cX9_nearest 35 = .ok (.if_icmp .lt 5, 3) := by decide +kernel
theorem dX9_nearest_38 : decode cX9_nearest 38 = .ok (.iconst (-1), 1) := by decide +kernel
theorem dX9_nearest_39 : decode cX9_nearest 39 = .ok (.ireturn, 1) := by decide +kernel
theorem dX9_nearest_40 : decode cX9_nearest 40 = .ok (.iconst 0, 1) := by decide +kernel
theorem dX9_nearest_41 : decode cX9_nearest 41 = .ok (.istore 4, 2) := by decide +kernel
theorem dX9_nearest_43 : decode cX9_nearest 43 = .ok (.iload 4, 2) := by decide +kernel
theorem dX9_nearest_45 : decode cX9_nearest 45 = .ok (.aload_n 0, 1) := by decide +kernel
theorem dX9_nearest_46 : decode cX9_nearest 46 = .ok (.getfield 65, 3) := by decide +kernel
theorem dX9_nearest_49 : decode cX9_nearest 49 = .ok (.if_icmp .ge 88, 3) := by decide +kernel
theorem dX9_nearest_52 : decode cX9_nearest 52 = .ok (.iload 4, 2) := by decide +kernel
theorem dX9_nearest_54 : decode cX9_nearest 54 = .ok (.iload_n 3, 1) := by decide +kernel
theorem dX9_nearest_55 : decode cX9_nearest 55 = .ok (.if_icmp .ne 6, 3) := by decide +kernel
theorem dX9_nearest_58 : decode cX9_nearest 58 = .ok (.goto 73, 3) := by decide +kernel
theorem dX9_nearest_61 : decode cX9_nearest 61 = .ok (.iconst 0, 1) := by decide +kernel
theorem dX9_nearest_62 : decode cX9_nearest 62 = .ok (.istore 5, 2) := by decide +kernel
theorem dX9_nearest_64 : decode cX9_nearest 64 = .ok (.iconst 0, 1) := by decide +kernel
theorem dX9_nearest_65 : decode cX9_nearest 65 = .ok (.istore 6, 2) := by decide +kernel
theorem dX9_nearest_67 : decode cX9_nearest 67 = .ok (.iload 6, 2) := by decide +kernel
theorem dX9_nearest_69 : decode cX9_nearest 69 = .ok (.aload_n 0, 1) := by decide +kernel
theorem dX9_nearest_70 : decode cX9_nearest 70 = .ok (.getfield 65, 3) := by decide +kernel
theorem dX9_nearest_73 : decode cX9_nearest 73 = .ok (.if_icmp .ge 44, 3) := by decide +kernel
theorem dX9_nearest_76 : decode cX9_nearest 76 = .ok (.iload 5, 2) := by decide +kernel
theorem dX9_nearest_78 : decode cX9_nearest 78 = .ok (.iload 6, 2) := by decide +kernel
theorem dX9_nearest_80 : decode cX9_nearest 80 = .ok (.iload_n 3, 1) := by decide +kernel
theorem dX9_nearest_81 : decode cX9_nearest 81 = .ok (.if_icmp .eq 26, 3) := by decide +kernel
theorem dX9_nearest_84 : decode cX9_nearest 84 = .ok (.iload 6, 2) := by decide +kernel
theorem dX9_nearest_86 : decode cX9_nearest 86 = .ok (.iload 4, 2) := by decide +kernel
theorem dX9_nearest_88 : decode cX9_nearest 88 = .ok (.if_icmp .eq 19, 3) := by decide +kernel
theorem dX9_nearest_91 : decode cX9_nearest 91 = .ok (.aload_n 0, 1) := by decide +kernel
theorem dX9_nearest_92 : decode cX9_nearest 92 = .ok (.iload_n 3, 1) := by decide +kernel
theorem dX9_nearest_93 : decode cX9_nearest 93 = .ok (.iload 6, 2) := by decide +kernel
theorem dX9_nearest_95 : decode cX9_nearest 95 = .ok (.iload 4, 2) := by decide +kernel
theorem dX9_nearest_97 : decode cX9_nearest 97 = .ok (.invokevirtual 174, 3) := by decide +kernel
theorem dX9_nearest_100 : decode cX9_nearest 100 = .ok (.ifCond .eq 7, 3) := by decide +kernel
theorem dX9_nearest_103 : decode cX9_nearest 103 = .ok (.iconst 1, 1) := by decide +kernel
theorem dX9_nearest_104 : decode cX9_nearest 104 = .ok (.goto 4, 3) := by decide +kernel
theorem dX9_nearest_107 : decode cX9_nearest 107 = .ok (.iconst 0, 1) := by decide +kernel
theorem dX9_nearest_108 : decode cX9_nearest 108 = .ok (.iadd, 1) := by decide +kernel
theorem dX9_nearest_109 : decode cX9_nearest 109 = .ok (.istore 5, 2) := by decide +kernel
theorem dX9_nearest_111 : decode cX9_nearest 111 = .ok (.iinc 6 1, 3) := by decide +kernel
theorem dX9_nearest_114 : decode cX9_nearest 114 = .ok (.goto (-47), 3) := by decide +kernel
theorem dX9_nearest_117 : decode cX9_nearest 117 = .ok (.iload 5, 2) := by decide +kernel
theorem dX9_nearest_119 : decode cX9_nearest 119 = .ok (.iload_n 2, 1) := by decide +kernel
theorem dX9_nearest_120 : decode cX9_nearest 120 = .ok (.if_icmp .ne 11, 3) := by decide +kernel
theorem dX9_nearest_123 : decode cX9_nearest 123 = .ok (.aload_n 0, 1) := by decide +kernel
theorem dX9_nearest_124 : decode cX9_nearest 124 = .ok (.getfield 81, 3) := by decide +kernel
theorem dX9_nearest_127 : decode cX9_nearest 127 = .ok (.iload 4, 2) := by decide +kernel
theorem dX9_nearest_129 : decode cX9_nearest 129 = .ok (.iaload, 1) := by decide +kernel
theorem dX9_nearest_130 : decode cX9_nearest 130 = .ok (.ireturn, 1) := by decide +kernel
theorem dX9_nearest_131 : decode cX9_nearest 131 = .ok (.iinc 4 1, 3) := by decide +kernel
theorem dX9_nearest_134 : decode cX9_nearest 134 = .ok (.goto (-91), 3) := by decide +kernel
theorem dX9_nearest_137 : decode cX9_nearest 137 = .ok (.iconst (-1), 1) := by decide +kernel
theorem dX9_nearest_138 : decode cX9_nearest 138 = .ok (.ireturn, 1) := by decide +kernel
theorem dX9_count_0 : decode cX9_count 0 = .ok (.aload_n 0, 1) := by decide +kernel
theorem dX9_count_1 : decode cX9_count 1 = .ok (.iconst 0, 1) := by decide +kernel
theorem dX9_count_2 : decode cX9_count 2 = .ok (.putfield 1, 3) := by decide +kernel
theorem dX9_count_5 : decode cX9_count 5 = .ok (.iload_n 1, 1) := by decide +kernel
theorem dX9_count_6 : decode cX9_count 6 = .ok (.tableswitch 135 0 12 #[66, 71, 80, 85, 90, 95, 100, 105, 110, 115, 120, 125, 130], 66) := by decide +kernel
theorem dX9_count_72 : decode cX9_count 72 = .ok (.aload_n 0, 1) := by decide +kernel
theorem dX9_count_73 : decode cX9_count 73 = .ok (.getfield 7, 3) := by decide +kernel
theorem dX9_count_76 : decode cX9_count 76 = .ok (.ireturn, 1) := by decide +kernel
theorem dX9_count_77 : decode cX9_count 77 = .ok (.aload_n 0, 1) := by decide +kernel
theorem dX9_count_78 : decode cX9_count 78 = .ok (.invokevirtual 61, 3) := by decide +kernel
theorem dX9_count_81 : decode cX9_count 81 = .ok (.aload_n 0, 1) := by decide +kernel
theorem dX9_count_82 : decode cX9_count 82 = .ok (.getfield 18, 3) := by decide +kernel
theorem dX9_count_85 : decode cX9_count 85 = .ok (.ireturn, 1) := by decide +kernel
theorem dX9_count_86 : decode cX9_count 86 = .ok (.aload_n 0, 1) := by decide +kernel
theorem dX9_count_87 : decode cX9_count 87 = .ok (.getfield 65, 3) := by decide +kernel
theorem dX9_count_90 : decode cX9_count 90 = .ok (.ireturn, 1) := by decide +kernel
theorem dX9_count_91 : decode cX9_count 91 = .ok (.aload_n 0, 1) := by decide +kernel
theorem dX9_count_92 : decode cX9_count 92 = .ok (.getfield 68, 3) := by decide +kernel
theorem dX9_count_95 : decode cX9_count 95 = .ok (.ireturn, 1) := by decide +kernel
theorem dX9_count_96 : decode cX9_count 96 = .ok (.aload_n 0, 1) := by decide +kernel
theorem dX9_count_97 : decode cX9_count 97 = .ok (.getfield 24, 3) := by decide +kernel
theorem dX9_count_100 : decode cX9_count 100 = .ok (.ireturn, 1) := by decide +kernel
theorem dX9_count_101 : decode cX9_count 101 = .ok (.aload_n 0, 1) := by decide +kernel
theorem dX9_count_102 : decode cX9_count 102 = .ok (.getfield 41, 3) := by decide +kernel
theorem dX9_count_105 : decode cX9_count 105 = .ok (.ireturn, 1) := by decide +kernel
theorem dX9_count_106 : decode cX9_count 106 = .ok (.aload_n 0, 1) := by decide +kernel
theorem dX9_count_107 : decode cX9_count 107 = .ok (.getfield 141, 3) := by decide +kernel
theorem dX9_count_110 : decode cX9_count 110 = .ok (.ireturn, 1) := by decide +kernel
theorem dX9_count_111 : decode cX9_count 111 = .ok (.aload_n 0, 1) := by decide +kernel
theorem dX9_count_112 : decode cX9_count 112 = .ok (.getfield 121, 3) := by decide +kernel
theorem dX9_count_115 : decode cX9_count 115 = .ok (.ireturn, 1) := by decide +kernel
theorem dX9_count_116 : decode cX9_count 116 = .ok (.aload_n 0, 1) := by decide +kernel
theorem dX9_count_117 : decode cX9_count 117 = .ok (.getfield 124, 3) := by decide +kernel
theorem dX9_count_120 : decode cX9_count 120 = .ok (.ireturn, 1) := by decide +kernel
theorem dX9_count_121 : decode cX9_count 121 = .ok (.aload_n 0, 1) := by decide +kernel
theorem dX9_count_122 : decode cX9_count 122 = .ok (.getfield 127, 3) := by decide +kernel
theorem dX9_count_125 : decode cX9_count 125 = .ok (.ireturn, 1) := by decide +kernel
theorem dX9_count_126 : decode cX9_count 126 = .ok (.aload_n 0, 1) := by decide +kernel
theorem dX9_count_127 : decode cX9_count 127 = .ok (.getfield 130, 3) := by decide +kernel
theorem dX9_count_130 : decode cX9_count 130 = .ok (.ireturn, 1) := by decide +kernel
theorem dX9_count_131 : decode cX9_count 131 = .ok (.aload_n 0, 1) := by decide +kernel
theorem dX9_count_132 : decode cX9_count 132 = .ok (.getfield 51, 3) := by decide +kernel
theorem dX9_count_135 : decode cX9_count 135 = .ok (.ireturn, 1) := by decide +kernel
theorem dX9_count_136 : decode cX9_count 136 = .ok (.aload_n 0, 1) := by decide +kernel
theorem dX9_count_137 : decode cX9_count 137 = .ok (.getfield 54, 3) := by decide +kernel
theorem dX9_count_140 : decode cX9_count 140 = .ok (.ireturn, 1) := by decide +kernel
theorem dX9_count_141 : decode cX9_count 141 = .ok (.iconst (-1), 1) := by decide +kernel
theorem dX9_count_142 : decode cX9_count 142 = .ok (.ireturn, 1) := by decide +kernel
