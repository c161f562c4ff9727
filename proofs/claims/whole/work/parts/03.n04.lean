theorem dX11_count_160 : decode cX11_count 160 = .ok (.aload_n 0, 1) := by decide +kernel
theorem dX11_count_161 : decode cX11_count 161 = .ok (.getfield 58, 3) := by decide +kernel
theorem dX11_count_164 : decode cX11_count 164 = .ok (.getfield 309, 3) := by decide +kernel
theorem dX11_count_167 : decode cX11_count 167 = .ok (.ireturn, 1) := by decide +kernel
theorem dX11_count_168 : decode cX11_count 168 = .ok (.aload_n 0, 1) := by decide +kernel
theorem dX11_count_169 : decode cX11_count 169 = .ok (.getfield 208, 3) := by decide +kernel
theorem dX11_count_172 : decode cX11_count 172 = .ok (.ireturn, 1) := by decide +kernel
theorem dX11_count_173 : decode cX11_count 173 = .ok (.aload_n 0, 1) := by decide +kernel
theorem dX11_count_174 : decode cX11_count 174 = .ok (.getfield 12, 3) := by decide +kernel
theorem dX11_count_177 : decode cX11_count 177 = .ok (.getfield 97, 3) := by decide +kernel
theorem dX11_count_180 : decode cX11_count 180 = .ok (.ireturn, 1) := by decide +kernel
theorem dX11_count_181 : decode cX11_count 181 = .ok (.iconst (-1), 1) := by decide +kernel
theorem dX11_count_182 : decode cX11_count 182 = .ok (.ireturn, 1) := by decide +kernel
theorem dX11_feedBytes_0 : decode cX11_feedBytes 0 = .ok (.bipush 56, 2) := by decide +kernel
theorem dX11_feedBytes_2 : decode cX11_feedBytes 2 = .ok (.istore_n 3, 1) := by decide +kernel
theorem dX11_feedBytes_3 : decode cX11_feedBytes 3 = .ok (.iload_n 3, 1) := by decide +kernel
theorem dX11_feedBytes_4 : decode cX11_feedBytes 4 = .ok (.ifCond .lt 24, 3) := by decide +kernel
theorem dX11_feedBytes_7 : decode cX11_feedBytes 7 = .ok (.aload_n 0, 1) := by decide +kernel
theorem dX11_feedBytes_8 : decode cX11_feedBytes 8 = .ok (.getfield 12, 3) := by decide +kernel
theorem dX11_feedBytes_11 : decode cX11_feedBytes 11 = .ok (.lload_n 1, 1) := by decide +kernel
theorem dX11_feedBytes_12 : decode cX11_feedBytes 12 = .ok (.iload_n 3, 1) := by decide +kernel
theorem dX11_feedBytes_13 : decode cX11_feedBytes 13 = .ok (.lushr, 1) := by decide +kernel
theorem dX11_feedBytes_14 : decode cX11_feedBytes 14 = .ok (.l2i, 1) := by decide +kernel
theorem dX11_feedBytes_15 : decode cX11_feedBytes 15 = .ok (.sipush 255, 3) := by decide +kernel
theorem dX11_feedBytes_18 : decode cX11_feedBytes 18 = .ok (.iand, 1) := by decide +kernel
theorem dX11_feedBytes_19 : decode cX11_feedBytes 19 = .ok (.invokevirtual 310, 3) := by decide +kernel
theorem dX11_feedBytes_22 : decode cX11_feedBytes 22 = .ok (.iinc 3 (-8), 3) := by decide +kernel
theorem dX11_feedBytes_25 : decode cX11_feedBytes 25 = .ok (.goto (-22), 3) := by decide +kernel
theorem dX11_feedBytes_28 : decode cX11_feedBytes 28 = .ok (.return_, 1) := by decide +kernel
theorem dX11_beginStation_0 : decode cX11_beginStation 0 = .ok (.aload_n 0, 1) := by decide +kernel
theorem dX11_beginStation_1 : decode cX11_beginStation 1 = .ok (.getfield 38, 3) := by decide +kernel
theorem dX11_beginStation_4 : decode cX11_beginStation 4 = .ok (.aload_n 0, 1) := by decide +kernel
theorem dX11_beginStation_5 : decode cX11_beginStation 5 = .ok (.getfield 28, 3) := by decide +kernel
theorem dX11_beginStation_8 : decode cX11_beginStation 8 = .ok (.invokevirtual 312, 3) := by decide +kernel
theorem dX11_beginStation_11 : decode cX11_beginStation 11 = .ok (.aload_n 0, 1) := by decide +kernel
theorem dX11_beginStation_12 : decode cX11_beginStation 12 = .ok (.getfield 48, 3) := by decide +kernel
theorem dX11_beginStation_15 : decode cX11_beginStation 15 = .ok (.iconst 0, 1) := by decide +kernel
theorem dX11_beginStation_16 : decode cX11_beginStation 16 = .ok (.putfield 308, 3) := by decide +kernel
theorem dX11_beginStation_19 : decode cX11_beginStation 19 = .ok (.aload_n 0, 1) := by decide +kernel
theorem dX11_beginStation_20 : decode cX11_beginStation 20 = .ok (.getfield 58, 3) := by decide +kernel
theorem dX11_beginStation_23 : decode cX11_beginStation 23 = .ok (.iconst 0, 1) := by decide +kernel
theorem dX11_beginStation_24 : decode cX11_beginStation 24 = .ok (.putfield 309, 3) := by decide +kernel
theorem dX11_beginStation_27 : decode cX11_beginStation 27 = .ok (.aload_n 0, 1) := by decide +kernel
theorem dX11_beginStation_28 : decode cX11_beginStation 28 = .ok (.iconst 0, 1) := by decide +kernel
theorem dX11_beginStation_29 : decode cX11_beginStation 29 = .ok (.putfield 208, 3) := by decide +kernel
theorem dX11_beginStation_32 : decode cX11_beginStation 32 = .ok (.iconst 0, 1) := by decide +kernel
theorem dX11_beginStation_33 : decode cX11_beginStation 33 = .ok (.istore_n 1, 1) := by decide +kernel
theorem dX11_beginStation_34 : decode cX11_beginStation 34 = .ok (.iload_n 1, 1) := by decide +kernel
theorem dX11_beginStation_35 : decode cX11_beginStation 35 = .ok (.iconst 4, 1) := by decide +kernel
theorem dX11_beginStation_36 : decode cX11_beginStation 36 = .ok (.if_icmp .ge 19, 3) := by decide +kernel
theorem dX11_beginStation_39 : decode cX11_beginStation 39 = .ok (.aload_n 0, 1) := by decide +kernel
theorem dX11_beginStation_40 : decode cX11_beginStation 40 = .ok (.getfield 80, 3) := by decide +kernel
theorem dX11_beginStation_43 : decode cX11_beginStation 43 = .ok (.iload_n 1, 1) := by decide +kernel
theorem dX11_beginStation_44 : decode cX11_beginStation 44 = .ok (.aaload, 1) := by decide +kernel
theorem dX11_beginStation_45 : decode cX11_beginStation 45 = .ok (.iconst 0, 1) := by decide +kernel
theorem dX11_beginStation_46 : decode cX11_beginStation 46 = .ok (.putfield 291, 3) := by decide +kernel
theorem dX11_beginStation_49 : decode cX11_beginStation 49 = .ok (.iinc 1 1, 3) := by decide +kernel
theorem dX11_beginStation_52 : decode cX11_beginStation 52 = .ok (.goto (-18), 3) := by decide +kernel
theorem dX11_beginStation_55 : decode cX11_beginStation 55 = .ok (.return_, 1) := by decide +kernel
theorem dX11_isPasser_0 : decode cX11_isPasser 0 = .ok (.iload_n 1, 1) := by decide +kernel
theorem dX11_isPasser_1 : decode cX11_isPasser 1 = .ok (.ifCond .lt 24, 3) := by decide +kernel
theorem dX11_isPasser_4 : decode cX11_isPasser 4 = .ok (.iload_n 1, 1) := by decide +kernel
theorem dX11_isPasser_5 : decode cX11_isPasser 5 = .ok (.aload_n 0, 1) := by decide +kernel
theorem dX11_isPasser_6 : decode cX11_isPasser 6 = .ok (.getfield 28, 3) := by decide +kernel
theorem dX11_isPasser_9 : decode cX11_isPasser 9 = .ok (.getfield 173, 3) := by decide +kernel
theorem dX11_isPasser_12 : decode cX11_isPasser 12 = .ok (.if_icmp .ge 13, 3) := by decide +kernel
theorem dX11_isPasser_15 : decode cX11_isPasser 15 = .ok (.iload_n 1, 1) := by decide +kernel
theorem dX11_isPasser_16 : decode cX11_isPasser 16 = .ok (.bipush 7, 2) := by decide +kernel
theorem dX11_isPasser_18 : decode cX11_isPasser 18 = .ok (.if_icmp .ge 7, 3) := by decide +kernel
theorem dX11_isPasser_21 : decode cX11_isPasser 21 = .ok (.iconst 1, 1) := by decide +kernel
theorem dX11_isPasser_22 : decode cX11_isPasser 22 = .ok (.goto 4, 3) := by decide +kernel
theorem dX11_isPasser_25 : decode cX11_isPasser 25 = .ok (.iconst 0, 1) := by decide +kernel
theorem dX11_isPasser_26 : decode cX11_isPasser 26 = .ok (.ireturn, 1) := by decide +kernel
theorem dX11_isKey_0 : decode cX11_isKey 0 = .ok (.iload_n 0, 1) := by decide +kernel
theorem dX11_isKey_1 : decode cX11_isKey 1 = .ok (.ifCond .lt 13, 3) := by decide +kernel
theorem dX11_isKey_4 : decode cX11_isKey 4 = .ok (.iload_n 0, 1) := by decide +kernel
theorem dX11_isKey_5 : decode cX11_isKey 5 = .ok (.bipush 12, 2) := by decide +kernel
theorem dX11_isKey_7 : decode cX11_isKey 7 = .ok (.if_icmp .ge 7, 3) := by decide +kernel
theorem dX11_isKey_10 : decode cX11_isKey 10 = .ok (.iconst 1, 1) := by decide +kernel
theorem dX11_isKey_11 : decode cX11_isKey 11 = .ok (.goto 4, 3) := by decide +kernel
theorem dX11_isKey_14 : decode cX11_isKey 14 = .ok (.iconst 0, 1) := by decide +kernel
theorem dX11_isKey_15 : decode cX11_isKey 15 = .ok (.ireturn, 1) := by decide +kernel
theorem dX11_isEach_0 : decode cX11_isEach 0 = .ok (.iload_n 0, 1) := by decide +kernel
theorem dX11_isEach_1 : decode cX11_isEach 1 = .ok (.iconst 1, 1) := by decide +kernel
theorem dX11_isEach_2 : decode cX11_isEach 2 = .ok (.if_icmp .lt 13, 3) := by decide +kernel
theorem dX11_isEach_5 : decode cX11_isEach 5 = .ok (.iload_n 0, 1) := by decide +kernel
theorem dX11_isEach_6 : decode cX11_isEach 6 = .ok (.bipush 30, 2) := by decide +kernel
theorem dX11_isEach_8 : decode cX11_isEach 8 = .ok (.if_icmp .gt 7, 3) := by decide +kernel
theorem dX11_isEach_11 : decode cX11_isEach 11 = .ok (.iconst 1, 1) := by decide +kernel
theorem dX11_isEach_12 : decode cX11_isEach 12 = .ok (.goto 4, 3) := by decide +kernel
theorem dX11_isEach_15 : decode cX11_isEach 15 = .ok (.iconst 0, 1) := by decide +kernel
theorem dX11_isEach_16 : decode cX11_isEach 16 = .ok (.ireturn, 1) := by decide +kernel
theorem dX11_isDigit_0 : decode cX11_isDigit 0 = .ok (.iload_n 0, 1) := by decide +kernel
theorem dX11_isDigit_1 : decode cX11_isDigit 1 = .ok (.ifCond .lt 13, 3) := by decide +kernel
theorem dX11_isDigit_4 : decode cX11_isDigit 4 = .ok (.iload_n 0, 1) := by decide +kernel
theorem dX11_isDigit_5 : decode cX11_isDigit 5 = .ok (.bipush 9, 2) := by decide +kernel
theorem dX11_isDigit_7 : decode cX11_isDigit 7 = .ok (.if_icmp .gt 7, 3) := by decide +kernel
theorem dX11_isDigit_10 : decode cX11_isDigit 10 = .ok (.iconst 1, 1) := by decide +kernel
theorem dX11_isDigit_11 : decode cX11_isDigit 11 = .ok (.goto 4, 3) := by decide +kernel
theorem dX11_isDigit_14 : decode cX11_isDigit 14 = .ok (.iconst 0, 1) := by decide +kernel
theorem dX11_isDigit_15 : decode cX11_isDigit 15 = .ok (.ireturn, 1) := by decide +kernel
theorem dX11_remember_0 : decode cX11_remember 0 = .ok (.aload_n 0, 1) := by decide +kernel
theorem dX11_remember_1 : decode cX11_remember 1 = .ok (.getfield 211, 3) := by decide +kernel
theorem dX11_remember_4 : decode cX11_remember 4 = .ok (.ifCond .lt 12, 3) := by decide +kernel
theorem dX11_remember_7 : decode cX11_remember 7 = .ok (.aload_n 0, 1) := by decide +kernel
theorem dX11_remember_8 : decode cX11_remember 8 = .ok (.getfield 211, 3) := by decide +kernel
theorem dX11_remember_11 : decode cX11_remember 11 = .ok (.bipush 16, 2) := by decide +kernel
theorem dX11_remember_13 : decode cX11_remember 13 = .ok (.if_icmp .lt 8, 3) := by decide +kernel
theorem dX11_remember_16 : decode cX11_remember 16 = .ok (.aload_n 0, 1) := by decide +kernel
theorem dX11_remember_17 : decode cX11_remember 17 = .ok (.iconst 0, 1) := by decide +kernel
theorem dX11_remember_18 : decode cX11_remember 18 = .ok (.putfield 211, 3) := by decide +kernel
theorem dX11_remember_21 : decode cX11_remember 21 = .ok (.aload_n 0, 1) := by decide +kernel
theorem dX11_remember_22 : decode cX11_remember 22 = .ok (.getfield 85, 3) := by decide +kernel
theorem dX11_remember_25 : decode cX11_remember 25 = .ok (.aload_n 0, 1) := by decide +kernel
theorem dX11_remember_26 : decode cX11_remember 26 = .ok (.getfield 211, 3) := by decide +kernel
theorem dX11_remember_29 : decode cX11_remember 29 = .ok (.aaload, 1) := by decide +kernel
theorem dX11_remember_30 : decode cX11_remember 30 = .ok (.aload_n 0, 1) := by decide +kernel
theorem dX11_remember_31 : decode cX11_remember 31 = .ok (.getfield 38, 3) := by decide +kernel
theorem dX11_remember_34 : decode cX11_remember 34 = .ok (.invokevirtual 214, 3) := by decide +kernel
theorem dX11_remember_37 : decode cX11_remember 37 = .ok (.aload_n 0, 1) := by decide +kernel
theorem dX11_remember_38 : decode cX11_remember 38 = .ok (.aload_n 0, 1) := by decide +kernel
theorem dX11_remember_39 : decode cX11_remember 39 = .ok (.getfield 211, 3) := by decide +kernel
theorem dX11_remember_42 : decode cX11_remember 42 = .ok (.iconst 1, 1) := by decide +kernel
theorem dX11_remember_43 : decode cX11_remember 43 = .ok (.iadd, 1) := by decide +kernel
theorem dX11_remember_44 : decode cX11_remember 44 = .ok (.bipush 16, 2) := by decide +kernel
theorem dX11_remember_46 : decode cX11_remember 46 = .ok (.if_icmp .ge 12, 3) := by decide +kernel
theorem dX11_remember_49 : decode cX11_remember 49 = .ok (.aload_n 0, 1) := by decide +kernel
theorem dX11_remember_50 : decode cX11_remember 50 = .ok (.getfield 211, 3) := by decide +kernel
theorem dX11_remember_53 : decode cX11_remember 53 = .ok (.iconst 1, 1) := by decide +kernel
theorem dX11_remember_54 : decode cX11_remember 54 = .ok (.iadd, 1) := by decide +kernel
theorem dX11_remember_55 : decode cX11_remember 55 = .ok (.goto 4, 3) := by decide +kernel
theorem dX11_remember_58 : decode cX11_remember 58 = .ok (.iconst 0, 1) := by decide +kernel
theorem dX11_remember_59 : decode cX11_remember 59 = .ok (.putfield 211, 3) := by decide +kernel
theorem dX11_remember_62 : decode cX11_remember 62 = .ok (.aload_n 0, 1) := by decide +kernel
theorem dX11_remember_63 : decode cX11_remember 63 = .ok (.bipush 16, 2) := by decide +kernel
theorem dX11_remember_65 : decode cX11_remember 65 = .ok (.aload_n 0, 1) := by decide +kernel
theorem dX11_remember_66 : decode cX11_remember 66 = .ok (.getfield 208, 3) := by decide +kernel
theorem dX11_remember_69 : decode cX11_remember 69 = .ok (.iconst 1, 1) := by decide +kernel
theorem dX11_remember_70 : decode cX11_remember 70 = .ok (.iadd, 1) := by decide +kernel
theorem dX11_remember_71 : decode cX11_remember 71 = .ok (.invokestatic 230, 3) := by decide +kernel
theorem dX11_remember_74 : decode cX11_remember 74 = .ok (.putfield 208, 3) := by decide +kernel
theorem dX11_remember_77 : decode cX11_remember 77 = .ok (.return_, 1) := by decide +kernel
theorem dX11_tryDay_0 : decode cX11_tryDay 0 = .ok (.aload_n 0, 1) := by decide +kernel
theorem dX11_tryDay_1 : decode cX11_tryDay 1 = .ok (.getfield 42, 3) := by decide +kernel
theorem dX11_tryDay_4 : decode cX11_tryDay 4 = .ok (.aload_n 0, 1) := by decide +kernel
theorem dX11_tryDay_5 : decode cX11_tryDay 5 = .ok (.getfield 38, 3) := by decide +kernel
theorem dX11_tryDay_8 : decode cX11_tryDay 8 = .ok (.invokevirtual 214, 3) := by decide +kernel
theorem dX11_tryDay_11 : decode cX11_tryDay 11 = .ok (.aload_n 0, 1) := by decide +kernel
theorem dX11_tryDay_12 : decode cX11_tryDay 12 = .ok (.getfield 74, 3) := by decide +kernel
theorem dX11_tryDay_15 : decode cX11_tryDay 15 = .ok (.aload_n 0, 1) := by decide +kernel
theorem dX11_tryDay_16 : decode cX11_tryDay 16 = .ok (.getfield 28, 3) := by decide +kernel
theorem dX11_tryDay_19 : decode cX11_tryDay 19 = .ok (.aload_n 0, 1) := by decide +kernel
theorem dX11_tryDay_20 : decode cX11_tryDay 20 = .ok (.getfield 42, 3) := by decide +kernel
theorem dX11_tryDay_23 : decode cX11_tryDay 23 = .ok (.getfield 138, 3) := by decide +kernel
theorem dX11_tryDay_26 : decode cX11_tryDay 26 = .ok (.invokevirtual 179, 3) := by decide +kernel
theorem dX11_tryDay_29 : decode cX11_tryDay 29 = .ok (.aload_n 0, 1) := by decide +kernel
theorem dX11_tryDay_30 : decode cX11_tryDay 30 = .ok (.getfield 74, 3) := by decide +kernel
theorem dX11_tryDay_33 : decode cX11_tryDay 33 = .ok (.aload_n 0, 1) := by decide +kernel
theorem dX11_tryDay_34 : decode cX11_tryDay 34 = .ok (.getfield 42, 3) := by decide +kernel
theorem dX11_tryDay_37 : decode cX11_tryDay 37 = .ok (.iload_n 1, 1) := by decide +kernel
theorem dX11_tryDay_38 : decode cX11_tryDay 38 = .ok (.invokevirtual 183, 3) := by decide +kernel
theorem dX11_tryDay_41 : decode cX11_tryDay 41 = .ok (.aload_n 0, 1) := by decide +kernel
theorem dX11_tryDay_42 : decode cX11_tryDay 42 = .ok (.getfield 74, 3) := by decide +kernel
theorem dX11_tryDay_45 : decode cX11_tryDay 45 = .ok (.getfield 190, 3) := by decide +kernel
theorem dX11_tryDay_48 : decode cX11_tryDay 48 = .ok (.ireturn, 1) := by decide +kernel
theorem dX11_judgeWeek_0 : decode cX11_judgeWeek 0 = .ok (.iconst (-1), 1) := by decide +kernel
theorem dX11_judgeWeek_1 : decode cX11_judgeWeek 1 = .ok (.istore_n 1, 1) := by decide +kernel
theorem dX11_judgeWeek_2 : decode cX11_judgeWeek 2 = .ok (.iconst 0, 1) := by decide +kernel
theorem dX11_judgeWeek_3 : decode cX11_judgeWeek 3 = .ok (.istore_n 2, 1) := by decide +kernel
theorem dX11_judgeWeek_4 : decode cX11_judgeWeek 4 = .ok (.aload_n 0, 1) := by decide +kernel
theorem dX11_judgeWeek_5 : decode cX11_judgeWeek 5 = .ok (.getfield 42, 3) := by decide +kernel
theorem dX11_judgeWeek_8 : decode cX11_judgeWeek 8 = .ok (.aload_n 0, 1) := by decide +kernel
theorem dX11_judgeWeek_9 : decode cX11_judgeWeek 9 = .ok (.getfield 28, 3) := by decide +kernel
theorem dX11_judgeWeek_12 : decode cX11_judgeWeek 12 = .ok (.invokevirtual 312, 3) := by decide +kernel
theorem dX11_judgeWeek_15 : decode cX11_judgeWeek 15 = .ok (.iconst 0, 1) := by decide +kernel
theorem dX11_judgeWeek_16 : decode cX11_judgeWeek 16 = .ok (.istore_n 3, 1) := by decide +kernel
theorem dX11_judgeWeek_17 : decode cX11_judgeWeek 17 = .ok (.iload_n 3, 1) := by decide +kernel
theorem dX11_judgeWeek_18 : decode cX11_judgeWeek 18 = .ok (.aload_n 0, 1) := by decide +kernel
theorem dX11_judgeWeek_19 : decode cX11_judgeWeek 19 = .ok (.getfield 48, 3) := by decide +kernel
theorem dX11_judgeWeek_22 : decode cX11_judgeWeek 22 = .ok (.getfield 308, 3) := by decide +kernel
theorem dX11_judgeWeek_25 : decode cX11_judgeWeek 25 = .ok (.if_icmp .ge 190, 3) := by decide +kernel
theorem dX11_judgeWeek_28 : decode cX11_judgeWeek 28 = .ok (.iload_n 3, 1) := by decide +kernel
theorem dX11_judgeWeek_29 : decode cX11_judgeWeek 29 = .ok (.bipush 40, 2) := by decide +kernel
theorem dX11_judgeWeek_31 : decode cX11_judgeWeek 31 = .ok (.if_icmp .ge 184, 3) := by decide +kernel
theorem dX11_judgeWeek_34 : decode cX11_judgeWeek 34 = .ok (.aload_n 0, 1) := by decide +kernel
theorem dX11_judgeWeek_35 : decode cX11_judgeWeek 35 = .ok (.getfield 48, 3) := by decide +kernel
theorem dX11_judgeWeek_38 : decode cX11_judgeWeek 38 = .ok (.getfield 315, 3) := by decide +kernel
theorem dX11_judgeWeek_41 : decode cX11_judgeWeek 41 = .ok (.iload_n 3, 1) := by decide +kernel
theorem dX11_judgeWeek_42 : decode cX11_judgeWeek 42 = .ok (.iaload, 1) := by decide +kernel
theorem dX11_judgeWeek_43 : decode cX11_judgeWeek 43 = .ok (.lookupswitch 134 #[(8, 115), (14, 33), (15, 97)], 33) := by decide +kernel
theorem dX11_judgeWeek_76 : decode cX11_judgeWeek 76 = .ok (.aload_n 0, 1) := by decide +kernel
theorem dX11_judgeWeek_77 : decode cX11_judgeWeek 77 = .ok (.getfield 74, 3) := by decide +kernel
theorem dX11_judgeWeek_80 : decode cX11_judgeWeek 80 = .ok (.aload_n 0, 1) := by decide +kernel
theorem dX11_judgeWeek_81 : decode cX11_judgeWeek 81 = .ok (.getfield 28, 3) := by decide +kernel
theorem dX11_judgeWeek_84 : decode cX11_judgeWeek 84 = .ok (.aload_n 0, 1) := by decide +kernel
theorem dX11_judgeWeek_85 : decode cX11_judgeWeek 85 = .ok (.getfield 42, 3) := by decide +kernel
theorem dX11_judgeWeek_88 : decode cX11_judgeWeek 88 = .ok (.getfield 138, 3) := by decide +kernel
theorem dX11_judgeWeek_91 : decode cX11_judgeWeek 91 = .ok (.invokevirtual 179, 3) := by decide +kernel
theorem dX11_judgeWeek_94 : decode cX11_judgeWeek 94 = .ok (.aload_n 0, 1) := by decide +kernel
theorem dX11_judgeWeek_95 : decode cX11_judgeWeek 95 = .ok (.getfield 74, 3) := by decide +kernel
theorem dX11_judgeWeek_98 : decode cX11_judgeWeek 98 = .ok (.aload_n 0, 1) := by decide +kernel
theorem dX11_judgeWeek_99 : decode cX11_judgeWeek 99 = .ok (.getfield 42, 3) := by decide +kernel
theorem dX11_judgeWeek_102 : decode cX11_judgeWeek 102 = .ok (.iconst 0, 1) := by decide +kernel
theorem dX11_judgeWeek_103 : decode cX11_judgeWeek 103 = .ok (.invokevirtual 183, 3) := by decide +kernel
theorem dX11_judgeWeek_106 : decode cX11_judgeWeek 106 = .ok (.iload_n 2, 1) := by decide +kernel
theorem dX11_judgeWeek_107 : decode cX11_judgeWeek 107 = .ok (.aload_n 0, 1) := by decide +kernel
theorem dX11_judgeWeek_108 : decode cX11_judgeWeek 108 = .ok (.getfield 74, 3) := by decide +kernel
theorem dX11_judgeWeek_111 : decode cX11_judgeWeek 111 = .ok (.getfield 190, 3) := by decide +kernel
theorem dX11_judgeWeek_114 : decode cX11_judgeWeek 114 = .ok (.iadd, 1) := by decide +kernel
theorem dX11_judgeWeek_115 : decode cX11_judgeWeek 115 = .ok (.istore_n 2, 1) := by decide +kernel
theorem dX11_judgeWeek_116 : decode cX11_judgeWeek 116 = .ok (.iload_n 1, 1) := by decide +kernel
theorem dX11_judgeWeek_117 : decode cX11_judgeWeek 117 = .ok (.iconst (-1), 1) := by decide +kernel
theorem dX11_judgeWeek_118 : decode cX11_judgeWeek 118 = .ok (.if_icmp .ne 17, 3) := by decide +kernel
theorem dX11_judgeWeek_121 : decode cX11_judgeWeek 121 = .ok (.aload_n 0, 1) := by decide +kernel
theorem dX11_judgeWeek_122 : decode cX11_judgeWeek 122 = .ok (.getfield 42, 3) := by decide +kernel
theorem dX11_judgeWeek_125 : decode cX11_judgeWeek 125 = .ok (.invokevirtual 304, 3) := by decide +kernel
theorem dX11_judgeWeek_128 : decode cX11_judgeWeek 128 = .ok (.ifCond .eq 7, 3) := by decide +kernel
theorem dX11_judgeWeek_131 : decode cX11_judgeWeek 131 = .ok (.iload_n 3, 1) := by decide +kernel
theorem dX11_judgeWeek_132 : decode cX11_judgeWeek 132 = .ok (.goto 4, 3) := by decide +kernel
theorem dX11_judgeWeek_135 : decode cX11_judgeWeek 135 = .ok (.iload_n 1, 1) := by decide +kernel
theorem dX11_judgeWeek_136 : decode cX11_judgeWeek 136 = .ok (.istore_n 1, 1) := by decide +kernel
theorem dX11_judgeWeek_137 : decode cX11_judgeWeek 137 = .ok (.goto 72, 3) := by decide +kernel
theorem dX11_judgeWeek_140 : decode cX11_judgeWeek 140 = .ok (.aload_n 0, 1) := by decide +kernel
theorem dX11_judgeWeek_141 : decode cX11_judgeWeek 141 = .ok (.getfield 42, 3) := by decide +kernel
theorem dX11_judgeWeek_144 : decode cX11_judgeWeek 144 = .ok (.aload_n 0, 1) := by decide +kernel
theorem dX11_judgeWeek_145 : decode cX11_judgeWeek 145 = .ok (.getfield 28, 3) := by decide +kernel
theorem dX11_judgeWeek_148 : decode cX11_judgeWeek 148 = .ok (.getfield 193, 3) := by decide +kernel
theorem dX11_judgeWeek_151 : decode cX11_judgeWeek 151 = .ok (.invokevirtual 196, 3) := by decide +kernel
theorem dX11_judgeWeek_154 : decode cX11_judgeWeek 154 = .ok (.pop, 1) := by decide +kernel
theorem dX11_judgeWeek_155 : decode cX11_judgeWeek 155 = .ok (.goto 54, 3) := by decide +kernel
theorem dX11_judgeWeek_158 : decode cX11_judgeWeek 158 = .ok (.aload_n 0, 1) := by decide +kernel
theorem dX11_judgeWeek_159 : decode cX11_judgeWeek 159 = .ok (.getfield 42, 3) := by decide +kernel
theorem dX11_judgeWeek_162 : decode cX11_judgeWeek 162 = .ok (.aload_n 0, 1) := by decide +kernel
theorem dX11_judgeWeek_163 : decode cX11_judgeWeek 163 = .ok (.getfield 48, 3) := by decide +kernel
theorem dX11_judgeWeek_166 : decode cX11_judgeWeek 166 = .ok (.getfield 318, 3) := by decide +kernel
theorem dX11_judgeWeek_169 : decode cX11_judgeWeek 169 = .ok (.iload_n 3, 1) := by decide +kernel
theorem dX11_judgeWeek_170 : decode cX11_judgeWeek 170 = .ok (.iaload, 1) := by decide +kernel
theorem dX11_judgeWeek_171 : decode cX11_judgeWeek 171 = .ok (.putfield 138, 3) := by decide +kernel
theorem dX11_judgeWeek_174 : decode cX11_judgeWeek 174 = .ok (.goto 35, 3) := by decide +kernel
theorem dX11_judgeWeek_177 : decode cX11_judgeWeek 177 = .ok (.aload_n 0, 1) := by decide +kernel
theorem dX11_judgeWeek_178 : decode cX11_judgeWeek 178 = .ok (.getfield 42, 3) := by decide +kernel
theorem dX11_judgeWeek_181 : decode cX11_judgeWeek 181 = .ok (.aload_n 0, 1) := by decide +kernel
theorem dX11_judgeWeek_182 : decode cX11_judgeWeek 182 = .ok (.getfield 48, 3) := by decide +kernel
theorem dX11_judgeWeek_185 : decode cX11_judgeWeek 185 = .ok (.getfield 318, 3) := by decide +kernel
theorem dX11_judgeWeek_188 : decode cX11_judgeWeek 188 = .ok (.iload_n 3, 1) := by decide +kernel
theorem dX11_judgeWeek_189 : decode cX11_judgeWeek 189 = .ok (.iaload, 1) := by decide +kernel
theorem dX11_judgeWeek_190 : decode cX11_judgeWeek 190 = .ok (.putfield 202, 3) := by decide +kernel
theorem dX11_judgeWeek_193 : decode cX11_judgeWeek 193 = .ok (.aload_n 0, 1) := by decide +kernel
theorem dX11_judgeWeek_194 : decode cX11_judgeWeek 194 = .ok (.getfield 42, 3) := by decide +kernel
theorem dX11_judgeWeek_197 : decode cX11_judgeWeek 197 = .ok (.aload_n 0, 1) := by decide +kernel
theorem dX11_judgeWeek_198 : decode cX11_judgeWeek 198 = .ok (.getfield 48, 3) := by decide +kernel
theorem dX11_judgeWeek_201 : decode cX11_judgeWeek 201 = .ok (.getfield 321, 3) := by decide +kernel
theorem dX11_judgeWeek_204 : decode cX11_judgeWeek 204 = .ok (.iload_n 3, 1) := by decide +kernel
theorem dX11_judgeWeek_205 : decode cX11_judgeWeek 205 = .ok (.iaload, 1) := by decide +kernel
theorem dX11_judgeWeek_206 : decode cX11_judgeWeek 206 = .ok (.putfield 205, 3) := by decide +kernel
theorem dX11_judgeWeek_209 : decode cX11_judgeWeek 209 = .ok (.iinc 3 1, 3) := by decide +kernel
theorem dX11_judgeWeek_212 : decode cX11_judgeWeek 212 = .ok (.goto (-195), 3) := by decide +kernel
theorem dX11_judgeWeek_215 : decode cX11_judgeWeek 215 = .ok (.aload_n 0, 1) := by decide +kernel
theorem dX11_judgeWeek_216 : decode cX11_judgeWeek 216 = .ok (.getfield 89, 3) := by decide +kernel
theorem dX11_judgeWeek_219 : decode cX11_judgeWeek 219 = .ok (.iconst 0, 1) := by decide +kernel
theorem dX11_judgeWeek_220 : decode cX11_judgeWeek 220 = .ok (.iload_n 1, 1) := by decide +kernel
theorem dX11_judgeWeek_221 : decode cX11_judgeWeek 221 = .ok (.iastore, 1) := by decide +kernel
theorem dX11_judgeWeek_222 : decode cX11_judgeWeek 222 = .ok (.aload_n 0, 1) := by decide +kernel
theorem dX11_judgeWeek_223 : decode cX11_judgeWeek 223 = .ok (.getfield 89, 3) := by decide +kernel
theorem dX11_judgeWeek_226 : decode cX11_judgeWeek 226 = .ok (.iconst 1, 1) := by decide +kernel
theorem dX11_judgeWeek_227 : decode cX11_judgeWeek 227 = .ok (.iload_n 2, 1) := by decide +kernel
theorem dX11_judgeWeek_228 : decode cX11_judgeWeek 228 = .ok (.iastore, 1) := by decide +kernel
theorem dX11_judgeWeek_229 : decode cX11_judgeWeek 229 = .ok (.aload_n 0, 1) := by decide +kernel
theorem dX11_judgeWeek_230 : decode cX11_judgeWeek 230 = .ok (.getfield 89, 3) := by decide +kernel
theorem dX11_judgeWeek_233 : decode cX11_judgeWeek 233 = .ok (.iconst 2, 1) := by decide +kernel
theorem dX11_judgeWeek_234 : decode cX11_judgeWeek 234 = .ok (.aload_n 0, 1) := by decide +kernel
theorem dX11_judgeWeek_235 : decode cX11_judgeWeek 235 = .ok (.getfield 42, 3) := by decide +kernel
theorem dX11_judgeWeek_238 : decode cX11_judgeWeek 238 = .ok (.getfield 301, 3) := by decide +kernel
theorem dX11_judgeWeek_241 : decode cX11_judgeWeek 241 = .ok (.iastore, 1) := by decide +kernel
theorem dX11_judgeWeek_242 : decode cX11_judgeWeek 242 = .ok (.return_, 1) := by decide +kernel
theorem dX11_searchEach_0 : decode cX11_searchEach 0 = .ok (.aload_n 0, 1) := by decide +kernel
theorem dX11_searchEach_1 : decode cX11_searchEach 1 = .ok (.getfield 89, 3) := by decide +kernel
theorem dX11_searchEach_4 : decode cX11_searchEach 4 = .ok (.iconst 0, 1) := by decide +kernel
theorem dX11_searchEach_5 : decode cX11_searchEach 5 = .ok (.iconst (-1), 1) := by decide +kernel
theorem dX11_searchEach_6 : decode cX11_searchEach 6 = .ok (.iastore, 1) := by decide +kernel
theorem dX11_searchEach_7 : decode cX11_searchEach 7 = .ok (.iconst 1, 1) := by decide +kernel
theorem dX11_searchEach_8 : decode cX11_searchEach 8 = .ok (.istore_n 1, 1) := by decide +kernel
theorem dX11_searchEach_9 : decode cX11_searchEach 9 = .ok (.iload_n 1, 1) := by decide +kernel
theorem dX11_searchEach_10 : decode cX11_searchEach 10 = .ok (.bipush 30, 2) := by decide +kernel
theorem dX11_searchEach_12 : decode cX11_searchEach 12 = .ok (.if_icmp .gt 90, 3) := by decide +kernel
theorem dX11_searchEach_15 : decode cX11_searchEach 15 = .ok (.aload_n 0, 1) := by decide +kernel
theorem dX11_searchEach_16 : decode cX11_searchEach 16 = .ok (.getfield 42, 3) := by decide +kernel
theorem dX11_searchEach_19 : decode cX11_searchEach 19 = .ok (.aload_n 0, 1) := by decide +kernel
theorem dX11_searchEach_20 : decode cX11_searchEach 20 = .ok (.getfield 38, 3) := by decide +kernel
theorem dX11_searchEach_23 : decode cX11_searchEach 23 = .ok (.invokevirtual 214, 3) := by decide +kernel
theorem dX11_searchEach_26 : decode cX11_searchEach 26 = .ok (.aload_n 0, 1) := by decide +kernel
theorem dX11_searchEach_27 : decode cX11_searchEach 27 = .ok (.getfield 74, 3) := by decide +kernel
theorem dX11_searchEach_30 : decode cX11_searchEach 30 = .ok (.aload_n 0, 1) := by decide +kernel
theorem dX11_searchEach_31 : decode cX11_searchEach 31 = .ok (.getfield 28, 3) := by decide +kernel
theorem dX11_searchEach_34 : decode cX11_searchEach 34 = .ok (.iload_n 1, 1) := by decide +kernel
theorem dX11_searchEach_35 : decode cX11_searchEach 35 = .ok (.invokevirtual 179, 3) := by decide +kernel
theorem dX11_searchEach_38 : decode cX11_searchEach 38 = .ok (.aload_n 0, 1) := by decide +kernel
theorem dX11_searchEach_39 : decode cX11_searchEach 39 = .ok (.getfield 74, 3) := by decide +kernel
theorem dX11_searchEach_42 : decode cX11_searchEach 42 = .ok (.aload_n 0, 1) := by decide +kernel
theorem dX11_searchEach_43 : decode cX11_searchEach 43 = .ok (.getfield 42, 3) := by decide +kernel
theorem dX11_searchEach_46 : decode cX11_searchEach 46 = .ok (.iconst 0, 1) := by decide +kernel
theorem dX11_searchEach_47 : decode cX11_searchEach 47 = .ok (.invokevirtual 183, 3) := by decide +kernel
theorem dX11_searchEach_50 : decode cX11_searchEach 50 = .ok (.aload_n 0, 1) := by decide +kernel
theorem dX11_searchEach_51 : decode cX11_searchEach 51 = .ok (.getfield 89, 3) := by decide +kernel
theorem dX11_searchEach_54 : decode cX11_searchEach 54 = .ok (.iconst 0, 1) := by decide +kernel
theorem dX11_searchEach_55 : decode cX11_searchEach 55 = .ok (.iaload, 1) := by decide +kernel
theorem dX11_searchEach_56 : decode cX11_searchEach 56 = .ok (.iconst (-1), 1) := by decide +kernel
theorem dX11_searchEach_57 : decode cX11_searchEach 57 = .ok (.if_icmp .eq 19, 3) := by decide +kernel
theorem dX11_searchEach_60 : decode cX11_searchEach 60 = .ok (.aload_n 0, 1) := by decide +kernel
theorem dX11_searchEach_61 : decode cX11_searchEach 61 = .ok (.getfield 74, 3) := by decide +kernel
theorem dX11_searchEach_64 : decode cX11_searchEach 64 = .ok (.getfield 190, 3) := by decide +kernel
theorem dX11_searchEach_67 : decode cX11_searchEach 67 = .ok (.aload_n 0, 1) := by decide +kernel
theorem dX11_searchEach_68 : decode cX11_searchEach 68 = .ok (.getfield 89, 3) := by decide +kernel
theorem dX11_searchEach_71 : decode cX11_searchEach 71 = .ok (.iconst 1, 1) := by decide +kernel
theorem dX11_searchEach_72 : decode cX11_searchEach 72 = .ok (.iaload, 1) := by decide +kernel
theorem dX11_searchEach_73 : decode cX11_searchEach 73 = .ok (.if_icmp .le 23, 3) := by decide +kernel
theorem dX11_searchEach_76 : decode cX11_searchEach 76 = .ok (.aload_n 0, 1) := by decide +kernel
theorem dX11_searchEach_77 : decode cX11_searchEach 77 = .ok (.getfield 89, 3) := by decide +kernel
theorem dX11_searchEach_80 : decode cX11_searchEach 80 = .ok (.iconst 0, 1) := by decide +kernel
theorem dX11_searchEach_81 : decode cX11_searchEach 81 = .ok (.iload_n 1, 1) := by decide +kernel
theorem dX11_searchEach_82 : decode cX11_searchEach 82 = .ok (.iastore, 1) := by decide +kernel
theorem dX11_searchEach_83 : decode cX11_searchEach 83 = .ok (.aload_n 0, 1) := by decide +kernel
theorem dX11_searchEach_84 : decode cX11_searchEach 84 = .ok (.getfield 89, 3) := by decide +kernel
theorem dX11_searchEach_87 : decode cX11_searchEach 87 = .ok (.iconst 1, 1) := by decide +kernel
theorem dX11_searchEach_88 : decode cX11_searchEach 88 = .ok (.aload_n 0, 1) := by decide +kernel
theorem dX11_searchEach_89 : decode cX11_searchEach 89 = .ok (.getfield 74, 3) := by decide +kernel
theorem dX11_searchEach_92 : decode cX11_searchEach 92 = .ok (.getfield 190, 3) := by decide +kernel
theorem dX11_searchEach_95 : decode cX11_searchEach 95 = .ok (.iastore, 1) := by decide +kernel
theorem dX11_searchEach_96 : decode cX11_searchEach 96 = .ok (.iinc 1 1, 3) := by decide +kernel
theorem dX11_searchEach_99 : decode cX11_searchEach 99 = .ok (.goto (-90), 3) := by decide +kernel
theorem dX11_searchEach_102 : decode cX11_searchEach 102 = .ok (.return_, 1) := by decide +kernel
theorem dX11_searchMending_0 : decode cX11_searchMending 0 = .ok (.aload_n 0, 1) := by decide +kernel
theorem dX11_searchMending_1 : decode cX11_searchMending 1 = .ok (.getfield 74, 3) := by decide +kernel
theorem dX11_searchMending_4 : decode cX11_searchMending 4 = .ok (.aload_n 0, 1) := by decide +kernel
theorem dX11_searchMending_5 : decode cX11_searchMending 5 = .ok (.getfield 28, 3) := by decide +kernel
theorem dX11_searchMending_8 : decode cX11_searchMending 8 = .ok (.aload_n 0, 1) := by decide +kernel
theorem dX11_searchMending_9 : decode cX11_searchMending 9 = .ok (.getfield 38, 3) := by decide +kernel
theorem dX11_searchMending_12 : decode cX11_searchMending 12 = .ok (.getfield 138, 3) := by decide +kernel
theorem dX11_searchMending_15 : decode cX11_searchMending 15 = .ok (.invokevirtual 179, 3) := by decide +kernel
theorem dX11_searchMending_18 : decode cX11_searchMending 18 = .ok (.aload_n 0, 1) := by decide +kernel
theorem dX11_searchMending_19 : decode cX11_searchMending 19 = .ok (.getfield 89, 3) := by decide +kernel
theorem dX11_searchMending_22 : decode cX11_searchMending 22 = .ok (.iconst 0, 1) := by decide +kernel
theorem dX11_searchMending_23 : decode cX11_searchMending 23 = .ok (.aload_n 0, 1) := by decide +kernel
theorem dX11_searchMending_24 : decode cX11_searchMending 24 = .ok (.iload_n 1, 1) := by decide +kernel
theorem dX11_searchMending_25 : decode cX11_searchMending 25 = .ok (.iconst 0, 1) := by decide +kernel
theorem dX11_searchMending_26 : decode cX11_searchMending 26 = .ok (.invokevirtual 324, 3) := by decide +kernel
theorem dX11_searchMending_29 : decode cX11_searchMending 29 = .ok (.iastore, 1) := by decide +kernel
theorem dX11_searchMending_30 : decode cX11_searchMending 30 = .ok (.aload_n 0, 1) := by decide +kernel
theorem dX11_searchMending_31 : decode cX11_searchMending 31 = .ok (.getfield 89, 3) := by decide +kernel
theorem dX11_searchMending_34 : decode cX11_searchMending 34 = .ok (.iconst 1, 1) := by decide +kernel
theorem dX11_searchMending_35 : decode cX11_searchMending 35 = .ok (.iconst 0, 1) := by decide +kernel
theorem dX11_searchMending_36 : decode cX11_searchMending 36 = .ok (.iastore, 1) := by decide +kernel
theorem dX11_searchMending_37 : decode cX11_searchMending 37 = .ok (.iconst 1, 1) := by decide +kernel
theorem dX11_searchMending_38 : decode cX11_searchMending 38 = .ok (.istore_n 2, 1) := by decide +kernel
theorem dX11_searchMending_39 : decode cX11_searchMending 39 = .ok (.iload_n 2, 1) := by decide +kernel
theorem dX11_searchMending_40 : decode cX11_searchMending 40 = .ok (.iload_n 1, 1) := by decide +kernel
theorem dX11_searchMending_41 : decode cX11_searchMending 41 = .ok (.if_icmp .gt 49, 3) := by decide +kernel
theorem dX11_searchMending_44 : decode cX11_searchMending 44 = .ok (.aload_n 0, 1) := by decide +kernel
theorem dX11_searchMending_45 : decode cX11_searchMending 45 = .ok (.iload_n 1, 1) := by decide +kernel
theorem dX11_searchMending_46 : decode cX11_searchMending 46 = .ok (.iload_n 2, 1) := by decide +kernel
theorem dX11_searchMending_47 : decode cX11_searchMending 47 = .ok (.invokevirtual 324, 3) := by decide +kernel
theorem dX11_searchMending_50 : decode cX11_searchMending 50 = .ok (.istore_n 3, 1) := by decide +kernel
theorem dX11_searchMending_51 : decode cX11_searchMending 51 = .ok (.iload_n 3, 1) := by decide +kernel
theorem dX11_searchMending_52 : decode cX11_searchMending 52 = .ok (.aload_n 0, 1) := by decide +kernel
theorem dX11_searchMending_53 : decode cX11_searchMending 53 = .ok (.getfield 89, 3) := by decide +kernel
theorem dX11_searchMending_56 : decode cX11_searchMending 56 = .ok (.iconst 0, 1) := by decide +kernel
theorem dX11_searchMending_57 : decode cX11_searchMending 57 = .ok (.iaload, 1) := by decide +kernel
theorem dX11_searchMending_58 : decode cX11_searchMending 58 = .ok (.if_icmp .le 26, 3) := by decide +kernel
theorem dX11_searchMending_61 : decode cX11_searchMending 61 = .ok (.aload_n 0, 1) := by decide +kernel
theorem dX11_searchMending_62 : decode cX11_searchMending 62 = .ok (.getfield 89, 3) := by decide +kernel
theorem dX11_searchMending_65 : decode cX11_searchMending 65 = .ok (.iconst 0, 1) := by decide +kernel
theorem dX11_searchMending_66 : decode cX11_searchMending 66 = .ok (.iload_n 3, 1) := by decide +kernel
theorem dX11_searchMending_67 : decode cX11_searchMending 67 = .ok (.iastore, 1) := by decide +kernel
theorem dX11_searchMending_68 : decode cX11_searchMending 68 = .ok (.aload_n 0, 1) := by decide +kernel
theorem dX11_searchMending_69 : decode cX11_searchMending 69 = .ok (.getfield 89, 3) := by decide +kernel
theorem dX11_searchMending_72 : decode cX11_searchMending 72 = .ok (.iconst 1, 1) := by decide +kernel
theorem dX11_searchMending_73 : decode cX11_searchMending 73 = .ok (.iload_n 2, 1) := by decide +kernel
theorem dX11_searchMending_74 : decode cX11_searchMending 74 = .ok (.iload_n 1, 1) := by decide +kernel
theorem dX11_searchMending_75 : decode cX11_searchMending 75 = .ok (.if_icmp .ge 7, 3) := by decide +kernel
theorem dX11_searchMending_78 : decode cX11_searchMending 78 = .ok (.iload_n 2, 1) := by decide +kernel
theorem dX11_searchMending_79 : decode cX11_searchMending 79 = .ok (.goto 4, 3) := by decide +kernel
theorem dX11_searchMending_82 : decode cX11_searchMending 82 = .ok (.iconst (-1), 1) := by decide +kernel
theorem dX11_searchMending_83 : decode cX11_searchMending 83 = .ok (.iastore, 1) := by decide +kernel
theorem dX11_searchMending_84 : decode cX11_searchMending 84 = .ok (.iinc 2 1, 3) := by decide +kernel
theorem dX11_searchMending_87 : decode cX11_searchMending 87 = .ok (.goto (-48), 3) := by decide +kernel
theorem dX11_searchMending_90 : decode cX11_searchMending 90 = .ok (.return_, 1) := by decide +kernel
theorem dX11_joyMendedAhead_0 : decode cX11_joyMendedAhead 0 = .ok (.aload_n 0, 1) := by decide +kernel
theorem dX11_joyMendedAhead_1 : decode cX11_joyMendedAhead 1 = .ok (.getfield 42, 3) := by decide +kernel
theorem dX11_joyMendedAhead_4 : decode cX11_joyMendedAhead 4 = .ok (.aload_n 0, 1) := by decide +kernel
theorem dX11_joyMendedAhead_5 : decode cX11_joyMendedAhead 5 = .ok (.getfield 38, 3) := by decide +kernel
theorem dX11_joyMendedAhead_8 : decode cX11_joyMendedAhead 8 = .ok (.invokevirtual 214, 3) := by decide +kernel
theorem dX11_joyMendedAhead_11 : decode cX11_joyMendedAhead 11 = .ok (.aload_n 0, 1) := by decide +kernel
theorem dX11_joyMendedAhead_12 : decode cX11_joyMendedAhead 12 = .ok (.getfield 42, 3) := by decide +kernel
theorem dX11_joyMendedAhead_15 : decode cX11_joyMendedAhead 15 = .ok (.iconst 0, 1) := by decide +kernel
theorem dX11_joyMendedAhead_16 : decode cX11_joyMendedAhead 16 = .ok (.putfield 301, 3) := by decide +kernel
theorem dX11_joyMendedAhead_19 : decode cX11_joyMendedAhead 19 = .ok (.iconst 0, 1) := by decide +kernel
theorem dX11_joyMendedAhead_20 : decode cX11_joyMendedAhead 20 = .ok (.istore_n 3, 1) := by decide +kernel
theorem dX11_joyMendedAhead_21 : decode cX11_joyMendedAhead 21 = .ok (.iconst 0, 1) := by decide +kernel
theorem dX11_joyMendedAhead_22 : decode cX11_joyMendedAhead 22 = .ok (.istore 4, 2) := by decide +kernel
theorem dX11_joyMendedAhead_24 : decode cX11_joyMendedAhead 24 = .ok (.iload 4, 2) := by decide +kernel
theorem dX11_joyMendedAhead_26 : decode cX11_joyMendedAhead 26 = .ok (.iload_n 1, 1) := by decide +kernel
theorem dX11_joyMendedAhead_27 : decode cX11_joyMendedAhead 27 = .ok (.if_icmp .ge 52, 3) := by decide +kernel
theorem dX11_joyMendedAhead_30 : decode cX11_joyMendedAhead 30 = .ok (.iload 4, 2) := by decide +kernel
theorem dX11_joyMendedAhead_32 : decode cX11_joyMendedAhead 32 = .ok (.iload_n 2, 1) := by decide +kernel
theorem dX11_joyMendedAhead_33 : decode cX11_joyMendedAhead 33 = .ok (.if_icmp .ne 18, 3) := by decide +kernel
theorem dX11_joyMendedAhead_36 : decode cX11_joyMendedAhead 36 = .ok (.aload_n 0, 1) := by decide +kernel
theorem dX11_joyMendedAhead_37 : decode cX11_joyMendedAhead 37 = .ok (.getfield 42, 3) := by decide +kernel
theorem dX11_joyMendedAhead_40 : decode cX11_joyMendedAhead 40 = .ok (.aload_n 0, 1) := by decide +kernel
theorem dX11_joyMendedAhead_41 : decode cX11_joyMendedAhead 41 = .ok (.getfield 28, 3) := by decide +kernel
theorem dX11_joyMendedAhead_44 : decode cX11_joyMendedAhead 44 = .ok (.getfield 193, 3) := by decide +kernel
theorem dX11_joyMendedAhead_47 : decode cX11_joyMendedAhead 47 = .ok (.invokevirtual 196, 3) := by decide +kernel
theorem dX11_joyMendedAhead_50 : decode cX11_joyMendedAhead 50 = .ok (.pop, 1) := by decide +kernel
theorem dX11_joyMendedAhead_51 : decode cX11_joyMendedAhead 51 = .ok (.aload_n 0, 1) := by decide +kernel
theorem dX11_joyMendedAhead_52 : decode cX11_joyMendedAhead 52 = .ok (.getfield 74, 3) := by decide +kernel
theorem dX11_joyMendedAhead_55 : decode cX11_joyMendedAhead 55 = .ok (.aload_n 0, 1) := by decide +kernel
theorem dX11_joyMendedAhead_56 : decode cX11_joyMendedAhead 56 = .ok (.getfield 42, 3) := by decide +kernel
theorem dX11_joyMendedAhead_59 : decode cX11_joyMendedAhead 59 = .ok (.iconst 0, 1) := by decide +kernel
theorem dX11_joyMendedAhead_60 : decode cX11_joyMendedAhead 60 = .ok (.invokevirtual 183, 3) := by decide +kernel
theorem dX11_joyMendedAhead_63 : decode cX11_joyMendedAhead 63 = .ok (.iload_n 3, 1) := by decide +kernel
theorem dX11_joyMendedAhead_64 : decode cX11_joyMendedAhead 64 = .ok (.aload_n 0, 1) := by decide +kernel
theorem dX11_joyMendedAhead_65 : decode cX11_joyMendedAhead 65 = .ok (.getfield 74, 3) := by decide +kernel
theorem dX11_joyMendedAhead_68 : decode cX11_joyMendedAhead 68 = .ok (.getfield 190, 3) := by decide +kernel
theorem dX11_joyMendedAhead_71 : decode cX11_joyMendedAhead 71 = .ok (.iadd, 1) := by decide +kernel
theorem dX11_joyMendedAhead_72 : decode cX11_joyMendedAhead 72 = .ok (.istore_n 3, 1) := by decide +kernel
theorem dX11_joyMendedAhead_73 : decode cX11_joyMendedAhead 73 = .ok (.iinc 4 1, 3) := by decide +kernel
theorem dX11_joyMendedAhead_76 : decode cX11_joyMendedAhead 76 = .ok (.goto (-52), 3) := by decide +kernel
theorem dX11_joyMendedAhead_79 : decode cX11_joyMendedAhead 79 = .ok (.iload_n 3, 1) := by decide +kernel
theorem dX11_joyMendedAhead_80 : decode cX11_joyMendedAhead 80 = .ok (.aload_n 0, 1) := by decide +kernel
theorem dX11_joyMendedAhead_81 : decode cX11_joyMendedAhead 81 = .ok (.getfield 42, 3) := by decide +kernel
theorem dX11_joyMendedAhead_84 : decode cX11_joyMendedAhead 84 = .ok (.getfield 301, 3) := by decide +kernel
theorem dX11_joyMendedAhead_87 : decode cX11_joyMendedAhead 87 = .ok (.isub, 1) := by decide +kernel
theorem dX11_joyMendedAhead_88 : decode cX11_joyMendedAhead 88 = .ok (.ireturn, 1) := by decide +kernel
theorem dX11_isRest_0 : decode cX11_isRest 0 = .ok (.iload_n 3, 1) := by decide +kernel
theorem dX11_isRest_1 : decode cX11_isRest 1 = .ok (.iconst 2, 1) := by decide +kernel
theorem dX11_isRest_2 : decode cX11_isRest 2 = .ok (.idiv, 1) := by decide +kernel
theorem dX11_isRest_3 : decode cX11_isRest 3 = .ok (.istore 4, 2) := by decide +kernel
theorem dX11_isRest_5 : decode cX11_isRest 5 = .ok (.iload_n 3, 1) := by decide +kernel
theorem dX11_isRest_6 : decode cX11_isRest 6 = .ok (.iconst 2, 1) := by decide +kernel
theorem dX11_isRest_7 : decode cX11_isRest 7 = .ok (.irem, 1) := by decide +kernel
theorem dX11_isRest_8 : decode cX11_isRest 8 = .ok (.istore 5, 2) := by decide +kernel
theorem dX11_isRest_10 : decode cX11_isRest 10 = .ok (.iload_n 0, 1) := by decide +kernel
theorem dX11_isRest_11 : decode cX11_isRest 11 = .ok (.iload_n 1, 1) := by decide +kernel
theorem dX11_isRest_12 : decode cX11_isRest 12 = .ok (.iload_n 2, 1) := by decide +kernel
theorem dX11_isRest_13 : decode cX11_isRest 13 = .ok (.iconst 1, 1) := by decide +kernel
theorem dX11_isRest_14 : decode cX11_isRest 14 = .ok (.iload 4, 2) := by decide +kernel
theorem dX11_isRest_16 : decode cX11_isRest 16 = .ok (.isub, 1) := by decide +kernel
theorem dX11_isRest_17 : decode cX11_isRest 17 = .ok (.iload 5, 2) := by decide +kernel
theorem dX11_isRest_19 : decode cX11_isRest 19 = .ok (.invokestatic 327, 3) := by decide +kernel
theorem dX11_isRest_22 : decode cX11_isRest 22 = .ok (.iload_n 0, 1) := by decide +kernel
theorem dX11_isRest_23 : decode cX11_isRest 23 = .ok (.iload_n 1, 1) := by decide +kernel
theorem dX11_isRest_24 : decode cX11_isRest 24 = .ok (.iload_n 2, 1) := by decide +kernel
theorem dX11_isRest_25 : decode cX11_isRest 25 = .ok (.iload 4, 2) := by decide +kernel
theorem dX11_isRest_27 : decode cX11_isRest 27 = .ok (.iload 5, 2) := by decide +kernel
theorem dX11_isRest_29 : decode cX11_isRest 29 = .ok (.invokestatic 327, 3) := by decide +kernel
theorem dX11_isRest_32 : decode cX11_isRest 32 = .ok (.if_icmp .gt 32, 3) := by decide +kernel
theorem dX11_isRest_35 : decode cX11_isRest 35 = .ok (.iload_n 0, 1) := by decide +kernel
theorem dX11_isRest_36 : decode cX11_isRest 36 = .ok (.iload_n 1, 1) := by decide +kernel
theorem dX11_isRest_37 : decode cX11_isRest 37 = .ok (.iload_n 2, 1) := by decide +kernel
theorem dX11_isRest_38 : decode cX11_isRest 38 = .ok (.iconst 1, 1) := by decide +kernel
theorem dX11_isRest_39 : decode cX11_isRest 39 = .ok (.iload 5, 2) := by decide +kernel
theorem dX11_isRest_41 : decode cX11_isRest 41 = .ok (.isub, 1) := by decide +kernel
theorem dX11_isRest_42 : decode cX11_isRest 42 = .ok (.iload 4, 2) := by decide +kernel
theorem dX11_isRest_44 : decode cX11_isRest 44 = .ok (.invokestatic 327, 3) := by decide +kernel
theorem dX11_isRest_47 : decode cX11_isRest 47 = .ok (.iload_n 0, 1) := by decide +kernel
theorem dX11_isRest_48 : decode cX11_isRest 48 = .ok (.iload_n 1, 1) := by decide +kernel
theorem dX11_isRest_49 : decode cX11_isRest 49 = .ok (.iload_n 2, 1) := by decide +kernel
theorem dX11_isRest_50 : decode cX11_isRest 50 = .ok (.iload 5, 2) := by decide +kernel
theorem dX11_isRest_52 : decode cX11_isRest 52 = .ok (.iload 4, 2) := by decide +kernel
theorem dX11_isRest_54 : decode cX11_isRest 54 = .ok (.invokestatic 327, 3) := by decide +kernel
theorem dX11_isRest_57 : decode cX11_isRest 57 = .ok (.if_icmp .gt 7, 3) := by decide +kernel
theorem dX11_isRest_60 : decode cX11_isRest 60 = .ok (.iconst 1, 1) := by decide +kernel
theorem dX11_isRest_61 : decode cX11_isRest 61 = .ok (.goto 4, 3) := by decide +kernel
theorem dX11_isRest_64 : decode cX11_isRest 64 = .ok (.iconst 0, 1) := by decide +kernel
theorem dX11_isRest_65 : decode cX11_isRest 65 = .ok (.ireturn, 1) := by decide +kernel
theorem dX11_gain_0 : decode cX11_gain 0 = .ok (.iload_n 3, 1) := by decide +kernel
theorem dX11_gain_1 : decode cX11_gain 1 = .ok (.iconst 1, 1) := by decide +kernel
theorem dX11_gain_2 : decode cX11_gain 2 = .ok (.if_icmp .ne 16, 3) := by decide +kernel
theorem dX11_gain_5 : decode cX11_gain 5 = .ok (.iload 4, 2) := by decide +kernel
theorem dX11_gain_7 : decode cX11_gain 7 = .ok (.iconst 1, 1) := by decide +kernel
theorem dX11_gain_8 : decode cX11_gain 8 = .ok (.if_icmp .ne 8, 3) := by decide +kernel
theorem dX11_gain_11 : decode cX11_gain 11 = .ok (.iload_n 0, 1) := by decide +kernel
theorem dX11_gain_12 : decode cX11_gain 12 = .ok (.ineg, 1) := by decide +kernel
theorem dX11_gain_13 : decode cX11_gain 13 = .ok (.goto 4, 3) := by decide +kernel
theorem dX11_gain_16 : decode cX11_gain 16 = .ok (.iload_n 1, 1) := by decide +kernel
theorem dX11_gain_17 : decode cX11_gain 17 = .ok (.ireturn, 1) := by decide +kernel
theorem dX11_gain_18 : decode cX11_gain 18 = .ok (.iload 4, 2) := by decide +kernel
theorem dX11_gain_20 : decode cX11_gain 20 = .ok (.iconst 1, 1) := by decide +kernel
theorem dX11_gain_21 : decode cX11_gain 21 = .ok (.if_icmp .ne 7, 3) := by decide +kernel
theorem dX11_gain_24 : decode cX11_gain 24 = .ok (.iload_n 2, 1) := by decide +kernel
theorem dX11_gain_25 : decode cX11_gain 25 = .ok (.goto 4, 3) := by decide +kernel
theorem dX11_gain_28 : decode cX11_gain 28 = .ok (.iconst 0, 1) := by decide +kernel
theorem dX11_gain_29 : decode cX11_gain 29 = .ok (.ireturn, 1) := by decide +kernel
theorem dX11_drawMonths_0 : decode cX11_drawMonths 0 = .ok (.iconst 0, 1) := by decide +kernel
theorem dX11_drawMonths_1 : decode cX11_drawMonths 1 = .ok (.istore_n 3, 1) := by decide +kernel
theorem dX11_drawMonths_2 : decode cX11_drawMonths 2 = .ok (.iconst 0, 1) := by decide +kernel
theorem dX11_drawMonths_3 : decode cX11_drawMonths 3 = .ok (.istore 4, 2) := by decide +kernel
theorem dX11_drawMonths_5 : decode cX11_drawMonths 5 = .ok (.aload_n 0, 1) := by decide +kernel
theorem dX11_drawMonths_6 : decode cX11_drawMonths 6 = .ok (.iload_n 1, 1) := by decide +kernel
theorem dX11_drawMonths_7 : decode cX11_drawMonths 7 = .ok (.i2l, 1) := by decide +kernel
theorem dX11_drawMonths_8 : decode cX11_drawMonths 8 = .ok (.putfield 331, 3) := by decide +kernel
theorem dX11_drawMonths_11 : decode cX11_drawMonths 11 = .ok (.aload_n 0, 1) := by decide +kernel
theorem dX11_drawMonths_12 : decode cX11_drawMonths 12 = .ok (.getfield 42, 3) := by decide +kernel
theorem dX11_drawMonths_15 : decode cX11_drawMonths 15 = .ok (.aload_n 0, 1) := by decide +kernel
theorem dX11_drawMonths_16 : decode cX11_drawMonths 16 = .ok (.getfield 38, 3) := by decide +kernel
theorem dX11_drawMonths_19 : decode cX11_drawMonths 19 = .ok (.invokevirtual 214, 3) := by decide +kernel
theorem dX11_drawMonths_22 : decode cX11_drawMonths 22 = .ok (.aload_n 0, 1) := by decide +kernel
theorem dX11_drawMonths_23 : decode cX11_drawMonths 23 = .ok (.getfield 42, 3) := by decide +kernel
theorem dX11_drawMonths_26 : decode cX11_drawMonths 26 = .ok (.iconst 0, 1) := by decide +kernel
theorem dX11_drawMonths_27 : decode cX11_drawMonths 27 = .ok (.putfield 301, 3) := by decide +kernel
theorem dX11_drawMonths_30 : decode cX11_drawMonths 30 = .ok (.aload_n 0, 1) := by decide +kernel
theorem dX11_drawMonths_31 : decode cX11_drawMonths 31 = .ok (.getfield 74, 3) := by decide +kernel
theorem dX11_drawMonths_34 : decode cX11_drawMonths 34 = .ok (.aload_n 0, 1) := by decide +kernel
theorem dX11_drawMonths_35 : decode cX11_drawMonths 35 = .ok (.getfield 28, 3) := by decide +kernel
theorem dX11_drawMonths_38 : decode cX11_drawMonths 38 = .ok (.aload_n 0, 1) := by decide +kernel
theorem dX11_drawMonths_39 : decode cX11_drawMonths 39 = .ok (.getfield 42, 3) := by decide +kernel
theorem dX11_drawMonths_42 : decode cX11_drawMonths 42 = .ok (.getfield 138, 3) := by decide +kernel
theorem dX11_drawMonths_45 : decode cX11_drawMonths 45 = .ok (.invokevirtual 179, 3) := by decide +kernel
theorem dX11_drawMonths_48 : decode cX11_drawMonths 48 = .ok (.iconst 0, 1) := by decide +kernel
theorem dX11_drawMonths_49 : decode cX11_drawMonths 49 = .ok (.istore 5, 2) := by decide +kernel
theorem dX11_drawMonths_51 : decode cX11_drawMonths 51 = .ok (.iload 5, 2) := by decide +kernel
theorem dX11_drawMonths_53 : decode cX11_drawMonths 53 = .ok (.iload_n 2, 1) := by decide +kernel
theorem dX11_drawMonths_54 : decode cX11_drawMonths 54 = .ok (.if_icmp .ge 122, 3) := by decide +kernel
theorem dX11_drawMonths_57 : decode cX11_drawMonths 57 = .ok (.iconst 0, 1) := by decide +kernel
theorem dX11_drawMonths_58 : decode cX11_drawMonths 58 = .ok (.istore 6, 2) := by decide +kernel
theorem dX11_drawMonths_60 : decode cX11_drawMonths 60 = .ok (.iload 6, 2) := by decide +kernel
theorem dX11_drawMonths_62 : decode cX11_drawMonths 62 = .ok (.aload_n 0, 1) := by decide +kernel
theorem dX11_drawMonths_63 : decode cX11_drawMonths 63 = .ok (.getfield 28, 3) := by decide +kernel
theorem dX11_drawMonths_66 : decode cX11_drawMonths 66 = .ok (.getfield 173, 3) := by decide +kernel
theorem dX11_drawMonths_69 : decode cX11_drawMonths 69 = .ok (.if_icmp .ge 32, 3) := by decide +kernel
theorem dX11_drawMonths_72 : decode cX11_drawMonths 72 = .ok (.iload 6, 2) := by decide +kernel
theorem dX11_drawMonths_74 : decode cX11_drawMonths 74 = .ok (.bipush 7, 2) := by decide +kernel
theorem dX11_drawMonths_76 : decode cX11_drawMonths 76 = .ok (.if_icmp .ge 25, 3) := by decide +kernel
theorem dX11_drawMonths_79 : decode cX11_drawMonths 79 = .ok (.aload_n 0, 1) := by decide +kernel
theorem dX11_drawMonths_80 : decode cX11_drawMonths 80 = .ok (.getfield 74, 3) := by decide +kernel
theorem dX11_drawMonths_83 : decode cX11_drawMonths 83 = .ok (.getfield 335, 3) := by decide +kernel
theorem dX11_drawMonths_86 : decode cX11_drawMonths 86 = .ok (.iload 6, 2) := by decide +kernel
theorem dX11_drawMonths_88 : decode cX11_drawMonths 88 = .ok (.aload_n 0, 1) := by decide +kernel
theorem dX11_drawMonths_89 : decode cX11_drawMonths 89 = .ok (.bipush 60, 2) := by decide +kernel
theorem dX11_drawMonths_91 : decode cX11_drawMonths 91 = .ok (.invokevirtual 337, 3) := by decide +kernel
theorem dX11_drawMonths_94 : decode cX11_drawMonths 94 = .ok (.iastore, 1) := by decide +kernel
theorem dX11_drawMonths_95 : decode cX11_drawMonths 95 = .ok (.iinc 6 1, 3) := by decide +kernel
theorem dX11_drawMonths_98 : decode cX11_drawMonths 98 = .ok (.goto (-38), 3) := by decide +kernel
theorem dX11_drawMonths_101 : decode cX11_drawMonths 101 = .ok (.aload_n 0, 1) := by decide +kernel
theorem dX11_drawMonths_102 : decode cX11_drawMonths 102 = .ok (.getfield 74, 3) := by decide +kernel
theorem dX11_drawMonths_105 : decode cX11_drawMonths 105 = .ok (.aload_n 0, 1) := by decide +kernel
theorem dX11_drawMonths_106 : decode cX11_drawMonths 106 = .ok (.getfield 42, 3) := by decide +kernel
theorem dX11_drawMonths_109 : decode cX11_drawMonths 109 = .ok (.iconst 0, 1) := by decide +kernel
theorem dX11_drawMonths_110 : decode cX11_drawMonths 110 = .ok (.invokevirtual 183, 3) := by decide +kernel
theorem dX11_drawMonths_113 : decode cX11_drawMonths 113 = .ok (.iload_n 3, 1) := by decide +kernel
theorem dX11_drawMonths_114 : decode cX11_drawMonths 114 = .ok (.aload_n 0, 1) := by decide +kernel
theorem dX11_drawMonths_115 : decode cX11_drawMonths 115 = .ok (.getfield 74, 3) := by decide +kernel
theorem dX11_drawMonths_118 : decode cX11_drawMonths 118 = .ok (.getfield 190, 3) := by decide +kernel
theorem dX11_drawMonths_121 : decode cX11_drawMonths 121 = .ok (.iadd, 1) := by decide +kernel
theorem dX11_drawMonths_122 : decode cX11_drawMonths 122 = .ok (.istore_n 3, 1) := by decide +kernel
theorem dX11_drawMonths_123 : decode cX11_drawMonths 123 = .ok (.iload 4, 2) := by decide +kernel
theorem dX11_drawMonths_125 : decode cX11_drawMonths 125 = .ok (.aload_n 0, 1) := by decide +kernel
theorem dX11_drawMonths_126 : decode cX11_drawMonths 126 = .ok (.getfield 74, 3) := by decide +kernel
theorem dX11_drawMonths_129 : decode cX11_drawMonths 129 = .ok (.getfield 340, 3) := by decide +kernel
theorem dX11_drawMonths_132 : decode cX11_drawMonths 132 = .ok (.iadd, 1) := by decide +kernel
theorem dX11_drawMonths_133 : decode cX11_drawMonths 133 = .ok (.istore 4, 2) := by decide +kernel
theorem dX11_drawMonths_135 : decode cX11_drawMonths 135 = .ok (.aload_n 0, 1) := by decide +kernel
theorem dX11_drawMonths_136 : decode cX11_drawMonths 136 = .ok (.getfield 42, 3) := by decide +kernel
theorem dX11_drawMonths_139 : decode cX11_drawMonths 139 = .ok (.iconst 5, 1) := by decide +kernel
theorem dX11_drawMonths_140 : decode cX11_drawMonths 140 = .ok (.invokevirtual 343, 3) := by decide +kernel
theorem dX11_drawMonths_143 : decode cX11_drawMonths 143 = .ok (.iconst 3, 1) := by decide +kernel
theorem dX11_drawMonths_144 : decode cX11_drawMonths 144 = .ok (.if_icmp .lt 26, 3) := by decide +kernel
theorem dX11_drawMonths_147 : decode cX11_drawMonths 147 = .ok (.aload_n 0, 1) := by decide +kernel
theorem dX11_drawMonths_148 : decode cX11_drawMonths 148 = .ok (.iconst 4, 1) := by decide +kernel
theorem dX11_drawMonths_149 : decode cX11_drawMonths 149 = .ok (.invokevirtual 337, 3) := by decide +kernel
theorem dX11_drawMonths_152 : decode cX11_drawMonths 152 = .ok (.ifCond .ne 18, 3) := by decide +kernel
theorem dX11_drawMonths_155 : decode cX11_drawMonths 155 = .ok (.aload_n 0, 1) := by decide +kernel
theorem dX11_drawMonths_156 : decode cX11_drawMonths 156 = .ok (.getfield 42, 3) := by decide +kernel
theorem dX11_drawMonths_159 : decode cX11_drawMonths 159 = .ok (.aload_n 0, 1) := by decide +kernel
theorem dX11_drawMonths_160 : decode cX11_drawMonths 160 = .ok (.getfield 28, 3) := by decide +kernel
theorem dX11_drawMonths_163 : decode cX11_drawMonths 163 = .ok (.getfield 193, 3) := by decide +kernel
theorem dX11_drawMonths_166 : decode cX11_drawMonths 166 = .ok (.invokevirtual 196, 3) := by decide +kernel
theorem dX11_drawMonths_169 : decode cX11_drawMonths 169 = .ok (.pop, 1) := by decide +kernel
theorem dX11_drawMonths_170 : decode cX11_drawMonths 170 = .ok (.iinc 5 1, 3) := by decide +kernel
theorem dX11_drawMonths_173 : decode cX11_drawMonths 173 = .ok (.goto (-122), 3) := by decide +kernel
theorem dX11_drawMonths_176 : decode cX11_drawMonths 176 = .ok (.aload_n 0, 1) := by decide +kernel
theorem dX11_drawMonths_177 : decode cX11_drawMonths 177 = .ok (.getfield 89, 3) := by decide +kernel
theorem dX11_drawMonths_180 : decode cX11_drawMonths 180 = .ok (.iconst 0, 1) := by decide +kernel
theorem dX11_drawMonths_181 : decode cX11_drawMonths 181 = .ok (.iload_n 3, 1) := by decide +kernel
theorem dX11_drawMonths_182 : decode cX11_drawMonths 182 = .ok (.iastore, 1) := by decide +kernel
theorem dX11_drawMonths_183 : decode cX11_drawMonths 183 = .ok (.aload_n 0, 1) := by decide +kernel
theorem dX11_drawMonths_184 : decode cX11_drawMonths 184 = .ok (.getfield 89, 3) := by decide +kernel
theorem dX11_drawMonths_187 : decode cX11_drawMonths 187 = .ok (.iconst 1, 1) := by decide +kernel
theorem dX11_drawMonths_188 : decode cX11_drawMonths 188 = .ok (.iload 4, 2) := by decide +kernel
theorem dX11_drawMonths_190 : decode cX11_drawMonths 190 = .ok (.iastore, 1) := by decide +kernel
theorem dX11_drawMonths_191 : decode cX11_drawMonths 191 = .ok (.aload_n 0, 1) := by decide +kernel
theorem dX11_drawMonths_192 : decode cX11_drawMonths 192 = .ok (.getfield 89, 3) := by decide +kernel
theorem dX11_drawMonths_195 : decode cX11_drawMonths 195 = .ok (.iconst 2, 1) := by decide +kernel
theorem dX11_drawMonths_196 : decode cX11_drawMonths 196 = .ok (.aload_n 0, 1) := by decide +kernel
theorem dX11_drawMonths_197 : decode cX11_drawMonths 197 = .ok (.getfield 42, 3) := by decide +kernel
theorem dX11_drawMonths_200 : decode cX11_drawMonths 200 = .ok (.getfield 301, 3) := by decide +kernel
theorem dX11_drawMonths_203 : decode cX11_drawMonths 203 = .ok (.iastore, 1) := by decide +kernel
theorem dX11_drawMonths_204 : decode cX11_drawMonths 204 = .ok (.return_, 1) := by decide +kernel
theorem dX11_draw_0 : decode cX11_draw 0 = .ok (.aload_n 0, 1) := by decide +kernel
theorem dX11_draw_1 : decode cX11_draw 1 = .ok (.aload_n 0, 1) := by decide +kernel
theorem dX11_draw_2 : decode cX11_draw 2 = .ok (.getfield 331, 3) := by decide +kernel
theorem dX11_draw_5 : decode cX11_draw 5 = .ok (.ldc2_w 346, 3) := by decide +kernel
theorem dX11_draw_8 : decode cX11_draw 8 = .ok (.lmul, 1) := by decide +kernel
theorem dX11_draw_9 : decode cX11_draw 9 = .ok (.ldc2_w 348, 3) := by decide +kernel
theorem dX11_draw_12 : decode cX11_draw 12 = .ok (.ladd, 1) := by decide +kernel
theorem dX11_draw_13 : decode cX11_draw 13 = .ok (.ldc2_w 350, 3) := by decide +kernel
theorem dX11_draw_16 : decode cX11_draw 16 = .ok (.land, 1) := by decide +kernel
theorem dX11_draw_17 : decode cX11_draw 17 = .ok (.putfield 331, 3) := by decide +kernel
theorem dX11_draw_20 : decode cX11_draw 20 = .ok (.iload_n 1, 1) := by decide +kernel
theorem dX11_draw_21 : decode cX11_draw 21 = .ok (.ifCond .le 18, 3) := by decide +kernel
theorem dX11_draw_24 : decode cX11_draw 24 = .ok (.aload_n 0, 1) := by decide +kernel
theorem dX11_draw_25 : decode cX11_draw 25 = .ok (.getfield 331, 3) := by decide +kernel
theorem dX11_draw_28 : decode cX11_draw 28 = .ok (.ldc2_w 352, 3) := by decide +kernel
theorem dX11_draw_31 : decode cX11_draw 31 = .ok (.ldiv, 1) := by decide +kernel
theorem dX11_draw_32 : decode cX11_draw 32 = .ok (.iload_n 1, 1) := by decide +kernel
theorem dX11_draw_33 : decode cX11_draw 33 = .ok (.i2l, 1) := by decide +kernel
theorem dX11_draw_34 : decode cX11_draw 34 = .ok (.lrem, 1) := by decide +kernel
theorem dX11_draw_35 : decode cX11_draw 35 = .ok (.l2i, 1) := by decide +kernel
theorem dX11_draw_36 : decode cX11_draw 36 = .ok (.goto 4, 3) := by decide +kernel
theorem dX11_draw_39 : decode cX11_draw 39 = .ok (.iconst 0, 1) := by decide +kernel
theorem dX11_draw_40 : decode cX11_draw 40 = .ok (.ireturn, 1) := by decide +kernel
theorem dX12_init_0 : decode cX12_init 0 = .ok (.aload_n 0, 1) := by decide +kernel
theorem dX12_init_1 : decode cX12_init 1 = .ok (.invokespecial 1, 3) := by decide +kernel
theorem dX12_init_4 : decode cX12_init 4 = .ok (.aload_n 0, 1) := by decide +kernel
theorem dX12_init_5 : decode cX12_init 5 = .ok (.sipush 1000, 3) := by decide +kernel
theorem dX12_init_8 : decode cX12_init 8 = .ok (.newarray .int, 2) := by decide +kernel
theorem dX12_init_10 : decode cX12_init 10 = .ok (.putfield 7, 3) := by decide +kernel
theorem dX12_init_13 : decode cX12_init 13 = .ok (.aload_n 0, 1) := by decide +kernel
theorem dX12_init_14 : decode cX12_init 14 = .ok (.bipush 14, 2) := by decide +kernel
theorem dX12_init_16 : decode cX12_init 16 = .ok (.newarray .int, 2) := by decide +kernel
theorem dX12_init_18 : decode cX12_init 18 = .ok (.putfield 13, 3) := by decide +kernel
theorem dX12_init_21 : decode cX12_init 21 = .ok (.aload_n 0, 1) := by decide +kernel
theorem dX12_init_22 : decode cX12_init 22 = .ok (.bipush 10, 2) := by decide +kernel
theorem dX12_init_24 : decode cX12_init 24 = .ok (.newarray .long, 2) := by decide +kernel
theorem dX12_init_26 : decode cX12_init 26 = .ok (.putfield 16, 3) := by decide +kernel
theorem dX12_init_29 : decode cX12_init 29 = .ok (.aload_n 0, 1) := by decide +kernel
theorem dX12_init_30 : decode cX12_init 30 = .ok (.bipush 14, 2) := by decide +kernel
theorem dX12_init_32 : decode cX12_init 32 = .ok (.newarray .long, 2) := by decide +kernel
theorem dX12_init_34 : decode cX12_init 34 = .ok (.putfield 20, 3) := by decide +kernel
theorem dX12_init_37 : decode cX12_init 37 = .ok (.aload_n 0, 1) := by decide +kernel
theorem dX12_init_38 : decode cX12_init 38 = .ok (.bipush 90, 2) := by decide +kernel
theorem dX12_init_40 : decode cX12_init 40 = .ok (.newarray .int, 2) := by decide +kernel
theorem dX12_init_42 : decode cX12_init 42 = .ok (.putfield 23, 3) := by decide +kernel
theorem dX12_init_45 : decode cX12_init 45 = .ok (.aload_n 0, 1) := by decide +kernel
theorem dX12_init_46 : decode cX12_init 46 = .ok (.bipush 10, 2) := by decide +kernel
theorem dX12_init_48 : decode cX12_init 48 = .ok (.newarray .int, 2) := by decide +kernel
theorem dX12_init_50 : decode cX12_init 50 = .ok (.putfield 26, 3) := by decide +kernel
theorem dX12_init_53 : decode cX12_init 53 = .ok (.aload_n 0, 1) := by decide +kernel
theorem dX12_init_54 : decode cX12_init 54 = .ok (.bipush 14, 2) := by decide +kernel
theorem dX12_init_56 : decode cX12_init 56 = .ok (.newarray .int, 2) := by decide +kernel
theorem dX12_init_58 : decode cX12_init 58 = .ok (.putfield 29, 3) := by decide +kernel
theorem dX12_init_61 : decode cX12_init 61 = .ok (.aload_n 0, 1) := by decide +kernel
theorem dX12_init_62 : decode cX12_init 62 = .ok (.bipush 14, 2) := by decide +kernel
theorem dX12_init_64 : decode cX12_init 64 = .ok (.newarray .int, 2) := by decide +kernel
theorem dX12_init_66 : decode cX12_init 66 = .ok (.putfield 32, 3) := by decide +kernel
theorem dX12_init_69 : decode cX12_init 69 = .ok (.aload_n 0, 1) := by decide +kernel
theorem dX12_init_70 : decode cX12_init 70 = .ok (.bipush 14, 2) := by decide +kernel
theorem dX12_init_72 : decode cX12_init 72 = .ok (.newarray .int, 2) := by decide +kernel
theorem dX12_init_74 : decode cX12_init 74 = .ok (.putfield 35, 3) := by decide +kernel
theorem dX12_init_77 : decode cX12_init 77 = .ok (.aload_n 0, 1) := by decide +kernel
theorem dX12_init_78 : decode cX12_init 78 = .ok (.bipush 14, 2) := by decide +kernel
theorem dX12_init_80 : decode cX12_init 80 = .ok (.newarray .int, 2) := by decide +kernel
theorem dX12_init_82 : decode cX12_init 82 = .ok (.putfield 38, 3) := by decide +kernel
theorem dX12_init_85 : decode cX12_init 85 = .ok (.aload_n 0, 1) := by decide +kernel
theorem dX12_init_86 : decode cX12_init 86 = .ok (.bipush 14, 2) := by decide +kernel
theorem dX12_init_88 : decode cX12_init 88 = .ok (.newarray .int, 2) := by decide +kernel
theorem dX12_init_90 : decode cX12_init 90 = .ok (.putfield 41, 3) := by decide +kernel
theorem dX12_init_93 : decode cX12_init 93 = .ok (.aload_n 0, 1) := by decide +kernel
theorem dX12_init_94 : decode cX12_init 94 = .ok (.bipush 14, 2) := by decide +kernel
theorem dX12_init_96 : decode cX12_init 96 = .ok (.newarray .int, 2) := by decide +kernel
theorem dX12_init_98 : decode cX12_init 98 = .ok (.putfield 44, 3) := by decide +kernel
theorem dX12_init_101 : decode cX12_init 101 = .ok (.aload_n 0, 1) := by decide +kernel
theorem dX12_init_102 : decode cX12_init 102 = .ok (.iconst 4, 1) := by decide +kernel
theorem dX12_init_103 : decode cX12_init 103 = .ok (.newarray .int, 2) := by decide +kernel
theorem dX12_init_105 : decode cX12_init 105 = .ok (.putfield 47, 3) := by decide +kernel
theorem dX12_init_108 : decode cX12_init 108 = .ok (.aload_n 0, 1) := by decide +kernel
theorem dX12_init_109 : decode cX12_init 109 = .ok (.iconst 4, 1) := by decide +kernel
theorem dX12_init_110 : decode cX12_init 110 = .ok (.newarray .int, 2) := by decide +kernel
theorem dX12_init_112 : decode cX12_init 112 = .ok (.putfield 50, 3) := by decide +kernel
theorem dX12_init_115 : decode cX12_init 115 = .ok (.aload_n 0, 1) := by decide +kernel
theorem dX12_init_116 : decode cX12_init 116 = .ok (.sipush 2000, 3) := by decide +kernel
theorem dX12_init_119 : decode cX12_init 119 = .ok (.newarray .int, 2) := by decide +kernel
theorem dX12_init_121 : decode cX12_init 121 = .ok (.putfield 53, 3) := by decide +kernel
theorem dX12_init_124 : decode cX12_init 124 = .ok (.aload_n 0, 1) := by decide +kernel
theorem dX12_init_125 : decode cX12_init 125 = .ok (.bipush 7, 2) := by decide +kernel
theorem dX12_init_127 : decode cX12_init 127 = .ok (.newarray .int, 2) := by decide +kernel
theorem dX12_init_129 : decode cX12_init 129 = .ok (.putfield 56, 3) := by decide +kernel
theorem dX12_init_132 : decode cX12_init 132 = .ok (.aload_n 0, 1) := by decide +kernel
theorem dX12_init_133 : decode cX12_init 133 = .ok (.bipush 7, 2) := by decide +kernel
theorem dX12_init_135 : decode cX12_init 135 = .ok (.newarray .boolean, 2) := by decide +kernel
theorem dX12_init_137 : decode cX12_init 137 = .ok (.putfield 59, 3) := by decide +kernel
theorem dX12_init_140 : decode cX12_init 140 = .ok (.aload_n 0, 1) := by decide +kernel
theorem dX12_init_141 : decode cX12_init 141 = .ok (.bipush 7, 2) := by decide +kernel
theorem dX12_init_143 : decode cX12_init 143 = .ok (.newarray .int, 2) := by decide +kernel
theorem dX12_init_145 : decode cX12_init 145 = .ok (.putfield 63, 3) := by decide +kernel
theorem dX12_init_148 : decode cX12_init 148 = .ok (.aload_n 0, 1) := by decide +kernel
theorem dX12_init_149 : decode cX12_init 149 = .ok (.bipush 7, 2) := by decide +kernel
theorem dX12_init_151 : decode cX12_init 151 = .ok (.newarray .int, 2) := by decide +kernel
theorem dX12_init_153 : decode cX12_init 153 = .ok (.putfield 66, 3) := by decide +kernel
theorem dX12_init_156 : decode cX12_init 156 = .ok (.aload_n 0, 1) := by decide +kernel
theorem dX12_init_157 : decode cX12_init 157 = .ok (.bipush 7, 2) := by decide +kernel
theorem dX12_init_159 : decode cX12_init 159 = .ok (.newarray .int, 2) := by decide +kernel
theorem dX12_init_161 : decode cX12_init 161 = .ok (.putfield 69, 3) := by decide +kernel
theorem dX12_init_164 : decode cX12_init 164 = .ok (.aload_n 0, 1) := by decide +kernel
theorem dX12_init_165 : decode cX12_init 165 = .ok (.bipush 7, 2) := by decide +kernel
theorem dX12_init_167 : decode cX12_init 167 = .ok (.newarray .int, 2) := by decide +kernel
theorem dX12_init_169 : decode cX12_init 169 = .ok (.putfield 72, 3) := by decide +kernel
theorem dX12_init_172 : decode cX12_init 172 = .ok (.aload_n 0, 1) := by decide +kernel
theorem dX12_init_173 : decode cX12_init 173 = .ok (.bipush 7, 2) := by decide +kernel
theorem dX12_init_175 : decode cX12_init 175 = .ok (.newarray .int, 2) := by decide +kernel
theorem dX12_init_177 : decode cX12_init 177 = .ok (.putfield 75, 3) := by decide +kernel
theorem dX12_init_180 : decode cX12_init 180 = .ok (.aload_n 0, 1) := by decide +kernel
theorem dX12_init_181 : decode cX12_init 181 = .ok (.bipush 7, 2) := by decide +kernel
theorem dX12_init_183 : decode cX12_init 183 = .ok (.newarray .int, 2) := by decide +kernel
theorem dX12_init_185 : decode cX12_init 185 = .ok (.putfield 78, 3) := by decide +kernel
theorem dX12_init_188 : decode cX12_init 188 = .ok (.aload_n 0, 1) := by decide +kernel
theorem dX12_init_189 : decode cX12_init 189 = .ok (.bipush 7, 2) := by decide +kernel
theorem dX12_init_191 : decode cX12_init 191 = .ok (.newarray .int, 2) := by decide +kernel
theorem dX12_init_193 : decode cX12_init 193 = .ok (.putfield 81, 3) := by decide +kernel
theorem dX12_init_196 : decode cX12_init 196 = .ok (.aload_n 0, 1) := by decide +kernel
theorem dX12_init_197 : decode cX12_init 197 = .ok (.bipush 7, 2) := by decide +kernel
theorem dX12_init_199 : decode cX12_init 199 = .ok (.newarray .int, 2) := by decide +kernel
theorem dX12_init_201 : decode cX12_init 201 = .ok (.putfield 84, 3) := by decide +kernel
theorem dX12_init_204 : decode cX12_init 204 = .ok (.aload_n 0, 1) := by decide +kernel
theorem dX12_init_205 : decode cX12_init 205 = .ok (.bipush 7, 2) := by decide +kernel
theorem dX12_init_207 : decode cX12_init 207 = .ok (.newarray .int, 2) := by decide +kernel
theorem dX12_init_209 : decode cX12_init 209 = .ok (.putfield 87, 3) := by decide +kernel
theorem dX12_init_212 : decode cX12_init 212 = .ok (.aload_n 0, 1) := by decide +kernel
theorem dX12_init_213 : decode cX12_init 213 = .ok (.bipush 20, 2) := by decide +kernel
theorem dX12_init_215 : decode cX12_init 215 = .ok (.newarray .int, 2) := by decide +kernel
theorem dX12_init_217 : decode cX12_init 217 = .ok (.putfield 90, 3) := by decide +kernel
theorem dX12_init_220 : decode cX12_init 220 = .ok (.aload_n 0, 1) := by decide +kernel
theorem dX12_init_221 : decode cX12_init 221 = .ok (.bipush 6, 2) := by decide +kernel
theorem dX12_init_223 : decode cX12_init 223 = .ok (.newarray .int, 2) := by decide +kernel
theorem dX12_init_225 : decode cX12_init 225 = .ok (.putfield 93, 3) := by decide +kernel
theorem dX12_init_228 : decode cX12_init 228 = .ok (.aload_n 0, 1) := by decide +kernel
theorem dX12_init_229 : decode cX12_init 229 = .ok (.sipush 240, 3) := by decide +kernel
theorem dX12_init_232 : decode cX12_init 232 = .ok (.newarray .int, 2) := by decide +kernel
theorem dX12_init_234 : decode cX12_init 234 = .ok (.putfield 96, 3) := by decide +kernel
theorem dX12_init_237 : decode cX12_init 237 = .ok (.aload_n 0, 1) := by decide +kernel
theorem dX12_init_238 : decode cX12_init 238 = .ok (.sipush 240, 3) := by decide +kernel
theorem dX12_init_241 : decode cX12_init 241 = .ok (.newarray .int, 2) := by decide +kernel
theorem dX12_init_243 : decode cX12_init 243 = .ok (.putfield 99, 3) := by decide +kernel
theorem dX12_init_246 : decode cX12_init 246 = .ok (.aload_n 0, 1) := by decide +kernel
theorem dX12_init_247 : decode cX12_init 247 = .ok (.sipush 240, 3) := by decide +kernel
theorem dX12_init_250 : decode cX12_init 250 = .ok (.newarray .int, 2) := by decide +kernel
theorem dX12_init_252 : decode cX12_init 252 = .ok (.putfield 102, 3) := by decide +kernel
theorem dX12_init_255 : decode cX12_init 255 = .ok (.aload_n 0, 1) := by decide +kernel
theorem dX12_init_256 : decode cX12_init 256 = .ok (.iconst 5, 1) := by decide +kernel
theorem dX12_init_257 : decode cX12_init 257 = .ok (.newarray .int, 2) := by decide +kernel
theorem dX12_init_259 : decode cX12_init 259 = .ok (.putfield 105, 3) := by decide +kernel
theorem dX12_init_262 : decode cX12_init 262 = .ok (.aload_n 0, 1) := by decide +kernel
theorem dX12_init_263 : decode cX12_init 263 = .ok (.bipush 40, 2) := by decide +kernel
theorem dX12_init_265 : decode cX12_init 265 = .ok (.newarray .int, 2) := by decide +kernel
theorem dX12_init_267 : decode cX12_init 267 = .ok (.putfield 108, 3) := by decide +kernel
theorem dX12_init_270 : decode cX12_init 270 = .ok (.aload_n 0, 1) := by decide +kernel
theorem dX12_init_271 : decode cX12_init 271 = .ok (.bipush 40, 2) := by decide +kernel
theorem dX12_init_273 : decode cX12_init 273 = .ok (.newarray .int, 2) := by decide +kernel
theorem dX12_init_275 : decode cX12_init 275 = .ok (.putfield 111, 3) := by decide +kernel
theorem dX12_init_278 : decode cX12_init 278 = .ok (.aload_n 0, 1) := by decide +kernel
theorem dX12_init_279 : decode cX12_init 279 = .ok (.bipush 17, 2) := by decide +kernel
theorem dX12_init_281 : decode cX12_init 281 = .ok (.newarray .int, 2) := by decide +kernel
theorem dX12_init_283 : decode cX12_init 283 = .ok (.putfield 114, 3) := by decide +kernel
theorem dX12_init_286 : decode cX12_init 286 = .ok (.aload_n 0, 1) := by decide +kernel
theorem dX12_init_287 : decode cX12_init 287 = .ok (.bipush 17, 2) := by decide +kernel
theorem dX12_init_289 : decode cX12_init 289 = .ok (.newarray .int, 2) := by decide +kernel
theorem dX12_init_291 : decode cX12_init 291 = .ok (.putfield 117, 3) := by decide +kernel
theorem dX12_init_294 : decode cX12_init 294 = .ok (.aload_n 0, 1) := by decide +kernel
theorem dX12_init_295 : decode cX12_init 295 = .ok (.bipush 17, 2) := by decide +kernel
theorem dX12_init_297 : decode cX12_init 297 = .ok (.newarray .int, 2) := by decide +kernel
theorem dX12_init_299 : decode cX12_init 299 = .ok (.putfield 120, 3) := by decide +kernel
theorem dX12_init_302 : decode cX12_init 302 = .ok (.aload_n 0, 1) := by decide +kernel
theorem dX12_init_303 : decode cX12_init 303 = .ok (.bipush 68, 2) := by decide +kernel
theorem dX12_init_305 : decode cX12_init 305 = .ok (.newarray .int, 2) := by decide +kernel
theorem dX12_init_307 : decode cX12_init 307 = .ok (.putfield 123, 3) := by decide +kernel
theorem dX12_init_310 : decode cX12_init 310 = .ok (.aload_n 0, 1) := by decide +kernel
theorem dX12_init_311 : decode cX12_init 311 = .ok (.sipush 272, 3) := by decide +kernel
theorem dX12_init_314 : decode cX12_init 314 = .ok (.newarray .int, 2) := by decide +kernel
theorem dX12_init_316 : decode cX12_init 316 = .ok (.putfield 126, 3) := by decide +kernel
theorem dX12_init_319 : decode cX12_init 319 = .ok (.aload_n 0, 1) := by decide +kernel
theorem dX12_init_320 : decode cX12_init 320 = .ok (.iconst 4, 1) := by decide +kernel
theorem dX12_init_321 : decode cX12_init 321 = .ok (.newarray .boolean, 2) := by decide +kernel
theorem dX12_init_323 : decode cX12_init 323 = .ok (.putfield 129, 3) := by decide +kernel
theorem dX12_init_326 : decode cX12_init 326 = .ok (.aload_n 0, 1) := by decide +kernel
theorem dX12_init_327 : decode cX12_init 327 = .ok (.bipush 7, 2) := by decide +kernel
theorem dX12_init_329 : decode cX12_init 329 = .ok (.newarray .int, 2) := by decide +kernel
theorem dX12_init_331 : decode cX12_init 331 = .ok (.putfield 132, 3) := by decide +kernel
theorem dX12_init_334 : decode cX12_init 334 = .ok (.aload_n 0, 1) := by decide +kernel
theorem dX12_init_335 : decode cX12_init 335 = .ok (.bipush 7, 2) := by decide +kernel
theorem dX12_init_337 : decode cX12_init 337 = .ok (.newarray .int, 2) := by decide +kernel
theorem dX12_init_339 : decode cX12_init 339 = .ok (.putfield 135, 3) := by decide +kernel
theorem dX12_init_342 : decode cX12_init 342 = .ok (.aload_n 0, 1) := by decide +kernel
theorem dX12_init_343 : decode cX12_init 343 = .ok (.bipush 7, 2) := by decide +kernel
theorem dX12_init_345 : decode cX12_init 345 = .ok (.newarray .int, 2) := by decide +kernel
theorem dX12_init_347 : decode cX12_init 347 = .ok (.putfield 138, 3) := by decide +kernel
theorem dX12_init_350 : decode cX12_init 350 = .ok (.aload_n 0, 1) := by decide +kernel
theorem dX12_init_351 : decode cX12_init 351 = .ok (.bipush 7, 2) := by decide +kernel
theorem dX12_init_353 : decode cX12_init 353 = .ok (.newarray .int, 2) := by decide +kernel
theorem dX12_init_355 : decode cX12_init 355 = .ok (.putfield 141, 3) := by decide +kernel
theorem dX12_init_358 : decode cX12_init 358 = .ok (.aload_n 0, 1) := by decide +kernel
theorem dX12_init_359 : decode cX12_init 359 = .ok (.bipush 60, 2) := by decide +kernel
theorem dX12_init_361 : decode cX12_init 361 = .ok (.newarray .int, 2) := by decide +kernel
theorem dX12_init_363 : decode cX12_init 363 = .ok (.putfield 144, 3) := by decide +kernel
theorem dX12_init_366 : decode cX12_init 366 = .ok (.aload_n 0, 1) := by decide +kernel
theorem dX12_init_367 : decode cX12_init 367 = .ok (.bipush 7, 2) := by decide +kernel
theorem dX12_init_369 : decode cX12_init 369 = .ok (.newarray .int, 2) := by decide +kernel
theorem dX12_init_371 : decode cX12_init 371 = .ok (.putfield 147, 3) := by decide +kernel
theorem dX12_init_374 : decode cX12_init 374 = .ok (.aload_n 0, 1) := by decide +kernel
theorem dX12_init_375 : decode cX12_init 375 = .ok (.bipush 10, 2) := by decide +kernel
theorem dX12_init_377 : decode cX12_init 377 = .ok (.newarray .int, 2) := by decide +kernel
theorem dX12_init_379 : decode cX12_init 379 = .ok (.putfield 150, 3) := by decide +kernel
theorem dX12_init_382 : decode cX12_init 382 = .ok (.aload_n 0, 1) := by decide +kernel
theorem dX12_init_383 : decode cX12_init 383 = .ok (.iconst 0, 1) := by decide +kernel
theorem dX12_init_384 : decode cX12_init 384 = .ok (.invokevirtual 153, 3) := by decide +kernel
theorem dX12_init_387 : decode cX12_init 387 = .ok (.aload_n 0, 1) := by decide +kernel
theorem dX12_init_388 : decode cX12_init 388 = .ok (.invokevirtual 157, 3) := by decide +kernel
theorem dX12_init_391 : decode cX12_init 391 = .ok (.return_, 1) := by decide +kernel
theorem dX12_thrown_0 : decode cX12_thrown 0 = .ok (.aload_n 0, 1) := by decide +kernel
theorem dX12_thrown_1 : decode cX12_thrown 1 = .ok (.getfield 160, 3) := by decide +kernel
theorem dX12_thrown_4 : decode cX12_thrown 4 = .ok (.ireturn, 1) := by decide +kernel
theorem dX12_within_0 : decode cX12_within 0 = .ok (.iload_n 0, 1) := by decide +kernel
theorem dX12_within_1 : decode cX12_within 1 = .ok (.iload_n 1, 1) := by decide +kernel
theorem dX12_within_2 : decode cX12_within 2 = .ok (.if_icmp .lt 12, 3) := by decide +kernel
theorem dX12_within_5 : decode cX12_within 5 = .ok (.iload_n 0, 1) := by decide +kernel
theorem dX12_within_6 : decode cX12_within 6 = .ok (.iload_n 2, 1) := by decide +kernel
theorem dX12_within_7 : decode cX12_within 7 = .ok (.if_icmp .gt 7, 3) := by decide +kernel
theorem dX12_within_10 : decode cX12_within 10 = .ok (.iconst 1, 1) := by decide +kernel
theorem dX12_within_11 : decode cX12_within 11 = .ok (.goto 4, 3) := by decide +kernel
theorem dX12_within_14 : decode cX12_within 14 = .ok (.iconst 0, 1) := by decide +kernel
theorem dX12_within_15 : decode cX12_within 15 = .ok (.ireturn, 1) := by decide +kernel
theorem dX12_between_0 : decode cX12_between 0 = .ok (.iload_n 0, 1) := by decide +kernel
theorem dX12_between_1 : decode cX12_between 1 = .ok (.iload_n 1, 1) := by decide +kernel
theorem dX12_between_2 : decode cX12_between 2 = .ok (.if_icmp .ge 7, 3) := by decide +kernel
theorem dX12_between_5 : decode cX12_between 5 = .ok (.iload_n 1, 1) := by decide +kernel
theorem dX12_between_6 : decode cX12_between 6 = .ok (.goto 13, 3) := by decide +kernel
theorem dX12_between_9 : decode cX12_between 9 = .ok (.iload_n 0, 1) := by decide +kernel
theorem dX12_between_10 : decode cX12_between 10 = .ok (.iload_n 2, 1) := by decide +kernel
theorem dX12_between_11 : decode cX12_between 11 = .ok (.if_icmp .le 7, 3) := by decide +kernel
theorem dX12_between_14 : decode cX12_between 14 = .ok (.iload_n 2, 1) := by decide +kernel
theorem dX12_between_15 : decode cX12_between 15 = .ok (.goto 4, 3) := by decide +kernel
theorem dX12_between_18 : decode cX12_between 18 = .ok (.iload_n 0, 1) := by decide +kernel
theorem dX12_between_19 : decode cX12_between 19 = .ok (.ireturn, 1) := by decide +kernel
theorem dX12_bits_0 : decode cX12_bits 0 = .ok (.iconst 0, 1) := by decide +kernel
theorem dX12_bits_1 : decode cX12_bits 1 = .ok (.istore_n 1, 1) := by decide +kernel
theorem dX12_bits_2 : decode cX12_bits 2 = .ok (.iconst 0, 1) := by decide +kernel
theorem dX12_bits_3 : decode cX12_bits 3 = .ok (.istore_n 2, 1) := by decide +kernel
theorem dX12_bits_4 : decode cX12_bits 4 = .ok (.iload_n 2, 1) := by decide +kernel
theorem dX12_bits_5 : decode cX12_bits 5 = .ok (.bipush 7, 2) := by decide +kernel
theorem dX12_bits_7 : decode cX12_bits 7 = .ok (.if_icmp .ge 17, 3) := by decide +kernel
theorem dX12_bits_10 : decode cX12_bits 10 = .ok (.iload_n 1, 1) := by decide +kernel
theorem dX12_bits_11 : decode cX12_bits 11 = .ok (.iload_n 0, 1) := by decide +kernel
theorem dX12_bits_12 : decode cX12_bits 12 = .ok (.iload_n 2, 1) := by decide +kernel
theorem dX12_bits_13 : decode cX12_bits 13 = .ok (.ishr, 1) := by decide +kernel
theorem dX12_bits_14 : decode cX12_bits 14 = .ok (.iconst 1, 1) := by decide +kernel
theorem dX12_bits_15 : decode cX12_bits 15 = .ok (.iand, 1) := by decide +kernel
theorem dX12_bits_16 : decode cX12_bits 16 = .ok (.iadd, 1) := by decide +kernel
theorem dX12_bits_17 : decode cX12_bits 17 = .ok (.istore_n 1, 1) := by decide +kernel
theorem dX12_bits_18 : decode cX12_bits 18 = .ok (.iinc 2 1, 3) := by decide +kernel
theorem dX12_bits_21 : decode cX12_bits 21 = .ok (.goto (-17), 3) := by decide +kernel
theorem dX12_bits_24 : decode cX12_bits 24 = .ok (.iload_n 1, 1) := by decide +kernel
theorem dX12_bits_25 : decode cX12_bits 25 = .ok (.ireturn, 1) := by decide +kernel
theorem dX12_feed_0 : decode cX12_feed 0 = .ok (.aload_n 0, 1) := by decide +kernel
theorem dX12_feed_1 : decode cX12_feed 1 = .ok (.iconst 0, 1) := by decide +kernel
theorem dX12_feed_2 : decode cX12_feed 2 = .ok (.putfield 160, 3) := by decide +kernel
theorem dX12_feed_5 : decode cX12_feed 5 = .ok (.iconst 0, 1) := by decide +kernel
theorem dX12_feed_6 : decode cX12_feed 6 = .ok (.istore 7, 2) := by decide +kernel
theorem dX12_feed_8 : decode cX12_feed 8 = .ok (.iload 7, 2) := by decide +kernel
theorem dX12_feed_10 : decode cX12_feed 10 = .ok (.bipush 24, 2) := by decide +kernel
theorem dX12_feed_12 : decode cX12_feed 12 = .ok (.if_icmp .ge 108, 3) := by decide +kernel
theorem dX12_feed_15 : decode cX12_feed 15 = .ok (.iload 7, 2) := by decide +kernel
theorem dX12_feed_17 : decode cX12_feed 17 = .ok (.bipush 8, 2) := by decide +kernel
theorem dX12_feed_19 : decode cX12_feed 19 = .ok (.if_icmp .ge 7, 3) := by decide +kernel
theorem dX12_feed_22 : decode cX12_feed 22 = .ok (.lload_n 1, 1) := by decide +kernel
theorem dX12_feed_23 : decode cX12_feed 23 = .ok (.goto 16, 3) := by decide +kernel
theorem dX12_feed_26 : decode cX12_feed 26 = .ok (.iload 7, 2) := by decide +kernel
theorem dX12_feed_28 : decode cX12_feed 28 = .ok (.bipush 16, 2) := by decide +kernel
theorem dX12_feed_30 : decode cX12_feed 30 = .ok (.if_icmp .ge 7, 3) := by decide +kernel
theorem dX12_feed_33 : decode cX12_feed 33 = .ok (.lload_n 3, 1) := by decide +kernel
theorem dX12_feed_34 : decode cX12_feed 34 = .ok (.goto 5, 3) := by decide +kernel
theorem dX12_feed_37 : decode cX12_feed 37 = .ok (.lload 5, 2) := by decide +kernel
theorem dX12_feed_39 : decode cX12_feed 39 = .ok (.lstore 8, 2) := by decide +kernel
theorem dX12_feed_41 : decode cX12_feed 41 = .ok (.lload 8, 2) := by decide +kernel
theorem dX12_feed_43 : decode cX12_feed 43 = .ok (.bipush 56, 2) := by decide +kernel
theorem dX12_feed_45 : decode cX12_feed 45 = .ok (.bipush 8, 2) := by decide +kernel
theorem dX12_feed_47 : decode cX12_feed 47 = .ok (.iload 7, 2) := by decide +kernel
theorem dX12_feed_49 : decode cX12_feed 49 = .ok (.bipush 7, 2) := by decide +kernel
theorem dX12_feed_51 : decode cX12_feed 51 = .ok (.iand, 1) := by decide +kernel
theorem dX12_feed_52 : decode cX12_feed 52 = .ok (.imul, 1) := by decide +kernel
theorem dX12_feed_53 : decode cX12_feed 53 = .ok (.isub, 1) := by decide +kernel
theorem dX12_feed_54 : decode cX12_feed 54 = .ok (.lushr, 1) := by decide +kernel
theorem dX12_feed_55 : decode cX12_feed 55 = .ok (.ldc2_w 164, 3) := by decide +kernel
theorem dX12_feed_58 : decode cX12_feed 58 = .ok (.land, 1) := by decide +kernel
theorem dX12_feed_59 : decode cX12_feed 59 = .ok (.l2i, 1) := by decide +kernel
theorem dX12_feed_60 : decode cX12_feed 60 = .ok (.istore 10, 2) := by decide +kernel
theorem dX12_feed_62 : decode cX12_feed 62 = .ok (.aload_n 0, 1) := by decide +kernel
theorem dX12_feed_63 : decode cX12_feed 63 = .ok (.getfield 166, 3) := by decide +kernel
theorem dX12_feed_66 : decode cX12_feed 66 = .ok (.sipush 1000, 3) := by decide +kernel
theorem dX12_feed_69 : decode cX12_feed 69 = .ok (.if_icmp .ge 45, 3) := by decide +kernel
theorem dX12_feed_72 : decode cX12_feed 72 = .ok (.iload 10, 2) := by decide +kernel
theorem dX12_feed_74 : decode cX12_feed 74 = .ok (.bipush 10, 2) := by decide +kernel
theorem dX12_feed_76 : decode cX12_feed 76 = .ok (.if_icmp .eq 17, 3) := by decide +kernel
theorem dX12_feed_79 : decode cX12_feed 79 = .ok (.iload 10, 2) := by decide +kernel
theorem dX12_feed_81 : decode cX12_feed 81 = .ok (.bipush 32, 2) := by decide +kernel
theorem dX12_feed_83 : decode cX12_feed 83 = .ok (.if_icmp .lt 31, 3) := by decide +kernel
theorem dX12_feed_86 : decode cX12_feed 86 = .ok (.iload 10, 2) := by decide +kernel
theorem dX12_feed_88 : decode cX12_feed 88 = .ok (.bipush 126, 2) := by decide +kernel
theorem dX12_feed_90 : decode cX12_feed 90 = .ok (.if_icmp .gt 24, 3) := by decide +kernel
theorem dX12_feed_93 : decode cX12_feed 93 = .ok (.aload_n 0, 1) := by decide +kernel
theorem dX12_feed_94 : decode cX12_feed 94 = .ok (.getfield 7, 3) := by decide +kernel
theorem dX12_feed_97 : decode cX12_feed 97 = .ok (.aload_n 0, 1) := by decide +kernel
theorem dX12_feed_98 : decode cX12_feed 98 = .ok (.getfield 166, 3) := by decide +kernel
theorem dX12_feed_101 : decode cX12_feed 101 = .ok (.iload 10, 2) := by decide +kernel
theorem dX12_feed_103 : decode cX12_feed 103 = .ok (.iastore, 1) := by decide +kernel
theorem dX12_feed_104 : decode cX12_feed 104 = .ok (.aload_n 0, 1) := by decide +kernel
theorem dX12_feed_105 : decode cX12_feed 105 = .ok (.dup, 1) := by decide +kernel
theorem dX12_feed_106 : decode cX12_feed 106 = .ok (.getfield 166, 3) := by decide +kernel
theorem dX12_feed_109 : decode cX12_feed 109 = .ok (.iconst 1, 1) := by decide +kernel
theorem dX12_feed_110 : decode cX12_feed 110 = .ok (.iadd, 1) := by decide +kernel
theorem dX12_feed_111 : decode cX12_feed 111 = .ok (.putfield 166, 3) := by decide +kernel
theorem dX12_feed_114 : decode cX12_feed 114 = .ok (.iinc 7 1, 3) := by decide +kernel
theorem dX12_feed_117 : decode cX12_feed 117 = .ok (.goto (-109), 3) := by decide +kernel
theorem dX12_feed_120 : decode cX12_feed 120 = .ok (.aload_n 0, 1) := by decide +kernel
theorem dX12_feed_121 : decode cX12_feed 121 = .ok (.getfield 166, 3) := by decide +kernel
theorem dX12_feed_124 : decode cX12_feed 124 = .ok (.ireturn, 1) := by decide +kernel
theorem dX12_signAt_0 : decode cX12_signAt 0 = .ok (.iload_n 1, 1) := by decide +kernel
theorem dX12_signAt_1 : decode cX12_signAt 1 = .ok (.aload_n 0, 1) := by decide +kernel
theorem dX12_signAt_2 : decode cX12_signAt 2 = .ok (.getfield 169, 3) := by decide +kernel
theorem dX12_signAt_5 : decode cX12_signAt 5 = .ok (.if_icmp .ge 12, 3) := by decide +kernel
theorem dX12_signAt_8 : decode cX12_signAt 8 = .ok (.aload_n 0, 1) := by decide +kernel
theorem dX12_signAt_9 : decode cX12_signAt 9 = .ok (.getfield 7, 3) := by decide +kernel
theorem dX12_signAt_12 : decode cX12_signAt 12 = .ok (.iload_n 1, 1) := by decide +kernel
theorem dX12_signAt_13 : decode cX12_signAt 13 = .ok (.iaload, 1) := by decide +kernel
theorem dX12_signAt_14 : decode cX12_signAt 14 = .ok (.goto 4, 3) := by decide +kernel
theorem dX12_signAt_17 : decode cX12_signAt 17 = .ok (.iconst 0, 1) := by decide +kernel
theorem dX12_signAt_18 : decode cX12_signAt 18 = .ok (.ireturn, 1) := by decide +kernel
theorem dX12_nextToken_0 : decode cX12_nextToken 0 = .ok (.aload_n 0, 1) := by decide +kernel
theorem dX12_nextToken_1 : decode cX12_nextToken 1 = .ok (.getfield 172, 3) := by decide +kernel
theorem dX12_nextToken_4 : decode cX12_nextToken 4 = .ok (.aload_n 0, 1) := by decide +kernel
theorem dX12_nextToken_5 : decode cX12_nextToken 5 = .ok (.getfield 169, 3) := by decide +kernel
theorem dX12_nextToken_8 : decode cX12_nextToken 8 = .ok (.if_icmp .ge 44, 3) := by decide +kernel
theorem dX12_nextToken_11 : decode cX12_nextToken 11 = .ok (.aload_n 0, 1) := by decide +kernel
theorem dX12_nextToken_12 : decode cX12_nextToken 12 = .ok (.getfield 7, 3) := by decide +kernel
theorem dX12_nextToken_15 : decode cX12_nextToken 15 = .ok (.aload_n 0, 1) := by decide +kernel
theorem dX12_nextToken_16 : decode cX12_nextToken 16 = .ok (.getfield 172, 3) := by decide +kernel
theorem dX12_nextToken_19 : decode cX12_nextToken 19 = .ok (.iaload, 1) := by decide +kernel
theorem dX12_nextToken_20 : decode cX12_nextToken 20 = .ok (.bipush 32, 2) := by decide +kernel
theorem dX12_nextToken_22 : decode cX12_nextToken 22 = .ok (.if_icmp .eq 17, 3) := by decide +kernel
theorem dX12_nextToken_25 : decode cX12_nextToken 25 = .ok (.aload_n 0, 1) := by decide +kernel
theorem dX12_nextToken_26 : decode cX12_nextToken 26 = .ok (.getfield 7, 3) := by decide +kernel
theorem dX12_nextToken_29 : decode cX12_nextToken 29 = .ok (.aload_n 0, 1) := by decide +kernel
theorem dX12_nextToken_30 : decode cX12_nextToken 30 = .ok (.getfield 172, 3) := by decide +kernel
theorem dX12_nextToken_33 : decode cX12_nextToken 33 = .ok (.iaload, 1) := by decide +kernel
theorem dX12_nextToken_34 : decode cX12_nextToken 34 = .ok (.bipush 10, 2) := by decide +kernel
theorem dX12_nextToken_36 : decode cX12_nextToken 36 = .ok (.if_icmp .ne 16, 3) := by decide +kernel
theorem dX12_nextToken_39 : decode cX12_nextToken 39 = .ok (.aload_n 0, 1) := by decide +kernel
theorem dX12_nextToken_40 : decode cX12_nextToken 40 = .ok (.dup, 1) := by decide +kernel
theorem dX12_nextToken_41 : decode cX12_nextToken 41 = .ok (.getfield 172, 3) := by decide +kernel
theorem dX12_nextToken_44 : decode cX12_nextToken 44 = .ok (.iconst 1, 1) := by decide +kernel
theorem dX12_nextToken_45 : decode cX12_nextToken 45 = .ok (.iadd, 1) := by decide +kernel
theorem dX12_nextToken_46 : decode cX12_nextToken 46 = .ok (.putfield 172, 3) := by decide +kernel
theorem dX12_nextToken_49 : decode cX12_nextToken 49 = .ok (.goto (-49), 3) := by decide +kernel
theorem dX12_nextToken_52 : decode cX12_nextToken 52 = .ok (.aload_n 0, 1) := by decide +kernel
theorem dX12_nextToken_53 : decode cX12_nextToken 53 = .ok (.aload_n 0, 1) := by decide +kernel
theorem dX12_nextToken_54 : decode cX12_nextToken 54 = .ok (.getfield 172, 3) := by decide +kernel
theorem dX12_nextToken_57 : decode cX12_nextToken 57 = .ok (.putfield 175, 3) := by decide +kernel
theorem dX12_nextToken_60 : decode cX12_nextToken 60 = .ok (.aload_n 0, 1) := by decide +kernel
theorem dX12_nextToken_61 : decode cX12_nextToken 61 = .ok (.lconst 0, 1) := by decide +kernel
theorem dX12_nextToken_62 : decode cX12_nextToken 62 = .ok (.putfield 178, 3) := by decide +kernel
theorem dX12_nextToken_65 : decode cX12_nextToken 65 = .ok (.aload_n 0, 1) := by decide +kernel
theorem dX12_nextToken_66 : decode cX12_nextToken 66 = .ok (.iconst 0, 1) := by decide +kernel
theorem dX12_nextToken_67 : decode cX12_nextToken 67 = .ok (.putfield 182, 3) := by decide +kernel
theorem dX12_nextToken_70 : decode cX12_nextToken 70 = .ok (.aload_n 0, 1) := by decide +kernel
theorem dX12_nextToken_71 : decode cX12_nextToken 71 = .ok (.getfield 172, 3) := by decide +kernel
theorem dX12_nextToken_74 : decode cX12_nextToken 74 = .ok (.aload_n 0, 1) := by decide +kernel
theorem dX12_nextToken_75 : decode cX12_nextToken 75 = .ok (.getfield 169, 3) := by decide +kernel
theorem dX12_nextToken_78 : decode cX12_nextToken 78 = .ok (.if_icmp .ne 9, 3) := by decide +kernel
theorem dX12_nextToken_81 : decode cX12_nextToken 81 = .ok (.aload_n 0, 1) := by decide +kernel
theorem dX12_nextToken_82 : decode cX12_nextToken 82 = .ok (.iconst 0, 1) := by decide +kernel
theorem dX12_nextToken_83 : decode cX12_nextToken 83 = .ok (.putfield 185, 3) := by decide +kernel
theorem dX12_nextToken_86 : decode cX12_nextToken 86 = .ok (.return_, 1) := by decide +kernel
theorem dX12_nextToken_87 : decode cX12_nextToken 87 = .ok (.aload_n 0, 1) := by decide +kernel
theorem dX12_nextToken_88 : decode cX12_nextToken 88 = .ok (.getfield 7, 3) := by decide +kernel
theorem dX12_nextToken_91 : decode cX12_nextToken 91 = .ok (.aload_n 0, 1) := by decide +kernel
theorem dX12_nextToken_92 : decode cX12_nextToken 92 = .ok (.getfield 172, 3) := by decide +kernel
theorem dX12_nextToken_95 : decode cX12_nextToken 95 = .ok (.iaload, 1) := by decide +kernel
theorem dX12_nextToken_96 : decode cX12_nextToken 96 = .ok (.istore_n 1, 1) := by decide +kernel
theorem dX12_nextToken_97 : decode cX12_nextToken 97 = .ok (.iload_n 1, 1) := by decide +kernel
theorem dX12_nextToken_98 : decode cX12_nextToken 98 = .ok (.bipush 97, 2) := by decide +kernel
theorem dX12_nextToken_100 : decode cX12_nextToken 100 = .ok (.if_icmp .lt 112, 3) := by decide +kernel
theorem dX12_nextToken_103 : decode cX12_nextToken 103 = .ok (.iload_n 1, 1) := by decide +kernel
theorem dX12_nextToken_104 : decode cX12_nextToken 104 = .ok (.bipush 122, 2) := by decide +kernel
theorem dX12_nextToken_106 : decode cX12_nextToken 106 = .ok (.if_icmp .gt 106, 3) := by decide +kernel
theorem dX12_nextToken_109 : decode cX12_nextToken 109 = .ok (.aload_n 0, 1) := by decide +kernel
theorem dX12_nextToken_110 : decode cX12_nextToken 110 = .ok (.aload_n 0, 1) := by decide +kernel
theorem dX12_nextToken_111 : decode cX12_nextToken 111 = .ok (.getfield 172, 3) := by decide +kernel
theorem dX12_nextToken_114 : decode cX12_nextToken 114 = .ok (.invokevirtual 188, 3) := by decide +kernel
theorem dX12_nextToken_117 : decode cX12_nextToken 117 = .ok (.bipush 97, 2) := by decide +kernel
theorem dX12_nextToken_119 : decode cX12_nextToken 119 = .ok (.if_icmp .lt 69, 3) := by decide +kernel
theorem dX12_nextToken_122 : decode cX12_nextToken 122 = .ok (.aload_n 0, 1) := by decide +kernel
theorem dX12_nextToken_123 : decode cX12_nextToken 123 = .ok (.aload_n 0, 1) := by decide +kernel
theorem dX12_nextToken_124 : decode cX12_nextToken 124 = .ok (.getfield 172, 3) := by decide +kernel
theorem dX12_nextToken_127 : decode cX12_nextToken 127 = .ok (.invokevirtual 188, 3) := by decide +kernel
theorem dX12_nextToken_130 : decode cX12_nextToken 130 = .ok (.bipush 122, 2) := by decide +kernel
theorem dX12_nextToken_132 : decode cX12_nextToken 132 = .ok (.if_icmp .gt 56, 3) := by decide +kernel
theorem dX12_nextToken_135 : decode cX12_nextToken 135 = .ok (.aload_n 0, 1) := by decide +kernel
theorem dX12_nextToken_136 : decode cX12_nextToken 136 = .ok (.getfield 172, 3) := by decide +kernel
theorem dX12_nextToken_139 : decode cX12_nextToken 139 = .ok (.aload_n 0, 1) := by decide +kernel
theorem dX12_nextToken_140 : decode cX12_nextToken 140 = .ok (.getfield 175, 3) := by decide +kernel
theorem dX12_nextToken_143 : decode cX12_nextToken 143 = .ok (.isub, 1) := by decide +kernel
theorem dX12_nextToken_144 : decode cX12_nextToken 144 = .ok (.bipush 8, 2) := by decide +kernel
theorem dX12_nextToken_146 : decode cX12_nextToken 146 = .ok (.if_icmp .ge 29, 3) := by decide +kernel
theorem dX12_nextToken_149 : decode cX12_nextToken 149 = .ok (.aload_n 0, 1) := by decide +kernel
theorem dX12_nextToken_150 : decode cX12_nextToken 150 = .ok (.aload_n 0, 1) := by decide +kernel
theorem dX12_nextToken_151 : decode cX12_nextToken 151 = .ok (.getfield 178, 3) := by decide +kernel
theorem dX12_nextToken_154 : decode cX12_nextToken 154 = .ok (.ldc2_w 192, 3) := by decide +kernel
theorem dX12_nextToken_157 : decode cX12_nextToken 157 = .ok (.lmul, 1) := by decide +kernel
theorem dX12_nextToken_158 : decode cX12_nextToken 158 = .ok (.aload_n 0, 1) := by decide +kernel
theorem dX12_nextToken_159 : decode cX12_nextToken 159 = .ok (.aload_n 0, 1) := by decide +kernel
theorem dX12_nextToken_160 : decode cX12_nextToken 160 = .ok (.getfield 172, 3) := by decide +kernel
theorem dX12_nextToken_163 : decode cX12_nextToken 163 = .ok (.invokevirtual 188, 3) := by decide +kernel
theorem dX12_nextToken_166 : decode cX12_nextToken 166 = .ok (.i2l, 1) := by decide +kernel
theorem dX12_nextToken_167 : decode cX12_nextToken 167 = .ok (.ladd, 1) := by decide +kernel
theorem dX12_nextToken_168 : decode cX12_nextToken 168 = .ok (.ldc2_w 194, 3) := by decide +kernel
theorem dX12_nextToken_171 : decode cX12_nextToken 171 = .ok (.lsub, 1) := by decide +kernel
theorem dX12_nextToken_172 : decode cX12_nextToken 172 = .ok (.putfield 178, 3) := by decide +kernel
theorem dX12_nextToken_175 : decode cX12_nextToken 175 = .ok (.aload_n 0, 1) := by decide +kernel
theorem dX12_nextToken_176 : decode cX12_nextToken 176 = .ok (.dup, 1) := by decide +kernel
theorem dX12_nextToken_177 : decode cX12_nextToken 177 = .ok (.getfield 172, 3) := by decide +kernel
theorem dX12_nextToken_180 : decode cX12_nextToken 180 = .ok (.iconst 1, 1) := by decide +kernel
theorem dX12_nextToken_181 : decode cX12_nextToken 181 = .ok (.iadd, 1) := by decide +kernel
theorem dX12_nextToken_182 : decode cX12_nextToken 182 = .ok (.putfield 172, 3) := by decide +kernel
theorem dX12_nextToken_185 : decode cX12_nextToken 185 = .ok (.goto (-76), 3) := by decide +kernel
theorem dX12_nextToken_188 : decode cX12_nextToken 188 = .ok (.aload_n 0, 1) := by decide +kernel
theorem dX12_nextToken_189 : decode cX12_nextToken 189 = .ok (.aload_n 0, 1) := by decide +kernel
theorem dX12_nextToken_190 : decode cX12_nextToken 190 = .ok (.getfield 172, 3) := by decide +kernel
theorem dX12_nextToken_193 : decode cX12_nextToken 193 = .ok (.aload_n 0, 1) := by decide +kernel
theorem dX12_nextToken_194 : decode cX12_nextToken 194 = .ok (.getfield 175, 3) := by decide +kernel
theorem dX12_nextToken_197 : decode cX12_nextToken 197 = .ok (.isub, 1) := by decide +kernel
theorem dX12_nextToken_198 : decode cX12_nextToken 198 = .ok (.bipush 8, 2) := by decide +kernel
theorem dX12_nextToken_200 : decode cX12_nextToken 200 = .ok (.if_icmp .le 7, 3) := by decide +kernel
theorem dX12_nextToken_203 : decode cX12_nextToken 203 = .ok (.iconst 4, 1) := by decide +kernel
theorem dX12_nextToken_204 : decode cX12_nextToken 204 = .ok (.goto 4, 3) := by decide +kernel
theorem dX12_nextToken_207 : decode cX12_nextToken 207 = .ok (.iconst 1, 1) := by decide +kernel
theorem dX12_nextToken_208 : decode cX12_nextToken 208 = .ok (.putfield 185, 3) := by decide +kernel
theorem dX12_nextToken_211 : decode cX12_nextToken 211 = .ok (.return_, 1) := by decide +kernel
theorem dX12_nextToken_212 : decode cX12_nextToken 212 = .ok (.iload_n 1, 1) := by decide +kernel
theorem dX12_nextToken_213 : decode cX12_nextToken 213 = .ok (.bipush 48, 2) := by decide +kernel
theorem dX12_nextToken_215 : decode cX12_nextToken 215 = .ok (.if_icmp .lt 107, 3) := by decide +kernel
theorem dX12_nextToken_218 : decode cX12_nextToken 218 = .ok (.iload_n 1, 1) := by decide +kernel
theorem dX12_nextToken_219 : decode cX12_nextToken 219 = .ok (.bipush 57, 2) := by decide +kernel
theorem dX12_nextToken_221 : decode cX12_nextToken 221 = .ok (.if_icmp .gt 101, 3) := by decide +kernel
theorem dX12_nextToken_224 : decode cX12_nextToken 224 = .ok (.aload_n 0, 1) := by decide +kernel
theorem dX12_nextToken_225 : decode cX12_nextToken 225 = .ok (.aload_n 0, 1) := by decide +kernel
theorem dX12_nextToken_226 : decode cX12_nextToken 226 = .ok (.getfield 172, 3) := by decide +kernel
theorem dX12_nextToken_229 : decode cX12_nextToken 229 = .ok (.invokevirtual 188, 3) := by decide +kernel
theorem dX12_nextToken_232 : decode cX12_nextToken 232 = .ok (.bipush 48, 2) := by decide +kernel
theorem dX12_nextToken_234 : decode cX12_nextToken 234 = .ok (.if_icmp .lt 65, 3) := by decide +kernel
theorem dX12_nextToken_237 : decode cX12_nextToken 237 = .ok (.aload_n 0, 1) := by decide +kernel
theorem dX12_nextToken_238 : decode cX12_nextToken 238 = .ok (.aload_n 0, 1) := by decide +kernel
theorem dX12_nextToken_239 : decode cX12_nextToken 239 = .ok (.getfield 172, 3) := by decide +kernel
theorem dX12_nextToken_242 : decode cX12_nextToken 242 = .ok (.invokevirtual 188, 3) := by decide +kernel
theorem dX12_nextToken_245 : decode cX12_nextToken 245 = .ok (.bipush 57, 2) := by decide +kernel
theorem dX12_nextToken_247 : decode cX12_nextToken 247 = .ok (.if_icmp .gt 52, 3) := by decide +kernel
theorem dX12_nextToken_250 : decode cX12_nextToken 250 = .ok (.aload_n 0, 1) := by decide +kernel
theorem dX12_nextToken_251 : decode cX12_nextToken 251 = .ok (.getfield 172, 3) := by decide +kernel
theorem dX12_nextToken_254 : decode cX12_nextToken 254 = .ok (.aload_n 0, 1) := by decide +kernel
theorem dX12_nextToken_255 : decode cX12_nextToken 255 = .ok (.getfield 175, 3) := by decide +kernel
theorem dX12_nextToken_258 : decode cX12_nextToken 258 = .ok (.isub, 1) := by decide +kernel
theorem dX12_nextToken_259 : decode cX12_nextToken 259 = .ok (.iconst 4, 1) := by decide +kernel
theorem dX12_nextToken_260 : decode cX12_nextToken 260 = .ok (.if_icmp .ge 26, 3) := by decide +kernel
theorem dX12_nextToken_263 : decode cX12_nextToken 263 = .ok (.aload_n 0, 1) := by decide +kernel
theorem dX12_nextToken_264 : decode cX12_nextToken 264 = .ok (.aload_n 0, 1) := by decide +kernel
theorem dX12_nextToken_265 : decode cX12_nextToken 265 = .ok (.getfield 182, 3) := by decide +kernel
theorem dX12_nextToken_268 : decode cX12_nextToken 268 = .ok (.bipush 10, 2) := by decide +kernel
theorem dX12_nextToken_270 : decode cX12_nextToken 270 = .ok (.imul, 1) := by decide +kernel
theorem dX12_nextToken_271 : decode cX12_nextToken 271 = .ok (.aload_n 0, 1) := by decide +kernel
theorem dX12_nextToken_272 : decode cX12_nextToken 272 = .ok (.aload_n 0, 1) := by decide +kernel
theorem dX12_nextToken_273 : decode cX12_nextToken 273 = .ok (.getfield 172, 3) := by decide +kernel
theorem dX12_nextToken_276 : decode cX12_nextToken 276 = .ok (.invokevirtual 188, 3) := by decide +kernel
theorem dX12_nextToken_279 : decode cX12_nextToken 279 = .ok (.iadd, 1) := by decide +kernel
theorem dX12_nextToken_280 : decode cX12_nextToken 280 = .ok (.bipush 48, 2) := by decide +kernel
theorem dX12_nextToken_282 : decode cX12_nextToken 282 = .ok (.isub, 1) := by decide +kernel
theorem dX12_nextToken_283 : decode cX12_nextToken 283 = .ok (.putfield 182, 3) := by decide +kernel
theorem dX12_nextToken_286 : decode cX12_nextToken 286 = .ok (.aload_n 0, 1) := by decide +kernel
theorem dX12_nextToken_287 : decode cX12_nextToken 287 = .ok (.dup, 1) := by decide +kernel
theorem dX12_nextToken_288 : decode cX12_nextToken 288 = .ok (.getfield 172, 3) := by decide +kernel
theorem dX12_nextToken_291 : decode cX12_nextToken 291 = .ok (.iconst 1, 1) := by decide +kernel
theorem dX12_nextToken_292 : decode cX12_nextToken 292 = .ok (.iadd, 1) := by decide +kernel
theorem dX12_nextToken_293 : decode cX12_nextToken 293 = .ok (.putfield 172, 3) := by decide +kernel
theorem dX12_nextToken_296 : decode cX12_nextToken 296 = .ok (.goto (-72), 3) := by decide +kernel
theorem dX12_nextToken_299 : decode cX12_nextToken 299 = .ok (.aload_n 0, 1) := by decide +kernel
theorem dX12_nextToken_300 : decode cX12_nextToken 300 = .ok (.aload_n 0, 1) := by decide +kernel
theorem dX12_nextToken_301 : decode cX12_nextToken 301 = .ok (.getfield 172, 3) := by decide +kernel
theorem dX12_nextToken_304 : decode cX12_nextToken 304 = .ok (.aload_n 0, 1) := by decide +kernel
theorem dX12_nextToken_305 : decode cX12_nextToken 305 = .ok (.getfield 175, 3) := by decide +kernel
theorem dX12_nextToken_308 : decode cX12_nextToken 308 = .ok (.isub, 1) := by decide +kernel
theorem dX12_nextToken_309 : decode cX12_nextToken 309 = .ok (.iconst 4, 1) := by decide +kernel
theorem dX12_nextToken_310 : decode cX12_nextToken 310 = .ok (.if_icmp .le 7, 3) := by decide +kernel
theorem dX12_nextToken_313 : decode cX12_nextToken 313 = .ok (.iconst 4, 1) := by decide +kernel
theorem dX12_nextToken_314 : decode cX12_nextToken 314 = .ok (.goto 4, 3) := by decide +kernel
theorem dX12_nextToken_317 : decode cX12_nextToken 317 = .ok (.iconst 2, 1) := by decide +kernel
theorem dX12_nextToken_318 : decode cX12_nextToken 318 = .ok (.putfield 185, 3) := by decide +kernel
theorem dX12_nextToken_321 : decode cX12_nextToken 321 = .ok (.return_, 1) := by decide +kernel
theorem dX12_nextToken_322 : decode cX12_nextToken 322 = .ok (.aload_n 0, 1) := by decide +kernel
theorem dX12_nextToken_323 : decode cX12_nextToken 323 = .ok (.dup, 1) := by decide +kernel
theorem dX12_nextToken_324 : decode cX12_nextToken 324 = .ok (.getfield 172, 3) := by decide +kernel
theorem dX12_nextToken_327 : decode cX12_nextToken 327 = .ok (.iconst 1, 1) := by decide +kernel
theorem dX12_nextToken_328 : decode cX12_nextToken 328 = .ok (.iadd, 1) := by decide +kernel
theorem dX12_nextToken_329 : decode cX12_nextToken 329 = .ok (.putfield 172, 3) := by decide +kernel
theorem dX12_nextToken_332 : decode cX12_nextToken 332 = .ok (.aload_n 0, 1) := by decide +kernel
theorem dX12_nextToken_333 : decode cX12_nextToken 333 = .ok (.iload_n 1, 1) := by decide +kernel
theorem dX12_nextToken_334 : decode cX12_nextToken 334 = .ok (.bipush 40, 2) := by decide +kernel
theorem dX12_nextToken_336 : decode cX12_nextToken 336 = .ok (.if_icmp .lt 9, 3) := by decide +kernel
theorem dX12_nextToken_339 : decode cX12_nextToken 339 = .ok (.iload_n 1, 1) := by decide +kernel
theorem dX12_nextToken_340 : decode cX12_nextToken 340 = .ok (.bipush 43, 2) := by decide +kernel
theorem dX12_nextToken_342 : decode cX12_nextToken 342 = .ok (.if_icmp .le 21, 3) := by decide +kernel
theorem dX12_nextToken_345 : decode cX12_nextToken 345 = .ok (.iload_n 1, 1) := by decide +kernel
theorem dX12_nextToken_346 : decode cX12_nextToken 346 = .ok (.bipush 45, 2) := by decide +kernel
theorem dX12_nextToken_348 : decode cX12_nextToken 348 = .ok (.if_icmp .eq 15, 3) := by decide +kernel
theorem dX12_nextToken_351 : decode cX12_nextToken 351 = .ok (.iload_n 1, 1) := by decide +kernel
theorem dX12_nextToken_352 : decode cX12_nextToken 352 = .ok (.bipush 59, 2) := by decide +kernel
theorem dX12_nextToken_354 : decode cX12_nextToken 354 = .ok (.if_icmp .lt 13, 3) := by decide +kernel
theorem dX12_nextToken_357 : decode cX12_nextToken 357 = .ok (.iload_n 1, 1) := by decide +kernel
theorem dX12_nextToken_358 : decode cX12_nextToken 358 = .ok (.bipush 61, 2) := by decide +kernel
theorem dX12_nextToken_360 : decode cX12_nextToken 360 = .ok (.if_icmp .gt 7, 3) := by decide +kernel
theorem dX12_nextToken_363 : decode cX12_nextToken 363 = .ok (.iconst 3, 1) := by decide +kernel
theorem dX12_nextToken_364 : decode cX12_nextToken 364 = .ok (.goto 4, 3) := by decide +kernel
theorem dX12_nextToken_367 : decode cX12_nextToken 367 = .ok (.iconst 4, 1) := by decide +kernel
theorem dX12_nextToken_368 : decode cX12_nextToken 368 = .ok (.putfield 185, 3) := by decide +kernel
theorem dX12_nextToken_371 : decode cX12_nextToken 371 = .ok (.return_, 1) := by decide +kernel
theorem dX12_isWord_0 : decode cX12_isWord 0 = .ok (.aload_n 0, 1) := by decide +kernel
theorem dX12_isWord_1 : decode cX12_isWord 1 = .ok (.getfield 185, 3) := by decide +kernel
theorem dX12_isWord_4 : decode cX12_isWord 4 = .ok (.iconst 1, 1) := by decide +kernel
theorem dX12_isWord_5 : decode cX12_isWord 5 = .ok (.if_icmp .ne 16, 3) := by decide +kernel
theorem dX12_isWord_8 : decode cX12_isWord 8 = .ok (.aload_n 0, 1) := by decide +kernel
theorem dX12_isWord_9 : decode cX12_isWord 9 = .ok (.getfield 178, 3) := by decide +kernel
theorem dX12_isWord_12 : decode cX12_isWord 12 = .ok (.lload_n 1, 1) := by decide +kernel
theorem dX12_isWord_13 : decode cX12_isWord 13 = .ok (.lcmp, 1) := by decide +kernel
theorem dX12_isWord_14 : decode cX12_isWord 14 = .ok (.ifCond .ne 7, 3) := by decide +kernel
theorem dX12_isWord_17 : decode cX12_isWord 17 = .ok (.iconst 1, 1) := by decide +kernel
theorem dX12_isWord_18 : decode cX12_isWord 18 = .ok (.goto 4, 3) := by decide +kernel
theorem dX12_isWord_21 : decode cX12_isWord 21 = .ok (.iconst 0, 1) := by decide +kernel
theorem dX12_isWord_22 : decode cX12_isWord 22 = .ok (.ireturn, 1) := by decide +kernel
theorem dX12_isSign_0 : decode cX12_isSign 0 = .ok (.aload_n 0, 1) := by decide +kernel
theorem dX12_isSign_1 : decode cX12_isSign 1 = .ok (.getfield 185, 3) := by decide +kernel
theorem dX12_isSign_4 : decode cX12_isSign 4 = .ok (.iconst 3, 1) := by decide +kernel
theorem dX12_isSign_5 : decode cX12_isSign 5 = .ok (.if_icmp .ne 20, 3) := by decide +kernel
theorem dX12_isSign_8 : decode cX12_isSign 8 = .ok (.aload_n 0, 1) := by decide +kernel
theorem dX12_isSign_9 : decode cX12_isSign 9 = .ok (.getfield 7, 3) := by decide +kernel
theorem dX12_isSign_12 : decode cX12_isSign 12 = .ok (.aload_n 0, 1) := by decide +kernel
theorem dX12_isSign_13 : decode cX12_isSign 13 = .ok (.getfield 175, 3) := by decide +kernel
theorem dX12_isSign_16 : decode cX12_isSign 16 = .ok (.iaload, 1) := by decide +kernel
theorem dX12_isSign_17 : decode cX12_isSign 17 = .ok (.iload_n 1, 1) := by decide +kernel
theorem dX12_isSign_18 : decode cX12_isSign 18 = .ok (.if_icmp .ne 7, 3) := by decide +kernel
theorem dX12_isSign_21 : decode cX12_isSign 21 = .ok (.iconst 1, 1) := by decide +kernel
theorem dX12_isSign_22 : decode cX12_isSign 22 = .ok (.goto 4, 3) := by decide +kernel
theorem dX12_isSign_25 : decode cX12_isSign 25 = .ok (.iconst 0, 1) := by decide +kernel
theorem dX12_isSign_26 : decode cX12_isSign 26 = .ok (.ireturn, 1) := by decide +kernel
theorem dX12_fails_0 : decode cX12_fails 0 = .ok (.aload_n 0, 1) := by decide +kernel
theorem dX12_fails_1 : decode cX12_fails 1 = .ok (.iload_n 1, 1) := by decide +kernel
theorem dX12_fails_2 : decode cX12_fails 2 = .ok (.bipush 16, 2) := by decide +kernel
theorem dX12_fails_4 : decode cX12_fails 4 = .ok (.aload_n 0, 1) := by decide +kernel
theorem dX12_fails_5 : decode cX12_fails 5 = .ok (.getfield 175, 3) := by decide +kernel
theorem dX12_fails_8 : decode cX12_fails 8 = .ok (.imul, 1) := by decide +kernel
theorem dX12_fails_9 : decode cX12_fails 9 = .ok (.iadd, 1) := by decide +kernel
theorem dX12_fails_10 : decode cX12_fails 10 = .ok (.putfield 196, 3) := by decide +kernel
theorem dX12_fails_13 : decode cX12_fails 13 = .ok (.iconst 0, 1) := by decide +kernel
theorem dX12_fails_14 : decode cX12_fails 14 = .ok (.ireturn, 1) := by decide +kernel
theorem dX12_usual_0 : decode cX12_usual 0 = .ok (.aload_n 0, 1) := by decide +kernel
theorem dX12_usual_1 : decode cX12_usual 1 = .ok (.getfield 13, 3) := by decide +kernel
theorem dX12_usual_4 : decode cX12_usual 4 = .ok (.bipush 7, 2) := by decide +kernel
theorem dX12_usual_6 : decode cX12_usual 6 = .ok (.iload_n 1, 1) := by decide +kernel
theorem dX12_usual_7 : decode cX12_usual 7 = .ok (.imul, 1) := by decide +kernel
theorem dX12_usual_8 : decode cX12_usual 8 = .ok (.iconst 0, 1) := by decide +kernel
theorem dX12_usual_9 : decode cX12_usual 9 = .ok (.iadd, 1) := by decide +kernel
theorem dX12_usual_10 : decode cX12_usual 10 = .ok (.iconst 0, 1) := by decide +kernel
theorem dX12_usual_11 : decode cX12_usual 11 = .ok (.iastore, 1) := by decide +kernel
theorem dX12_usual_12 : decode cX12_usual 12 = .ok (.aload_n 0, 1) := by decide +kernel
theorem dX12_usual_13 : decode cX12_usual 13 = .ok (.getfield 13, 3) := by decide +kernel
theorem dX12_usual_16 : decode cX12_usual 16 = .ok (.bipush 7, 2) := by decide +kernel
theorem dX12_usual_18 : decode cX12_usual 18 = .ok (.iload_n 1, 1) := by decide +kernel
theorem dX12_usual_19 : decode cX12_usual 19 = .ok (.imul, 1) := by decide +kernel
theorem dX12_usual_20 : decode cX12_usual 20 = .ok (.iconst 1, 1) := by decide +kernel
theorem dX12_usual_21 : decode cX12_usual 21 = .ok (.iadd, 1) := by decide +kernel
theorem dX12_usual_22 : decode cX12_usual 22 = .ok (.iconst 0, 1) := by decide +kernel
theorem dX12_usual_23 : decode cX12_usual 23 = .ok (.iastore, 1) := by decide +kernel
theorem dX12_usual_24 : decode cX12_usual 24 = .ok (.aload_n 0, 1) := by decide +kernel
theorem dX12_usual_25 : decode cX12_usual 25 = .ok (.getfield 13, 3) := by decide +kernel
theorem dX12_usual_28 : decode cX12_usual 28 = .ok (.bipush 7, 2) := by decide +kernel
theorem dX12_usual_30 : decode cX12_usual 30 = .ok (.iload_n 1, 1) := by decide +kernel
theorem dX12_usual_31 : decode cX12_usual 31 = .ok (.imul, 1) := by decide +kernel
theorem dX12_usual_32 : decode cX12_usual 32 = .ok (.iconst 2, 1) := by decide +kernel
theorem dX12_usual_33 : decode cX12_usual 33 = .ok (.iadd, 1) := by decide +kernel
theorem dX12_usual_34 : decode cX12_usual 34 = .ok (.iconst 5, 1) := by decide +kernel
theorem dX12_usual_35 : decode cX12_usual 35 = .ok (.iastore, 1) := by decide +kernel
theorem dX12_usual_36 : decode cX12_usual 36 = .ok (.aload_n 0, 1) := by decide +kernel
theorem dX12_usual_37 : decode cX12_usual 37 = .ok (.getfield 13, 3) := by decide +kernel
theorem dX12_usual_40 : decode cX12_usual 40 = .ok (.bipush 7, 2) := by decide +kernel
theorem dX12_usual_42 : decode cX12_usual 42 = .ok (.iload_n 1, 1) := by decide +kernel
theorem dX12_usual_43 : decode cX12_usual 43 = .ok (.imul, 1) := by decide +kernel
theorem dX12_usual_44 : decode cX12_usual 44 = .ok (.iconst 3, 1) := by decide +kernel
theorem dX12_usual_45 : decode cX12_usual 45 = .ok (.iadd, 1) := by decide +kernel
theorem dX12_usual_46 : decode cX12_usual 46 = .ok (.bipush 30, 2) := by decide +kernel
theorem dX12_usual_48 : decode cX12_usual 48 = .ok (.iastore, 1) := by decide +kernel
theorem dX12_usual_49 : decode cX12_usual 49 = .ok (.aload_n 0, 1) := by decide +kernel
theorem dX12_usual_50 : decode cX12_usual 50 = .ok (.getfield 13, 3) := by decide +kernel
theorem dX12_usual_53 : decode cX12_usual 53 = .ok (.bipush 7, 2) := by decide +kernel
theorem dX12_usual_55 : decode cX12_usual 55 = .ok (.iload_n 1, 1) := by decide +kernel
theorem dX12_usual_56 : decode cX12_usual 56 = .ok (.imul, 1) := by decide +kernel
theorem dX12_usual_57 : decode cX12_usual 57 = .ok (.iconst 4, 1) := by decide +kernel
theorem dX12_usual_58 : decode cX12_usual 58 = .ok (.iadd, 1) := by decide +kernel
theorem dX12_usual_59 : decode cX12_usual 59 = .ok (.iconst 0, 1) := by decide +kernel
theorem dX12_usual_60 : decode cX12_usual 60 = .ok (.iastore, 1) := by decide +kernel
theorem dX12_usual_61 : decode cX12_usual 61 = .ok (.aload_n 0, 1) := by decide +kernel
theorem dX12_usual_62 : decode cX12_usual 62 = .ok (.getfield 13, 3) := by decide +kernel
theorem dX12_usual_65 : decode cX12_usual 65 = .ok (.bipush 7, 2) := by decide +kernel
theorem dX12_usual_67 : decode cX12_usual 67 = .ok (.iload_n 1, 1) := by decide +kernel
theorem dX12_usual_68 : decode cX12_usual 68 = .ok (.imul, 1) := by decide +kernel
theorem dX12_usual_69 : decode cX12_usual 69 = .ok (.iconst 5, 1) := by decide +kernel
theorem dX12_usual_70 : decode cX12_usual 70 = .ok (.iadd, 1) := by decide +kernel
theorem dX12_usual_71 : decode cX12_usual 71 = .ok (.bipush 60, 2) := by decide +kernel
theorem dX12_usual_73 : decode cX12_usual 73 = .ok (.iastore, 1) := by decide +kernel
theorem dX12_usual_74 : decode cX12_usual 74 = .ok (.aload_n 0, 1) := by decide +kernel
theorem dX12_usual_75 : decode cX12_usual 75 = .ok (.getfield 13, 3) := by decide +kernel
theorem dX12_usual_78 : decode cX12_usual 78 = .ok (.bipush 7, 2) := by decide +kernel
theorem dX12_usual_80 : decode cX12_usual 80 = .ok (.iload_n 1, 1) := by decide +kernel
theorem dX12_usual_81 : decode cX12_usual 81 = .ok (.imul, 1) := by decide +kernel
theorem dX12_usual_82 : decode cX12_usual 82 = .ok (.bipush 6, 2) := by decide +kernel
theorem dX12_usual_84 : decode cX12_usual 84 = .ok (.iadd, 1) := by decide +kernel
theorem dX12_usual_85 : decode cX12_usual 85 = .ok (.bipush 60, 2) := by decide +kernel
theorem dX12_usual_87 : decode cX12_usual 87 = .ok (.iastore, 1) := by decide +kernel
theorem dX12_usual_88 : decode cX12_usual 88 = .ok (.return_, 1) := by decide +kernel
theorem dX12_puts_0 : decode cX12_puts 0 = .ok (.aload_n 0, 1) := by decide +kernel
theorem dX12_puts_1 : decode cX12_puts 1 = .ok (.getfield 53, 3) := by decide +kernel
theorem dX12_puts_4 : decode cX12_puts 4 = .ok (.aload_n 0, 1) := by decide +kernel
theorem dX12_puts_5 : decode cX12_puts 5 = .ok (.getfield 199, 3) := by decide +kernel
theorem dX12_puts_8 : decode cX12_puts 8 = .ok (.iload_n 1, 1) := by decide +kernel
theorem dX12_puts_9 : decode cX12_puts 9 = .ok (.iastore, 1) := by decide +kernel
theorem dX12_puts_10 : decode cX12_puts 10 = .ok (.aload_n 0, 1) := by decide +kernel
theorem dX12_puts_11 : decode cX12_puts 11 = .ok (.dup, 1) := by decide +kernel
theorem dX12_puts_12 : decode cX12_puts 12 = .ok (.getfield 199, 3) := by decide +kernel
theorem dX12_puts_15 : decode cX12_puts 15 = .ok (.iconst 1, 1) := by decide +kernel
theorem dX12_puts_16 : decode cX12_puts 16 = .ok (.iadd, 1) := by decide +kernel
theorem dX12_puts_17 : decode cX12_puts 17 = .ok (.putfield 199, 3) := by decide +kernel
theorem dX12_puts_20 : decode cX12_puts 20 = .ok (.return_, 1) := by decide +kernel
theorem dX12_fact_0 : decode cX12_fact 0 = .ok (.aload_n 0, 1) := by decide +kernel
theorem dX12_fact_1 : decode cX12_fact 1 = .ok (.getfield 185, 3) := by decide +kernel
theorem dX12_fact_4 : decode cX12_fact 4 = .ok (.iconst 1, 1) := by decide +kernel
theorem dX12_fact_5 : decode cX12_fact 5 = .ok (.if_icmp .eq 5, 3) := by decide +kernel
theorem dX12_fact_8 : decode cX12_fact 8 = .ok (.iconst 0, 1) := by decide +kernel
theorem dX12_fact_9 : decode cX12_fact 9 = .ok (.ireturn, 1) := by decide +kernel
theorem dX12_fact_10 : decode cX12_fact 10 = .ok (.aload_n 0, 1) := by decide +kernel
theorem dX12_fact_11 : decode cX12_fact 11 = .ok (.getfield 178, 3) := by decide +kernel
theorem dX12_fact_14 : decode cX12_fact 14 = .ok (.ldc2_w 202, 3) := by decide +kernel
theorem dX12_fact_17 : decode cX12_fact 17 = .ok (.lcmp, 1) := by decide +kernel
theorem dX12_fact_18 : decode cX12_fact 18 = .ok (.ifCond .ne 5, 3) := by decide +kernel
theorem dX12_fact_21 : decode cX12_fact 21 = .ok (.iconst 1, 1) := by decide +kernel
theorem dX12_fact_22 : decode cX12_fact 22 = .ok (.ireturn, 1) := by decide +kernel
theorem dX12_fact_23 : decode cX12_fact 23 = .ok (.aload_n 0, 1) := by decide +kernel
theorem dX12_fact_24 : decode cX12_fact 24 = .ok (.getfield 204, 3) := by decide +kernel
theorem dX12_fact_27 : decode cX12_fact 27 = .ok (.ifCond .ne 50, 3) := by decide +kernel
theorem dX12_fact_30 : decode cX12_fact 30 = .ok (.aload_n 0, 1) := by decide +kernel
theorem dX12_fact_31 : decode cX12_fact 31 = .ok (.getfield 178, 3) := by decide +kernel
theorem dX12_fact_34 : decode cX12_fact 34 = .ok (.ldc2_w 207, 3) := by decide +kernel
theorem dX12_fact_37 : decode cX12_fact 37 = .ok (.lcmp, 1) := by decide +kernel
theorem dX12_fact_38 : decode cX12_fact 38 = .ok (.ifCond .ne 7, 3) := by decide +kernel
theorem dX12_fact_41 : decode cX12_fact 41 = .ok (.iconst 2, 1) := by decide +kernel
theorem dX12_fact_42 : decode cX12_fact 42 = .ok (.goto 34, 3) := by decide +kernel
theorem dX12_fact_45 : decode cX12_fact 45 = .ok (.aload_n 0, 1) := by decide +kernel
theorem dX12_fact_46 : decode cX12_fact 46 = .ok (.getfield 178, 3) := by decide +kernel
theorem dX12_fact_49 : decode cX12_fact 49 = .ok (.ldc2_w 209, 3) := by decide +kernel
theorem dX12_fact_52 : decode cX12_fact 52 = .ok (.lcmp, 1) := by decide +kernel
theorem dX12_fact_53 : decode cX12_fact 53 = .ok (.ifCond .ne 7, 3) := by decide +kernel
theorem dX12_fact_56 : decode cX12_fact 56 = .ok (.iconst 3, 1) := by decide +kernel
theorem dX12_fact_57 : decode cX12_fact 57 = .ok (.goto 19, 3) := by decide +kernel
theorem dX12_fact_60 : decode cX12_fact 60 = .ok (.aload_n 0, 1) := by decide +kernel
theorem dX12_fact_61 : decode cX12_fact 61 = .ok (.getfield 178, 3) := by decide +kernel
theorem dX12_fact_64 : decode cX12_fact 64 = .ok (.ldc2_w 211, 3) := by decide +kernel
theorem dX12_fact_67 : decode cX12_fact 67 = .ok (.lcmp, 1) := by decide +kernel
theorem dX12_fact_68 : decode cX12_fact 68 = .ok (.ifCond .ne 7, 3) := by decide +kernel
theorem dX12_fact_71 : decode cX12_fact 71 = .ok (.iconst 4, 1) := by decide +kernel
theorem dX12_fact_72 : decode cX12_fact 72 = .ok (.goto 4, 3) := by decide +kernel
theorem dX12_fact_75 : decode cX12_fact 75 = .ok (.iconst 0, 1) := by decide +kernel
theorem dX12_fact_76 : decode cX12_fact 76 = .ok (.ireturn, 1) := by decide +kernel
theorem dX12_fact_77 : decode cX12_fact 77 = .ok (.aload_n 0, 1) := by decide +kernel
theorem dX12_fact_78 : decode cX12_fact 78 = .ok (.getfield 178, 3) := by decide +kernel
theorem dX12_fact_81 : decode cX12_fact 81 = .ok (.ldc2_w 213, 3) := by decide +kernel
theorem dX12_fact_84 : decode cX12_fact 84 = .ok (.lcmp, 1) := by decide +kernel
theorem dX12_fact_85 : decode cX12_fact 85 = .ok (.ifCond .ne 7, 3) := by decide +kernel
theorem dX12_fact_88 : decode cX12_fact 88 = .ok (.iconst 5, 1) := by decide +kernel
theorem dX12_fact_89 : decode cX12_fact 89 = .ok (.goto 20, 3) := by decide +kernel
theorem dX12_fact_92 : decode cX12_fact 92 = .ok (.aload_n 0, 1) := by decide +kernel
theorem dX12_fact_93 : decode cX12_fact 93 = .ok (.getfield 178, 3) := by decide +kernel
theorem dX12_fact_96 : decode cX12_fact 96 = .ok (.ldc2_w 215, 3) := by decide +kernel
theorem dX12_fact_99 : decode cX12_fact 99 = .ok (.lcmp, 1) := by decide +kernel
theorem dX12_fact_100 : decode cX12_fact 100 = .ok (.ifCond .ne 8, 3) := by decide +kernel
theorem dX12_fact_103 : decode cX12_fact 103 = .ok (.bipush 6, 2) := by decide +kernel
theorem dX12_fact_105 : decode cX12_fact 105 = .ok (.goto 4, 3) := by decide +kernel
theorem dX12_fact_108 : decode cX12_fact 108 = .ok (.iconst 0, 1) := by decide +kernel
theorem dX12_fact_109 : decode cX12_fact 109 = .ok (.ireturn, 1) := by decide +kernel
theorem dX12_reads_0 : decode cX12_reads 0 = .ok (.iconst 0, 1) := by decide +kernel
theorem dX12_reads_1 : decode cX12_reads 1 = .ok (.istore_n 1, 1) := by decide +kernel
theorem dX12_reads_2 : decode cX12_reads 2 = .ok (.iconst 1, 1) := by decide +kernel
theorem dX12_reads_3 : decode cX12_reads 3 = .ok (.istore_n 2, 1) := by decide +kernel
theorem dX12_reads_4 : decode cX12_reads 4 = .ok (.aload_n 0, 1) := by decide +kernel
theorem dX12_reads_5 : decode cX12_reads 5 = .ok (.getfield 59, 3) := by decide +kernel
theorem dX12_reads_8 : decode cX12_reads 8 = .ok (.iconst 0, 1) := by decide +kernel
theorem dX12_reads_9 : decode cX12_reads 9 = .ok (.iconst 0, 1) := by decide +kernel
theorem dX12_reads_10 : decode cX12_reads 10 = .ok (.bastore, 1) := by decide +kernel
theorem dX12_reads_11 : decode cX12_reads 11 = .ok (.iload_n 2, 1) := by decide +kernel
theorem dX12_reads_12 : decode cX12_reads 12 = .ok (.ifCond .eq 167, 3) := by decide +kernel
theorem dX12_reads_15 : decode cX12_reads 15 = .ok (.aload_n 0, 1) := by decide +kernel
theorem dX12_reads_16 : decode cX12_reads 16 = .ok (.invokevirtual 217, 3) := by decide +kernel
theorem dX12_reads_19 : decode cX12_reads 19 = .ok (.istore_n 3, 1) := by decide +kernel
theorem dX12_reads_20 : decode cX12_reads 20 = .ok (.aload_n 0, 1) := by decide +kernel
theorem dX12_reads_21 : decode cX12_reads 21 = .ok (.ldc2_w 221, 3) := by decide +kernel
theorem dX12_reads_24 : decode cX12_reads 24 = .ok (.invokevirtual 223, 3) := by decide +kernel
theorem dX12_reads_27 : decode cX12_reads 27 = .ok (.istore 4, 2) := by decide +kernel
theorem dX12_reads_29 : decode cX12_reads 29 = .ok (.aload_n 0, 1) := by decide +kernel
theorem dX12_reads_30 : decode cX12_reads 30 = .ok (.bipush 40, 2) := by decide +kernel
theorem dX12_reads_32 : decode cX12_reads 32 = .ok (.invokevirtual 227, 3) := by decide +kernel
theorem dX12_reads_35 : decode cX12_reads 35 = .ok (.istore 5, 2) := by decide +kernel
theorem dX12_reads_37 : decode cX12_reads 37 = .ok (.iload_n 3, 1) := by decide +kernel
theorem dX12_reads_38 : decode cX12_reads 38 = .ok (.ifCond .ne 27, 3) := by decide +kernel
theorem dX12_reads_41 : decode cX12_reads 41 = .ok (.iload 4, 2) := by decide +kernel
theorem dX12_reads_43 : decode cX12_reads 43 = .ok (.ifCond .ne 22, 3) := by decide +kernel
theorem dX12_reads_46 : decode cX12_reads 46 = .ok (.iload 5, 2) := by decide +kernel
theorem dX12_reads_48 : decode cX12_reads 48 = .ok (.ifCond .ne 17, 3) := by decide +kernel
theorem dX12_reads_51 : decode cX12_reads 51 = .ok (.aload_n 0, 1) := by decide +kernel
theorem dX12_reads_52 : decode cX12_reads 52 = .ok (.getfield 185, 3) := by decide +kernel
theorem dX12_reads_55 : decode cX12_reads 55 = .ok (.iconst 2, 1) := by decide +kernel
theorem dX12_reads_56 : decode cX12_reads 56 = .ok (.if_icmp .eq 9, 3) := by decide +kernel
theorem dX12_reads_59 : decode cX12_reads 59 = .ok (.aload_n 0, 1) := by decide +kernel
theorem dX12_reads_60 : decode cX12_reads 60 = .ok (.iconst 1, 1) := by decide +kernel
theorem dX12_reads_61 : decode cX12_reads 61 = .ok (.invokevirtual 231, 3) := by decide +kernel
theorem dX12_reads_64 : decode cX12_reads 64 = .ok (.ireturn, 1) := by decide +kernel
theorem dX12_reads_65 : decode cX12_reads 65 = .ok (.iload_n 1, 1) := by decide +kernel
theorem dX12_reads_66 : decode cX12_reads 66 = .ok (.iconst 5, 1) := by decide +kernel
theorem dX12_reads_67 : decode cX12_reads 67 = .ok (.if_icmp .ne 9, 3) := by decide +kernel
theorem dX12_reads_70 : decode cX12_reads 70 = .ok (.aload_n 0, 1) := by decide +kernel
theorem dX12_reads_71 : decode cX12_reads 71 = .ok (.iconst 5, 1) := by decide +kernel
theorem dX12_reads_72 : decode cX12_reads 72 = .ok (.invokevirtual 231, 3) := by decide +kernel
theorem dX12_reads_75 : decode cX12_reads 75 = .ok (.ireturn, 1) := by decide +kernel
theorem dX12_reads_76 : decode cX12_reads 76 = .ok (.iload 4, 2) := by decide +kernel
theorem dX12_reads_78 : decode cX12_reads 78 = .ok (.ifCond .ne 8, 3) := by decide +kernel
theorem dX12_reads_81 : decode cX12_reads 81 = .ok (.iload 5, 2) := by decide +kernel
theorem dX12_reads_83 : decode cX12_reads 83 = .ok (.ifCond .eq 48, 3) := by decide +kernel
theorem dX12_reads_86 : decode cX12_reads 86 = .ok (.aload_n 0, 1) := by decide +kernel
theorem dX12_reads_87 : decode cX12_reads 87 = .ok (.iload 4, 2) := by decide +kernel
theorem dX12_reads_89 : decode cX12_reads 89 = .ok (.ifCond .eq 8, 3) := by decide +kernel
theorem dX12_reads_92 : decode cX12_reads 92 = .ok (.bipush 30, 2) := by decide +kernel
theorem dX12_reads_94 : decode cX12_reads 94 = .ok (.goto 5, 3) := by decide +kernel
theorem dX12_reads_97 : decode cX12_reads 97 = .ok (.bipush 28, 2) := by decide +kernel
theorem dX12_reads_99 : decode cX12_reads 99 = .ok (.invokevirtual 234, 3) := by decide +kernel
theorem dX12_reads_102 : decode cX12_reads 102 = .ok (.iinc 1 1, 3) := by decide +kernel
theorem dX12_reads_105 : decode cX12_reads 105 = .ok (.aload_n 0, 1) := by decide +kernel
theorem dX12_reads_106 : decode cX12_reads 106 = .ok (.getfield 56, 3) := by decide +kernel
theorem dX12_reads_109 : decode cX12_reads 109 = .ok (.iload_n 1, 1) := by decide +kernel
theorem dX12_reads_110 : decode cX12_reads 110 = .ok (.iload 4, 2) := by decide +kernel
theorem dX12_reads_112 : decode cX12_reads 112 = .ok (.ifCond .eq 7, 3) := by decide +kernel
theorem dX12_reads_115 : decode cX12_reads 115 = .ok (.iconst 1, 1) := by decide +kernel
theorem dX12_reads_116 : decode cX12_reads 116 = .ok (.goto 4, 3) := by decide +kernel
theorem dX12_reads_119 : decode cX12_reads 119 = .ok (.iconst 2, 1) := by decide +kernel
theorem dX12_reads_120 : decode cX12_reads 120 = .ok (.iastore, 1) := by decide +kernel
theorem dX12_reads_121 : decode cX12_reads 121 = .ok (.aload_n 0, 1) := by decide +kernel
theorem dX12_reads_122 : decode cX12_reads 122 = .ok (.getfield 59, 3) := by decide +kernel
theorem dX12_reads_125 : decode cX12_reads 125 = .ok (.iload_n 1, 1) := by decide +kernel
theorem dX12_reads_126 : decode cX12_reads 126 = .ok (.iconst 0, 1) := by decide +kernel
theorem dX12_reads_127 : decode cX12_reads 127 = .ok (.bastore, 1) := by decide +kernel
theorem dX12_reads_128 : decode cX12_reads 128 = .ok (.goto 44, 3) := by decide +kernel
theorem dX12_reads_131 : decode cX12_reads 131 = .ok (.aload_n 0, 1) := by decide +kernel
theorem dX12_reads_132 : decode cX12_reads 132 = .ok (.iload_n 3, 1) := by decide +kernel
theorem dX12_reads_133 : decode cX12_reads 133 = .ok (.ifCond .le 7, 3) := by decide +kernel
theorem dX12_reads_136 : decode cX12_reads 136 = .ok (.iload_n 3, 1) := by decide +kernel
theorem dX12_reads_137 : decode cX12_reads 137 = .ok (.goto 10, 3) := by decide +kernel
theorem dX12_reads_140 : decode cX12_reads 140 = .ok (.bipush 100, 2) := by decide +kernel
theorem dX12_reads_142 : decode cX12_reads 142 = .ok (.aload_n 0, 1) := by decide +kernel
theorem dX12_reads_143 : decode cX12_reads 143 = .ok (.getfield 182, 3) := by decide +kernel
theorem dX12_reads_146 : decode cX12_reads 146 = .ok (.iadd, 1) := by decide +kernel
theorem dX12_reads_147 : decode cX12_reads 147 = .ok (.invokevirtual 234, 3) := by decide +kernel
theorem dX12_reads_150 : decode cX12_reads 150 = .ok (.iconst 0, 1) := by decide +kernel
theorem dX12_reads_151 : decode cX12_reads 151 = .ok (.istore_n 2, 1) := by decide +kernel
theorem dX12_reads_152 : decode cX12_reads 152 = .ok (.iload_n 1, 1) := by decide +kernel
theorem dX12_reads_153 : decode cX12_reads 153 = .ok (.ifCond .le 19, 3) := by decide +kernel
theorem dX12_reads_156 : decode cX12_reads 156 = .ok (.aload_n 0, 1) := by decide +kernel
theorem dX12_reads_157 : decode cX12_reads 157 = .ok (.getfield 56, 3) := by decide +kernel
theorem dX12_reads_160 : decode cX12_reads 160 = .ok (.iload_n 1, 1) := by decide +kernel
theorem dX12_reads_161 : decode cX12_reads 161 = .ok (.iaload, 1) := by decide +kernel
theorem dX12_reads_162 : decode cX12_reads 162 = .ok (.iconst 1, 1) := by decide +kernel
theorem dX12_reads_163 : decode cX12_reads 163 = .ok (.if_icmp .ne 9, 3) := by decide +kernel
theorem dX12_reads_166 : decode cX12_reads 166 = .ok (.iinc 1 (-1), 3) := by decide +kernel
theorem dX12_reads_169 : decode cX12_reads 169 = .ok (.goto (-17), 3) := by decide +kernel
theorem dX12_reads_172 : decode cX12_reads 172 = .ok (.aload_n 0, 1) := by decide +kernel
theorem dX12_reads_173 : decode cX12_reads 173 = .ok (.invokevirtual 237, 3) := by decide +kernel
theorem dX12_reads_176 : decode cX12_reads 176 = .ok (.goto (-165), 3) := by decide +kernel
theorem dX12_reads_179 : decode cX12_reads 179 = .ok (.aload_n 0, 1) := by decide +kernel
theorem dX12_reads_180 : decode cX12_reads 180 = .ok (.bipush 43, 2) := by decide +kernel
theorem dX12_reads_182 : decode cX12_reads 182 = .ok (.invokevirtual 227, 3) := by decide +kernel
theorem dX12_reads_185 : decode cX12_reads 185 = .ok (.ifCond .ne 21, 3) := by decide +kernel
theorem dX12_reads_188 : decode cX12_reads 188 = .ok (.aload_n 0, 1) := by decide +kernel
theorem dX12_reads_189 : decode cX12_reads 189 = .ok (.bipush 45, 2) := by decide +kernel
theorem dX12_reads_191 : decode cX12_reads 191 = .ok (.invokevirtual 227, 3) := by decide +kernel
theorem dX12_reads_194 : decode cX12_reads 194 = .ok (.ifCond .ne 12, 3) := by decide +kernel
theorem dX12_reads_197 : decode cX12_reads 197 = .ok (.aload_n 0, 1) := by decide +kernel
theorem dX12_reads_198 : decode cX12_reads 198 = .ok (.bipush 42, 2) := by decide +kernel
theorem dX12_reads_200 : decode cX12_reads 200 = .ok (.invokevirtual 227, 3) := by decide +kernel
theorem dX12_reads_203 : decode cX12_reads 203 = .ok (.ifCond .eq 42, 3) := by decide +kernel
theorem dX12_reads_206 : decode cX12_reads 206 = .ok (.aload_n 0, 1) := by decide +kernel
theorem dX12_reads_207 : decode cX12_reads 207 = .ok (.aload_n 0, 1) := by decide +kernel
theorem dX12_reads_208 : decode cX12_reads 208 = .ok (.bipush 43, 2) := by decide +kernel
theorem dX12_reads_210 : decode cX12_reads 210 = .ok (.invokevirtual 227, 3) := by decide +kernel
theorem dX12_reads_213 : decode cX12_reads 213 = .ok (.ifCond .eq 8, 3) := by decide +kernel
theorem dX12_reads_216 : decode cX12_reads 216 = .ok (.bipush 20, 2) := by decide +kernel
theorem dX12_reads_218 : decode cX12_reads 218 = .ok (.goto 19, 3) := by decide +kernel
theorem dX12_reads_221 : decode cX12_reads 221 = .ok (.aload_n 0, 1) := by decide +kernel
theorem dX12_reads_222 : decode cX12_reads 222 = .ok (.bipush 45, 2) := by decide +kernel
theorem dX12_reads_224 : decode cX12_reads 224 = .ok (.invokevirtual 227, 3) := by decide +kernel
theorem dX12_reads_227 : decode cX12_reads 227 = .ok (.ifCond .eq 8, 3) := by decide +kernel
theorem dX12_reads_230 : decode cX12_reads 230 = .ok (.bipush 21, 2) := by decide +kernel
theorem dX12_reads_232 : decode cX12_reads 232 = .ok (.goto 5, 3) := by decide +kernel
theorem dX12_reads_235 : decode cX12_reads 235 = .ok (.bipush 22, 2) := by decide +kernel
theorem dX12_reads_237 : decode cX12_reads 237 = .ok (.invokevirtual 234, 3) := by decide +kernel
theorem dX12_reads_240 : decode cX12_reads 240 = .ok (.iconst 1, 1) := by decide +kernel
theorem dX12_reads_241 : decode cX12_reads 241 = .ok (.istore_n 2, 1) := by decide +kernel
theorem dX12_reads_242 : decode cX12_reads 242 = .ok (.goto 182, 3) := by decide +kernel
theorem dX12_reads_245 : decode cX12_reads 245 = .ok (.aload_n 0, 1) := by decide +kernel
theorem dX12_reads_246 : decode cX12_reads 246 = .ok (.bipush 60, 2) := by decide +kernel
theorem dX12_reads_248 : decode cX12_reads 248 = .ok (.invokevirtual 227, 3) := by decide +kernel
theorem dX12_reads_251 : decode cX12_reads 251 = .ok (.ifCond .ne 12, 3) := by decide +kernel
theorem dX12_reads_254 : decode cX12_reads 254 = .ok (.aload_n 0, 1) := by decide +kernel
theorem dX12_reads_255 : decode cX12_reads 255 = .ok (.bipush 61, 2) := by decide +kernel
theorem dX12_reads_257 : decode cX12_reads 257 = .ok (.invokevirtual 227, 3) := by decide +kernel
theorem dX12_reads_260 : decode cX12_reads 260 = .ok (.ifCond .eq 44, 3) := by decide +kernel
theorem dX12_reads_263 : decode cX12_reads 263 = .ok (.aload_n 0, 1) := by decide +kernel
theorem dX12_reads_264 : decode cX12_reads 264 = .ok (.getfield 59, 3) := by decide +kernel
theorem dX12_reads_267 : decode cX12_reads 267 = .ok (.iload_n 1, 1) := by decide +kernel
theorem dX12_reads_268 : decode cX12_reads 268 = .ok (.baload, 1) := by decide +kernel
theorem dX12_reads_269 : decode cX12_reads 269 = .ok (.ifCond .ne 35, 3) := by decide +kernel
theorem dX12_reads_272 : decode cX12_reads 272 = .ok (.aload_n 0, 1) := by decide +kernel
theorem dX12_reads_273 : decode cX12_reads 273 = .ok (.aload_n 0, 1) := by decide +kernel
theorem dX12_reads_274 : decode cX12_reads 274 = .ok (.bipush 60, 2) := by decide +kernel
theorem dX12_reads_276 : decode cX12_reads 276 = .ok (.invokevirtual 227, 3) := by decide +kernel
theorem dX12_reads_279 : decode cX12_reads 279 = .ok (.ifCond .eq 8, 3) := by decide +kernel
theorem dX12_reads_282 : decode cX12_reads 282 = .ok (.bipush 24, 2) := by decide +kernel
theorem dX12_reads_284 : decode cX12_reads 284 = .ok (.goto 5, 3) := by decide +kernel
theorem dX12_reads_287 : decode cX12_reads 287 = .ok (.bipush 25, 2) := by decide +kernel
theorem dX12_reads_289 : decode cX12_reads 289 = .ok (.invokevirtual 234, 3) := by decide +kernel
theorem dX12_reads_292 : decode cX12_reads 292 = .ok (.aload_n 0, 1) := by decide +kernel
theorem dX12_reads_293 : decode cX12_reads 293 = .ok (.getfield 59, 3) := by decide +kernel
theorem dX12_reads_296 : decode cX12_reads 296 = .ok (.iload_n 1, 1) := by decide +kernel
theorem dX12_reads_297 : decode cX12_reads 297 = .ok (.iconst 1, 1) := by decide +kernel
theorem dX12_reads_298 : decode cX12_reads 298 = .ok (.bastore, 1) := by decide +kernel
theorem dX12_reads_299 : decode cX12_reads 299 = .ok (.iconst 1, 1) := by decide +kernel
theorem dX12_reads_300 : decode cX12_reads 300 = .ok (.istore_n 2, 1) := by decide +kernel
theorem dX12_reads_301 : decode cX12_reads 301 = .ok (.goto 123, 3) := by decide +kernel
theorem dX12_reads_304 : decode cX12_reads 304 = .ok (.aload_n 0, 1) := by decide +kernel
theorem dX12_reads_305 : decode cX12_reads 305 = .ok (.ldc2_w 240, 3) := by decide +kernel
theorem dX12_reads_308 : decode cX12_reads 308 = .ok (.invokevirtual 223, 3) := by decide +kernel
theorem dX12_reads_311 : decode cX12_reads 311 = .ok (.ifCond .ne 13, 3) := by decide +kernel
theorem dX12_reads_314 : decode cX12_reads 314 = .ok (.aload_n 0, 1) := by decide +kernel
theorem dX12_reads_315 : decode cX12_reads 315 = .ok (.ldc2_w 242, 3) := by decide +kernel
theorem dX12_reads_318 : decode cX12_reads 318 = .ok (.invokevirtual 223, 3) := by decide +kernel
theorem dX12_reads_321 : decode cX12_reads 321 = .ok (.ifCond .eq 36, 3) := by decide +kernel
theorem dX12_reads_324 : decode cX12_reads 324 = .ok (.aload_n 0, 1) := by decide +kernel
theorem dX12_reads_325 : decode cX12_reads 325 = .ok (.aload_n 0, 1) := by decide +kernel
theorem dX12_reads_326 : decode cX12_reads 326 = .ok (.ldc2_w 240, 3) := by decide +kernel
theorem dX12_reads_329 : decode cX12_reads 329 = .ok (.invokevirtual 223, 3) := by decide +kernel
theorem dX12_reads_332 : decode cX12_reads 332 = .ok (.ifCond .eq 8, 3) := by decide +kernel
theorem dX12_reads_335 : decode cX12_reads 335 = .ok (.bipush 26, 2) := by decide +kernel
theorem dX12_reads_337 : decode cX12_reads 337 = .ok (.goto 5, 3) := by decide +kernel
theorem dX12_reads_340 : decode cX12_reads 340 = .ok (.bipush 27, 2) := by decide +kernel
theorem dX12_reads_342 : decode cX12_reads 342 = .ok (.invokevirtual 234, 3) := by decide +kernel
theorem dX12_reads_345 : decode cX12_reads 345 = .ok (.aload_n 0, 1) := by decide +kernel
theorem dX12_reads_346 : decode cX12_reads 346 = .ok (.getfield 59, 3) := by decide +kernel
theorem dX12_reads_349 : decode cX12_reads 349 = .ok (.iload_n 1, 1) := by decide +kernel
theorem dX12_reads_350 : decode cX12_reads 350 = .ok (.iconst 0, 1) := by decide +kernel
theorem dX12_reads_351 : decode cX12_reads 351 = .ok (.bastore, 1) := by decide +kernel
theorem dX12_reads_352 : decode cX12_reads 352 = .ok (.iconst 1, 1) := by decide +kernel
theorem dX12_reads_353 : decode cX12_reads 353 = .ok (.istore_n 2, 1) := by decide +kernel
theorem dX12_reads_354 : decode cX12_reads 354 = .ok (.goto 70, 3) := by decide +kernel
theorem dX12_reads_357 : decode cX12_reads 357 = .ok (.aload_n 0, 1) := by decide +kernel
theorem dX12_reads_358 : decode cX12_reads 358 = .ok (.bipush 41, 2) := by decide +kernel
theorem dX12_reads_360 : decode cX12_reads 360 = .ok (.invokevirtual 227, 3) := by decide +kernel
theorem dX12_reads_363 : decode cX12_reads 363 = .ok (.ifCond .eq 36, 3) := by decide +kernel
theorem dX12_reads_366 : decode cX12_reads 366 = .ok (.iload_n 1, 1) := by decide +kernel
theorem dX12_reads_367 : decode cX12_reads 367 = .ok (.ifCond .le 32, 3) := by decide +kernel
theorem dX12_reads_370 : decode cX12_reads 370 = .ok (.aload_n 0, 1) := by decide +kernel
theorem dX12_reads_371 : decode cX12_reads 371 = .ok (.bipush 29, 2) := by decide +kernel
theorem dX12_reads_373 : decode cX12_reads 373 = .ok (.invokevirtual 234, 3) := by decide +kernel
theorem dX12_reads_376 : decode cX12_reads 376 = .ok (.iinc 1 (-1), 3) := by decide +kernel
theorem dX12_reads_379 : decode cX12_reads 379 = .ok (.iload_n 1, 1) := by decide +kernel
theorem dX12_reads_380 : decode cX12_reads 380 = .ok (.ifCond .le 44, 3) := by decide +kernel
theorem dX12_reads_383 : decode cX12_reads 383 = .ok (.aload_n 0, 1) := by decide +kernel
theorem dX12_reads_384 : decode cX12_reads 384 = .ok (.getfield 56, 3) := by decide +kernel
theorem dX12_reads_387 : decode cX12_reads 387 = .ok (.iload_n 1, 1) := by decide +kernel
theorem dX12_reads_388 : decode cX12_reads 388 = .ok (.iaload, 1) := by decide +kernel
theorem dX12_reads_389 : decode cX12_reads 389 = .ok (.iconst 1, 1) := by decide +kernel
theorem dX12_reads_390 : decode cX12_reads 390 = .ok (.if_icmp .ne 34, 3) := by decide +kernel
theorem dX12_reads_393 : decode cX12_reads 393 = .ok (.iinc 1 (-1), 3) := by decide +kernel
theorem dX12_reads_396 : decode cX12_reads 396 = .ok (.goto (-17), 3) := by decide +kernel
theorem dX12_reads_399 : decode cX12_reads 399 = .ok (.iload_n 1, 1) := by decide +kernel
theorem dX12_reads_400 : decode cX12_reads 400 = .ok (.ifCond .ne 18, 3) := by decide +kernel
theorem dX12_reads_403 : decode cX12_reads 403 = .ok (.aload_n 0, 1) := by decide +kernel
theorem dX12_reads_404 : decode cX12_reads 404 = .ok (.bipush 59, 2) := by decide +kernel
theorem dX12_reads_406 : decode cX12_reads 406 = .ok (.invokevirtual 227, 3) := by decide +kernel
theorem dX12_reads_409 : decode cX12_reads 409 = .ok (.ifCond .eq 9, 3) := by decide +kernel
theorem dX12_reads_412 : decode cX12_reads 412 = .ok (.aload_n 0, 1) := by decide +kernel
theorem dX12_reads_413 : decode cX12_reads 413 = .ok (.invokevirtual 237, 3) := by decide +kernel
theorem dX12_reads_416 : decode cX12_reads 416 = .ok (.iconst 1, 1) := by decide +kernel
theorem dX12_reads_417 : decode cX12_reads 417 = .ok (.ireturn, 1) := by decide +kernel
theorem dX12_reads_418 : decode cX12_reads 418 = .ok (.aload_n 0, 1) := by decide +kernel
theorem dX12_reads_419 : decode cX12_reads 419 = .ok (.iconst 1, 1) := by decide +kernel
theorem dX12_reads_420 : decode cX12_reads 420 = .ok (.invokevirtual 231, 3) := by decide +kernel
theorem dX12_reads_423 : decode cX12_reads 423 = .ok (.ireturn, 1) := by decide +kernel
theorem dX12_reads_424 : decode cX12_reads 424 = .ok (.aload_n 0, 1) := by decide +kernel
theorem dX12_reads_425 : decode cX12_reads 425 = .ok (.invokevirtual 237, 3) := by decide +kernel
theorem dX12_reads_428 : decode cX12_reads 428 = .ok (.goto (-417), 3) := by decide +kernel
theorem dX12_opens_0 : decode cX12_opens 0 = .ok (.aload_n 0, 1) := by decide +kernel
theorem dX12_opens_1 : decode cX12_opens 1 = .ok (.getfield 66, 3) := by decide +kernel
theorem dX12_opens_4 : decode cX12_opens 4 = .ok (.iload_n 1, 1) := by decide +kernel
theorem dX12_opens_5 : decode cX12_opens 5 = .ok (.iconst 0, 1) := by decide +kernel
theorem dX12_opens_6 : decode cX12_opens 6 = .ok (.iastore, 1) := by decide +kernel
theorem dX12_opens_7 : decode cX12_opens 7 = .ok (.aload_n 0, 1) := by decide +kernel
theorem dX12_opens_8 : decode cX12_opens 8 = .ok (.getfield 72, 3) := by decide +kernel
theorem dX12_opens_11 : decode cX12_opens 11 = .ok (.iload_n 1, 1) := by decide +kernel
theorem dX12_opens_12 : decode cX12_opens 12 = .ok (.iconst 0, 1) := by decide +kernel
theorem dX12_opens_13 : decode cX12_opens 13 = .ok (.iastore, 1) := by decide +kernel
theorem dX12_opens_14 : decode cX12_opens 14 = .ok (.aload_n 0, 1) := by decide +kernel
theorem dX12_opens_15 : decode cX12_opens 15 = .ok (.getfield 75, 3) := by decide +kernel
theorem dX12_opens_18 : decode cX12_opens 18 = .ok (.iload_n 1, 1) := by decide +kernel
theorem dX12_opens_19 : decode cX12_opens 19 = .ok (.iconst 0, 1) := by decide +kernel
theorem dX12_opens_20 : decode cX12_opens 20 = .ok (.iastore, 1) := by decide +kernel
theorem dX12_opens_21 : decode cX12_opens 21 = .ok (.aload_n 0, 1) := by decide +kernel
theorem dX12_opens_22 : decode cX12_opens 22 = .ok (.getfield 78, 3) := by decide +kernel
theorem dX12_opens_25 : decode cX12_opens 25 = .ok (.iload_n 1, 1) := by decide +kernel
theorem dX12_opens_26 : decode cX12_opens 26 = .ok (.bipush 20, 2) := by decide +kernel
theorem dX12_opens_28 : decode cX12_opens 28 = .ok (.iastore, 1) := by decide +kernel
theorem dX12_opens_29 : decode cX12_opens 29 = .ok (.aload_n 0, 1) := by decide +kernel
theorem dX12_opens_30 : decode cX12_opens 30 = .ok (.getfield 84, 3) := by decide +kernel
theorem dX12_opens_33 : decode cX12_opens 33 = .ok (.iload_n 1, 1) := by decide +kernel
theorem dX12_opens_34 : decode cX12_opens 34 = .ok (.iconst 0, 1) := by decide +kernel
theorem dX12_opens_35 : decode cX12_opens 35 = .ok (.iastore, 1) := by decide +kernel
theorem dX12_opens_36 : decode cX12_opens 36 = .ok (.return_, 1) := by decide +kernel
theorem dX12_sums_0 : decode cX12_sums 0 = .ok (.aload_n 0, 1) := by decide +kernel
theorem dX12_sums_1 : decode cX12_sums 1 = .ok (.getfield 75, 3) := by decide +kernel
theorem dX12_sums_4 : decode cX12_sums 4 = .ok (.iload_n 1, 1) := by decide +kernel
theorem dX12_sums_5 : decode cX12_sums 5 = .ok (.aload_n 0, 1) := by decide +kernel
theorem dX12_sums_6 : decode cX12_sums 6 = .ok (.getfield 78, 3) := by decide +kernel
theorem dX12_sums_9 : decode cX12_sums 9 = .ok (.iload_n 1, 1) := by decide +kernel
theorem dX12_sums_10 : decode cX12_sums 10 = .ok (.iaload, 1) := by decide +kernel
theorem dX12_sums_11 : decode cX12_sums 11 = .ok (.bipush 21, 2) := by decide +kernel
theorem dX12_sums_13 : decode cX12_sums 13 = .ok (.if_icmp .ne 19, 3) := by decide +kernel
theorem dX12_sums_16 : decode cX12_sums 16 = .ok (.aload_n 0, 1) := by decide +kernel
theorem dX12_sums_17 : decode cX12_sums 17 = .ok (.getfield 75, 3) := by decide +kernel
theorem dX12_sums_20 : decode cX12_sums 20 = .ok (.iload_n 1, 1) := by decide +kernel
theorem dX12_sums_21 : decode cX12_sums 21 = .ok (.iaload, 1) := by decide +kernel
theorem dX12_sums_22 : decode cX12_sums 22 = .ok (.aload_n 0, 1) := by decide +kernel
theorem dX12_sums_23 : decode cX12_sums 23 = .ok (.getfield 81, 3) := by decide +kernel
theorem dX12_sums_26 : decode cX12_sums 26 = .ok (.iload_n 1, 1) := by decide +kernel
theorem dX12_sums_27 : decode cX12_sums 27 = .ok (.iaload, 1) := by decide +kernel
theorem dX12_sums_28 : decode cX12_sums 28 = .ok (.isub, 1) := by decide +kernel
theorem dX12_sums_29 : decode cX12_sums 29 = .ok (.goto 16, 3) := by decide +kernel
theorem dX12_sums_32 : decode cX12_sums 32 = .ok (.aload_n 0, 1) := by decide +kernel
theorem dX12_sums_33 : decode cX12_sums 33 = .ok (.getfield 75, 3) := by decide +kernel
theorem dX12_sums_36 : decode cX12_sums 36 = .ok (.iload_n 1, 1) := by decide +kernel
theorem dX12_sums_37 : decode cX12_sums 37 = .ok (.iaload, 1) := by decide +kernel
theorem dX12_sums_38 : decode cX12_sums 38 = .ok (.aload_n 0, 1) := by decide +kernel
theorem dX12_sums_39 : decode cX12_sums 39 = .ok (.getfield 81, 3) := by decide +kernel
theorem dX12_sums_42 : decode cX12_sums 42 = .ok (.iload_n 1, 1) := by decide +kernel
theorem dX12_sums_43 : decode cX12_sums 43 = .ok (.iaload, 1) := by decide +kernel
theorem dX12_sums_44 : decode cX12_sums 44 = .ok (.iadd, 1) := by decide +kernel
theorem dX12_sums_45 : decode cX12_sums 45 = .ok (.iastore, 1) := by decide +kernel
theorem dX12_sums_46 : decode cX12_sums 46 = .ok (.aload_n 0, 1) := by decide +kernel
theorem dX12_sums_47 : decode cX12_sums 47 = .ok (.getfield 84, 3) := by decide +kernel
theorem dX12_sums_50 : decode cX12_sums 50 = .ok (.iload_n 1, 1) := by decide +kernel
theorem dX12_sums_51 : decode cX12_sums 51 = .ok (.iconst 0, 1) := by decide +kernel
theorem dX12_sums_52 : decode cX12_sums 52 = .ok (.iastore, 1) := by decide +kernel
theorem dX12_sums_53 : decode cX12_sums 53 = .ok (.return_, 1) := by decide +kernel
theorem dX12_tests_0 : decode cX12_tests 0 = .ok (.aload_n 0, 1) := by decide +kernel
theorem dX12_tests_1 : decode cX12_tests 1 = .ok (.iload_n 1, 1) := by decide +kernel
theorem dX12_tests_2 : decode cX12_tests 2 = .ok (.invokevirtual 244, 3) := by decide +kernel
theorem dX12_tests_5 : decode cX12_tests 5 = .ok (.aload_n 0, 1) := by decide +kernel
theorem dX12_tests_6 : decode cX12_tests 6 = .ok (.getfield 75, 3) := by decide +kernel
theorem dX12_tests_9 : decode cX12_tests 9 = .ok (.iload_n 1, 1) := by decide +kernel
theorem dX12_tests_10 : decode cX12_tests 10 = .ok (.iaload, 1) := by decide +kernel
theorem dX12_tests_11 : decode cX12_tests 11 = .ok (.istore_n 2, 1) := by decide +kernel
theorem dX12_tests_12 : decode cX12_tests 12 = .ok (.aload_n 0, 1) := by decide +kernel
theorem dX12_tests_13 : decode cX12_tests 13 = .ok (.getfield 72, 3) := by decide +kernel
theorem dX12_tests_16 : decode cX12_tests 16 = .ok (.iload_n 1, 1) := by decide +kernel
theorem dX12_tests_17 : decode cX12_tests 17 = .ok (.iaload, 1) := by decide +kernel
theorem dX12_tests_18 : decode cX12_tests 18 = .ok (.bipush 24, 2) := by decide +kernel
theorem dX12_tests_20 : decode cX12_tests 20 = .ok (.if_icmp .ne 24, 3) := by decide +kernel
theorem dX12_tests_23 : decode cX12_tests 23 = .ok (.aload_n 0, 1) := by decide +kernel
theorem dX12_tests_24 : decode cX12_tests 24 = .ok (.getfield 69, 3) := by decide +kernel
theorem dX12_tests_27 : decode cX12_tests 27 = .ok (.iload_n 1, 1) := by decide +kernel
theorem dX12_tests_28 : decode cX12_tests 28 = .ok (.iaload, 1) := by decide +kernel
theorem dX12_tests_29 : decode cX12_tests 29 = .ok (.aload_n 0, 1) := by decide +kernel
theorem dX12_tests_30 : decode cX12_tests 30 = .ok (.getfield 75, 3) := by decide +kernel
theorem dX12_tests_33 : decode cX12_tests 33 = .ok (.iload_n 1, 1) := by decide +kernel
theorem dX12_tests_34 : decode cX12_tests 34 = .ok (.iaload, 1) := by decide +kernel
theorem dX12_tests_35 : decode cX12_tests 35 = .ok (.if_icmp .ge 7, 3) := by decide +kernel
