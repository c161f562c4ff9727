theorem dX1_pass_40 : decode cX1_pass 40 = .ok (.iconst (-1), 1) := by decide +kernel
theorem dX1_pass_41 : decode cX1_pass 41 = .ok (.iastore, 1) := by decide +kernel
theorem dX1_pass_42 : decode cX1_pass 42 = .ok (.iinc 3 1, 3) := by decide +kernel
theorem dX1_pass_45 : decode cX1_pass 45 = .ok (.goto (-23), 3) := by decide +kernel
theorem dX1_pass_48 : decode cX1_pass 48 = .ok (.iconst 0, 1) := by decide +kernel
theorem dX1_pass_49 : decode cX1_pass 49 = .ok (.istore_n 3, 1) := by decide +kernel
theorem dX1_pass_50 : decode cX1_pass 50 = .ok (.iload_n 3, 1) := by decide +kernel
theorem dX1_pass_51 : decode cX1_pass 51 = .ok (.iconst 5, 1) := by decide +kernel
theorem dX1_pass_52 : decode cX1_pass 52 = .ok (.if_icmp .ge 16, 3) := by decide +kernel
theorem dX1_pass_55 : decode cX1_pass 55 = .ok (.aload_n 0, 1) := by decide +kernel
theorem dX1_pass_56 : decode cX1_pass 56 = .ok (.getfield 30, 3) := by decide +kernel
theorem dX1_pass_59 : decode cX1_pass 59 = .ok (.iload_n 3, 1) := by decide +kernel
theorem dX1_pass_60 : decode cX1_pass 60 = .ok (.iconst 0, 1) := by decide +kernel
theorem dX1_pass_61 : decode cX1_pass 61 = .ok (.iastore, 1) := by decide +kernel
theorem dX1_pass_62 : decode cX1_pass 62 = .ok (.iinc 3 1, 3) := by decide +kernel
theorem dX1_pass_65 : decode cX1_pass 65 = .ok (.goto (-15), 3) := by decide +kernel
theorem dX1_pass_68 : decode cX1_pass 68 = .ok (.iconst 0, 1) := by decide +kernel
theorem dX1_pass_69 : decode cX1_pass 69 = .ok (.istore_n 3, 1) := by decide +kernel
theorem dX1_pass_70 : decode cX1_pass 70 = .ok (.iload_n 3, 1) := by decide +kernel
theorem dX1_pass_71 : decode cX1_pass 71 = .ok (.bipush 60, 2) := by decide +kernel
theorem dX1_pass_73 : decode cX1_pass 73 = .ok (.if_icmp .ge 76, 3) := by decide +kernel
theorem dX1_pass_76 : decode cX1_pass 76 = .ok (.aload_n 1, 1) := by decide +kernel
theorem dX1_pass_77 : decode cX1_pass 77 = .ok (.getfield 88, 3) := by decide +kernel
theorem dX1_pass_80 : decode cX1_pass 80 = .ok (.iload_n 3, 1) := by decide +kernel
theorem dX1_pass_81 : decode cX1_pass 81 = .ok (.if_icmp .gt 15, 3) := by decide +kernel
theorem dX1_pass_84 : decode cX1_pass 84 = .ok (.iload_n 3, 1) := by decide +kernel
theorem dX1_pass_85 : decode cX1_pass 85 = .ok (.aload_n 1, 1) := by decide +kernel
theorem dX1_pass_86 : decode cX1_pass 86 = .ok (.getfield 93, 3) := by decide +kernel
theorem dX1_pass_89 : decode cX1_pass 89 = .ok (.if_icmp .ge 7, 3) := by decide +kernel
theorem dX1_pass_92 : decode cX1_pass 92 = .ok (.iconst 1, 1) := by decide +kernel
theorem dX1_pass_93 : decode cX1_pass 93 = .ok (.goto 4, 3) := by decide +kernel
theorem dX1_pass_96 : decode cX1_pass 96 = .ok (.iconst 0, 1) := by decide +kernel
theorem dX1_pass_97 : decode cX1_pass 97 = .ok (.istore 4, 2) := by decide +kernel
theorem dX1_pass_99 : decode cX1_pass 99 = .ok (.aload_n 0, 1) := by decide +kernel
theorem dX1_pass_100 : decode cX1_pass 100 = .ok (.iload_n 3, 1) := by decide +kernel
theorem dX1_pass_101 : decode cX1_pass 101 = .ok (.iload_n 2, 1) := by decide +kernel
theorem dX1_pass_102 : decode cX1_pass 102 = .ok (.invokevirtual 96, 3) := by decide +kernel
theorem dX1_pass_105 : decode cX1_pass 105 = .ok (.aload_n 0, 1) := by decide +kernel
theorem dX1_pass_106 : decode cX1_pass 106 = .ok (.iload_n 3, 1) := by decide +kernel
theorem dX1_pass_107 : decode cX1_pass 107 = .ok (.iload 4, 2) := by decide +kernel
theorem dX1_pass_109 : decode cX1_pass 109 = .ok (.invokevirtual 100, 3) := by decide +kernel
theorem dX1_pass_112 : decode cX1_pass 112 = .ok (.aload_n 0, 1) := by decide +kernel
theorem dX1_pass_113 : decode cX1_pass 113 = .ok (.iload_n 3, 1) := by decide +kernel
theorem dX1_pass_114 : decode cX1_pass 114 = .ok (.invokevirtual 104, 3) := by decide +kernel
theorem dX1_pass_117 : decode cX1_pass 117 = .ok (.aload_n 0, 1) := by decide +kernel
theorem dX1_pass_118 : decode cX1_pass 118 = .ok (.getfield 85, 3) := by decide +kernel
theorem dX1_pass_121 : decode cX1_pass 121 = .ok (.iconst (-1), 1) := by decide +kernel
theorem dX1_pass_122 : decode cX1_pass 122 = .ok (.if_icmp .ne 17, 3) := by decide +kernel
theorem dX1_pass_125 : decode cX1_pass 125 = .ok (.iload 4, 2) := by decide +kernel
theorem dX1_pass_127 : decode cX1_pass 127 = .ok (.ifCond .eq 12, 3) := by decide +kernel
theorem dX1_pass_130 : decode cX1_pass 130 = .ok (.aload_n 0, 1) := by decide +kernel
theorem dX1_pass_131 : decode cX1_pass 131 = .ok (.iload_n 3, 1) := by decide +kernel
theorem dX1_pass_132 : decode cX1_pass 132 = .ok (.aload_n 1, 1) := by decide +kernel
theorem dX1_pass_133 : decode cX1_pass 133 = .ok (.getfield 108, 3) := by decide +kernel
theorem dX1_pass_136 : decode cX1_pass 136 = .ok (.invokevirtual 111, 3) := by decide +kernel
theorem dX1_pass_139 : decode cX1_pass 139 = .ok (.aload_n 0, 1) := by decide +kernel
theorem dX1_pass_140 : decode cX1_pass 140 = .ok (.invokevirtual 115, 3) := by decide +kernel
theorem dX1_pass_143 : decode cX1_pass 143 = .ok (.iinc 3 1, 3) := by decide +kernel
theorem dX1_pass_146 : decode cX1_pass 146 = .ok (.goto (-76), 3) := by decide +kernel
theorem dX1_pass_149 : decode cX1_pass 149 = .ok (.aload_n 0, 1) := by decide +kernel
theorem dX1_pass_150 : decode cX1_pass 150 = .ok (.bipush 60, 2) := by decide +kernel
theorem dX1_pass_152 : decode cX1_pass 152 = .ok (.iconst 0, 1) := by decide +kernel
theorem dX1_pass_153 : decode cX1_pass 153 = .ok (.invokevirtual 100, 3) := by decide +kernel
theorem dX1_pass_156 : decode cX1_pass 156 = .ok (.return_, 1) := by decide +kernel
theorem dX1_standInLine_0 : decode cX1_standInLine 0 = .ok (.iconst 0, 1) := by decide +kernel
theorem dX1_standInLine_1 : decode cX1_standInLine 1 = .ok (.istore_n 3, 1) := by decide +kernel
theorem dX1_standInLine_2 : decode cX1_standInLine 2 = .ok (.iload_n 3, 1) := by decide +kernel
theorem dX1_standInLine_3 : decode cX1_standInLine 3 = .ok (.aload_n 0, 1) := by decide +kernel
theorem dX1_standInLine_4 : decode cX1_standInLine 4 = .ok (.getfield 36, 3) := by decide +kernel
theorem dX1_standInLine_7 : decode cX1_standInLine 7 = .ok (.getfield 40, 3) := by decide +kernel
theorem dX1_standInLine_10 : decode cX1_standInLine 10 = .ok (.if_icmp .ge 74, 3) := by decide +kernel
theorem dX1_standInLine_13 : decode cX1_standInLine 13 = .ok (.iload_n 3, 1) := by decide +kernel
theorem dX1_standInLine_14 : decode cX1_standInLine 14 = .ok (.bipush 7, 2) := by decide +kernel
theorem dX1_standInLine_16 : decode cX1_standInLine 16 = .ok (.if_icmp .ge 68, 3) := by decide +kernel
theorem dX1_standInLine_19 : decode cX1_standInLine 19 = .ok (.aload_n 0, 1) := by decide +kernel
theorem dX1_standInLine_20 : decode cX1_standInLine 20 = .ok (.getfield 18, 3) := by decide +kernel
theorem dX1_standInLine_23 : decode cX1_standInLine 23 = .ok (.iload_n 3, 1) := by decide +kernel
theorem dX1_standInLine_24 : decode cX1_standInLine 24 = .ok (.iaload, 1) := by decide +kernel
theorem dX1_standInLine_25 : decode cX1_standInLine 25 = .ok (.iload_n 1, 1) := by decide +kernel
theorem dX1_standInLine_26 : decode cX1_standInLine 26 = .ok (.if_icmp .ne 52, 3) := by decide +kernel
theorem dX1_standInLine_29 : decode cX1_standInLine 29 = .ok (.iload_n 2, 1) := by decide +kernel
theorem dX1_standInLine_30 : decode cX1_standInLine 30 = .ok (.iload_n 3, 1) := by decide +kernel
theorem dX1_standInLine_31 : decode cX1_standInLine 31 = .ok (.ishr, 1) := by decide +kernel
theorem dX1_standInLine_32 : decode cX1_standInLine 32 = .ok (.iconst 1, 1) := by decide +kernel
theorem dX1_standInLine_33 : decode cX1_standInLine 33 = .ok (.iand, 1) := by decide +kernel
theorem dX1_standInLine_34 : decode cX1_standInLine 34 = .ok (.ifCond .ne 44, 3) := by decide +kernel
theorem dX1_standInLine_37 : decode cX1_standInLine 37 = .ok (.aload_n 0, 1) := by decide +kernel
theorem dX1_standInLine_38 : decode cX1_standInLine 38 = .ok (.getfield 82, 3) := by decide +kernel
theorem dX1_standInLine_41 : decode cX1_standInLine 41 = .ok (.ifCond .lt 37, 3) := by decide +kernel
theorem dX1_standInLine_44 : decode cX1_standInLine 44 = .ok (.aload_n 0, 1) := by decide +kernel
theorem dX1_standInLine_45 : decode cX1_standInLine 45 = .ok (.getfield 82, 3) := by decide +kernel
theorem dX1_standInLine_48 : decode cX1_standInLine 48 = .ok (.bipush 7, 2) := by decide +kernel
theorem dX1_standInLine_50 : decode cX1_standInLine 50 = .ok (.if_icmp .ge 28, 3) := by decide +kernel
theorem dX1_standInLine_53 : decode cX1_standInLine 53 = .ok (.aload_n 0, 1) := by decide +kernel
theorem dX1_standInLine_54 : decode cX1_standInLine 54 = .ok (.getfield 33, 3) := by decide +kernel
theorem dX1_standInLine_57 : decode cX1_standInLine 57 = .ok (.aload_n 0, 1) := by decide +kernel
theorem dX1_standInLine_58 : decode cX1_standInLine 58 = .ok (.getfield 82, 3) := by decide +kernel
theorem dX1_standInLine_61 : decode cX1_standInLine 61 = .ok (.iload_n 3, 1) := by decide +kernel
theorem dX1_standInLine_62 : decode cX1_standInLine 62 = .ok (.iastore, 1) := by decide +kernel
theorem dX1_standInLine_63 : decode cX1_standInLine 63 = .ok (.aload_n 0, 1) := by decide +kernel
theorem dX1_standInLine_64 : decode cX1_standInLine 64 = .ok (.dup, 1) := by decide +kernel
theorem dX1_standInLine_65 : decode cX1_standInLine 65 = .ok (.getfield 82, 3) := by decide +kernel
theorem dX1_standInLine_68 : decode cX1_standInLine 68 = .ok (.iconst 1, 1) := by decide +kernel
theorem dX1_standInLine_69 : decode cX1_standInLine 69 = .ok (.iadd, 1) := by decide +kernel
theorem dX1_standInLine_70 : decode cX1_standInLine 70 = .ok (.putfield 82, 3) := by decide +kernel
theorem dX1_standInLine_73 : decode cX1_standInLine 73 = .ok (.aload_n 0, 1) := by decide +kernel
theorem dX1_standInLine_74 : decode cX1_standInLine 74 = .ok (.iconst 0, 1) := by decide +kernel
theorem dX1_standInLine_75 : decode cX1_standInLine 75 = .ok (.putfield 118, 3) := by decide +kernel
theorem dX1_standInLine_78 : decode cX1_standInLine 78 = .ok (.iinc 3 1, 3) := by decide +kernel
theorem dX1_standInLine_81 : decode cX1_standInLine 81 = .ok (.goto (-79), 3) := by decide +kernel
theorem dX1_standInLine_84 : decode cX1_standInLine 84 = .ok (.return_, 1) := by decide +kernel
theorem dX1_endPlaying_0 : decode cX1_endPlaying 0 = .ok (.aload_n 0, 1) := by decide +kernel
theorem dX1_endPlaying_1 : decode cX1_endPlaying 1 = .ok (.getfield 85, 3) := by decide +kernel
theorem dX1_endPlaying_4 : decode cX1_endPlaying 4 = .ok (.ifCond .lt 12, 3) := by decide +kernel
theorem dX1_endPlaying_7 : decode cX1_endPlaying 7 = .ok (.aload_n 0, 1) := by decide +kernel
theorem dX1_endPlaying_8 : decode cX1_endPlaying 8 = .ok (.getfield 85, 3) := by decide +kernel
theorem dX1_endPlaying_11 : decode cX1_endPlaying 11 = .ok (.bipush 7, 2) := by decide +kernel
theorem dX1_endPlaying_13 : decode cX1_endPlaying 13 = .ok (.if_icmp .lt 4, 3) := by decide +kernel
theorem dX1_endPlaying_16 : decode cX1_endPlaying 16 = .ok (.return_, 1) := by decide +kernel
theorem dX1_endPlaying_17 : decode cX1_endPlaying 17 = .ok (.iload_n 2, 1) := by decide +kernel
theorem dX1_endPlaying_18 : decode cX1_endPlaying 18 = .ok (.ifCond .eq 26, 3) := by decide +kernel
theorem dX1_endPlaying_21 : decode cX1_endPlaying 21 = .ok (.iload_n 1, 1) := by decide +kernel
theorem dX1_endPlaying_22 : decode cX1_endPlaying 22 = .ok (.aload_n 0, 1) := by decide +kernel
theorem dX1_endPlaying_23 : decode cX1_endPlaying 23 = .ok (.getfield 9, 3) := by decide +kernel
theorem dX1_endPlaying_26 : decode cX1_endPlaying 26 = .ok (.aload_n 0, 1) := by decide +kernel
theorem dX1_endPlaying_27 : decode cX1_endPlaying 27 = .ok (.getfield 85, 3) := by decide +kernel
theorem dX1_endPlaying_30 : decode cX1_endPlaying 30 = .ok (.iaload, 1) := by decide +kernel
theorem dX1_endPlaying_31 : decode cX1_endPlaying 31 = .ok (.isub, 1) := by decide +kernel
theorem dX1_endPlaying_32 : decode cX1_endPlaying 32 = .ok (.aload_n 0, 1) := by decide +kernel
theorem dX1_endPlaying_33 : decode cX1_endPlaying 33 = .ok (.getfield 21, 3) := by decide +kernel
theorem dX1_endPlaying_36 : decode cX1_endPlaying 36 = .ok (.aload_n 0, 1) := by decide +kernel
theorem dX1_endPlaying_37 : decode cX1_endPlaying 37 = .ok (.getfield 85, 3) := by decide +kernel
theorem dX1_endPlaying_40 : decode cX1_endPlaying 40 = .ok (.iaload, 1) := by decide +kernel
theorem dX1_endPlaying_41 : decode cX1_endPlaying 41 = .ok (.if_icmp .lt 18, 3) := by decide +kernel
theorem dX1_endPlaying_44 : decode cX1_endPlaying 44 = .ok (.aload_n 0, 1) := by decide +kernel
theorem dX1_endPlaying_45 : decode cX1_endPlaying 45 = .ok (.getfield 15, 3) := by decide +kernel
theorem dX1_endPlaying_48 : decode cX1_endPlaying 48 = .ok (.aload_n 0, 1) := by decide +kernel
theorem dX1_endPlaying_49 : decode cX1_endPlaying 49 = .ok (.getfield 85, 3) := by decide +kernel
theorem dX1_endPlaying_52 : decode cX1_endPlaying 52 = .ok (.iload_n 1, 1) := by decide +kernel
theorem dX1_endPlaying_53 : decode cX1_endPlaying 53 = .ok (.iastore, 1) := by decide +kernel
theorem dX1_endPlaying_54 : decode cX1_endPlaying 54 = .ok (.aload_n 0, 1) := by decide +kernel
theorem dX1_endPlaying_55 : decode cX1_endPlaying 55 = .ok (.iconst (-1), 1) := by decide +kernel
theorem dX1_endPlaying_56 : decode cX1_endPlaying 56 = .ok (.putfield 85, 3) := by decide +kernel
theorem dX1_endPlaying_59 : decode cX1_endPlaying 59 = .ok (.return_, 1) := by decide +kernel
theorem dX1_leaveLine_0 : decode cX1_leaveLine 0 = .ok (.iconst 0, 1) := by decide +kernel
theorem dX1_leaveLine_1 : decode cX1_leaveLine 1 = .ok (.istore_n 2, 1) := by decide +kernel
theorem dX1_leaveLine_2 : decode cX1_leaveLine 2 = .ok (.iconst 0, 1) := by decide +kernel
theorem dX1_leaveLine_3 : decode cX1_leaveLine 3 = .ok (.istore_n 3, 1) := by decide +kernel
theorem dX1_leaveLine_4 : decode cX1_leaveLine 4 = .ok (.iload_n 3, 1) := by decide +kernel
theorem dX1_leaveLine_5 : decode cX1_leaveLine 5 = .ok (.aload_n 0, 1) := by decide +kernel
theorem dX1_leaveLine_6 : decode cX1_leaveLine 6 = .ok (.getfield 82, 3) := by decide +kernel
theorem dX1_leaveLine_9 : decode cX1_leaveLine 9 = .ok (.if_icmp .ge 65, 3) := by decide +kernel
theorem dX1_leaveLine_12 : decode cX1_leaveLine 12 = .ok (.iload_n 3, 1) := by decide +kernel
theorem dX1_leaveLine_13 : decode cX1_leaveLine 13 = .ok (.bipush 7, 2) := by decide +kernel
theorem dX1_leaveLine_15 : decode cX1_leaveLine 15 = .ok (.if_icmp .ge 59, 3) := by decide +kernel
theorem dX1_leaveLine_18 : decode cX1_leaveLine 18 = .ok (.aload_n 0, 1) := by decide +kernel
theorem dX1_leaveLine_19 : decode cX1_leaveLine 19 = .ok (.getfield 33, 3) := by decide +kernel
theorem dX1_leaveLine_22 : decode cX1_leaveLine 22 = .ok (.iload_n 3, 1) := by decide +kernel
theorem dX1_leaveLine_23 : decode cX1_leaveLine 23 = .ok (.iaload, 1) := by decide +kernel
theorem dX1_leaveLine_24 : decode cX1_leaveLine 24 = .ok (.istore 4, 2) := by decide +kernel
theorem dX1_leaveLine_26 : decode cX1_leaveLine 26 = .ok (.iload 4, 2) := by decide +kernel
theorem dX1_leaveLine_28 : decode cX1_leaveLine 28 = .ok (.ifCond .lt 40, 3) := by decide +kernel
theorem dX1_leaveLine_31 : decode cX1_leaveLine 31 = .ok (.iload 4, 2) := by decide +kernel
theorem dX1_leaveLine_33 : decode cX1_leaveLine 33 = .ok (.bipush 7, 2) := by decide +kernel
theorem dX1_leaveLine_35 : decode cX1_leaveLine 35 = .ok (.if_icmp .ge 33, 3) := by decide +kernel
theorem dX1_leaveLine_38 : decode cX1_leaveLine 38 = .ok (.iload_n 1, 1) := by decide +kernel
theorem dX1_leaveLine_39 : decode cX1_leaveLine 39 = .ok (.aload_n 0, 1) := by decide +kernel
theorem dX1_leaveLine_40 : decode cX1_leaveLine 40 = .ok (.getfield 18, 3) := by decide +kernel
theorem dX1_leaveLine_43 : decode cX1_leaveLine 43 = .ok (.iload 4, 2) := by decide +kernel
theorem dX1_leaveLine_45 : decode cX1_leaveLine 45 = .ok (.iaload, 1) := by decide +kernel
theorem dX1_leaveLine_46 : decode cX1_leaveLine 46 = .ok (.isub, 1) := by decide +kernel
theorem dX1_leaveLine_47 : decode cX1_leaveLine 47 = .ok (.aload_n 0, 1) := by decide +kernel
theorem dX1_leaveLine_48 : decode cX1_leaveLine 48 = .ok (.getfield 36, 3) := by decide +kernel
theorem dX1_leaveLine_51 : decode cX1_leaveLine 51 = .ok (.getfield 122, 3) := by decide +kernel
theorem dX1_leaveLine_54 : decode cX1_leaveLine 54 = .ok (.if_icmp .gt 14, 3) := by decide +kernel
theorem dX1_leaveLine_57 : decode cX1_leaveLine 57 = .ok (.aload_n 0, 1) := by decide +kernel
theorem dX1_leaveLine_58 : decode cX1_leaveLine 58 = .ok (.getfield 33, 3) := by decide +kernel
theorem dX1_leaveLine_61 : decode cX1_leaveLine 61 = .ok (.iload_n 2, 1) := by decide +kernel
theorem dX1_leaveLine_62 : decode cX1_leaveLine 62 = .ok (.iload 4, 2) := by decide +kernel
theorem dX1_leaveLine_64 : decode cX1_leaveLine 64 = .ok (.iastore, 1) := by decide +kernel
theorem dX1_leaveLine_65 : decode cX1_leaveLine 65 = .ok (.iinc 2 1, 3) := by decide +kernel
theorem dX1_leaveLine_68 : decode cX1_leaveLine 68 = .ok (.iinc 3 1, 3) := by decide +kernel
theorem dX1_leaveLine_71 : decode cX1_leaveLine 71 = .ok (.goto (-67), 3) := by decide +kernel
theorem dX1_leaveLine_74 : decode cX1_leaveLine 74 = .ok (.iload_n 2, 1) := by decide +kernel
theorem dX1_leaveLine_75 : decode cX1_leaveLine 75 = .ok (.aload_n 0, 1) := by decide +kernel
theorem dX1_leaveLine_76 : decode cX1_leaveLine 76 = .ok (.getfield 82, 3) := by decide +kernel
theorem dX1_leaveLine_79 : decode cX1_leaveLine 79 = .ok (.if_icmp .eq 8, 3) := by decide +kernel
theorem dX1_leaveLine_82 : decode cX1_leaveLine 82 = .ok (.aload_n 0, 1) := by decide +kernel
theorem dX1_leaveLine_83 : decode cX1_leaveLine 83 = .ok (.iconst 0, 1) := by decide +kernel
theorem dX1_leaveLine_84 : decode cX1_leaveLine 84 = .ok (.putfield 118, 3) := by decide +kernel
theorem dX1_leaveLine_87 : decode cX1_leaveLine 87 = .ok (.aload_n 0, 1) := by decide +kernel
theorem dX1_leaveLine_88 : decode cX1_leaveLine 88 = .ok (.iload_n 2, 1) := by decide +kernel
theorem dX1_leaveLine_89 : decode cX1_leaveLine 89 = .ok (.putfield 82, 3) := by decide +kernel
theorem dX1_leaveLine_92 : decode cX1_leaveLine 92 = .ok (.return_, 1) := by decide +kernel
set_option maxRecDepth 20000 in
theorem ggX1_beginPlaying_X4_daresBefore : GoodIn wsX1_beginPlaying wsX4_daresBefore := goodIn_r _ [11, 12, 13, 64, 65, 66, 67, 68, 69, 70, 71, 72] (by decide +kernel) (by decide +kernel)
set_option maxRecDepth 20000 in
theorem gX1_beginPlaying_X4_daresBefore : GoodIn wsX1_beginPlaying (wsV RX1 125 RX4 yX4_daresBefore wsX4_daresBefore) := goodIn_app (goodIn_of _ (by decide +kernel)) ggX1_beginPlaying_X4_daresBefore
set_option maxRecDepth 20000 in
theorem ggX1_beginPlaying_X1_leaveLineAt : GoodIn wsX1_beginPlaying wsX1_leaveLineAt := goodIn_r _ [18, 19, 20, 21, 22, 1, 2, 35, 36, 37, 38, 39, 40, 41, 42, 43, 44, 45, 46, 47, 48, 49] (by decide +kernel) (by decide +kernel)
set_option maxRecDepth 20000 in
theorem gX1_beginPlaying_X1_leaveLineAt : GoodIn wsX1_beginPlaying (wsV RX1 129 RX1 yX1_leaveLineAt wsX1_leaveLineAt) := goodIn_app (goodIn_of _ (by decide +kernel)) ggX1_beginPlaying_X1_leaveLineAt
set_option maxRecDepth 20000 in
theorem ggX1_beginPlaying_X1_strikeAll : GoodIn wsX1_beginPlaying wsX1_strikeAll := goodIn_r _ [26, 27, 64, 65, 66, 67, 68, 69, 70, 71, 72, 35, 36, 37, 38, 39, 40, 41, 42, 43, 44, 45, 46, 47, 48, 49] (by decide +kernel) (by decide +kernel)
set_option maxRecDepth 20000 in
theorem gX1_beginPlaying_X1_strikeAll : GoodIn wsX1_beginPlaying (wsV RX1 132 RX1 yX1_strikeAll wsX1_strikeAll) := goodIn_app (goodIn_of _ (by decide +kernel)) ggX1_beginPlaying_X1_strikeAll
set_option maxRecDepth 20000 in
theorem ggX1_beginPlaying_X1_learnFacts : GoodIn wsX1_beginPlaying wsX1_learnFacts := goodIn_r _ [31, 32, 33, 34, 64, 65, 66, 67, 68, 69, 70, 71, 72, 35, 36, 37, 38, 39, 40, 41, 42, 43, 44, 45, 46, 47, 48, 49] (by decide +kernel) (by decide +kernel)
set_option maxRecDepth 20000 in
theorem gX1_beginPlaying_X1_learnFacts : GoodIn wsX1_beginPlaying (wsV RX1 136 RX1 yX1_learnFacts wsX1_learnFacts) := goodIn_app (goodIn_of _ (by decide +kernel)) ggX1_beginPlaying_X1_learnFacts
theorem dX1_beginPlaying_0 : decode cX1_beginPlaying 0 = .ok (.iconst 0, 1) := by decide +kernel
theorem dX1_beginPlaying_1 : decode cX1_beginPlaying 1 = .ok (.istore_n 3, 1) := by decide +kernel
theorem dX1_beginPlaying_2 : decode cX1_beginPlaying 2 = .ok (.iload_n 3, 1) := by decide +kernel
theorem dX1_beginPlaying_3 : decode cX1_beginPlaying 3 = .ok (.aload_n 0, 1) := by decide +kernel
theorem dX1_beginPlaying_4 : decode cX1_beginPlaying 4 = .ok (.getfield 82, 3) := by decide +kernel
theorem dX1_beginPlaying_7 : decode cX1_beginPlaying 7 = .ok (.if_icmp .ge 119, 3) := by decide +kernel
theorem dX1_beginPlaying_10 : decode cX1_beginPlaying 10 = .ok (.iload_n 3, 1) := by decide +kernel
theorem dX1_beginPlaying_11 : decode cX1_beginPlaying 11 = .ok (.bipush 7, 2) := by decide +kernel
theorem dX1_beginPlaying_13 : decode cX1_beginPlaying 13 = .ok (.if_icmp .ge 113, 3) := by decide +kernel
theorem dX1_beginPlaying_16 : decode cX1_beginPlaying 16 = .ok (.aload_n 0, 1) := by decide +kernel
theorem dX1_beginPlaying_17 : decode cX1_beginPlaying 17 = .ok (.getfield 33, 3) := by decide +kernel
theorem dX1_beginPlaying_20 : decode cX1_beginPlaying 20 = .ok (.iload_n 3, 1) := by decide +kernel
theorem dX1_beginPlaying_21 : decode cX1_beginPlaying 21 = .ok (.iaload, 1) := by decide +kernel
theorem dX1_beginPlaying_22 : decode cX1_beginPlaying 22 = .ok (.istore 4, 2) := by decide +kernel
theorem dX1_beginPlaying_24 : decode cX1_beginPlaying 24 = .ok (.iload 4, 2) := by decide +kernel
theorem dX1_beginPlaying_26 : decode cX1_beginPlaying 26 = .ok (.ifCond .lt 94, 3) := by decide +kernel
theorem dX1_beginPlaying_29 : decode cX1_beginPlaying 29 = .ok (.iload 4, 2) := by decide +kernel
theorem dX1_beginPlaying_31 : decode cX1_beginPlaying 31 = .ok (.bipush 7, 2) := by decide +kernel
theorem dX1_beginPlaying_33 : decode cX1_beginPlaying 33 = .ok (.if_icmp .ge 87, 3) := by decide +kernel
theorem dX1_beginPlaying_36 : decode cX1_beginPlaying 36 = .ok (.aload_n 0, 1) := by decide +kernel
theorem dX1_beginPlaying_37 : decode cX1_beginPlaying 37 = .ok (.getfield 36, 3) := by decide +kernel
theorem dX1_beginPlaying_40 : decode cX1_beginPlaying 40 = .ok (.getfield 46, 3) := by decide +kernel
theorem dX1_beginPlaying_43 : decode cX1_beginPlaying 43 = .ok (.iload 4, 2) := by decide +kernel
theorem dX1_beginPlaying_45 : decode cX1_beginPlaying 45 = .ok (.aaload, 1) := by decide +kernel
theorem dX1_beginPlaying_46 : decode cX1_beginPlaying 46 = .ok (.aload_n 0, 1) := by decide +kernel
theorem dX1_beginPlaying_47 : decode cX1_beginPlaying 47 = .ok (.getfield 82, 3) := by decide +kernel
theorem dX1_beginPlaying_50 : decode cX1_beginPlaying 50 = .ok (.iconst 1, 1) := by decide +kernel
theorem dX1_beginPlaying_51 : decode cX1_beginPlaying 51 = .ok (.isub, 1) := by decide +kernel
theorem dX1_beginPlaying_52 : decode cX1_beginPlaying 52 = .ok (.invokevirtual 125, 3) := by decide +kernel
theorem dX1_beginPlaying_55 : decode cX1_beginPlaying 55 = .ok (.ifCond .eq 65, 3) := by decide +kernel
theorem dX1_beginPlaying_58 : decode cX1_beginPlaying 58 = .ok (.aload_n 0, 1) := by decide +kernel
theorem dX1_beginPlaying_59 : decode cX1_beginPlaying 59 = .ok (.iload_n 3, 1) := by decide +kernel
theorem dX1_beginPlaying_60 : decode cX1_beginPlaying 60 = .ok (.invokevirtual 129, 3) := by decide +kernel
theorem dX1_beginPlaying_63 : decode cX1_beginPlaying 63 = .ok (.aload_n 0, 1) := by decide +kernel
theorem dX1_beginPlaying_64 : decode cX1_beginPlaying 64 = .ok (.iload 4, 2) := by decide +kernel
theorem dX1_beginPlaying_66 : decode cX1_beginPlaying 66 = .ok (.putfield 85, 3) := by decide +kernel
theorem dX1_beginPlaying_69 : decode cX1_beginPlaying 69 = .ok (.aload_n 0, 1) := by decide +kernel
theorem dX1_beginPlaying_70 : decode cX1_beginPlaying 70 = .ok (.getfield 9, 3) := by decide +kernel
theorem dX1_beginPlaying_73 : decode cX1_beginPlaying 73 = .ok (.iload 4, 2) := by decide +kernel
theorem dX1_beginPlaying_75 : decode cX1_beginPlaying 75 = .ok (.iload_n 1, 1) := by decide +kernel
theorem dX1_beginPlaying_76 : decode cX1_beginPlaying 76 = .ok (.iastore, 1) := by decide +kernel
theorem dX1_beginPlaying_77 : decode cX1_beginPlaying 77 = .ok (.aload_n 0, 1) := by decide +kernel
theorem dX1_beginPlaying_78 : decode cX1_beginPlaying 78 = .ok (.dup, 1) := by decide +kernel
theorem dX1_beginPlaying_79 : decode cX1_beginPlaying 79 = .ok (.getfield 79, 3) := by decide +kernel
theorem dX1_beginPlaying_82 : decode cX1_beginPlaying 82 = .ok (.iconst 1, 1) := by decide +kernel
theorem dX1_beginPlaying_83 : decode cX1_beginPlaying 83 = .ok (.iadd, 1) := by decide +kernel
theorem dX1_beginPlaying_84 : decode cX1_beginPlaying 84 = .ok (.putfield 79, 3) := by decide +kernel
theorem dX1_beginPlaying_87 : decode cX1_beginPlaying 87 = .ok (.aload_n 0, 1) := by decide +kernel
theorem dX1_beginPlaying_88 : decode cX1_beginPlaying 88 = .ok (.aload_n 0, 1) := by decide +kernel
theorem dX1_beginPlaying_89 : decode cX1_beginPlaying 89 = .ok (.getfield 36, 3) := by decide +kernel
theorem dX1_beginPlaying_92 : decode cX1_beginPlaying 92 = .ok (.getfield 46, 3) := by decide +kernel
theorem dX1_beginPlaying_95 : decode cX1_beginPlaying 95 = .ok (.iload 4, 2) := by decide +kernel
theorem dX1_beginPlaying_97 : decode cX1_beginPlaying 97 = .ok (.aaload, 1) := by decide +kernel
theorem dX1_beginPlaying_98 : decode cX1_beginPlaying 98 = .ok (.iload 4, 2) := by decide +kernel
theorem dX1_beginPlaying_100 : decode cX1_beginPlaying 100 = .ok (.aload_n 2, 1) := by decide +kernel
theorem dX1_beginPlaying_101 : decode cX1_beginPlaying 101 = .ok (.invokevirtual 132, 3) := by decide +kernel
theorem dX1_beginPlaying_104 : decode cX1_beginPlaying 104 = .ok (.aload_n 0, 1) := by decide +kernel
theorem dX1_beginPlaying_105 : decode cX1_beginPlaying 105 = .ok (.aload_n 0, 1) := by decide +kernel
theorem dX1_beginPlaying_106 : decode cX1_beginPlaying 106 = .ok (.getfield 36, 3) := by decide +kernel
theorem dX1_beginPlaying_109 : decode cX1_beginPlaying 109 = .ok (.getfield 46, 3) := by decide +kernel
theorem dX1_beginPlaying_112 : decode cX1_beginPlaying 112 = .ok (.iload 4, 2) := by decide +kernel
theorem dX1_beginPlaying_114 : decode cX1_beginPlaying 114 = .ok (.aaload, 1) := by decide +kernel
theorem dX1_beginPlaying_115 : decode cX1_beginPlaying 115 = .ok (.aload_n 2, 1) := by decide +kernel
theorem dX1_beginPlaying_116 : decode cX1_beginPlaying 116 = .ok (.invokevirtual 136, 3) := by decide +kernel
theorem dX1_beginPlaying_119 : decode cX1_beginPlaying 119 = .ok (.return_, 1) := by decide +kernel
theorem dX1_beginPlaying_120 : decode cX1_beginPlaying 120 = .ok (.iinc 3 1, 3) := by decide +kernel
theorem dX1_beginPlaying_123 : decode cX1_beginPlaying 123 = .ok (.goto (-121), 3) := by decide +kernel
theorem dX1_beginPlaying_126 : decode cX1_beginPlaying 126 = .ok (.return_, 1) := by decide +kernel
theorem dX1_leaveLineAt_0 : decode cX1_leaveLineAt 0 = .ok (.iconst 0, 1) := by decide +kernel
theorem dX1_leaveLineAt_1 : decode cX1_leaveLineAt 1 = .ok (.iload_n 1, 1) := by decide +kernel
theorem dX1_leaveLineAt_2 : decode cX1_leaveLineAt 2 = .ok (.invokestatic 140, 3) := by decide +kernel
theorem dX1_leaveLineAt_5 : decode cX1_leaveLineAt 5 = .ok (.istore_n 2, 1) := by decide +kernel
theorem dX1_leaveLineAt_6 : decode cX1_leaveLineAt 6 = .ok (.iload_n 2, 1) := by decide +kernel
theorem dX1_leaveLineAt_7 : decode cX1_leaveLineAt 7 = .ok (.iconst 1, 1) := by decide +kernel
theorem dX1_leaveLineAt_8 : decode cX1_leaveLineAt 8 = .ok (.iadd, 1) := by decide +kernel
theorem dX1_leaveLineAt_9 : decode cX1_leaveLineAt 9 = .ok (.aload_n 0, 1) := by decide +kernel
theorem dX1_leaveLineAt_10 : decode cX1_leaveLineAt 10 = .ok (.getfield 82, 3) := by decide +kernel
theorem dX1_leaveLineAt_13 : decode cX1_leaveLineAt 13 = .ok (.if_icmp .ge 31, 3) := by decide +kernel
theorem dX1_leaveLineAt_16 : decode cX1_leaveLineAt 16 = .ok (.iload_n 2, 1) := by decide +kernel
theorem dX1_leaveLineAt_17 : decode cX1_leaveLineAt 17 = .ok (.iconst 1, 1) := by decide +kernel
theorem dX1_leaveLineAt_18 : decode cX1_leaveLineAt 18 = .ok (.iadd, 1) := by decide +kernel
theorem dX1_leaveLineAt_19 : decode cX1_leaveLineAt 19 = .ok (.bipush 7, 2) := by decide +kernel
theorem dX1_leaveLineAt_21 : decode cX1_leaveLineAt 21 = .ok (.if_icmp .ge 23, 3) := by decide +kernel
theorem dX1_leaveLineAt_24 : decode cX1_leaveLineAt 24 = .ok (.aload_n 0, 1) := by decide +kernel
theorem dX1_leaveLineAt_25 : decode cX1_leaveLineAt 25 = .ok (.getfield 33, 3) := by decide +kernel
theorem dX1_leaveLineAt_28 : decode cX1_leaveLineAt 28 = .ok (.iload_n 2, 1) := by decide +kernel
theorem dX1_leaveLineAt_29 : decode cX1_leaveLineAt 29 = .ok (.aload_n 0, 1) := by decide +kernel
theorem dX1_leaveLineAt_30 : decode cX1_leaveLineAt 30 = .ok (.getfield 33, 3) := by decide +kernel
theorem dX1_leaveLineAt_33 : decode cX1_leaveLineAt 33 = .ok (.iload_n 2, 1) := by decide +kernel
theorem dX1_leaveLineAt_34 : decode cX1_leaveLineAt 34 = .ok (.iconst 1, 1) := by decide +kernel
theorem dX1_leaveLineAt_35 : decode cX1_leaveLineAt 35 = .ok (.iadd, 1) := by decide +kernel
theorem dX1_leaveLineAt_36 : decode cX1_leaveLineAt 36 = .ok (.iaload, 1) := by decide +kernel
theorem dX1_leaveLineAt_37 : decode cX1_leaveLineAt 37 = .ok (.iastore, 1) := by decide +kernel
theorem dX1_leaveLineAt_38 : decode cX1_leaveLineAt 38 = .ok (.iinc 2 1, 3) := by decide +kernel
theorem dX1_leaveLineAt_41 : decode cX1_leaveLineAt 41 = .ok (.goto (-35), 3) := by decide +kernel
theorem dX1_leaveLineAt_44 : decode cX1_leaveLineAt 44 = .ok (.aload_n 0, 1) := by decide +kernel
theorem dX1_leaveLineAt_45 : decode cX1_leaveLineAt 45 = .ok (.dup, 1) := by decide +kernel
theorem dX1_leaveLineAt_46 : decode cX1_leaveLineAt 46 = .ok (.getfield 82, 3) := by decide +kernel
theorem dX1_leaveLineAt_49 : decode cX1_leaveLineAt 49 = .ok (.iconst 1, 1) := by decide +kernel
theorem dX1_leaveLineAt_50 : decode cX1_leaveLineAt 50 = .ok (.isub, 1) := by decide +kernel
theorem dX1_leaveLineAt_51 : decode cX1_leaveLineAt 51 = .ok (.putfield 82, 3) := by decide +kernel
theorem dX1_leaveLineAt_54 : decode cX1_leaveLineAt 54 = .ok (.return_, 1) := by decide +kernel
theorem dX1_learnFacts_0 : decode cX1_learnFacts 0 = .ok (.iconst 0, 1) := by decide +kernel
theorem dX1_learnFacts_1 : decode cX1_learnFacts 1 = .ok (.istore_n 3, 1) := by decide +kernel
theorem dX1_learnFacts_2 : decode cX1_learnFacts 2 = .ok (.iconst 0, 1) := by decide +kernel
theorem dX1_learnFacts_3 : decode cX1_learnFacts 3 = .ok (.istore 4, 2) := by decide +kernel
theorem dX1_learnFacts_5 : decode cX1_learnFacts 5 = .ok (.iload 4, 2) := by decide +kernel
theorem dX1_learnFacts_7 : decode cX1_learnFacts 7 = .ok (.aload_n 1, 1) := by decide +kernel
theorem dX1_learnFacts_8 : decode cX1_learnFacts 8 = .ok (.getfield 70, 3) := by decide +kernel
theorem dX1_learnFacts_11 : decode cX1_learnFacts 11 = .ok (.if_icmp .ge 48, 3) := by decide +kernel
theorem dX1_learnFacts_14 : decode cX1_learnFacts 14 = .ok (.iload 4, 2) := by decide +kernel
theorem dX1_learnFacts_16 : decode cX1_learnFacts 16 = .ok (.bipush 18, 2) := by decide +kernel
theorem dX1_learnFacts_18 : decode cX1_learnFacts 18 = .ok (.if_icmp .ge 41, 3) := by decide +kernel
theorem dX1_learnFacts_21 : decode cX1_learnFacts 21 = .ok (.aload_n 1, 1) := by decide +kernel
theorem dX1_learnFacts_22 : decode cX1_learnFacts 22 = .ok (.getfield 73, 3) := by decide +kernel
theorem dX1_learnFacts_25 : decode cX1_learnFacts 25 = .ok (.iload 4, 2) := by decide +kernel
theorem dX1_learnFacts_27 : decode cX1_learnFacts 27 = .ok (.iaload, 1) := by decide +kernel
theorem dX1_learnFacts_28 : decode cX1_learnFacts 28 = .ok (.istore 5, 2) := by decide +kernel
theorem dX1_learnFacts_30 : decode cX1_learnFacts 30 = .ok (.iload_n 3, 1) := by decide +kernel
theorem dX1_learnFacts_31 : decode cX1_learnFacts 31 = .ok (.iload 5, 2) := by decide +kernel
theorem dX1_learnFacts_33 : decode cX1_learnFacts 33 = .ok (.ifCond .lt 17, 3) := by decide +kernel
theorem dX1_learnFacts_36 : decode cX1_learnFacts 36 = .ok (.iload 5, 2) := by decide +kernel
theorem dX1_learnFacts_38 : decode cX1_learnFacts 38 = .ok (.aload_n 2, 1) := by decide +kernel
theorem dX1_learnFacts_39 : decode cX1_learnFacts 39 = .ok (.arraylength, 1) := by decide +kernel
theorem dX1_learnFacts_40 : decode cX1_learnFacts 40 = .ok (.if_icmp .ge 10, 3) := by decide +kernel
theorem dX1_learnFacts_43 : decode cX1_learnFacts 43 = .ok (.aload_n 2, 1) := by decide +kernel
theorem dX1_learnFacts_44 : decode cX1_learnFacts 44 = .ok (.iload 5, 2) := by decide +kernel
theorem dX1_learnFacts_46 : decode cX1_learnFacts 46 = .ok (.iaload, 1) := by decide +kernel
theorem dX1_learnFacts_47 : decode cX1_learnFacts 47 = .ok (.goto 4, 3) := by decide +kernel
theorem dX1_learnFacts_50 : decode cX1_learnFacts 50 = .ok (.iconst 0, 1) := by decide +kernel
theorem dX1_learnFacts_51 : decode cX1_learnFacts 51 = .ok (.iadd, 1) := by decide +kernel
theorem dX1_learnFacts_52 : decode cX1_learnFacts 52 = .ok (.istore_n 3, 1) := by decide +kernel
theorem dX1_learnFacts_53 : decode cX1_learnFacts 53 = .ok (.iinc 4 1, 3) := by decide +kernel
theorem dX1_learnFacts_56 : decode cX1_learnFacts 56 = .ok (.goto (-51), 3) := by decide +kernel
theorem dX1_learnFacts_59 : decode cX1_learnFacts 59 = .ok (.aload_n 0, 1) := by decide +kernel
theorem dX1_learnFacts_60 : decode cX1_learnFacts 60 = .ok (.getfield 27, 3) := by decide +kernel
theorem dX1_learnFacts_63 : decode cX1_learnFacts 63 = .ok (.iconst 0, 1) := by decide +kernel
theorem dX1_learnFacts_64 : decode cX1_learnFacts 64 = .ok (.aload_n 1, 1) := by decide +kernel
theorem dX1_learnFacts_65 : decode cX1_learnFacts 65 = .ok (.getfield 57, 3) := by decide +kernel
theorem dX1_learnFacts_68 : decode cX1_learnFacts 68 = .ok (.iastore, 1) := by decide +kernel
theorem dX1_learnFacts_69 : decode cX1_learnFacts 69 = .ok (.aload_n 0, 1) := by decide +kernel
theorem dX1_learnFacts_70 : decode cX1_learnFacts 70 = .ok (.getfield 27, 3) := by decide +kernel
theorem dX1_learnFacts_73 : decode cX1_learnFacts 73 = .ok (.iconst 1, 1) := by decide +kernel
theorem dX1_learnFacts_74 : decode cX1_learnFacts 74 = .ok (.iload_n 3, 1) := by decide +kernel
theorem dX1_learnFacts_75 : decode cX1_learnFacts 75 = .ok (.iastore, 1) := by decide +kernel
theorem dX1_learnFacts_76 : decode cX1_learnFacts 76 = .ok (.aload_n 0, 1) := by decide +kernel
theorem dX1_learnFacts_77 : decode cX1_learnFacts 77 = .ok (.getfield 27, 3) := by decide +kernel
theorem dX1_learnFacts_80 : decode cX1_learnFacts 80 = .ok (.iconst 3, 1) := by decide +kernel
theorem dX1_learnFacts_81 : decode cX1_learnFacts 81 = .ok (.iconst 0, 1) := by decide +kernel
theorem dX1_learnFacts_82 : decode cX1_learnFacts 82 = .ok (.iastore, 1) := by decide +kernel
theorem dX1_learnFacts_83 : decode cX1_learnFacts 83 = .ok (.aload_n 1, 1) := by decide +kernel
theorem dX1_learnFacts_84 : decode cX1_learnFacts 84 = .ok (.getfield 143, 3) := by decide +kernel
theorem dX1_learnFacts_87 : decode cX1_learnFacts 87 = .ok (.ifCond .lt 39, 3) := by decide +kernel
theorem dX1_learnFacts_90 : decode cX1_learnFacts 90 = .ok (.aload_n 1, 1) := by decide +kernel
theorem dX1_learnFacts_91 : decode cX1_learnFacts 91 = .ok (.getfield 143, 3) := by decide +kernel
theorem dX1_learnFacts_94 : decode cX1_learnFacts 94 = .ok (.iconst 5, 1) := by decide +kernel
theorem dX1_learnFacts_95 : decode cX1_learnFacts 95 = .ok (.if_icmp .ge 31, 3) := by decide +kernel
theorem dX1_learnFacts_98 : decode cX1_learnFacts 98 = .ok (.aload_n 0, 1) := by decide +kernel
theorem dX1_learnFacts_99 : decode cX1_learnFacts 99 = .ok (.getfield 27, 3) := by decide +kernel
theorem dX1_learnFacts_102 : decode cX1_learnFacts 102 = .ok (.iconst 3, 1) := by decide +kernel
theorem dX1_learnFacts_103 : decode cX1_learnFacts 103 = .ok (.aload_n 0, 1) := by decide +kernel
theorem dX1_learnFacts_104 : decode cX1_learnFacts 104 = .ok (.getfield 30, 3) := by decide +kernel
theorem dX1_learnFacts_107 : decode cX1_learnFacts 107 = .ok (.aload_n 1, 1) := by decide +kernel
theorem dX1_learnFacts_108 : decode cX1_learnFacts 108 = .ok (.getfield 143, 3) := by decide +kernel
theorem dX1_learnFacts_111 : decode cX1_learnFacts 111 = .ok (.iaload, 1) := by decide +kernel
theorem dX1_learnFacts_112 : decode cX1_learnFacts 112 = .ok (.iastore, 1) := by decide +kernel
theorem dX1_learnFacts_113 : decode cX1_learnFacts 113 = .ok (.aload_n 0, 1) := by decide +kernel
theorem dX1_learnFacts_114 : decode cX1_learnFacts 114 = .ok (.getfield 30, 3) := by decide +kernel
theorem dX1_learnFacts_117 : decode cX1_learnFacts 117 = .ok (.aload_n 1, 1) := by decide +kernel
theorem dX1_learnFacts_118 : decode cX1_learnFacts 118 = .ok (.getfield 143, 3) := by decide +kernel
theorem dX1_learnFacts_121 : decode cX1_learnFacts 121 = .ok (.dup2, 1) := by decide +kernel
theorem dX1_learnFacts_122 : decode cX1_learnFacts 122 = .ok (.iaload, 1) := by decide +kernel
theorem dX1_learnFacts_123 : decode cX1_learnFacts 123 = .ok (.iconst 1, 1) := by decide +kernel
theorem dX1_learnFacts_124 : decode cX1_learnFacts 124 = .ok (.iadd, 1) := by decide +kernel
theorem dX1_learnFacts_125 : decode cX1_learnFacts 125 = .ok (.iastore, 1) := by decide +kernel
theorem dX1_learnFacts_126 : decode cX1_learnFacts 126 = .ok (.aload_n 0, 1) := by decide +kernel
theorem dX1_learnFacts_127 : decode cX1_learnFacts 127 = .ok (.iconst 0, 1) := by decide +kernel
theorem dX1_learnFacts_128 : decode cX1_learnFacts 128 = .ok (.putfield 118, 3) := by decide +kernel
theorem dX1_learnFacts_131 : decode cX1_learnFacts 131 = .ok (.return_, 1) := by decide +kernel
set_option maxRecDepth 20000 in
theorem ggX1_addJoy_X7_joyBy : GoodIn wsX1_addJoy wsX7_joyBy := goodIn_r _ [12, 13, 14, 15, 16, 17, 18, 19, 20, 21, 22, 23, 24, 25, 26, 27, 28, 29, 30, 31, 32, 33, 34, 35, 36, 37, 38, 39, 40, 56, 57, 58, 59, 60, 61, 62, 63, 64, 65, 66, 67, 68, 69, 70, 71, 72, 73, 74] (by decide +kernel) (by decide +kernel)
set_option maxRecDepth 20000 in
theorem gX1_addJoy_X7_joyBy : GoodIn wsX1_addJoy (wsV RX1 146 RX7 yX7_joyBy wsX7_joyBy) := goodIn_app (goodIn_of _ (by decide +kernel)) ggX1_addJoy_X7_joyBy
theorem dX1_addJoy_0 : decode cX1_addJoy 0 = .ok (.aload_n 0, 1) := by decide +kernel
theorem dX1_addJoy_1 : decode cX1_addJoy 1 = .ok (.getfield 85, 3) := by decide +kernel
theorem dX1_addJoy_4 : decode cX1_addJoy 4 = .ok (.iconst (-1), 1) := by decide +kernel
theorem dX1_addJoy_5 : decode cX1_addJoy 5 = .ok (.if_icmp .ne 4, 3) := by decide +kernel
theorem dX1_addJoy_8 : decode cX1_addJoy 8 = .ok (.return_, 1) := by decide +kernel
theorem dX1_addJoy_9 : decode cX1_addJoy 9 = .ok (.aload_n 0, 1) := by decide +kernel
theorem dX1_addJoy_10 : decode cX1_addJoy 10 = .ok (.getfield 118, 3) := by decide +kernel
theorem dX1_addJoy_13 : decode cX1_addJoy 13 = .ok (.ifCond .ne 33, 3) := by decide +kernel
theorem dX1_addJoy_16 : decode cX1_addJoy 16 = .ok (.aload_n 0, 1) := by decide +kernel
theorem dX1_addJoy_17 : decode cX1_addJoy 17 = .ok (.getfield 27, 3) := by decide +kernel
theorem dX1_addJoy_20 : decode cX1_addJoy 20 = .ok (.iconst 2, 1) := by decide +kernel
theorem dX1_addJoy_21 : decode cX1_addJoy 21 = .ok (.aload_n 0, 1) := by decide +kernel
theorem dX1_addJoy_22 : decode cX1_addJoy 22 = .ok (.getfield 82, 3) := by decide +kernel
theorem dX1_addJoy_25 : decode cX1_addJoy 25 = .ok (.iastore, 1) := by decide +kernel
theorem dX1_addJoy_26 : decode cX1_addJoy 26 = .ok (.aload_n 0, 1) := by decide +kernel
theorem dX1_addJoy_27 : decode cX1_addJoy 27 = .ok (.aload_n 0, 1) := by decide +kernel
theorem dX1_addJoy_28 : decode cX1_addJoy 28 = .ok (.getfield 36, 3) := by decide +kernel
theorem dX1_addJoy_31 : decode cX1_addJoy 31 = .ok (.aload_n 0, 1) := by decide +kernel
theorem dX1_addJoy_32 : decode cX1_addJoy 32 = .ok (.getfield 27, 3) := by decide +kernel
theorem dX1_addJoy_35 : decode cX1_addJoy 35 = .ok (.invokevirtual 146, 3) := by decide +kernel
theorem dX1_addJoy_38 : decode cX1_addJoy 38 = .ok (.putfield 149, 3) := by decide +kernel
theorem dX1_addJoy_41 : decode cX1_addJoy 41 = .ok (.aload_n 0, 1) := by decide +kernel
theorem dX1_addJoy_42 : decode cX1_addJoy 42 = .ok (.iconst 1, 1) := by decide +kernel
theorem dX1_addJoy_43 : decode cX1_addJoy 43 = .ok (.putfield 118, 3) := by decide +kernel
theorem dX1_addJoy_46 : decode cX1_addJoy 46 = .ok (.aload_n 0, 1) := by decide +kernel
theorem dX1_addJoy_47 : decode cX1_addJoy 47 = .ok (.dup, 1) := by decide +kernel
theorem dX1_addJoy_48 : decode cX1_addJoy 48 = .ok (.getfield 76, 3) := by decide +kernel
theorem dX1_addJoy_51 : decode cX1_addJoy 51 = .ok (.aload_n 0, 1) := by decide +kernel
theorem dX1_addJoy_52 : decode cX1_addJoy 52 = .ok (.getfield 149, 3) := by decide +kernel
theorem dX1_addJoy_55 : decode cX1_addJoy 55 = .ok (.iadd, 1) := by decide +kernel
theorem dX1_addJoy_56 : decode cX1_addJoy 56 = .ok (.putfield 76, 3) := by decide +kernel
theorem dX1_addJoy_59 : decode cX1_addJoy 59 = .ok (.return_, 1) := by decide +kernel
theorem dX2_init_0 : decode cX2_init 0 = .ok (.aload_n 0, 1) := by decide +kernel
theorem dX2_init_1 : decode cX2_init 1 = .ok (.invokespecial 3, 3) := by decide +kernel
theorem dX2_init_4 : decode cX2_init 4 = .ok (.aload_n 0, 1) := by decide +kernel
theorem dX2_init_5 : decode cX2_init 5 = .ok (.sipush 1000, 3) := by decide +kernel
theorem dX2_init_8 : decode cX2_init 8 = .ok (.newarray .int, 2) := by decide +kernel
theorem dX2_init_10 : decode cX2_init 10 = .ok (.putfield 9, 3) := by decide +kernel
theorem dX2_init_13 : decode cX2_init 13 = .ok (.aload_n 0, 1) := by decide +kernel
theorem dX2_init_14 : decode cX2_init 14 = .ok (.bipush 32, 2) := by decide +kernel
theorem dX2_init_16 : decode cX2_init 16 = .ok (.newarray .int, 2) := by decide +kernel
theorem dX2_init_18 : decode cX2_init 18 = .ok (.putfield 15, 3) := by decide +kernel
theorem dX2_init_21 : decode cX2_init 21 = .ok (.aload_n 0, 1) := by decide +kernel
theorem dX2_init_22 : decode cX2_init 22 = .ok (.iload_n 1, 1) := by decide +kernel
theorem dX2_init_23 : decode cX2_init 23 = .ok (.putfield 18, 3) := by decide +kernel
theorem dX2_init_26 : decode cX2_init 26 = .ok (.return_, 1) := by decide +kernel
theorem dX2_knows_0 : decode cX2_knows 0 = .ok (.iload_n 1, 1) := by decide +kernel
theorem dX2_knows_1 : decode cX2_knows 1 = .ok (.bipush 23, 2) := by decide +kernel
theorem dX2_knows_3 : decode cX2_knows 3 = .ok (.if_icmp .lt 9, 3) := by decide +kernel
theorem dX2_knows_6 : decode cX2_knows 6 = .ok (.iload_n 1, 1) := by decide +kernel
theorem dX2_knows_7 : decode cX2_knows 7 = .ok (.bipush 28, 2) := by decide +kernel
theorem dX2_knows_9 : decode cX2_knows 9 = .ok (.if_icmp .le 5, 3) := by decide +kernel
theorem dX2_knows_12 : decode cX2_knows 12 = .ok (.iconst 0, 1) := by decide +kernel
theorem dX2_knows_13 : decode cX2_knows 13 = .ok (.ireturn, 1) := by decide +kernel
theorem dX2_knows_14 : decode cX2_knows 14 = .ok (.iload_n 1, 1) := by decide +kernel
theorem dX2_knows_15 : decode cX2_knows 15 = .ok (.bipush 23, 2) := by decide +kernel
theorem dX2_knows_17 : decode cX2_knows 17 = .ok (.isub, 1) := by decide +kernel
theorem dX2_knows_18 : decode cX2_knows 18 = .ok (.istore_n 2, 1) := by decide +kernel
theorem dX2_knows_19 : decode cX2_knows 19 = .ok (.iload_n 2, 1) := by decide +kernel
theorem dX2_knows_20 : decode cX2_knows 20 = .ok (.ifCond .eq 20, 3) := by decide +kernel
theorem dX2_knows_23 : decode cX2_knows 23 = .ok (.iload_n 2, 1) := by decide +kernel
theorem dX2_knows_24 : decode cX2_knows 24 = .ok (.iconst 4, 1) := by decide +kernel
theorem dX2_knows_25 : decode cX2_knows 25 = .ok (.if_icmp .ge 7, 3) := by decide +kernel
theorem dX2_knows_28 : decode cX2_knows 28 = .ok (.iconst 1, 1) := by decide +kernel
theorem dX2_knows_29 : decode cX2_knows 29 = .ok (.goto 4, 3) := by decide +kernel
theorem dX2_knows_32 : decode cX2_knows 32 = .ok (.iconst 0, 1) := by decide +kernel
theorem dX2_knows_33 : decode cX2_knows 33 = .ok (.aload_n 0, 1) := by decide +kernel
theorem dX2_knows_34 : decode cX2_knows 34 = .ok (.getfield 18, 3) := by decide +kernel
theorem dX2_knows_37 : decode cX2_knows 37 = .ok (.if_icmp .ne 7, 3) := by decide +kernel
theorem dX2_knows_40 : decode cX2_knows 40 = .ok (.iconst 1, 1) := by decide +kernel
theorem dX2_knows_41 : decode cX2_knows 41 = .ok (.goto 4, 3) := by decide +kernel
theorem dX2_knows_44 : decode cX2_knows 44 = .ok (.iconst 0, 1) := by decide +kernel
theorem dX2_knows_45 : decode cX2_knows 45 = .ok (.ireturn, 1) := by decide +kernel
theorem dX2_add_0 : decode cX2_add 0 = .ok (.aload_n 0, 1) := by decide +kernel
theorem dX2_add_1 : decode cX2_add 1 = .ok (.getfield 22, 3) := by decide +kernel
theorem dX2_add_4 : decode cX2_add 4 = .ok (.ifCond .lt 33, 3) := by decide +kernel
theorem dX2_add_7 : decode cX2_add 7 = .ok (.aload_n 0, 1) := by decide +kernel
theorem dX2_add_8 : decode cX2_add 8 = .ok (.getfield 22, 3) := by decide +kernel
theorem dX2_add_11 : decode cX2_add 11 = .ok (.sipush 1000, 3) := by decide +kernel
theorem dX2_add_14 : decode cX2_add 14 = .ok (.if_icmp .ge 23, 3) := by decide +kernel
theorem dX2_add_17 : decode cX2_add 17 = .ok (.aload_n 0, 1) := by decide +kernel
theorem dX2_add_18 : decode cX2_add 18 = .ok (.getfield 9, 3) := by decide +kernel
theorem dX2_add_21 : decode cX2_add 21 = .ok (.aload_n 0, 1) := by decide +kernel
theorem dX2_add_22 : decode cX2_add 22 = .ok (.getfield 22, 3) := by decide +kernel
theorem dX2_add_25 : decode cX2_add 25 = .ok (.iload_n 1, 1) := by decide +kernel
theorem dX2_add_26 : decode cX2_add 26 = .ok (.iastore, 1) := by decide +kernel
theorem dX2_add_27 : decode cX2_add 27 = .ok (.aload_n 0, 1) := by decide +kernel
theorem dX2_add_28 : decode cX2_add 28 = .ok (.dup, 1) := by decide +kernel
theorem dX2_add_29 : decode cX2_add 29 = .ok (.getfield 22, 3) := by decide +kernel
theorem dX2_add_32 : decode cX2_add 32 = .ok (.iconst 1, 1) := by decide +kernel
theorem dX2_add_33 : decode cX2_add 33 = .ok (.iadd, 1) := by decide +kernel
theorem dX2_add_34 : decode cX2_add 34 = .ok (.putfield 22, 3) := by decide +kernel
theorem dX2_add_37 : decode cX2_add 37 = .ok (.return_, 1) := by decide +kernel
set_option maxRecDepth 20000 in
theorem ggX2_valueBy_X2_push : GoodIn wsX2_valueBy wsX2_push := goodIn_r _ [8, 1, 9, 17, 18, 19, 20, 21] (by decide +kernel) (by decide +kernel)
set_option maxRecDepth 20000 in
theorem gX2_valueBy_X2_push : GoodIn wsX2_valueBy (wsV RX2 29 RX2 yX2_push wsX2_push) := goodIn_app (goodIn_of _ (by decide +kernel)) ggX2_valueBy_X2_push
set_option maxRecDepth 20000 in
theorem ggX2_valueBy_X2_pop : GoodIn wsX2_valueBy wsX2_pop := goodIn_r _ [13, 1, 9, 17, 18, 19, 20, 21] (by decide +kernel) (by decide +kernel)
set_option maxRecDepth 20000 in
theorem gX2_valueBy_X2_pop : GoodIn wsX2_valueBy (wsV RX2 33 RX2 yX2_pop wsX2_pop) := goodIn_app (goodIn_of _ (by decide +kernel)) ggX2_valueBy_X2_pop
set_option maxRecDepth 20000 in
theorem ggX2_valueBy_X2_joined : GoodIn wsX2_valueBy wsX2_joined := goodIn_r _ [16] (by decide +kernel) (by decide +kernel)
set_option maxRecDepth 20000 in
theorem gX2_valueBy_X2_joined : GoodIn wsX2_valueBy (va_wsS RX2 37 yX2_joined wsX2_joined) := goodIn_app (goodIn_of _ (by decide +kernel)) ggX2_valueBy_X2_joined
theorem dX2_valueBy_0 : decode cX2_valueBy 0 = .ok (.aload_n 0, 1) := by decide +kernel
theorem dX2_valueBy_1 : decode cX2_valueBy 1 = .ok (.iconst 0, 1) := by decide +kernel
theorem dX2_valueBy_2 : decode cX2_valueBy 2 = .ok (.putfield 26, 3) := by decide +kernel
theorem dX2_valueBy_5 : decode cX2_valueBy 5 = .ok (.iconst 0, 1) := by decide +kernel
theorem dX2_valueBy_6 : decode cX2_valueBy 6 = .ok (.istore_n 2, 1) := by decide +kernel
theorem dX2_valueBy_7 : decode cX2_valueBy 7 = .ok (.iload_n 2, 1) := by decide +kernel
theorem dX2_valueBy_8 : decode cX2_valueBy 8 = .ok (.aload_n 0, 1) := by decide +kernel
theorem dX2_valueBy_9 : decode cX2_valueBy 9 = .ok (.getfield 22, 3) := by decide +kernel
theorem dX2_valueBy_12 : decode cX2_valueBy 12 = .ok (.if_icmp .ge 118, 3) := by decide +kernel
theorem dX2_valueBy_15 : decode cX2_valueBy 15 = .ok (.iload_n 2, 1) := by decide +kernel
theorem dX2_valueBy_16 : decode cX2_valueBy 16 = .ok (.sipush 1000, 3) := by decide +kernel
theorem dX2_valueBy_19 : decode cX2_valueBy 19 = .ok (.if_icmp .ge 111, 3) := by decide +kernel
theorem dX2_valueBy_22 : decode cX2_valueBy 22 = .ok (.aload_n 0, 1) := by decide +kernel
theorem dX2_valueBy_23 : decode cX2_valueBy 23 = .ok (.getfield 9, 3) := by decide +kernel
theorem dX2_valueBy_26 : decode cX2_valueBy 26 = .ok (.iload_n 2, 1) := by decide +kernel
theorem dX2_valueBy_27 : decode cX2_valueBy 27 = .ok (.iaload, 1) := by decide +kernel
theorem dX2_valueBy_28 : decode cX2_valueBy 28 = .ok (.istore_n 3, 1) := by decide +kernel
theorem dX2_valueBy_29 : decode cX2_valueBy 29 = .ok (.iload_n 3, 1) := by decide +kernel
theorem dX2_valueBy_30 : decode cX2_valueBy 30 = .ok (.ifCond .lt 11, 3) := by decide +kernel
theorem dX2_valueBy_33 : decode cX2_valueBy 33 = .ok (.aload_n 0, 1) := by decide +kernel
theorem dX2_valueBy_34 : decode cX2_valueBy 34 = .ok (.iload_n 3, 1) := by decide +kernel
theorem dX2_valueBy_35 : decode cX2_valueBy 35 = .ok (.invokevirtual 29, 3) := by decide +kernel
theorem dX2_valueBy_38 : decode cX2_valueBy 38 = .ok (.goto 86, 3) := by decide +kernel
theorem dX2_valueBy_41 : decode cX2_valueBy 41 = .ok (.iload_n 3, 1) := by decide +kernel
theorem dX2_valueBy_42 : decode cX2_valueBy 42 = .ok (.bipush (-11), 2) := by decide +kernel
theorem dX2_valueBy_44 : decode cX2_valueBy 44 = .ok (.if_icmp .le 35, 3) := by decide +kernel
theorem dX2_valueBy_47 : decode cX2_valueBy 47 = .ok (.iconst (-1), 1) := by decide +kernel
theorem dX2_valueBy_48 : decode cX2_valueBy 48 = .ok (.iload_n 3, 1) := by decide +kernel
theorem dX2_valueBy_49 : decode cX2_valueBy 49 = .ok (.isub, 1) := by decide +kernel
theorem dX2_valueBy_50 : decode cX2_valueBy 50 = .ok (.istore 4, 2) := by decide +kernel
theorem dX2_valueBy_52 : decode cX2_valueBy 52 = .ok (.aload_n 0, 1) := by decide +kernel
theorem dX2_valueBy_53 : decode cX2_valueBy 53 = .ok (.iload 4, 2) := by decide +kernel
theorem dX2_valueBy_55 : decode cX2_valueBy 55 = .ok (.ifCond .lt 17, 3) := by decide +kernel
theorem dX2_valueBy_58 : decode cX2_valueBy 58 = .ok (.iload 4, 2) := by decide +kernel
theorem dX2_valueBy_60 : decode cX2_valueBy 60 = .ok (.aload_n 1, 1) := by decide +kernel
theorem dX2_valueBy_61 : decode cX2_valueBy 61 = .ok (.arraylength, 1) := by decide +kernel
theorem dX2_valueBy_62 : decode cX2_valueBy 62 = .ok (.if_icmp .ge 10, 3) := by decide +kernel
theorem dX2_valueBy_65 : decode cX2_valueBy 65 = .ok (.aload_n 1, 1) := by decide +kernel
theorem dX2_valueBy_66 : decode cX2_valueBy 66 = .ok (.iload 4, 2) := by decide +kernel
theorem dX2_valueBy_68 : decode cX2_valueBy 68 = .ok (.iaload, 1) := by decide +kernel
theorem dX2_valueBy_69 : decode cX2_valueBy 69 = .ok (.goto 4, 3) := by decide +kernel
theorem dX2_valueBy_72 : decode cX2_valueBy 72 = .ok (.iconst 0, 1) := by decide +kernel
theorem dX2_valueBy_73 : decode cX2_valueBy 73 = .ok (.invokevirtual 29, 3) := by decide +kernel
theorem dX2_valueBy_76 : decode cX2_valueBy 76 = .ok (.goto 48, 3) := by decide +kernel
theorem dX2_valueBy_79 : decode cX2_valueBy 79 = .ok (.iload_n 3, 1) := by decide +kernel
theorem dX2_valueBy_80 : decode cX2_valueBy 80 = .ok (.bipush (-11), 2) := by decide +kernel
theorem dX2_valueBy_82 : decode cX2_valueBy 82 = .ok (.if_icmp .ne 22, 3) := by decide +kernel
theorem dX2_valueBy_85 : decode cX2_valueBy 85 = .ok (.aload_n 0, 1) := by decide +kernel
theorem dX2_valueBy_86 : decode cX2_valueBy 86 = .ok (.aload_n 0, 1) := by decide +kernel
theorem dX2_valueBy_87 : decode cX2_valueBy 87 = .ok (.invokevirtual 33, 3) := by decide +kernel
theorem dX2_valueBy_90 : decode cX2_valueBy 90 = .ok (.ifCond .ne 7, 3) := by decide +kernel
theorem dX2_valueBy_93 : decode cX2_valueBy 93 = .ok (.iconst 1, 1) := by decide +kernel
theorem dX2_valueBy_94 : decode cX2_valueBy 94 = .ok (.goto 4, 3) := by decide +kernel
theorem dX2_valueBy_97 : decode cX2_valueBy 97 = .ok (.iconst 0, 1) := by decide +kernel
theorem dX2_valueBy_98 : decode cX2_valueBy 98 = .ok (.invokevirtual 29, 3) := by decide +kernel
theorem dX2_valueBy_101 : decode cX2_valueBy 101 = .ok (.goto 23, 3) := by decide +kernel
theorem dX2_valueBy_104 : decode cX2_valueBy 104 = .ok (.aload_n 0, 1) := by decide +kernel
theorem dX2_valueBy_105 : decode cX2_valueBy 105 = .ok (.invokevirtual 33, 3) := by decide +kernel
theorem dX2_valueBy_108 : decode cX2_valueBy 108 = .ok (.istore 4, 2) := by decide +kernel
theorem dX2_valueBy_110 : decode cX2_valueBy 110 = .ok (.aload_n 0, 1) := by decide +kernel
theorem dX2_valueBy_111 : decode cX2_valueBy 111 = .ok (.iload_n 3, 1) := by decide +kernel
theorem dX2_valueBy_112 : decode cX2_valueBy 112 = .ok (.aload_n 0, 1) := by decide +kernel
theorem dX2_valueBy_113 : decode cX2_valueBy 113 = .ok (.invokevirtual 33, 3) := by decide +kernel
theorem dX2_valueBy_116 : decode cX2_valueBy 116 = .ok (.iload 4, 2) := by decide +kernel
theorem dX2_valueBy_118 : decode cX2_valueBy 118 = .ok (.invokestatic 37, 3) := by decide +kernel
theorem dX2_valueBy_121 : decode cX2_valueBy 121 = .ok (.invokevirtual 29, 3) := by decide +kernel
theorem dX2_valueBy_124 : decode cX2_valueBy 124 = .ok (.iinc 2 1, 3) := by decide +kernel
theorem dX2_valueBy_127 : decode cX2_valueBy 127 = .ok (.goto (-120), 3) := by decide +kernel
theorem dX2_valueBy_130 : decode cX2_valueBy 130 = .ok (.aload_n 0, 1) := by decide +kernel
theorem dX2_valueBy_131 : decode cX2_valueBy 131 = .ok (.invokevirtual 33, 3) := by decide +kernel
theorem dX2_valueBy_134 : decode cX2_valueBy 134 = .ok (.ireturn, 1) := by decide +kernel
theorem dX2_push_0 : decode cX2_push 0 = .ok (.aload_n 0, 1) := by decide +kernel
theorem dX2_push_1 : decode cX2_push 1 = .ok (.getfield 26, 3) := by decide +kernel
theorem dX2_push_4 : decode cX2_push 4 = .ok (.ifCond .lt 32, 3) := by decide +kernel
theorem dX2_push_7 : decode cX2_push 7 = .ok (.aload_n 0, 1) := by decide +kernel
theorem dX2_push_8 : decode cX2_push 8 = .ok (.getfield 26, 3) := by decide +kernel
theorem dX2_push_11 : decode cX2_push 11 = .ok (.bipush 32, 2) := by decide +kernel
theorem dX2_push_13 : decode cX2_push 13 = .ok (.if_icmp .ge 23, 3) := by decide +kernel
theorem dX2_push_16 : decode cX2_push 16 = .ok (.aload_n 0, 1) := by decide +kernel
theorem dX2_push_17 : decode cX2_push 17 = .ok (.getfield 15, 3) := by decide +kernel
theorem dX2_push_20 : decode cX2_push 20 = .ok (.aload_n 0, 1) := by decide +kernel
theorem dX2_push_21 : decode cX2_push 21 = .ok (.getfield 26, 3) := by decide +kernel
theorem dX2_push_24 : decode cX2_push 24 = .ok (.iload_n 1, 1) := by decide +kernel
theorem dX2_push_25 : decode cX2_push 25 = .ok (.iastore, 1) := by decide +kernel
theorem dX2_push_26 : decode cX2_push 26 = .ok (.aload_n 0, 1) := by decide +kernel
theorem dX2_push_27 : decode cX2_push 27 = .ok (.dup, 1) := by decide +kernel
theorem dX2_push_28 : decode cX2_push 28 = .ok (.getfield 26, 3) := by decide +kernel
theorem dX2_push_31 : decode cX2_push 31 = .ok (.iconst 1, 1) := by decide +kernel
theorem dX2_push_32 : decode cX2_push 32 = .ok (.iadd, 1) := by decide +kernel
theorem dX2_push_33 : decode cX2_push 33 = .ok (.putfield 26, 3) := by decide +kernel
theorem dX2_push_36 : decode cX2_push 36 = .ok (.return_, 1) := by decide +kernel
theorem dX2_pop_0 : decode cX2_pop 0 = .ok (.aload_n 0, 1) := by decide +kernel
theorem dX2_pop_1 : decode cX2_pop 1 = .ok (.getfield 26, 3) := by decide +kernel
theorem dX2_pop_4 : decode cX2_pop 4 = .ok (.ifCond .le 12, 3) := by decide +kernel
theorem dX2_pop_7 : decode cX2_pop 7 = .ok (.aload_n 0, 1) := by decide +kernel
theorem dX2_pop_8 : decode cX2_pop 8 = .ok (.getfield 26, 3) := by decide +kernel
theorem dX2_pop_11 : decode cX2_pop 11 = .ok (.bipush 32, 2) := by decide +kernel
theorem dX2_pop_13 : decode cX2_pop 13 = .ok (.if_icmp .le 5, 3) := by decide +kernel
theorem dX2_pop_16 : decode cX2_pop 16 = .ok (.iconst 0, 1) := by decide +kernel
theorem dX2_pop_17 : decode cX2_pop 17 = .ok (.ireturn, 1) := by decide +kernel
theorem dX2_pop_18 : decode cX2_pop 18 = .ok (.aload_n 0, 1) := by decide +kernel
theorem dX2_pop_19 : decode cX2_pop 19 = .ok (.dup, 1) := by decide +kernel
theorem dX2_pop_20 : decode cX2_pop 20 = .ok (.getfield 26, 3) := by decide +kernel
theorem dX2_pop_23 : decode cX2_pop 23 = .ok (.iconst 1, 1) := by decide +kernel
theorem dX2_pop_24 : decode cX2_pop 24 = .ok (.isub, 1) := by decide +kernel
theorem dX2_pop_25 : decode cX2_pop 25 = .ok (.putfield 26, 3) := by decide +kernel
theorem dX2_pop_28 : decode cX2_pop 28 = .ok (.aload_n 0, 1) := by decide +kernel
theorem dX2_pop_29 : decode cX2_pop 29 = .ok (.getfield 15, 3) := by decide +kernel
theorem dX2_pop_32 : decode cX2_pop 32 = .ok (.aload_n 0, 1) := by decide +kernel
theorem dX2_pop_33 : decode cX2_pop 33 = .ok (.getfield 26, 3) := by decide +kernel
theorem dX2_pop_36 : decode cX2_pop 36 = .ok (.iaload, 1) := by decide +kernel
theorem dX2_pop_37 : decode cX2_pop 37 = .ok (.ireturn, 1) := by decide +kernel
theorem dX2_joined_0 : decode cX2_joined 0 = .ok (.iload_n 0, 1) := by decide +kernel
theorem dX2_joined_1 : decode cX2_joined 1 = .ok (.tableswitch 97 (-17) (-12) #[93, 89, 78, 67, 53, 39], 39) := by decide +kernel
theorem dX2_joined_40 : decode cX2_joined 40 = .ok (.iload_n 1, 1) := by decide +kernel
theorem dX2_joined_41 : decode cX2_joined 41 = .ok (.ifCond .eq 11, 3) := by decide +kernel
theorem dX2_joined_44 : decode cX2_joined 44 = .ok (.iload_n 2, 1) := by decide +kernel
theorem dX2_joined_45 : decode cX2_joined 45 = .ok (.ifCond .eq 7, 3) := by decide +kernel
theorem dX2_joined_48 : decode cX2_joined 48 = .ok (.iconst 1, 1) := by decide +kernel
theorem dX2_joined_49 : decode cX2_joined 49 = .ok (.goto 4, 3) := by decide +kernel
theorem dX2_joined_52 : decode cX2_joined 52 = .ok (.iconst 0, 1) := by decide +kernel
theorem dX2_joined_53 : decode cX2_joined 53 = .ok (.ireturn, 1) := by decide +kernel
theorem dX2_joined_54 : decode cX2_joined 54 = .ok (.iload_n 1, 1) := by decide +kernel
theorem dX2_joined_55 : decode cX2_joined 55 = .ok (.ifCond .ne 7, 3) := by decide +kernel
theorem dX2_joined_58 : decode cX2_joined 58 = .ok (.iload_n 2, 1) := by decide +kernel
theorem dX2_joined_59 : decode cX2_joined 59 = .ok (.ifCond .eq 7, 3) := by decide +kernel
theorem dX2_joined_62 : decode cX2_joined 62 = .ok (.iconst 1, 1) := by decide +kernel
theorem dX2_joined_63 : decode cX2_joined 63 = .ok (.goto 4, 3) := by decide +kernel
theorem dX2_joined_66 : decode cX2_joined 66 = .ok (.iconst 0, 1) := by decide +kernel
theorem dX2_joined_67 : decode cX2_joined 67 = .ok (.ireturn, 1) := by decide +kernel
theorem dX2_joined_68 : decode cX2_joined 68 = .ok (.iload_n 1, 1) := by decide +kernel
theorem dX2_joined_69 : decode cX2_joined 69 = .ok (.iload_n 2, 1) := by decide +kernel
theorem dX2_joined_70 : decode cX2_joined 70 = .ok (.if_icmp .ge 7, 3) := by decide +kernel
theorem dX2_joined_73 : decode cX2_joined 73 = .ok (.iconst 1, 1) := by decide +kernel
theorem dX2_joined_74 : decode cX2_joined 74 = .ok (.goto 4, 3) := by decide +kernel
theorem dX2_joined_77 : decode cX2_joined 77 = .ok (.iconst 0, 1) := by decide +kernel
theorem dX2_joined_78 : decode cX2_joined 78 = .ok (.ireturn, 1) := by decide +kernel
theorem dX2_joined_79 : decode cX2_joined 79 = .ok (.iload_n 1, 1) := by decide +kernel
theorem dX2_joined_80 : decode cX2_joined 80 = .ok (.iload_n 2, 1) := by decide +kernel
theorem dX2_joined_81 : decode cX2_joined 81 = .ok (.if_icmp .ne 7, 3) := by decide +kernel
theorem dX2_joined_84 : decode cX2_joined 84 = .ok (.iconst 1, 1) := by decide +kernel
theorem dX2_joined_85 : decode cX2_joined 85 = .ok (.goto 4, 3) := by decide +kernel
theorem dX2_joined_88 : decode cX2_joined 88 = .ok (.iconst 0, 1) := by decide +kernel
theorem dX2_joined_89 : decode cX2_joined 89 = .ok (.ireturn, 1) := by decide +kernel
theorem dX2_joined_90 : decode cX2_joined 90 = .ok (.iload_n 1, 1) := by decide +kernel
theorem dX2_joined_91 : decode cX2_joined 91 = .ok (.iload_n 2, 1) := by decide +kernel
theorem dX2_joined_92 : decode cX2_joined 92 = .ok (.iadd, 1) := by decide +kernel
theorem dX2_joined_93 : decode cX2_joined 93 = .ok (.ireturn, 1) := by decide +kernel
theorem dX2_joined_94 : decode cX2_joined 94 = .ok (.iload_n 1, 1) := by decide +kernel
theorem dX2_joined_95 : decode cX2_joined 95 = .ok (.iload_n 2, 1) := by decide +kernel
theorem dX2_joined_96 : decode cX2_joined 96 = .ok (.isub, 1) := by decide +kernel
theorem dX2_joined_97 : decode cX2_joined 97 = .ok (.ireturn, 1) := by decide +kernel
theorem dX2_joined_98 : decode cX2_joined 98 = .ok (.iload_n 1, 1) := by decide +kernel
theorem dX2_joined_99 : decode cX2_joined 99 = .ok (.iload_n 2, 1) := by decide +kernel
theorem dX2_joined_100 : decode cX2_joined 100 = .ok (.imul, 1) := by decide +kernel
theorem dX2_joined_101 : decode cX2_joined 101 = .ok (.ireturn, 1) := by decide +kernel
set_option maxRecDepth 20000 in
theorem ggX3_init_X6_init : GoodIn wsX3_init wsX6_init := goodIn_r _ [17, 18, 2, 3, 19, 20, 21, 22, 34, 35, 36, 37, 38, 39] (by decide +kernel) (by decide +kernel)
set_option maxRecDepth 20000 in
theorem gX3_init_X6_init_n9 : GoodIn wsX3_init (wsX6_init) := ggX3_init_X6_init
set_option maxRecDepth 20000 in
theorem ggX3_init_X10_init : GoodIn wsX3_init wsX10_init := goodIn_r _ [24, 25, 2, 3, 19, 26, 27, 28, 44, 45, 46, 47] (by decide +kernel) (by decide +kernel)
set_option maxRecDepth 20000 in
theorem gX3_init_X10_init_n18 : GoodIn wsX3_init (wsX10_init) := ggX3_init_X10_init
set_option maxRecDepth 20000 in
theorem ggX3_init_X0_init : GoodIn wsX3_init wsX0_init := goodIn_r _ [30, 31, 2, 3, 19, 32, 33, 48, 49, 50] (by decide +kernel) (by decide +kernel)
set_option maxRecDepth 20000 in
theorem gX3_init_X0_init_n25 : GoodIn wsX3_init (wsX0_init) := ggX3_init_X0_init
theorem dX3_init_0 : decode cX3_init 0 = .ok (.aload_n 0, 1) := by decide +kernel
theorem dX3_init_1 : decode cX3_init 1 = .ok (.invokespecial 1, 3) := by decide +kernel
theorem dX3_init_4 : decode cX3_init 4 = .ok (.aload_n 0, 1) := by decide +kernel
theorem dX3_init_5 : decode cX3_init 5 = .ok (.new 7, 3) := by decide +kernel
theorem dX3_init_8 : decode cX3_init 8 = .ok (.dup, 1) := by decide +kernel
theorem dX3_init_9 : decode cX3_init 9 = .ok (.invokespecial 9, 3) := by decide +kernel
theorem dX3_init_12 : decode cX3_init 12 = .ok (.putfield 10, 3) := by decide +kernel
theorem dX3_init_15 : decode cX3_init 15 = .ok (.aload_n 0, 1) := by decide +kernel
theorem dX3_init_16 : decode cX3_init 16 = .ok (.new 16, 3) := by decide +kernel
theorem dX3_init_19 : decode cX3_init 19 = .ok (.dup, 1) := by decide +kernel
theorem dX3_init_20 : decode cX3_init 20 = .ok (.invokespecial 18, 3) := by decide +kernel
theorem dX3_init_23 : decode cX3_init 23 = .ok (.putfield 19, 3) := by decide +kernel
theorem dX3_init_26 : decode cX3_init 26 = .ok (.aload_n 0, 1) := by decide +kernel
theorem dX3_init_27 : decode cX3_init 27 = .ok (.new 23, 3) := by decide +kernel
theorem dX3_init_30 : decode cX3_init 30 = .ok (.dup, 1) := by decide +kernel
theorem dX3_init_31 : decode cX3_init 31 = .ok (.invokespecial 25, 3) := by decide +kernel
theorem dX3_init_34 : decode cX3_init 34 = .ok (.putfield 26, 3) := by decide +kernel
theorem dX3_init_37 : decode cX3_init 37 = .ok (.return_, 1) := by decide +kernel
set_option maxRecDepth 20000 in
theorem ggX3_lay_X6_copyFrom : GoodIn wsX3_lay wsX6_copyFrom := goodIn_r _ [9, 10, 11, 12, 13, 14, 15, 37, 38, 39, 40, 41, 42] (by decide +kernel) (by decide +kernel)
set_option maxRecDepth 20000 in
theorem gX3_lay_X6_copyFrom : GoodIn wsX3_lay (wsV RX3 30 RX6 yX6_copyFrom wsX6_copyFrom) := goodIn_app (goodIn_of _ (by decide +kernel)) ggX3_lay_X6_copyFrom
set_option maxRecDepth 20000 in
theorem ggX3_lay_X10_copyFrom : GoodIn wsX3_lay wsX10_copyFrom := goodIn_r _ [20, 21, 22, 23, 24, 43, 44, 45, 46] (by decide +kernel) (by decide +kernel)
set_option maxRecDepth 20000 in
theorem gX3_lay_X10_copyFrom : GoodIn wsX3_lay (wsV RX3 34 RX10 yX10_copyFrom wsX10_copyFrom) := goodIn_app (goodIn_of _ (by decide +kernel)) ggX3_lay_X10_copyFrom
set_option maxRecDepth 20000 in
theorem ggX3_lay_X0_copyFrom : GoodIn wsX3_lay wsX0_copyFrom := goodIn_r _ [29, 30, 31, 32, 47, 48, 49] (by decide +kernel) (by decide +kernel)
set_option maxRecDepth 20000 in
theorem gX3_lay_X0_copyFrom : GoodIn wsX3_lay (wsV RX3 37 RX0 yX0_copyFrom wsX0_copyFrom) := goodIn_app (goodIn_of _ (by decide +kernel)) ggX3_lay_X0_copyFrom
theorem dX3_lay_0 : decode cX3_lay 0 = .ok (.aload_n 0, 1) := by decide +kernel
theorem dX3_lay_1 : decode cX3_lay 1 = .ok (.getfield 10, 3) := by decide +kernel
theorem dX3_lay_4 : decode cX3_lay 4 = .ok (.aload_n 1, 1) := by decide +kernel
theorem dX3_lay_5 : decode cX3_lay 5 = .ok (.invokevirtual 30, 3) := by decide +kernel
theorem dX3_lay_8 : decode cX3_lay 8 = .ok (.aload_n 0, 1) := by decide +kernel
theorem dX3_lay_9 : decode cX3_lay 9 = .ok (.getfield 19, 3) := by decide +kernel
theorem dX3_lay_12 : decode cX3_lay 12 = .ok (.aload_n 2, 1) := by decide +kernel
theorem dX3_lay_13 : decode cX3_lay 13 = .ok (.invokevirtual 34, 3) := by decide +kernel
theorem dX3_lay_16 : decode cX3_lay 16 = .ok (.aload_n 0, 1) := by decide +kernel
theorem dX3_lay_17 : decode cX3_lay 17 = .ok (.getfield 26, 3) := by decide +kernel
theorem dX3_lay_20 : decode cX3_lay 20 = .ok (.aload_n 3, 1) := by decide +kernel
theorem dX3_lay_21 : decode cX3_lay 21 = .ok (.invokevirtual 37, 3) := by decide +kernel
theorem dX3_lay_24 : decode cX3_lay 24 = .ok (.aload_n 0, 1) := by decide +kernel
theorem dX3_lay_25 : decode cX3_lay 25 = .ok (.iconst 1, 1) := by decide +kernel
theorem dX3_lay_26 : decode cX3_lay 26 = .ok (.putfield 40, 3) := by decide +kernel
theorem dX3_lay_29 : decode cX3_lay 29 = .ok (.return_, 1) := by decide +kernel
set_option maxRecDepth 20000 in
theorem ggX3_bringBack_X6_copyFrom : GoodIn wsX3_bringBack wsX6_copyFrom := goodIn_r _ [8, 9, 10, 11, 12, 13, 14, 36, 37, 38, 39, 40, 41] (by decide +kernel) (by decide +kernel)
set_option maxRecDepth 20000 in
theorem gX3_bringBack_X6_copyFrom : GoodIn wsX3_bringBack (wsV RX3 30 RX6 yX6_copyFrom wsX6_copyFrom) := goodIn_app (goodIn_of _ (by decide +kernel)) ggX3_bringBack_X6_copyFrom
set_option maxRecDepth 20000 in
theorem ggX3_bringBack_X10_copyFrom : GoodIn wsX3_bringBack wsX10_copyFrom := goodIn_r _ [19, 20, 21, 22, 23, 42, 43, 44, 45] (by decide +kernel) (by decide +kernel)
set_option maxRecDepth 20000 in
theorem gX3_bringBack_X10_copyFrom : GoodIn wsX3_bringBack (wsV RX3 34 RX10 yX10_copyFrom wsX10_copyFrom) := goodIn_app (goodIn_of _ (by decide +kernel)) ggX3_bringBack_X10_copyFrom
set_option maxRecDepth 20000 in
theorem ggX3_bringBack_X0_copyFrom : GoodIn wsX3_bringBack wsX0_copyFrom := goodIn_r _ [28, 29, 30, 31, 46, 47, 48] (by decide +kernel) (by decide +kernel)
set_option maxRecDepth 20000 in
theorem gX3_bringBack_X0_copyFrom : GoodIn wsX3_bringBack (wsV RX3 37 RX0 yX0_copyFrom wsX0_copyFrom) := goodIn_app (goodIn_of _ (by decide +kernel)) ggX3_bringBack_X0_copyFrom
theorem dX3_bringBack_0 : decode cX3_bringBack 0 = .ok (.aload_n 1, 1) := by decide +kernel
theorem dX3_bringBack_1 : decode cX3_bringBack 1 = .ok (.aload_n 0, 1) := by decide +kernel
theorem dX3_bringBack_2 : decode cX3_bringBack 2 = .ok (.getfield 10, 3) := by decide +kernel
theorem dX3_bringBack_5 : decode cX3_bringBack 5 = .ok (.invokevirtual 30, 3) := by decide +kernel
theorem dX3_bringBack_8 : decode cX3_bringBack 8 = .ok (.aload_n 2, 1) := by decide +kernel
theorem dX3_bringBack_9 : decode cX3_bringBack 9 = .ok (.aload_n 0, 1) := by decide +kernel
theorem dX3_bringBack_10 : decode cX3_bringBack 10 = .ok (.getfield 19, 3) := by decide +kernel
theorem dX3_bringBack_13 : decode cX3_bringBack 13 = .ok (.invokevirtual 34, 3) := by decide +kernel
theorem dX3_bringBack_16 : decode cX3_bringBack 16 = .ok (.aload_n 3, 1) := by decide +kernel
theorem dX3_bringBack_17 : decode cX3_bringBack 17 = .ok (.aload_n 0, 1) := by decide +kernel
theorem dX3_bringBack_18 : decode cX3_bringBack 18 = .ok (.getfield 26, 3) := by decide +kernel
theorem dX3_bringBack_21 : decode cX3_bringBack 21 = .ok (.invokevirtual 37, 3) := by decide +kernel
theorem dX3_bringBack_24 : decode cX3_bringBack 24 = .ok (.return_, 1) := by decide +kernel
theorem dX4_init_0 : decode cX4_init 0 = .ok (.aload_n 0, 1) := by decide +kernel
theorem dX4_init_1 : decode cX4_init 1 = .ok (.invokespecial 3, 3) := by decide +kernel
theorem dX4_init_4 : decode cX4_init 4 = .ok (.aload_n 0, 1) := by decide +kernel
theorem dX4_init_5 : decode cX4_init 5 = .ok (.bipush 18, 2) := by decide +kernel
theorem dX4_init_7 : decode cX4_init 7 = .ok (.newarray .int, 2) := by decide +kernel
theorem dX4_init_9 : decode cX4_init 9 = .ok (.putfield 9, 3) := by decide +kernel
theorem dX4_init_12 : decode cX4_init 12 = .ok (.return_, 1) := by decide +kernel
theorem dX4_learn_0 : decode cX4_learn 0 = .ok (.aload_n 0, 1) := by decide +kernel
theorem dX4_learn_1 : decode cX4_learn 1 = .ok (.getfield 15, 3) := by decide +kernel
theorem dX4_learn_4 : decode cX4_learn 4 = .ok (.iconst 1, 1) := by decide +kernel
theorem dX4_learn_5 : decode cX4_learn 5 = .ok (.if_icmp .ne 11, 3) := by decide +kernel
theorem dX4_learn_8 : decode cX4_learn 8 = .ok (.iconst 3, 1) := by decide +kernel
theorem dX4_learn_9 : decode cX4_learn 9 = .ok (.iload_n 2, 1) := by decide +kernel
theorem dX4_learn_10 : decode cX4_learn 10 = .ok (.invokestatic 19, 3) := by decide +kernel
theorem dX4_learn_13 : decode cX4_learn 13 = .ok (.goto 4, 3) := by decide +kernel
theorem dX4_learn_16 : decode cX4_learn 16 = .ok (.iload_n 2, 1) := by decide +kernel
theorem dX4_learn_17 : decode cX4_learn 17 = .ok (.istore_n 3, 1) := by decide +kernel
theorem dX4_learn_18 : decode cX4_learn 18 = .ok (.aload_n 0, 1) := by decide +kernel
theorem dX4_learn_19 : decode cX4_learn 19 = .ok (.getfield 15, 3) := by decide +kernel
theorem dX4_learn_22 : decode cX4_learn 22 = .ok (.iconst 2, 1) := by decide +kernel
theorem dX4_learn_23 : decode cX4_learn 23 = .ok (.if_icmp .ne 7, 3) := by decide +kernel
theorem dX4_learn_26 : decode cX4_learn 26 = .ok (.iconst 2, 1) := by decide +kernel
theorem dX4_learn_27 : decode cX4_learn 27 = .ok (.goto 4, 3) := by decide +kernel
theorem dX4_learn_30 : decode cX4_learn 30 = .ok (.iconst 1, 1) := by decide +kernel
theorem dX4_learn_31 : decode cX4_learn 31 = .ok (.istore 4, 2) := by decide +kernel
theorem dX4_learn_33 : decode cX4_learn 33 = .ok (.aload_n 0, 1) := by decide +kernel
theorem dX4_learn_34 : decode cX4_learn 34 = .ok (.iconst 0, 1) := by decide +kernel
theorem dX4_learn_35 : decode cX4_learn 35 = .ok (.putfield 25, 3) := by decide +kernel
theorem dX4_learn_38 : decode cX4_learn 38 = .ok (.iconst 0, 1) := by decide +kernel
theorem dX4_learn_39 : decode cX4_learn 39 = .ok (.istore 5, 2) := by decide +kernel
theorem dX4_learn_41 : decode cX4_learn 41 = .ok (.iload 5, 2) := by decide +kernel
theorem dX4_learn_43 : decode cX4_learn 43 = .ok (.iload 4, 2) := by decide +kernel
theorem dX4_learn_45 : decode cX4_learn 45 = .ok (.if_icmp .ge 70, 3) := by decide +kernel
theorem dX4_learn_48 : decode cX4_learn 48 = .ok (.iconst 0, 1) := by decide +kernel
theorem dX4_learn_49 : decode cX4_learn 49 = .ok (.istore 6, 2) := by decide +kernel
theorem dX4_learn_51 : decode cX4_learn 51 = .ok (.iload 6, 2) := by decide +kernel
theorem dX4_learn_53 : decode cX4_learn 53 = .ok (.iload_n 3, 1) := by decide +kernel
theorem dX4_learn_54 : decode cX4_learn 54 = .ok (.if_icmp .ge 55, 3) := by decide +kernel
theorem dX4_learn_57 : decode cX4_learn 57 = .ok (.iload 6, 2) := by decide +kernel
theorem dX4_learn_59 : decode cX4_learn 59 = .ok (.aload_n 1, 1) := by decide +kernel
theorem dX4_learn_60 : decode cX4_learn 60 = .ok (.arraylength, 1) := by decide +kernel
theorem dX4_learn_61 : decode cX4_learn 61 = .ok (.if_icmp .ge 48, 3) := by decide +kernel
theorem dX4_learn_64 : decode cX4_learn 64 = .ok (.aload_n 0, 1) := by decide +kernel
theorem dX4_learn_65 : decode cX4_learn 65 = .ok (.getfield 25, 3) := by decide +kernel
theorem dX4_learn_68 : decode cX4_learn 68 = .ok (.ifCond .lt 35, 3) := by decide +kernel
theorem dX4_learn_71 : decode cX4_learn 71 = .ok (.aload_n 0, 1) := by decide +kernel
theorem dX4_learn_72 : decode cX4_learn 72 = .ok (.getfield 25, 3) := by decide +kernel
theorem dX4_learn_75 : decode cX4_learn 75 = .ok (.bipush 18, 2) := by decide +kernel
theorem dX4_learn_77 : decode cX4_learn 77 = .ok (.if_icmp .ge 26, 3) := by decide +kernel
theorem dX4_learn_80 : decode cX4_learn 80 = .ok (.aload_n 0, 1) := by decide +kernel
theorem dX4_learn_81 : decode cX4_learn 81 = .ok (.getfield 9, 3) := by decide +kernel
theorem dX4_learn_84 : decode cX4_learn 84 = .ok (.aload_n 0, 1) := by decide +kernel
theorem dX4_learn_85 : decode cX4_learn 85 = .ok (.getfield 25, 3) := by decide +kernel
theorem dX4_learn_88 : decode cX4_learn 88 = .ok (.aload_n 1, 1) := by decide +kernel
theorem dX4_learn_89 : decode cX4_learn 89 = .ok (.iload 6, 2) := by decide +kernel
theorem dX4_learn_91 : decode cX4_learn 91 = .ok (.iaload, 1) := by decide +kernel
theorem dX4_learn_92 : decode cX4_learn 92 = .ok (.iastore, 1) := by decide +kernel
theorem dX4_learn_93 : decode cX4_learn 93 = .ok (.aload_n 0, 1) := by decide +kernel
theorem dX4_learn_94 : decode cX4_learn 94 = .ok (.dup, 1) := by decide +kernel
theorem dX4_learn_95 : decode cX4_learn 95 = .ok (.getfield 25, 3) := by decide +kernel
theorem dX4_learn_98 : decode cX4_learn 98 = .ok (.iconst 1, 1) := by decide +kernel
theorem dX4_learn_99 : decode cX4_learn 99 = .ok (.iadd, 1) := by decide +kernel
theorem dX4_learn_100 : decode cX4_learn 100 = .ok (.putfield 25, 3) := by decide +kernel
theorem dX4_learn_103 : decode cX4_learn 103 = .ok (.iinc 6 1, 3) := by decide +kernel
theorem dX4_learn_106 : decode cX4_learn 106 = .ok (.goto (-55), 3) := by decide +kernel
theorem dX4_learn_109 : decode cX4_learn 109 = .ok (.iinc 5 1, 3) := by decide +kernel
theorem dX4_learn_112 : decode cX4_learn 112 = .ok (.goto (-71), 3) := by decide +kernel
theorem dX4_learn_115 : decode cX4_learn 115 = .ok (.return_, 1) := by decide +kernel
theorem dX4_strikesOn_0 : decode cX4_strikesOn 0 = .ok (.iconst 0, 1) := by decide +kernel
theorem dX4_strikesOn_1 : decode cX4_strikesOn 1 = .ok (.istore_n 2, 1) := by decide +kernel
theorem dX4_strikesOn_2 : decode cX4_strikesOn 2 = .ok (.iconst 0, 1) := by decide +kernel
theorem dX4_strikesOn_3 : decode cX4_strikesOn 3 = .ok (.istore_n 3, 1) := by decide +kernel
theorem dX4_strikesOn_4 : decode cX4_strikesOn 4 = .ok (.iload_n 3, 1) := by decide +kernel
theorem dX4_strikesOn_5 : decode cX4_strikesOn 5 = .ok (.aload_n 0, 1) := by decide +kernel
theorem dX4_strikesOn_6 : decode cX4_strikesOn 6 = .ok (.getfield 25, 3) := by decide +kernel
theorem dX4_strikesOn_9 : decode cX4_strikesOn 9 = .ok (.if_icmp .ge 28, 3) := by decide +kernel
theorem dX4_strikesOn_12 : decode cX4_strikesOn 12 = .ok (.iload_n 3, 1) := by decide +kernel
theorem dX4_strikesOn_13 : decode cX4_strikesOn 13 = .ok (.bipush 18, 2) := by decide +kernel
theorem dX4_strikesOn_15 : decode cX4_strikesOn 15 = .ok (.if_icmp .ge 22, 3) := by decide +kernel
theorem dX4_strikesOn_18 : decode cX4_strikesOn 18 = .ok (.aload_n 0, 1) := by decide +kernel
theorem dX4_strikesOn_19 : decode cX4_strikesOn 19 = .ok (.getfield 9, 3) := by decide +kernel
theorem dX4_strikesOn_22 : decode cX4_strikesOn 22 = .ok (.iload_n 3, 1) := by decide +kernel
theorem dX4_strikesOn_23 : decode cX4_strikesOn 23 = .ok (.iaload, 1) := by decide +kernel
theorem dX4_strikesOn_24 : decode cX4_strikesOn 24 = .ok (.iload_n 1, 1) := by decide +kernel
theorem dX4_strikesOn_25 : decode cX4_strikesOn 25 = .ok (.if_icmp .ne 6, 3) := by decide +kernel
theorem dX4_strikesOn_28 : decode cX4_strikesOn 28 = .ok (.iinc 2 1, 3) := by decide +kernel
theorem dX4_strikesOn_31 : decode cX4_strikesOn 31 = .ok (.iinc 3 1, 3) := by decide +kernel
theorem dX4_strikesOn_34 : decode cX4_strikesOn 34 = .ok (.goto (-30), 3) := by decide +kernel
theorem dX4_strikesOn_37 : decode cX4_strikesOn 37 = .ok (.iload_n 2, 1) := by decide +kernel
theorem dX4_strikesOn_38 : decode cX4_strikesOn 38 = .ok (.ireturn, 1) := by decide +kernel
theorem dX4_playsFor_0 : decode cX4_playsFor 0 = .ok (.aload_n 0, 1) := by decide +kernel
theorem dX4_playsFor_1 : decode cX4_playsFor 1 = .ok (.getfield 15, 3) := by decide +kernel
theorem dX4_playsFor_4 : decode cX4_playsFor 4 = .ok (.iconst 3, 1) := by decide +kernel
theorem dX4_playsFor_5 : decode cX4_playsFor 5 = .ok (.if_icmp .ne 10, 3) := by decide +kernel
theorem dX4_playsFor_8 : decode cX4_playsFor 8 = .ok (.aload_n 0, 1) := by decide +kernel
theorem dX4_playsFor_9 : decode cX4_playsFor 9 = .ok (.getfield 28, 3) := by decide +kernel
theorem dX4_playsFor_12 : decode cX4_playsFor 12 = .ok (.goto 11, 3) := by decide +kernel
theorem dX4_playsFor_15 : decode cX4_playsFor 15 = .ok (.aload_n 0, 1) := by decide +kernel
theorem dX4_playsFor_16 : decode cX4_playsFor 16 = .ok (.getfield 28, 3) := by decide +kernel
theorem dX4_playsFor_19 : decode cX4_playsFor 19 = .ok (.iload_n 1, 1) := by decide +kernel
theorem dX4_playsFor_20 : decode cX4_playsFor 20 = .ok (.invokestatic 19, 3) := by decide +kernel
theorem dX4_playsFor_23 : decode cX4_playsFor 23 = .ok (.ireturn, 1) := by decide +kernel
theorem dX4_daresBefore_0 : decode cX4_daresBefore 0 = .ok (.aload_n 0, 1) := by decide +kernel
theorem dX4_daresBefore_1 : decode cX4_daresBefore 1 = .ok (.getfield 15, 3) := by decide +kernel
theorem dX4_daresBefore_4 : decode cX4_daresBefore 4 = .ok (.iconst 2, 1) := by decide +kernel
theorem dX4_daresBefore_5 : decode cX4_daresBefore 5 = .ok (.if_icmp .eq 14, 3) := by decide +kernel
theorem dX4_daresBefore_8 : decode cX4_daresBefore 8 = .ok (.aload_n 0, 1) := by decide +kernel
theorem dX4_daresBefore_9 : decode cX4_daresBefore 9 = .ok (.getfield 31, 3) := by decide +kernel
theorem dX4_daresBefore_12 : decode cX4_daresBefore 12 = .ok (.iload_n 1, 1) := by decide +kernel
theorem dX4_daresBefore_13 : decode cX4_daresBefore 13 = .ok (.iadd, 1) := by decide +kernel
theorem dX4_daresBefore_14 : decode cX4_daresBefore 14 = .ok (.bipush 9, 2) := by decide +kernel
theorem dX4_daresBefore_16 : decode cX4_daresBefore 16 = .ok (.if_icmp .gt 7, 3) := by decide +kernel
theorem dX4_daresBefore_19 : decode cX4_daresBefore 19 = .ok (.iconst 1, 1) := by decide +kernel
theorem dX4_daresBefore_20 : decode cX4_daresBefore 20 = .ok (.goto 4, 3) := by decide +kernel
theorem dX4_daresBefore_23 : decode cX4_daresBefore 23 = .ok (.iconst 0, 1) := by decide +kernel
theorem dX4_daresBefore_24 : decode cX4_daresBefore 24 = .ok (.ireturn, 1) := by decide +kernel
theorem dX5_init_0 : decode cX5_init 0 = .ok (.aload_n 0, 1) := by decide +kernel
theorem dX5_init_1 : decode cX5_init 1 = .ok (.invokespecial 3, 3) := by decide +kernel
theorem dX5_init_4 : decode cX5_init 4 = .ok (.aload_n 0, 1) := by decide +kernel
theorem dX5_init_5 : decode cX5_init 5 = .ok (.aload_n 1, 1) := by decide +kernel
theorem dX5_init_6 : decode cX5_init 6 = .ok (.putfield 9, 3) := by decide +kernel
theorem dX5_init_9 : decode cX5_init 9 = .ok (.return_, 1) := by decide +kernel
set_option maxRecDepth 20000 in
theorem ggX5_readStation_X7_clear : GoodIn wsX5_readStation wsX7_clear := goodIn_r _ [7, 8, 9, 10, 11, 12, 13, 14, 15, 16, 17, 276, 277, 278, 279, 280, 281, 282, 283, 284, 285, 286, 287, 288, 289, 290, 291, 292, 293, 294] (by decide +kernel) (by decide +kernel)
set_option maxRecDepth 20000 in
theorem gX5_readStation_X7_clear : GoodIn wsX5_readStation (wsV RX5 15 RX7 yX7_clear wsX7_clear) := goodIn_app (goodIn_of _ (by decide +kernel)) ggX5_readStation_X7_clear
set_option maxRecDepth 20000 in
theorem ggX5_readStation_X9_rewind : GoodIn wsX5_readStation wsX9_rewind := goodIn_r _ [22, 23, 24, 25, 26, 21, 27, 28, 29, 30, 31, 32, 33, 34, 35, 36, 37, 38, 39, 40, 41, 42, 43, 44, 45, 46, 47, 48, 49, 50, 51, 52, 53, 54, 55, 56, 57, 58, 59, 60, 61, 62, 63, 64, 65, 66, 67, 68, 69, 70, 71, 72, 73, 74, 75, 76, 77, 78, 79, 80, 81, 82, 83, 84, 85, 86, 87, 88, 89, 90, 91, 92, 93, 94, 95, 96, 97, 98, 99, 100, 101, 102, 103, 104, 105, 106, 107, 108, 109, 110, 111, 112, 113, 114, 115, 116, 117, 118, 119, 120, 121, 122, 123, 124, 125, 126, 127, 128, 129, 130, 131, 132, 133, 134, 135, 136, 137, 138, 139, 140, 141, 142, 143, 144, 145, 146, 147, 148, 149, 150, 151, 269, 270, 271, 272, 273, 274, 275] (by decide +kernel) (by decide +kernel)
set_option maxRecDepth 20000 in
theorem gX5_readStation_X9_rewind : GoodIn wsX5_readStation (wsV RX5 24 RX9 yX9_rewind wsX9_rewind) := goodIn_app (goodIn_of _ (by decide +kernel)) ggX5_readStation_X9_rewind
set_option maxRecDepth 20000 in
theorem ggX5_readStation_X5_stationLine : GoodIn wsX5_readStation wsX5_stationLine := goodIn_r _ [156, 2, 157, 158, 159, 155, 160, 161, 162, 163, 164, 1, 165, 25, 26, 21, 27, 23, 28, 29, 30, 31, 32, 33, 34, 35, 36, 37, 38, 39, 40, 41, 42, 43, 44, 45, 46, 47, 48, 49, 50, 51, 52, 53, 54, 55, 56, 57, 58, 59, 60, 61, 62, 63, 64, 65, 66, 67, 68, 69, 70, 71, 72, 73, 74, 75, 76, 77, 78, 79, 80, 81, 82, 83, 84, 85, 86, 87, 88, 89, 90, 91, 92, 93, 94, 95, 96, 97, 98, 99, 100, 101, 102, 103, 104, 105, 106, 107, 108, 109, 110, 111, 112, 113, 114, 115, 116, 117, 118, 119, 120, 121, 122, 123, 124, 125, 126, 127, 128, 129, 130, 131, 132, 133, 134, 135, 136, 137, 138, 139, 140, 141, 142, 143, 144, 145, 146, 147, 148, 149, 150, 151, 166, 167, 168, 169, 170, 171, 172, 173, 174, 175, 176, 6, 177, 9, 178, 179, 180, 181, 182, 8, 183, 184, 185, 186, 187, 188, 189, 190, 191, 192, 193, 194, 195, 196, 197, 198, 199, 200, 201, 202, 203, 204, 205, 206, 207, 208, 209, 210, 211, 212, 213, 214, 215, 216, 217, 218, 219, 220, 221, 222, 223, 224, 225, 226, 227, 228, 229, 230, 231, 232, 233, 234, 235, 236, 237, 238, 239, 240, 241, 242, 243, 244, 245, 246, 247, 248, 249, 250, 251, 252, 253, 254, 255, 256, 257, 258, 259, 260, 261, 262, 263, 264, 265, 266, 267, 268, 269, 270, 271, 272, 273, 274, 275, 276, 277, 278, 279, 280, 281, 282, 283, 284, 285, 286, 287, 288, 289, 295, 296, 297, 298, 299, 300, 301, 302, 303, 290, 291, 292, 293, 294] (by decide +kernel) (by decide +kernel)
set_option maxRecDepth 20000 in
theorem gX5_readStation_X5_stationLine : GoodIn wsX5_readStation (wsV RX5 32 RX5 yX5_stationLine wsX5_stationLine) := goodIn_app (goodIn_of _ (by decide +kernel)) ggX5_readStation_X5_stationLine
theorem dX5_readStation_0 : decode cX5_readStation 0 = .ok (.aload_n 1, 1) := by decide +kernel
theorem dX5_readStation_1 : decode cX5_readStation 1 = .ok (.invokevirtual 15, 3) := by decide +kernel
theorem dX5_readStation_4 : decode cX5_readStation 4 = .ok (.aload_n 0, 1) := by decide +kernel
theorem dX5_readStation_5 : decode cX5_readStation 5 = .ok (.iconst 0, 1) := by decide +kernel
theorem dX5_readStation_6 : decode cX5_readStation 6 = .ok (.putfield 20, 3) := by decide +kernel
theorem dX5_readStation_9 : decode cX5_readStation 9 = .ok (.aload_n 0, 1) := by decide +kernel
theorem dX5_readStation_10 : decode cX5_readStation 10 = .ok (.getfield 9, 3) := by decide +kernel
theorem dX5_readStation_13 : decode cX5_readStation 13 = .ok (.invokevirtual 24, 3) := by decide +kernel
theorem dX5_readStation_16 : decode cX5_readStation 16 = .ok (.iconst 0, 1) := by decide +kernel
theorem dX5_readStation_17 : decode cX5_readStation 17 = .ok (.istore_n 2, 1) := by decide +kernel
theorem dX5_readStation_18 : decode cX5_readStation 18 = .ok (.iload_n 2, 1) := by decide +kernel
theorem dX5_readStation_19 : decode cX5_readStation 19 = .ok (.sipush 1000, 3) := by decide +kernel
theorem dX5_readStation_22 : decode cX5_readStation 22 = .ok (.if_icmp .gt 34, 3) := by decide +kernel
theorem dX5_readStation_25 : decode cX5_readStation 25 = .ok (.aload_n 0, 1) := by decide +kernel
theorem dX5_readStation_26 : decode cX5_readStation 26 = .ok (.getfield 9, 3) := by decide +kernel
theorem dX5_readStation_29 : decode cX5_readStation 29 = .ok (.getfield 29, 3) := by decide +kernel
theorem dX5_readStation_32 : decode cX5_readStation 32 = .ok (.bipush 101, 2) := by decide +kernel
theorem dX5_readStation_34 : decode cX5_readStation 34 = .ok (.if_icmp .eq 22, 3) := by decide +kernel
theorem dX5_readStation_37 : decode cX5_readStation 37 = .ok (.aload_n 0, 1) := by decide +kernel
theorem dX5_readStation_38 : decode cX5_readStation 38 = .ok (.aload_n 1, 1) := by decide +kernel
theorem dX5_readStation_39 : decode cX5_readStation 39 = .ok (.invokevirtual 32, 3) := by decide +kernel
theorem dX5_readStation_42 : decode cX5_readStation 42 = .ok (.ifCond .ne 8, 3) := by decide +kernel
theorem dX5_readStation_45 : decode cX5_readStation 45 = .ok (.aload_n 0, 1) := by decide +kernel
theorem dX5_readStation_46 : decode cX5_readStation 46 = .ok (.getfield 20, 3) := by decide +kernel
theorem dX5_readStation_49 : decode cX5_readStation 49 = .ok (.ireturn, 1) := by decide +kernel
theorem dX5_readStation_50 : decode cX5_readStation 50 = .ok (.iinc 2 1, 3) := by decide +kernel
theorem dX5_readStation_53 : decode cX5_readStation 53 = .ok (.goto (-35), 3) := by decide +kernel
theorem dX5_readStation_56 : decode cX5_readStation 56 = .ok (.iconst 0, 1) := by decide +kernel
theorem dX5_readStation_57 : decode cX5_readStation 57 = .ok (.ireturn, 1) := by decide +kernel
set_option maxRecDepth 20000 in
theorem ggX5_readWeek_X9_rewind : GoodIn wsX5_readWeek wsX9_rewind := goodIn_r _ [7, 8, 9, 10, 11, 6, 12, 13, 14, 15, 16, 17, 18, 19, 20, 21, 22, 23, 24, 25, 26, 27, 28, 29, 30, 31, 32, 33, 34, 35, 36, 37, 38, 39, 40, 41, 42, 43, 44, 45, 46, 47, 48, 49, 50, 51, 52, 53, 54, 55, 56, 57, 58, 59, 60, 61, 62, 63, 64, 65, 66, 67, 68, 69, 70, 71, 72, 73, 74, 75, 76, 77, 78, 79, 80, 81, 82, 83, 84, 85, 86, 87, 88, 89, 90, 91, 92, 93, 94, 95, 96, 97, 98, 99, 100, 101, 102, 103, 104, 105, 106, 107, 108, 109, 110, 111, 112, 113, 114, 115, 116, 117, 118, 119, 120, 121, 122, 123, 124, 125, 126, 127, 128, 129, 130, 131, 132, 133, 134, 135, 136, 176, 177, 178, 179, 180, 181, 182] (by decide +kernel) (by decide +kernel)
set_option maxRecDepth 20000 in
theorem gX5_readWeek_X9_rewind : GoodIn wsX5_readWeek (wsV RX5 24 RX9 yX9_rewind wsX9_rewind) := goodIn_app (goodIn_of _ (by decide +kernel)) ggX5_readWeek_X9_rewind
set_option maxRecDepth 20000 in
theorem ggX5_readWeek_X5_weekLine : GoodIn wsX5_readWeek wsX5_weekLine := goodIn_r _ [141, 2, 142, 143, 144, 145, 140, 146, 1, 147, 10, 11, 6, 12, 8, 13, 14, 15, 16, 17, 18, 19, 20, 21, 22, 23, 24, 25, 26, 27, 28, 29, 30, 31, 32, 33, 34, 35, 36, 37, 38, 39, 40, 41, 42, 43, 44, 45, 46, 47, 48, 49, 50, 51, 52, 53, 54, 55, 56, 57, 58, 59, 60, 61, 62, 63, 64, 65, 66, 67, 68, 69, 70, 71, 72, 73, 74, 75, 76, 77, 78, 79, 80, 81, 82, 83, 84, 85, 86, 87, 88, 89, 90, 91, 92, 93, 94, 95, 96, 97, 98, 99, 100, 101, 102, 103, 104, 105, 106, 107, 108, 109, 110, 111, 112, 113, 114, 115, 116, 117, 118, 119, 120, 121, 122, 123, 124, 125, 126, 127, 128, 129, 130, 131, 132, 133, 134, 135, 136, 148, 149, 150, 151, 152, 153, 154, 155, 156, 157, 158, 159, 160, 161, 162, 163, 164, 165, 166, 167, 168, 173, 174, 175, 176, 177, 178, 179, 180, 181, 182, 169, 170, 171, 172] (by decide +kernel) (by decide +kernel)
set_option maxRecDepth 20000 in
theorem gX5_readWeek_X5_weekLine : GoodIn wsX5_readWeek (wsV RX5 41 RX5 yX5_weekLine wsX5_weekLine) := goodIn_app (goodIn_of _ (by decide +kernel)) ggX5_readWeek_X5_weekLine
theorem dX5_readWeek_0 : decode cX5_readWeek 0 = .ok (.aload_n 1, 1) := by decide +kernel
theorem dX5_readWeek_1 : decode cX5_readWeek 1 = .ok (.iconst 0, 1) := by decide +kernel
theorem dX5_readWeek_2 : decode cX5_readWeek 2 = .ok (.putfield 36, 3) := by decide +kernel
theorem dX5_readWeek_5 : decode cX5_readWeek 5 = .ok (.aload_n 0, 1) := by decide +kernel
theorem dX5_readWeek_6 : decode cX5_readWeek 6 = .ok (.iconst 0, 1) := by decide +kernel
theorem dX5_readWeek_7 : decode cX5_readWeek 7 = .ok (.putfield 20, 3) := by decide +kernel
theorem dX5_readWeek_10 : decode cX5_readWeek 10 = .ok (.aload_n 0, 1) := by decide +kernel
theorem dX5_readWeek_11 : decode cX5_readWeek 11 = .ok (.getfield 9, 3) := by decide +kernel
theorem dX5_readWeek_14 : decode cX5_readWeek 14 = .ok (.invokevirtual 24, 3) := by decide +kernel
theorem dX5_readWeek_17 : decode cX5_readWeek 17 = .ok (.iconst 0, 1) := by decide +kernel
theorem dX5_readWeek_18 : decode cX5_readWeek 18 = .ok (.istore_n 2, 1) := by decide +kernel
theorem dX5_readWeek_19 : decode cX5_readWeek 19 = .ok (.iload_n 2, 1) := by decide +kernel
theorem dX5_readWeek_20 : decode cX5_readWeek 20 = .ok (.sipush 1000, 3) := by decide +kernel
theorem dX5_readWeek_23 : decode cX5_readWeek 23 = .ok (.if_icmp .gt 34, 3) := by decide +kernel
theorem dX5_readWeek_26 : decode cX5_readWeek 26 = .ok (.aload_n 0, 1) := by decide +kernel
theorem dX5_readWeek_27 : decode cX5_readWeek 27 = .ok (.getfield 9, 3) := by decide +kernel
theorem dX5_readWeek_30 : decode cX5_readWeek 30 = .ok (.getfield 29, 3) := by decide +kernel
theorem dX5_readWeek_33 : decode cX5_readWeek 33 = .ok (.bipush 101, 2) := by decide +kernel
theorem dX5_readWeek_35 : decode cX5_readWeek 35 = .ok (.if_icmp .eq 22, 3) := by decide +kernel
theorem dX5_readWeek_38 : decode cX5_readWeek 38 = .ok (.aload_n 0, 1) := by decide +kernel
theorem dX5_readWeek_39 : decode cX5_readWeek 39 = .ok (.aload_n 1, 1) := by decide +kernel
theorem dX5_readWeek_40 : decode cX5_readWeek 40 = .ok (.invokevirtual 41, 3) := by decide +kernel
theorem dX5_readWeek_43 : decode cX5_readWeek 43 = .ok (.ifCond .ne 8, 3) := by decide +kernel
theorem dX5_readWeek_46 : decode cX5_readWeek 46 = .ok (.aload_n 0, 1) := by decide +kernel
theorem dX5_readWeek_47 : decode cX5_readWeek 47 = .ok (.getfield 20, 3) := by decide +kernel
theorem dX5_readWeek_50 : decode cX5_readWeek 50 = .ok (.ireturn, 1) := by decide +kernel
theorem dX5_readWeek_51 : decode cX5_readWeek 51 = .ok (.iinc 2 1, 3) := by decide +kernel
theorem dX5_readWeek_54 : decode cX5_readWeek 54 = .ok (.goto (-35), 3) := by decide +kernel
theorem dX5_readWeek_57 : decode cX5_readWeek 57 = .ok (.iconst 0, 1) := by decide +kernel
theorem dX5_readWeek_58 : decode cX5_readWeek 58 = .ok (.ireturn, 1) := by decide +kernel
theorem dX5_wrong_0 : decode cX5_wrong 0 = .ok (.aload_n 0, 1) := by decide +kernel
theorem dX5_wrong_1 : decode cX5_wrong 1 = .ok (.iload_n 1, 1) := by decide +kernel
theorem dX5_wrong_2 : decode cX5_wrong 2 = .ok (.bipush 16, 2) := by decide +kernel
theorem dX5_wrong_4 : decode cX5_wrong 4 = .ok (.aload_n 0, 1) := by decide +kernel
theorem dX5_wrong_5 : decode cX5_wrong 5 = .ok (.getfield 9, 3) := by decide +kernel
theorem dX5_wrong_8 : decode cX5_wrong 8 = .ok (.getfield 45, 3) := by decide +kernel
theorem dX5_wrong_11 : decode cX5_wrong 11 = .ok (.imul, 1) := by decide +kernel
theorem dX5_wrong_12 : decode cX5_wrong 12 = .ok (.iadd, 1) := by decide +kernel
theorem dX5_wrong_13 : decode cX5_wrong 13 = .ok (.putfield 20, 3) := by decide +kernel
theorem dX5_wrong_16 : decode cX5_wrong 16 = .ok (.iconst 0, 1) := by decide +kernel
theorem dX5_wrong_17 : decode cX5_wrong 17 = .ok (.ireturn, 1) := by decide +kernel
set_option maxRecDepth 20000 in
theorem ggX5_take_X5_wrong : GoodIn wsX5_take wsX5_wrong := goodIn_r _ [6, 1, 7, 138, 139, 140, 141, 142, 143, 144, 145, 146, 147] (by decide +kernel) (by decide +kernel)
set_option maxRecDepth 20000 in
theorem gX5_take_X5_wrong : GoodIn wsX5_take (wsV RX5 48 RX5 yX5_wrong wsX5_wrong) := goodIn_app (goodIn_of _ (by decide +kernel)) ggX5_take_X5_wrong
set_option maxRecDepth 20000 in
theorem ggX5_take_X9_advance : GoodIn wsX5_take wsX9_advance := goodIn_r _ [12, 13, 14, 15, 16, 17, 18, 19, 20, 21, 22, 11, 23, 24, 25, 26, 27, 28, 29, 30, 31, 32, 33, 34, 35, 36, 37, 38, 39, 40, 41, 42, 43, 44, 45, 46, 47, 48, 49, 50, 51, 52, 53, 54, 55, 56, 57, 58, 59, 60, 61, 62, 63, 64, 65, 66, 67, 68, 69, 70, 71, 72, 73, 74, 75, 76, 77, 78, 79, 80, 81, 82, 83, 84, 85, 86, 87, 88, 89, 90, 91, 92, 93, 94, 95, 96, 97, 98, 99, 100, 101, 102, 103, 104, 105, 106, 107, 108, 109, 110, 111, 112, 113, 114, 115, 116, 117, 118, 119, 120, 121, 122, 123, 124, 125, 126, 127, 128, 129, 130, 131, 132, 133, 134, 135, 136, 137, 141, 142, 143, 144, 145, 146, 147] (by decide +kernel) (by decide +kernel)
set_option maxRecDepth 20000 in
theorem gX5_take_X9_advance : GoodIn wsX5_take (wsV RX5 52 RX9 yX9_advance wsX9_advance) := goodIn_app (goodIn_of _ (by decide +kernel)) ggX5_take_X9_advance
theorem dX5_take_0 : decode cX5_take 0 = .ok (.aload_n 0, 1) := by decide +kernel
theorem dX5_take_1 : decode cX5_take 1 = .ok (.getfield 9, 3) := by decide +kernel
theorem dX5_take_4 : decode cX5_take 4 = .ok (.getfield 29, 3) := by decide +kernel
theorem dX5_take_7 : decode cX5_take 7 = .ok (.iload_n 1, 1) := by decide +kernel
theorem dX5_take_8 : decode cX5_take 8 = .ok (.if_icmp .eq 9, 3) := by decide +kernel
theorem dX5_take_11 : decode cX5_take 11 = .ok (.aload_n 0, 1) := by decide +kernel
theorem dX5_take_12 : decode cX5_take 12 = .ok (.iconst 1, 1) := by decide +kernel
theorem dX5_take_13 : decode cX5_take 13 = .ok (.invokevirtual 48, 3) := by decide +kernel
theorem dX5_take_16 : decode cX5_take 16 = .ok (.ireturn, 1) := by decide +kernel
theorem dX5_take_17 : decode cX5_take 17 = .ok (.aload_n 0, 1) := by decide +kernel
theorem dX5_take_18 : decode cX5_take 18 = .ok (.getfield 9, 3) := by decide +kernel
theorem dX5_take_21 : decode cX5_take 21 = .ok (.invokevirtual 52, 3) := by decide +kernel
theorem dX5_take_24 : decode cX5_take 24 = .ok (.iconst 1, 1) := by decide +kernel
theorem dX5_take_25 : decode cX5_take 25 = .ok (.ireturn, 1) := by decide +kernel
set_option maxRecDepth 20000 in
theorem ggX5_takeNumber_X5_wrong : GoodIn wsX5_takeNumber wsX5_wrong := goodIn_r _ [7, 1, 8, 139, 140, 141, 142, 143, 144, 145, 146, 147, 148] (by decide +kernel) (by decide +kernel)
set_option maxRecDepth 20000 in
theorem gX5_takeNumber_X5_wrong : GoodIn wsX5_takeNumber (wsV RX5 48 RX5 yX5_wrong wsX5_wrong) := goodIn_app (goodIn_of _ (by decide +kernel)) ggX5_takeNumber_X5_wrong
set_option maxRecDepth 20000 in
theorem ggX5_takeNumber_X9_advance : GoodIn wsX5_takeNumber wsX9_advance := goodIn_r _ [13, 14, 15, 16, 17, 18, 19, 20, 21, 22, 23, 12, 24, 25, 26, 27, 28, 29, 30, 31, 32, 33, 34, 35, 36, 37, 38, 39, 40, 41, 42, 43, 44, 45, 46, 47, 48, 49, 50, 51, 52, 53, 54, 55, 56, 57, 58, 59, 60, 61, 62, 63, 64, 65, 66, 67, 68, 69, 70, 71, 72, 73, 74, 75, 76, 77, 78, 79, 80, 81, 82, 83, 84, 85, 86, 87, 88, 89, 90, 91, 92, 93, 94, 95, 96, 97, 98, 99, 100, 101, 102, 103, 104, 105, 106, 107, 108, 109, 110, 111, 112, 113, 114, 115, 116, 117, 118, 119, 120, 121, 122, 123, 124, 125, 126, 127, 128, 129, 130, 131, 132, 133, 134, 135, 136, 137, 138, 142, 143, 144, 145, 146, 147, 148] (by decide +kernel) (by decide +kernel)
set_option maxRecDepth 20000 in
theorem gX5_takeNumber_X9_advance : GoodIn wsX5_takeNumber (wsV RX5 52 RX9 yX9_advance wsX9_advance) := goodIn_app (goodIn_of _ (by decide +kernel)) ggX5_takeNumber_X9_advance
theorem dX5_takeNumber_0 : decode cX5_takeNumber 0 = .ok (.aload_n 0, 1) := by decide +kernel
theorem dX5_takeNumber_1 : decode cX5_takeNumber 1 = .ok (.getfield 9, 3) := by decide +kernel
theorem dX5_takeNumber_4 : decode cX5_takeNumber 4 = .ok (.getfield 29, 3) := by decide +kernel
theorem dX5_takeNumber_7 : decode cX5_takeNumber 7 = .ok (.bipush 100, 2) := by decide +kernel
theorem dX5_takeNumber_9 : decode cX5_takeNumber 9 = .ok (.if_icmp .eq 9, 3) := by decide +kernel
theorem dX5_takeNumber_12 : decode cX5_takeNumber 12 = .ok (.aload_n 0, 1) := by decide +kernel
theorem dX5_takeNumber_13 : decode cX5_takeNumber 13 = .ok (.iconst 1, 1) := by decide +kernel
theorem dX5_takeNumber_14 : decode cX5_takeNumber 14 = .ok (.invokevirtual 48, 3) := by decide +kernel
theorem dX5_takeNumber_17 : decode cX5_takeNumber 17 = .ok (.ireturn, 1) := by decide +kernel
theorem dX5_takeNumber_18 : decode cX5_takeNumber 18 = .ok (.aload_n 0, 1) := by decide +kernel
theorem dX5_takeNumber_19 : decode cX5_takeNumber 19 = .ok (.getfield 9, 3) := by decide +kernel
theorem dX5_takeNumber_22 : decode cX5_takeNumber 22 = .ok (.getfield 55, 3) := by decide +kernel
theorem dX5_takeNumber_25 : decode cX5_takeNumber 25 = .ok (.iload_n 1, 1) := by decide +kernel
theorem dX5_takeNumber_26 : decode cX5_takeNumber 26 = .ok (.if_icmp .lt 14, 3) := by decide +kernel
theorem dX5_takeNumber_29 : decode cX5_takeNumber 29 = .ok (.aload_n 0, 1) := by decide +kernel
theorem dX5_takeNumber_30 : decode cX5_takeNumber 30 = .ok (.getfield 9, 3) := by decide +kernel
theorem dX5_takeNumber_33 : decode cX5_takeNumber 33 = .ok (.getfield 55, 3) := by decide +kernel
theorem dX5_takeNumber_36 : decode cX5_takeNumber 36 = .ok (.iload_n 2, 1) := by decide +kernel
theorem dX5_takeNumber_37 : decode cX5_takeNumber 37 = .ok (.if_icmp .le 9, 3) := by decide +kernel
theorem dX5_takeNumber_40 : decode cX5_takeNumber 40 = .ok (.aload_n 0, 1) := by decide +kernel
theorem dX5_takeNumber_41 : decode cX5_takeNumber 41 = .ok (.iconst 4, 1) := by decide +kernel
theorem dX5_takeNumber_42 : decode cX5_takeNumber 42 = .ok (.invokevirtual 48, 3) := by decide +kernel
theorem dX5_takeNumber_45 : decode cX5_takeNumber 45 = .ok (.ireturn, 1) := by decide +kernel
theorem dX5_takeNumber_46 : decode cX5_takeNumber 46 = .ok (.aload_n 0, 1) := by decide +kernel
theorem dX5_takeNumber_47 : decode cX5_takeNumber 47 = .ok (.aload_n 0, 1) := by decide +kernel
theorem dX5_takeNumber_48 : decode cX5_takeNumber 48 = .ok (.getfield 9, 3) := by decide +kernel
theorem dX5_takeNumber_51 : decode cX5_takeNumber 51 = .ok (.getfield 55, 3) := by decide +kernel
theorem dX5_takeNumber_54 : decode cX5_takeNumber 54 = .ok (.putfield 58, 3) := by decide +kernel
theorem dX5_takeNumber_57 : decode cX5_takeNumber 57 = .ok (.aload_n 0, 1) := by decide +kernel
theorem dX5_takeNumber_58 : decode cX5_takeNumber 58 = .ok (.getfield 9, 3) := by decide +kernel
theorem dX5_takeNumber_61 : decode cX5_takeNumber 61 = .ok (.invokevirtual 52, 3) := by decide +kernel
theorem dX5_takeNumber_64 : decode cX5_takeNumber 64 = .ok (.iconst 1, 1) := by decide +kernel
theorem dX5_takeNumber_65 : decode cX5_takeNumber 65 = .ok (.ireturn, 1) := by decide +kernel
set_option maxRecDepth 20000 in
theorem ggX5_takeValue_X5_take : GoodIn wsX5_takeValue wsX5_take := goodIn_r _ [5, 6, 7, 8, 9, 4, 10, 11, 12, 13, 14, 15, 16, 17, 18, 19, 20, 21, 22, 23, 24, 25, 26, 27, 28, 29, 30, 31, 32, 33, 34, 35, 36, 37, 38, 39, 40, 41, 42, 43, 44, 45, 46, 47, 48, 49, 50, 51, 52, 53, 54, 55, 56, 57, 58, 59, 60, 61, 62, 63, 64, 65, 66, 67, 68, 69, 70, 71, 72, 73, 74, 75, 76, 77, 78, 79, 80, 81, 82, 83, 84, 85, 86, 87, 88, 89, 90, 91, 92, 93, 94, 95, 96, 97, 98, 99, 100, 101, 102, 103, 104, 105, 106, 107, 108, 109, 110, 111, 112, 113, 114, 115, 116, 117, 118, 119, 120, 121, 122, 123, 124, 125, 126, 127, 128, 129, 130, 131, 132, 133, 134, 135, 136, 137, 138, 139, 140, 141, 147, 148, 149, 150, 151, 152, 153, 154, 155, 156] (by decide +kernel) (by decide +kernel)
set_option maxRecDepth 20000 in
theorem gX5_takeValue_X5_take : GoodIn wsX5_takeValue (wsV RX5 61 RX5 yX5_take wsX5_take) := goodIn_app (goodIn_of _ (by decide +kernel)) ggX5_takeValue_X5_take
set_option maxRecDepth 20000 in
theorem ggX5_takeValue_X5_takeNumber : GoodIn wsX5_takeValue wsX5_takeNumber := goodIn_r _ [145, 6, 146, 7, 8, 9, 4, 10, 11, 12, 13, 14, 15, 16, 17, 18, 19, 20, 21, 22, 23, 24, 25, 26, 27, 28, 29, 30, 31, 32, 33, 34, 35, 36, 37, 38, 39, 40, 41, 42, 43, 44, 45, 46, 47, 48, 49, 50, 51, 52, 53, 54, 55, 56, 57, 58, 59, 60, 61, 62, 63, 64, 65, 66, 67, 68, 69, 70, 71, 72, 73, 74, 75, 76, 77, 78, 79, 80, 81, 82, 83, 84, 85, 86, 87, 88, 89, 90, 91, 92, 93, 94, 95, 96, 97, 98, 99, 100, 101, 102, 103, 104, 105, 106, 107, 108, 109, 110, 111, 112, 113, 114, 115, 116, 117, 118, 119, 120, 121, 122, 123, 124, 125, 126, 127, 128, 129, 130, 131, 132, 133, 134, 135, 136, 137, 138, 139, 140, 141, 147, 148, 149, 150, 151, 152, 153, 154, 155, 156] (by decide +kernel) (by decide +kernel)
set_option maxRecDepth 20000 in
theorem gX5_takeValue_X5_takeNumber : GoodIn wsX5_takeValue (wsV RX5 64 RX5 yX5_takeNumber wsX5_takeNumber) := goodIn_app (goodIn_of _ (by decide +kernel)) ggX5_takeValue_X5_takeNumber
theorem dX5_takeValue_0 : decode cX5_takeValue 0 = .ok (.aload_n 0, 1) := by decide +kernel
theorem dX5_takeValue_1 : decode cX5_takeValue 1 = .ok (.iload_n 1, 1) := by decide +kernel
theorem dX5_takeValue_2 : decode cX5_takeValue 2 = .ok (.invokevirtual 61, 3) := by decide +kernel
theorem dX5_takeValue_5 : decode cX5_takeValue 5 = .ok (.ifCond .eq 16, 3) := by decide +kernel
theorem dX5_takeValue_8 : decode cX5_takeValue 8 = .ok (.aload_n 0, 1) := by decide +kernel
theorem dX5_takeValue_9 : decode cX5_takeValue 9 = .ok (.iload_n 2, 1) := by decide +kernel
theorem dX5_takeValue_10 : decode cX5_takeValue 10 = .ok (.iload_n 3, 1) := by decide +kernel
theorem dX5_takeValue_11 : decode cX5_takeValue 11 = .ok (.invokevirtual 64, 3) := by decide +kernel
theorem dX5_takeValue_14 : decode cX5_takeValue 14 = .ok (.ifCond .eq 7, 3) := by decide +kernel
theorem dX5_takeValue_17 : decode cX5_takeValue 17 = .ok (.iconst 1, 1) := by decide +kernel
theorem dX5_takeValue_18 : decode cX5_takeValue 18 = .ok (.goto 4, 3) := by decide +kernel
theorem dX5_takeValue_21 : decode cX5_takeValue 21 = .ok (.iconst 0, 1) := by decide +kernel
theorem dX5_takeValue_22 : decode cX5_takeValue 22 = .ok (.ireturn, 1) := by decide +kernel
theorem dX5_isName_0 : decode cX5_isName 0 = .ok (.aload_n 0, 1) := by decide +kernel
theorem dX5_isName_1 : decode cX5_isName 1 = .ok (.getfield 9, 3) := by decide +kernel
theorem dX5_isName_4 : decode cX5_isName 4 = .ok (.getfield 29, 3) := by decide +kernel
theorem dX5_isName_7 : decode cX5_isName 7 = .ok (.bipush 23, 2) := by decide +kernel
theorem dX5_isName_9 : decode cX5_isName 9 = .ok (.if_icmp .lt 19, 3) := by decide +kernel
theorem dX5_isName_12 : decode cX5_isName 12 = .ok (.aload_n 0, 1) := by decide +kernel
theorem dX5_isName_13 : decode cX5_isName 13 = .ok (.getfield 9, 3) := by decide +kernel
theorem dX5_isName_16 : decode cX5_isName 16 = .ok (.getfield 29, 3) := by decide +kernel
theorem dX5_isName_19 : decode cX5_isName 19 = .ok (.bipush 29, 2) := by decide +kernel
theorem dX5_isName_21 : decode cX5_isName 21 = .ok (.if_icmp .gt 7, 3) := by decide +kernel
theorem dX5_isName_24 : decode cX5_isName 24 = .ok (.iconst 1, 1) := by decide +kernel
theorem dX5_isName_25 : decode cX5_isName 25 = .ok (.goto 4, 3) := by decide +kernel
theorem dX5_isName_28 : decode cX5_isName 28 = .ok (.iconst 0, 1) := by decide +kernel
theorem dX5_isName_29 : decode cX5_isName 29 = .ok (.ireturn, 1) := by decide +kernel
set_option maxRecDepth 20000 in
theorem ggX5_mayBeNewName_X5_isName : GoodIn wsX5_mayBeNewName wsX5_isName := goodIn_r _ [6, 1, 25, 26, 27, 28, 29, 30, 31, 32, 33, 34] (by decide +kernel) (by decide +kernel)
set_option maxRecDepth 20000 in
theorem gX5_mayBeNewName_X5_isName : GoodIn wsX5_mayBeNewName (wsV RX5 68 RX5 yX5_isName wsX5_isName) := goodIn_app (goodIn_of _ (by decide +kernel)) ggX5_mayBeNewName_X5_isName
set_option maxRecDepth 20000 in
theorem ggX5_mayBeNewName_X5_wrong : GoodIn wsX5_mayBeNewName wsX5_wrong := goodIn_r _ [10, 1, 11, 25, 26, 27, 28, 29, 30, 31, 32, 33, 34] (by decide +kernel) (by decide +kernel)
set_option maxRecDepth 20000 in
theorem gX5_mayBeNewName_X5_wrong : GoodIn wsX5_mayBeNewName (wsV RX5 48 RX5 yX5_wrong wsX5_wrong) := goodIn_app (goodIn_of _ (by decide +kernel)) ggX5_mayBeNewName_X5_wrong
set_option maxRecDepth 20000 in
theorem ggX5_mayBeNewName_X7_hasName : GoodIn wsX5_mayBeNewName wsX7_hasName := goodIn_r _ [16, 17, 18, 19, 20, 21, 15, 22, 23, 24, 35, 36, 37, 38, 39, 40, 41, 42, 43, 44, 45, 46, 47, 48, 49, 50, 51, 52, 53, 54, 55, 56, 57] (by decide +kernel) (by decide +kernel)
set_option maxRecDepth 20000 in
theorem gX5_mayBeNewName_X7_hasName : GoodIn wsX5_mayBeNewName (wsV RX5 76 RX7 yX7_hasName wsX7_hasName) := goodIn_app (goodIn_of _ (by decide +kernel)) ggX5_mayBeNewName_X7_hasName
theorem dX5_mayBeNewName_0 : decode cX5_mayBeNewName 0 = .ok (.aload_n 0, 1) := by decide +kernel
theorem dX5_mayBeNewName_1 : decode cX5_mayBeNewName 1 = .ok (.invokevirtual 68, 3) := by decide +kernel
theorem dX5_mayBeNewName_4 : decode cX5_mayBeNewName 4 = .ok (.ifCond .ne 9, 3) := by decide +kernel
