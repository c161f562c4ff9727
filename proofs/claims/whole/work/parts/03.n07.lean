theorem dX11_rule_90 : decode cX11_rule 90 = .ok (.iinc 4 1, 3) := by decide +kernel
theorem dX11_rule_93 : decode cX11_rule 93 = .ok (.goto (-31), 3) := by decide +kernel
theorem dX11_rule_96 : decode cX11_rule 96 = .ok (.iload_n 3, 1) := by decide +kernel
theorem dX11_rule_97 : decode cX11_rule 97 = .ok (.ireturn, 1) := by decide +kernel
set_option maxRecDepth 20000 in
theorem ggX11_months_X11_drawMonths : GoodIn wsX11_months wsX11_drawMonths := goodIn_r _ [8, 9, 10, 11, 12, 13, 3, 14, 15, 16, 17, 18, 19, 20, 21, 22, 23, 24, 25, 26, 27, 28, 29, 30, 31, 32, 33, 34, 35, 36, 37, 38, 39, 40, 41, 42, 43, 44, 45, 46, 47, 48, 49, 50, 51, 52, 53, 54, 55, 56, 57, 58, 59, 60, 61, 62, 63, 64, 65, 66, 67, 68, 69, 70, 71, 72, 73, 74, 75, 76, 77, 78, 79, 7, 80, 81, 82, 83, 84, 85, 86, 87, 88, 89, 90, 91, 92, 93, 94, 95, 96, 97, 98, 99, 100, 101, 102, 103, 104, 105, 106, 107, 108, 109, 110, 111, 112, 113, 114, 115, 116, 117, 118, 119, 120, 121, 122, 123, 124, 125, 126, 127, 128, 129, 130, 131, 132, 133, 134, 135, 136, 137, 138, 139, 140, 141, 142, 143, 144, 145, 146, 147, 148, 149, 150, 151, 152, 153, 154, 155, 156, 157, 158, 159, 160, 161, 162, 163, 164, 165, 166, 167, 168, 169, 170, 171, 172, 173, 174, 175, 176, 177, 178, 179, 180, 181, 182, 183, 184, 185, 186, 187, 188, 189, 190, 191, 192, 193, 194, 195, 196, 197, 198, 199, 200, 201, 202, 203, 204, 205, 206, 207, 208, 209, 210, 211, 212, 213, 214, 215] (by decide +kernel) (by decide +kernel)
set_option maxRecDepth 20000 in
theorem gX11_months_X11_drawMonths : GoodIn wsX11_months (wsV RX11 283 RX11 yX11_drawMonths wsX11_drawMonths) := goodIn_app (goodIn_of _ (by decide +kernel)) ggX11_months_X11_drawMonths
theorem dX11_months_0 : decode cX11_months 0 = .ok (.iload_n 1, 1) := by decide +kernel
theorem dX11_months_1 : decode cX11_months 1 = .ok (.ifCond .lt 30, 3) := by decide +kernel
theorem dX11_months_4 : decode cX11_months 4 = .ok (.iload_n 1, 1) := by decide +kernel
theorem dX11_months_5 : decode cX11_months 5 = .ok (.sipush 9999, 3) := by decide +kernel
theorem dX11_months_8 : decode cX11_months 8 = .ok (.if_icmp .gt 23, 3) := by decide +kernel
theorem dX11_months_11 : decode cX11_months 11 = .ok (.iload_n 2, 1) := by decide +kernel
theorem dX11_months_12 : decode cX11_months 12 = .ok (.iconst 1, 1) := by decide +kernel
theorem dX11_months_13 : decode cX11_months 13 = .ok (.if_icmp .lt 18, 3) := by decide +kernel
theorem dX11_months_16 : decode cX11_months 16 = .ok (.iload_n 2, 1) := by decide +kernel
theorem dX11_months_17 : decode cX11_months 17 = .ok (.bipush 60, 2) := by decide +kernel
theorem dX11_months_19 : decode cX11_months 19 = .ok (.if_icmp .gt 12, 3) := by decide +kernel
theorem dX11_months_22 : decode cX11_months 22 = .ok (.iload_n 3, 1) := by decide +kernel
theorem dX11_months_23 : decode cX11_months 23 = .ok (.ifCond .lt 8, 3) := by decide +kernel
theorem dX11_months_26 : decode cX11_months 26 = .ok (.iload_n 3, 1) := by decide +kernel
theorem dX11_months_27 : decode cX11_months 27 = .ok (.iconst 2, 1) := by decide +kernel
theorem dX11_months_28 : decode cX11_months 28 = .ok (.if_icmp .le 11, 3) := by decide +kernel
theorem dX11_months_31 : decode cX11_months 31 = .ok (.new 217, 3) := by decide +kernel
theorem dX11_months_34 : decode cX11_months 34 = .ok (.dup, 1) := by decide +kernel
theorem dX11_months_35 : decode cX11_months 35 = .ok (.invokespecial 219, 3) := by decide +kernel
theorem dX11_months_38 : decode cX11_months 38 = .ok (.athrow, 1) := by decide +kernel
theorem dX11_months_39 : decode cX11_months 39 = .ok (.aload_n 0, 1) := by decide +kernel
theorem dX11_months_40 : decode cX11_months 40 = .ok (.iload_n 1, 1) := by decide +kernel
theorem dX11_months_41 : decode cX11_months 41 = .ok (.iload_n 2, 1) := by decide +kernel
theorem dX11_months_42 : decode cX11_months 42 = .ok (.invokevirtual 283, 3) := by decide +kernel
theorem dX11_months_45 : decode cX11_months 45 = .ok (.aload_n 0, 1) := by decide +kernel
theorem dX11_months_46 : decode cX11_months 46 = .ok (.getfield 89, 3) := by decide +kernel
theorem dX11_months_49 : decode cX11_months 49 = .ok (.iload_n 3, 1) := by decide +kernel
theorem dX11_months_50 : decode cX11_months 50 = .ok (.iaload, 1) := by decide +kernel
theorem dX11_months_51 : decode cX11_months 51 = .ok (.ireturn, 1) := by decide +kernel
set_option maxRecDepth 20000 in
theorem ggX11_mark_X3_lay : GoodIn wsX11_mark wsX3_lay := goodIn_r _ [10, 11, 12, 13, 14, 15, 16, 17, 18, 19, 20, 21, 22, 23, 24, 25, 26, 27, 28, 29, 30, 31, 32, 33, 34, 35, 36, 37, 38, 39, 40, 41, 42, 64, 65, 66, 67, 68, 69, 70, 71, 72, 73, 74, 75, 76, 77, 78, 79, 80] (by decide +kernel) (by decide +kernel)
set_option maxRecDepth 20000 in
theorem gX11_mark_X3_lay : GoodIn wsX11_mark (wsV RX11 287 RX3 yX3_lay wsX3_lay) := goodIn_app (goodIn_of _ (by decide +kernel)) ggX11_mark_X3_lay
set_option maxRecDepth 20000 in
theorem ggX11_mark_X3_bringBack : GoodIn wsX11_mark wsX3_bringBack := goodIn_r _ [46, 11, 12, 13, 15, 16, 17, 18, 19, 20, 21, 22, 23, 24, 25, 26, 27, 28, 29, 30, 31, 32, 33, 34, 35, 36, 37, 38, 39, 40, 41, 42, 64, 65, 66, 67, 68, 69, 70, 71, 72, 73, 74, 75, 76, 77, 78, 79, 80] (by decide +kernel) (by decide +kernel)
set_option maxRecDepth 20000 in
theorem gX11_mark_X3_bringBack : GoodIn wsX11_mark (wsV RX11 295 RX3 yX3_bringBack wsX3_bringBack) := goodIn_app (goodIn_of _ (by decide +kernel)) ggX11_mark_X3_bringBack
theorem dX11_mark_0 : decode cX11_mark 0 = .ok (.iload_n 1, 1) := by decide +kernel
theorem dX11_mark_1 : decode cX11_mark 1 = .ok (.ifCond .lt 8, 3) := by decide +kernel
theorem dX11_mark_4 : decode cX11_mark 4 = .ok (.iload_n 1, 1) := by decide +kernel
theorem dX11_mark_5 : decode cX11_mark 5 = .ok (.iconst 4, 1) := by decide +kernel
theorem dX11_mark_6 : decode cX11_mark 6 = .ok (.if_icmp .lt 5, 3) := by decide +kernel
theorem dX11_mark_9 : decode cX11_mark 9 = .ok (.iconst 0, 1) := by decide +kernel
theorem dX11_mark_10 : decode cX11_mark 10 = .ok (.ireturn, 1) := by decide +kernel
theorem dX11_mark_11 : decode cX11_mark 11 = .ok (.aload_n 0, 1) := by decide +kernel
theorem dX11_mark_12 : decode cX11_mark 12 = .ok (.getfield 80, 3) := by decide +kernel
theorem dX11_mark_15 : decode cX11_mark 15 = .ok (.iload_n 1, 1) := by decide +kernel
theorem dX11_mark_16 : decode cX11_mark 16 = .ok (.aaload, 1) := by decide +kernel
theorem dX11_mark_17 : decode cX11_mark 17 = .ok (.astore_n 3, 1) := by decide +kernel
theorem dX11_mark_18 : decode cX11_mark 18 = .ok (.iload_n 2, 1) := by decide +kernel
theorem dX11_mark_19 : decode cX11_mark 19 = .ok (.ifCond .ne 21, 3) := by decide +kernel
theorem dX11_mark_22 : decode cX11_mark 22 = .ok (.aload_n 3, 1) := by decide +kernel
theorem dX11_mark_23 : decode cX11_mark 23 = .ok (.aload_n 0, 1) := by decide +kernel
theorem dX11_mark_24 : decode cX11_mark 24 = .ok (.getfield 38, 3) := by decide +kernel
theorem dX11_mark_27 : decode cX11_mark 27 = .ok (.aload_n 0, 1) := by decide +kernel
theorem dX11_mark_28 : decode cX11_mark 28 = .ok (.getfield 48, 3) := by decide +kernel
theorem dX11_mark_31 : decode cX11_mark 31 = .ok (.aload_n 0, 1) := by decide +kernel
theorem dX11_mark_32 : decode cX11_mark 32 = .ok (.getfield 58, 3) := by decide +kernel
theorem dX11_mark_35 : decode cX11_mark 35 = .ok (.invokevirtual 287, 3) := by decide +kernel
theorem dX11_mark_38 : decode cX11_mark 38 = .ok (.iconst 1, 1) := by decide +kernel
theorem dX11_mark_39 : decode cX11_mark 39 = .ok (.ireturn, 1) := by decide +kernel
theorem dX11_mark_40 : decode cX11_mark 40 = .ok (.aload_n 3, 1) := by decide +kernel
theorem dX11_mark_41 : decode cX11_mark 41 = .ok (.getfield 291, 3) := by decide +kernel
theorem dX11_mark_44 : decode cX11_mark 44 = .ok (.ifCond .ne 5, 3) := by decide +kernel
theorem dX11_mark_47 : decode cX11_mark 47 = .ok (.iconst 0, 1) := by decide +kernel
theorem dX11_mark_48 : decode cX11_mark 48 = .ok (.ireturn, 1) := by decide +kernel
theorem dX11_mark_49 : decode cX11_mark 49 = .ok (.aload_n 3, 1) := by decide +kernel
theorem dX11_mark_50 : decode cX11_mark 50 = .ok (.aload_n 0, 1) := by decide +kernel
theorem dX11_mark_51 : decode cX11_mark 51 = .ok (.getfield 38, 3) := by decide +kernel
theorem dX11_mark_54 : decode cX11_mark 54 = .ok (.aload_n 0, 1) := by decide +kernel
theorem dX11_mark_55 : decode cX11_mark 55 = .ok (.getfield 48, 3) := by decide +kernel
theorem dX11_mark_58 : decode cX11_mark 58 = .ok (.aload_n 0, 1) := by decide +kernel
theorem dX11_mark_59 : decode cX11_mark 59 = .ok (.getfield 58, 3) := by decide +kernel
theorem dX11_mark_62 : decode cX11_mark 62 = .ok (.invokevirtual 295, 3) := by decide +kernel
theorem dX11_mark_65 : decode cX11_mark 65 = .ok (.aload_n 0, 1) := by decide +kernel
theorem dX11_mark_66 : decode cX11_mark 66 = .ok (.iconst 0, 1) := by decide +kernel
theorem dX11_mark_67 : decode cX11_mark 67 = .ok (.putfield 208, 3) := by decide +kernel
theorem dX11_mark_70 : decode cX11_mark 70 = .ok (.iconst 1, 1) := by decide +kernel
theorem dX11_mark_71 : decode cX11_mark 71 = .ok (.ireturn, 1) := by decide +kernel
set_option maxRecDepth 20000 in
theorem ggX11_count_X6_goneKeys : GoodIn wsX11_count wsX6_goneKeys := goodIn_r _ [11, 12, 44, 45, 46, 47, 48, 49] (by decide +kernel) (by decide +kernel)
set_option maxRecDepth 20000 in
theorem gX11_count_X6_goneKeys : GoodIn wsX11_count (wsV RX11 304 RX6 yX6_goneKeys wsX6_goneKeys) := goodIn_app (goodIn_of _ (by decide +kernel)) ggX11_count_X6_goneKeys
theorem dX11_count_0 : decode cX11_count 0 = .ok (.iload_n 1, 1) := by decide +kernel
theorem dX11_count_1 : decode cX11_count 1 = .ok (.tableswitch 180 0 13 #[71, 79, 87, 95, 103, 111, 119, 127, 135, 143, 151, 159, 167, 172], 71) := by decide +kernel
theorem dX11_count_72 : decode cX11_count 72 = .ok (.aload_n 0, 1) := by decide +kernel
theorem dX11_count_73 : decode cX11_count 73 = .ok (.getfield 28, 3) := by decide +kernel
theorem dX11_count_76 : decode cX11_count 76 = .ok (.getfield 148, 3) := by decide +kernel
theorem dX11_count_79 : decode cX11_count 79 = .ok (.ireturn, 1) := by decide +kernel
theorem dX11_count_80 : decode cX11_count 80 = .ok (.aload_n 0, 1) := by decide +kernel
theorem dX11_count_81 : decode cX11_count 81 = .ok (.getfield 28, 3) := by decide +kernel
theorem dX11_count_84 : decode cX11_count 84 = .ok (.getfield 173, 3) := by decide +kernel
theorem dX11_count_87 : decode cX11_count 87 = .ok (.ireturn, 1) := by decide +kernel
theorem dX11_count_88 : decode cX11_count 88 = .ok (.aload_n 0, 1) := by decide +kernel
theorem dX11_count_89 : decode cX11_count 89 = .ok (.getfield 28, 3) := by decide +kernel
theorem dX11_count_92 : decode cX11_count 92 = .ok (.getfield 298, 3) := by decide +kernel
theorem dX11_count_95 : decode cX11_count 95 = .ok (.ireturn, 1) := by decide +kernel
theorem dX11_count_96 : decode cX11_count 96 = .ok (.aload_n 0, 1) := by decide +kernel
theorem dX11_count_97 : decode cX11_count 97 = .ok (.getfield 38, 3) := by decide +kernel
theorem dX11_count_100 : decode cX11_count 100 = .ok (.getfield 138, 3) := by decide +kernel
theorem dX11_count_103 : decode cX11_count 103 = .ok (.ireturn, 1) := by decide +kernel
theorem dX11_count_104 : decode cX11_count 104 = .ok (.aload_n 0, 1) := by decide +kernel
theorem dX11_count_105 : decode cX11_count 105 = .ok (.getfield 38, 3) := by decide +kernel
theorem dX11_count_108 : decode cX11_count 108 = .ok (.getfield 202, 3) := by decide +kernel
theorem dX11_count_111 : decode cX11_count 111 = .ok (.ireturn, 1) := by decide +kernel
theorem dX11_count_112 : decode cX11_count 112 = .ok (.aload_n 0, 1) := by decide +kernel
theorem dX11_count_113 : decode cX11_count 113 = .ok (.getfield 38, 3) := by decide +kernel
theorem dX11_count_116 : decode cX11_count 116 = .ok (.getfield 205, 3) := by decide +kernel
theorem dX11_count_119 : decode cX11_count 119 = .ok (.ireturn, 1) := by decide +kernel
theorem dX11_count_120 : decode cX11_count 120 = .ok (.aload_n 0, 1) := by decide +kernel
theorem dX11_count_121 : decode cX11_count 121 = .ok (.getfield 28, 3) := by decide +kernel
theorem dX11_count_124 : decode cX11_count 124 = .ok (.getfield 193, 3) := by decide +kernel
theorem dX11_count_127 : decode cX11_count 127 = .ok (.ireturn, 1) := by decide +kernel
theorem dX11_count_128 : decode cX11_count 128 = .ok (.aload_n 0, 1) := by decide +kernel
theorem dX11_count_129 : decode cX11_count 129 = .ok (.getfield 38, 3) := by decide +kernel
theorem dX11_count_132 : decode cX11_count 132 = .ok (.getfield 187, 3) := by decide +kernel
theorem dX11_count_135 : decode cX11_count 135 = .ok (.ireturn, 1) := by decide +kernel
theorem dX11_count_136 : decode cX11_count 136 = .ok (.aload_n 0, 1) := by decide +kernel
theorem dX11_count_137 : decode cX11_count 137 = .ok (.getfield 38, 3) := by decide +kernel
theorem dX11_count_140 : decode cX11_count 140 = .ok (.getfield 301, 3) := by decide +kernel
theorem dX11_count_143 : decode cX11_count 143 = .ok (.ireturn, 1) := by decide +kernel
theorem dX11_count_144 : decode cX11_count 144 = .ok (.aload_n 0, 1) := by decide +kernel
theorem dX11_count_145 : decode cX11_count 145 = .ok (.getfield 38, 3) := by decide +kernel
theorem dX11_count_148 : decode cX11_count 148 = .ok (.invokevirtual 304, 3) := by decide +kernel
theorem dX11_count_151 : decode cX11_count 151 = .ok (.ireturn, 1) := by decide +kernel
theorem dX11_count_152 : decode cX11_count 152 = .ok (.aload_n 0, 1) := by decide +kernel
theorem dX11_count_153 : decode cX11_count 153 = .ok (.getfield 48, 3) := by decide +kernel
theorem dX11_count_156 : decode cX11_count 156 = .ok (.getfield 308, 3) := by decide +kernel
theorem dX11_count_159 : decode cX11_count 159 = .ok (.ireturn, 1) := by decide +kernel
theorem dX11_count_160 : decode cX11_count 160 = .ok (.aload_n 0, 1) := by decide +kernel
theorem dX11_count_161 : decode cX11_count 161 = .ok (.getfield 58, 3) := by decide +kernel
theorem dX11_count_164 : decode cX11_count 164 = .ok (.getfield 309, 3) := by decide +kernel
theorem dX11_count_167 : decode cX11_count 167 = .ok (.ireturn, 1) := by decide +kernel
theorem dX11_count_168 : decode cX11_count 168 = .ok (.aload_n 0, 1) := by decide +kernel
theorem dX11_count_169 : decode cX11_count 169 = .ok (.getfield 208, 3) := by decide +kernel
theorem dX11_count_172 : decode cX11_count 172 = .ok (.ireturn, 1) := by decide +kernel
theorem dX11_count_173 : decode cX11_count 173 = .ok (.aload_n 0, 1) := by decide +kernel
theorem dX11_count_174 : decode cX11_count 174 = .ok (.getfield 12, 3) := by decide +kernel
theorem dX11_count_177 : decode cX11_count 177 = .ok (.getfield 97, 3) := by decide +kernel
theorem dX11_count_180 : decode cX11_count 180 = .ok (.ireturn, 1) := by decide +kernel
theorem dX11_count_181 : decode cX11_count 181 = .ok (.iconst (-1), 1) := by decide +kernel
theorem dX11_count_182 : decode cX11_count 182 = .ok (.ireturn, 1) := by decide +kernel
set_option maxRecDepth 20000 in
theorem ggX11_feedBytes_X9_add : GoodIn wsX11_feedBytes wsX9_add := goodIn_r _ [6, 7, 8, 26, 27, 28, 29, 30, 31, 32] (by decide +kernel) (by decide +kernel)
set_option maxRecDepth 20000 in
theorem gX11_feedBytes_X9_add : GoodIn wsX11_feedBytes (wsV RX11 310 RX9 yX9_add wsX9_add) := goodIn_app (goodIn_of _ (by decide +kernel)) ggX11_feedBytes_X9_add
theorem dX11_feedBytes_0 : decode cX11_feedBytes 0 = .ok (.bipush 56, 2) := by decide +kernel
theorem dX11_feedBytes_2 : decode cX11_feedBytes 2 = .ok (.istore_n 3, 1) := by decide +kernel
theorem dX11_feedBytes_3 : decode cX11_feedBytes 3 = .ok (.iload_n 3, 1) := by decide +kernel
theorem dX11_feedBytes_4 : decode cX11_feedBytes 4 = .ok (.ifCond .lt 24, 3) := by decide +kernel
theorem dX11_feedBytes_7 : decode cX11_feedBytes 7 = .ok (.aload_n 0, 1) := by decide +kernel
theorem dX11_feedBytes_8 : decode cX11_feedBytes 8 = .ok (.getfield 12, 3) := by decide +kernel
theorem dX11_feedBytes_11 : decode cX11_feedBytes 11 = .ok (.lload_n 1, 1) := by decide +kernel
theorem dX11_feedBytes_12 : decode cX11_feedBytes 12 = .ok (.iload_n 3, 1) := by decide +kernel
theorem dX11_feedBytes_13 : decode cX11_feedBytes 13 = .ok (.lushr, 1) := by decide +kernel
theorem dX11_feedBytes_14 : decode cX11_feedBytes 14 = .ok (.l2i, 1) := by decide +kernel
theorem dX11_feedBytes_15 : decode cX11_feedBytes 15 = .ok (.sipush 255, 3) := by decide +kernel
theorem dX11_feedBytes_18 : decode cX11_feedBytes 18 = .ok (.iand, 1) := by decide +kernel
theorem dX11_feedBytes_19 : decode cX11_feedBytes 19 = .ok (.invokevirtual 310, 3) := by decide +kernel
theorem dX11_feedBytes_22 : decode cX11_feedBytes 22 = .ok (.iinc 3 (-8), 3) := by decide +kernel
theorem dX11_feedBytes_25 : decode cX11_feedBytes 25 = .ok (.goto (-22), 3) := by decide +kernel
theorem dX11_feedBytes_28 : decode cX11_feedBytes 28 = .ok (.return_, 1) := by decide +kernel
set_option maxRecDepth 20000 in
theorem ggX11_beginStation_X6_begin : GoodIn wsX11_beginStation wsX6_begin := goodIn_r _ [11, 12, 13, 14, 15, 16, 17, 46, 47, 48, 49, 50, 51, 52, 53, 54, 55, 56, 57, 58, 59, 60, 61, 62, 63, 64, 65] (by decide +kernel) (by decide +kernel)
set_option maxRecDepth 20000 in
theorem gX11_beginStation_X6_begin : GoodIn wsX11_beginStation (wsV RX11 312 RX6 yX6_begin wsX6_begin) := goodIn_app (goodIn_of _ (by decide +kernel)) ggX11_beginStation_X6_begin
theorem dX11_beginStation_0 : decode cX11_beginStation 0 = .ok (.aload_n 0, 1) := by decide +kernel
theorem dX11_beginStation_1 : decode cX11_beginStation 1 = .ok (.getfield 38, 3) := by decide +kernel
theorem dX11_beginStation_4 : decode cX11_beginStation 4 = .ok (.aload_n 0, 1) := by decide +kernel
theorem dX11_beginStation_5 : decode cX11_beginStation 5 = .ok (.getfield 28, 3) := by decide +kernel
theorem dX11_beginStation_8 : decode cX11_beginStation 8 = .ok (.invokevirtual 312, 3) := by decide +kernel
theorem dX11_beginStation_11 : decode cX11_beginStation 11 = .ok (.aload_n 0, 1) := by decide +kernel
theorem dX11_beginStation_12 : decode cX11_beginStation 12 = .ok (.getfield 48, 3) := by decide +kernel
theorem dX11_beginStation_15 : decode cX11_beginStation 15 = .ok (.iconst 0, 1) := by decide +kernel
theorem dX11_beginStation_16 : decode cX11_beginStation 16 = .ok (.putfield 308, 3) := by decide +kernel
theorem dX11_beginStation_19 : decode cX11_beginStation 19 = .ok (.aload_n 0, 1) := by decide +kernel
theorem dX11_beginStation_20 : decode cX11_beginStation 20 = .ok (.getfield 58, 3) := by decide +kernel
theorem dX11_beginStation_23 : decode cX11_beginStation 23 = .ok (.iconst 0, 1) := by decide +kernel
theorem dX11_beginStation_24 : decode cX11_beginStation 24 = .ok (.putfield 309, 3) := by decide +kernel
theorem dX11_beginStation_27 : decode cX11_beginStation 27 = .ok (.aload_n 0, 1) := by decide +kernel
theorem dX11_beginStation_28 : decode cX11_beginStation 28 = .ok (.iconst 0, 1) := by decide +kernel
theorem dX11_beginStation_29 : decode cX11_beginStation 29 = .ok (.putfield 208, 3) := by decide +kernel
theorem dX11_beginStation_32 : decode cX11_beginStation 32 = .ok (.iconst 0, 1) := by decide +kernel
theorem dX11_beginStation_33 : decode cX11_beginStation 33 = .ok (.istore_n 1, 1) := by decide +kernel
theorem dX11_beginStation_34 : decode cX11_beginStation 34 = .ok (.iload_n 1, 1) := by decide +kernel
theorem dX11_beginStation_35 : decode cX11_beginStation 35 = .ok (.iconst 4, 1) := by decide +kernel
theorem dX11_beginStation_36 : decode cX11_beginStation 36 = .ok (.if_icmp .ge 19, 3) := by decide +kernel
theorem dX11_beginStation_39 : decode cX11_beginStation 39 = .ok (.aload_n 0, 1) := by decide +kernel
theorem dX11_beginStation_40 : decode cX11_beginStation 40 = .ok (.getfield 80, 3) := by decide +kernel
theorem dX11_beginStation_43 : decode cX11_beginStation 43 = .ok (.iload_n 1, 1) := by decide +kernel
theorem dX11_beginStation_44 : decode cX11_beginStation 44 = .ok (.aaload, 1) := by decide +kernel
theorem dX11_beginStation_45 : decode cX11_beginStation 45 = .ok (.iconst 0, 1) := by decide +kernel
theorem dX11_beginStation_46 : decode cX11_beginStation 46 = .ok (.putfield 291, 3) := by decide +kernel
theorem dX11_beginStation_49 : decode cX11_beginStation 49 = .ok (.iinc 1 1, 3) := by decide +kernel
theorem dX11_beginStation_52 : decode cX11_beginStation 52 = .ok (.goto (-18), 3) := by decide +kernel
theorem dX11_beginStation_55 : decode cX11_beginStation 55 = .ok (.return_, 1) := by decide +kernel
theorem dX11_isPasser_0 : decode cX11_isPasser 0 = .ok (.iload_n 1, 1) := by decide +kernel
theorem dX11_isPasser_1 : decode cX11_isPasser 1 = .ok (.ifCond .lt 24, 3) := by decide +kernel
theorem dX11_isPasser_4 : decode cX11_isPasser 4 = .ok (.iload_n 1, 1) := by decide +kernel
theorem dX11_isPasser_5 : decode cX11_isPasser 5 = .ok (.aload_n 0, 1) := by decide +kernel
theorem dX11_isPasser_6 : decode cX11_isPasser 6 = .ok (.getfield 28, 3) := by decide +kernel
theorem dX11_isPasser_9 : decode cX11_isPasser 9 = .ok (.getfield 173, 3) := by decide +kernel
theorem dX11_isPasser_12 : decode cX11_isPasser 12 = .ok (.if_icmp .ge 13, 3) := by decide +kernel
theorem dX11_isPasser_15 : decode cX11_isPasser 15 = .ok (.iload_n 1, 1) := by decide +kernel
theorem dX11_isPasser_16 : decode cX11_isPasser 16 = .ok (.bipush 7, 2) := by decide +kernel
theorem dX11_isPasser_18 : decode cX11_isPasser 18 = .ok (.if_icmp .ge 7, 3) := by decide +kernel
theorem dX11_isPasser_21 : decode cX11_isPasser 21 = .ok (.iconst 1, 1) := by decide +kernel
theorem dX11_isPasser_22 : decode cX11_isPasser 22 = .ok (.goto 4, 3) := by decide +kernel
theorem dX11_isPasser_25 : decode cX11_isPasser 25 = .ok (.iconst 0, 1) := by decide +kernel
theorem dX11_isPasser_26 : decode cX11_isPasser 26 = .ok (.ireturn, 1) := by decide +kernel
theorem dX11_isKey_0 : decode cX11_isKey 0 = .ok (.iload_n 0, 1) := by decide +kernel
theorem dX11_isKey_1 : decode cX11_isKey 1 = .ok (.ifCond .lt 13, 3) := by decide +kernel
theorem dX11_isKey_4 : decode cX11_isKey 4 = .ok (.iload_n 0, 1) := by decide +kernel
theorem dX11_isKey_5 : decode cX11_isKey 5 = .ok (.bipush 12, 2) := by decide +kernel
theorem dX11_isKey_7 : decode cX11_isKey 7 = .ok (.if_icmp .ge 7, 3) := by decide +kernel
theorem dX11_isKey_10 : decode cX11_isKey 10 = .ok (.iconst 1, 1) := by decide +kernel
theorem dX11_isKey_11 : decode cX11_isKey 11 = .ok (.goto 4, 3) := by decide +kernel
theorem dX11_isKey_14 : decode cX11_isKey 14 = .ok (.iconst 0, 1) := by decide +kernel
theorem dX11_isKey_15 : decode cX11_isKey 15 = .ok (.ireturn, 1) := by decide +kernel
theorem dX11_isEach_0 : decode cX11_isEach 0 = .ok (.iload_n 0, 1) := by decide +kernel
theorem dX11_isEach_1 : decode cX11_isEach 1 = .ok (.iconst 1, 1) := by decide +kernel
theorem dX11_isEach_2 : decode cX11_isEach 2 = .ok (.if_icmp .lt 13, 3) := by decide +kernel
theorem dX11_isEach_5 : decode cX11_isEach 5 = .ok (.iload_n 0, 1) := by decide +kernel
theorem dX11_isEach_6 : decode cX11_isEach 6 = .ok (.bipush 30, 2) := by decide +kernel
theorem dX11_isEach_8 : decode cX11_isEach 8 = .ok (.if_icmp .gt 7, 3) := by decide +kernel
theorem dX11_isEach_11 : decode cX11_isEach 11 = .ok (.iconst 1, 1) := by decide +kernel
theorem dX11_isEach_12 : decode cX11_isEach 12 = .ok (.goto 4, 3) := by decide +kernel
theorem dX11_isEach_15 : decode cX11_isEach 15 = .ok (.iconst 0, 1) := by decide +kernel
theorem dX11_isEach_16 : decode cX11_isEach 16 = .ok (.ireturn, 1) := by decide +kernel
theorem dX11_isDigit_0 : decode cX11_isDigit 0 = .ok (.iload_n 0, 1) := by decide +kernel
theorem dX11_isDigit_1 : decode cX11_isDigit 1 = .ok (.ifCond .lt 13, 3) := by decide +kernel
theorem dX11_isDigit_4 : decode cX11_isDigit 4 = .ok (.iload_n 0, 1) := by decide +kernel
theorem dX11_isDigit_5 : decode cX11_isDigit 5 = .ok (.bipush 9, 2) := by decide +kernel
theorem dX11_isDigit_7 : decode cX11_isDigit 7 = .ok (.if_icmp .gt 7, 3) := by decide +kernel
theorem dX11_isDigit_10 : decode cX11_isDigit 10 = .ok (.iconst 1, 1) := by decide +kernel
theorem dX11_isDigit_11 : decode cX11_isDigit 11 = .ok (.goto 4, 3) := by decide +kernel
theorem dX11_isDigit_14 : decode cX11_isDigit 14 = .ok (.iconst 0, 1) := by decide +kernel
theorem dX11_isDigit_15 : decode cX11_isDigit 15 = .ok (.ireturn, 1) := by decide +kernel
set_option maxRecDepth 20000 in
theorem ggX11_remember_X6_copyFrom : GoodIn wsX11_remember wsX6_copyFrom := goodIn_r _ [13, 14, 15, 16, 17, 18, 19, 37, 38, 39, 40, 41, 42] (by decide +kernel) (by decide +kernel)
set_option maxRecDepth 20000 in
theorem gX11_remember_X6_copyFrom : GoodIn wsX11_remember (wsV RX11 214 RX6 yX6_copyFrom wsX6_copyFrom) := goodIn_app (goodIn_of _ (by decide +kernel)) ggX11_remember_X6_copyFrom
theorem dX11_remember_0 : decode cX11_remember 0 = .ok (.aload_n 0, 1) := by decide +kernel
theorem dX11_remember_1 : decode cX11_remember 1 = .ok (.getfield 211, 3) := by decide +kernel
theorem dX11_remember_4 : decode cX11_remember 4 = .ok (.ifCond .lt 12, 3) := by decide +kernel
theorem dX11_remember_7 : decode cX11_remember 7 = .ok (.aload_n 0, 1) := by decide +kernel
theorem dX11_remember_8 : decode cX11_remember 8 = .ok (.getfield 211, 3) := by decide +kernel
theorem dX11_remember_11 : decode cX11_remember 11 = .ok (.bipush 16, 2) := by decide +kernel
theorem dX11_remember_13 : decode cX11_remember 13 = .ok (.if_icmp .lt 8, 3) := by decide +kernel
theorem dX11_remember_16 : decode cX11_remember 16 = .ok (.aload_n 0, 1) := by decide +kernel
theorem dX11_remember_17 : decode cX11_remember 17 = .ok (.iconst 0, 1) := by decide +kernel
theorem dX11_remember_18 : decode cX11_remember 18 = .ok (.putfield 211, 3) := by decide +kernel
theorem dX11_remember_21 : decode cX11_remember 21 = .ok (.aload_n 0, 1) := by decide +kernel
theorem dX11_remember_22 : decode cX11_remember 22 = .ok (.getfield 85, 3) := by decide +kernel
theorem dX11_remember_25 : decode cX11_remember 25 = .ok (.aload_n 0, 1) := by decide +kernel
theorem dX11_remember_26 : decode cX11_remember 26 = .ok (.getfield 211, 3) := by decide +kernel
theorem dX11_remember_29 : decode cX11_remember 29 = .ok (.aaload, 1) := by decide +kernel
theorem dX11_remember_30 : decode cX11_remember 30 = .ok (.aload_n 0, 1) := by decide +kernel
theorem dX11_remember_31 : decode cX11_remember 31 = .ok (.getfield 38, 3) := by decide +kernel
theorem dX11_remember_34 : decode cX11_remember 34 = .ok (.invokevirtual 214, 3) := by decide +kernel
theorem dX11_remember_37 : decode cX11_remember 37 = .ok (.aload_n 0, 1) := by decide +kernel
theorem dX11_remember_38 : decode cX11_remember 38 = .ok (.aload_n 0, 1) := by decide +kernel
theorem dX11_remember_39 : decode cX11_remember 39 = .ok (.getfield 211, 3) := by decide +kernel
theorem dX11_remember_42 : decode cX11_remember 42 = .ok (.iconst 1, 1) := by decide +kernel
theorem dX11_remember_43 : decode cX11_remember 43 = .ok (.iadd, 1) := by decide +kernel
theorem dX11_remember_44 : decode cX11_remember 44 = .ok (.bipush 16, 2) := by decide +kernel
theorem dX11_remember_46 : decode cX11_remember 46 = .ok (.if_icmp .ge 12, 3) := by decide +kernel
theorem dX11_remember_49 : decode cX11_remember 49 = .ok (.aload_n 0, 1) := by decide +kernel
theorem dX11_remember_50 : decode cX11_remember 50 = .ok (.getfield 211, 3) := by decide +kernel
theorem dX11_remember_53 : decode cX11_remember 53 = .ok (.iconst 1, 1) := by decide +kernel
theorem dX11_remember_54 : decode cX11_remember 54 = .ok (.iadd, 1) := by decide +kernel
theorem dX11_remember_55 : decode cX11_remember 55 = .ok (.goto 4, 3) := by decide +kernel
theorem dX11_remember_58 : decode cX11_remember 58 = .ok (.iconst 0, 1) := by decide +kernel
theorem dX11_remember_59 : decode cX11_remember 59 = .ok (.putfield 211, 3) := by decide +kernel
theorem dX11_remember_62 : decode cX11_remember 62 = .ok (.aload_n 0, 1) := by decide +kernel
theorem dX11_remember_63 : decode cX11_remember 63 = .ok (.bipush 16, 2) := by decide +kernel
theorem dX11_remember_65 : decode cX11_remember 65 = .ok (.aload_n 0, 1) := by decide +kernel
theorem dX11_remember_66 : decode cX11_remember 66 = .ok (.getfield 208, 3) := by decide +kernel
theorem dX11_remember_69 : decode cX11_remember 69 = .ok (.iconst 1, 1) := by decide +kernel
theorem dX11_remember_70 : decode cX11_remember 70 = .ok (.iadd, 1) := by decide +kernel
theorem dX11_remember_71 : decode cX11_remember 71 = .ok (.invokestatic 230, 3) := by decide +kernel
theorem dX11_remember_74 : decode cX11_remember 74 = .ok (.putfield 208, 3) := by decide +kernel
theorem dX11_remember_77 : decode cX11_remember 77 = .ok (.return_, 1) := by decide +kernel
set_option maxRecDepth 20000 in
theorem ggX11_tryDay_X6_copyFrom : GoodIn wsX11_tryDay wsX6_copyFrom := goodIn_r _ [9, 10, 11, 12, 13, 14, 15, 142, 143, 144, 145, 146, 147] (by decide +kernel) (by decide +kernel)
set_option maxRecDepth 20000 in
theorem gX11_tryDay_X6_copyFrom : GoodIn wsX11_tryDay (wsV RX11 214 RX6 yX6_copyFrom wsX6_copyFrom) := goodIn_app (goodIn_of _ (by decide +kernel)) ggX11_tryDay_X6_copyFrom
set_option maxRecDepth 20000 in
theorem ggX11_tryDay_X1_prepare : GoodIn wsX11_tryDay wsX1_prepare := goodIn_r _ [20, 21, 22, 23, 24, 25, 26, 27, 28, 29, 30, 31, 32, 33, 34, 35, 36, 37, 38, 39, 40, 41, 42, 43, 44, 45, 46, 47, 48, 49, 50, 51, 52, 53, 54, 55, 56, 57, 58, 59, 60, 61, 62, 63, 64, 65, 66, 67, 148, 149, 150, 151, 152, 153, 154, 155, 156, 157, 158, 159, 160, 161, 162, 163, 164, 165, 166, 167, 168, 169, 170, 171, 172, 173, 174, 175, 176, 177, 178, 179, 180, 181, 182, 183, 184, 185, 186, 187, 188, 189, 190] (by decide +kernel) (by decide +kernel)
set_option maxRecDepth 20000 in
theorem gX11_tryDay_X1_prepare : GoodIn wsX11_tryDay (wsV RX11 179 RX1 yX1_prepare wsX1_prepare) := goodIn_app (goodIn_of _ (by decide +kernel)) ggX11_tryDay_X1_prepare
set_option maxRecDepth 20000 in
theorem ggX11_tryDay_X1_pass : GoodIn wsX11_tryDay wsX1_pass := goodIn_r _ [71, 72, 73, 74, 75, 76, 77, 78, 79, 80, 81, 19, 82, 21, 22, 83, 84, 85, 86, 87, 88, 23, 89, 90, 91, 92, 93, 94, 95, 96, 97, 98, 99, 33, 100, 35, 101, 102, 103, 104, 105, 106, 46, 28, 47, 107, 108, 109, 110, 25, 111, 112, 113, 114, 24, 115, 116, 117, 118, 119, 120, 121, 122, 41, 123, 124, 44, 27, 29, 45, 48, 49, 50, 51, 52, 53, 54, 55, 56, 57, 58, 59, 60, 61, 62, 63, 64, 65, 66, 67, 148, 149, 150, 151, 152, 153, 154, 155, 156, 157, 158, 159, 160, 161, 162, 142, 143, 144, 145, 146, 147, 163, 164, 165, 166, 167, 168, 169, 170, 171, 172, 173, 174, 175, 176, 177, 178, 179, 180, 181, 182, 183, 184, 185, 186, 187, 188, 189, 190] (by decide +kernel) (by decide +kernel)
set_option maxRecDepth 20000 in
theorem gX11_tryDay_X1_pass : GoodIn wsX11_tryDay (wsV RX11 183 RX1 yX1_pass wsX1_pass) := goodIn_app (goodIn_of _ (by decide +kernel)) ggX11_tryDay_X1_pass
theorem dX11_tryDay_0 : decode cX11_tryDay 0 = .ok (.aload_n 0, 1) := by decide +kernel
theorem dX11_tryDay_1 : decode cX11_tryDay 1 = .ok (.getfield 42, 3) := by decide +kernel
theorem dX11_tryDay_4 : decode cX11_tryDay 4 = .ok (.aload_n 0, 1) := by decide +kernel
theorem dX11_tryDay_5 : decode cX11_tryDay 5 = .ok (.getfield 38, 3) := by decide +kernel
theorem dX11_tryDay_8 : decode cX11_tryDay 8 = .ok (.invokevirtual 214, 3) := by decide +kernel
theorem dX11_tryDay_11 : decode cX11_tryDay 11 = .ok (.aload_n 0, 1) := by decide +kernel
theorem dX11_tryDay_12 : decode cX11_tryDay 12 = .ok (.getfield 74, 3) := by decide +kernel
theorem dX11_tryDay_15 : decode cX11_tryDay 15 = .ok (.aload_n 0, 1) := by decide +kernel
theorem dX11_tryDay_16 : decode cX11_tryDay 16 = .ok (.getfield 28, 3) := by decide +kernel
theorem dX11_tryDay_19 : decode cX11_tryDay 19 = .ok (.aload_n 0, 1) := by decide +kernel
theorem dX11_tryDay_20 : decode cX11_tryDay 20 = .ok (.getfield 42, 3) := by decide +kernel
theorem dX11_tryDay_23 : decode cX11_tryDay 23 = .ok (.getfield 138, 3) := by decide +kernel
theorem dX11_tryDay_26 : decode cX11_tryDay 26 = .ok (.invokevirtual 179, 3) := by decide +kernel
theorem dX11_tryDay_29 : decode cX11_tryDay 29 = .ok (.aload_n 0, 1) := by decide +kernel
theorem dX11_tryDay_30 : decode cX11_tryDay 30 = .ok (.getfield 74, 3) := by decide +kernel
theorem dX11_tryDay_33 : decode cX11_tryDay 33 = .ok (.aload_n 0, 1) := by decide +kernel
theorem dX11_tryDay_34 : decode cX11_tryDay 34 = .ok (.getfield 42, 3) := by decide +kernel
theorem dX11_tryDay_37 : decode cX11_tryDay 37 = .ok (.iload_n 1, 1) := by decide +kernel
theorem dX11_tryDay_38 : decode cX11_tryDay 38 = .ok (.invokevirtual 183, 3) := by decide +kernel
theorem dX11_tryDay_41 : decode cX11_tryDay 41 = .ok (.aload_n 0, 1) := by decide +kernel
theorem dX11_tryDay_42 : decode cX11_tryDay 42 = .ok (.getfield 74, 3) := by decide +kernel
theorem dX11_tryDay_45 : decode cX11_tryDay 45 = .ok (.getfield 190, 3) := by decide +kernel
theorem dX11_tryDay_48 : decode cX11_tryDay 48 = .ok (.ireturn, 1) := by decide +kernel
set_option maxRecDepth 20000 in
theorem ggX11_judgeWeek_X6_begin : GoodIn wsX11_judgeWeek wsX6_begin := goodIn_r _ [10, 11, 12, 13, 14, 15, 16, 155, 156, 157, 158, 159, 160, 176, 177, 178, 179, 180, 181, 182, 183, 184, 185, 186, 187, 188, 189] (by decide +kernel) (by decide +kernel)
set_option maxRecDepth 20000 in
theorem gX11_judgeWeek_X6_begin : GoodIn wsX11_judgeWeek (wsV RX11 312 RX6 yX6_begin wsX6_begin) := goodIn_app (goodIn_of _ (by decide +kernel)) ggX11_judgeWeek_X6_begin
set_option maxRecDepth 20000 in
theorem ggX11_judgeWeek_X1_prepare : GoodIn wsX11_judgeWeek wsX1_prepare := goodIn_r _ [21, 22, 23, 24, 25, 26, 27, 28, 29, 30, 31, 32, 33, 34, 35, 36, 37, 38, 39, 40, 41, 42, 43, 44, 45, 46, 47, 48, 49, 50, 51, 52, 53, 54, 55, 56, 57, 58, 59, 60, 61, 62, 63, 64, 65, 66, 67, 68, 161, 162, 163, 164, 165, 166, 167, 168, 169, 170, 171, 172, 173, 174, 175, 176, 177, 178, 179, 180, 181, 182, 183, 184, 185, 186, 187, 188, 189, 190, 191, 192, 193, 194, 195, 196, 197, 198, 199, 200, 201, 202, 203] (by decide +kernel) (by decide +kernel)
set_option maxRecDepth 20000 in
theorem gX11_judgeWeek_X1_prepare : GoodIn wsX11_judgeWeek (wsV RX11 179 RX1 yX1_prepare wsX1_prepare) := goodIn_app (goodIn_of _ (by decide +kernel)) ggX11_judgeWeek_X1_prepare
set_option maxRecDepth 20000 in
theorem ggX11_judgeWeek_X1_pass : GoodIn wsX11_judgeWeek wsX1_pass := goodIn_r _ [72, 73, 74, 75, 76, 77, 78, 79, 80, 81, 82, 20, 83, 22, 23, 84, 85, 86, 87, 88, 89, 24, 90, 91, 92, 93, 94, 95, 96, 97, 98, 99, 100, 34, 101, 36, 102, 103, 104, 105, 106, 107, 47, 29, 48, 108, 109, 110, 111, 26, 112, 113, 114, 115, 25, 116, 117, 118, 119, 120, 121, 122, 123, 42, 124, 125, 45, 28, 30, 46, 49, 50, 51, 52, 53, 54, 55, 56, 57, 58, 59, 60, 61, 62, 63, 64, 65, 66, 67, 68, 161, 162, 163, 164, 165, 166, 167, 168, 169, 170, 171, 172, 173, 174, 175, 155, 156, 157, 158, 159, 160, 176, 177, 178, 179, 180, 181, 182, 183, 184, 185, 186, 187, 188, 189, 190, 191, 192, 193, 194, 195, 196, 197, 198, 199, 200, 201, 202, 203] (by decide +kernel) (by decide +kernel)
set_option maxRecDepth 20000 in
theorem gX11_judgeWeek_X1_pass : GoodIn wsX11_judgeWeek (wsV RX11 183 RX1 yX1_pass wsX1_pass) := goodIn_app (goodIn_of _ (by decide +kernel)) ggX11_judgeWeek_X1_pass
set_option maxRecDepth 20000 in
theorem ggX11_judgeWeek_X6_goneKeys : GoodIn wsX11_judgeWeek wsX6_goneKeys := goodIn_r _ [129, 11, 155, 156, 157, 158, 159, 160] (by decide +kernel) (by decide +kernel)
set_option maxRecDepth 20000 in
theorem gX11_judgeWeek_X6_goneKeys : GoodIn wsX11_judgeWeek (wsV RX11 304 RX6 yX6_goneKeys wsX6_goneKeys) := goodIn_app (goodIn_of _ (by decide +kernel)) ggX11_judgeWeek_X6_goneKeys
set_option maxRecDepth 20000 in
theorem ggX11_judgeWeek_X6_tuneUp : GoodIn wsX11_judgeWeek wsX6_tuneUp := goodIn_r _ [133, 11, 16, 155, 156, 157, 158, 159, 160] (by decide +kernel) (by decide +kernel)
set_option maxRecDepth 20000 in
theorem gX11_judgeWeek_X6_tuneUp : GoodIn wsX11_judgeWeek (wsV RX11 196 RX6 yX6_tuneUp wsX6_tuneUp) := goodIn_app (goodIn_of _ (by decide +kernel)) ggX11_judgeWeek_X6_tuneUp
theorem dX11_judgeWeek_0 : decode cX11_judgeWeek 0 = .ok (.iconst (-1), 1) := by decide +kernel
theorem dX11_judgeWeek_1 : decode cX11_judgeWeek 1 = .ok (.istore_n 1, 1) := by decide +kernel
theorem dX11_judgeWeek_2 : decode cX11_judgeWeek 2 = .ok (.iconst 0, 1) := by decide +kernel
theorem dX11_judgeWeek_3 : decode cX11_judgeWeek 3 = .ok (.istore_n 2, 1) := by decide +kernel
theorem dX11_judgeWeek_4 : decode cX11_judgeWeek 4 = .ok (.aload_n 0, 1) := by decide +kernel
theorem dX11_judgeWeek_5 : decode cX11_judgeWeek 5 = .ok (.getfield 42, 3) := by decide +kernel
theorem dX11_judgeWeek_8 : decode cX11_judgeWeek 8 = .ok (.aload_n 0, 1) := by decide +kernel
theorem dX11_judgeWeek_9 : decode cX11_judgeWeek 9 = .ok (.getfield 28, 3) := by decide +kernel
theorem dX11_judgeWeek_12 : decode cX11_judgeWeek 12 = .ok (.invokevirtual 312, 3) := by decide +kernel
theorem dX11_judgeWeek_15 : decode cX11_judgeWeek 15 = .ok (.iconst 0, 1) := by decide +kernel
theorem dX11_judgeWeek_16 : decode cX11_judgeWeek 16 = .ok (.istore_n 3, 1) := by decide +kernel
theorem dX11_judgeWeek_17 : decode cX11_judgeWeek 17 = .ok (.iload_n 3, 1) := by decide +kernel
theorem dX11_judgeWeek_18 : decode cX11_judgeWeek 18 = .ok (.aload_n 0, 1) := by decide +kernel
theorem dX11_judgeWeek_19 : decode cX11_judgeWeek 19 = .ok (.getfield 48, 3) := by decide +kernel
theorem dX11_judgeWeek_22 : decode cX11_judgeWeek 22 = .ok (.getfield 308, 3) := by decide +kernel
theorem dX11_judgeWeek_25 : decode cX11_judgeWeek 25 = .ok (.if_icmp .ge 190, 3) := by decide +kernel
theorem dX11_judgeWeek_28 : decode cX11_judgeWeek 28 = .ok (.iload_n 3, 1) := by decide +kernel
theorem dX11_judgeWeek_29 : decode cX11_judgeWeek 29 = .ok (.bipush 40, 2) := by decide +kernel
theorem dX11_judgeWeek_31 : decode cX11_judgeWeek 31 = .ok (.if_icmp .ge 184, 3) := by decide +kernel
theorem dX11_judgeWeek_34 : decode cX11_judgeWeek 34 = .ok (.aload_n 0, 1) := by decide +kernel
theorem dX11_judgeWeek_35 : decode cX11_judgeWeek 35 = .ok (.getfield 48, 3) := by decide +kernel
theorem dX11_judgeWeek_38 : decode cX11_judgeWeek 38 = .ok (.getfield 315, 3) := by decide +kernel
theorem dX11_judgeWeek_41 : decode cX11_judgeWeek 41 = .ok (.iload_n 3, 1) := by decide +kernel
theorem dX11_judgeWeek_42 : decode cX11_judgeWeek 42 = .ok (.iaload, 1) := by decide +kernel
theorem dX11_judgeWeek_43 : decode cX11_judgeWeek 43 = .ok (.lookupswitch 134 #[(8, 115), (14, 33), (15, 97)], 33) := by decide +kernel
theorem dX11_judgeWeek_76 : decode cX11_judgeWeek 76 = .ok (.aload_n 0, 1) := by decide +kernel
theorem dX11_judgeWeek_77 : decode cX11_judgeWeek 77 = .ok (.getfield 74, 3) := by decide +kernel
theorem dX11_judgeWeek_80 : decode cX11_judgeWeek 80 = .ok (.aload_n 0, 1) := by decide +kernel
theorem dX11_judgeWeek_81 : decode cX11_judgeWeek 81 = .ok (.getfield 28, 3) := by decide +kernel
theorem dX11_judgeWeek_84 : decode cX11_judgeWeek 84 = .ok (.aload_n 0, 1) := by decide +kernel
theorem dX11_judgeWeek_85 : decode cX11_judgeWeek 85 = .ok (.getfield 42, 3) := by decide +kernel
theorem dX11_judgeWeek_88 : decode cX11_judgeWeek 88 = .ok (.getfield 138, 3) := by decide +kernel
theorem dX11_judgeWeek_91 : decode cX11_judgeWeek 91 = .ok (.invokevirtual 179, 3) := by decide +kernel
theorem dX11_judgeWeek_94 : decode cX11_judgeWeek 94 = .ok (.aload_n 0, 1) := by decide +kernel
theorem dX11_judgeWeek_95 : decode cX11_judgeWeek 95 = .ok (.getfield 74, 3) := by decide +kernel
theorem dX11_judgeWeek_98 : decode cX11_judgeWeek 98 = .ok (.aload_n 0, 1) := by decide +kernel
theorem dX11_judgeWeek_99 : decode cX11_judgeWeek 99 = .ok (.getfield 42, 3) := by decide +kernel
theorem dX11_judgeWeek_102 : decode cX11_judgeWeek 102 = .ok (.iconst 0, 1) := by decide +kernel
theorem dX11_judgeWeek_103 : decode cX11_judgeWeek 103 = .ok (.invokevirtual 183, 3) := by decide +kernel
theorem dX11_judgeWeek_106 : decode cX11_judgeWeek 106 = .ok (.iload_n 2, 1) := by decide +kernel
theorem dX11_judgeWeek_107 : decode cX11_judgeWeek 107 = .ok (.aload_n 0, 1) := by decide +kernel
theorem dX11_judgeWeek_108 : decode cX11_judgeWeek 108 = .ok (.getfield 74, 3) := by decide +kernel
theorem dX11_judgeWeek_111 : decode cX11_judgeWeek 111 = .ok (.getfield 190, 3) := by decide +kernel
theorem dX11_judgeWeek_114 : decode cX11_judgeWeek 114 = .ok (.iadd, 1) := by decide +kernel
theorem dX11_judgeWeek_115 : decode cX11_judgeWeek 115 = .ok (.istore_n 2, 1) := by decide +kernel
theorem dX11_judgeWeek_116 : decode cX11_judgeWeek 116 = .ok (.iload_n 1, 1) := by decide +kernel
theorem dX11_judgeWeek_117 : decode cX11_judgeWeek 117 = .ok (.iconst (-1), 1) := by decide +kernel
theorem dX11_judgeWeek_118 : decode cX11_judgeWeek 118 = .ok (.if_icmp .ne 17, 3) := by decide +kernel
theorem dX11_judgeWeek_121 : decode cX11_judgeWeek 121 = .ok (.aload_n 0, 1) := by decide +kernel
theorem dX11_judgeWeek_122 : decode cX11_judgeWeek 122 = .ok (.getfield 42, 3) := by decide +kernel
theorem dX11_judgeWeek_125 : decode cX11_judgeWeek 125 = .ok (.invokevirtual 304, 3) := by decide +kernel
theorem dX11_judgeWeek_128 : decode cX11_judgeWeek 128 = .ok (.ifCond .eq 7, 3) := by decide +kernel
theorem dX11_judgeWeek_131 : decode cX11_judgeWeek 131 = .ok (.iload_n 3, 1) := by decide +kernel
theorem dX11_judgeWeek_132 : decode cX11_judgeWeek 132 = .ok (.goto 4, 3) := by decide +kernel
theorem dX11_judgeWeek_135 : decode cX11_judgeWeek 135 = .ok (.iload_n 1, 1) := by decide +kernel
theorem dX11_judgeWeek_136 : decode cX11_judgeWeek 136 = .ok (.istore_n 1, 1) := by decide +kernel
theorem dX11_judgeWeek_137 : decode cX11_judgeWeek 137 = .ok (.goto 72, 3) := by decide +kernel
theorem dX11_judgeWeek_140 : decode cX11_judgeWeek 140 = .ok (.aload_n 0, 1) := by decide +kernel
theorem dX11_judgeWeek_141 : decode cX11_judgeWeek 141 = .ok (.getfield 42, 3) := by decide +kernel
theorem dX11_judgeWeek_144 : decode cX11_judgeWeek 144 = .ok (.aload_n 0, 1) := by decide +kernel
theorem dX11_judgeWeek_145 : decode cX11_judgeWeek 145 = .ok (.getfield 28, 3) := by decide +kernel
theorem dX11_judgeWeek_148 : decode cX11_judgeWeek 148 = .ok (.getfield 193, 3) := by decide +kernel
theorem dX11_judgeWeek_151 : decode cX11_judgeWeek 151 = .ok (.invokevirtual 196, 3) := by decide +kernel
theorem dX11_judgeWeek_154 : decode cX11_judgeWeek 154 = .ok (.pop, 1) := by decide +kernel
theorem dX11_judgeWeek_155 : decode cX11_judgeWeek 155 = .ok (.goto 54, 3) := by decide +kernel
theorem dX11_judgeWeek_158 : decode cX11_judgeWeek 158 = .ok (.aload_n 0, 1) := by decide +kernel
theorem dX11_judgeWeek_159 : decode cX11_judgeWeek 159 = .ok (.getfield 42, 3) := by decide +kernel
theorem dX11_judgeWeek_162 : decode cX11_judgeWeek 162 = .ok (.aload_n 0, 1) := by decide +kernel
theorem dX11_judgeWeek_163 : decode cX11_judgeWeek 163 = .ok (.getfield 48, 3) := by decide +kernel
theorem dX11_judgeWeek_166 : decode cX11_judgeWeek 166 = .ok (.getfield 318, 3) := by decide +kernel
theorem dX11_judgeWeek_169 : decode cX11_judgeWeek 169 = .ok (.iload_n 3, 1) := by decide +kernel
theorem dX11_judgeWeek_170 : decode cX11_judgeWeek 170 = .ok (.iaload, 1) := by decide +kernel
theorem dX11_judgeWeek_171 : decode cX11_judgeWeek 171 = .ok (.putfield 138, 3) := by decide +kernel
theorem dX11_judgeWeek_174 : decode cX11_judgeWeek 174 = .ok (.goto 35, 3) := by decide +kernel
theorem dX11_judgeWeek_177 : decode cX11_judgeWeek 177 = .ok (.aload_n 0, 1) := by decide +kernel
theorem dX11_judgeWeek_178 : decode cX11_judgeWeek 178 = .ok (.getfield 42, 3) := by decide +kernel
theorem dX11_judgeWeek_181 : decode cX11_judgeWeek 181 = .ok (.aload_n 0, 1) := by decide +kernel
theorem dX11_judgeWeek_182 : decode cX11_judgeWeek 182 = .ok (.getfield 48, 3) := by decide +kernel
theorem dX11_judgeWeek_185 : decode cX11_judgeWeek 185 = .ok (.getfield 318, 3) := by decide +kernel
theorem dX11_judgeWeek_188 : decode cX11_judgeWeek 188 = .ok (.iload_n 3, 1) := by decide +kernel
theorem dX11_judgeWeek_189 : decode cX11_judgeWeek 189 = .ok (.iaload, 1) := by decide +kernel
theorem dX11_judgeWeek_190 : decode cX11_judgeWeek 190 = .ok (.putfield 202, 3) := by decide +kernel
theorem dX11_judgeWeek_193 : decode cX11_judgeWeek 193 = .ok (.aload_n 0, 1) := by decide +kernel
theorem dX11_judgeWeek_194 : decode cX11_judgeWeek 194 = .ok (.getfield 42, 3) := by decide +kernel
theorem dX11_judgeWeek_197 : decode cX11_judgeWeek 197 = .ok (.aload_n 0, 1) := by decide +kernel
theorem dX11_judgeWeek_198 : decode cX11_judgeWeek 198 = .ok (.getfield 48, 3) := by decide +kernel
theorem dX11_judgeWeek_201 : decode cX11_judgeWeek 201 = .ok (.getfield 321, 3) := by decide +kernel
theorem dX11_judgeWeek_204 : decode cX11_judgeWeek 204 = .ok (.iload_n 3, 1) := by decide +kernel
theorem dX11_judgeWeek_205 : decode cX11_judgeWeek 205 = .ok (.iaload, 1) := by decide +kernel
theorem dX11_judgeWeek_206 : decode cX11_judgeWeek 206 = .ok (.putfield 205, 3) := by decide +kernel
theorem dX11_judgeWeek_209 : decode cX11_judgeWeek 209 = .ok (.iinc 3 1, 3) := by decide +kernel
theorem dX11_judgeWeek_212 : decode cX11_judgeWeek 212 = .ok (.goto (-195), 3) := by decide +kernel
theorem dX11_judgeWeek_215 : decode cX11_judgeWeek 215 = .ok (.aload_n 0, 1) := by decide +kernel
theorem dX11_judgeWeek_216 : decode cX11_judgeWeek 216 = .ok (.getfield 89, 3) := by decide +kernel
theorem dX11_judgeWeek_219 : decode cX11_judgeWeek 219 = .ok (.iconst 0, 1) := by decide +kernel
theorem dX11_judgeWeek_220 : decode cX11_judgeWeek 220 = .ok (.iload_n 1, 1) := by decide +kernel
theorem dX11_judgeWeek_221 : decode cX11_judgeWeek 221 = .ok (.iastore, 1) := by decide +kernel
theorem dX11_judgeWeek_222 : decode cX11_judgeWeek 222 = .ok (.aload_n 0, 1) := by decide +kernel
theorem dX11_judgeWeek_223 : decode cX11_judgeWeek 223 = .ok (.getfield 89, 3) := by decide +kernel
theorem dX11_judgeWeek_226 : decode cX11_judgeWeek 226 = .ok (.iconst 1, 1) := by decide +kernel
theorem dX11_judgeWeek_227 : decode cX11_judgeWeek 227 = .ok (.iload_n 2, 1) := by decide +kernel
theorem dX11_judgeWeek_228 : decode cX11_judgeWeek 228 = .ok (.iastore, 1) := by decide +kernel
theorem dX11_judgeWeek_229 : decode cX11_judgeWeek 229 = .ok (.aload_n 0, 1) := by decide +kernel
theorem dX11_judgeWeek_230 : decode cX11_judgeWeek 230 = .ok (.getfield 89, 3) := by decide +kernel
theorem dX11_judgeWeek_233 : decode cX11_judgeWeek 233 = .ok (.iconst 2, 1) := by decide +kernel
theorem dX11_judgeWeek_234 : decode cX11_judgeWeek 234 = .ok (.aload_n 0, 1) := by decide +kernel
theorem dX11_judgeWeek_235 : decode cX11_judgeWeek 235 = .ok (.getfield 42, 3) := by decide +kernel
theorem dX11_judgeWeek_238 : decode cX11_judgeWeek 238 = .ok (.getfield 301, 3) := by decide +kernel
theorem dX11_judgeWeek_241 : decode cX11_judgeWeek 241 = .ok (.iastore, 1) := by decide +kernel
theorem dX11_judgeWeek_242 : decode cX11_judgeWeek 242 = .ok (.return_, 1) := by decide +kernel
set_option maxRecDepth 20000 in
theorem ggX11_searchEach_X6_copyFrom : GoodIn wsX11_searchEach wsX6_copyFrom := goodIn_r _ [10, 11, 12, 13, 14, 15, 16, 158, 159, 160, 161, 162, 163] (by decide +kernel) (by decide +kernel)
set_option maxRecDepth 20000 in
theorem gX11_searchEach_X6_copyFrom : GoodIn wsX11_searchEach (wsV RX11 214 RX6 yX6_copyFrom wsX6_copyFrom) := goodIn_app (goodIn_of _ (by decide +kernel)) ggX11_searchEach_X6_copyFrom
set_option maxRecDepth 20000 in
theorem ggX11_searchEach_X1_prepare : GoodIn wsX11_searchEach wsX1_prepare := goodIn_r _ [21, 22, 23, 24, 25, 26, 27, 28, 29, 30, 31, 32, 33, 34, 35, 36, 37, 38, 39, 40, 41, 42, 43, 44, 45, 46, 47, 48, 49, 50, 51, 52, 53, 54, 55, 56, 57, 58, 59, 60, 61, 62, 63, 64, 65, 66, 67, 68, 143, 144, 145, 146, 147, 148, 149, 150, 151, 152, 153, 154, 155, 156, 157, 164, 165, 166, 167, 168, 169, 170, 171, 172, 173, 174, 175, 176, 177, 178, 179, 180, 181, 182, 183, 184, 185, 186, 187, 188, 189, 190, 191] (by decide +kernel) (by decide +kernel)
set_option maxRecDepth 20000 in
theorem gX11_searchEach_X1_prepare : GoodIn wsX11_searchEach (wsV RX11 179 RX1 yX1_prepare wsX1_prepare) := goodIn_app (goodIn_of _ (by decide +kernel)) ggX11_searchEach_X1_prepare
set_option maxRecDepth 20000 in
theorem ggX11_searchEach_X1_pass : GoodIn wsX11_searchEach wsX1_pass := goodIn_r _ [72, 73, 74, 75, 76, 77, 78, 79, 80, 81, 82, 20, 83, 22, 23, 84, 85, 86, 87, 88, 89, 24, 90, 91, 92, 93, 94, 95, 96, 97, 98, 99, 100, 34, 101, 36, 102, 103, 104, 105, 106, 107, 47, 29, 48, 108, 109, 110, 111, 26, 112, 113, 114, 115, 25, 116, 117, 118, 119, 120, 121, 122, 123, 42, 124, 125, 45, 28, 30, 46, 49, 50, 51, 52, 53, 54, 55, 56, 57, 58, 59, 60, 61, 62, 63, 64, 65, 66, 67, 68, 143, 144, 145, 146, 147, 148, 149, 150, 151, 152, 153, 154, 155, 156, 157, 158, 159, 160, 161, 162, 163, 164, 165, 166, 167, 168, 169, 170, 171, 172, 173, 174, 175, 176, 177, 178, 179, 180, 181, 182, 183, 184, 185, 186, 187, 188, 189, 190, 191] (by decide +kernel) (by decide +kernel)
set_option maxRecDepth 20000 in
theorem gX11_searchEach_X1_pass : GoodIn wsX11_searchEach (wsV RX11 183 RX1 yX1_pass wsX1_pass) := goodIn_app (goodIn_of _ (by decide +kernel)) ggX11_searchEach_X1_pass
theorem dX11_searchEach_0 : decode cX11_searchEach 0 = .ok (.aload_n 0, 1) := by decide +kernel
theorem dX11_searchEach_1 : decode cX11_searchEach 1 = .ok (.getfield 89, 3) := by decide +kernel
theorem dX11_searchEach_4 : decode cX11_searchEach 4 = .ok (.iconst 0, 1) := by decide +kernel
theorem dX11_searchEach_5 : decode cX11_searchEach 5 = .ok (.iconst (-1), 1) := by decide +kernel
theorem dX11_searchEach_6 : decode cX11_searchEach 6 = .ok (.iastore, 1) := by decide +kernel
theorem dX11_searchEach_7 : decode cX11_searchEach 7 = .ok (.iconst 1, 1) := by decide +kernel
theorem dX11_searchEach_8 : decode cX11_searchEach 8 = .ok (.istore_n 1, 1) := by decide +kernel
theorem dX11_searchEach_9 : decode cX11_searchEach 9 = .ok (.iload_n 1, 1) := by decide +kernel
theorem dX11_searchEach_10 : decode cX11_searchEach 10 = .ok (.bipush 30, 2) := by decide +kernel
theorem dX11_searchEach_12 : decode cX11_searchEach 12 = .ok (.if_icmp .gt 90, 3) := by decide +kernel
theorem dX11_searchEach_15 : decode cX11_searchEach 15 = .ok (.aload_n 0, 1) := by decide +kernel
theorem dX11_searchEach_16 : decode cX11_searchEach 16 = .ok (.getfield 42, 3) := by decide +kernel
theorem dX11_searchEach_19 : decode cX11_searchEach 19 = .ok (.aload_n 0, 1) := by decide +kernel
theorem dX11_searchEach_20 : decode cX11_searchEach 20 = .ok (.getfield 38, 3) := by decide +kernel
theorem dX11_searchEach_23 : decode cX11_searchEach 23 = .ok (.invokevirtual 214, 3) := by decide +kernel
theorem dX11_searchEach_26 : decode cX11_searchEach 26 = .ok (.aload_n 0, 1) := by decide +kernel
theorem dX11_searchEach_27 : decode cX11_searchEach 27 = .ok (.getfield 74, 3) := by decide +kernel
theorem dX11_searchEach_30 : decode cX11_searchEach 30 = .ok (.aload_n 0, 1) := by decide +kernel
theorem dX11_searchEach_31 : decode cX11_searchEach 31 = .ok (.getfield 28, 3) := by decide +kernel
theorem dX11_searchEach_34 : decode cX11_searchEach 34 = .ok (.iload_n 1, 1) := by decide +kernel
theorem dX11_searchEach_35 : decode cX11_searchEach 35 = .ok (.invokevirtual 179, 3) := by decide +kernel
theorem dX11_searchEach_38 : decode cX11_searchEach 38 = .ok (.aload_n 0, 1) := by decide +kernel
theorem dX11_searchEach_39 : decode cX11_searchEach 39 = .ok (.getfield 74, 3) := by decide +kernel
theorem dX11_searchEach_42 : decode cX11_searchEach 42 = .ok (.aload_n 0, 1) := by decide +kernel
theorem dX11_searchEach_43 : decode cX11_searchEach 43 = .ok (.getfield 42, 3) := by decide +kernel
theorem dX11_searchEach_46 : decode cX11_searchEach 46 = .ok (.iconst 0, 1) := by decide +kernel
theorem dX11_searchEach_47 : decode cX11_searchEach 47 = .ok (.invokevirtual 183, 3) := by decide +kernel
theorem dX11_searchEach_50 : decode cX11_searchEach 50 = .ok (.aload_n 0, 1) := by decide +kernel
theorem dX11_searchEach_51 : decode cX11_searchEach 51 = .ok (.getfield 89, 3) := by decide +kernel
theorem dX11_searchEach_54 : decode cX11_searchEach 54 = .ok (.iconst 0, 1) := by decide +kernel
theorem dX11_searchEach_55 : decode cX11_searchEach 55 = .ok (.iaload, 1) := by decide +kernel
theorem dX11_searchEach_56 : decode cX11_searchEach 56 = .ok (.iconst (-1), 1) := by decide +kernel
theorem dX11_searchEach_57 : decode cX11_searchEach 57 = .ok (.if_icmp .eq 19, 3) := by decide +kernel
theorem dX11_searchEach_60 : decode cX11_searchEach 60 = .ok (.aload_n 0, 1) := by decide +kernel
theorem dX11_searchEach_61 : decode cX11_searchEach 61 = .ok (.getfield 74, 3) := by decide +kernel
theorem dX11_searchEach_64 : decode cX11_searchEach 64 = .ok (.getfield 190, 3) := by decide +kernel
theorem dX11_searchEach_67 : decode cX11_searchEach 67 = .ok (.aload_n 0, 1) := by decide +kernel
theorem dX11_searchEach_68 : decode cX11_searchEach 68 = .ok (.getfield 89, 3) := by decide +kernel
theorem dX11_searchEach_71 : decode cX11_searchEach 71 = .ok (.iconst 1, 1) := by decide +kernel
theorem dX11_searchEach_72 : decode cX11_searchEach 72 = .ok (.iaload, 1) := by decide +kernel
theorem dX11_searchEach_73 : decode cX11_searchEach 73 = .ok (.if_icmp .le 23, 3) := by decide +kernel
theorem dX11_searchEach_76 : decode cX11_searchEach 76 = .ok (.aload_n 0, 1) := by decide +kernel
theorem dX11_searchEach_77 : decode cX11_searchEach 77 = .ok (.getfield 89, 3) := by decide +kernel
theorem dX11_searchEach_80 : decode cX11_searchEach 80 = .ok (.iconst 0, 1) := by decide +kernel
theorem dX11_searchEach_81 : decode cX11_searchEach 81 = .ok (.iload_n 1, 1) := by decide +kernel
theorem dX11_searchEach_82 : decode cX11_searchEach 82 = .ok (.iastore, 1) := by decide +kernel
theorem dX11_searchEach_83 : decode cX11_searchEach 83 = .ok (.aload_n 0, 1) := by decide +kernel
theorem dX11_searchEach_84 : decode cX11_searchEach 84 = .ok (.getfield 89, 3) := by decide +kernel
theorem dX11_searchEach_87 : decode cX11_searchEach 87 = .ok (.iconst 1, 1) := by decide +kernel
theorem dX11_searchEach_88 : decode cX11_searchEach 88 = .ok (.aload_n 0, 1) := by decide +kernel
theorem dX11_searchEach_89 : decode cX11_searchEach 89 = .ok (.getfield 74, 3) := by decide +kernel
theorem dX11_searchEach_92 : decode cX11_searchEach 92 = .ok (.getfield 190, 3) := by decide +kernel
theorem dX11_searchEach_95 : decode cX11_searchEach 95 = .ok (.iastore, 1) := by decide +kernel
theorem dX11_searchEach_96 : decode cX11_searchEach 96 = .ok (.iinc 1 1, 3) := by decide +kernel
theorem dX11_searchEach_99 : decode cX11_searchEach 99 = .ok (.goto (-90), 3) := by decide +kernel
theorem dX11_searchEach_102 : decode cX11_searchEach 102 = .ok (.return_, 1) := by decide +kernel
set_option maxRecDepth 20000 in
theorem ggX11_searchMending_X1_prepare : GoodIn wsX11_searchMending wsX1_prepare := goodIn_r _ [9, 10, 11, 12, 13, 14, 15, 16, 17, 18, 19, 20, 21, 22, 23, 24, 25, 26, 27, 28, 29, 30, 31, 32, 33, 34, 35, 36, 37, 38, 39, 40, 41, 42, 43, 44, 45, 46, 47, 48, 49, 50, 51, 52, 53, 54, 55, 56, 158, 159, 160, 161, 162, 163, 164, 165, 166, 167, 168, 169, 170, 171, 172, 173, 174, 175, 176, 177, 178, 179, 180, 181, 182, 183, 184, 185, 186, 187, 188, 189, 190, 191, 192, 193, 194, 195, 196, 197, 198, 199, 200] (by decide +kernel) (by decide +kernel)
set_option maxRecDepth 20000 in
theorem gX11_searchMending_X1_prepare : GoodIn wsX11_searchMending (wsV RX11 179 RX1 yX1_prepare wsX1_prepare) := goodIn_app (goodIn_of _ (by decide +kernel)) ggX11_searchMending_X1_prepare
set_option maxRecDepth 20000 in
theorem ggX11_searchMending_X11_joyMendedAhead : GoodIn wsX11_searchMending wsX11_joyMendedAhead := goodIn_r _ [61, 62, 3, 2, 1, 63, 64, 65, 66, 67, 68, 69, 70, 71, 72, 73, 74, 75, 76, 77, 78, 79, 80, 8, 81, 82, 83, 84, 85, 86, 87, 88, 89, 90, 91, 92, 10, 11, 93, 94, 95, 96, 97, 98, 12, 99, 100, 101, 102, 103, 104, 105, 106, 107, 108, 109, 22, 110, 24, 111, 112, 113, 114, 115, 116, 35, 17, 36, 117, 118, 119, 120, 14, 121, 122, 123, 124, 13, 125, 126, 127, 128, 129, 130, 131, 132, 30, 133, 134, 33, 16, 18, 34, 37, 38, 39, 40, 41, 42, 43, 44, 45, 46, 47, 48, 49, 50, 51, 52, 53, 54, 55, 56, 135, 136, 137, 138, 139, 140, 141, 142, 143, 144, 145, 146, 147, 148, 149, 150, 151, 152, 153, 154, 155, 156, 157, 173, 174, 175, 176, 177, 178, 179, 180, 181, 182, 183, 184, 185, 186, 158, 159, 160, 161, 162, 163, 164, 165, 166, 167, 168, 169, 170, 171, 172, 187, 188, 189, 190, 191, 192, 193, 194, 195, 196, 197, 198, 199, 200] (by decide +kernel) (by decide +kernel)
set_option maxRecDepth 20000 in
theorem gX11_searchMending_X11_joyMendedAhead : GoodIn wsX11_searchMending (wsV RX11 324 RX11 yX11_joyMendedAhead wsX11_joyMendedAhead) := goodIn_app (goodIn_of _ (by decide +kernel)) ggX11_searchMending_X11_joyMendedAhead
theorem dX11_searchMending_0 : decode cX11_searchMending 0 = .ok (.aload_n 0, 1) := by decide +kernel
theorem dX11_searchMending_1 : decode cX11_searchMending 1 = .ok (.getfield 74, 3) := by decide +kernel
theorem dX11_searchMending_4 : decode cX11_searchMending 4 = .ok (.aload_n 0, 1) := by decide +kernel
theorem dX11_searchMending_5 : decode cX11_searchMending 5 = .ok (.getfield 28, 3) := by decide +kernel
theorem dX11_searchMending_8 : decode cX11_searchMending 8 = .ok (.aload_n 0, 1) := by decide +kernel
theorem dX11_searchMending_9 : decode cX11_searchMending 9 = .ok (.getfield 38, 3) := by decide +kernel
theorem dX11_searchMending_12 : decode cX11_searchMending 12 = .ok (.getfield 138, 3) := by decide +kernel
theorem dX11_searchMending_15 : decode cX11_searchMending 15 = .ok (.invokevirtual 179, 3) := by decide +kernel
theorem dX11_searchMending_18 : decode cX11_searchMending 18 = .ok (.aload_n 0, 1) := by decide +kernel
theorem dX11_searchMending_19 : decode cX11_searchMending 19 = .ok (.getfield 89, 3) := by decide +kernel
theorem dX11_searchMending_22 : decode cX11_searchMending 22 = .ok (.iconst 0, 1) := by decide +kernel
theorem dX11_searchMending_23 : decode cX11_searchMending 23 = .ok (.aload_n 0, 1) := by decide +kernel
theorem dX11_searchMending_24 : decode cX11_searchMending 24 = .ok (.iload_n 1, 1) := by decide +kernel
theorem dX11_searchMending_25 : decode cX11_searchMending 25 = .ok (.iconst 0, 1) := by decide +kernel
theorem dX11_searchMending_26 : decode cX11_searchMending 26 = .ok (.invokevirtual 324, 3) := by decide +kernel
theorem dX11_searchMending_29 : decode cX11_searchMending 29 = .ok (.iastore, 1) := by decide +kernel
theorem dX11_searchMending_30 : decode cX11_searchMending 30 = .ok (.aload_n 0, 1) := by decide +kernel
theorem dX11_searchMending_31 : decode cX11_searchMending 31 = .ok (.getfield 89, 3) := by decide +kernel
theorem dX11_searchMending_34 : decode cX11_searchMending 34 = .ok (.iconst 1, 1) := by decide +kernel
theorem dX11_searchMending_35 : decode cX11_searchMending 35 = .ok (.iconst 0, 1) := by decide +kernel
theorem dX11_searchMending_36 : decode cX11_searchMending 36 = .ok (.iastore, 1) := by decide +kernel
theorem dX11_searchMending_37 : decode cX11_searchMending 37 = .ok (.iconst 1, 1) := by decide +kernel
theorem dX11_searchMending_38 : decode cX11_searchMending 38 = .ok (.istore_n 2, 1) := by decide +kernel
theorem dX11_searchMending_39 : decode cX11_searchMending 39 = .ok (.iload_n 2, 1) := by decide +kernel
theorem dX11_searchMending_40 : decode cX11_searchMending 40 = .ok (.iload_n 1, 1) := by decide +kernel
theorem dX11_searchMending_41 : decode cX11_searchMending 41 = .ok (.if_icmp .gt 49, 3) := by decide +kernel
theorem dX11_searchMending_44 : decode cX11_searchMending 44 = .ok (.aload_n 0, 1) := by decide +kernel
theorem dX11_searchMending_45 : decode cX11_searchMending 45 = .ok (.iload_n 1, 1) := by decide +kernel
theorem dX11_searchMending_46 : decode cX11_searchMending 46 = .ok (.iload_n 2, 1) := by decide +kernel
theorem dX11_searchMending_47 : decode cX11_searchMending 47 = .ok (.invokevirtual 324, 3) := by decide +kernel
theorem dX11_searchMending_50 : decode cX11_searchMending 50 = .ok (.istore_n 3, 1) := by decide +kernel
theorem dX11_searchMending_51 : decode cX11_searchMending 51 = .ok (.iload_n 3, 1) := by decide +kernel
theorem dX11_searchMending_52 : decode cX11_searchMending 52 = .ok (.aload_n 0, 1) := by decide +kernel
theorem dX11_searchMending_53 : decode cX11_searchMending 53 = .ok (.getfield 89, 3) := by decide +kernel
theorem dX11_searchMending_56 : decode cX11_searchMending 56 = .ok (.iconst 0, 1) := by decide +kernel
theorem dX11_searchMending_57 : decode cX11_searchMending 57 = .ok (.iaload, 1) := by decide +kernel
theorem dX11_searchMending_58 : decode cX11_searchMending 58 = .ok (.if_icmp .le 26, 3) := by decide +kernel
theorem dX11_searchMending_61 : decode cX11_searchMending 61 = .ok (.aload_n 0, 1) := by decide +kernel
theorem dX11_searchMending_62 : decode cX11_searchMending 62 = .ok (.getfield 89, 3) := by decide +kernel
theorem dX11_searchMending_65 : decode cX11_searchMending 65 = .ok (.iconst 0, 1) := by decide +kernel
theorem dX11_searchMending_66 : decode cX11_searchMending 66 = .ok (.iload_n 3, 1) := by decide +kernel
theorem dX11_searchMending_67 : decode cX11_searchMending 67 = .ok (.iastore, 1) := by decide +kernel
theorem dX11_searchMending_68 : decode cX11_searchMending 68 = .ok (.aload_n 0, 1) := by decide +kernel
theorem dX11_searchMending_69 : decode cX11_searchMending 69 = .ok (.getfield 89, 3) := by decide +kernel
theorem dX11_searchMending_72 : decode cX11_searchMending 72 = .ok (.iconst 1, 1) := by decide +kernel
theorem dX11_searchMending_73 : decode cX11_searchMending 73 = .ok (.iload_n 2, 1) := by decide +kernel
theorem dX11_searchMending_74 : decode cX11_searchMending 74 = .ok (.iload_n 1, 1) := by decide +kernel
theorem dX11_searchMending_75 : decode cX11_searchMending 75 = .ok (.if_icmp .ge 7, 3) := by decide +kernel
theorem dX11_searchMending_78 : decode cX11_searchMending 78 = .ok (.iload_n 2, 1) := by decide +kernel
theorem dX11_searchMending_79 : decode cX11_searchMending 79 = .ok (.goto 4, 3) := by decide +kernel
theorem dX11_searchMending_82 : decode cX11_searchMending 82 = .ok (.iconst (-1), 1) := by decide +kernel
theorem dX11_searchMending_83 : decode cX11_searchMending 83 = .ok (.iastore, 1) := by decide +kernel
theorem dX11_searchMending_84 : decode cX11_searchMending 84 = .ok (.iinc 2 1, 3) := by decide +kernel
theorem dX11_searchMending_87 : decode cX11_searchMending 87 = .ok (.goto (-48), 3) := by decide +kernel
theorem dX11_searchMending_90 : decode cX11_searchMending 90 = .ok (.return_, 1) := by decide +kernel
set_option maxRecDepth 20000 in
theorem ggX11_joyMendedAhead_X6_copyFrom : GoodIn wsX11_joyMendedAhead wsX6_copyFrom := goodIn_r _ [9, 10, 11, 12, 13, 14, 15, 130, 131, 132, 133, 134, 135] (by decide +kernel) (by decide +kernel)
set_option maxRecDepth 20000 in
theorem gX11_joyMendedAhead_X6_copyFrom : GoodIn wsX11_joyMendedAhead (wsV RX11 214 RX6 yX6_copyFrom wsX6_copyFrom) := goodIn_app (goodIn_of _ (by decide +kernel)) ggX11_joyMendedAhead_X6_copyFrom
set_option maxRecDepth 20000 in
theorem ggX11_joyMendedAhead_X6_tuneUp : GoodIn wsX11_joyMendedAhead wsX6_tuneUp := goodIn_r _ [19, 10, 15, 130, 131, 132, 133, 134, 135] (by decide +kernel) (by decide +kernel)
set_option maxRecDepth 20000 in
theorem gX11_joyMendedAhead_X6_tuneUp : GoodIn wsX11_joyMendedAhead (wsV RX11 196 RX6 yX6_tuneUp wsX6_tuneUp) := goodIn_app (goodIn_of _ (by decide +kernel)) ggX11_joyMendedAhead_X6_tuneUp
set_option maxRecDepth 20000 in
theorem ggX11_joyMendedAhead_X1_pass : GoodIn wsX11_joyMendedAhead wsX1_pass := goodIn_r _ [24, 25, 26, 27, 28, 29, 30, 31, 32, 33, 34, 23, 35, 36, 37, 38, 39, 40, 41, 42, 43, 44, 45, 46, 47, 48, 49, 50, 51, 52, 53, 54, 55, 56, 57, 58, 59, 60, 61, 62, 63, 64, 65, 66, 67, 68, 69, 70, 71, 72, 73, 74, 75, 76, 77, 78, 79, 80, 81, 82, 83, 84, 85, 86, 87, 88, 89, 90, 91, 92, 93, 94, 95, 96, 97, 98, 99, 100, 101, 102, 103, 104, 105, 106, 107, 108, 109, 110, 111, 112, 150, 151, 152, 153, 154, 155, 156, 157, 158, 159, 160, 161, 162, 163, 164, 130, 131, 132, 133, 134, 135, 136, 137, 138, 139, 140, 141, 142, 143, 144, 145, 146, 147, 148, 149, 165, 166, 167, 168, 169, 170, 171, 172, 173, 174, 175, 176, 177, 178] (by decide +kernel) (by decide +kernel)
set_option maxRecDepth 20000 in
theorem gX11_joyMendedAhead_X1_pass : GoodIn wsX11_joyMendedAhead (wsV RX11 183 RX1 yX1_pass wsX1_pass) := goodIn_app (goodIn_of _ (by decide +kernel)) ggX11_joyMendedAhead_X1_pass
theorem dX11_joyMendedAhead_0 : decode cX11_joyMendedAhead 0 = .ok (.aload_n 0, 1) := by decide +kernel
theorem dX11_joyMendedAhead_1 : decode cX11_joyMendedAhead 1 = .ok (.getfield 42, 3) := by decide +kernel
theorem dX11_joyMendedAhead_4 : decode cX11_joyMendedAhead 4 = .ok (.aload_n 0, 1) := by decide +kernel
theorem dX11_joyMendedAhead_5 : decode cX11_joyMendedAhead 5 = .ok (.getfield 38, 3) := by decide +kernel
theorem dX11_joyMendedAhead_8 : decode cX11_joyMendedAhead 8 = .ok (.invokevirtual 214, 3) := by decide +kernel
theorem dX11_joyMendedAhead_11 : decode cX11_joyMendedAhead 11 = .ok (.aload_n 0, 1) := by decide +kernel
theorem dX11_joyMendedAhead_12 : decode cX11_joyMendedAhead 12 = .ok (.getfield 42, 3) := by decide +kernel
theorem dX11_joyMendedAhead_15 : decode cX11_joyMendedAhead 15 = .ok (.iconst 0, 1) := by decide +kernel
theorem dX11_joyMendedAhead_16 : decode cX11_joyMendedAhead 16 = .ok (.putfield 301, 3) := by decide +kernel
theorem dX11_joyMendedAhead_19 : decode cX11_joyMendedAhead 19 = .ok (.iconst 0, 1) := by decide +kernel
theorem dX11_joyMendedAhead_20 : decode cX11_joyMendedAhead 20 = .ok (.istore_n 3, 1) := by decide +kernel
theorem dX11_joyMendedAhead_21 : decode cX11_joyMendedAhead 21 = .ok (.iconst 0, 1) := by decide +kernel
theorem dX11_joyMendedAhead_22 : decode cX11_joyMendedAhead 22 = .ok (.istore 4, 2) := by decide +kernel
theorem dX11_joyMendedAhead_24 : decode cX11_joyMendedAhead 24 = .ok (.iload 4, 2) := by decide +kernel
theorem dX11_joyMendedAhead_26 : decode cX11_joyMendedAhead 26 = .ok (.iload_n 1, 1) := by decide +kernel
theorem dX11_joyMendedAhead_27 : decode cX11_joyMendedAhead 27 = .ok (.if_icmp .ge 52, 3) := by decide +kernel
theorem dX11_joyMendedAhead_30 : decode cX11_joyMendedAhead 30 = .ok (.iload 4, 2) := by decide +kernel
theorem dX11_joyMendedAhead_32 : decode cX11_joyMendedAhead 32 = .ok (.iload_n 2, 1) := by decide +kernel
theorem dX11_joyMendedAhead_33 : decode cX11_joyMendedAhead 33 = .ok (.if_icmp .ne 18, 3) := by decide +kernel
theorem dX11_joyMendedAhead_36 : decode cX11_joyMendedAhead 36 = .ok (.aload_n 0, 1) := by decide +kernel
theorem dX11_joyMendedAhead_37 : decode cX11_joyMendedAhead 37 = .ok (.getfield 42, 3) := by decide +kernel
theorem dX11_joyMendedAhead_40 : decode cX11_joyMendedAhead 40 = .ok (.aload_n 0, 1) := by decide +kernel
theorem dX11_joyMendedAhead_41 : decode cX11_joyMendedAhead 41 = .ok (.getfield 28, 3) := by decide +kernel
theorem dX11_joyMendedAhead_44 : decode cX11_joyMendedAhead 44 = .ok (.getfield 193, 3) := by decide +kernel
theorem dX11_joyMendedAhead_47 : decode cX11_joyMendedAhead 47 = .ok (.invokevirtual 196, 3) := by decide +kernel
theorem dX11_joyMendedAhead_50 : decode cX11_joyMendedAhead 50 = .ok (.pop, 1) := by decide +kernel
theorem dX11_joyMendedAhead_51 : decode cX11_joyMendedAhead 51 = .ok (.aload_n 0, 1) := by decide +kernel
theorem dX11_joyMendedAhead_52 : decode cX11_joyMendedAhead 52 = .ok (.getfield 74, 3) := by decide +kernel
theorem dX11_joyMendedAhead_55 : decode cX11_joyMendedAhead 55 = .ok (.aload_n 0, 1) := by decide +kernel
theorem dX11_joyMendedAhead_56 : decode cX11_joyMendedAhead 56 = .ok (.getfield 42, 3) := by decide +kernel
theorem dX11_joyMendedAhead_59 : decode cX11_joyMendedAhead 59 = .ok (.iconst 0, 1) := by decide +kernel
theorem dX11_joyMendedAhead_60 : decode cX11_joyMendedAhead 60 = .ok (.invokevirtual 183, 3) := by decide +kernel
theorem dX11_joyMendedAhead_63 : decode cX11_joyMendedAhead 63 = .ok (.iload_n 3, 1) := by decide +kernel
theorem dX11_joyMendedAhead_64 : decode cX11_joyMendedAhead 64 = .ok (.aload_n 0, 1) := by decide +kernel
theorem dX11_joyMendedAhead_65 : decode cX11_joyMendedAhead 65 = .ok (.getfield 74, 3) := by decide +kernel
theorem dX11_joyMendedAhead_68 : decode cX11_joyMendedAhead 68 = .ok (.getfield 190, 3) := by decide +kernel
theorem dX11_joyMendedAhead_71 : decode cX11_joyMendedAhead 71 = .ok (.iadd, 1) := by decide +kernel
theorem dX11_joyMendedAhead_72 : decode cX11_joyMendedAhead 72 = .ok (.istore_n 3, 1) := by decide +kernel
theorem dX11_joyMendedAhead_73 : decode cX11_joyMendedAhead 73 = .ok (.iinc 4 1, 3) := by decide +kernel
theorem dX11_joyMendedAhead_76 : decode cX11_joyMendedAhead 76 = .ok (.goto (-52), 3) := by decide +kernel
theorem dX11_joyMendedAhead_79 : decode cX11_joyMendedAhead 79 = .ok (.iload_n 3, 1) := by decide +kernel
theorem dX11_joyMendedAhead_80 : decode cX11_joyMendedAhead 80 = .ok (.aload_n 0, 1) := by decide +kernel
theorem dX11_joyMendedAhead_81 : decode cX11_joyMendedAhead 81 = .ok (.getfield 42, 3) := by decide +kernel
theorem dX11_joyMendedAhead_84 : decode cX11_joyMendedAhead 84 = .ok (.getfield 301, 3) := by decide +kernel
theorem dX11_joyMendedAhead_87 : decode cX11_joyMendedAhead 87 = .ok (.isub, 1) := by decide +kernel
theorem dX11_joyMendedAhead_88 : decode cX11_joyMendedAhead 88 = .ok (.ireturn, 1) := by decide +kernel
set_option maxRecDepth 20000 in
theorem ggX11_isRest_X11_gain : GoodIn wsX11_isRest wsX11_gain := goodIn_r _ [4] (by decide +kernel) (by decide +kernel)
set_option maxRecDepth 20000 in
theorem gX11_isRest_X11_gain : GoodIn wsX11_isRest (va_wsS RX11 327 yX11_gain wsX11_gain) := goodIn_app (goodIn_of _ (by decide +kernel)) ggX11_isRest_X11_gain
theorem dX11_isRest_0 : decode cX11_isRest 0 = .ok (.iload_n 3, 1) := by decide +kernel
theorem dX11_isRest_1 : decode cX11_isRest 1 = .ok (.iconst 2, 1) := by decide +kernel
theorem dX11_isRest_2 : decode cX11_isRest 2 = .ok (.idiv, 1) := by decide +kernel
theorem dX11_isRest_3 : decode cX11_isRest 3 = .ok (.istore 4, 2) := by decide +kernel
theorem dX11_isRest_5 : decode cX11_isRest 5 = .ok (.iload_n 3, 1) := by decide +kernel
theorem dX11_isRest_6 : decode cX11_isRest 6 = .ok (.iconst 2, 1) := by decide +kernel
theorem dX11_isRest_7 : decode cX11_isRest 7 = .ok (.irem, 1) := by decide +kernel
theorem dX11_isRest_8 : decode cX11_isRest 8 = .ok (.istore 5, 2) := by decide +kernel
theorem dX11_isRest_10 : decode cX11_isRest 10 = .ok (.iload_n 0, 1) := by decide +kernel
theorem dX11_isRest_11 : decode cX11_isRest 11 = .ok (.iload_n 1, 1) := by decide +kernel
theorem dX11_isRest_12 : decode cX11_isRest 12 = .ok (.iload_n 2, 1) := by decide +kernel
theorem dX11_isRest_13 : decode cX11_isRest 13 = .ok (.iconst 1, 1) := by decide +kernel
theorem dX11_isRest_14 : decode cX11_isRest 14 = .ok (.iload 4, 2) := by decide +kernel
theorem dX11_isRest_16 : decode cX11_isRest 16 = .ok (.isub, 1) := by decide +kernel
theorem dX11_isRest_17 : decode cX11_isRest 17 = .ok (.iload 5, 2) := by decide +kernel
theorem dX11_isRest_19 : decode cX11_isRest 19 = .ok (.invokestatic 327, 3) := by decide +kernel
theorem dX11_isRest_22 : decode cX11_isRest 22 = .ok (.iload_n 0, 1) := by decide +kernel
theorem dX11_isRest_23 : decode cX11_isRest 23 = .ok (.iload_n 1, 1) := by decide +kernel
theorem dX11_isRest_24 : decode cX11_isRest 24 = .ok (.iload_n 2, 1) := by decide +kernel
theorem dX11_isRest_25 : decode cX11_isRest 25 = .ok (.iload 4, 2) := by decide +kernel
theorem dX11_isRest_27 : decode cX11_isRest 27 = .ok (.iload 5, 2) := by decide +kernel
theorem dX11_isRest_29 : decode cX11_isRest 29 = .ok (.invokestatic 327, 3) := by decide +kernel
theorem dX11_isRest_32 : decode cX11_isRest 32 = .ok (.if_icmp .gt 32, 3) := by decide +kernel
theorem dX11_isRest_35 : decode cX11_isRest 35 = .ok (.iload_n 0, 1) := by decide +kernel
theorem dX11_isRest_36 : decode cX11_isRest 36 = .ok (.iload_n 1, 1) := by decide +kernel
theorem dX11_isRest_37 : decode cX11_isRest 37 = .ok (.iload_n 2, 1) := by decide +kernel
theorem dX11_isRest_38 : decode cX11_isRest 38 = .ok (.iconst 1, 1) := by decide +kernel
theorem dX11_isRest_39 : decode cX11_isRest 39 = .ok (.iload 5, 2) := by decide +kernel
theorem dX11_isRest_41 : decode cX11_isRest 41 = .ok (.isub, 1) := by decide +kernel
theorem dX11_isRest_42 : decode cX11_isRest 42 = .ok (.iload 4, 2) := by decide +kernel
theorem dX11_isRest_44 : decode cX11_isRest 44 = .ok (.invokestatic 327, 3) := by decide +kernel
theorem dX11_isRest_47 : decode cX11_isRest 47 = .ok (.iload_n 0, 1) := by decide +kernel
theorem dX11_isRest_48 : decode cX11_isRest 48 = .ok (.iload_n 1, 1) := by decide +kernel
theorem dX11_isRest_49 : decode cX11_isRest 49 = .ok (.iload_n 2, 1) := by decide +kernel
theorem dX11_isRest_50 : decode cX11_isRest 50 = .ok (.iload 5, 2) := by decide +kernel
theorem dX11_isRest_52 : decode cX11_isRest 52 = .ok (.iload 4, 2) := by decide +kernel
theorem dX11_isRest_54 : decode cX11_isRest 54 = .ok (.invokestatic 327, 3) := by decide +kernel
theorem dX11_isRest_57 : decode cX11_isRest 57 = .ok (.if_icmp .gt 7, 3) := by decide +kernel
theorem dX11_isRest_60 : decode cX11_isRest 60 = .ok (.iconst 1, 1) := by decide +kernel
theorem dX11_isRest_61 : decode cX11_isRest 61 = .ok (.goto 4, 3) := by decide +kernel
theorem dX11_isRest_64 : decode cX11_isRest 64 = .ok (.iconst 0, 1) := by decide +kernel
theorem dX11_isRest_65 : decode cX11_isRest 65 = .ok (.ireturn, 1) := by decide +kernel
theorem dX11_gain_0 : decode cX11_gain 0 = .ok (.iload_n 3, 1) := by decide +kernel
theorem dX11_gain_1 : decode cX11_gain 1 = .ok (.iconst 1, 1) := by decide +kernel
theorem dX11_gain_2 : decode cX11_gain 2 = .ok (.if_icmp .ne 16, 3) := by decide +kernel
theorem dX11_gain_5 : decode cX11_gain 5 = .ok (.iload 4, 2) := by decide +kernel
theorem dX11_gain_7 : decode cX11_gain 7 = .ok (.iconst 1, 1) := by decide +kernel
theorem dX11_gain_8 : decode cX11_gain 8 = .ok (.if_icmp .ne 8, 3) := by decide +kernel
theorem dX11_gain_11 : decode cX11_gain 11 = .ok (.iload_n 0, 1) := by decide +kernel
theorem dX11_gain_12 : decode cX11_gain 12 = .ok (.ineg, 1) := by decide +kernel
theorem dX11_gain_13 : decode cX11_gain 13 = .ok (.goto 4, 3) := by decide +kernel
theorem dX11_gain_16 : decode cX11_gain 16 = .ok (.iload_n 1, 1) := by decide +kernel
theorem dX11_gain_17 : decode cX11_gain 17 = .ok (.ireturn, 1) := by decide +kernel
theorem dX11_gain_18 : decode cX11_gain 18 = .ok (.iload 4, 2) := by decide +kernel
theorem dX11_gain_20 : decode cX11_gain 20 = .ok (.iconst 1, 1) := by decide +kernel
theorem dX11_gain_21 : decode cX11_gain 21 = .ok (.if_icmp .ne 7, 3) := by decide +kernel
theorem dX11_gain_24 : decode cX11_gain 24 = .ok (.iload_n 2, 1) := by decide +kernel
theorem dX11_gain_25 : decode cX11_gain 25 = .ok (.goto 4, 3) := by decide +kernel
theorem dX11_gain_28 : decode cX11_gain 28 = .ok (.iconst 0, 1) := by decide +kernel
theorem dX11_gain_29 : decode cX11_gain 29 = .ok (.ireturn, 1) := by decide +kernel
set_option maxRecDepth 20000 in
theorem ggX11_drawMonths_X6_copyFrom : GoodIn wsX11_drawMonths wsX6_copyFrom := goodIn_r _ [11, 12, 13, 14, 15, 16, 17, 161, 162, 163, 164, 165, 166] (by decide +kernel) (by decide +kernel)
set_option maxRecDepth 20000 in
theorem gX11_drawMonths_X6_copyFrom : GoodIn wsX11_drawMonths (wsV RX11 214 RX6 yX6_copyFrom wsX6_copyFrom) := goodIn_app (goodIn_of _ (by decide +kernel)) ggX11_drawMonths_X6_copyFrom
set_option maxRecDepth 20000 in
theorem ggX11_drawMonths_X1_prepare : GoodIn wsX11_drawMonths wsX1_prepare := goodIn_r _ [22, 23, 24, 25, 26, 27, 28, 29, 30, 31, 32, 33, 34, 35, 36, 37, 38, 39, 40, 41, 42, 43, 44, 45, 46, 47, 48, 49, 50, 51, 52, 53, 54, 55, 56, 57, 58, 59, 60, 61, 62, 63, 64, 65, 66, 67, 68, 69, 181, 182, 183, 184, 185, 186, 187, 188, 189, 190, 191, 192, 193, 194, 195, 167, 168, 169, 170, 171, 172, 173, 174, 175, 176, 177, 178, 179, 180, 196, 197, 198, 199, 200, 201, 202, 203, 204, 205, 206, 207, 208, 209] (by decide +kernel) (by decide +kernel)
set_option maxRecDepth 20000 in
theorem gX11_drawMonths_X1_prepare : GoodIn wsX11_drawMonths (wsV RX11 179 RX1 yX1_prepare wsX1_prepare) := goodIn_app (goodIn_of _ (by decide +kernel)) ggX11_drawMonths_X1_prepare
set_option maxRecDepth 20000 in
theorem ggX11_drawMonths_X11_draw : GoodIn wsX11_drawMonths wsX11_draw := goodIn_r _ [74, 1, 75, 76, 77, 78, 144, 145, 146, 147, 148, 149, 150, 151, 152, 153, 154, 155, 156, 157, 158, 159, 160] (by decide +kernel) (by decide +kernel)
set_option maxRecDepth 20000 in
theorem gX11_drawMonths_X11_draw : GoodIn wsX11_drawMonths (wsV RX11 337 RX11 yX11_draw wsX11_draw) := goodIn_app (goodIn_of _ (by decide +kernel)) ggX11_drawMonths_X11_draw
set_option maxRecDepth 20000 in
theorem ggX11_drawMonths_X1_pass : GoodIn wsX11_drawMonths wsX1_pass := goodIn_r _ [82, 83, 84, 85, 86, 87, 88, 89, 90, 91, 92, 21, 93, 23, 24, 94, 95, 96, 97, 98, 99, 25, 100, 101, 102, 103, 104, 105, 106, 107, 108, 109, 110, 35, 111, 37, 112, 113, 114, 115, 116, 117, 48, 30, 49, 118, 119, 120, 121, 27, 122, 123, 124, 125, 26, 126, 127, 128, 129, 130, 131, 132, 133, 43, 134, 135, 46, 29, 31, 47, 50, 51, 52, 53, 54, 55, 56, 57, 58, 59, 60, 61, 62, 63, 64, 65, 66, 67, 68, 69, 181, 182, 183, 184, 185, 186, 187, 188, 189, 190, 191, 192, 193, 194, 195, 161, 162, 163, 164, 165, 166, 167, 168, 169, 170, 171, 172, 173, 174, 175, 176, 177, 178, 179, 180, 196, 197, 198, 199, 200, 201, 202, 203, 204, 205, 206, 207, 208, 209] (by decide +kernel) (by decide +kernel)
set_option maxRecDepth 20000 in
theorem gX11_drawMonths_X1_pass : GoodIn wsX11_drawMonths (wsV RX11 183 RX1 yX1_pass wsX1_pass) := goodIn_app (goodIn_of _ (by decide +kernel)) ggX11_drawMonths_X1_pass
set_option maxRecDepth 20000 in
theorem ggX11_drawMonths_X6_keysAbove : GoodIn wsX11_drawMonths wsX6_keysAbove := goodIn_r _ [139, 12, 161, 162, 163, 164, 165, 166] (by decide +kernel) (by decide +kernel)
set_option maxRecDepth 20000 in
theorem gX11_drawMonths_X6_keysAbove : GoodIn wsX11_drawMonths (wsV RX11 343 RX6 yX6_keysAbove wsX6_keysAbove) := goodIn_app (goodIn_of _ (by decide +kernel)) ggX11_drawMonths_X6_keysAbove
set_option maxRecDepth 20000 in
theorem ggX11_drawMonths_X6_tuneUp : GoodIn wsX11_drawMonths wsX6_tuneUp := goodIn_r _ [143, 12, 17, 161, 162, 163, 164, 165, 166] (by decide +kernel) (by decide +kernel)
set_option maxRecDepth 20000 in
theorem gX11_drawMonths_X6_tuneUp : GoodIn wsX11_drawMonths (wsV RX11 196 RX6 yX6_tuneUp wsX6_tuneUp) := goodIn_app (goodIn_of _ (by decide +kernel)) ggX11_drawMonths_X6_tuneUp
theorem dX11_drawMonths_0 : decode cX11_drawMonths 0 = .ok (.iconst 0, 1) := by decide +kernel
theorem dX11_drawMonths_1 : decode cX11_drawMonths 1 = .ok (.istore_n 3, 1) := by decide +kernel
theorem dX11_drawMonths_2 : decode cX11_drawMonths 2 = .ok (.iconst 0, 1) := by decide +kernel
theorem dX11_drawMonths_3 : decode cX11_drawMonths 3 = .ok (.istore 4, 2) := by decide +kernel
theorem dX11_drawMonths_5 : decode cX11_drawMonths 5 = .ok (.aload_n 0, 1) := by decide +kernel
theorem dX11_drawMonths_6 : decode cX11_drawMonths 6 = .ok (.iload_n 1, 1) := by decide +kernel
theorem dX11_drawMonths_7 : decode cX11_drawMonths 7 = .ok (.i2l, 1) := by decide +kernel
theorem dX11_drawMonths_8 : decode cX11_drawMonths 8 = .ok (.putfield 331, 3) := by decide +kernel
theorem dX11_drawMonths_11 : decode cX11_drawMonths 11 = .ok (.aload_n 0, 1) := by decide +kernel
theorem dX11_drawMonths_12 : decode cX11_drawMonths 12 = .ok (.getfield 42, 3) := by decide +kernel
theorem dX11_drawMonths_15 : decode cX11_drawMonths 15 = .ok (.aload_n 0, 1) := by decide +kernel
theorem dX11_drawMonths_16 : decode cX11_drawMonths 16 = .ok (.getfield 38, 3) := by decide +kernel
theorem dX11_drawMonths_19 : decode cX11_drawMonths 19 = .ok (.invokevirtual 214, 3) := by decide +kernel
theorem dX11_drawMonths_22 : decode cX11_drawMonths 22 = .ok (.aload_n 0, 1) := by decide +kernel
theorem dX11_drawMonths_23 : decode cX11_drawMonths 23 = .ok (.getfield 42, 3) := by decide +kernel
theorem dX11_drawMonths_26 : decode cX11_drawMonths 26 = .ok (.iconst 0, 1) := by decide +kernel
theorem dX11_drawMonths_27 : decode cX11_drawMonths 27 = .ok (.putfield 301, 3) := by decide +kernel
theorem dX11_drawMonths_30 : decode cX11_drawMonths 30 = .ok (.aload_n 0, 1) := by decide +kernel
theorem dX11_drawMonths_31 : decode cX11_drawMonths 31 = .ok (.getfield 74, 3) := by decide +kernel
theorem dX11_drawMonths_34 : decode cX11_drawMonths 34 = .ok (.aload_n 0, 1) := by decide +kernel
theorem dX11_drawMonths_35 : decode cX11_drawMonths 35 = .ok (.getfield 28, 3) := by decide +kernel
theorem dX11_drawMonths_38 : decode cX11_drawMonths 38 = .ok (.aload_n 0, 1) := by decide +kernel
theorem dX11_drawMonths_39 : decode cX11_drawMonths 39 = .ok (.getfield 42, 3) := by decide +kernel
theorem dX11_drawMonths_42 : decode cX11_drawMonths 42 = .ok (.getfield 138, 3) := by decide +kernel
theorem dX11_drawMonths_45 : decode cX11_drawMonths 45 = .ok (.invokevirtual 179, 3) := by decide +kernel
theorem dX11_drawMonths_48 : decode cX11_drawMonths 48 = .ok (.iconst 0, 1) := by decide +kernel
theorem dX11_drawMonths_49 : decode cX11_drawMonths 49 = .ok (.istore 5, 2) := by decide +kernel
theorem dX11_drawMonths_51 : decode cX11_drawMonths 51 = .ok (.iload 5, 2) := by decide +kernel
theorem dX11_drawMonths_53 : decode cX11_drawMonths 53 = .ok (.iload_n 2, 1) := by decide +kernel
theorem dX11_drawMonths_54 : decode cX11_drawMonths 54 = .ok (.if_icmp .ge 122, 3) := by decide +kernel
theorem dX11_drawMonths_57 : decode cX11_drawMonths 57 = .ok (.iconst 0, 1) := by decide +kernel
theorem dX11_drawMonths_58 : decode cX11_drawMonths 58 = .ok (.istore 6, 2) := by decide +kernel
theorem dX11_drawMonths_60 : decode cX11_drawMonths 60 = .ok (.iload 6, 2) := by decide +kernel
theorem dX11_drawMonths_62 : decode cX11_drawMonths 62 = .ok (.aload_n 0, 1) := by decide +kernel
theorem dX11_drawMonths_63 : decode cX11_drawMonths 63 = .ok (.getfield 28, 3) := by decide +kernel
theorem dX11_drawMonths_66 : decode cX11_drawMonths 66 = .ok (.getfield 173, 3) := by decide +kernel
theorem dX11_drawMonths_69 : decode cX11_drawMonths 69 = .ok (.if_icmp .ge 32, 3) := by decide +kernel
theorem dX11_drawMonths_72 : decode cX11_drawMonths 72 = .ok (.iload 6, 2) := by decide +kernel
theorem dX11_drawMonths_74 : decode cX11_drawMonths 74 = .ok (.bipush 7, 2) := by decide +kernel
theorem dX11_drawMonths_76 : decode cX11_drawMonths 76 = .ok (.if_icmp .ge 25, 3) := by decide +kernel
theorem dX11_drawMonths_79 : decode cX11_drawMonths 79 = .ok (.aload_n 0, 1) := by decide +kernel
theorem dX11_drawMonths_80 : decode cX11_drawMonths 80 = .ok (.getfield 74, 3) := by decide +kernel
theorem dX11_drawMonths_83 : decode cX11_drawMonths 83 = .ok (.getfield 335, 3) := by decide +kernel
theorem dX11_drawMonths_86 : decode cX11_drawMonths 86 = .ok (.iload 6, 2) := by decide +kernel
theorem dX11_drawMonths_88 : decode cX11_drawMonths 88 = .ok (.aload_n 0, 1) := by decide +kernel
theorem dX11_drawMonths_89 : decode cX11_drawMonths 89 = .ok (.bipush 60, 2) := by decide +kernel
theorem dX11_drawMonths_91 : decode cX11_drawMonths 91 = .ok (.invokevirtual 337, 3) := by decide +kernel
theorem dX11_drawMonths_94 : decode cX11_drawMonths 94 = .ok (.iastore, 1) := by decide +kernel
theorem dX11_drawMonths_95 : decode cX11_drawMonths 95 = .ok (.iinc 6 1, 3) := by decide +kernel
theorem dX11_drawMonths_98 : decode cX11_drawMonths 98 = .ok (.goto (-38), 3) := by decide +kernel
theorem dX11_drawMonths_101 : decode cX11_drawMonths 101 = .ok (.aload_n 0, 1) := by decide +kernel
theorem dX11_drawMonths_102 : decode cX11_drawMonths 102 = .ok (.getfield 74, 3) := by decide +kernel
theorem dX11_drawMonths_105 : decode cX11_drawMonths 105 = .ok (.aload_n 0, 1) := by decide +kernel
theorem dX11_drawMonths_106 : decode cX11_drawMonths 106 = .ok (.getfield 42, 3) := by decide +kernel
theorem dX11_drawMonths_109 : decode cX11_drawMonths 109 = .ok (.iconst 0, 1) := by decide +kernel
theorem dX11_drawMonths_110 : decode cX11_drawMonths 110 = .ok (.invokevirtual 183, 3) := by decide +kernel
theorem dX11_drawMonths_113 : decode cX11_drawMonths 113 = .ok (.iload_n 3, 1) := by decide +kernel
theorem dX11_drawMonths_114 : decode cX11_drawMonths 114 = .ok (.aload_n 0, 1) := by decide +kernel
theorem dX11_drawMonths_115 : decode cX11_drawMonths 115 = .ok (.getfield 74, 3) := by decide +kernel
theorem dX11_drawMonths_118 : decode cX11_drawMonths 118 = .ok (.getfield 190, 3) := by decide +kernel
theorem dX11_drawMonths_121 : decode cX11_drawMonths 121 = .ok (.iadd, 1) := by decide +kernel
theorem dX11_drawMonths_122 : decode cX11_drawMonths 122 = .ok (.istore_n 3, 1) := by decide +kernel
theorem dX11_drawMonths_123 : decode cX11_drawMonths 123 = .ok (.iload 4, 2) := by decide +kernel
theorem dX11_drawMonths_125 : decode cX11_drawMonths 125 = .ok (.aload_n 0, 1) := by decide +kernel
theorem dX11_drawMonths_126 : decode cX11_drawMonths 126 = .ok (.getfield 74, 3) := by decide +kernel
theorem dX11_drawMonths_129 : decode cX11_drawMonths 129 = .ok (.getfield 340, 3) := by decide +kernel
theorem dX11_drawMonths_132 : decode cX11_drawMonths 132 = .ok (.iadd, 1) := by decide +kernel
theorem dX11_drawMonths_133 : decode cX11_drawMonths 133 = .ok (.istore 4, 2) := by decide +kernel
theorem dX11_drawMonths_135 : decode cX11_drawMonths 135 = .ok (.aload_n 0, 1) := by decide +kernel
theorem dX11_drawMonths_136 : decode cX11_drawMonths 136 = .ok (.getfield 42, 3) := by decide +kernel
theorem dX11_drawMonths_139 : decode cX11_drawMonths 139 = .ok (.iconst 5, 1) := by decide +kernel
theorem dX11_drawMonths_140 : decode cX11_drawMonths 140 = .ok (.invokevirtual 343, 3) := by decide +kernel
theorem dX11_drawMonths_143 : decode cX11_drawMonths 143 = .ok (.iconst 3, 1) := by decide +kernel
theorem dX11_drawMonths_144 : decode cX11_drawMonths 144 = .ok (.if_icmp .lt 26, 3) := by decide +kernel
theorem dX11_drawMonths_147 : decode cX11_drawMonths 147 = .ok (.aload_n 0, 1) := by decide +kernel
theorem dX11_drawMonths_148 : decode cX11_drawMonths 148 = .ok (.iconst 4, 1) := by decide +kernel
theorem dX11_drawMonths_149 : decode cX11_drawMonths 149 = .ok (.invokevirtual 337, 3) := by decide +kernel
theorem dX11_drawMonths_152 : decode cX11_drawMonths 152 = .ok (.ifCond .ne 18, 3) := by decide +kernel
theorem dX11_drawMonths_155 : decode cX11_drawMonths 155 = .ok (.aload_n 0, 1) := by decide +kernel
theorem dX11_drawMonths_156 : decode cX11_drawMonths 156 = .ok (.getfield 42, 3) := by decide +kernel
theorem dX11_drawMonths_159 : decode cX11_drawMonths 159 = .ok (.aload_n 0, 1) := by decide +kernel
theorem dX11_drawMonths_160 : decode cX11_drawMonths 160 = .ok (.getfield 28, 3) := by decide +kernel
theorem dX11_drawMonths_163 : decode cX11_drawMonths 163 = .ok (.getfield 193, 3) := by decide +kernel
theorem dX11_drawMonths_166 : decode cX11_drawMonths 166 = .ok (.invokevirtual 196, 3) := by decide +kernel
theorem dX11_drawMonths_169 : decode cX11_drawMonths 169 = .ok (.pop, 1) := by decide +kernel
theorem dX11_drawMonths_170 : decode cX11_drawMonths 170 = .ok (.iinc 5 1, 3) := by decide +kernel
theorem dX11_drawMonths_173 : decode cX11_drawMonths 173 = .ok (.goto (-122), 3) := by decide +kernel
theorem dX11_drawMonths_176 : decode cX11_drawMonths 176 = .ok (.aload_n 0, 1) := by decide +kernel
theorem dX11_drawMonths_177 : decode cX11_drawMonths 177 = .ok (.getfield 89, 3) := by decide +kernel
theorem dX11_drawMonths_180 : decode cX11_drawMonths 180 = .ok (.iconst 0, 1) := by decide +kernel
theorem dX11_drawMonths_181 : decode cX11_drawMonths 181 = .ok (.iload_n 3, 1) := by decide +kernel
theorem dX11_drawMonths_182 : decode cX11_drawMonths 182 = .ok (.iastore, 1) := by decide +kernel
theorem dX11_drawMonths_183 : decode cX11_drawMonths 183 = .ok (.aload_n 0, 1) := by decide +kernel
theorem dX11_drawMonths_184 : decode cX11_drawMonths 184 = .ok (.getfield 89, 3) := by decide +kernel
theorem dX11_drawMonths_187 : decode cX11_drawMonths 187 = .ok (.iconst 1, 1) := by decide +kernel
theorem dX11_drawMonths_188 : decode cX11_drawMonths 188 = .ok (.iload 4, 2) := by decide +kernel
theorem dX11_drawMonths_190 : decode cX11_drawMonths 190 = .ok (.iastore, 1) := by decide +kernel
theorem dX11_drawMonths_191 : decode cX11_drawMonths 191 = .ok (.aload_n 0, 1) := by decide +kernel
theorem dX11_drawMonths_192 : decode cX11_drawMonths 192 = .ok (.getfield 89, 3) := by decide +kernel
theorem dX11_drawMonths_195 : decode cX11_drawMonths 195 = .ok (.iconst 2, 1) := by decide +kernel
theorem dX11_drawMonths_196 : decode cX11_drawMonths 196 = .ok (.aload_n 0, 1) := by decide +kernel
theorem dX11_drawMonths_197 : decode cX11_drawMonths 197 = .ok (.getfield 42, 3) := by decide +kernel
theorem dX11_drawMonths_200 : decode cX11_drawMonths 200 = .ok (.getfield 301, 3) := by decide +kernel
theorem dX11_drawMonths_203 : decode cX11_drawMonths 203 = .ok (.iastore, 1) := by decide +kernel
theorem dX11_drawMonths_204 : decode cX11_drawMonths 204 = .ok (.return_, 1) := by decide +kernel
theorem dX11_draw_0 : decode cX11_draw 0 = .ok (.aload_n 0, 1) := by decide +kernel
theorem dX11_draw_1 : decode cX11_draw 1 = .ok (.aload_n 0, 1) := by decide +kernel
theorem dX11_draw_2 : decode cX11_draw 2 = .ok (.getfield 331, 3) := by decide +kernel
theorem dX11_draw_5 : decode cX11_draw 5 = .ok (.ldc2_w 346, 3) := by decide +kernel
theorem dX11_draw_8 : decode cX11_draw 8 = .ok (.lmul, 1) := by decide +kernel
theorem dX11_draw_9 : decode cX11_draw 9 = .ok (.ldc2_w 348, 3) := by decide +kernel
theorem dX11_draw_12 : decode cX11_draw 12 = .ok (.ladd, 1) := by decide +kernel
theorem dX11_draw_13 : decode cX11_draw 13 = .ok (.ldc2_w 350, 3) := by decide +kernel
theorem dX11_draw_16 : decode cX11_draw 16 = .ok (.land, 1) := by decide +kernel
theorem dX11_draw_17 : decode cX11_draw 17 = .ok (.putfield 331, 3) := by decide +kernel
theorem dX11_draw_20 : decode cX11_draw 20 = .ok (.iload_n 1, 1) := by decide +kernel
theorem dX11_draw_21 : decode cX11_draw 21 = .ok (.ifCond .le 18, 3) := by decide +kernel
theorem dX11_draw_24 : decode cX11_draw 24 = .ok (.aload_n 0, 1) := by decide +kernel
theorem dX11_draw_25 : decode cX11_draw 25 = .ok (.getfield 331, 3) := by decide +kernel
theorem dX11_draw_28 : decode cX11_draw 28 = .ok (.ldc2_w 352, 3) := by decide +kernel
theorem dX11_draw_31 : decode cX11_draw 31 = .ok (.ldiv, 1) := by decide +kernel
theorem dX11_draw_32 : decode cX11_draw 32 = .ok (.iload_n 1, 1) := by decide +kernel
theorem dX11_draw_33 : decode cX11_draw 33 = .ok (.i2l, 1) := by decide +kernel
theorem dX11_draw_34 : decode cX11_draw 34 = .ok (.lrem, 1) := by decide +kernel
theorem dX11_draw_35 : decode cX11_draw 35 = .ok (.l2i, 1) := by decide +kernel
theorem dX11_draw_36 : decode cX11_draw 36 = .ok (.goto 4, 3) := by decide +kernel
theorem dX11_draw_39 : decode cX11_draw 39 = .ok (.iconst 0, 1) := by decide +kernel
theorem dX11_draw_40 : decode cX11_draw 40 = .ok (.ireturn, 1) := by decide +kernel
set_option maxRecDepth 20000 in
theorem ggX12_init_X12_usual : GoodIn wsX12_init wsX12_usual := goodIn_r _ [58, 6, 63, 64, 65, 66, 67, 68, 69, 70, 71, 72, 73, 74, 75, 76, 77, 78, 79, 80, 81, 82, 83, 84, 85, 86, 87, 88, 89, 90, 91, 92, 93, 94, 95, 96, 97, 98, 99, 100, 101, 102, 103, 104, 105, 106, 107, 108, 109, 110, 111, 112, 113, 114, 115, 116, 117, 118, 119, 120, 121, 122, 123, 124, 125, 126, 127, 128, 129] (by decide +kernel) (by decide +kernel)
set_option maxRecDepth 20000 in
theorem gX12_init_X12_usual : GoodIn wsX12_init (wsV RX12 153 RX12 yX12_usual wsX12_usual) := goodIn_app (goodIn_of _ (by decide +kernel)) ggX12_init_X12_usual
set_option maxRecDepth 20000 in
theorem ggX12_init_X12_fresh : GoodIn wsX12_init wsX12_fresh := goodIn_r _ [62, 41, 6, 63, 64, 65, 66, 67, 68, 69, 70, 71, 72, 73, 74, 75, 76, 77, 78, 79, 80, 81, 82, 83, 84, 85, 86, 87, 88, 89, 90, 91, 92, 93, 94, 95, 96, 97, 98, 99, 100, 101, 102, 103, 104, 105, 106, 107, 108, 109, 110, 111, 112, 113, 114, 115, 116, 117, 118, 119, 120, 121, 122, 123, 124, 125, 126, 127, 128, 129] (by decide +kernel) (by decide +kernel)
set_option maxRecDepth 20000 in
theorem gX12_init_X12_fresh : GoodIn wsX12_init (wsV RX12 157 RX12 yX12_fresh wsX12_fresh) := goodIn_app (goodIn_of _ (by decide +kernel)) ggX12_init_X12_fresh
theorem dX12_init_0 : decode cX12_init 0 = .ok (.aload_n 0, 1) := by decide +kernel
theorem dX12_init_1 : decode cX12_init 1 = .ok (.invokespecial 1, 3) := by decide +kernel
theorem dX12_init_4 : decode cX12_init 4 = .ok (.aload_n 0, 1) := by decide +kernel
theorem dX12_init_5 : decode cX12_init 5 = .ok (.sipush 1000, 3) := by decide +kernel
theorem dX12_init_8 : decode cX12_init 8 = .ok (.newarray .int, 2) := by decide +kernel
theorem dX12_init_10 : decode cX12_init 10 = .ok (.putfield 7, 3) := by decide +kernel
theorem dX12_init_13 : decode cX12_init 13 = .ok (.aload_n 0, 1) := by decide +kernel
theorem dX12_init_14 : decode cX12_init 14 = .ok (.bipush 14, 2) := by decide +kernel
theorem dX12_init_16 : decode cX12_init 16 = .ok (.newarray .int, 2) := by decide +kernel
theorem dX12_init_18 : decode cX12_init 18 = .ok (.putfield 13, 3) := by decide +kernel
theorem dX12_init_21 : decode cX12_init 21 = .ok (.aload_n 0, 1) := by decide +kernel
theorem dX12_init_22 : decode cX12_init 22 = .ok (.bipush 10, 2) := by decide +kernel
theorem dX12_init_24 : decode cX12_init 24 = .ok (.newarray .long, 2) := by decide +kernel
theorem dX12_init_26 : decode cX12_init 26 = .ok (.putfield 16, 3) := by decide +kernel
theorem dX12_init_29 : decode cX12_init 29 = .ok (.aload_n 0, 1) := by decide +kernel
theorem dX12_init_30 : decode cX12_init 30 = .ok (.bipush 14, 2) := by decide +kernel
theorem dX12_init_32 : decode cX12_init 32 = .ok (.newarray .long, 2) := by decide +kernel
theorem dX12_init_34 : decode cX12_init 34 = .ok (.putfield 20, 3) := by decide +kernel
theorem dX12_init_37 : decode cX12_init 37 = .ok (.aload_n 0, 1) := by decide +kernel
theorem dX12_init_38 : decode cX12_init 38 = .ok (.bipush 90, 2) := by decide +kernel
theorem dX12_init_40 : decode cX12_init 40 = .ok (.newarray .int, 2) := by decide +kernel
theorem dX12_init_42 : decode cX12_init 42 = .ok (.putfield 23, 3) := by decide +kernel
theorem dX12_init_45 : decode cX12_init 45 = .ok (.aload_n 0, 1) := by decide +kernel
theorem dX12_init_46 : decode cX12_init 46 = .ok (.bipush 10, 2) := by decide +kernel
theorem dX12_init_48 : decode cX12_init 48 = .ok (.newarray .int, 2) := by decide +kernel
theorem dX12_init_50 : decode cX12_init 50 = .ok (.putfield 26, 3) := by decide +kernel
theorem dX12_init_53 : decode cX12_init 53 = .ok (.aload_n 0, 1) := by decide +kernel
theorem dX12_init_54 : decode cX12_init 54 = .ok (.bipush 14, 2) := by decide +kernel
theorem dX12_init_56 : decode cX12_init 56 = .ok (.newarray .int, 2) := by decide +kernel
theorem dX12_init_58 : decode cX12_init 58 = .ok (.putfield 29, 3) := by decide +kernel
theorem dX12_init_61 : decode cX12_init 61 = .ok (.aload_n 0, 1) := by decide +kernel
theorem dX12_init_62 : decode cX12_init 62 = .ok (.bipush 14, 2) := by decide +kernel
theorem dX12_init_64 : decode cX12_init 64 = .ok (.newarray .int, 2) := by decide +kernel
theorem dX12_init_66 : decode cX12_init 66 = .ok (.putfield 32, 3) := by decide +kernel
theorem dX12_init_69 : decode cX12_init 69 = .ok (.aload_n 0, 1) := by decide +kernel
theorem dX12_init_70 : decode cX12_init 70 = .ok (.bipush 14, 2) := by decide +kernel
theorem dX12_init_72 : decode cX12_init 72 = .ok (.newarray .int, 2) := by decide +kernel
theorem dX12_init_74 : decode cX12_init 74 = .ok (.putfield 35, 3) := by decide +kernel
theorem dX12_init_77 : decode cX12_init 77 = .ok (.aload_n 0, 1) := by decide +kernel
theorem dX12_init_78 : decode cX12_init 78 = .ok (.bipush 14, 2) := by decide +kernel
theorem dX12_init_80 : decode cX12_init 80 = .ok (.newarray .int, 2) := by decide +kernel
theorem dX12_init_82 : decode cX12_init 82 = .ok (.putfield 38, 3) := by decide +kernel
theorem dX12_init_85 : decode cX12_init 85 = .ok (.aload_n 0, 1) := by decide +kernel
theorem dX12_init_86 : decode cX12_init 86 = .ok (.bipush 14, 2) := by decide +kernel
theorem dX12_init_88 : decode cX12_init 88 = .ok (.newarray .int, 2) := by decide +kernel
theorem dX12_init_90 : decode cX12_init 90 = .ok (.putfield 41, 3) := by decide +kernel
theorem dX12_init_93 : decode cX12_init 93 = .ok (.aload_n 0, 1) := by decide +kernel
theorem dX12_init_94 : decode cX12_init 94 = .ok (.bipush 14, 2) := by decide +kernel
theorem dX12_init_96 : decode cX12_init 96 = .ok (.newarray .int, 2) := by decide +kernel
theorem dX12_init_98 : decode cX12_init 98 = .ok (.putfield 44, 3) := by decide +kernel
theorem dX12_init_101 : decode cX12_init 101 = .ok (.aload_n 0, 1) := by decide +kernel
theorem dX12_init_102 : decode cX12_init 102 = .ok (.iconst 4, 1) := by decide +kernel
theorem dX12_init_103 : decode cX12_init 103 = .ok (.newarray .int, 2) := by decide +kernel
theorem dX12_init_105 : decode cX12_init 105 = .ok (.putfield 47, 3) := by decide +kernel
theorem dX12_init_108 : decode cX12_init 108 = .ok (.aload_n 0, 1) := by decide +kernel
theorem dX12_init_109 : decode cX12_init 109 = .ok (.iconst 4, 1) := by decide +kernel
theorem dX12_init_110 : decode cX12_init 110 = .ok (.newarray .int, 2) := by decide +kernel
theorem dX12_init_112 : decode cX12_init 112 = .ok (.putfield 50, 3) := by decide +kernel
theorem dX12_init_115 : decode cX12_init 115 = .ok (.aload_n 0, 1) := by decide +kernel
theorem dX12_init_116 : decode cX12_init 116 = .ok (.sipush 2000, 3) := by decide +kernel
theorem dX12_init_119 : decode cX12_init 119 = .ok (.newarray .int, 2) := by decide +kernel
theorem dX12_init_121 : decode cX12_init 121 = .ok (.putfield 53, 3) := by decide +kernel
theorem dX12_init_124 : decode cX12_init 124 = .ok (.aload_n 0, 1) := by decide +kernel
theorem dX12_init_125 : decode cX12_init 125 = .ok (.bipush 7, 2) := by decide +kernel
theorem dX12_init_127 : decode cX12_init 127 = .ok (.newarray .int, 2) := by decide +kernel
theorem dX12_init_129 : decode cX12_init 129 = .ok (.putfield 56, 3) := by decide +kernel
theorem dX12_init_132 : decode cX12_init 132 = .ok (.aload_n 0, 1) := by decide +kernel
theorem dX12_init_133 : decode cX12_init 133 = .ok (.bipush 7, 2) := by decide +kernel
theorem dX12_init_135 : decode cX12_init 135 = .ok (.newarray .boolean, 2) := by decide +kernel
theorem dX12_init_137 : decode cX12_init 137 = .ok (.putfield 59, 3) := by decide +kernel
theorem dX12_init_140 : decode cX12_init 140 = .ok (.aload_n 0, 1) := by decide +kernel
theorem dX12_init_141 : decode cX12_init 141 = .ok (.bipush 7, 2) := by decide +kernel
theorem dX12_init_143 : decode cX12_init 143 = .ok (.newarray .int, 2) := by decide +kernel
theorem dX12_init_145 : decode cX12_init 145 = .ok (.putfield 63, 3) := by decide +kernel
theorem dX12_init_148 : decode cX12_init 148 = .ok (.aload_n 0, 1) := by decide +kernel
theorem dX12_init_149 : decode cX12_init 149 = .ok (.bipush 7, 2) := by decide +kernel
theorem dX12_init_151 : decode cX12_init 151 = .ok (.newarray .int, 2) := by decide +kernel
theorem dX12_init_153 : decode cX12_init 153 = .ok (.putfield 66, 3) := by decide +kernel
theorem dX12_init_156 : decode cX12_init 156 = .ok (.aload_n 0, 1) := by decide +kernel
theorem dX12_init_157 : decode cX12_init 157 = .ok (.bipush 7, 2) := by decide +kernel
theorem dX12_init_159 : decode cX12_init 159 = .ok (.newarray .int, 2) := by decide +kernel
theorem dX12_init_161 : decode cX12_init 161 = .ok (.putfield 69, 3) := by decide +kernel
theorem dX12_init_164 : decode cX12_init 164 = .ok (.aload_n 0, 1) := by decide +kernel
theorem dX12_init_165 : decode cX12_init 165 = .ok (.bipush 7, 2) := by decide +kernel
theorem dX12_init_167 : decode cX12_init 167 = .ok (.newarray .int, 2) := by decide +kernel
theorem dX12_init_169 : decode cX12_init 169 = .ok (.putfield 72, 3) := by decide +kernel
theorem dX12_init_172 : decode cX12_init 172 = .ok (.aload_n 0, 1) := by decide +kernel
theorem dX12_init_173 : decode cX12_init 173 = .ok (.bipush 7, 2) := by decide +kernel
theorem dX12_init_175 : decode cX12_init 175 = .ok (.newarray .int, 2) := by decide +kernel
theorem dX12_init_177 : decode cX12_init 177 = .ok (.putfield 75, 3) := by decide +kernel
theorem dX12_init_180 : decode cX12_init 180 = .ok (.aload_n 0, 1) := by decide +kernel
theorem dX12_init_181 : decode cX12_init 181 = .ok (.bipush 7, 2) := by decide +kernel
theorem dX12_init_183 : decode cX12_init 183 = .ok (.newarray .int, 2) := by decide +kernel
theorem dX12_init_185 : decode cX12_init 185 = .ok (.putfield 78, 3) := by decide +kernel
theorem dX12_init_188 : decode cX12_init 188 = .ok (.aload_n 0, 1) := by decide +kernel
theorem dX12_init_189 : decode cX12_init 189 = .ok (.bipush 7, 2) := by decide +kernel
theorem dX12_init_191 : decode cX12_init 191 = .ok (.newarray .int, 2) := by decide +kernel
theorem dX12_init_193 : decode cX12_init 193 = .ok (.putfield 81, 3) := by decide +kernel
theorem dX12_init_196 : decode cX12_init 196 = .ok (.aload_n 0, 1) := by decide +kernel
theorem dX12_init_197 : decode cX12_init 197 = .ok (.bipush 7, 2) := by decide +kernel
theorem dX12_init_199 : decode cX12_init 199 = .ok (.newarray .int, 2) := by decide +kernel
theorem dX12_init_201 : decode cX12_init 201 = .ok (.putfield 84, 3) := by decide +kernel
theorem dX12_init_204 : decode cX12_init 204 = .ok (.aload_n 0, 1) := by decide +kernel
theorem dX12_init_205 : decode cX12_init 205 = .ok (.bipush 7, 2) := by decide +kernel
theorem dX12_init_207 : decode cX12_init 207 = .ok (.newarray .int, 2) := by decide +kernel
theorem dX12_init_209 : decode cX12_init 209 = .ok (.putfield 87, 3) := by decide +kernel
theorem dX12_init_212 : decode cX12_init 212 = .ok (.aload_n 0, 1) := by decide +kernel
theorem dX12_init_213 : decode cX12_init 213 = .ok (.bipush 20, 2) := by decide +kernel
theorem dX12_init_215 : decode cX12_init 215 = .ok (.newarray .int, 2) := by decide +kernel
theorem dX12_init_217 : decode cX12_init 217 = .ok (.putfield 90, 3) := by decide +kernel
theorem dX12_init_220 : decode cX12_init 220 = .ok (.aload_n 0, 1) := by decide +kernel
theorem dX12_init_221 : decode cX12_init 221 = .ok (.bipush 6, 2) := by decide +kernel
theorem dX12_init_223 : decode cX12_init 223 = .ok (.newarray .int, 2) := by decide +kernel
theorem dX12_init_225 : decode cX12_init 225 = .ok (.putfield 93, 3) := by decide +kernel
theorem dX12_init_228 : decode cX12_init 228 = .ok (.aload_n 0, 1) := by decide +kernel
theorem dX12_init_229 : decode cX12_init 229 = .ok (.sipush 240, 3) := by decide +kernel
theorem dX12_init_232 : decode cX12_init 232 = .ok (.newarray .int, 2) := by decide +kernel
theorem dX12_init_234 : decode cX12_init 234 = .ok (.putfield 96, 3) := by decide +kernel
theorem dX12_init_237 : decode cX12_init 237 = .ok (.aload_n 0, 1) := by decide +kernel
theorem dX12_init_238 : decode cX12_init 238 = .ok (.sipush 240, 3) := by decide +kernel
theorem dX12_init_241 : decode cX12_init 241 = .ok (.newarray .int, 2) := by decide +kernel
theorem dX12_init_243 : decode cX12_init 243 = .ok (.putfield 99, 3) := by decide +kernel
theorem dX12_init_246 : decode cX12_init 246 = .ok (.aload_n 0, 1) := by decide +kernel
theorem dX12_init_247 : decode cX12_init 247 = .ok (.sipush 240, 3) := by decide +kernel
theorem dX12_init_250 : decode cX12_init 250 = .ok (.newarray .int, 2) := by decide +kernel
theorem dX12_init_252 : decode cX12_init 252 = .ok (.putfield 102, 3) := by decide +kernel
theorem dX12_init_255 : decode cX12_init 255 = .ok (.aload_n 0, 1) := by decide +kernel
theorem dX12_init_256 : decode cX12_init 256 = .ok (.iconst 5, 1) := by decide +kernel
theorem dX12_init_257 : decode cX12_init 257 = .ok (.newarray .int, 2) := by decide +kernel
theorem dX12_init_259 : decode cX12_init 259 = .ok (.putfield 105, 3) := by decide +kernel
theorem dX12_init_262 : decode cX12_init 262 = .ok (.aload_n 0, 1) := by decide +kernel
theorem dX12_init_263 : decode cX12_init 263 = .ok (.bipush 40, 2) := by decide +kernel
theorem dX12_init_265 : decode cX12_init 265 = .ok (.newarray .int, 2) := by decide +kernel
theorem dX12_init_267 : decode cX12_init 267 = .ok (.putfield 108, 3) := by decide +kernel
theorem dX12_init_270 : decode cX12_init 270 = .ok (.aload_n 0, 1) := by decide +kernel
theorem dX12_init_271 : decode cX12_init 271 = .ok (.bipush 40, 2) := by decide +kernel
theorem dX12_init_273 : decode cX12_init 273 = .ok (.newarray .int, 2) := by decide +kernel
theorem dX12_init_275 : decode cX12_init 275 = .ok (.putfield 111, 3) := by decide +kernel
theorem dX12_init_278 : decode cX12_init 278 = .ok (.aload_n 0, 1) := by decide +kernel
theorem dX12_init_279 : decode cX12_init 279 = .ok (.bipush 17, 2) := by decide +kernel
theorem dX12_init_281 : decode cX12_init 281 = .ok (.newarray .int, 2) := by decide +kernel
theorem dX12_init_283 : decode cX12_init 283 = .ok (.putfield 114, 3) := by decide +kernel
theorem dX12_init_286 : decode cX12_init 286 = .ok (.aload_n 0, 1) := by decide +kernel
theorem dX12_init_287 : decode cX12_init 287 = .ok (.bipush 17, 2) := by decide +kernel
theorem dX12_init_289 : decode cX12_init 289 = .ok (.newarray .int, 2) := by decide +kernel
theorem dX12_init_291 : decode cX12_init 291 = .ok (.putfield 117, 3) := by decide +kernel
theorem dX12_init_294 : decode cX12_init 294 = .ok (.aload_n 0, 1) := by decide +kernel
theorem dX12_init_295 : decode cX12_init 295 = .ok (.bipush 17, 2) := by decide +kernel
theorem dX12_init_297 : decode cX12_init 297 = .ok (.newarray .int, 2) := by decide +kernel
theorem dX12_init_299 : decode cX12_init 299 = .ok (.putfield 120, 3) := by decide +kernel
theorem dX12_init_302 : decode cX12_init 302 = .ok (.aload_n 0, 1) := by decide +kernel
theorem dX12_init_303 : decode cX12_init 303 = .ok (.bipush 68, 2) := by decide +kernel
theorem dX12_init_305 : decode cX12_init 305 = .ok (.newarray .int, 2) := by decide +kernel
theorem dX12_init_307 : decode cX12_init 307 = .ok (.putfield 123, 3) := by decide +kernel
theorem dX12_init_310 : decode cX12_init 310 = .ok (.aload_n 0, 1) := by decide +kernel
theorem dX12_init_311 : decode cX12_init 311 = .ok (.sipush 272, 3) := by decide +kernel
theorem dX12_init_314 : decode cX12_init 314 = .ok (.newarray .int, 2) := by decide +kernel
theorem dX12_init_316 : decode cX12_init 316 = .ok (.putfield 126, 3) := by decide +kernel
theorem dX12_init_319 : decode cX12_init 319 = .ok (.aload_n 0, 1) := by decide +kernel
theorem dX12_init_320 : decode cX12_init 320 = .ok (.iconst 4, 1) := by decide +kernel
theorem dX12_init_321 : decode cX12_init 321 = .ok (.newarray .boolean, 2) := by decide +kernel
theorem dX12_init_323 : decode cX12_init 323 = .ok (.putfield 129, 3) := by decide +kernel
theorem dX12_init_326 : decode cX12_init 326 = .ok (.aload_n 0, 1) := by decide +kernel
theorem dX12_init_327 : decode cX12_init 327 = .ok (.bipush 7, 2) := by decide +kernel
theorem dX12_init_329 : decode cX12_init 329 = .ok (.newarray .int, 2) := by decide +kernel
theorem dX12_init_331 : decode cX12_init 331 = .ok (.putfield 132, 3) := by decide +kernel
theorem dX12_init_334 : decode cX12_init 334 = .ok (.aload_n 0, 1) := by decide +kernel
theorem dX12_init_335 : decode cX12_init 335 = .ok (.bipush 7, 2) := by decide +kernel
theorem dX12_init_337 : decode cX12_init 337 = .ok (.newarray .int, 2) := by decide +kernel
theorem dX12_init_339 : decode cX12_init 339 = .ok (.putfield 135, 3) := by decide +kernel
theorem dX12_init_342 : decode cX12_init 342 = .ok (.aload_n 0, 1) := by decide +kernel
theorem dX12_init_343 : decode cX12_init 343 = .ok (.bipush 7, 2) := by decide +kernel
theorem dX12_init_345 : decode cX12_init 345 = .ok (.newarray .int, 2) := by decide +kernel
theorem dX12_init_347 : decode cX12_init 347 = .ok (.putfield 138, 3) := by decide +kernel
theorem dX12_init_350 : decode cX12_init 350 = .ok (.aload_n 0, 1) := by decide +kernel
theorem dX12_init_351 : decode cX12_init 351 = .ok (.bipush 7, 2) := by decide +kernel
theorem dX12_init_353 : decode cX12_init 353 = .ok (.newarray .int, 2) := by decide +kernel
theorem dX12_init_355 : decode cX12_init 355 = .ok (.putfield 141, 3) := by decide +kernel
theorem dX12_init_358 : decode cX12_init 358 = .ok (.aload_n 0, 1) := by decide +kernel
theorem dX12_init_359 : decode cX12_init 359 = .ok (.bipush 60, 2) := by decide +kernel
theorem dX12_init_361 : decode cX12_init 361 = .ok (.newarray .int, 2) := by decide +kernel
theorem dX12_init_363 : decode cX12_init 363 = .ok (.putfield 144, 3) := by decide +kernel
theorem dX12_init_366 : decode cX12_init 366 = .ok (.aload_n 0, 1) := by decide +kernel
theorem dX12_init_367 : decode cX12_init 367 = .ok (.bipush 7, 2) := by decide +kernel
theorem dX12_init_369 : decode cX12_init 369 = .ok (.newarray .int, 2) := by decide +kernel
theorem dX12_init_371 : decode cX12_init 371 = .ok (.putfield 147, 3) := by decide +kernel
theorem dX12_init_374 : decode cX12_init 374 = .ok (.aload_n 0, 1) := by decide +kernel
theorem dX12_init_375 : decode cX12_init 375 = .ok (.bipush 10, 2) := by decide +kernel
theorem dX12_init_377 : decode cX12_init 377 = .ok (.newarray .int, 2) := by decide +kernel
theorem dX12_init_379 : decode cX12_init 379 = .ok (.putfield 150, 3) := by decide +kernel
theorem dX12_init_382 : decode cX12_init 382 = .ok (.aload_n 0, 1) := by decide +kernel
theorem dX12_init_383 : decode cX12_init 383 = .ok (.iconst 0, 1) := by decide +kernel
theorem dX12_init_384 : decode cX12_init 384 = .ok (.invokevirtual 153, 3) := by decide +kernel
theorem dX12_init_387 : decode cX12_init 387 = .ok (.aload_n 0, 1) := by decide +kernel
theorem dX12_init_388 : decode cX12_init 388 = .ok (.invokevirtual 157, 3) := by decide +kernel
