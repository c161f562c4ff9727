theorem dX5_mayBeNewName_7 : decode cX5_mayBeNewName 7 = .ok (.aload_n 0, 1) := by decide +kernel
theorem dX5_mayBeNewName_8 : decode cX5_mayBeNewName 8 = .ok (.iconst 1, 1) := by decide +kernel
theorem dX5_mayBeNewName_9 : decode cX5_mayBeNewName 9 = .ok (.invokevirtual 48, 3) := by decide +kernel
theorem dX5_mayBeNewName_12 : decode cX5_mayBeNewName 12 = .ok (.ireturn, 1) := by decide +kernel
theorem dX5_mayBeNewName_13 : decode cX5_mayBeNewName 13 = .ok (.aload_n 1, 1) := by decide +kernel
theorem dX5_mayBeNewName_14 : decode cX5_mayBeNewName 14 = .ok (.aload_n 0, 1) := by decide +kernel
theorem dX5_mayBeNewName_15 : decode cX5_mayBeNewName 15 = .ok (.getfield 9, 3) := by decide +kernel
theorem dX5_mayBeNewName_18 : decode cX5_mayBeNewName 18 = .ok (.getfield 72, 3) := by decide +kernel
theorem dX5_mayBeNewName_21 : decode cX5_mayBeNewName 21 = .ok (.invokevirtual 76, 3) := by decide +kernel
theorem dX5_mayBeNewName_24 : decode cX5_mayBeNewName 24 = .ok (.ifCond .eq 11, 3) := by decide +kernel
theorem dX5_mayBeNewName_27 : decode cX5_mayBeNewName 27 = .ok (.aload_n 0, 1) := by decide +kernel
theorem dX5_mayBeNewName_28 : decode cX5_mayBeNewName 28 = .ok (.iconst 3, 1) := by decide +kernel
theorem dX5_mayBeNewName_29 : decode cX5_mayBeNewName 29 = .ok (.invokevirtual 48, 3) := by decide +kernel
theorem dX5_mayBeNewName_32 : decode cX5_mayBeNewName 32 = .ok (.goto 4, 3) := by decide +kernel
theorem dX5_mayBeNewName_35 : decode cX5_mayBeNewName 35 = .ok (.iconst 1, 1) := by decide +kernel
theorem dX5_mayBeNewName_36 : decode cX5_mayBeNewName 36 = .ok (.ireturn, 1) := by decide +kernel
set_option maxRecDepth 20000 in
theorem ggX5_weekLine_X5_wrong : GoodIn wsX5_weekLine wsX5_wrong := goodIn_r _ [7, 1, 8, 160, 161, 162, 163, 164, 165, 166, 167, 168, 169] (by decide +kernel) (by decide +kernel)
set_option maxRecDepth 20000 in
theorem gX5_weekLine_X5_wrong : GoodIn wsX5_weekLine (wsV RX5 48 RX5 yX5_wrong wsX5_wrong) := goodIn_app (goodIn_of _ (by decide +kernel)) ggX5_weekLine_X5_wrong
set_option maxRecDepth 20000 in
theorem ggX5_weekLine_X9_advance : GoodIn wsX5_weekLine wsX9_advance := goodIn_r _ [13, 14, 15, 16, 17, 18, 19, 20, 21, 22, 23, 12, 24, 25, 26, 27, 28, 29, 30, 31, 32, 33, 34, 35, 36, 37, 38, 39, 40, 41, 42, 43, 44, 45, 46, 47, 48, 49, 50, 51, 52, 53, 54, 55, 56, 57, 58, 59, 60, 61, 62, 63, 64, 65, 66, 67, 68, 69, 70, 71, 72, 73, 74, 75, 76, 77, 78, 79, 80, 81, 82, 83, 84, 85, 86, 87, 88, 89, 90, 91, 92, 93, 94, 95, 96, 97, 98, 99, 100, 101, 102, 103, 104, 105, 106, 107, 108, 109, 110, 111, 112, 113, 114, 115, 116, 117, 118, 119, 120, 121, 122, 123, 124, 125, 126, 127, 128, 129, 130, 131, 132, 133, 134, 135, 136, 137, 138, 163, 164, 165, 166, 167, 168, 169] (by decide +kernel) (by decide +kernel)
set_option maxRecDepth 20000 in
theorem gX5_weekLine_X9_advance : GoodIn wsX5_weekLine (wsV RX5 52 RX9 yX9_advance wsX9_advance) := goodIn_app (goodIn_of _ (by decide +kernel)) ggX5_weekLine_X9_advance
set_option maxRecDepth 20000 in
theorem ggX5_weekLine_X5_takeNumber : GoodIn wsX5_weekLine wsX5_takeNumber := goodIn_r _ [142, 1, 2, 3, 4, 5, 6, 7, 8, 9, 10, 11, 12, 13, 14, 15, 16, 17, 18, 19, 20, 21, 22, 23, 24, 25, 26, 27, 28, 29, 30, 31, 32, 33, 34, 35, 36, 37, 38, 39, 40, 41, 42, 43, 44, 45, 46, 47, 48, 49, 50, 51, 52, 53, 54, 55, 56, 57, 58, 59, 60, 61, 62, 63, 64, 65, 66, 67, 68, 69, 70, 71, 72, 73, 74, 75, 76, 77, 78, 79, 80, 81, 82, 83, 84, 85, 86, 87, 88, 89, 90, 91, 92, 93, 94, 95, 96, 97, 98, 99, 100, 101, 102, 103, 104, 105, 106, 107, 108, 109, 110, 111, 112, 113, 114, 115, 116, 117, 118, 119, 120, 121, 122, 123, 124, 125, 126, 127, 128, 129, 130, 131, 132, 133, 134, 135, 136, 137, 138, 160, 161, 162, 163, 164, 165, 166, 167, 168, 169] (by decide +kernel) (by decide +kernel)
set_option maxRecDepth 20000 in
theorem gX5_weekLine_X5_takeNumber : GoodIn wsX5_weekLine (wsV RX5 64 RX5 yX5_takeNumber wsX5_takeNumber) := goodIn_app (goodIn_of _ (by decide +kernel)) ggX5_weekLine_X5_takeNumber
set_option maxRecDepth 20000 in
theorem ggX5_weekLine_X5_takeValue : GoodIn wsX5_weekLine wsX5_takeValue := goodIn_r _ [146, 147, 148, 149, 6, 150, 1, 3, 4, 5, 7, 8, 9, 10, 11, 12, 13, 14, 15, 16, 17, 18, 19, 20, 21, 22, 23, 24, 25, 26, 27, 28, 29, 30, 31, 32, 33, 34, 35, 36, 37, 38, 39, 40, 41, 42, 43, 44, 45, 46, 47, 48, 49, 50, 51, 52, 53, 54, 55, 56, 57, 58, 59, 60, 61, 62, 63, 64, 65, 66, 67, 68, 69, 70, 71, 72, 73, 74, 75, 76, 77, 78, 79, 80, 81, 82, 83, 84, 85, 86, 87, 88, 89, 90, 91, 92, 93, 94, 95, 96, 97, 98, 99, 100, 101, 102, 103, 104, 105, 106, 107, 108, 109, 110, 111, 112, 113, 114, 115, 116, 117, 118, 119, 120, 121, 122, 123, 124, 125, 126, 127, 128, 129, 130, 131, 132, 133, 134, 135, 136, 137, 138, 139, 140, 141, 142, 2, 160, 161, 162, 163, 164, 165, 166, 167, 168, 169] (by decide +kernel) (by decide +kernel)
set_option maxRecDepth 20000 in
theorem gX5_weekLine_X5_takeValue : GoodIn wsX5_weekLine (wsV RX5 80 RX5 yX5_takeValue wsX5_takeValue) := goodIn_app (goodIn_of _ (by decide +kernel)) ggX5_weekLine_X5_takeValue
set_option maxRecDepth 20000 in
theorem ggX5_weekLine_X10_add : GoodIn wsX5_weekLine wsX10_add := goodIn_r _ [155, 156, 157, 158, 159, 170, 171, 172, 173] (by decide +kernel) (by decide +kernel)
set_option maxRecDepth 20000 in
theorem gX5_weekLine_X10_add : GoodIn wsX5_weekLine (wsV RX5 84 RX10 yX10_add wsX10_add) := goodIn_app (goodIn_of _ (by decide +kernel)) ggX5_weekLine_X10_add
set_option maxRecDepth 20000 in
theorem ggX5_weekLine_X5_take : GoodIn wsX5_weekLine wsX5_take := goodIn_r _ [150, 1, 3, 4, 5, 6, 7, 8, 9, 10, 11, 12, 13, 14, 15, 16, 17, 18, 19, 20, 21, 22, 23, 24, 25, 26, 27, 28, 29, 30, 31, 32, 33, 34, 35, 36, 37, 38, 39, 40, 41, 42, 43, 44, 45, 46, 47, 48, 49, 50, 51, 52, 53, 54, 55, 56, 57, 58, 59, 60, 61, 62, 63, 64, 65, 66, 67, 68, 69, 70, 71, 72, 73, 74, 75, 76, 77, 78, 79, 80, 81, 82, 83, 84, 85, 86, 87, 88, 89, 90, 91, 92, 93, 94, 95, 96, 97, 98, 99, 100, 101, 102, 103, 104, 105, 106, 107, 108, 109, 110, 111, 112, 113, 114, 115, 116, 117, 118, 119, 120, 121, 122, 123, 124, 125, 126, 127, 128, 129, 130, 131, 132, 133, 134, 135, 136, 137, 138, 160, 161, 162, 163, 164, 165, 166, 167, 168, 169] (by decide +kernel) (by decide +kernel)
set_option maxRecDepth 20000 in
theorem gX5_weekLine_X5_take : GoodIn wsX5_weekLine (wsV RX5 61 RX5 yX5_take wsX5_take) := goodIn_app (goodIn_of _ (by decide +kernel)) ggX5_weekLine_X5_take
theorem dX5_weekLine_0 : decode cX5_weekLine 0 = .ok (.aload_n 0, 1) := by decide +kernel
theorem dX5_weekLine_1 : decode cX5_weekLine 1 = .ok (.getfield 9, 3) := by decide +kernel
theorem dX5_weekLine_4 : decode cX5_weekLine 4 = .ok (.getfield 29, 3) := by decide +kernel
theorem dX5_weekLine_7 : decode cX5_weekLine 7 = .ok (.istore_n 2, 1) := by decide +kernel
theorem dX5_weekLine_8 : decode cX5_weekLine 8 = .ok (.iload_n 2, 1) := by decide +kernel
theorem dX5_weekLine_9 : decode cX5_weekLine 9 = .ok (.bipush 14, 2) := by decide +kernel
theorem dX5_weekLine_11 : decode cX5_weekLine 11 = .ok (.if_icmp .eq 27, 3) := by decide +kernel
theorem dX5_weekLine_14 : decode cX5_weekLine 14 = .ok (.iload_n 2, 1) := by decide +kernel
theorem dX5_weekLine_15 : decode cX5_weekLine 15 = .ok (.bipush 15, 2) := by decide +kernel
theorem dX5_weekLine_17 : decode cX5_weekLine 17 = .ok (.if_icmp .eq 21, 3) := by decide +kernel
theorem dX5_weekLine_20 : decode cX5_weekLine 20 = .ok (.iload_n 2, 1) := by decide +kernel
theorem dX5_weekLine_21 : decode cX5_weekLine 21 = .ok (.bipush 8, 2) := by decide +kernel
theorem dX5_weekLine_23 : decode cX5_weekLine 23 = .ok (.if_icmp .eq 15, 3) := by decide +kernel
theorem dX5_weekLine_26 : decode cX5_weekLine 26 = .ok (.iload_n 2, 1) := by decide +kernel
theorem dX5_weekLine_27 : decode cX5_weekLine 27 = .ok (.bipush 9, 2) := by decide +kernel
theorem dX5_weekLine_29 : decode cX5_weekLine 29 = .ok (.if_icmp .eq 9, 3) := by decide +kernel
theorem dX5_weekLine_32 : decode cX5_weekLine 32 = .ok (.aload_n 0, 1) := by decide +kernel
theorem dX5_weekLine_33 : decode cX5_weekLine 33 = .ok (.iconst 1, 1) := by decide +kernel
theorem dX5_weekLine_34 : decode cX5_weekLine 34 = .ok (.invokevirtual 48, 3) := by decide +kernel
theorem dX5_weekLine_37 : decode cX5_weekLine 37 = .ok (.ireturn, 1) := by decide +kernel
theorem dX5_weekLine_38 : decode cX5_weekLine 38 = .ok (.aload_n 1, 1) := by decide +kernel
theorem dX5_weekLine_39 : decode cX5_weekLine 39 = .ok (.getfield 36, 3) := by decide +kernel
theorem dX5_weekLine_42 : decode cX5_weekLine 42 = .ok (.bipush 40, 2) := by decide +kernel
theorem dX5_weekLine_44 : decode cX5_weekLine 44 = .ok (.if_icmp .lt 9, 3) := by decide +kernel
theorem dX5_weekLine_47 : decode cX5_weekLine 47 = .ok (.aload_n 0, 1) := by decide +kernel
theorem dX5_weekLine_48 : decode cX5_weekLine 48 = .ok (.iconst 5, 1) := by decide +kernel
theorem dX5_weekLine_49 : decode cX5_weekLine 49 = .ok (.invokevirtual 48, 3) := by decide +kernel
theorem dX5_weekLine_52 : decode cX5_weekLine 52 = .ok (.ireturn, 1) := by decide +kernel
theorem dX5_weekLine_53 : decode cX5_weekLine 53 = .ok (.iconst 0, 1) := by decide +kernel
theorem dX5_weekLine_54 : decode cX5_weekLine 54 = .ok (.istore_n 3, 1) := by decide +kernel
theorem dX5_weekLine_55 : decode cX5_weekLine 55 = .ok (.iconst 0, 1) := by decide +kernel
theorem dX5_weekLine_56 : decode cX5_weekLine 56 = .ok (.istore 4, 2) := by decide +kernel
theorem dX5_weekLine_58 : decode cX5_weekLine 58 = .ok (.aload_n 0, 1) := by decide +kernel
theorem dX5_weekLine_59 : decode cX5_weekLine 59 = .ok (.getfield 9, 3) := by decide +kernel
theorem dX5_weekLine_62 : decode cX5_weekLine 62 = .ok (.invokevirtual 52, 3) := by decide +kernel
theorem dX5_weekLine_65 : decode cX5_weekLine 65 = .ok (.iload_n 2, 1) := by decide +kernel
theorem dX5_weekLine_66 : decode cX5_weekLine 66 = .ok (.bipush 8, 2) := by decide +kernel
theorem dX5_weekLine_68 : decode cX5_weekLine 68 = .ok (.if_icmp .ne 23, 3) := by decide +kernel
theorem dX5_weekLine_71 : decode cX5_weekLine 71 = .ok (.aload_n 0, 1) := by decide +kernel
theorem dX5_weekLine_72 : decode cX5_weekLine 72 = .ok (.iconst 1, 1) := by decide +kernel
theorem dX5_weekLine_73 : decode cX5_weekLine 73 = .ok (.bipush 30, 2) := by decide +kernel
theorem dX5_weekLine_75 : decode cX5_weekLine 75 = .ok (.invokevirtual 64, 3) := by decide +kernel
theorem dX5_weekLine_78 : decode cX5_weekLine 78 = .ok (.ifCond .ne 5, 3) := by decide +kernel
theorem dX5_weekLine_81 : decode cX5_weekLine 81 = .ok (.iconst 0, 1) := by decide +kernel
theorem dX5_weekLine_82 : decode cX5_weekLine 82 = .ok (.ireturn, 1) := by decide +kernel
theorem dX5_weekLine_83 : decode cX5_weekLine 83 = .ok (.aload_n 0, 1) := by decide +kernel
theorem dX5_weekLine_84 : decode cX5_weekLine 84 = .ok (.getfield 58, 3) := by decide +kernel
theorem dX5_weekLine_87 : decode cX5_weekLine 87 = .ok (.istore_n 3, 1) := by decide +kernel
theorem dX5_weekLine_88 : decode cX5_weekLine 88 = .ok (.goto 48, 3) := by decide +kernel
theorem dX5_weekLine_91 : decode cX5_weekLine 91 = .ok (.iload_n 2, 1) := by decide +kernel
theorem dX5_weekLine_92 : decode cX5_weekLine 92 = .ok (.bipush 9, 2) := by decide +kernel
theorem dX5_weekLine_94 : decode cX5_weekLine 94 = .ok (.if_icmp .ne 42, 3) := by decide +kernel
theorem dX5_weekLine_97 : decode cX5_weekLine 97 = .ok (.aload_n 0, 1) := by decide +kernel
theorem dX5_weekLine_98 : decode cX5_weekLine 98 = .ok (.iconst 0, 1) := by decide +kernel
theorem dX5_weekLine_99 : decode cX5_weekLine 99 = .ok (.bipush 59, 2) := by decide +kernel
theorem dX5_weekLine_101 : decode cX5_weekLine 101 = .ok (.invokevirtual 64, 3) := by decide +kernel
theorem dX5_weekLine_104 : decode cX5_weekLine 104 = .ok (.ifCond .ne 5, 3) := by decide +kernel
theorem dX5_weekLine_107 : decode cX5_weekLine 107 = .ok (.iconst 0, 1) := by decide +kernel
theorem dX5_weekLine_108 : decode cX5_weekLine 108 = .ok (.ireturn, 1) := by decide +kernel
theorem dX5_weekLine_109 : decode cX5_weekLine 109 = .ok (.aload_n 0, 1) := by decide +kernel
theorem dX5_weekLine_110 : decode cX5_weekLine 110 = .ok (.getfield 58, 3) := by decide +kernel
theorem dX5_weekLine_113 : decode cX5_weekLine 113 = .ok (.istore_n 3, 1) := by decide +kernel
theorem dX5_weekLine_114 : decode cX5_weekLine 114 = .ok (.aload_n 0, 1) := by decide +kernel
theorem dX5_weekLine_115 : decode cX5_weekLine 115 = .ok (.bipush 10, 2) := by decide +kernel
theorem dX5_weekLine_117 : decode cX5_weekLine 117 = .ok (.iload_n 3, 1) := by decide +kernel
theorem dX5_weekLine_118 : decode cX5_weekLine 118 = .ok (.iconst 1, 1) := by decide +kernel
theorem dX5_weekLine_119 : decode cX5_weekLine 119 = .ok (.iadd, 1) := by decide +kernel
theorem dX5_weekLine_120 : decode cX5_weekLine 120 = .ok (.bipush 60, 2) := by decide +kernel
theorem dX5_weekLine_122 : decode cX5_weekLine 122 = .ok (.invokevirtual 80, 3) := by decide +kernel
theorem dX5_weekLine_125 : decode cX5_weekLine 125 = .ok (.ifCond .ne 5, 3) := by decide +kernel
theorem dX5_weekLine_128 : decode cX5_weekLine 128 = .ok (.iconst 0, 1) := by decide +kernel
theorem dX5_weekLine_129 : decode cX5_weekLine 129 = .ok (.ireturn, 1) := by decide +kernel
theorem dX5_weekLine_130 : decode cX5_weekLine 130 = .ok (.aload_n 0, 1) := by decide +kernel
theorem dX5_weekLine_131 : decode cX5_weekLine 131 = .ok (.getfield 58, 3) := by decide +kernel
theorem dX5_weekLine_134 : decode cX5_weekLine 134 = .ok (.istore 4, 2) := by decide +kernel
theorem dX5_weekLine_136 : decode cX5_weekLine 136 = .ok (.aload_n 1, 1) := by decide +kernel
theorem dX5_weekLine_137 : decode cX5_weekLine 137 = .ok (.iload_n 2, 1) := by decide +kernel
theorem dX5_weekLine_138 : decode cX5_weekLine 138 = .ok (.iload_n 3, 1) := by decide +kernel
theorem dX5_weekLine_139 : decode cX5_weekLine 139 = .ok (.iload 4, 2) := by decide +kernel
theorem dX5_weekLine_141 : decode cX5_weekLine 141 = .ok (.invokevirtual 84, 3) := by decide +kernel
theorem dX5_weekLine_144 : decode cX5_weekLine 144 = .ok (.aload_n 0, 1) := by decide +kernel
theorem dX5_weekLine_145 : decode cX5_weekLine 145 = .ok (.bipush 59, 2) := by decide +kernel
theorem dX5_weekLine_147 : decode cX5_weekLine 147 = .ok (.invokevirtual 61, 3) := by decide +kernel
theorem dX5_weekLine_150 : decode cX5_weekLine 150 = .ok (.ireturn, 1) := by decide +kernel
set_option maxRecDepth 20000 in
theorem ggX5_stationLine_X5_tuneLine : GoodIn wsX5_stationLine wsX5_tuneLine := goodIn_r _ [6, 1, 7, 8, 9, 5, 10, 11, 12, 13, 14, 15, 16, 17, 18, 19, 20, 21, 22, 23, 24, 25, 26, 27, 28, 29, 30, 31, 32, 33, 34, 35, 36, 37, 38, 39, 40, 41, 42, 43, 44, 45, 46, 47, 48, 49, 50, 51, 52, 53, 54, 55, 56, 57, 58, 59, 60, 61, 62, 63, 64, 65, 66, 67, 68, 69, 70, 71, 72, 73, 74, 75, 76, 77, 78, 79, 80, 81, 82, 83, 84, 85, 86, 87, 88, 89, 90, 91, 92, 93, 94, 95, 96, 97, 98, 99, 100, 101, 102, 103, 104, 105, 106, 107, 108, 109, 110, 111, 112, 113, 114, 115, 116, 117, 118, 119, 120, 121, 122, 123, 124, 125, 126, 127, 128, 129, 130, 131, 132, 133, 134, 135, 136, 137, 138, 139, 140, 141, 142, 143, 144, 145, 146, 147, 148, 149, 150, 151, 152, 153, 154, 155, 156, 157, 158, 159, 160, 161, 162, 163, 164, 165, 166, 167, 168, 169, 170, 171, 255, 256, 257, 258, 259, 260, 261, 262, 263, 264, 265, 266, 267, 268, 245, 246, 247, 248, 249, 250, 251, 252, 253, 254, 269, 270, 271, 272, 273, 274, 275, 276, 277] (by decide +kernel) (by decide +kernel)
set_option maxRecDepth 20000 in
theorem gX5_stationLine_X5_tuneLine : GoodIn wsX5_stationLine (wsV RX5 88 RX5 yX5_tuneLine wsX5_tuneLine) := goodIn_app (goodIn_of _ (by decide +kernel)) ggX5_stationLine_X5_tuneLine
set_option maxRecDepth 20000 in
theorem ggX5_stationLine_X5_take : GoodIn wsX5_stationLine wsX5_take := goodIn_r _ [175, 1, 7, 8, 9, 5, 10, 11, 12, 13, 14, 15, 16, 17, 18, 19, 20, 21, 22, 23, 24, 25, 26, 27, 28, 29, 30, 31, 32, 33, 34, 35, 36, 37, 38, 39, 40, 41, 42, 43, 44, 45, 46, 47, 48, 49, 50, 51, 52, 53, 54, 55, 56, 57, 58, 59, 60, 61, 62, 63, 64, 65, 66, 67, 68, 69, 70, 71, 72, 73, 74, 75, 76, 77, 78, 79, 80, 81, 82, 83, 84, 85, 86, 87, 88, 89, 90, 91, 92, 93, 94, 95, 96, 97, 98, 99, 100, 101, 102, 103, 104, 105, 106, 107, 108, 109, 110, 111, 112, 113, 114, 115, 116, 117, 118, 119, 120, 121, 122, 123, 124, 125, 126, 127, 128, 129, 130, 131, 132, 133, 134, 135, 136, 137, 138, 139, 140, 141, 245, 246, 247, 248, 249, 250, 251, 252, 253, 254] (by decide +kernel) (by decide +kernel)
set_option maxRecDepth 20000 in
theorem gX5_stationLine_X5_take : GoodIn wsX5_stationLine (wsV RX5 61 RX5 yX5_take wsX5_take) := goodIn_app (goodIn_of _ (by decide +kernel)) ggX5_stationLine_X5_take
set_option maxRecDepth 20000 in
theorem ggX5_stationLine_X5_passerLine : GoodIn wsX5_stationLine wsX5_passerLine := goodIn_r _ [179, 1, 167, 7, 8, 9, 5, 10, 11, 12, 13, 14, 15, 16, 17, 18, 19, 20, 21, 22, 23, 24, 25, 26, 27, 28, 29, 30, 31, 32, 33, 34, 35, 36, 37, 38, 39, 40, 41, 42, 43, 44, 45, 46, 47, 48, 49, 50, 51, 52, 53, 54, 55, 56, 57, 58, 59, 60, 61, 62, 63, 64, 65, 66, 67, 68, 69, 70, 71, 72, 73, 74, 75, 76, 77, 78, 79, 80, 81, 82, 83, 84, 85, 86, 87, 88, 89, 90, 91, 92, 93, 94, 95, 96, 97, 98, 99, 100, 101, 102, 103, 104, 105, 106, 107, 108, 109, 110, 111, 112, 113, 114, 115, 116, 117, 118, 119, 120, 121, 122, 123, 124, 125, 126, 127, 128, 129, 130, 131, 132, 133, 134, 135, 136, 137, 138, 139, 140, 141, 142, 143, 144, 145, 146, 147, 148, 149, 150, 151, 152, 153, 154, 155, 156, 157, 158, 159, 160, 161, 162, 180, 181, 182, 183, 172, 173, 174, 175, 184, 185, 186, 187, 188, 189, 190, 191, 192, 193, 194, 195, 196, 197, 198, 199, 200, 201, 168, 169, 170, 171, 255, 256, 257, 258, 259, 260, 261, 262, 263, 264, 265, 266, 267, 268, 245, 246, 247, 248, 249, 250, 251, 252, 253, 254, 269, 270, 271, 272, 273, 274, 275, 276, 277] (by decide +kernel) (by decide +kernel)
set_option maxRecDepth 20000 in
theorem gX5_stationLine_X5_passerLine : GoodIn wsX5_stationLine (wsV RX5 91 RX5 yX5_passerLine wsX5_passerLine) := goodIn_app (goodIn_of _ (by decide +kernel)) ggX5_stationLine_X5_passerLine
set_option maxRecDepth 20000 in
theorem ggX5_stationLine_X5_toldFirst : GoodIn wsX5_stationLine wsX5_toldFirst := goodIn_r _ [205, 1, 7, 8, 9, 5, 10, 11, 12, 13, 14, 15, 16, 17, 18, 19, 20, 21, 22, 23, 24, 25, 26, 27, 28, 29, 30, 31, 32, 33, 34, 35, 36, 37, 38, 39, 40, 41, 42, 43, 44, 45, 46, 47, 48, 49, 50, 51, 52, 53, 54, 55, 56, 57, 58, 59, 60, 61, 62, 63, 64, 65, 66, 67, 68, 69, 70, 71, 72, 73, 74, 75, 76, 77, 78, 79, 80, 81, 82, 83, 84, 85, 86, 87, 88, 89, 90, 91, 92, 93, 94, 95, 96, 97, 98, 99, 100, 101, 102, 103, 104, 105, 106, 107, 108, 109, 110, 111, 112, 113, 114, 115, 116, 117, 118, 119, 120, 121, 122, 123, 124, 125, 126, 127, 128, 129, 130, 131, 132, 133, 134, 135, 136, 137, 138, 139, 140, 141, 245, 246, 247, 248, 249, 250, 251, 252, 253, 254, 255, 256, 257, 258, 259, 260, 261, 262, 263, 264, 265, 266, 267, 268] (by decide +kernel) (by decide +kernel)
set_option maxRecDepth 20000 in
theorem gX5_stationLine_X5_toldFirst : GoodIn wsX5_stationLine (wsV RX5 94 RX5 yX5_toldFirst wsX5_toldFirst) := goodIn_app (goodIn_of _ (by decide +kernel)) ggX5_stationLine_X5_toldFirst
set_option maxRecDepth 20000 in
theorem ggX5_stationLine_X5_waitsTold : GoodIn wsX5_stationLine wsX5_waitsTold := goodIn_r _ [209, 167, 168, 169, 170, 5, 171, 1, 7, 8, 9, 10, 11, 12, 13, 14, 15, 16, 17, 18, 19, 20, 21, 22, 23, 24, 25, 26, 27, 28, 29, 30, 31, 32, 33, 34, 35, 36, 37, 38, 39, 40, 41, 42, 43, 44, 45, 46, 47, 48, 49, 50, 51, 52, 53, 54, 55, 56, 57, 58, 59, 60, 61, 62, 63, 64, 65, 66, 67, 68, 69, 70, 71, 72, 73, 74, 75, 76, 77, 78, 79, 80, 81, 82, 83, 84, 85, 86, 87, 88, 89, 90, 91, 92, 93, 94, 95, 96, 97, 98, 99, 100, 101, 102, 103, 104, 105, 106, 107, 108, 109, 110, 111, 112, 113, 114, 115, 116, 117, 118, 119, 120, 121, 122, 123, 124, 125, 126, 127, 128, 129, 130, 131, 132, 133, 134, 135, 136, 137, 138, 139, 140, 141, 245, 246, 247, 255, 256, 257, 258, 259, 260, 261, 262, 263, 264, 265, 266, 267, 268, 248, 249, 250, 251, 252, 253, 254] (by decide +kernel) (by decide +kernel)
set_option maxRecDepth 20000 in
theorem gX5_stationLine_X5_waitsTold : GoodIn wsX5_stationLine (wsV RX5 97 RX5 yX5_waitsTold wsX5_waitsTold) := goodIn_app (goodIn_of _ (by decide +kernel)) ggX5_stationLine_X5_waitsTold
set_option maxRecDepth 20000 in
theorem ggX5_stationLine_X5_eachTold : GoodIn wsX5_stationLine wsX5_eachTold := goodIn_r _ [213, 167, 168, 169, 170, 5, 171, 1, 7, 8, 9, 10, 11, 12, 13, 14, 15, 16, 17, 18, 19, 20, 21, 22, 23, 24, 25, 26, 27, 28, 29, 30, 31, 32, 33, 34, 35, 36, 37, 38, 39, 40, 41, 42, 43, 44, 45, 46, 47, 48, 49, 50, 51, 52, 53, 54, 55, 56, 57, 58, 59, 60, 61, 62, 63, 64, 65, 66, 67, 68, 69, 70, 71, 72, 73, 74, 75, 76, 77, 78, 79, 80, 81, 82, 83, 84, 85, 86, 87, 88, 89, 90, 91, 92, 93, 94, 95, 96, 97, 98, 99, 100, 101, 102, 103, 104, 105, 106, 107, 108, 109, 110, 111, 112, 113, 114, 115, 116, 117, 118, 119, 120, 121, 122, 123, 124, 125, 126, 127, 128, 129, 130, 131, 132, 133, 134, 135, 136, 137, 138, 139, 140, 141, 245, 246, 247, 255, 256, 257, 258, 259, 260, 261, 262, 263, 264, 265, 266, 267, 268, 248, 249, 250, 251, 252, 253, 254] (by decide +kernel) (by decide +kernel)
set_option maxRecDepth 20000 in
theorem gX5_stationLine_X5_eachTold : GoodIn wsX5_stationLine (wsV RX5 100 RX5 yX5_eachTold wsX5_eachTold) := goodIn_app (goodIn_of _ (by decide +kernel)) ggX5_stationLine_X5_eachTold
set_option maxRecDepth 20000 in
theorem ggX5_stationLine_X5_hoursTold : GoodIn wsX5_stationLine wsX5_hoursTold := goodIn_r _ [217, 167, 168, 169, 170, 5, 171, 1, 7, 8, 9, 10, 11, 12, 13, 14, 15, 16, 17, 18, 19, 20, 21, 22, 23, 24, 25, 26, 27, 28, 29, 30, 31, 32, 33, 34, 35, 36, 37, 38, 39, 40, 41, 42, 43, 44, 45, 46, 47, 48, 49, 50, 51, 52, 53, 54, 55, 56, 57, 58, 59, 60, 61, 62, 63, 64, 65, 66, 67, 68, 69, 70, 71, 72, 73, 74, 75, 76, 77, 78, 79, 80, 81, 82, 83, 84, 85, 86, 87, 88, 89, 90, 91, 92, 93, 94, 95, 96, 97, 98, 99, 100, 101, 102, 103, 104, 105, 106, 107, 108, 109, 110, 111, 112, 113, 114, 115, 116, 117, 118, 119, 120, 121, 122, 123, 124, 125, 126, 127, 128, 129, 130, 131, 132, 133, 134, 135, 136, 137, 138, 139, 140, 141, 198, 199, 200, 201, 172, 173, 174, 175, 245, 246, 247, 255, 256, 257, 258, 259, 260, 261, 262, 263, 264, 265, 266, 267, 268, 248, 249, 250, 251, 252, 253, 254] (by decide +kernel) (by decide +kernel)
set_option maxRecDepth 20000 in
theorem gX5_stationLine_X5_hoursTold : GoodIn wsX5_stationLine (wsV RX5 103 RX5 yX5_hoursTold wsX5_hoursTold) := goodIn_app (goodIn_of _ (by decide +kernel)) ggX5_stationLine_X5_hoursTold
set_option maxRecDepth 20000 in
theorem ggX5_stationLine_X5_priceTold : GoodIn wsX5_stationLine wsX5_priceTold := goodIn_r _ [221, 167, 168, 169, 170, 5, 171, 1, 7, 8, 9, 10, 11, 12, 13, 14, 15, 16, 17, 18, 19, 20, 21, 22, 23, 24, 25, 26, 27, 28, 29, 30, 31, 32, 33, 34, 35, 36, 37, 38, 39, 40, 41, 42, 43, 44, 45, 46, 47, 48, 49, 50, 51, 52, 53, 54, 55, 56, 57, 58, 59, 60, 61, 62, 63, 64, 65, 66, 67, 68, 69, 70, 71, 72, 73, 74, 75, 76, 77, 78, 79, 80, 81, 82, 83, 84, 85, 86, 87, 88, 89, 90, 91, 92, 93, 94, 95, 96, 97, 98, 99, 100, 101, 102, 103, 104, 105, 106, 107, 108, 109, 110, 111, 112, 113, 114, 115, 116, 117, 118, 119, 120, 121, 122, 123, 124, 125, 126, 127, 128, 129, 130, 131, 132, 133, 134, 135, 136, 137, 138, 139, 140, 141, 245, 246, 247, 255, 256, 257, 258, 259, 260, 261, 262, 263, 264, 265, 266, 267, 268, 248, 249, 250, 251, 252, 253, 254] (by decide +kernel) (by decide +kernel)
set_option maxRecDepth 20000 in
theorem gX5_stationLine_X5_priceTold : GoodIn wsX5_stationLine (wsV RX5 106 RX5 yX5_priceTold wsX5_priceTold) := goodIn_app (goodIn_of _ (by decide +kernel)) ggX5_stationLine_X5_priceTold
set_option maxRecDepth 20000 in
theorem ggX5_stationLine_X5_expression : GoodIn wsX5_stationLine wsX5_expression := goodIn_r _ [225, 1, 222, 223, 224, 5, 226, 227, 228, 229, 230, 231, 12, 13, 14, 15, 16, 17, 18, 19, 20, 21, 22, 23, 24, 25, 26, 27, 28, 29, 30, 31, 32, 33, 34, 35, 36, 37, 38, 39, 40, 41, 42, 43, 44, 45, 46, 47, 48, 49, 50, 51, 52, 53, 54, 55, 56, 57, 58, 59, 60, 61, 62, 63, 64, 65, 66, 67, 68, 69, 70, 71, 72, 73, 74, 75, 76, 77, 78, 79, 80, 81, 82, 83, 84, 85, 86, 87, 88, 89, 90, 91, 92, 93, 94, 95, 96, 97, 98, 99, 100, 101, 102, 103, 104, 105, 106, 107, 108, 109, 110, 111, 112, 113, 114, 115, 116, 117, 118, 119, 120, 121, 122, 123, 124, 125, 126, 127, 128, 129, 130, 131, 132, 133, 134, 135, 136, 137, 138, 139, 140, 141, 232, 233, 234, 235, 236, 237, 238, 239, 240, 241, 242, 243, 244, 7, 8, 9, 10, 11, 172, 173, 174, 175, 245, 246, 247, 248, 249, 250, 251, 252, 253, 254, 278, 279, 280, 281, 282] (by decide +kernel) (by decide +kernel)
set_option maxRecDepth 20000 in
theorem gX5_stationLine_X5_expression : GoodIn wsX5_stationLine (wsV RX5 113 RX5 yX5_expression wsX5_expression) := goodIn_app (goodIn_of _ (by decide +kernel)) ggX5_stationLine_X5_expression
set_option maxRecDepth 20000 in
theorem ggX5_stationLine_X5_wrong : GoodIn wsX5_stationLine wsX5_wrong := goodIn_r _ [10, 1, 11, 245, 246, 247, 248, 249, 250, 251, 252, 253, 254] (by decide +kernel) (by decide +kernel)
set_option maxRecDepth 20000 in
theorem gX5_stationLine_X5_wrong : GoodIn wsX5_stationLine (wsV RX5 48 RX5 yX5_wrong wsX5_wrong) := goodIn_app (goodIn_of _ (by decide +kernel)) ggX5_stationLine_X5_wrong
theorem dX5_stationLine_0 : decode cX5_stationLine 0 = .ok (.aload_n 0, 1) := by decide +kernel
theorem dX5_stationLine_1 : decode cX5_stationLine 1 = .ok (.getfield 9, 3) := by decide +kernel
theorem dX5_stationLine_4 : decode cX5_stationLine 4 = .ok (.getfield 29, 3) := by decide +kernel
theorem dX5_stationLine_7 : decode cX5_stationLine 7 = .ok (.tableswitch 311 0 13 #[69, 92, 311, 311, 311, 311, 311, 115, 146, 177, 311, 208, 239, 275], 69) := by decide +kernel
theorem dX5_stationLine_76 : decode cX5_stationLine 76 = .ok (.aload_n 0, 1) := by decide +kernel
theorem dX5_stationLine_77 : decode cX5_stationLine 77 = .ok (.aload_n 1, 1) := by decide +kernel
theorem dX5_stationLine_78 : decode cX5_stationLine 78 = .ok (.invokevirtual 88, 3) := by decide +kernel
theorem dX5_stationLine_81 : decode cX5_stationLine 81 = .ok (.ifCond .eq 16, 3) := by decide +kernel
theorem dX5_stationLine_84 : decode cX5_stationLine 84 = .ok (.aload_n 0, 1) := by decide +kernel
theorem dX5_stationLine_85 : decode cX5_stationLine 85 = .ok (.bipush 59, 2) := by decide +kernel
theorem dX5_stationLine_87 : decode cX5_stationLine 87 = .ok (.invokevirtual 61, 3) := by decide +kernel
theorem dX5_stationLine_90 : decode cX5_stationLine 90 = .ok (.ifCond .eq 7, 3) := by decide +kernel
theorem dX5_stationLine_93 : decode cX5_stationLine 93 = .ok (.iconst 1, 1) := by decide +kernel
theorem dX5_stationLine_94 : decode cX5_stationLine 94 = .ok (.goto 4, 3) := by decide +kernel
theorem dX5_stationLine_97 : decode cX5_stationLine 97 = .ok (.iconst 0, 1) := by decide +kernel
theorem dX5_stationLine_98 : decode cX5_stationLine 98 = .ok (.ireturn, 1) := by decide +kernel
theorem dX5_stationLine_99 : decode cX5_stationLine 99 = .ok (.aload_n 0, 1) := by decide +kernel
theorem dX5_stationLine_100 : decode cX5_stationLine 100 = .ok (.aload_n 1, 1) := by decide +kernel
theorem dX5_stationLine_101 : decode cX5_stationLine 101 = .ok (.invokevirtual 91, 3) := by decide +kernel
theorem dX5_stationLine_104 : decode cX5_stationLine 104 = .ok (.ifCond .eq 16, 3) := by decide +kernel
theorem dX5_stationLine_107 : decode cX5_stationLine 107 = .ok (.aload_n 0, 1) := by decide +kernel
theorem dX5_stationLine_108 : decode cX5_stationLine 108 = .ok (.bipush 59, 2) := by decide +kernel
theorem dX5_stationLine_110 : decode cX5_stationLine 110 = .ok (.invokevirtual 61, 3) := by decide +kernel
theorem dX5_stationLine_113 : decode cX5_stationLine 113 = .ok (.ifCond .eq 7, 3) := by decide +kernel
theorem dX5_stationLine_116 : decode cX5_stationLine 116 = .ok (.iconst 1, 1) := by decide +kernel
theorem dX5_stationLine_117 : decode cX5_stationLine 117 = .ok (.goto 4, 3) := by decide +kernel
theorem dX5_stationLine_120 : decode cX5_stationLine 120 = .ok (.iconst 0, 1) := by decide +kernel
theorem dX5_stationLine_121 : decode cX5_stationLine 121 = .ok (.ireturn, 1) := by decide +kernel
theorem dX5_stationLine_122 : decode cX5_stationLine 122 = .ok (.aload_n 0, 1) := by decide +kernel
theorem dX5_stationLine_123 : decode cX5_stationLine 123 = .ok (.aload_n 1, 1) := by decide +kernel
theorem dX5_stationLine_124 : decode cX5_stationLine 124 = .ok (.invokevirtual 94, 3) := by decide +kernel
theorem dX5_stationLine_127 : decode cX5_stationLine 127 = .ok (.ifCond .eq 24, 3) := by decide +kernel
theorem dX5_stationLine_130 : decode cX5_stationLine 130 = .ok (.aload_n 0, 1) := by decide +kernel
theorem dX5_stationLine_131 : decode cX5_stationLine 131 = .ok (.aload_n 1, 1) := by decide +kernel
theorem dX5_stationLine_132 : decode cX5_stationLine 132 = .ok (.invokevirtual 97, 3) := by decide +kernel
theorem dX5_stationLine_135 : decode cX5_stationLine 135 = .ok (.ifCond .eq 16, 3) := by decide +kernel
theorem dX5_stationLine_138 : decode cX5_stationLine 138 = .ok (.aload_n 0, 1) := by decide +kernel
theorem dX5_stationLine_139 : decode cX5_stationLine 139 = .ok (.bipush 59, 2) := by decide +kernel
theorem dX5_stationLine_141 : decode cX5_stationLine 141 = .ok (.invokevirtual 61, 3) := by decide +kernel
theorem dX5_stationLine_144 : decode cX5_stationLine 144 = .ok (.ifCond .eq 7, 3) := by decide +kernel
theorem dX5_stationLine_147 : decode cX5_stationLine 147 = .ok (.iconst 1, 1) := by decide +kernel
theorem dX5_stationLine_148 : decode cX5_stationLine 148 = .ok (.goto 4, 3) := by decide +kernel
theorem dX5_stationLine_151 : decode cX5_stationLine 151 = .ok (.iconst 0, 1) := by decide +kernel
theorem dX5_stationLine_152 : decode cX5_stationLine 152 = .ok (.ireturn, 1) := by decide +kernel
theorem dX5_stationLine_153 : decode cX5_stationLine 153 = .ok (.aload_n 0, 1) := by decide +kernel
theorem dX5_stationLine_154 : decode cX5_stationLine 154 = .ok (.aload_n 1, 1) := by decide +kernel
theorem dX5_stationLine_155 : decode cX5_stationLine 155 = .ok (.invokevirtual 94, 3) := by decide +kernel
theorem dX5_stationLine_158 : decode cX5_stationLine 158 = .ok (.ifCond .eq 24, 3) := by decide +kernel
theorem dX5_stationLine_161 : decode cX5_stationLine 161 = .ok (.aload_n 0, 1) := by decide +kernel
theorem dX5_stationLine_162 : decode cX5_stationLine 162 = .ok (.aload_n 1, 1) := by decide +kernel
theorem dX5_stationLine_163 : decode cX5_stationLine 163 = .ok (.invokevirtual 100, 3) := by decide +kernel
theorem dX5_stationLine_166 : decode cX5_stationLine 166 = .ok (.ifCond .eq 16, 3) := by decide +kernel
theorem dX5_stationLine_169 : decode cX5_stationLine 169 = .ok (.aload_n 0, 1) := by decide +kernel
theorem dX5_stationLine_170 : decode cX5_stationLine 170 = .ok (.bipush 59, 2) := by decide +kernel
theorem dX5_stationLine_172 : decode cX5_stationLine 172 = .ok (.invokevirtual 61, 3) := by decide +kernel
theorem dX5_stationLine_175 : decode cX5_stationLine 175 = .ok (.ifCond .eq 7, 3) := by decide +kernel
theorem dX5_stationLine_178 : decode cX5_stationLine 178 = .ok (.iconst 1, 1) := by decide +kernel
theorem dX5_stationLine_179 : decode cX5_stationLine 179 = .ok (.goto 4, 3) := by decide +kernel
theorem dX5_stationLine_182 : decode cX5_stationLine 182 = .ok (.iconst 0, 1) := by decide +kernel
theorem dX5_stationLine_183 : decode cX5_stationLine 183 = .ok (.ireturn, 1) := by decide +kernel
theorem dX5_stationLine_184 : decode cX5_stationLine 184 = .ok (.aload_n 0, 1) := by decide +kernel
theorem dX5_stationLine_185 : decode cX5_stationLine 185 = .ok (.aload_n 1, 1) := by decide +kernel
theorem dX5_stationLine_186 : decode cX5_stationLine 186 = .ok (.invokevirtual 94, 3) := by decide +kernel
theorem dX5_stationLine_189 : decode cX5_stationLine 189 = .ok (.ifCond .eq 24, 3) := by decide +kernel
theorem dX5_stationLine_192 : decode cX5_stationLine 192 = .ok (.aload_n 0, 1) := by decide +kernel
theorem dX5_stationLine_193 : decode cX5_stationLine 193 = .ok (.aload_n 1, 1) := by decide +kernel
theorem dX5_stationLine_194 : decode cX5_stationLine 194 = .ok (.invokevirtual 103, 3) := by decide +kernel
theorem dX5_stationLine_197 : decode cX5_stationLine 197 = .ok (.ifCond .eq 16, 3) := by decide +kernel
theorem dX5_stationLine_200 : decode cX5_stationLine 200 = .ok (.aload_n 0, 1) := by decide +kernel
theorem dX5_stationLine_201 : decode cX5_stationLine 201 = .ok (.bipush 59, 2) := by decide +kernel
theorem dX5_stationLine_203 : decode cX5_stationLine 203 = .ok (.invokevirtual 61, 3) := by decide +kernel
theorem dX5_stationLine_206 : decode cX5_stationLine 206 = .ok (.ifCond .eq 7, 3) := by decide +kernel
theorem dX5_stationLine_209 : decode cX5_stationLine 209 = .ok (.iconst 1, 1) := by decide +kernel
theorem dX5_stationLine_210 : decode cX5_stationLine 210 = .ok (.goto 4, 3) := by decide +kernel
theorem dX5_stationLine_213 : decode cX5_stationLine 213 = .ok (.iconst 0, 1) := by decide +kernel
theorem dX5_stationLine_214 : decode cX5_stationLine 214 = .ok (.ireturn, 1) := by decide +kernel
theorem dX5_stationLine_215 : decode cX5_stationLine 215 = .ok (.aload_n 0, 1) := by decide +kernel
theorem dX5_stationLine_216 : decode cX5_stationLine 216 = .ok (.aload_n 1, 1) := by decide +kernel
theorem dX5_stationLine_217 : decode cX5_stationLine 217 = .ok (.invokevirtual 94, 3) := by decide +kernel
theorem dX5_stationLine_220 : decode cX5_stationLine 220 = .ok (.ifCond .eq 24, 3) := by decide +kernel
theorem dX5_stationLine_223 : decode cX5_stationLine 223 = .ok (.aload_n 0, 1) := by decide +kernel
theorem dX5_stationLine_224 : decode cX5_stationLine 224 = .ok (.aload_n 1, 1) := by decide +kernel
theorem dX5_stationLine_225 : decode cX5_stationLine 225 = .ok (.invokevirtual 106, 3) := by decide +kernel
theorem dX5_stationLine_228 : decode cX5_stationLine 228 = .ok (.ifCond .eq 16, 3) := by decide +kernel
theorem dX5_stationLine_231 : decode cX5_stationLine 231 = .ok (.aload_n 0, 1) := by decide +kernel
theorem dX5_stationLine_232 : decode cX5_stationLine 232 = .ok (.bipush 59, 2) := by decide +kernel
theorem dX5_stationLine_234 : decode cX5_stationLine 234 = .ok (.invokevirtual 61, 3) := by decide +kernel
theorem dX5_stationLine_237 : decode cX5_stationLine 237 = .ok (.ifCond .eq 7, 3) := by decide +kernel
theorem dX5_stationLine_240 : decode cX5_stationLine 240 = .ok (.iconst 1, 1) := by decide +kernel
theorem dX5_stationLine_241 : decode cX5_stationLine 241 = .ok (.goto 4, 3) := by decide +kernel
theorem dX5_stationLine_244 : decode cX5_stationLine 244 = .ok (.iconst 0, 1) := by decide +kernel
theorem dX5_stationLine_245 : decode cX5_stationLine 245 = .ok (.ireturn, 1) := by decide +kernel
theorem dX5_stationLine_246 : decode cX5_stationLine 246 = .ok (.aload_n 0, 1) := by decide +kernel
theorem dX5_stationLine_247 : decode cX5_stationLine 247 = .ok (.aload_n 1, 1) := by decide +kernel
theorem dX5_stationLine_248 : decode cX5_stationLine 248 = .ok (.invokevirtual 94, 3) := by decide +kernel
theorem dX5_stationLine_251 : decode cX5_stationLine 251 = .ok (.ifCond .eq 29, 3) := by decide +kernel
theorem dX5_stationLine_254 : decode cX5_stationLine 254 = .ok (.aload_n 0, 1) := by decide +kernel
theorem dX5_stationLine_255 : decode cX5_stationLine 255 = .ok (.aload_n 1, 1) := by decide +kernel
theorem dX5_stationLine_256 : decode cX5_stationLine 256 = .ok (.getfield 109, 3) := by decide +kernel
theorem dX5_stationLine_259 : decode cX5_stationLine 259 = .ok (.iconst 0, 1) := by decide +kernel
theorem dX5_stationLine_260 : decode cX5_stationLine 260 = .ok (.iconst 0, 1) := by decide +kernel
theorem dX5_stationLine_261 : decode cX5_stationLine 261 = .ok (.invokevirtual 113, 3) := by decide +kernel
theorem dX5_stationLine_264 : decode cX5_stationLine 264 = .ok (.ifCond .eq 16, 3) := by decide +kernel
theorem dX5_stationLine_267 : decode cX5_stationLine 267 = .ok (.aload_n 0, 1) := by decide +kernel
theorem dX5_stationLine_268 : decode cX5_stationLine 268 = .ok (.bipush 59, 2) := by decide +kernel
theorem dX5_stationLine_270 : decode cX5_stationLine 270 = .ok (.invokevirtual 61, 3) := by decide +kernel
theorem dX5_stationLine_273 : decode cX5_stationLine 273 = .ok (.ifCond .eq 7, 3) := by decide +kernel
theorem dX5_stationLine_276 : decode cX5_stationLine 276 = .ok (.iconst 1, 1) := by decide +kernel
theorem dX5_stationLine_277 : decode cX5_stationLine 277 = .ok (.goto 4, 3) := by decide +kernel
theorem dX5_stationLine_280 : decode cX5_stationLine 280 = .ok (.iconst 0, 1) := by decide +kernel
theorem dX5_stationLine_281 : decode cX5_stationLine 281 = .ok (.ireturn, 1) := by decide +kernel
theorem dX5_stationLine_282 : decode cX5_stationLine 282 = .ok (.aload_n 0, 1) := by decide +kernel
theorem dX5_stationLine_283 : decode cX5_stationLine 283 = .ok (.aload_n 1, 1) := by decide +kernel
theorem dX5_stationLine_284 : decode cX5_stationLine 284 = .ok (.invokevirtual 94, 3) := by decide +kernel
theorem dX5_stationLine_287 : decode cX5_stationLine 287 = .ok (.ifCond .eq 29, 3) := by decide +kernel
theorem dX5_stationLine_290 : decode cX5_stationLine 290 = .ok (.aload_n 0, 1) := by decide +kernel
theorem dX5_stationLine_291 : decode cX5_stationLine 291 = .ok (.aload_n 1, 1) := by decide +kernel
theorem dX5_stationLine_292 : decode cX5_stationLine 292 = .ok (.getfield 117, 3) := by decide +kernel
theorem dX5_stationLine_295 : decode cX5_stationLine 295 = .ok (.iconst 0, 1) := by decide +kernel
theorem dX5_stationLine_296 : decode cX5_stationLine 296 = .ok (.iconst 0, 1) := by decide +kernel
theorem dX5_stationLine_297 : decode cX5_stationLine 297 = .ok (.invokevirtual 113, 3) := by decide +kernel
theorem dX5_stationLine_300 : decode cX5_stationLine 300 = .ok (.ifCond .eq 16, 3) := by decide +kernel
theorem dX5_stationLine_303 : decode cX5_stationLine 303 = .ok (.aload_n 0, 1) := by decide +kernel
theorem dX5_stationLine_304 : decode cX5_stationLine 304 = .ok (.bipush 59, 2) := by decide +kernel
theorem dX5_stationLine_306 : decode cX5_stationLine 306 = .ok (.invokevirtual 61, 3) := by decide +kernel
theorem dX5_stationLine_309 : decode cX5_stationLine 309 = .ok (.ifCond .eq 7, 3) := by decide +kernel
theorem dX5_stationLine_312 : decode cX5_stationLine 312 = .ok (.iconst 1, 1) := by decide +kernel
theorem dX5_stationLine_313 : decode cX5_stationLine 313 = .ok (.goto 4, 3) := by decide +kernel
theorem dX5_stationLine_316 : decode cX5_stationLine 316 = .ok (.iconst 0, 1) := by decide +kernel
theorem dX5_stationLine_317 : decode cX5_stationLine 317 = .ok (.ireturn, 1) := by decide +kernel
theorem dX5_stationLine_318 : decode cX5_stationLine 318 = .ok (.aload_n 0, 1) := by decide +kernel
theorem dX5_stationLine_319 : decode cX5_stationLine 319 = .ok (.iconst 1, 1) := by decide +kernel
theorem dX5_stationLine_320 : decode cX5_stationLine 320 = .ok (.invokevirtual 48, 3) := by decide +kernel
theorem dX5_stationLine_323 : decode cX5_stationLine 323 = .ok (.ireturn, 1) := by decide +kernel
set_option maxRecDepth 20000 in
theorem ggX5_toldFirst_X5_wrong : GoodIn wsX5_toldFirst wsX5_wrong := goodIn_r _ [6, 1, 7, 138, 139, 140, 141, 142, 143, 144, 145, 146, 147] (by decide +kernel) (by decide +kernel)
set_option maxRecDepth 20000 in
theorem gX5_toldFirst_X5_wrong : GoodIn wsX5_toldFirst (wsV RX5 48 RX5 yX5_wrong wsX5_wrong) := goodIn_app (goodIn_of _ (by decide +kernel)) ggX5_toldFirst_X5_wrong
set_option maxRecDepth 20000 in
theorem ggX5_toldFirst_X9_advance : GoodIn wsX5_toldFirst wsX9_advance := goodIn_r _ [12, 13, 14, 15, 16, 17, 18, 19, 20, 21, 22, 11, 23, 24, 25, 26, 27, 28, 29, 30, 31, 32, 33, 34, 35, 36, 37, 38, 39, 40, 41, 42, 43, 44, 45, 46, 47, 48, 49, 50, 51, 52, 53, 54, 55, 56, 57, 58, 59, 60, 61, 62, 63, 64, 65, 66, 67, 68, 69, 70, 71, 72, 73, 74, 75, 76, 77, 78, 79, 80, 81, 82, 83, 84, 85, 86, 87, 88, 89, 90, 91, 92, 93, 94, 95, 96, 97, 98, 99, 100, 101, 102, 103, 104, 105, 106, 107, 108, 109, 110, 111, 112, 113, 114, 115, 116, 117, 118, 119, 120, 121, 122, 123, 124, 125, 126, 127, 128, 129, 130, 131, 132, 133, 134, 135, 136, 137, 141, 142, 143, 144, 145, 146, 147] (by decide +kernel) (by decide +kernel)
set_option maxRecDepth 20000 in
theorem gX5_toldFirst_X9_advance : GoodIn wsX5_toldFirst (wsV RX5 52 RX9 yX9_advance wsX9_advance) := goodIn_app (goodIn_of _ (by decide +kernel)) ggX5_toldFirst_X9_advance
theorem dX5_toldFirst_0 : decode cX5_toldFirst 0 = .ok (.iconst 1, 1) := by decide +kernel
theorem dX5_toldFirst_1 : decode cX5_toldFirst 1 = .ok (.aload_n 0, 1) := by decide +kernel
theorem dX5_toldFirst_2 : decode cX5_toldFirst 2 = .ok (.getfield 9, 3) := by decide +kernel
theorem dX5_toldFirst_5 : decode cX5_toldFirst 5 = .ok (.getfield 29, 3) := by decide +kernel
theorem dX5_toldFirst_8 : decode cX5_toldFirst 8 = .ok (.ishl, 1) := by decide +kernel
theorem dX5_toldFirst_9 : decode cX5_toldFirst 9 = .ok (.istore_n 2, 1) := by decide +kernel
theorem dX5_toldFirst_10 : decode cX5_toldFirst 10 = .ok (.aload_n 1, 1) := by decide +kernel
theorem dX5_toldFirst_11 : decode cX5_toldFirst 11 = .ok (.getfield 120, 3) := by decide +kernel
theorem dX5_toldFirst_14 : decode cX5_toldFirst 14 = .ok (.iload_n 2, 1) := by decide +kernel
theorem dX5_toldFirst_15 : decode cX5_toldFirst 15 = .ok (.iand, 1) := by decide +kernel
theorem dX5_toldFirst_16 : decode cX5_toldFirst 16 = .ok (.ifCond .eq 9, 3) := by decide +kernel
theorem dX5_toldFirst_19 : decode cX5_toldFirst 19 = .ok (.aload_n 0, 1) := by decide +kernel
theorem dX5_toldFirst_20 : decode cX5_toldFirst 20 = .ok (.iconst 3, 1) := by decide +kernel
theorem dX5_toldFirst_21 : decode cX5_toldFirst 21 = .ok (.invokevirtual 48, 3) := by decide +kernel
theorem dX5_toldFirst_24 : decode cX5_toldFirst 24 = .ok (.ireturn, 1) := by decide +kernel
theorem dX5_toldFirst_25 : decode cX5_toldFirst 25 = .ok (.aload_n 1, 1) := by decide +kernel
theorem dX5_toldFirst_26 : decode cX5_toldFirst 26 = .ok (.dup, 1) := by decide +kernel
theorem dX5_toldFirst_27 : decode cX5_toldFirst 27 = .ok (.getfield 120, 3) := by decide +kernel
theorem dX5_toldFirst_30 : decode cX5_toldFirst 30 = .ok (.iload_n 2, 1) := by decide +kernel
theorem dX5_toldFirst_31 : decode cX5_toldFirst 31 = .ok (.ior, 1) := by decide +kernel
theorem dX5_toldFirst_32 : decode cX5_toldFirst 32 = .ok (.putfield 120, 3) := by decide +kernel
theorem dX5_toldFirst_35 : decode cX5_toldFirst 35 = .ok (.aload_n 0, 1) := by decide +kernel
theorem dX5_toldFirst_36 : decode cX5_toldFirst 36 = .ok (.getfield 9, 3) := by decide +kernel
theorem dX5_toldFirst_39 : decode cX5_toldFirst 39 = .ok (.invokevirtual 52, 3) := by decide +kernel
theorem dX5_toldFirst_42 : decode cX5_toldFirst 42 = .ok (.iconst 1, 1) := by decide +kernel
theorem dX5_toldFirst_43 : decode cX5_toldFirst 43 = .ok (.ireturn, 1) := by decide +kernel
set_option maxRecDepth 20000 in
theorem ggX5_waitsTold_X5_takeNumber : GoodIn wsX5_waitsTold wsX5_takeNumber := goodIn_r _ [6, 7, 1, 8, 9, 10, 5, 11, 12, 13, 14, 15, 16, 17, 18, 19, 20, 21, 22, 23, 24, 25, 26, 27, 28, 29, 30, 31, 32, 33, 34, 35, 36, 37, 38, 39, 40, 41, 42, 43, 44, 45, 46, 47, 48, 49, 50, 51, 52, 53, 54, 55, 56, 57, 58, 59, 60, 61, 62, 63, 64, 65, 66, 67, 68, 69, 70, 71, 72, 73, 74, 75, 76, 77, 78, 79, 80, 81, 82, 83, 84, 85, 86, 87, 88, 89, 90, 91, 92, 93, 94, 95, 96, 97, 98, 99, 100, 101, 102, 103, 104, 105, 106, 107, 108, 109, 110, 111, 112, 113, 114, 115, 116, 117, 118, 119, 120, 121, 122, 123, 124, 125, 126, 127, 128, 129, 130, 131, 132, 133, 134, 135, 136, 137, 138, 139, 140, 141, 142, 143, 144, 145, 160, 161, 162, 163, 164, 165, 166] (by decide +kernel) (by decide +kernel)
set_option maxRecDepth 20000 in
theorem gX5_waitsTold_X5_takeNumber : GoodIn wsX5_waitsTold (wsV RX5 64 RX5 yX5_takeNumber wsX5_takeNumber) := goodIn_app (goodIn_of _ (by decide +kernel)) ggX5_waitsTold_X5_takeNumber
theorem dX5_waitsTold_0 : decode cX5_waitsTold 0 = .ok (.aload_n 0, 1) := by decide +kernel
theorem dX5_waitsTold_1 : decode cX5_waitsTold 1 = .ok (.iconst 0, 1) := by decide +kernel
theorem dX5_waitsTold_2 : decode cX5_waitsTold 2 = .ok (.bipush 59, 2) := by decide +kernel
theorem dX5_waitsTold_4 : decode cX5_waitsTold 4 = .ok (.invokevirtual 64, 3) := by decide +kernel
theorem dX5_waitsTold_7 : decode cX5_waitsTold 7 = .ok (.istore_n 2, 1) := by decide +kernel
theorem dX5_waitsTold_8 : decode cX5_waitsTold 8 = .ok (.aload_n 1, 1) := by decide +kernel
theorem dX5_waitsTold_9 : decode cX5_waitsTold 9 = .ok (.aload_n 0, 1) := by decide +kernel
theorem dX5_waitsTold_10 : decode cX5_waitsTold 10 = .ok (.getfield 58, 3) := by decide +kernel
theorem dX5_waitsTold_13 : decode cX5_waitsTold 13 = .ok (.putfield 123, 3) := by decide +kernel
theorem dX5_waitsTold_16 : decode cX5_waitsTold 16 = .ok (.iload_n 2, 1) := by decide +kernel
theorem dX5_waitsTold_17 : decode cX5_waitsTold 17 = .ok (.ireturn, 1) := by decide +kernel
set_option maxRecDepth 20000 in
theorem ggX5_eachTold_X5_takeNumber : GoodIn wsX5_eachTold wsX5_takeNumber := goodIn_r _ [6, 7, 1, 8, 9, 10, 5, 11, 12, 13, 14, 15, 16, 17, 18, 19, 20, 21, 22, 23, 24, 25, 26, 27, 28, 29, 30, 31, 32, 33, 34, 35, 36, 37, 38, 39, 40, 41, 42, 43, 44, 45, 46, 47, 48, 49, 50, 51, 52, 53, 54, 55, 56, 57, 58, 59, 60, 61, 62, 63, 64, 65, 66, 67, 68, 69, 70, 71, 72, 73, 74, 75, 76, 77, 78, 79, 80, 81, 82, 83, 84, 85, 86, 87, 88, 89, 90, 91, 92, 93, 94, 95, 96, 97, 98, 99, 100, 101, 102, 103, 104, 105, 106, 107, 108, 109, 110, 111, 112, 113, 114, 115, 116, 117, 118, 119, 120, 121, 122, 123, 124, 125, 126, 127, 128, 129, 130, 131, 132, 133, 134, 135, 136, 137, 138, 139, 140, 141, 142, 143, 144, 145, 160, 161, 162, 163, 164, 165, 166] (by decide +kernel) (by decide +kernel)
set_option maxRecDepth 20000 in
theorem gX5_eachTold_X5_takeNumber : GoodIn wsX5_eachTold (wsV RX5 64 RX5 yX5_takeNumber wsX5_takeNumber) := goodIn_app (goodIn_of _ (by decide +kernel)) ggX5_eachTold_X5_takeNumber
theorem dX5_eachTold_0 : decode cX5_eachTold 0 = .ok (.aload_n 0, 1) := by decide +kernel
theorem dX5_eachTold_1 : decode cX5_eachTold 1 = .ok (.iconst 1, 1) := by decide +kernel
theorem dX5_eachTold_2 : decode cX5_eachTold 2 = .ok (.bipush 30, 2) := by decide +kernel
theorem dX5_eachTold_4 : decode cX5_eachTold 4 = .ok (.invokevirtual 64, 3) := by decide +kernel
theorem dX5_eachTold_7 : decode cX5_eachTold 7 = .ok (.istore_n 2, 1) := by decide +kernel
theorem dX5_eachTold_8 : decode cX5_eachTold 8 = .ok (.aload_n 1, 1) := by decide +kernel
theorem dX5_eachTold_9 : decode cX5_eachTold 9 = .ok (.aload_n 0, 1) := by decide +kernel
theorem dX5_eachTold_10 : decode cX5_eachTold 10 = .ok (.getfield 58, 3) := by decide +kernel
theorem dX5_eachTold_13 : decode cX5_eachTold 13 = .ok (.putfield 126, 3) := by decide +kernel
theorem dX5_eachTold_16 : decode cX5_eachTold 16 = .ok (.iload_n 2, 1) := by decide +kernel
theorem dX5_eachTold_17 : decode cX5_eachTold 17 = .ok (.ireturn, 1) := by decide +kernel
set_option maxRecDepth 20000 in
theorem ggX5_hoursTold_X5_takeNumber : GoodIn wsX5_hoursTold wsX5_takeNumber := goodIn_r _ [6, 7, 1, 8, 9, 10, 5, 11, 12, 13, 14, 15, 16, 17, 18, 19, 20, 21, 22, 23, 24, 25, 26, 27, 28, 29, 30, 31, 32, 33, 34, 35, 36, 37, 38, 39, 40, 41, 42, 43, 44, 45, 46, 47, 48, 49, 50, 51, 52, 53, 54, 55, 56, 57, 58, 59, 60, 61, 62, 63, 64, 65, 66, 67, 68, 69, 70, 71, 72, 73, 74, 75, 76, 77, 78, 79, 80, 81, 82, 83, 84, 85, 86, 87, 88, 89, 90, 91, 92, 93, 94, 95, 96, 97, 98, 99, 100, 101, 102, 103, 104, 105, 106, 107, 108, 109, 110, 111, 112, 113, 114, 115, 116, 117, 118, 119, 120, 121, 122, 123, 124, 125, 126, 127, 128, 129, 130, 131, 132, 133, 134, 135, 136, 137, 138, 139, 140, 141, 142, 151, 152, 153, 168, 169, 170, 171, 172, 173, 174] (by decide +kernel) (by decide +kernel)
set_option maxRecDepth 20000 in
theorem gX5_hoursTold_X5_takeNumber : GoodIn wsX5_hoursTold (wsV RX5 64 RX5 yX5_takeNumber wsX5_takeNumber) := goodIn_app (goodIn_of _ (by decide +kernel)) ggX5_hoursTold_X5_takeNumber
set_option maxRecDepth 20000 in
theorem ggX5_hoursTold_X5_takeValue : GoodIn wsX5_hoursTold wsX5_takeValue := goodIn_r _ [146, 147, 148, 149, 5, 150, 7, 8, 9, 10, 11, 12, 13, 14, 15, 16, 17, 18, 19, 20, 21, 22, 23, 24, 25, 26, 27, 28, 29, 30, 31, 32, 33, 34, 35, 36, 37, 38, 39, 40, 41, 42, 43, 44, 45, 46, 47, 48, 49, 50, 51, 52, 53, 54, 55, 56, 57, 58, 59, 60, 61, 62, 63, 64, 65, 66, 67, 68, 69, 70, 71, 72, 73, 74, 75, 76, 77, 78, 79, 80, 81, 82, 83, 84, 85, 86, 87, 88, 89, 90, 91, 92, 93, 94, 95, 96, 97, 98, 99, 100, 101, 102, 103, 104, 105, 106, 107, 108, 109, 110, 111, 112, 113, 114, 115, 116, 117, 118, 119, 120, 121, 122, 123, 124, 125, 126, 127, 128, 129, 130, 131, 132, 133, 134, 135, 136, 137, 138, 139, 140, 141, 142, 2, 3, 4, 6, 1, 151, 152, 153, 168, 169, 170, 171, 172, 173, 174] (by decide +kernel) (by decide +kernel)
set_option maxRecDepth 20000 in
theorem gX5_hoursTold_X5_takeValue : GoodIn wsX5_hoursTold (wsV RX5 80 RX5 yX5_takeValue wsX5_takeValue) := goodIn_app (goodIn_of _ (by decide +kernel)) ggX5_hoursTold_X5_takeValue
theorem dX5_hoursTold_0 : decode cX5_hoursTold 0 = .ok (.aload_n 0, 1) := by decide +kernel
theorem dX5_hoursTold_1 : decode cX5_hoursTold 1 = .ok (.iconst 0, 1) := by decide +kernel
theorem dX5_hoursTold_2 : decode cX5_hoursTold 2 = .ok (.bipush 59, 2) := by decide +kernel
theorem dX5_hoursTold_4 : decode cX5_hoursTold 4 = .ok (.invokevirtual 64, 3) := by decide +kernel
theorem dX5_hoursTold_7 : decode cX5_hoursTold 7 = .ok (.ifCond .ne 5, 3) := by decide +kernel
theorem dX5_hoursTold_10 : decode cX5_hoursTold 10 = .ok (.iconst 0, 1) := by decide +kernel
theorem dX5_hoursTold_11 : decode cX5_hoursTold 11 = .ok (.ireturn, 1) := by decide +kernel
theorem dX5_hoursTold_12 : decode cX5_hoursTold 12 = .ok (.aload_n 1, 1) := by decide +kernel
theorem dX5_hoursTold_13 : decode cX5_hoursTold 13 = .ok (.aload_n 0, 1) := by decide +kernel
theorem dX5_hoursTold_14 : decode cX5_hoursTold 14 = .ok (.getfield 58, 3) := by decide +kernel
theorem dX5_hoursTold_17 : decode cX5_hoursTold 17 = .ok (.putfield 129, 3) := by decide +kernel
theorem dX5_hoursTold_20 : decode cX5_hoursTold 20 = .ok (.aload_n 0, 1) := by decide +kernel
theorem dX5_hoursTold_21 : decode cX5_hoursTold 21 = .ok (.bipush 10, 2) := by decide +kernel
theorem dX5_hoursTold_23 : decode cX5_hoursTold 23 = .ok (.aload_n 1, 1) := by decide +kernel
theorem dX5_hoursTold_24 : decode cX5_hoursTold 24 = .ok (.getfield 129, 3) := by decide +kernel
theorem dX5_hoursTold_27 : decode cX5_hoursTold 27 = .ok (.iconst 1, 1) := by decide +kernel
theorem dX5_hoursTold_28 : decode cX5_hoursTold 28 = .ok (.iadd, 1) := by decide +kernel
theorem dX5_hoursTold_29 : decode cX5_hoursTold 29 = .ok (.bipush 60, 2) := by decide +kernel
theorem dX5_hoursTold_31 : decode cX5_hoursTold 31 = .ok (.invokevirtual 80, 3) := by decide +kernel
theorem dX5_hoursTold_34 : decode cX5_hoursTold 34 = .ok (.istore_n 2, 1) := by decide +kernel
theorem dX5_hoursTold_35 : decode cX5_hoursTold 35 = .ok (.aload_n 1, 1) := by decide +kernel
theorem dX5_hoursTold_36 : decode cX5_hoursTold 36 = .ok (.aload_n 0, 1) := by decide +kernel
theorem dX5_hoursTold_37 : decode cX5_hoursTold 37 = .ok (.getfield 58, 3) := by decide +kernel
theorem dX5_hoursTold_40 : decode cX5_hoursTold 40 = .ok (.putfield 132, 3) := by decide +kernel
theorem dX5_hoursTold_43 : decode cX5_hoursTold 43 = .ok (.iload_n 2, 1) := by decide +kernel
theorem dX5_hoursTold_44 : decode cX5_hoursTold 44 = .ok (.ireturn, 1) := by decide +kernel
set_option maxRecDepth 20000 in
theorem ggX5_priceTold_X5_takeNumber : GoodIn wsX5_priceTold wsX5_takeNumber := goodIn_r _ [6, 7, 1, 8, 9, 10, 5, 11, 12, 13, 14, 15, 16, 17, 18, 19, 20, 21, 22, 23, 24, 25, 26, 27, 28, 29, 30, 31, 32, 33, 34, 35, 36, 37, 38, 39, 40, 41, 42, 43, 44, 45, 46, 47, 48, 49, 50, 51, 52, 53, 54, 55, 56, 57, 58, 59, 60, 61, 62, 63, 64, 65, 66, 67, 68, 69, 70, 71, 72, 73, 74, 75, 76, 77, 78, 79, 80, 81, 82, 83, 84, 85, 86, 87, 88, 89, 90, 91, 92, 93, 94, 95, 96, 97, 98, 99, 100, 101, 102, 103, 104, 105, 106, 107, 108, 109, 110, 111, 112, 113, 114, 115, 116, 117, 118, 119, 120, 121, 122, 123, 124, 125, 126, 127, 128, 129, 130, 131, 132, 133, 134, 135, 136, 137, 138, 139, 140, 141, 142, 143, 144, 145, 160, 161, 162, 163, 164, 165, 166] (by decide +kernel) (by decide +kernel)
set_option maxRecDepth 20000 in
theorem gX5_priceTold_X5_takeNumber : GoodIn wsX5_priceTold (wsV RX5 64 RX5 yX5_takeNumber wsX5_takeNumber) := goodIn_app (goodIn_of _ (by decide +kernel)) ggX5_priceTold_X5_takeNumber
theorem dX5_priceTold_0 : decode cX5_priceTold 0 = .ok (.aload_n 0, 1) := by decide +kernel
theorem dX5_priceTold_1 : decode cX5_priceTold 1 = .ok (.iconst 0, 1) := by decide +kernel
theorem dX5_priceTold_2 : decode cX5_priceTold 2 = .ok (.sipush 999, 3) := by decide +kernel
theorem dX5_priceTold_5 : decode cX5_priceTold 5 = .ok (.invokevirtual 64, 3) := by decide +kernel
theorem dX5_priceTold_8 : decode cX5_priceTold 8 = .ok (.istore_n 2, 1) := by decide +kernel
theorem dX5_priceTold_9 : decode cX5_priceTold 9 = .ok (.aload_n 1, 1) := by decide +kernel
theorem dX5_priceTold_10 : decode cX5_priceTold 10 = .ok (.aload_n 0, 1) := by decide +kernel
theorem dX5_priceTold_11 : decode cX5_priceTold 11 = .ok (.getfield 58, 3) := by decide +kernel
theorem dX5_priceTold_14 : decode cX5_priceTold 14 = .ok (.putfield 135, 3) := by decide +kernel
theorem dX5_priceTold_17 : decode cX5_priceTold 17 = .ok (.iload_n 2, 1) := by decide +kernel
theorem dX5_priceTold_18 : decode cX5_priceTold 18 = .ok (.ireturn, 1) := by decide +kernel
set_option maxRecDepth 20000 in
theorem ggX5_tuneLine_X5_wrong : GoodIn wsX5_tuneLine wsX5_wrong := goodIn_r _ [6, 1, 7, 182, 183, 184, 185, 186, 187, 188, 189, 190, 191] (by decide +kernel) (by decide +kernel)
set_option maxRecDepth 20000 in
theorem gX5_tuneLine_X5_wrong : GoodIn wsX5_tuneLine (wsV RX5 48 RX5 yX5_wrong wsX5_wrong) := goodIn_app (goodIn_of _ (by decide +kernel)) ggX5_tuneLine_X5_wrong
set_option maxRecDepth 20000 in
theorem ggX5_tuneLine_X9_advance : GoodIn wsX5_tuneLine wsX9_advance := goodIn_r _ [12, 13, 14, 15, 16, 17, 18, 19, 20, 21, 22, 11, 23, 24, 25, 26, 27, 28, 29, 30, 31, 32, 33, 34, 35, 36, 37, 38, 39, 40, 41, 42, 43, 44, 45, 46, 47, 48, 49, 50, 51, 52, 53, 54, 55, 56, 57, 58, 59, 60, 61, 62, 63, 64, 65, 66, 67, 68, 69, 70, 71, 72, 73, 74, 75, 76, 77, 78, 79, 80, 81, 82, 83, 84, 85, 86, 87, 88, 89, 90, 91, 92, 93, 94, 95, 96, 97, 98, 99, 100, 101, 102, 103, 104, 105, 106, 107, 108, 109, 110, 111, 112, 113, 114, 115, 116, 117, 118, 119, 120, 121, 122, 123, 124, 125, 126, 127, 128, 129, 130, 131, 132, 133, 134, 135, 136, 137, 185, 186, 187, 188, 189, 190, 191] (by decide +kernel) (by decide +kernel)
set_option maxRecDepth 20000 in
theorem gX5_tuneLine_X9_advance : GoodIn wsX5_tuneLine (wsV RX5 52 RX9 yX9_advance wsX9_advance) := goodIn_app (goodIn_of _ (by decide +kernel)) ggX5_tuneLine_X9_advance
set_option maxRecDepth 20000 in
theorem ggX5_tuneLine_X5_mayBeNewName : GoodIn wsX5_tuneLine wsX5_mayBeNewName := goodIn_r _ [141, 1, 142, 143, 144, 5, 145, 2, 3, 4, 6, 7, 146, 147, 148, 149, 150, 151, 152, 153, 154, 155, 156, 157, 158, 182, 183, 184, 185, 186, 187, 188, 189, 190, 191, 168, 169, 170, 171, 172, 173, 174, 175, 176, 177, 178, 179, 180, 181, 192, 193, 194, 195, 196, 197, 198, 199, 200] (by decide +kernel) (by decide +kernel)
set_option maxRecDepth 20000 in
theorem gX5_tuneLine_X5_mayBeNewName : GoodIn wsX5_tuneLine (wsV RX5 141 RX5 yX5_mayBeNewName wsX5_mayBeNewName) := goodIn_app (goodIn_of _ (by decide +kernel)) ggX5_tuneLine_X5_mayBeNewName
set_option maxRecDepth 20000 in
theorem ggX5_tuneLine_X5_takeKey : GoodIn wsX5_tuneLine wsX5_takeKey := goodIn_r _ [162, 1, 163, 2, 3, 4, 5, 6, 7, 164, 165, 166, 167, 8, 9, 10, 11, 12, 13, 14, 15, 16, 17, 18, 19, 20, 21, 22, 23, 24, 25, 26, 27, 28, 29, 30, 31, 32, 33, 34, 35, 36, 37, 38, 39, 40, 41, 42, 43, 44, 45, 46, 47, 48, 49, 50, 51, 52, 53, 54, 55, 56, 57, 58, 59, 60, 61, 62, 63, 64, 65, 66, 67, 68, 69, 70, 71, 72, 73, 74, 75, 76, 77, 78, 79, 80, 81, 82, 83, 84, 85, 86, 87, 88, 89, 90, 91, 92, 93, 94, 95, 96, 97, 98, 99, 100, 101, 102, 103, 104, 105, 106, 107, 108, 109, 110, 111, 112, 113, 114, 115, 116, 117, 118, 119, 120, 121, 122, 123, 124, 125, 126, 127, 128, 129, 130, 131, 132, 133, 134, 135, 136, 137, 168, 169, 170, 171, 172, 173, 174, 175, 176, 177, 178, 179, 180, 181, 182, 183, 184, 185, 186, 187, 188, 189, 190, 191] (by decide +kernel) (by decide +kernel)
set_option maxRecDepth 20000 in
theorem gX5_tuneLine_X5_takeKey : GoodIn wsX5_tuneLine (wsV RX5 152 RX5 yX5_takeKey wsX5_takeKey) := goodIn_app (goodIn_of _ (by decide +kernel)) ggX5_tuneLine_X5_takeKey
theorem dX5_tuneLine_0 : decode cX5_tuneLine 0 = .ok (.aload_n 1, 1) := by decide +kernel
theorem dX5_tuneLine_1 : decode cX5_tuneLine 1 = .ok (.getfield 138, 3) := by decide +kernel
theorem dX5_tuneLine_4 : decode cX5_tuneLine 4 = .ok (.istore_n 2, 1) := by decide +kernel
theorem dX5_tuneLine_5 : decode cX5_tuneLine 5 = .ok (.iload_n 2, 1) := by decide +kernel
theorem dX5_tuneLine_6 : decode cX5_tuneLine 6 = .ok (.ifCond .lt 8, 3) := by decide +kernel
theorem dX5_tuneLine_9 : decode cX5_tuneLine 9 = .ok (.iload_n 2, 1) := by decide +kernel
theorem dX5_tuneLine_10 : decode cX5_tuneLine 10 = .ok (.iconst 5, 1) := by decide +kernel
theorem dX5_tuneLine_11 : decode cX5_tuneLine 11 = .ok (.if_icmp .lt 9, 3) := by decide +kernel
theorem dX5_tuneLine_14 : decode cX5_tuneLine 14 = .ok (.aload_n 0, 1) := by decide +kernel
theorem dX5_tuneLine_15 : decode cX5_tuneLine 15 = .ok (.iconst 5, 1) := by decide +kernel
theorem dX5_tuneLine_16 : decode cX5_tuneLine 16 = .ok (.invokevirtual 48, 3) := by decide +kernel
theorem dX5_tuneLine_19 : decode cX5_tuneLine 19 = .ok (.ireturn, 1) := by decide +kernel
theorem dX5_tuneLine_20 : decode cX5_tuneLine 20 = .ok (.aload_n 0, 1) := by decide +kernel
theorem dX5_tuneLine_21 : decode cX5_tuneLine 21 = .ok (.getfield 9, 3) := by decide +kernel
theorem dX5_tuneLine_24 : decode cX5_tuneLine 24 = .ok (.invokevirtual 52, 3) := by decide +kernel
theorem dX5_tuneLine_27 : decode cX5_tuneLine 27 = .ok (.aload_n 0, 1) := by decide +kernel
theorem dX5_tuneLine_28 : decode cX5_tuneLine 28 = .ok (.aload_n 1, 1) := by decide +kernel
theorem dX5_tuneLine_29 : decode cX5_tuneLine 29 = .ok (.invokevirtual 141, 3) := by decide +kernel
theorem dX5_tuneLine_32 : decode cX5_tuneLine 32 = .ok (.ifCond .ne 5, 3) := by decide +kernel
theorem dX5_tuneLine_35 : decode cX5_tuneLine 35 = .ok (.iconst 0, 1) := by decide +kernel
theorem dX5_tuneLine_36 : decode cX5_tuneLine 36 = .ok (.ireturn, 1) := by decide +kernel
theorem dX5_tuneLine_37 : decode cX5_tuneLine 37 = .ok (.aload_n 1, 1) := by decide +kernel
theorem dX5_tuneLine_38 : decode cX5_tuneLine 38 = .ok (.getfield 144, 3) := by decide +kernel
theorem dX5_tuneLine_41 : decode cX5_tuneLine 41 = .ok (.iload_n 2, 1) := by decide +kernel
theorem dX5_tuneLine_42 : decode cX5_tuneLine 42 = .ok (.aload_n 0, 1) := by decide +kernel
theorem dX5_tuneLine_43 : decode cX5_tuneLine 43 = .ok (.getfield 9, 3) := by decide +kernel
theorem dX5_tuneLine_46 : decode cX5_tuneLine 46 = .ok (.getfield 72, 3) := by decide +kernel
theorem dX5_tuneLine_49 : decode cX5_tuneLine 49 = .ok (.lastore, 1) := by decide +kernel
theorem dX5_tuneLine_50 : decode cX5_tuneLine 50 = .ok (.aload_n 1, 1) := by decide +kernel
theorem dX5_tuneLine_51 : decode cX5_tuneLine 51 = .ok (.getfield 148, 3) := by decide +kernel
theorem dX5_tuneLine_54 : decode cX5_tuneLine 54 = .ok (.iload_n 2, 1) := by decide +kernel
theorem dX5_tuneLine_55 : decode cX5_tuneLine 55 = .ok (.iconst 0, 1) := by decide +kernel
theorem dX5_tuneLine_56 : decode cX5_tuneLine 56 = .ok (.iastore, 1) := by decide +kernel
theorem dX5_tuneLine_57 : decode cX5_tuneLine 57 = .ok (.aload_n 1, 1) := by decide +kernel
theorem dX5_tuneLine_58 : decode cX5_tuneLine 58 = .ok (.dup, 1) := by decide +kernel
theorem dX5_tuneLine_59 : decode cX5_tuneLine 59 = .ok (.getfield 138, 3) := by decide +kernel
theorem dX5_tuneLine_62 : decode cX5_tuneLine 62 = .ok (.iconst 1, 1) := by decide +kernel
theorem dX5_tuneLine_63 : decode cX5_tuneLine 63 = .ok (.iadd, 1) := by decide +kernel
theorem dX5_tuneLine_64 : decode cX5_tuneLine 64 = .ok (.putfield 138, 3) := by decide +kernel
theorem dX5_tuneLine_67 : decode cX5_tuneLine 67 = .ok (.aload_n 0, 1) := by decide +kernel
theorem dX5_tuneLine_68 : decode cX5_tuneLine 68 = .ok (.getfield 9, 3) := by decide +kernel
theorem dX5_tuneLine_71 : decode cX5_tuneLine 71 = .ok (.invokevirtual 52, 3) := by decide +kernel
theorem dX5_tuneLine_74 : decode cX5_tuneLine 74 = .ok (.aload_n 0, 1) := by decide +kernel
theorem dX5_tuneLine_75 : decode cX5_tuneLine 75 = .ok (.aload_n 1, 1) := by decide +kernel
theorem dX5_tuneLine_76 : decode cX5_tuneLine 76 = .ok (.iload_n 2, 1) := by decide +kernel
theorem dX5_tuneLine_77 : decode cX5_tuneLine 77 = .ok (.invokevirtual 152, 3) := by decide +kernel
theorem dX5_tuneLine_80 : decode cX5_tuneLine 80 = .ok (.ifCond .ne 5, 3) := by decide +kernel
theorem dX5_tuneLine_83 : decode cX5_tuneLine 83 = .ok (.iconst 0, 1) := by decide +kernel
theorem dX5_tuneLine_84 : decode cX5_tuneLine 84 = .ok (.ireturn, 1) := by decide +kernel
theorem dX5_tuneLine_85 : decode cX5_tuneLine 85 = .ok (.iconst 0, 1) := by decide +kernel
theorem dX5_tuneLine_86 : decode cX5_tuneLine 86 = .ok (.istore_n 3, 1) := by decide +kernel
theorem dX5_tuneLine_87 : decode cX5_tuneLine 87 = .ok (.iload_n 3, 1) := by decide +kernel
theorem dX5_tuneLine_88 : decode cX5_tuneLine 88 = .ok (.bipush 9, 2) := by decide +kernel
theorem dX5_tuneLine_90 : decode cX5_tuneLine 90 = .ok (.if_icmp .gt 32, 3) := by decide +kernel
theorem dX5_tuneLine_93 : decode cX5_tuneLine 93 = .ok (.aload_n 0, 1) := by decide +kernel
theorem dX5_tuneLine_94 : decode cX5_tuneLine 94 = .ok (.getfield 9, 3) := by decide +kernel
theorem dX5_tuneLine_97 : decode cX5_tuneLine 97 = .ok (.getfield 29, 3) := by decide +kernel
theorem dX5_tuneLine_100 : decode cX5_tuneLine 100 = .ok (.bipush 100, 2) := by decide +kernel
theorem dX5_tuneLine_102 : decode cX5_tuneLine 102 = .ok (.if_icmp .ne 20, 3) := by decide +kernel
theorem dX5_tuneLine_105 : decode cX5_tuneLine 105 = .ok (.aload_n 0, 1) := by decide +kernel
theorem dX5_tuneLine_106 : decode cX5_tuneLine 106 = .ok (.aload_n 1, 1) := by decide +kernel
theorem dX5_tuneLine_107 : decode cX5_tuneLine 107 = .ok (.iload_n 2, 1) := by decide +kernel
theorem dX5_tuneLine_108 : decode cX5_tuneLine 108 = .ok (.invokevirtual 152, 3) := by decide +kernel
theorem dX5_tuneLine_111 : decode cX5_tuneLine 111 = .ok (.ifCond .ne 5, 3) := by decide +kernel
theorem dX5_tuneLine_114 : decode cX5_tuneLine 114 = .ok (.iconst 0, 1) := by decide +kernel
theorem dX5_tuneLine_115 : decode cX5_tuneLine 115 = .ok (.ireturn, 1) := by decide +kernel
theorem dX5_tuneLine_116 : decode cX5_tuneLine 116 = .ok (.iinc 3 1, 3) := by decide +kernel
theorem dX5_tuneLine_119 : decode cX5_tuneLine 119 = .ok (.goto (-32), 3) := by decide +kernel
theorem dX5_tuneLine_122 : decode cX5_tuneLine 122 = .ok (.iconst 1, 1) := by decide +kernel
theorem dX5_tuneLine_123 : decode cX5_tuneLine 123 = .ok (.ireturn, 1) := by decide +kernel
set_option maxRecDepth 20000 in
theorem ggX5_takeKey_X5_wrong : GoodIn wsX5_takeKey wsX5_wrong := goodIn_r _ [7, 1, 8, 157, 158, 159, 160, 161, 162, 163, 164, 165, 166] (by decide +kernel) (by decide +kernel)
set_option maxRecDepth 20000 in
theorem gX5_takeKey_X5_wrong : GoodIn wsX5_takeKey (wsV RX5 48 RX5 yX5_wrong wsX5_wrong) := goodIn_app (goodIn_of _ (by decide +kernel)) ggX5_takeKey_X5_wrong
set_option maxRecDepth 20000 in
theorem ggX5_takeKey_X5_takeNumber : GoodIn wsX5_takeKey wsX5_takeNumber := goodIn_r _ [12, 1, 2, 3, 4, 5, 6, 7, 8, 13, 14, 15, 16, 17, 18, 19, 20, 21, 22, 23, 24, 25, 26, 27, 28, 29, 30, 31, 32, 33, 34, 35, 36, 37, 38, 39, 40, 41, 42, 43, 44, 45, 46, 47, 48, 49, 50, 51, 52, 53, 54, 55, 56, 57, 58, 59, 60, 61, 62, 63, 64, 65, 66, 67, 68, 69, 70, 71, 72, 73, 74, 75, 76, 77, 78, 79, 80, 81, 82, 83, 84, 85, 86, 87, 88, 89, 90, 91, 92, 93, 94, 95, 96, 97, 98, 99, 100, 101, 102, 103, 104, 105, 106, 107, 108, 109, 110, 111, 112, 113, 114, 115, 116, 117, 118, 119, 120, 121, 122, 123, 124, 125, 126, 127, 128, 129, 130, 131, 132, 133, 134, 135, 136, 137, 138, 139, 140, 141, 142, 157, 158, 159, 160, 161, 162, 163, 164, 165, 166] (by decide +kernel) (by decide +kernel)
set_option maxRecDepth 20000 in
theorem gX5_takeKey_X5_takeNumber : GoodIn wsX5_takeKey (wsV RX5 64 RX5 yX5_takeNumber wsX5_takeNumber) := goodIn_app (goodIn_of _ (by decide +kernel)) ggX5_takeKey_X5_takeNumber
theorem dX5_takeKey_0 : decode cX5_takeKey 0 = .ok (.aload_n 1, 1) := by decide +kernel
theorem dX5_takeKey_1 : decode cX5_takeKey 1 = .ok (.getfield 148, 3) := by decide +kernel
theorem dX5_takeKey_4 : decode cX5_takeKey 4 = .ok (.iload_n 2, 1) := by decide +kernel
theorem dX5_takeKey_5 : decode cX5_takeKey 5 = .ok (.iaload, 1) := by decide +kernel
theorem dX5_takeKey_6 : decode cX5_takeKey 6 = .ok (.istore_n 3, 1) := by decide +kernel
theorem dX5_takeKey_7 : decode cX5_takeKey 7 = .ok (.aload_n 0, 1) := by decide +kernel
theorem dX5_takeKey_8 : decode cX5_takeKey 8 = .ok (.getfield 9, 3) := by decide +kernel
theorem dX5_takeKey_11 : decode cX5_takeKey 11 = .ok (.getfield 29, 3) := by decide +kernel
theorem dX5_takeKey_14 : decode cX5_takeKey 14 = .ok (.bipush 100, 2) := by decide +kernel
theorem dX5_takeKey_16 : decode cX5_takeKey 16 = .ok (.if_icmp .ne 31, 3) := by decide +kernel
theorem dX5_takeKey_19 : decode cX5_takeKey 19 = .ok (.aload_n 0, 1) := by decide +kernel
theorem dX5_takeKey_20 : decode cX5_takeKey 20 = .ok (.getfield 9, 3) := by decide +kernel
theorem dX5_takeKey_23 : decode cX5_takeKey 23 = .ok (.getfield 55, 3) := by decide +kernel
theorem dX5_takeKey_26 : decode cX5_takeKey 26 = .ok (.bipush 12, 2) := by decide +kernel
theorem dX5_takeKey_28 : decode cX5_takeKey 28 = .ok (.if_icmp .ge 19, 3) := by decide +kernel
theorem dX5_takeKey_31 : decode cX5_takeKey 31 = .ok (.iload_n 3, 1) := by decide +kernel
theorem dX5_takeKey_32 : decode cX5_takeKey 32 = .ok (.ifCond .lt 9, 3) := by decide +kernel
theorem dX5_takeKey_35 : decode cX5_takeKey 35 = .ok (.iload_n 3, 1) := by decide +kernel
theorem dX5_takeKey_36 : decode cX5_takeKey 36 = .ok (.bipush 9, 2) := by decide +kernel
theorem dX5_takeKey_38 : decode cX5_takeKey 38 = .ok (.if_icmp .lt 9, 3) := by decide +kernel
theorem dX5_takeKey_41 : decode cX5_takeKey 41 = .ok (.aload_n 0, 1) := by decide +kernel
theorem dX5_takeKey_42 : decode cX5_takeKey 42 = .ok (.iconst 5, 1) := by decide +kernel
theorem dX5_takeKey_43 : decode cX5_takeKey 43 = .ok (.invokevirtual 48, 3) := by decide +kernel
theorem dX5_takeKey_46 : decode cX5_takeKey 46 = .ok (.ireturn, 1) := by decide +kernel
theorem dX5_takeKey_47 : decode cX5_takeKey 47 = .ok (.aload_n 0, 1) := by decide +kernel
theorem dX5_takeKey_48 : decode cX5_takeKey 48 = .ok (.iconst 0, 1) := by decide +kernel
theorem dX5_takeKey_49 : decode cX5_takeKey 49 = .ok (.bipush 11, 2) := by decide +kernel
theorem dX5_takeKey_51 : decode cX5_takeKey 51 = .ok (.invokevirtual 64, 3) := by decide +kernel
theorem dX5_takeKey_54 : decode cX5_takeKey 54 = .ok (.ifCond .ne 5, 3) := by decide +kernel
theorem dX5_takeKey_57 : decode cX5_takeKey 57 = .ok (.iconst 0, 1) := by decide +kernel
theorem dX5_takeKey_58 : decode cX5_takeKey 58 = .ok (.ireturn, 1) := by decide +kernel
theorem dX5_takeKey_59 : decode cX5_takeKey 59 = .ok (.aload_n 1, 1) := by decide +kernel
theorem dX5_takeKey_60 : decode cX5_takeKey 60 = .ok (.getfield 156, 3) := by decide +kernel
theorem dX5_takeKey_63 : decode cX5_takeKey 63 = .ok (.iload_n 2, 1) := by decide +kernel
theorem dX5_takeKey_64 : decode cX5_takeKey 64 = .ok (.aaload, 1) := by decide +kernel
theorem dX5_takeKey_65 : decode cX5_takeKey 65 = .ok (.iload_n 3, 1) := by decide +kernel
theorem dX5_takeKey_66 : decode cX5_takeKey 66 = .ok (.aload_n 0, 1) := by decide +kernel
theorem dX5_takeKey_67 : decode cX5_takeKey 67 = .ok (.getfield 58, 3) := by decide +kernel
theorem dX5_takeKey_70 : decode cX5_takeKey 70 = .ok (.iastore, 1) := by decide +kernel
theorem dX5_takeKey_71 : decode cX5_takeKey 71 = .ok (.aload_n 1, 1) := by decide +kernel
theorem dX5_takeKey_72 : decode cX5_takeKey 72 = .ok (.getfield 148, 3) := by decide +kernel
theorem dX5_takeKey_75 : decode cX5_takeKey 75 = .ok (.iload_n 2, 1) := by decide +kernel
theorem dX5_takeKey_76 : decode cX5_takeKey 76 = .ok (.iload_n 3, 1) := by decide +kernel
theorem dX5_takeKey_77 : decode cX5_takeKey 77 = .ok (.iconst 1, 1) := by decide +kernel
theorem dX5_takeKey_78 : decode cX5_takeKey 78 = .ok (.iadd, 1) := by decide +kernel
theorem dX5_takeKey_79 : decode cX5_takeKey 79 = .ok (.iastore, 1) := by decide +kernel
theorem dX5_takeKey_80 : decode cX5_takeKey 80 = .ok (.iconst 1, 1) := by decide +kernel
theorem dX5_takeKey_81 : decode cX5_takeKey 81 = .ok (.ireturn, 1) := by decide +kernel
set_option maxRecDepth 20000 in
theorem ggX5_passerLine_X5_wrong : GoodIn wsX5_passerLine wsX5_wrong := goodIn_r _ [7, 1, 8, 204, 205, 206, 207, 208, 209, 210, 211, 212, 213] (by decide +kernel) (by decide +kernel)
set_option maxRecDepth 20000 in
theorem gX5_passerLine_X5_wrong : GoodIn wsX5_passerLine (wsV RX5 48 RX5 yX5_wrong wsX5_wrong) := goodIn_app (goodIn_of _ (by decide +kernel)) ggX5_passerLine_X5_wrong
set_option maxRecDepth 20000 in
theorem ggX5_passerLine_X9_advance : GoodIn wsX5_passerLine wsX9_advance := goodIn_r _ [13, 14, 15, 16, 17, 18, 19, 20, 21, 22, 23, 12, 24, 25, 26, 27, 28, 29, 30, 31, 32, 33, 34, 35, 36, 37, 38, 39, 40, 41, 42, 43, 44, 45, 46, 47, 48, 49, 50, 51, 52, 53, 54, 55, 56, 57, 58, 59, 60, 61, 62, 63, 64, 65, 66, 67, 68, 69, 70, 71, 72, 73, 74, 75, 76, 77, 78, 79, 80, 81, 82, 83, 84, 85, 86, 87, 88, 89, 90, 91, 92, 93, 94, 95, 96, 97, 98, 99, 100, 101, 102, 103, 104, 105, 106, 107, 108, 109, 110, 111, 112, 113, 114, 115, 116, 117, 118, 119, 120, 121, 122, 123, 124, 125, 126, 127, 128, 129, 130, 131, 132, 133, 134, 135, 136, 137, 138, 207, 208, 209, 210, 211, 212, 213] (by decide +kernel) (by decide +kernel)
set_option maxRecDepth 20000 in
theorem gX5_passerLine_X9_advance : GoodIn wsX5_passerLine (wsV RX5 52 RX9 yX9_advance wsX9_advance) := goodIn_app (goodIn_of _ (by decide +kernel)) ggX5_passerLine_X9_advance
set_option maxRecDepth 20000 in
theorem ggX5_passerLine_X5_mayBeNewName : GoodIn wsX5_passerLine wsX5_mayBeNewName := goodIn_r _ [142, 1, 143, 144, 145, 6, 146, 3, 4, 5, 7, 8, 147, 148, 149, 150, 151, 152, 153, 154, 155, 156, 157, 158, 159, 204, 205, 206, 207, 208, 209, 210, 211, 212, 213, 190, 191, 192, 193, 194, 195, 196, 197, 198, 199, 200, 201, 202, 203, 214, 215, 216, 217, 218, 219, 220, 221, 222] (by decide +kernel) (by decide +kernel)
set_option maxRecDepth 20000 in
theorem gX5_passerLine_X5_mayBeNewName : GoodIn wsX5_passerLine (wsV RX5 141 RX5 yX5_mayBeNewName wsX5_mayBeNewName) := goodIn_app (goodIn_of _ (by decide +kernel)) ggX5_passerLine_X5_mayBeNewName
set_option maxRecDepth 20000 in
theorem ggX5_passerLine_X5_takeKind : GoodIn wsX5_passerLine wsX5_takeKind := goodIn_r _ [163, 1, 3, 4, 5, 6, 7, 8, 9, 10, 11, 12, 13, 14, 15, 16, 17, 18, 19, 20, 21, 22, 23, 24, 25, 26, 27, 28, 29, 30, 31, 32, 33, 34, 35, 36, 37, 38, 39, 40, 41, 42, 43, 44, 45, 46, 47, 48, 49, 50, 51, 52, 53, 54, 55, 56, 57, 58, 59, 60, 61, 62, 63, 64, 65, 66, 67, 68, 69, 70, 71, 72, 73, 74, 75, 76, 77, 78, 79, 80, 81, 82, 83, 84, 85, 86, 87, 88, 89, 90, 91, 92, 93, 94, 95, 96, 97, 98, 99, 100, 101, 102, 103, 104, 105, 106, 107, 108, 109, 110, 111, 112, 113, 114, 115, 116, 117, 118, 119, 120, 121, 122, 123, 124, 125, 126, 127, 128, 129, 130, 131, 132, 133, 134, 135, 136, 137, 138, 204, 205, 206, 207, 208, 209, 210, 211, 212, 213, 214, 215, 216, 217, 218, 219, 220, 221, 222] (by decide +kernel) (by decide +kernel)
set_option maxRecDepth 20000 in
theorem gX5_passerLine_X5_takeKind : GoodIn wsX5_passerLine (wsV RX5 172 RX5 yX5_takeKind wsX5_takeKind) := goodIn_app (goodIn_of _ (by decide +kernel)) ggX5_passerLine_X5_takeKind
set_option maxRecDepth 20000 in
theorem ggX5_passerLine_X5_take : GoodIn wsX5_passerLine wsX5_take := goodIn_r _ [167, 1, 3, 4, 5, 6, 7, 8, 9, 10, 11, 12, 13, 14, 15, 16, 17, 18, 19, 20, 21, 22, 23, 24, 25, 26, 27, 28, 29, 30, 31, 32, 33, 34, 35, 36, 37, 38, 39, 40, 41, 42, 43, 44, 45, 46, 47, 48, 49, 50, 51, 52, 53, 54, 55, 56, 57, 58, 59, 60, 61, 62, 63, 64, 65, 66, 67, 68, 69, 70, 71, 72, 73, 74, 75, 76, 77, 78, 79, 80, 81, 82, 83, 84, 85, 86, 87, 88, 89, 90, 91, 92, 93, 94, 95, 96, 97, 98, 99, 100, 101, 102, 103, 104, 105, 106, 107, 108, 109, 110, 111, 112, 113, 114, 115, 116, 117, 118, 119, 120, 121, 122, 123, 124, 125, 126, 127, 128, 129, 130, 131, 132, 133, 134, 135, 136, 137, 138, 204, 205, 206, 207, 208, 209, 210, 211, 212, 213] (by decide +kernel) (by decide +kernel)
set_option maxRecDepth 20000 in
theorem gX5_passerLine_X5_take : GoodIn wsX5_passerLine (wsV RX5 61 RX5 yX5_take wsX5_take) := goodIn_app (goodIn_of _ (by decide +kernel)) ggX5_passerLine_X5_take
set_option maxRecDepth 20000 in
theorem ggX5_passerLine_X5_takeTune : GoodIn wsX5_passerLine wsX5_takeTune := goodIn_r _ [171, 1, 143, 144, 145, 6, 146, 3, 4, 5, 7, 8, 172, 155, 156, 150, 157, 158, 159, 173, 174, 175, 176, 177, 178, 179, 95, 92, 96, 180, 181, 9, 10, 11, 12, 13, 14, 15, 16, 17, 18, 19, 20, 21, 22, 23, 24, 25, 26, 27, 28, 29, 30, 31, 32, 33, 34, 35, 36, 37, 38, 39, 40, 41, 42, 43, 44, 45, 46, 47, 48, 49, 50, 51, 52, 53, 54, 55, 56, 57, 58, 59, 60, 61, 62, 63, 64, 65, 66, 67, 68, 69, 70, 71, 72, 73, 74, 75, 76, 77, 78, 79, 80, 81, 82, 83, 84, 85, 86, 87, 88, 89, 90, 91, 93, 94, 97, 98, 99, 100, 101, 102, 103, 104, 105, 106, 107, 108, 109, 110, 111, 112, 113, 114, 115, 116, 117, 118, 119, 120, 121, 122, 123, 124, 125, 126, 127, 128, 129, 130, 131, 132, 133, 134, 135, 136, 137, 138, 204, 205, 206, 207, 208, 209, 210, 211, 212, 213, 214, 215, 216, 217, 218, 219, 220, 221, 222, 190, 191, 192, 193, 194, 195, 196, 197, 198, 199, 200, 201, 202, 203] (by decide +kernel) (by decide +kernel)
set_option maxRecDepth 20000 in
theorem gX5_passerLine_X5_takeTune : GoodIn wsX5_passerLine (wsV RX5 176 RX5 yX5_takeTune wsX5_takeTune) := goodIn_app (goodIn_of _ (by decide +kernel)) ggX5_passerLine_X5_takeTune
set_option maxRecDepth 20000 in
theorem ggX5_passerLine_X5_takeValue : GoodIn wsX5_passerLine wsX5_takeValue := goodIn_r _ [185, 164, 165, 166, 6, 167, 1, 3, 4, 5, 7, 8, 9, 10, 11, 12, 13, 14, 15, 16, 17, 18, 19, 20, 21, 22, 23, 24, 25, 26, 27, 28, 29, 30, 31, 32, 33, 34, 35, 36, 37, 38, 39, 40, 41, 42, 43, 44, 45, 46, 47, 48, 49, 50, 51, 52, 53, 54, 55, 56, 57, 58, 59, 60, 61, 62, 63, 64, 65, 66, 67, 68, 69, 70, 71, 72, 73, 74, 75, 76, 77, 78, 79, 80, 81, 82, 83, 84, 85, 86, 87, 88, 89, 90, 91, 92, 93, 94, 95, 96, 97, 98, 99, 100, 101, 102, 103, 104, 105, 106, 107, 108, 109, 110, 111, 112, 113, 114, 115, 116, 117, 118, 119, 120, 121, 122, 123, 124, 125, 126, 127, 128, 129, 130, 131, 132, 133, 134, 135, 136, 137, 138, 186, 187, 188, 189, 2, 204, 205, 206, 207, 208, 209, 210, 211, 212, 213] (by decide +kernel) (by decide +kernel)
set_option maxRecDepth 20000 in
theorem gX5_passerLine_X5_takeValue : GoodIn wsX5_passerLine (wsV RX5 80 RX5 yX5_takeValue wsX5_takeValue) := goodIn_app (goodIn_of _ (by decide +kernel)) ggX5_passerLine_X5_takeValue
theorem dX5_passerLine_0 : decode cX5_passerLine 0 = .ok (.aload_n 1, 1) := by decide +kernel
theorem dX5_passerLine_1 : decode cX5_passerLine 1 = .ok (.getfield 160, 3) := by decide +kernel
theorem dX5_passerLine_4 : decode cX5_passerLine 4 = .ok (.ifCond .lt 12, 3) := by decide +kernel
theorem dX5_passerLine_7 : decode cX5_passerLine 7 = .ok (.aload_n 1, 1) := by decide +kernel
theorem dX5_passerLine_8 : decode cX5_passerLine 8 = .ok (.getfield 160, 3) := by decide +kernel
theorem dX5_passerLine_11 : decode cX5_passerLine 11 = .ok (.bipush 7, 2) := by decide +kernel
theorem dX5_passerLine_13 : decode cX5_passerLine 13 = .ok (.if_icmp .lt 9, 3) := by decide +kernel
theorem dX5_passerLine_16 : decode cX5_passerLine 16 = .ok (.aload_n 0, 1) := by decide +kernel
theorem dX5_passerLine_17 : decode cX5_passerLine 17 = .ok (.iconst 5, 1) := by decide +kernel
theorem dX5_passerLine_18 : decode cX5_passerLine 18 = .ok (.invokevirtual 48, 3) := by decide +kernel
theorem dX5_passerLine_21 : decode cX5_passerLine 21 = .ok (.ireturn, 1) := by decide +kernel
theorem dX5_passerLine_22 : decode cX5_passerLine 22 = .ok (.aload_n 0, 1) := by decide +kernel
theorem dX5_passerLine_23 : decode cX5_passerLine 23 = .ok (.getfield 9, 3) := by decide +kernel
theorem dX5_passerLine_26 : decode cX5_passerLine 26 = .ok (.invokevirtual 52, 3) := by decide +kernel
theorem dX5_passerLine_29 : decode cX5_passerLine 29 = .ok (.aload_n 0, 1) := by decide +kernel
theorem dX5_passerLine_30 : decode cX5_passerLine 30 = .ok (.aload_n 1, 1) := by decide +kernel
theorem dX5_passerLine_31 : decode cX5_passerLine 31 = .ok (.invokevirtual 141, 3) := by decide +kernel
theorem dX5_passerLine_34 : decode cX5_passerLine 34 = .ok (.ifCond .ne 5, 3) := by decide +kernel
theorem dX5_passerLine_37 : decode cX5_passerLine 37 = .ok (.iconst 0, 1) := by decide +kernel
theorem dX5_passerLine_38 : decode cX5_passerLine 38 = .ok (.ireturn, 1) := by decide +kernel
theorem dX5_passerLine_39 : decode cX5_passerLine 39 = .ok (.aload_n 1, 1) := by decide +kernel
theorem dX5_passerLine_40 : decode cX5_passerLine 40 = .ok (.getfield 163, 3) := by decide +kernel
theorem dX5_passerLine_43 : decode cX5_passerLine 43 = .ok (.aload_n 1, 1) := by decide +kernel
theorem dX5_passerLine_44 : decode cX5_passerLine 44 = .ok (.getfield 160, 3) := by decide +kernel
theorem dX5_passerLine_47 : decode cX5_passerLine 47 = .ok (.aaload, 1) := by decide +kernel
theorem dX5_passerLine_48 : decode cX5_passerLine 48 = .ok (.astore_n 2, 1) := by decide +kernel
theorem dX5_passerLine_49 : decode cX5_passerLine 49 = .ok (.aload_n 2, 1) := by decide +kernel
theorem dX5_passerLine_50 : decode cX5_passerLine 50 = .ok (.aload_n 0, 1) := by decide +kernel
theorem dX5_passerLine_51 : decode cX5_passerLine 51 = .ok (.getfield 9, 3) := by decide +kernel
theorem dX5_passerLine_54 : decode cX5_passerLine 54 = .ok (.getfield 72, 3) := by decide +kernel
theorem dX5_passerLine_57 : decode cX5_passerLine 57 = .ok (.putfield 167, 3) := by decide +kernel
theorem dX5_passerLine_60 : decode cX5_passerLine 60 = .ok (.aload_n 1, 1) := by decide +kernel
theorem dX5_passerLine_61 : decode cX5_passerLine 61 = .ok (.dup, 1) := by decide +kernel
theorem dX5_passerLine_62 : decode cX5_passerLine 62 = .ok (.getfield 160, 3) := by decide +kernel
theorem dX5_passerLine_65 : decode cX5_passerLine 65 = .ok (.iconst 1, 1) := by decide +kernel
theorem dX5_passerLine_66 : decode cX5_passerLine 66 = .ok (.iadd, 1) := by decide +kernel
theorem dX5_passerLine_67 : decode cX5_passerLine 67 = .ok (.putfield 160, 3) := by decide +kernel
theorem dX5_passerLine_70 : decode cX5_passerLine 70 = .ok (.aload_n 0, 1) := by decide +kernel
theorem dX5_passerLine_71 : decode cX5_passerLine 71 = .ok (.getfield 9, 3) := by decide +kernel
theorem dX5_passerLine_74 : decode cX5_passerLine 74 = .ok (.invokevirtual 52, 3) := by decide +kernel
theorem dX5_passerLine_77 : decode cX5_passerLine 77 = .ok (.aload_n 0, 1) := by decide +kernel
theorem dX5_passerLine_78 : decode cX5_passerLine 78 = .ok (.aload_n 2, 1) := by decide +kernel
theorem dX5_passerLine_79 : decode cX5_passerLine 79 = .ok (.invokevirtual 172, 3) := by decide +kernel
theorem dX5_passerLine_82 : decode cX5_passerLine 82 = .ok (.ifCond .eq 20, 3) := by decide +kernel
theorem dX5_passerLine_85 : decode cX5_passerLine 85 = .ok (.aload_n 0, 1) := by decide +kernel
theorem dX5_passerLine_86 : decode cX5_passerLine 86 = .ok (.iconst 2, 1) := by decide +kernel
theorem dX5_passerLine_87 : decode cX5_passerLine 87 = .ok (.invokevirtual 61, 3) := by decide +kernel
theorem dX5_passerLine_90 : decode cX5_passerLine 90 = .ok (.ifCond .eq 12, 3) := by decide +kernel
theorem dX5_passerLine_93 : decode cX5_passerLine 93 = .ok (.aload_n 0, 1) := by decide +kernel
theorem dX5_passerLine_94 : decode cX5_passerLine 94 = .ok (.aload_n 1, 1) := by decide +kernel
theorem dX5_passerLine_95 : decode cX5_passerLine 95 = .ok (.aload_n 2, 1) := by decide +kernel
theorem dX5_passerLine_96 : decode cX5_passerLine 96 = .ok (.invokevirtual 176, 3) := by decide +kernel
theorem dX5_passerLine_99 : decode cX5_passerLine 99 = .ok (.ifCond .ne 5, 3) := by decide +kernel
theorem dX5_passerLine_102 : decode cX5_passerLine 102 = .ok (.iconst 0, 1) := by decide +kernel
theorem dX5_passerLine_103 : decode cX5_passerLine 103 = .ok (.ireturn, 1) := by decide +kernel
theorem dX5_passerLine_104 : decode cX5_passerLine 104 = .ok (.aload_n 0, 1) := by decide +kernel
theorem dX5_passerLine_105 : decode cX5_passerLine 105 = .ok (.iconst 3, 1) := by decide +kernel
theorem dX5_passerLine_106 : decode cX5_passerLine 106 = .ok (.iconst 0, 1) := by decide +kernel
theorem dX5_passerLine_107 : decode cX5_passerLine 107 = .ok (.bipush 9, 2) := by decide +kernel
theorem dX5_passerLine_109 : decode cX5_passerLine 109 = .ok (.invokevirtual 80, 3) := by decide +kernel
theorem dX5_passerLine_112 : decode cX5_passerLine 112 = .ok (.ifCond .ne 5, 3) := by decide +kernel
theorem dX5_passerLine_115 : decode cX5_passerLine 115 = .ok (.iconst 0, 1) := by decide +kernel
theorem dX5_passerLine_116 : decode cX5_passerLine 116 = .ok (.ireturn, 1) := by decide +kernel
theorem dX5_passerLine_117 : decode cX5_passerLine 117 = .ok (.aload_n 2, 1) := by decide +kernel
theorem dX5_passerLine_118 : decode cX5_passerLine 118 = .ok (.aload_n 0, 1) := by decide +kernel
theorem dX5_passerLine_119 : decode cX5_passerLine 119 = .ok (.getfield 58, 3) := by decide +kernel
theorem dX5_passerLine_122 : decode cX5_passerLine 122 = .ok (.putfield 180, 3) := by decide +kernel
theorem dX5_passerLine_125 : decode cX5_passerLine 125 = .ok (.aload_n 0, 1) := by decide +kernel
theorem dX5_passerLine_126 : decode cX5_passerLine 126 = .ok (.iconst 4, 1) := by decide +kernel
theorem dX5_passerLine_127 : decode cX5_passerLine 127 = .ok (.iconst 0, 1) := by decide +kernel
theorem dX5_passerLine_128 : decode cX5_passerLine 128 = .ok (.bipush 9, 2) := by decide +kernel
theorem dX5_passerLine_130 : decode cX5_passerLine 130 = .ok (.invokevirtual 80, 3) := by decide +kernel
theorem dX5_passerLine_133 : decode cX5_passerLine 133 = .ok (.ifCond .ne 5, 3) := by decide +kernel
theorem dX5_passerLine_136 : decode cX5_passerLine 136 = .ok (.iconst 0, 1) := by decide +kernel
theorem dX5_passerLine_137 : decode cX5_passerLine 137 = .ok (.ireturn, 1) := by decide +kernel
theorem dX5_passerLine_138 : decode cX5_passerLine 138 = .ok (.aload_n 2, 1) := by decide +kernel
theorem dX5_passerLine_139 : decode cX5_passerLine 139 = .ok (.aload_n 0, 1) := by decide +kernel
theorem dX5_passerLine_140 : decode cX5_passerLine 140 = .ok (.getfield 58, 3) := by decide +kernel
theorem dX5_passerLine_143 : decode cX5_passerLine 143 = .ok (.putfield 183, 3) := by decide +kernel
theorem dX5_passerLine_146 : decode cX5_passerLine 146 = .ok (.aload_n 0, 1) := by decide +kernel
theorem dX5_passerLine_147 : decode cX5_passerLine 147 = .ok (.iconst 5, 1) := by decide +kernel
theorem dX5_passerLine_148 : decode cX5_passerLine 148 = .ok (.iconst 1, 1) := by decide +kernel
theorem dX5_passerLine_149 : decode cX5_passerLine 149 = .ok (.bipush 30, 2) := by decide +kernel
theorem dX5_passerLine_151 : decode cX5_passerLine 151 = .ok (.invokevirtual 80, 3) := by decide +kernel
theorem dX5_passerLine_154 : decode cX5_passerLine 154 = .ok (.ifCond .ne 5, 3) := by decide +kernel
theorem dX5_passerLine_157 : decode cX5_passerLine 157 = .ok (.iconst 0, 1) := by decide +kernel
theorem dX5_passerLine_158 : decode cX5_passerLine 158 = .ok (.ireturn, 1) := by decide +kernel
theorem dX5_passerLine_159 : decode cX5_passerLine 159 = .ok (.aload_n 2, 1) := by decide +kernel
theorem dX5_passerLine_160 : decode cX5_passerLine 160 = .ok (.aload_n 0, 1) := by decide +kernel
theorem dX5_passerLine_161 : decode cX5_passerLine 161 = .ok (.getfield 58, 3) := by decide +kernel
theorem dX5_passerLine_164 : decode cX5_passerLine 164 = .ok (.putfield 186, 3) := by decide +kernel
theorem dX5_passerLine_167 : decode cX5_passerLine 167 = .ok (.aload_n 0, 1) := by decide +kernel
theorem dX5_passerLine_168 : decode cX5_passerLine 168 = .ok (.bipush 6, 2) := by decide +kernel
theorem dX5_passerLine_170 : decode cX5_passerLine 170 = .ok (.iconst 0, 1) := by decide +kernel
theorem dX5_passerLine_171 : decode cX5_passerLine 171 = .ok (.bipush 59, 2) := by decide +kernel
theorem dX5_passerLine_173 : decode cX5_passerLine 173 = .ok (.invokevirtual 80, 3) := by decide +kernel
theorem dX5_passerLine_176 : decode cX5_passerLine 176 = .ok (.ifCond .ne 5, 3) := by decide +kernel
theorem dX5_passerLine_179 : decode cX5_passerLine 179 = .ok (.iconst 0, 1) := by decide +kernel
theorem dX5_passerLine_180 : decode cX5_passerLine 180 = .ok (.ireturn, 1) := by decide +kernel
theorem dX5_passerLine_181 : decode cX5_passerLine 181 = .ok (.aload_n 2, 1) := by decide +kernel
theorem dX5_passerLine_182 : decode cX5_passerLine 182 = .ok (.aload_n 0, 1) := by decide +kernel
theorem dX5_passerLine_183 : decode cX5_passerLine 183 = .ok (.getfield 58, 3) := by decide +kernel
theorem dX5_passerLine_186 : decode cX5_passerLine 186 = .ok (.putfield 189, 3) := by decide +kernel
theorem dX5_passerLine_189 : decode cX5_passerLine 189 = .ok (.iconst 1, 1) := by decide +kernel
theorem dX5_passerLine_190 : decode cX5_passerLine 190 = .ok (.ireturn, 1) := by decide +kernel
set_option maxRecDepth 20000 in
theorem ggX5_takeKind_X5_wrong : GoodIn wsX5_takeKind wsX5_wrong := goodIn_r _ [6, 1, 7, 138, 139, 140, 141, 142, 143, 144, 145, 146, 147] (by decide +kernel) (by decide +kernel)
set_option maxRecDepth 20000 in
theorem gX5_takeKind_X5_wrong : GoodIn wsX5_takeKind (wsV RX5 48 RX5 yX5_wrong wsX5_wrong) := goodIn_app (goodIn_of _ (by decide +kernel)) ggX5_takeKind_X5_wrong
set_option maxRecDepth 20000 in
theorem ggX5_takeKind_X9_advance : GoodIn wsX5_takeKind wsX9_advance := goodIn_r _ [12, 13, 14, 15, 16, 17, 18, 19, 20, 21, 22, 11, 23, 24, 25, 26, 27, 28, 29, 30, 31, 32, 33, 34, 35, 36, 37, 38, 39, 40, 41, 42, 43, 44, 45, 46, 47, 48, 49, 50, 51, 52, 53, 54, 55, 56, 57, 58, 59, 60, 61, 62, 63, 64, 65, 66, 67, 68, 69, 70, 71, 72, 73, 74, 75, 76, 77, 78, 79, 80, 81, 82, 83, 84, 85, 86, 87, 88, 89, 90, 91, 92, 93, 94, 95, 96, 97, 98, 99, 100, 101, 102, 103, 104, 105, 106, 107, 108, 109, 110, 111, 112, 113, 114, 115, 116, 117, 118, 119, 120, 121, 122, 123, 124, 125, 126, 127, 128, 129, 130, 131, 132, 133, 134, 135, 136, 137, 141, 142, 143, 144, 145, 146, 147] (by decide +kernel) (by decide +kernel)
set_option maxRecDepth 20000 in
theorem gX5_takeKind_X9_advance : GoodIn wsX5_takeKind (wsV RX5 52 RX9 yX9_advance wsX9_advance) := goodIn_app (goodIn_of _ (by decide +kernel)) ggX5_takeKind_X9_advance
theorem dX5_takeKind_0 : decode cX5_takeKind 0 = .ok (.aload_n 0, 1) := by decide +kernel
theorem dX5_takeKind_1 : decode cX5_takeKind 1 = .ok (.getfield 9, 3) := by decide +kernel
theorem dX5_takeKind_4 : decode cX5_takeKind 4 = .ok (.getfield 29, 3) := by decide +kernel
theorem dX5_takeKind_7 : decode cX5_takeKind 7 = .ok (.bipush 16, 2) := by decide +kernel
theorem dX5_takeKind_9 : decode cX5_takeKind 9 = .ok (.if_icmp .lt 15, 3) := by decide +kernel
theorem dX5_takeKind_12 : decode cX5_takeKind 12 = .ok (.aload_n 0, 1) := by decide +kernel
theorem dX5_takeKind_13 : decode cX5_takeKind 13 = .ok (.getfield 9, 3) := by decide +kernel
theorem dX5_takeKind_16 : decode cX5_takeKind 16 = .ok (.getfield 29, 3) := by decide +kernel
theorem dX5_takeKind_19 : decode cX5_takeKind 19 = .ok (.bipush 19, 2) := by decide +kernel
theorem dX5_takeKind_21 : decode cX5_takeKind 21 = .ok (.if_icmp .le 9, 3) := by decide +kernel
theorem dX5_takeKind_24 : decode cX5_takeKind 24 = .ok (.aload_n 0, 1) := by decide +kernel
theorem dX5_takeKind_25 : decode cX5_takeKind 25 = .ok (.iconst 1, 1) := by decide +kernel
theorem dX5_takeKind_26 : decode cX5_takeKind 26 = .ok (.invokevirtual 48, 3) := by decide +kernel
theorem dX5_takeKind_29 : decode cX5_takeKind 29 = .ok (.ireturn, 1) := by decide +kernel
theorem dX5_takeKind_30 : decode cX5_takeKind 30 = .ok (.aload_n 1, 1) := by decide +kernel
theorem dX5_takeKind_31 : decode cX5_takeKind 31 = .ok (.iconst 0, 1) := by decide +kernel
theorem dX5_takeKind_32 : decode cX5_takeKind 32 = .ok (.aload_n 0, 1) := by decide +kernel
theorem dX5_takeKind_33 : decode cX5_takeKind 33 = .ok (.getfield 9, 3) := by decide +kernel
theorem dX5_takeKind_36 : decode cX5_takeKind 36 = .ok (.getfield 29, 3) := by decide +kernel
theorem dX5_takeKind_39 : decode cX5_takeKind 39 = .ok (.iadd, 1) := by decide +kernel
theorem dX5_takeKind_40 : decode cX5_takeKind 40 = .ok (.bipush 16, 2) := by decide +kernel
theorem dX5_takeKind_42 : decode cX5_takeKind 42 = .ok (.isub, 1) := by decide +kernel
theorem dX5_takeKind_43 : decode cX5_takeKind 43 = .ok (.putfield 192, 3) := by decide +kernel
theorem dX5_takeKind_46 : decode cX5_takeKind 46 = .ok (.aload_n 0, 1) := by decide +kernel
theorem dX5_takeKind_47 : decode cX5_takeKind 47 = .ok (.getfield 9, 3) := by decide +kernel
theorem dX5_takeKind_50 : decode cX5_takeKind 50 = .ok (.invokevirtual 52, 3) := by decide +kernel
theorem dX5_takeKind_53 : decode cX5_takeKind 53 = .ok (.iconst 1, 1) := by decide +kernel
theorem dX5_takeKind_54 : decode cX5_takeKind 54 = .ok (.ireturn, 1) := by decide +kernel
set_option maxRecDepth 20000 in
theorem ggX5_takeTune_X5_isName : GoodIn wsX5_takeTune wsX5_isName := goodIn_r _ [6, 1, 158, 159, 160, 161, 162, 163, 164, 165, 166, 167] (by decide +kernel) (by decide +kernel)
set_option maxRecDepth 20000 in
theorem gX5_takeTune_X5_isName : GoodIn wsX5_takeTune (wsV RX5 68 RX5 yX5_isName wsX5_isName) := goodIn_app (goodIn_of _ (by decide +kernel)) ggX5_takeTune_X5_isName
set_option maxRecDepth 20000 in
theorem ggX5_takeTune_X5_wrong : GoodIn wsX5_takeTune wsX5_wrong := goodIn_r _ [10, 1, 11, 158, 159, 160, 161, 162, 163, 164, 165, 166, 167] (by decide +kernel) (by decide +kernel)
set_option maxRecDepth 20000 in
theorem gX5_takeTune_X5_wrong : GoodIn wsX5_takeTune (wsV RX5 48 RX5 yX5_wrong wsX5_wrong) := goodIn_app (goodIn_of _ (by decide +kernel)) ggX5_takeTune_X5_wrong
set_option maxRecDepth 20000 in
theorem ggX5_takeTune_X7_tuneNamed : GoodIn wsX5_takeTune wsX7_tuneNamed := goodIn_r _ [16, 17, 18, 177, 178, 179, 180, 181, 182, 183, 184, 185, 186, 187, 188, 189, 190] (by decide +kernel) (by decide +kernel)
set_option maxRecDepth 20000 in
theorem gX5_takeTune_X7_tuneNamed : GoodIn wsX5_takeTune (wsV RX5 195 RX7 yX7_tuneNamed wsX7_tuneNamed) := goodIn_app (goodIn_of _ (by decide +kernel)) ggX5_takeTune_X7_tuneNamed
set_option maxRecDepth 20000 in
theorem ggX5_takeTune_X4_learn : GoodIn wsX5_takeTune wsX4_learn := goodIn_r _ [23, 24, 25, 26, 27, 28, 29, 30, 168, 169, 170, 171, 172, 173, 174, 175, 176] (by decide +kernel) (by decide +kernel)
set_option maxRecDepth 20000 in
theorem gX5_takeTune_X4_learn : GoodIn wsX5_takeTune (wsV RX5 202 RX4 yX4_learn wsX4_learn) := goodIn_app (goodIn_of _ (by decide +kernel)) ggX5_takeTune_X4_learn
set_option maxRecDepth 20000 in
theorem ggX5_takeTune_X9_advance : GoodIn wsX5_takeTune wsX9_advance := goodIn_r _ [35, 36, 37, 38, 39, 40, 41, 42, 43, 44, 45, 34, 46, 47, 48, 49, 50, 51, 52, 53, 54, 55, 56, 57, 58, 59, 60, 61, 62, 63, 64, 65, 66, 67, 68, 69, 70, 71, 72, 73, 74, 75, 76, 77, 78, 79, 80, 81, 82, 83, 84, 85, 86, 87, 88, 89, 90, 91, 92, 93, 94, 95, 96, 97, 98, 99, 100, 101, 102, 103, 104, 105, 106, 107, 108, 109, 110, 111, 112, 113, 27, 114, 115, 26, 28, 116, 117, 118, 119, 120, 121, 122, 123, 124, 125, 126, 127, 128, 129, 130, 131, 132, 133, 134, 135, 136, 137, 138, 139, 140, 141, 142, 143, 144, 145, 146, 147, 148, 149, 150, 151, 152, 153, 154, 155, 156, 157, 161, 162, 163, 164, 165, 166, 167] (by decide +kernel) (by decide +kernel)
set_option maxRecDepth 20000 in
theorem gX5_takeTune_X9_advance : GoodIn wsX5_takeTune (wsV RX5 52 RX9 yX9_advance wsX9_advance) := goodIn_app (goodIn_of _ (by decide +kernel)) ggX5_takeTune_X9_advance
theorem dX5_takeTune_0 : decode cX5_takeTune 0 = .ok (.aload_n 0, 1) := by decide +kernel
theorem dX5_takeTune_1 : decode cX5_takeTune 1 = .ok (.invokevirtual 68, 3) := by decide +kernel
theorem dX5_takeTune_4 : decode cX5_takeTune 4 = .ok (.ifCond .ne 9, 3) := by decide +kernel
theorem dX5_takeTune_7 : decode cX5_takeTune 7 = .ok (.aload_n 0, 1) := by decide +kernel
theorem dX5_takeTune_8 : decode cX5_takeTune 8 = .ok (.iconst 1, 1) := by decide +kernel
theorem dX5_takeTune_9 : decode cX5_takeTune 9 = .ok (.invokevirtual 48, 3) := by decide +kernel
theorem dX5_takeTune_12 : decode cX5_takeTune 12 = .ok (.ireturn, 1) := by decide +kernel
theorem dX5_takeTune_13 : decode cX5_takeTune 13 = .ok (.aload_n 1, 1) := by decide +kernel
theorem dX5_takeTune_14 : decode cX5_takeTune 14 = .ok (.aload_n 0, 1) := by decide +kernel
theorem dX5_takeTune_15 : decode cX5_takeTune 15 = .ok (.getfield 9, 3) := by decide +kernel
theorem dX5_takeTune_18 : decode cX5_takeTune 18 = .ok (.getfield 72, 3) := by decide +kernel
theorem dX5_takeTune_21 : decode cX5_takeTune 21 = .ok (.invokevirtual 195, 3) := by decide +kernel
theorem dX5_takeTune_24 : decode cX5_takeTune 24 = .ok (.istore_n 3, 1) := by decide +kernel
theorem dX5_takeTune_25 : decode cX5_takeTune 25 = .ok (.iload_n 3, 1) := by decide +kernel
theorem dX5_takeTune_26 : decode cX5_takeTune 26 = .ok (.ifCond .lt 8, 3) := by decide +kernel
theorem dX5_takeTune_29 : decode cX5_takeTune 29 = .ok (.iload_n 3, 1) := by decide +kernel
theorem dX5_takeTune_30 : decode cX5_takeTune 30 = .ok (.iconst 5, 1) := by decide +kernel
theorem dX5_takeTune_31 : decode cX5_takeTune 31 = .ok (.if_icmp .lt 9, 3) := by decide +kernel
theorem dX5_takeTune_34 : decode cX5_takeTune 34 = .ok (.aload_n 0, 1) := by decide +kernel
theorem dX5_takeTune_35 : decode cX5_takeTune 35 = .ok (.iconst 2, 1) := by decide +kernel
theorem dX5_takeTune_36 : decode cX5_takeTune 36 = .ok (.invokevirtual 48, 3) := by decide +kernel
theorem dX5_takeTune_39 : decode cX5_takeTune 39 = .ok (.ireturn, 1) := by decide +kernel
theorem dX5_takeTune_40 : decode cX5_takeTune 40 = .ok (.aload_n 2, 1) := by decide +kernel
theorem dX5_takeTune_41 : decode cX5_takeTune 41 = .ok (.iload_n 3, 1) := by decide +kernel
theorem dX5_takeTune_42 : decode cX5_takeTune 42 = .ok (.putfield 199, 3) := by decide +kernel
theorem dX5_takeTune_45 : decode cX5_takeTune 45 = .ok (.aload_n 2, 1) := by decide +kernel
theorem dX5_takeTune_46 : decode cX5_takeTune 46 = .ok (.aload_n 1, 1) := by decide +kernel
theorem dX5_takeTune_47 : decode cX5_takeTune 47 = .ok (.getfield 156, 3) := by decide +kernel
theorem dX5_takeTune_50 : decode cX5_takeTune 50 = .ok (.iload_n 3, 1) := by decide +kernel
theorem dX5_takeTune_51 : decode cX5_takeTune 51 = .ok (.aaload, 1) := by decide +kernel
theorem dX5_takeTune_52 : decode cX5_takeTune 52 = .ok (.aload_n 1, 1) := by decide +kernel
theorem dX5_takeTune_53 : decode cX5_takeTune 53 = .ok (.getfield 148, 3) := by decide +kernel
theorem dX5_takeTune_56 : decode cX5_takeTune 56 = .ok (.iload_n 3, 1) := by decide +kernel
theorem dX5_takeTune_57 : decode cX5_takeTune 57 = .ok (.iaload, 1) := by decide +kernel
theorem dX5_takeTune_58 : decode cX5_takeTune 58 = .ok (.invokevirtual 202, 3) := by decide +kernel
theorem dX5_takeTune_61 : decode cX5_takeTune 61 = .ok (.aload_n 0, 1) := by decide +kernel
theorem dX5_takeTune_62 : decode cX5_takeTune 62 = .ok (.getfield 9, 3) := by decide +kernel
theorem dX5_takeTune_65 : decode cX5_takeTune 65 = .ok (.invokevirtual 52, 3) := by decide +kernel
theorem dX5_takeTune_68 : decode cX5_takeTune 68 = .ok (.iconst 1, 1) := by decide +kernel
theorem dX5_takeTune_69 : decode cX5_takeTune 69 = .ok (.ireturn, 1) := by decide +kernel
set_option maxRecDepth 20000 in
theorem ggX5_expression_X5_expression : GoodIn wsX5_expression wsX5_expression := goodIn_r _ [0, 1, 2, 3, 4, 5, 6, 7, 8, 9, 10, 11, 12, 13, 14, 15, 16, 17, 18, 19, 20, 21, 22, 23, 24, 25, 26, 27, 28, 29, 30, 31, 32, 33, 34, 35, 36, 37, 38, 39, 40, 41, 42, 43, 44, 45, 46, 47, 48, 49, 50, 51, 52, 53, 54, 55, 56, 57, 58, 59, 60, 61, 62, 63, 64, 65, 66, 67, 68, 69, 70, 71, 72, 73, 74, 75, 76, 77, 78, 79, 80, 81, 82, 83, 84, 85, 86, 87, 88, 89, 90, 91, 92, 93, 94, 95, 96, 97, 98, 99, 100, 101, 102, 103, 104, 105, 106, 107, 108, 109, 110, 111, 112, 113, 114, 115, 116, 117, 118, 119, 120, 121, 122, 123, 124, 125, 126, 127, 128, 129, 130, 131, 132, 133, 134, 135, 136, 137, 138, 139, 140, 141, 142, 143, 144, 145, 146, 147, 148, 149, 150, 151, 152, 153, 154, 155, 156, 157, 158, 159, 160, 161, 162, 163, 164, 165, 166, 167, 168, 169, 170, 171, 172, 173, 174, 175, 176, 177, 178] (by decide +kernel) (by decide +kernel)
set_option maxRecDepth 20000 in
theorem gX5_expression_X5_expression : GoodIn wsX5_expression (wsV RX5 113 RX5 yX5_expression wsX5_expression) := goodIn_app (goodIn_of _ (by decide +kernel)) ggX5_expression_X5_expression
set_option maxRecDepth 20000 in
theorem ggX5_expression_X5_part : GoodIn wsX5_expression wsX5_part := goodIn_r _ [149, 1, 150, 151, 152, 145, 153, 154, 155, 156, 157, 5, 158, 159, 12, 13, 14, 15, 16, 17, 18, 19, 20, 21, 22, 23, 24, 25, 26, 27, 28, 29, 30, 31, 32, 33, 34, 35, 36, 37, 38, 39, 40, 41, 42, 43, 44, 45, 46, 47, 48, 49, 50, 51, 52, 53, 54, 55, 56, 57, 58, 59, 60, 61, 62, 63, 64, 65, 66, 67, 68, 69, 70, 71, 72, 73, 74, 75, 76, 77, 78, 79, 80, 81, 82, 83, 84, 85, 86, 87, 88, 89, 90, 91, 92, 93, 94, 95, 96, 97, 98, 99, 100, 101, 102, 103, 104, 105, 106, 107, 108, 109, 110, 111, 112, 113, 114, 115, 116, 117, 118, 119, 120, 121, 122, 123, 124, 125, 126, 127, 128, 129, 130, 131, 132, 133, 134, 135, 136, 137, 138, 139, 140, 141, 2, 3, 4, 160, 161, 162, 163, 6, 7, 8, 142, 143, 144, 146, 147, 148, 0, 9, 10, 11, 164, 165, 166, 167, 168, 169, 170, 171, 172, 173, 174, 175, 176, 177, 178] (by decide +kernel) (by decide +kernel)
set_option maxRecDepth 20000 in
theorem gX5_expression_X5_part : GoodIn wsX5_expression (wsV RX5 206 RX5 yX5_part wsX5_part) := goodIn_app (goodIn_of _ (by decide +kernel)) ggX5_expression_X5_part
set_option maxRecDepth 20000 in
theorem ggX5_expression_X5_stepOf : GoodIn wsX5_expression wsX5_stepOf := goodIn_r _ [11] (by decide +kernel) (by decide +kernel)
set_option maxRecDepth 20000 in
theorem gX5_expression_X5_stepOf : GoodIn wsX5_expression (va_wsS RX5 210 yX5_stepOf wsX5_stepOf) := goodIn_app (goodIn_of _ (by decide +kernel)) ggX5_expression_X5_stepOf
set_option maxRecDepth 20000 in
theorem ggX5_expression_X9_advance : GoodIn wsX5_expression wsX9_advance := goodIn_r _ [16, 17, 18, 19, 20, 21, 22, 23, 24, 25, 26, 15, 27, 28, 29, 30, 31, 32, 33, 34, 35, 36, 37, 38, 39, 40, 41, 42, 43, 44, 45, 46, 47, 48, 49, 50, 51, 52, 53, 54, 55, 56, 57, 58, 59, 60, 61, 62, 63, 64, 65, 66, 67, 68, 69, 70, 71, 72, 73, 74, 75, 76, 77, 78, 79, 80, 81, 82, 83, 84, 85, 86, 87, 88, 89, 90, 91, 92, 93, 94, 95, 96, 97, 98, 99, 100, 101, 102, 103, 104, 105, 106, 107, 108, 109, 110, 111, 112, 113, 114, 115, 116, 117, 118, 119, 120, 121, 122, 123, 124, 125, 126, 127, 128, 129, 130, 131, 132, 133, 134, 135, 136, 137, 138, 139, 140, 141, 167, 168, 169, 170, 171, 172, 173] (by decide +kernel) (by decide +kernel)
set_option maxRecDepth 20000 in
theorem gX5_expression_X9_advance : GoodIn wsX5_expression (wsV RX5 52 RX9 yX9_advance wsX9_advance) := goodIn_app (goodIn_of _ (by decide +kernel)) ggX5_expression_X9_advance
set_option maxRecDepth 20000 in
theorem ggX5_expression_X2_add : GoodIn wsX5_expression wsX2_add := goodIn_r _ [146, 147, 148, 174, 175, 176, 177, 178] (by decide +kernel) (by decide +kernel)
set_option maxRecDepth 20000 in
theorem gX5_expression_X2_add : GoodIn wsX5_expression (wsV RX5 214 RX2 yX2_add wsX2_add) := goodIn_app (goodIn_of _ (by decide +kernel)) ggX5_expression_X2_add
theorem dX5_expression_0 : decode cX5_expression 0 = .ok (.iload_n 3, 1) := by decide +kernel
theorem dX5_expression_1 : decode cX5_expression 1 = .ok (.iconst 3, 1) := by decide +kernel
theorem dX5_expression_2 : decode cX5_expression 2 = .ok (.if_icmp .ge 15, 3) := by decide +kernel
theorem dX5_expression_5 : decode cX5_expression 5 = .ok (.aload_n 0, 1) := by decide +kernel
theorem dX5_expression_6 : decode cX5_expression 6 = .ok (.aload_n 1, 1) := by decide +kernel
theorem dX5_expression_7 : decode cX5_expression 7 = .ok (.iload_n 2, 1) := by decide +kernel
theorem dX5_expression_8 : decode cX5_expression 8 = .ok (.iload_n 3, 1) := by decide +kernel
theorem dX5_expression_9 : decode cX5_expression 9 = .ok (.iconst 1, 1) := by decide +kernel
theorem dX5_expression_10 : decode cX5_expression 10 = .ok (.iadd, 1) := by decide +kernel
theorem dX5_expression_11 : decode cX5_expression 11 = .ok (.invokevirtual 113, 3) := by decide +kernel
theorem dX5_expression_14 : decode cX5_expression 14 = .ok (.goto 9, 3) := by decide +kernel
theorem dX5_expression_17 : decode cX5_expression 17 = .ok (.aload_n 0, 1) := by decide +kernel
theorem dX5_expression_18 : decode cX5_expression 18 = .ok (.aload_n 1, 1) := by decide +kernel
theorem dX5_expression_19 : decode cX5_expression 19 = .ok (.iload_n 2, 1) := by decide +kernel
theorem dX5_expression_20 : decode cX5_expression 20 = .ok (.invokevirtual 206, 3) := by decide +kernel
theorem dX5_expression_23 : decode cX5_expression 23 = .ok (.istore 4, 2) := by decide +kernel
theorem dX5_expression_25 : decode cX5_expression 25 = .ok (.iload_n 3, 1) := by decide +kernel
theorem dX5_expression_26 : decode cX5_expression 26 = .ok (.iconst 1, 1) := by decide +kernel
theorem dX5_expression_27 : decode cX5_expression 27 = .ok (.if_icmp .ne 7, 3) := by decide +kernel
theorem dX5_expression_30 : decode cX5_expression 30 = .ok (.iconst 1, 1) := by decide +kernel
theorem dX5_expression_31 : decode cX5_expression 31 = .ok (.goto 6, 3) := by decide +kernel
theorem dX5_expression_34 : decode cX5_expression 34 = .ok (.sipush 1000, 3) := by decide +kernel
theorem dX5_expression_37 : decode cX5_expression 37 = .ok (.istore 5, 2) := by decide +kernel
theorem dX5_expression_39 : decode cX5_expression 39 = .ok (.iconst 0, 1) := by decide +kernel
theorem dX5_expression_40 : decode cX5_expression 40 = .ok (.istore 6, 2) := by decide +kernel
theorem dX5_expression_42 : decode cX5_expression 42 = .ok (.iload 6, 2) := by decide +kernel
theorem dX5_expression_44 : decode cX5_expression 44 = .ok (.iload 5, 2) := by decide +kernel
theorem dX5_expression_46 : decode cX5_expression 46 = .ok (.if_icmp .ge 72, 3) := by decide +kernel
theorem dX5_expression_49 : decode cX5_expression 49 = .ok (.iload 4, 2) := by decide +kernel
theorem dX5_expression_51 : decode cX5_expression 51 = .ok (.ifCond .eq 67, 3) := by decide +kernel
theorem dX5_expression_54 : decode cX5_expression 54 = .ok (.aload_n 0, 1) := by decide +kernel
theorem dX5_expression_55 : decode cX5_expression 55 = .ok (.getfield 9, 3) := by decide +kernel
theorem dX5_expression_58 : decode cX5_expression 58 = .ok (.getfield 29, 3) := by decide +kernel
theorem dX5_expression_61 : decode cX5_expression 61 = .ok (.iload_n 3, 1) := by decide +kernel
theorem dX5_expression_62 : decode cX5_expression 62 = .ok (.invokestatic 210, 3) := by decide +kernel
theorem dX5_expression_65 : decode cX5_expression 65 = .ok (.istore 7, 2) := by decide +kernel
theorem dX5_expression_67 : decode cX5_expression 67 = .ok (.iload 7, 2) := by decide +kernel
theorem dX5_expression_69 : decode cX5_expression 69 = .ok (.ifCond .ne 5, 3) := by decide +kernel
theorem dX5_expression_72 : decode cX5_expression 72 = .ok (.iconst 1, 1) := by decide +kernel
theorem dX5_expression_73 : decode cX5_expression 73 = .ok (.ireturn, 1) := by decide +kernel
theorem dX5_expression_74 : decode cX5_expression 74 = .ok (.aload_n 0, 1) := by decide +kernel
theorem dX5_expression_75 : decode cX5_expression 75 = .ok (.getfield 9, 3) := by decide +kernel
theorem dX5_expression_78 : decode cX5_expression 78 = .ok (.invokevirtual 52, 3) := by decide +kernel
theorem dX5_expression_81 : decode cX5_expression 81 = .ok (.iload_n 3, 1) := by decide +kernel
theorem dX5_expression_82 : decode cX5_expression 82 = .ok (.iconst 3, 1) := by decide +kernel
theorem dX5_expression_83 : decode cX5_expression 83 = .ok (.if_icmp .ge 15, 3) := by decide +kernel
theorem dX5_expression_86 : decode cX5_expression 86 = .ok (.aload_n 0, 1) := by decide +kernel
theorem dX5_expression_87 : decode cX5_expression 87 = .ok (.aload_n 1, 1) := by decide +kernel
theorem dX5_expression_88 : decode cX5_expression 88 = .ok (.iload_n 2, 1) := by decide +kernel
theorem dX5_expression_89 : decode cX5_expression 89 = .ok (.iload_n 3, 1) := by decide +kernel
theorem dX5_expression_90 : decode cX5_expression 90 = .ok (.iconst 1, 1) := by decide +kernel
theorem dX5_expression_91 : decode cX5_expression 91 = .ok (.iadd, 1) := by decide +kernel
theorem dX5_expression_92 : decode cX5_expression 92 = .ok (.invokevirtual 113, 3) := by decide +kernel
theorem dX5_expression_95 : decode cX5_expression 95 = .ok (.goto 9, 3) := by decide +kernel
theorem dX5_expression_98 : decode cX5_expression 98 = .ok (.aload_n 0, 1) := by decide +kernel
theorem dX5_expression_99 : decode cX5_expression 99 = .ok (.aload_n 1, 1) := by decide +kernel
theorem dX5_expression_100 : decode cX5_expression 100 = .ok (.iload_n 2, 1) := by decide +kernel
theorem dX5_expression_101 : decode cX5_expression 101 = .ok (.invokevirtual 206, 3) := by decide +kernel
theorem dX5_expression_104 : decode cX5_expression 104 = .ok (.istore 4, 2) := by decide +kernel
theorem dX5_expression_106 : decode cX5_expression 106 = .ok (.aload_n 1, 1) := by decide +kernel
theorem dX5_expression_107 : decode cX5_expression 107 = .ok (.iload 7, 2) := by decide +kernel
theorem dX5_expression_109 : decode cX5_expression 109 = .ok (.invokevirtual 214, 3) := by decide +kernel
theorem dX5_expression_112 : decode cX5_expression 112 = .ok (.iinc 6 1, 3) := by decide +kernel
theorem dX5_expression_115 : decode cX5_expression 115 = .ok (.goto (-73), 3) := by decide +kernel
theorem dX5_expression_118 : decode cX5_expression 118 = .ok (.iload 4, 2) := by decide +kernel
theorem dX5_expression_120 : decode cX5_expression 120 = .ok (.ireturn, 1) := by decide +kernel
theorem dX5_stepOf_0 : decode cX5_stepOf 0 = .ok (.iload_n 1, 1) := by decide +kernel
theorem dX5_stepOf_1 : decode cX5_stepOf 1 = .ok (.tableswitch 99 0 2 #[27, 51, 75], 27) := by decide +kernel
theorem dX5_stepOf_28 : decode cX5_stepOf 28 = .ok (.iload_n 0, 1) := by decide +kernel
theorem dX5_stepOf_29 : decode cX5_stepOf 29 = .ok (.bipush 21, 2) := by decide +kernel
theorem dX5_stepOf_31 : decode cX5_stepOf 31 = .ok (.if_icmp .ne 8, 3) := by decide +kernel
theorem dX5_stepOf_34 : decode cX5_stepOf 34 = .ok (.bipush (-12), 2) := by decide +kernel
theorem dX5_stepOf_36 : decode cX5_stepOf 36 = .ok (.goto 15, 3) := by decide +kernel
theorem dX5_stepOf_39 : decode cX5_stepOf 39 = .ok (.iload_n 0, 1) := by decide +kernel
theorem dX5_stepOf_40 : decode cX5_stepOf 40 = .ok (.bipush 22, 2) := by decide +kernel
theorem dX5_stepOf_42 : decode cX5_stepOf 42 = .ok (.if_icmp .ne 8, 3) := by decide +kernel
theorem dX5_stepOf_45 : decode cX5_stepOf 45 = .ok (.bipush (-13), 2) := by decide +kernel
theorem dX5_stepOf_47 : decode cX5_stepOf 47 = .ok (.goto 4, 3) := by decide +kernel
theorem dX5_stepOf_50 : decode cX5_stepOf 50 = .ok (.iconst 0, 1) := by decide +kernel
theorem dX5_stepOf_51 : decode cX5_stepOf 51 = .ok (.ireturn, 1) := by decide +kernel
theorem dX5_stepOf_52 : decode cX5_stepOf 52 = .ok (.iload_n 0, 1) := by decide +kernel
theorem dX5_stepOf_53 : decode cX5_stepOf 53 = .ok (.bipush 60, 2) := by decide +kernel
theorem dX5_stepOf_55 : decode cX5_stepOf 55 = .ok (.if_icmp .ne 8, 3) := by decide +kernel
theorem dX5_stepOf_58 : decode cX5_stepOf 58 = .ok (.bipush (-14), 2) := by decide +kernel
theorem dX5_stepOf_60 : decode cX5_stepOf 60 = .ok (.goto 15, 3) := by decide +kernel
theorem dX5_stepOf_63 : decode cX5_stepOf 63 = .ok (.iload_n 0, 1) := by decide +kernel
theorem dX5_stepOf_64 : decode cX5_stepOf 64 = .ok (.bipush 61, 2) := by decide +kernel
theorem dX5_stepOf_66 : decode cX5_stepOf 66 = .ok (.if_icmp .ne 8, 3) := by decide +kernel
theorem dX5_stepOf_69 : decode cX5_stepOf 69 = .ok (.bipush (-15), 2) := by decide +kernel
theorem dX5_stepOf_71 : decode cX5_stepOf 71 = .ok (.goto 4, 3) := by decide +kernel
theorem dX5_stepOf_74 : decode cX5_stepOf 74 = .ok (.iconst 0, 1) := by decide +kernel
theorem dX5_stepOf_75 : decode cX5_stepOf 75 = .ok (.ireturn, 1) := by decide +kernel
theorem dX5_stepOf_76 : decode cX5_stepOf 76 = .ok (.iload_n 0, 1) := by decide +kernel
theorem dX5_stepOf_77 : decode cX5_stepOf 77 = .ok (.bipush 43, 2) := by decide +kernel
theorem dX5_stepOf_79 : decode cX5_stepOf 79 = .ok (.if_icmp .ne 8, 3) := by decide +kernel
theorem dX5_stepOf_82 : decode cX5_stepOf 82 = .ok (.bipush (-16), 2) := by decide +kernel
theorem dX5_stepOf_84 : decode cX5_stepOf 84 = .ok (.goto 15, 3) := by decide +kernel
theorem dX5_stepOf_87 : decode cX5_stepOf 87 = .ok (.iload_n 0, 1) := by decide +kernel
theorem dX5_stepOf_88 : decode cX5_stepOf 88 = .ok (.bipush 45, 2) := by decide +kernel
theorem dX5_stepOf_90 : decode cX5_stepOf 90 = .ok (.if_icmp .ne 8, 3) := by decide +kernel
theorem dX5_stepOf_93 : decode cX5_stepOf 93 = .ok (.bipush (-17), 2) := by decide +kernel
theorem dX5_stepOf_95 : decode cX5_stepOf 95 = .ok (.goto 4, 3) := by decide +kernel
theorem dX5_stepOf_98 : decode cX5_stepOf 98 = .ok (.iconst 0, 1) := by decide +kernel
theorem dX5_stepOf_99 : decode cX5_stepOf 99 = .ok (.ireturn, 1) := by decide +kernel
theorem dX5_stepOf_100 : decode cX5_stepOf 100 = .ok (.iload_n 0, 1) := by decide +kernel
theorem dX5_stepOf_101 : decode cX5_stepOf 101 = .ok (.bipush 42, 2) := by decide +kernel
theorem dX5_stepOf_103 : decode cX5_stepOf 103 = .ok (.if_icmp .ne 8, 3) := by decide +kernel
theorem dX5_stepOf_106 : decode cX5_stepOf 106 = .ok (.bipush (-18), 2) := by decide +kernel
theorem dX5_stepOf_108 : decode cX5_stepOf 108 = .ok (.goto 4, 3) := by decide +kernel
theorem dX5_stepOf_111 : decode cX5_stepOf 111 = .ok (.iconst 0, 1) := by decide +kernel
theorem dX5_stepOf_112 : decode cX5_stepOf 112 = .ok (.ireturn, 1) := by decide +kernel
set_option maxRecDepth 20000 in
theorem ggX5_part_X2_knows : GoodIn wsX5_part wsX2_knows := goodIn_r _ [6, 7, 174, 175, 176, 177, 178] (by decide +kernel) (by decide +kernel)
set_option maxRecDepth 20000 in
theorem gX5_part_X2_knows : GoodIn wsX5_part (wsV RX5 219 RX2 yX2_knows wsX2_knows) := goodIn_app (goodIn_of _ (by decide +kernel)) ggX5_part_X2_knows
set_option maxRecDepth 20000 in
theorem ggX5_part_X5_wrong : GoodIn wsX5_part wsX5_wrong := goodIn_r _ [12, 1, 13, 164, 165, 166, 167, 168, 169, 170, 171, 172, 173] (by decide +kernel) (by decide +kernel)
set_option maxRecDepth 20000 in
theorem gX5_part_X5_wrong : GoodIn wsX5_part (wsV RX5 48 RX5 yX5_wrong wsX5_wrong) := goodIn_app (goodIn_of _ (by decide +kernel)) ggX5_part_X5_wrong
set_option maxRecDepth 20000 in
theorem ggX5_part_X9_advance : GoodIn wsX5_part wsX9_advance := goodIn_r _ [18, 19, 20, 21, 22, 23, 24, 25, 26, 27, 28, 17, 29, 30, 31, 32, 33, 34, 35, 36, 37, 38, 39, 40, 41, 42, 43, 44, 45, 46, 47, 48, 49, 50, 51, 52, 53, 54, 55, 56, 57, 58, 59, 60, 61, 62, 63, 64, 65, 66, 67, 68, 69, 70, 71, 72, 73, 74, 75, 76, 77, 78, 79, 80, 81, 82, 83, 84, 85, 86, 87, 88, 89, 90, 91, 92, 93, 94, 95, 96, 97, 98, 99, 100, 101, 102, 103, 104, 105, 106, 107, 108, 109, 110, 111, 112, 113, 114, 115, 116, 117, 118, 119, 120, 121, 122, 123, 124, 125, 126, 127, 128, 129, 130, 131, 132, 133, 134, 135, 136, 137, 138, 139, 140, 141, 142, 143, 167, 168, 169, 170, 171, 172, 173] (by decide +kernel) (by decide +kernel)
set_option maxRecDepth 20000 in
theorem gX5_part_X9_advance : GoodIn wsX5_part (wsV RX5 52 RX9 yX9_advance wsX9_advance) := goodIn_app (goodIn_of _ (by decide +kernel)) ggX5_part_X9_advance
set_option maxRecDepth 20000 in
theorem ggX5_part_X5_expression : GoodIn wsX5_part wsX5_expression := goodIn_r _ [160, 1, 144, 145, 146, 11, 151, 152, 153, 161, 162, 163, 14, 15, 16, 17, 18, 19, 20, 21, 22, 23, 24, 25, 26, 27, 28, 29, 30, 31, 32, 33, 34, 35, 36, 37, 38, 39, 40, 41, 42, 43, 44, 45, 46, 47, 48, 49, 50, 51, 52, 53, 54, 55, 56, 57, 58, 59, 60, 61, 62, 63, 64, 65, 66, 67, 68, 69, 70, 71, 72, 73, 74, 75, 76, 77, 78, 79, 80, 81, 82, 83, 84, 85, 86, 87, 88, 89, 90, 91, 92, 93, 94, 95, 96, 97, 98, 99, 100, 101, 102, 103, 104, 105, 106, 107, 108, 109, 110, 111, 112, 113, 114, 115, 116, 117, 118, 119, 120, 121, 122, 123, 124, 125, 126, 127, 128, 129, 130, 131, 132, 133, 134, 135, 136, 137, 138, 139, 140, 141, 142, 143, 154, 155, 156, 5, 157, 158, 159, 0, 2, 3, 4, 6, 7, 8, 9, 10, 12, 13, 147, 148, 149, 150, 164, 165, 166, 167, 168, 169, 170, 171, 172, 173, 174, 175, 176, 177, 178] (by decide +kernel) (by decide +kernel)
set_option maxRecDepth 20000 in
theorem gX5_part_X5_expression : GoodIn wsX5_part (wsV RX5 113 RX5 yX5_expression wsX5_expression) := goodIn_app (goodIn_of _ (by decide +kernel)) ggX5_part_X5_expression
set_option maxRecDepth 20000 in
theorem ggX5_part_X5_take : GoodIn wsX5_part wsX5_take := goodIn_r _ [150, 1, 8, 9, 10, 11, 12, 13, 14, 15, 16, 17, 18, 19, 20, 21, 22, 23, 24, 25, 26, 27, 28, 29, 30, 31, 32, 33, 34, 35, 36, 37, 38, 39, 40, 41, 42, 43, 44, 45, 46, 47, 48, 49, 50, 51, 52, 53, 54, 55, 56, 57, 58, 59, 60, 61, 62, 63, 64, 65, 66, 67, 68, 69, 70, 71, 72, 73, 74, 75, 76, 77, 78, 79, 80, 81, 82, 83, 84, 85, 86, 87, 88, 89, 90, 91, 92, 93, 94, 95, 96, 97, 98, 99, 100, 101, 102, 103, 104, 105, 106, 107, 108, 109, 110, 111, 112, 113, 114, 115, 116, 117, 118, 119, 120, 121, 122, 123, 124, 125, 126, 127, 128, 129, 130, 131, 132, 133, 134, 135, 136, 137, 138, 139, 140, 141, 142, 143, 164, 165, 166, 167, 168, 169, 170, 171, 172, 173] (by decide +kernel) (by decide +kernel)
set_option maxRecDepth 20000 in
theorem gX5_part_X5_take : GoodIn wsX5_part (wsV RX5 61 RX5 yX5_take wsX5_take) := goodIn_app (goodIn_of _ (by decide +kernel)) ggX5_part_X5_take
set_option maxRecDepth 20000 in
theorem ggX5_part_X5_part : GoodIn wsX5_part wsX5_part := goodIn_r _ [0, 1, 2, 3, 4, 5, 6, 7, 8, 9, 10, 11, 12, 13, 14, 15, 16, 17, 18, 19, 20, 21, 22, 23, 24, 25, 26, 27, 28, 29, 30, 31, 32, 33, 34, 35, 36, 37, 38, 39, 40, 41, 42, 43, 44, 45, 46, 47, 48, 49, 50, 51, 52, 53, 54, 55, 56, 57, 58, 59, 60, 61, 62, 63, 64, 65, 66, 67, 68, 69, 70, 71, 72, 73, 74, 75, 76, 77, 78, 79, 80, 81, 82, 83, 84, 85, 86, 87, 88, 89, 90, 91, 92, 93, 94, 95, 96, 97, 98, 99, 100, 101, 102, 103, 104, 105, 106, 107, 108, 109, 110, 111, 112, 113, 114, 115, 116, 117, 118, 119, 120, 121, 122, 123, 124, 125, 126, 127, 128, 129, 130, 131, 132, 133, 134, 135, 136, 137, 138, 139, 140, 141, 142, 143, 144, 145, 146, 147, 148, 149, 150, 151, 152, 153, 154, 155, 156, 157, 158, 159, 160, 161, 162, 163, 164, 165, 166, 167, 168, 169, 170, 171, 172, 173, 174, 175, 176, 177, 178] (by decide +kernel) (by decide +kernel)
set_option maxRecDepth 20000 in
theorem gX5_part_X5_part : GoodIn wsX5_part (wsV RX5 206 RX5 yX5_part wsX5_part) := goodIn_app (goodIn_of _ (by decide +kernel)) ggX5_part_X5_part
set_option maxRecDepth 20000 in
theorem ggX5_part_X2_add : GoodIn wsX5_part wsX2_add := goodIn_r _ [157, 158, 159, 174, 175, 176, 177, 178] (by decide +kernel) (by decide +kernel)
set_option maxRecDepth 20000 in
theorem gX5_part_X2_add : GoodIn wsX5_part (wsV RX5 214 RX2 yX2_add wsX2_add) := goodIn_app (goodIn_of _ (by decide +kernel)) ggX5_part_X2_add
theorem dX5_part_0 : decode cX5_part 0 = .ok (.aload_n 0, 1) := by decide +kernel
theorem dX5_part_1 : decode cX5_part 1 = .ok (.getfield 9, 3) := by decide +kernel
theorem dX5_part_4 : decode cX5_part 4 = .ok (.getfield 29, 3) := by decide +kernel
theorem dX5_part_7 : decode cX5_part 7 = .ok (.istore_n 3, 1) := by decide +kernel
theorem dX5_part_8 : decode cX5_part 8 = .ok (.aload_n 0, 1) := by decide +kernel
theorem dX5_part_9 : decode cX5_part 9 = .ok (.getfield 9, 3) := by decide +kernel
theorem dX5_part_12 : decode cX5_part 12 = .ok (.getfield 55, 3) := by decide +kernel
theorem dX5_part_15 : decode cX5_part 15 = .ok (.istore 4, 2) := by decide +kernel
theorem dX5_part_17 : decode cX5_part 17 = .ok (.iload_n 3, 1) := by decide +kernel
theorem dX5_part_18 : decode cX5_part 18 = .ok (.bipush 100, 2) := by decide +kernel
theorem dX5_part_20 : decode cX5_part 20 = .ok (.if_icmp .eq 29, 3) := by decide +kernel
theorem dX5_part_23 : decode cX5_part 23 = .ok (.iload_n 3, 1) := by decide +kernel
theorem dX5_part_24 : decode cX5_part 24 = .ok (.bipush 20, 2) := by decide +kernel
theorem dX5_part_26 : decode cX5_part 26 = .ok (.if_icmp .eq 23, 3) := by decide +kernel
theorem dX5_part_29 : decode cX5_part 29 = .ok (.iload_n 3, 1) := by decide +kernel
theorem dX5_part_30 : decode cX5_part 30 = .ok (.bipush 40, 2) := by decide +kernel
theorem dX5_part_32 : decode cX5_part 32 = .ok (.if_icmp .eq 17, 3) := by decide +kernel
theorem dX5_part_35 : decode cX5_part 35 = .ok (.aload_n 1, 1) := by decide +kernel
theorem dX5_part_36 : decode cX5_part 36 = .ok (.iload_n 3, 1) := by decide +kernel
theorem dX5_part_37 : decode cX5_part 37 = .ok (.invokevirtual 219, 3) := by decide +kernel
theorem dX5_part_40 : decode cX5_part 40 = .ok (.ifCond .ne 9, 3) := by decide +kernel
theorem dX5_part_43 : decode cX5_part 43 = .ok (.aload_n 0, 1) := by decide +kernel
theorem dX5_part_44 : decode cX5_part 44 = .ok (.iconst 1, 1) := by decide +kernel
theorem dX5_part_45 : decode cX5_part 45 = .ok (.invokevirtual 48, 3) := by decide +kernel
theorem dX5_part_48 : decode cX5_part 48 = .ok (.ireturn, 1) := by decide +kernel
theorem dX5_part_49 : decode cX5_part 49 = .ok (.iload_n 2, 1) := by decide +kernel
theorem dX5_part_50 : decode cX5_part 50 = .ok (.iconst 5, 1) := by decide +kernel
theorem dX5_part_51 : decode cX5_part 51 = .ok (.if_icmp .lt 9, 3) := by decide +kernel
theorem dX5_part_54 : decode cX5_part 54 = .ok (.aload_n 0, 1) := by decide +kernel
theorem dX5_part_55 : decode cX5_part 55 = .ok (.iconst 5, 1) := by decide +kernel
theorem dX5_part_56 : decode cX5_part 56 = .ok (.invokevirtual 48, 3) := by decide +kernel
theorem dX5_part_59 : decode cX5_part 59 = .ok (.ireturn, 1) := by decide +kernel
theorem dX5_part_60 : decode cX5_part 60 = .ok (.aload_n 0, 1) := by decide +kernel
theorem dX5_part_61 : decode cX5_part 61 = .ok (.getfield 9, 3) := by decide +kernel
theorem dX5_part_64 : decode cX5_part 64 = .ok (.invokevirtual 52, 3) := by decide +kernel
theorem dX5_part_67 : decode cX5_part 67 = .ok (.iload_n 3, 1) := by decide +kernel
theorem dX5_part_68 : decode cX5_part 68 = .ok (.bipush 40, 2) := by decide +kernel
theorem dX5_part_70 : decode cX5_part 70 = .ok (.if_icmp .ne 30, 3) := by decide +kernel
theorem dX5_part_73 : decode cX5_part 73 = .ok (.aload_n 0, 1) := by decide +kernel
theorem dX5_part_74 : decode cX5_part 74 = .ok (.aload_n 1, 1) := by decide +kernel
theorem dX5_part_75 : decode cX5_part 75 = .ok (.iload_n 2, 1) := by decide +kernel
theorem dX5_part_76 : decode cX5_part 76 = .ok (.iconst 1, 1) := by decide +kernel
theorem dX5_part_77 : decode cX5_part 77 = .ok (.iadd, 1) := by decide +kernel
theorem dX5_part_78 : decode cX5_part 78 = .ok (.iconst 0, 1) := by decide +kernel
theorem dX5_part_79 : decode cX5_part 79 = .ok (.invokevirtual 113, 3) := by decide +kernel
theorem dX5_part_82 : decode cX5_part 82 = .ok (.ifCond .eq 16, 3) := by decide +kernel
theorem dX5_part_85 : decode cX5_part 85 = .ok (.aload_n 0, 1) := by decide +kernel
theorem dX5_part_86 : decode cX5_part 86 = .ok (.bipush 41, 2) := by decide +kernel
theorem dX5_part_88 : decode cX5_part 88 = .ok (.invokevirtual 61, 3) := by decide +kernel
theorem dX5_part_91 : decode cX5_part 91 = .ok (.ifCond .eq 7, 3) := by decide +kernel
theorem dX5_part_94 : decode cX5_part 94 = .ok (.iconst 1, 1) := by decide +kernel
theorem dX5_part_95 : decode cX5_part 95 = .ok (.goto 4, 3) := by decide +kernel
theorem dX5_part_98 : decode cX5_part 98 = .ok (.iconst 0, 1) := by decide +kernel
theorem dX5_part_99 : decode cX5_part 99 = .ok (.ireturn, 1) := by decide +kernel
theorem dX5_part_100 : decode cX5_part 100 = .ok (.iload_n 3, 1) := by decide +kernel
theorem dX5_part_101 : decode cX5_part 101 = .ok (.bipush 20, 2) := by decide +kernel
theorem dX5_part_103 : decode cX5_part 103 = .ok (.if_icmp .ne 22, 3) := by decide +kernel
theorem dX5_part_106 : decode cX5_part 106 = .ok (.aload_n 0, 1) := by decide +kernel
theorem dX5_part_107 : decode cX5_part 107 = .ok (.aload_n 1, 1) := by decide +kernel
theorem dX5_part_108 : decode cX5_part 108 = .ok (.iload_n 2, 1) := by decide +kernel
theorem dX5_part_109 : decode cX5_part 109 = .ok (.iconst 1, 1) := by decide +kernel
theorem dX5_part_110 : decode cX5_part 110 = .ok (.iadd, 1) := by decide +kernel
theorem dX5_part_111 : decode cX5_part 111 = .ok (.invokevirtual 206, 3) := by decide +kernel
theorem dX5_part_114 : decode cX5_part 114 = .ok (.istore 5, 2) := by decide +kernel
theorem dX5_part_116 : decode cX5_part 116 = .ok (.aload_n 1, 1) := by decide +kernel
theorem dX5_part_117 : decode cX5_part 117 = .ok (.bipush (-11), 2) := by decide +kernel
theorem dX5_part_119 : decode cX5_part 119 = .ok (.invokevirtual 214, 3) := by decide +kernel
theorem dX5_part_122 : decode cX5_part 122 = .ok (.iload 5, 2) := by decide +kernel
theorem dX5_part_124 : decode cX5_part 124 = .ok (.ireturn, 1) := by decide +kernel
theorem dX5_part_125 : decode cX5_part 125 = .ok (.aload_n 1, 1) := by decide +kernel
theorem dX5_part_126 : decode cX5_part 126 = .ok (.iload_n 3, 1) := by decide +kernel
theorem dX5_part_127 : decode cX5_part 127 = .ok (.bipush 100, 2) := by decide +kernel
theorem dX5_part_129 : decode cX5_part 129 = .ok (.if_icmp .ne 8, 3) := by decide +kernel
theorem dX5_part_132 : decode cX5_part 132 = .ok (.iload 4, 2) := by decide +kernel
theorem dX5_part_134 : decode cX5_part 134 = .ok (.goto 9, 3) := by decide +kernel
theorem dX5_part_137 : decode cX5_part 137 = .ok (.iconst (-1), 1) := by decide +kernel
theorem dX5_part_138 : decode cX5_part 138 = .ok (.iload_n 3, 1) := by decide +kernel
theorem dX5_part_139 : decode cX5_part 139 = .ok (.bipush 23, 2) := by decide +kernel
theorem dX5_part_141 : decode cX5_part 141 = .ok (.isub, 1) := by decide +kernel
theorem dX5_part_142 : decode cX5_part 142 = .ok (.isub, 1) := by decide +kernel
theorem dX5_part_143 : decode cX5_part 143 = .ok (.invokevirtual 214, 3) := by decide +kernel
theorem dX5_part_146 : decode cX5_part 146 = .ok (.iconst 1, 1) := by decide +kernel
theorem dX5_part_147 : decode cX5_part 147 = .ok (.ireturn, 1) := by decide +kernel
theorem dX6_init_0 : decode cX6_init 0 = .ok (.aload_n 0, 1) := by decide +kernel
theorem dX6_init_1 : decode cX6_init 1 = .ok (.invokespecial 3, 3) := by decide +kernel
theorem dX6_init_4 : decode cX6_init 4 = .ok (.aload_n 0, 1) := by decide +kernel
theorem dX6_init_5 : decode cX6_init 5 = .ok (.bipush 12, 2) := by decide +kernel
theorem dX6_init_7 : decode cX6_init 7 = .ok (.newarray .int, 2) := by decide +kernel
theorem dX6_init_9 : decode cX6_init 9 = .ok (.putfield 9, 3) := by decide +kernel
theorem dX6_init_12 : decode cX6_init 12 = .ok (.aload_n 0, 1) := by decide +kernel
theorem dX6_init_13 : decode cX6_init 13 = .ok (.bipush 30, 2) := by decide +kernel
theorem dX6_init_15 : decode cX6_init 15 = .ok (.putfield 15, 3) := by decide +kernel
theorem dX6_init_18 : decode cX6_init 18 = .ok (.aload_n 0, 1) := by decide +kernel
theorem dX6_init_19 : decode cX6_init 19 = .ok (.bipush 60, 2) := by decide +kernel
theorem dX6_init_21 : decode cX6_init 21 = .ok (.putfield 19, 3) := by decide +kernel
theorem dX6_init_24 : decode cX6_init 24 = .ok (.return_, 1) := by decide +kernel
theorem dX6_copyFrom_0 : decode cX6_copyFrom 0 = .ok (.iconst 0, 1) := by decide +kernel
theorem dX6_copyFrom_1 : decode cX6_copyFrom 1 = .ok (.istore_n 2, 1) := by decide +kernel
theorem dX6_copyFrom_2 : decode cX6_copyFrom 2 = .ok (.iload_n 2, 1) := by decide +kernel
theorem dX6_copyFrom_3 : decode cX6_copyFrom 3 = .ok (.bipush 12, 2) := by decide +kernel
theorem dX6_copyFrom_5 : decode cX6_copyFrom 5 = .ok (.if_icmp .ge 21, 3) := by decide +kernel
theorem dX6_copyFrom_8 : decode cX6_copyFrom 8 = .ok (.aload_n 0, 1) := by decide +kernel
theorem dX6_copyFrom_9 : decode cX6_copyFrom 9 = .ok (.getfield 9, 3) := by decide +kernel
theorem dX6_copyFrom_12 : decode cX6_copyFrom 12 = .ok (.iload_n 2, 1) := by decide +kernel
theorem dX6_copyFrom_13 : decode cX6_copyFrom 13 = .ok (.aload_n 1, 1) := by decide +kernel
theorem dX6_copyFrom_14 : decode cX6_copyFrom 14 = .ok (.getfield 9, 3) := by decide +kernel
theorem dX6_copyFrom_17 : decode cX6_copyFrom 17 = .ok (.iload_n 2, 1) := by decide +kernel
theorem dX6_copyFrom_18 : decode cX6_copyFrom 18 = .ok (.iaload, 1) := by decide +kernel
theorem dX6_copyFrom_19 : decode cX6_copyFrom 19 = .ok (.iastore, 1) := by decide +kernel
theorem dX6_copyFrom_20 : decode cX6_copyFrom 20 = .ok (.iinc 2 1, 3) := by decide +kernel
theorem dX6_copyFrom_23 : decode cX6_copyFrom 23 = .ok (.goto (-21), 3) := by decide +kernel
theorem dX6_copyFrom_26 : decode cX6_copyFrom 26 = .ok (.aload_n 0, 1) := by decide +kernel
theorem dX6_copyFrom_27 : decode cX6_copyFrom 27 = .ok (.aload_n 1, 1) := by decide +kernel
theorem dX6_copyFrom_28 : decode cX6_copyFrom 28 = .ok (.getfield 22, 3) := by decide +kernel
theorem dX6_copyFrom_31 : decode cX6_copyFrom 31 = .ok (.putfield 22, 3) := by decide +kernel
theorem dX6_copyFrom_34 : decode cX6_copyFrom 34 = .ok (.aload_n 0, 1) := by decide +kernel
theorem dX6_copyFrom_35 : decode cX6_copyFrom 35 = .ok (.aload_n 1, 1) := by decide +kernel
theorem dX6_copyFrom_36 : decode cX6_copyFrom 36 = .ok (.getfield 15, 3) := by decide +kernel
theorem dX6_copyFrom_39 : decode cX6_copyFrom 39 = .ok (.putfield 15, 3) := by decide +kernel
theorem dX6_copyFrom_42 : decode cX6_copyFrom 42 = .ok (.aload_n 0, 1) := by decide +kernel
theorem dX6_copyFrom_43 : decode cX6_copyFrom 43 = .ok (.aload_n 1, 1) := by decide +kernel
theorem dX6_copyFrom_44 : decode cX6_copyFrom 44 = .ok (.getfield 25, 3) := by decide +kernel
theorem dX6_copyFrom_47 : decode cX6_copyFrom 47 = .ok (.putfield 25, 3) := by decide +kernel
theorem dX6_copyFrom_50 : decode cX6_copyFrom 50 = .ok (.aload_n 0, 1) := by decide +kernel
theorem dX6_copyFrom_51 : decode cX6_copyFrom 51 = .ok (.aload_n 1, 1) := by decide +kernel
theorem dX6_copyFrom_52 : decode cX6_copyFrom 52 = .ok (.getfield 19, 3) := by decide +kernel
theorem dX6_copyFrom_55 : decode cX6_copyFrom 55 = .ok (.putfield 19, 3) := by decide +kernel
theorem dX6_copyFrom_58 : decode cX6_copyFrom 58 = .ok (.aload_n 0, 1) := by decide +kernel
theorem dX6_copyFrom_59 : decode cX6_copyFrom 59 = .ok (.aload_n 1, 1) := by decide +kernel
theorem dX6_copyFrom_60 : decode cX6_copyFrom 60 = .ok (.getfield 28, 3) := by decide +kernel
theorem dX6_copyFrom_63 : decode cX6_copyFrom 63 = .ok (.putfield 28, 3) := by decide +kernel
theorem dX6_copyFrom_66 : decode cX6_copyFrom 66 = .ok (.return_, 1) := by decide +kernel
theorem dX6_begin_0 : decode cX6_begin 0 = .ok (.iconst 0, 1) := by decide +kernel
theorem dX6_begin_1 : decode cX6_begin 1 = .ok (.istore_n 2, 1) := by decide +kernel
theorem dX6_begin_2 : decode cX6_begin 2 = .ok (.iload_n 2, 1) := by decide +kernel
theorem dX6_begin_3 : decode cX6_begin 3 = .ok (.bipush 12, 2) := by decide +kernel
theorem dX6_begin_5 : decode cX6_begin 5 = .ok (.if_icmp .ge 16, 3) := by decide +kernel
theorem dX6_begin_8 : decode cX6_begin 8 = .ok (.aload_n 0, 1) := by decide +kernel
theorem dX6_begin_9 : decode cX6_begin 9 = .ok (.getfield 9, 3) := by decide +kernel
theorem dX6_begin_12 : decode cX6_begin 12 = .ok (.iload_n 2, 1) := by decide +kernel
theorem dX6_begin_13 : decode cX6_begin 13 = .ok (.iconst 0, 1) := by decide +kernel
theorem dX6_begin_14 : decode cX6_begin 14 = .ok (.iastore, 1) := by decide +kernel
theorem dX6_begin_15 : decode cX6_begin 15 = .ok (.iinc 2 1, 3) := by decide +kernel
theorem dX6_begin_18 : decode cX6_begin 18 = .ok (.goto (-16), 3) := by decide +kernel
theorem dX6_begin_21 : decode cX6_begin 21 = .ok (.aload_n 0, 1) := by decide +kernel
theorem dX6_begin_22 : decode cX6_begin 22 = .ok (.iconst 0, 1) := by decide +kernel
theorem dX6_begin_23 : decode cX6_begin 23 = .ok (.putfield 22, 3) := by decide +kernel
theorem dX6_begin_26 : decode cX6_begin 26 = .ok (.aload_n 0, 1) := by decide +kernel
theorem dX6_begin_27 : decode cX6_begin 27 = .ok (.aload_n 1, 1) := by decide +kernel
theorem dX6_begin_28 : decode cX6_begin 28 = .ok (.getfield 31, 3) := by decide +kernel
theorem dX6_begin_31 : decode cX6_begin 31 = .ok (.putfield 15, 3) := by decide +kernel
theorem dX6_begin_34 : decode cX6_begin 34 = .ok (.aload_n 0, 1) := by decide +kernel
theorem dX6_begin_35 : decode cX6_begin 35 = .ok (.aload_n 1, 1) := by decide +kernel
theorem dX6_begin_36 : decode cX6_begin 36 = .ok (.getfield 34, 3) := by decide +kernel
theorem dX6_begin_39 : decode cX6_begin 39 = .ok (.putfield 25, 3) := by decide +kernel
theorem dX6_begin_42 : decode cX6_begin 42 = .ok (.aload_n 0, 1) := by decide +kernel
theorem dX6_begin_43 : decode cX6_begin 43 = .ok (.aload_n 1, 1) := by decide +kernel
theorem dX6_begin_44 : decode cX6_begin 44 = .ok (.getfield 35, 3) := by decide +kernel
theorem dX6_begin_47 : decode cX6_begin 47 = .ok (.putfield 19, 3) := by decide +kernel
theorem dX6_begin_50 : decode cX6_begin 50 = .ok (.aload_n 0, 1) := by decide +kernel
theorem dX6_begin_51 : decode cX6_begin 51 = .ok (.iconst 0, 1) := by decide +kernel
theorem dX6_begin_52 : decode cX6_begin 52 = .ok (.putfield 28, 3) := by decide +kernel
theorem dX6_begin_55 : decode cX6_begin 55 = .ok (.return_, 1) := by decide +kernel
theorem dX6_tuneUp_0 : decode cX6_tuneUp 0 = .ok (.iconst 0, 1) := by decide +kernel
theorem dX6_tuneUp_1 : decode cX6_tuneUp 1 = .ok (.istore_n 2, 1) := by decide +kernel
theorem dX6_tuneUp_2 : decode cX6_tuneUp 2 = .ok (.iconst 0, 1) := by decide +kernel
theorem dX6_tuneUp_3 : decode cX6_tuneUp 3 = .ok (.istore_n 3, 1) := by decide +kernel
theorem dX6_tuneUp_4 : decode cX6_tuneUp 4 = .ok (.iload_n 3, 1) := by decide +kernel
theorem dX6_tuneUp_5 : decode cX6_tuneUp 5 = .ok (.bipush 12, 2) := by decide +kernel
