theorem dX12_lays_6 : decode cX12_lays 6 = .ok (.invokestatic 362, 3) := by decide +kernel
theorem dX12_lays_9 : decode cX12_lays 9 = .ok (.aload_n 0, 1) := by decide +kernel
theorem dX12_lays_10 : decode cX12_lays 10 = .ok (.getfield 23, 3) := by decide +kernel
theorem dX12_lays_13 : decode cX12_lays 13 = .ok (.bipush 45, 2) := by decide +kernel
theorem dX12_lays_15 : decode cX12_lays 15 = .ok (.invokestatic 362, 3) := by decide +kernel
theorem dX12_lays_18 : decode cX12_lays 18 = .ok (.aload_n 0, 1) := by decide +kernel
theorem dX12_lays_19 : decode cX12_lays 19 = .ok (.getfield 26, 3) := by decide +kernel
theorem dX12_lays_22 : decode cX12_lays 22 = .ok (.iconst 5, 1) := by decide +kernel
theorem dX12_lays_23 : decode cX12_lays 23 = .ok (.invokestatic 362, 3) := by decide +kernel
theorem dX12_lays_26 : decode cX12_lays 26 = .ok (.aload_n 0, 1) := by decide +kernel
theorem dX12_lays_27 : decode cX12_lays 27 = .ok (.getfield 29, 3) := by decide +kernel
theorem dX12_lays_30 : decode cX12_lays 30 = .ok (.bipush 7, 2) := by decide +kernel
theorem dX12_lays_32 : decode cX12_lays 32 = .ok (.invokestatic 362, 3) := by decide +kernel
theorem dX12_lays_35 : decode cX12_lays 35 = .ok (.aload_n 0, 1) := by decide +kernel
theorem dX12_lays_36 : decode cX12_lays 36 = .ok (.getfield 32, 3) := by decide +kernel
theorem dX12_lays_39 : decode cX12_lays 39 = .ok (.bipush 7, 2) := by decide +kernel
theorem dX12_lays_41 : decode cX12_lays 41 = .ok (.invokestatic 362, 3) := by decide +kernel
theorem dX12_lays_44 : decode cX12_lays 44 = .ok (.aload_n 0, 1) := by decide +kernel
theorem dX12_lays_45 : decode cX12_lays 45 = .ok (.getfield 35, 3) := by decide +kernel
theorem dX12_lays_48 : decode cX12_lays 48 = .ok (.bipush 7, 2) := by decide +kernel
theorem dX12_lays_50 : decode cX12_lays 50 = .ok (.invokestatic 362, 3) := by decide +kernel
theorem dX12_lays_53 : decode cX12_lays 53 = .ok (.aload_n 0, 1) := by decide +kernel
theorem dX12_lays_54 : decode cX12_lays 54 = .ok (.getfield 38, 3) := by decide +kernel
theorem dX12_lays_57 : decode cX12_lays 57 = .ok (.bipush 7, 2) := by decide +kernel
theorem dX12_lays_59 : decode cX12_lays 59 = .ok (.invokestatic 362, 3) := by decide +kernel
theorem dX12_lays_62 : decode cX12_lays 62 = .ok (.aload_n 0, 1) := by decide +kernel
theorem dX12_lays_63 : decode cX12_lays 63 = .ok (.getfield 41, 3) := by decide +kernel
theorem dX12_lays_66 : decode cX12_lays 66 = .ok (.bipush 7, 2) := by decide +kernel
theorem dX12_lays_68 : decode cX12_lays 68 = .ok (.invokestatic 362, 3) := by decide +kernel
theorem dX12_lays_71 : decode cX12_lays 71 = .ok (.aload_n 0, 1) := by decide +kernel
theorem dX12_lays_72 : decode cX12_lays 72 = .ok (.getfield 44, 3) := by decide +kernel
theorem dX12_lays_75 : decode cX12_lays 75 = .ok (.bipush 7, 2) := by decide +kernel
theorem dX12_lays_77 : decode cX12_lays 77 = .ok (.invokestatic 362, 3) := by decide +kernel
theorem dX12_lays_80 : decode cX12_lays 80 = .ok (.aload_n 0, 1) := by decide +kernel
theorem dX12_lays_81 : decode cX12_lays 81 = .ok (.getfield 53, 3) := by decide +kernel
theorem dX12_lays_84 : decode cX12_lays 84 = .ok (.sipush 1000, 3) := by decide +kernel
theorem dX12_lays_87 : decode cX12_lays 87 = .ok (.invokestatic 362, 3) := by decide +kernel
theorem dX12_lays_90 : decode cX12_lays 90 = .ok (.iconst 0, 1) := by decide +kernel
theorem dX12_lays_91 : decode cX12_lays 91 = .ok (.istore_n 1, 1) := by decide +kernel
theorem dX12_lays_92 : decode cX12_lays 92 = .ok (.iload_n 1, 1) := by decide +kernel
theorem dX12_lays_93 : decode cX12_lays 93 = .ok (.iconst 2, 1) := by decide +kernel
theorem dX12_lays_94 : decode cX12_lays 94 = .ok (.if_icmp .ge 45, 3) := by decide +kernel
theorem dX12_lays_97 : decode cX12_lays 97 = .ok (.aload_n 0, 1) := by decide +kernel
theorem dX12_lays_98 : decode cX12_lays 98 = .ok (.getfield 47, 3) := by decide +kernel
theorem dX12_lays_101 : decode cX12_lays 101 = .ok (.iload_n 1, 1) := by decide +kernel
theorem dX12_lays_102 : decode cX12_lays 102 = .ok (.aload_n 0, 1) := by decide +kernel
theorem dX12_lays_103 : decode cX12_lays 103 = .ok (.getfield 47, 3) := by decide +kernel
theorem dX12_lays_106 : decode cX12_lays 106 = .ok (.iconst 2, 1) := by decide +kernel
theorem dX12_lays_107 : decode cX12_lays 107 = .ok (.iload_n 1, 1) := by decide +kernel
theorem dX12_lays_108 : decode cX12_lays 108 = .ok (.iadd, 1) := by decide +kernel
theorem dX12_lays_109 : decode cX12_lays 109 = .ok (.iaload, 1) := by decide +kernel
theorem dX12_lays_110 : decode cX12_lays 110 = .ok (.sipush 1000, 3) := by decide +kernel
theorem dX12_lays_113 : decode cX12_lays 113 = .ok (.isub, 1) := by decide +kernel
theorem dX12_lays_114 : decode cX12_lays 114 = .ok (.iastore, 1) := by decide +kernel
theorem dX12_lays_115 : decode cX12_lays 115 = .ok (.aload_n 0, 1) := by decide +kernel
theorem dX12_lays_116 : decode cX12_lays 116 = .ok (.getfield 50, 3) := by decide +kernel
theorem dX12_lays_119 : decode cX12_lays 119 = .ok (.iload_n 1, 1) := by decide +kernel
theorem dX12_lays_120 : decode cX12_lays 120 = .ok (.aload_n 0, 1) := by decide +kernel
theorem dX12_lays_121 : decode cX12_lays 121 = .ok (.getfield 50, 3) := by decide +kernel
theorem dX12_lays_124 : decode cX12_lays 124 = .ok (.iconst 2, 1) := by decide +kernel
theorem dX12_lays_125 : decode cX12_lays 125 = .ok (.iload_n 1, 1) := by decide +kernel
theorem dX12_lays_126 : decode cX12_lays 126 = .ok (.iadd, 1) := by decide +kernel
theorem dX12_lays_127 : decode cX12_lays 127 = .ok (.iaload, 1) := by decide +kernel
theorem dX12_lays_128 : decode cX12_lays 128 = .ok (.sipush 1000, 3) := by decide +kernel
theorem dX12_lays_131 : decode cX12_lays 131 = .ok (.isub, 1) := by decide +kernel
theorem dX12_lays_132 : decode cX12_lays 132 = .ok (.iastore, 1) := by decide +kernel
theorem dX12_lays_133 : decode cX12_lays 133 = .ok (.iinc 1 1, 3) := by decide +kernel
theorem dX12_lays_136 : decode cX12_lays 136 = .ok (.goto (-44), 3) := by decide +kernel
theorem dX12_lays_139 : decode cX12_lays 139 = .ok (.return_, 1) := by decide +kernel
theorem dX12_copies_0 : decode cX12_copies 0 = .ok (.iconst 0, 1) := by decide +kernel
theorem dX12_copies_1 : decode cX12_copies 1 = .ok (.istore 4, 2) := by decide +kernel
theorem dX12_copies_3 : decode cX12_copies 3 = .ok (.iload 4, 2) := by decide +kernel
theorem dX12_copies_5 : decode cX12_copies 5 = .ok (.bipush 17, 2) := by decide +kernel
theorem dX12_copies_7 : decode cX12_copies 7 = .ok (.if_icmp .ge 21, 3) := by decide +kernel
theorem dX12_copies_10 : decode cX12_copies 10 = .ok (.aload_n 2, 1) := by decide +kernel
theorem dX12_copies_11 : decode cX12_copies 11 = .ok (.iload_n 3, 1) := by decide +kernel
theorem dX12_copies_12 : decode cX12_copies 12 = .ok (.iload 4, 2) := by decide +kernel
theorem dX12_copies_14 : decode cX12_copies 14 = .ok (.iadd, 1) := by decide +kernel
theorem dX12_copies_15 : decode cX12_copies 15 = .ok (.aload_n 0, 1) := by decide +kernel
theorem dX12_copies_16 : decode cX12_copies 16 = .ok (.iload_n 1, 1) := by decide +kernel
theorem dX12_copies_17 : decode cX12_copies 17 = .ok (.iload 4, 2) := by decide +kernel
theorem dX12_copies_19 : decode cX12_copies 19 = .ok (.iadd, 1) := by decide +kernel
theorem dX12_copies_20 : decode cX12_copies 20 = .ok (.iaload, 1) := by decide +kernel
theorem dX12_copies_21 : decode cX12_copies 21 = .ok (.iastore, 1) := by decide +kernel
theorem dX12_copies_22 : decode cX12_copies 22 = .ok (.iinc 4 1, 3) := by decide +kernel
theorem dX12_copies_25 : decode cX12_copies 25 = .ok (.goto (-22), 3) := by decide +kernel
theorem dX12_copies_28 : decode cX12_copies 28 = .ok (.return_, 1) := by decide +kernel
set_option maxRecDepth 20000 in
theorem ggX12_readsLine_X12_isWord : GoodIn wsX12_readsLine wsX12_isWord := goodIn_r _ [15, 16, 17, 66, 67, 68, 69, 70, 71, 72, 73, 74, 75, 76, 77, 78, 79, 80, 81, 82, 83, 84, 85, 86, 87, 88, 89, 90, 91, 92, 93, 94, 95, 96, 97, 98, 99, 100, 101, 102, 103, 104, 105, 106, 107, 108, 109, 110, 111, 112, 113, 114, 115, 116, 117, 118, 119, 120, 121, 122, 123, 124, 125, 126, 127, 128, 129, 130, 131, 132] (by decide +kernel) (by decide +kernel)
set_option maxRecDepth 20000 in
theorem gX12_readsLine_X12_isWord : GoodIn wsX12_readsLine (wsV RX12 223 RX12 yX12_isWord wsX12_isWord) := goodIn_app (goodIn_of _ (by decide +kernel)) ggX12_readsLine_X12_isWord
set_option maxRecDepth 20000 in
theorem ggX12_readsLine_X12_fails : GoodIn wsX12_readsLine wsX12_fails := goodIn_r _ [21, 22, 23, 66, 67, 68, 69, 70, 71, 72, 73, 74, 75, 76, 77, 78, 79, 80, 81, 82, 83, 84, 85, 86, 87, 88, 89, 90, 91, 92, 93, 94, 95, 96, 97, 98, 99, 100, 101, 102, 103, 104, 105, 106, 107, 108, 109, 110, 111, 112, 113, 114, 115, 116, 117, 118, 119, 120, 121, 122, 123, 124, 125, 126, 127, 128, 129, 130, 131, 132] (by decide +kernel) (by decide +kernel)
set_option maxRecDepth 20000 in
theorem gX12_readsLine_X12_fails : GoodIn wsX12_readsLine (wsV RX12 231 RX12 yX12_fails wsX12_fails) := goodIn_app (goodIn_of _ (by decide +kernel)) ggX12_readsLine_X12_fails
set_option maxRecDepth 20000 in
theorem ggX12_readsLine_X12_nextToken : GoodIn wsX12_readsLine wsX12_nextToken := goodIn_r _ [27, 28, 29, 30, 22, 17, 31, 16, 32, 33, 34, 35, 36, 14, 37, 66, 67, 68, 69, 70, 71, 72, 73, 74, 75, 76, 77, 78, 79, 80, 81, 82, 83, 84, 85, 86, 87, 88, 89, 90, 91, 92, 93, 94, 95, 96, 97, 98, 99, 100, 101, 102, 103, 104, 105, 106, 107, 108, 109, 110, 111, 112, 113, 114, 115, 116, 117, 118, 119, 120, 121, 122, 123, 124, 125, 126, 127, 128, 129, 130, 131, 132] (by decide +kernel) (by decide +kernel)
set_option maxRecDepth 20000 in
theorem gX12_readsLine_X12_nextToken : GoodIn wsX12_readsLine (wsV RX12 237 RX12 yX12_nextToken wsX12_nextToken) := goodIn_app (goodIn_of _ (by decide +kernel)) ggX12_readsLine_X12_nextToken
set_option maxRecDepth 20000 in
theorem ggX12_readsLine_X12_needsNumber : GoodIn wsX12_readsLine wsX12_needsNumber := goodIn_r _ [41, 16, 31, 9, 18, 19, 20, 14, 21, 22, 23, 42, 43, 44, 24, 25, 26, 27, 28, 29, 30, 17, 32, 33, 34, 35, 36, 37, 66, 67, 68, 69, 70, 71, 72, 73, 74, 75, 76, 77, 78, 79, 80, 81, 82, 83, 84, 85, 86, 87, 88, 89, 90, 91, 92, 93, 94, 95, 96, 97, 98, 99, 100, 101, 102, 103, 104, 105, 106, 107, 108, 109, 110, 111, 112, 113, 114, 115, 116, 117, 118, 119, 120, 121, 122, 123, 124, 125, 126, 127, 128, 129, 130, 131, 132] (by decide +kernel) (by decide +kernel)
set_option maxRecDepth 20000 in
theorem gX12_readsLine_X12_needsNumber : GoodIn wsX12_readsLine (wsV RX12 303 RX12 yX12_needsNumber wsX12_needsNumber) := goodIn_app (goodIn_of _ (by decide +kernel)) ggX12_readsLine_X12_needsNumber
set_option maxRecDepth 20000 in
theorem ggX12_readsLine_X12_needsSpan : GoodIn wsX12_readsLine wsX12_needsSpan := goodIn_r _ [48, 9, 8, 49, 38, 39, 40, 14, 41, 16, 31, 18, 19, 20, 21, 22, 23, 42, 43, 44, 24, 25, 26, 27, 28, 29, 30, 17, 32, 33, 34, 35, 36, 37, 50, 51, 52, 53, 54, 55, 56, 57, 11, 12, 13, 15, 66, 67, 68, 69, 70, 71, 72, 73, 74, 75, 76, 77, 78, 79, 80, 81, 82, 83, 84, 85, 86, 87, 88, 89, 90, 91, 92, 93, 94, 95, 96, 97, 98, 99, 100, 101, 102, 103, 104, 105, 106, 107, 108, 109, 110, 111, 112, 113, 114, 115, 116, 117, 118, 119, 120, 121, 122, 123, 124, 125, 126, 127, 128, 129, 130, 131, 132] (by decide +kernel) (by decide +kernel)
set_option maxRecDepth 20000 in
theorem gX12_readsLine_X12_needsSpan : GoodIn wsX12_readsLine (wsV RX12 338 RX12 yX12_needsSpan wsX12_needsSpan) := goodIn_app (goodIn_of _ (by decide +kernel)) ggX12_readsLine_X12_needsSpan
set_option maxRecDepth 20000 in
theorem ggX12_readsLine_X12_closes : GoodIn wsX12_readsLine wsX12_closes := goodIn_r _ [61, 62, 63, 64, 14, 65, 16, 30, 22, 18, 19, 20, 21, 23, 24, 25, 26, 27, 28, 29, 17, 31, 32, 33, 34, 35, 36, 37, 66, 67, 68, 69, 70, 71, 72, 73, 74, 75, 76, 77, 78, 79, 80, 81, 82, 83, 84, 85, 86, 87, 88, 89, 90, 91, 92, 93, 94, 95, 96, 97, 98, 99, 100, 101, 102, 103, 104, 105, 106, 107, 108, 109, 110, 111, 112, 113, 114, 115, 116, 117, 118, 119, 120, 121, 122, 123, 124, 125, 126, 127, 128, 129, 130, 131, 132] (by decide +kernel) (by decide +kernel)
set_option maxRecDepth 20000 in
theorem gX12_readsLine_X12_closes : GoodIn wsX12_readsLine (wsV RX12 322 RX12 yX12_closes wsX12_closes) := goodIn_app (goodIn_of _ (by decide +kernel)) ggX12_readsLine_X12_closes
theorem dX12_readsLine_0 : decode cX12_readsLine 0 = .ok (.aload_n 0, 1) := by decide +kernel
theorem dX12_readsLine_1 : decode cX12_readsLine 1 = .ok (.ldc2_w 281, 3) := by decide +kernel
theorem dX12_readsLine_4 : decode cX12_readsLine 4 = .ok (.invokevirtual 223, 3) := by decide +kernel
theorem dX12_readsLine_7 : decode cX12_readsLine 7 = .ok (.ifCond .eq 7, 3) := by decide +kernel
theorem dX12_readsLine_10 : decode cX12_readsLine 10 = .ok (.iconst 0, 1) := by decide +kernel
theorem dX12_readsLine_11 : decode cX12_readsLine 11 = .ok (.goto 46, 3) := by decide +kernel
theorem dX12_readsLine_14 : decode cX12_readsLine 14 = .ok (.aload_n 0, 1) := by decide +kernel
theorem dX12_readsLine_15 : decode cX12_readsLine 15 = .ok (.ldc2_w 283, 3) := by decide +kernel
theorem dX12_readsLine_18 : decode cX12_readsLine 18 = .ok (.invokevirtual 223, 3) := by decide +kernel
theorem dX12_readsLine_21 : decode cX12_readsLine 21 = .ok (.ifCond .eq 7, 3) := by decide +kernel
theorem dX12_readsLine_24 : decode cX12_readsLine 24 = .ok (.iconst 1, 1) := by decide +kernel
theorem dX12_readsLine_25 : decode cX12_readsLine 25 = .ok (.goto 32, 3) := by decide +kernel
theorem dX12_readsLine_28 : decode cX12_readsLine 28 = .ok (.aload_n 0, 1) := by decide +kernel
theorem dX12_readsLine_29 : decode cX12_readsLine 29 = .ok (.ldc2_w 269, 3) := by decide +kernel
theorem dX12_readsLine_32 : decode cX12_readsLine 32 = .ok (.invokevirtual 223, 3) := by decide +kernel
theorem dX12_readsLine_35 : decode cX12_readsLine 35 = .ok (.ifCond .eq 7, 3) := by decide +kernel
theorem dX12_readsLine_38 : decode cX12_readsLine 38 = .ok (.iconst 2, 1) := by decide +kernel
theorem dX12_readsLine_39 : decode cX12_readsLine 39 = .ok (.goto 18, 3) := by decide +kernel
theorem dX12_readsLine_42 : decode cX12_readsLine 42 = .ok (.aload_n 0, 1) := by decide +kernel
theorem dX12_readsLine_43 : decode cX12_readsLine 43 = .ok (.ldc2_w 271, 3) := by decide +kernel
theorem dX12_readsLine_46 : decode cX12_readsLine 46 = .ok (.invokevirtual 223, 3) := by decide +kernel
theorem dX12_readsLine_49 : decode cX12_readsLine 49 = .ok (.ifCond .eq 7, 3) := by decide +kernel
theorem dX12_readsLine_52 : decode cX12_readsLine 52 = .ok (.iconst 3, 1) := by decide +kernel
theorem dX12_readsLine_53 : decode cX12_readsLine 53 = .ok (.goto 4, 3) := by decide +kernel
theorem dX12_readsLine_56 : decode cX12_readsLine 56 = .ok (.iconst (-1), 1) := by decide +kernel
theorem dX12_readsLine_57 : decode cX12_readsLine 57 = .ok (.istore_n 1, 1) := by decide +kernel
theorem dX12_readsLine_58 : decode cX12_readsLine 58 = .ok (.iload_n 1, 1) := by decide +kernel
theorem dX12_readsLine_59 : decode cX12_readsLine 59 = .ok (.ifCond .ge 9, 3) := by decide +kernel
theorem dX12_readsLine_62 : decode cX12_readsLine 62 = .ok (.aload_n 0, 1) := by decide +kernel
theorem dX12_readsLine_63 : decode cX12_readsLine 63 = .ok (.iconst 1, 1) := by decide +kernel
theorem dX12_readsLine_64 : decode cX12_readsLine 64 = .ok (.invokevirtual 231, 3) := by decide +kernel
theorem dX12_readsLine_67 : decode cX12_readsLine 67 = .ok (.ireturn, 1) := by decide +kernel
theorem dX12_readsLine_68 : decode cX12_readsLine 68 = .ok (.aload_n 0, 1) := by decide +kernel
theorem dX12_readsLine_69 : decode cX12_readsLine 69 = .ok (.getfield 93, 3) := by decide +kernel
theorem dX12_readsLine_72 : decode cX12_readsLine 72 = .ok (.iconst 5, 1) := by decide +kernel
theorem dX12_readsLine_73 : decode cX12_readsLine 73 = .ok (.iaload, 1) := by decide +kernel
theorem dX12_readsLine_74 : decode cX12_readsLine 74 = .ok (.bipush 40, 2) := by decide +kernel
theorem dX12_readsLine_76 : decode cX12_readsLine 76 = .ok (.if_icmp .ne 9, 3) := by decide +kernel
theorem dX12_readsLine_79 : decode cX12_readsLine 79 = .ok (.aload_n 0, 1) := by decide +kernel
theorem dX12_readsLine_80 : decode cX12_readsLine 80 = .ok (.iconst 5, 1) := by decide +kernel
theorem dX12_readsLine_81 : decode cX12_readsLine 81 = .ok (.invokevirtual 231, 3) := by decide +kernel
theorem dX12_readsLine_84 : decode cX12_readsLine 84 = .ok (.ireturn, 1) := by decide +kernel
theorem dX12_readsLine_85 : decode cX12_readsLine 85 = .ok (.aload_n 0, 1) := by decide +kernel
theorem dX12_readsLine_86 : decode cX12_readsLine 86 = .ok (.invokevirtual 237, 3) := by decide +kernel
theorem dX12_readsLine_89 : decode cX12_readsLine 89 = .ok (.sipush 200, 3) := by decide +kernel
theorem dX12_readsLine_92 : decode cX12_readsLine 92 = .ok (.aload_n 0, 1) := by decide +kernel
theorem dX12_readsLine_93 : decode cX12_readsLine 93 = .ok (.getfield 93, 3) := by decide +kernel
theorem dX12_readsLine_96 : decode cX12_readsLine 96 = .ok (.iconst 5, 1) := by decide +kernel
theorem dX12_readsLine_97 : decode cX12_readsLine 97 = .ok (.iaload, 1) := by decide +kernel
theorem dX12_readsLine_98 : decode cX12_readsLine 98 = .ok (.iadd, 1) := by decide +kernel
theorem dX12_readsLine_99 : decode cX12_readsLine 99 = .ok (.istore_n 2, 1) := by decide +kernel
theorem dX12_readsLine_100 : decode cX12_readsLine 100 = .ok (.aload_n 0, 1) := by decide +kernel
theorem dX12_readsLine_101 : decode cX12_readsLine 101 = .ok (.getfield 96, 3) := by decide +kernel
theorem dX12_readsLine_104 : decode cX12_readsLine 104 = .ok (.iload_n 2, 1) := by decide +kernel
theorem dX12_readsLine_105 : decode cX12_readsLine 105 = .ok (.iload_n 1, 1) := by decide +kernel
theorem dX12_readsLine_106 : decode cX12_readsLine 106 = .ok (.iastore, 1) := by decide +kernel
theorem dX12_readsLine_107 : decode cX12_readsLine 107 = .ok (.iload_n 1, 1) := by decide +kernel
theorem dX12_readsLine_108 : decode cX12_readsLine 108 = .ok (.iconst 2, 1) := by decide +kernel
theorem dX12_readsLine_109 : decode cX12_readsLine 109 = .ok (.if_icmp .ne 13, 3) := by decide +kernel
theorem dX12_readsLine_112 : decode cX12_readsLine 112 = .ok (.aload_n 0, 1) := by decide +kernel
theorem dX12_readsLine_113 : decode cX12_readsLine 113 = .ok (.iconst 1, 1) := by decide +kernel
theorem dX12_readsLine_114 : decode cX12_readsLine 114 = .ok (.bipush 30, 2) := by decide +kernel
theorem dX12_readsLine_116 : decode cX12_readsLine 116 = .ok (.invokevirtual 303, 3) := by decide +kernel
theorem dX12_readsLine_119 : decode cX12_readsLine 119 = .ok (.ifCond .eq 15, 3) := by decide +kernel
theorem dX12_readsLine_122 : decode cX12_readsLine 122 = .ok (.iload_n 1, 1) := by decide +kernel
theorem dX12_readsLine_123 : decode cX12_readsLine 123 = .ok (.iconst 3, 1) := by decide +kernel
theorem dX12_readsLine_124 : decode cX12_readsLine 124 = .ok (.if_icmp .ne 12, 3) := by decide +kernel
theorem dX12_readsLine_127 : decode cX12_readsLine 127 = .ok (.aload_n 0, 1) := by decide +kernel
theorem dX12_readsLine_128 : decode cX12_readsLine 128 = .ok (.invokevirtual 338, 3) := by decide +kernel
theorem dX12_readsLine_131 : decode cX12_readsLine 131 = .ok (.ifCond .ne 5, 3) := by decide +kernel
theorem dX12_readsLine_134 : decode cX12_readsLine 134 = .ok (.iconst 0, 1) := by decide +kernel
theorem dX12_readsLine_135 : decode cX12_readsLine 135 = .ok (.ireturn, 1) := by decide +kernel
theorem dX12_readsLine_136 : decode cX12_readsLine 136 = .ok (.aload_n 0, 1) := by decide +kernel
theorem dX12_readsLine_137 : decode cX12_readsLine 137 = .ok (.getfield 99, 3) := by decide +kernel
theorem dX12_readsLine_140 : decode cX12_readsLine 140 = .ok (.iload_n 2, 1) := by decide +kernel
theorem dX12_readsLine_141 : decode cX12_readsLine 141 = .ok (.iload_n 1, 1) := by decide +kernel
theorem dX12_readsLine_142 : decode cX12_readsLine 142 = .ok (.iconst 3, 1) := by decide +kernel
theorem dX12_readsLine_143 : decode cX12_readsLine 143 = .ok (.if_icmp .ne 10, 3) := by decide +kernel
theorem dX12_readsLine_146 : decode cX12_readsLine 146 = .ok (.aload_n 0, 1) := by decide +kernel
theorem dX12_readsLine_147 : decode cX12_readsLine 147 = .ok (.getfield 335, 3) := by decide +kernel
theorem dX12_readsLine_150 : decode cX12_readsLine 150 = .ok (.goto 7, 3) := by decide +kernel
theorem dX12_readsLine_153 : decode cX12_readsLine 153 = .ok (.aload_n 0, 1) := by decide +kernel
theorem dX12_readsLine_154 : decode cX12_readsLine 154 = .ok (.getfield 297, 3) := by decide +kernel
theorem dX12_readsLine_157 : decode cX12_readsLine 157 = .ok (.iastore, 1) := by decide +kernel
theorem dX12_readsLine_158 : decode cX12_readsLine 158 = .ok (.aload_n 0, 1) := by decide +kernel
theorem dX12_readsLine_159 : decode cX12_readsLine 159 = .ok (.getfield 102, 3) := by decide +kernel
theorem dX12_readsLine_162 : decode cX12_readsLine 162 = .ok (.iload_n 2, 1) := by decide +kernel
theorem dX12_readsLine_163 : decode cX12_readsLine 163 = .ok (.aload_n 0, 1) := by decide +kernel
theorem dX12_readsLine_164 : decode cX12_readsLine 164 = .ok (.getfield 297, 3) := by decide +kernel
theorem dX12_readsLine_167 : decode cX12_readsLine 167 = .ok (.iastore, 1) := by decide +kernel
theorem dX12_readsLine_168 : decode cX12_readsLine 168 = .ok (.aload_n 0, 1) := by decide +kernel
theorem dX12_readsLine_169 : decode cX12_readsLine 169 = .ok (.getfield 93, 3) := by decide +kernel
theorem dX12_readsLine_172 : decode cX12_readsLine 172 = .ok (.iconst 5, 1) := by decide +kernel
theorem dX12_readsLine_173 : decode cX12_readsLine 173 = .ok (.dup2, 1) := by decide +kernel
theorem dX12_readsLine_174 : decode cX12_readsLine 174 = .ok (.iaload, 1) := by decide +kernel
theorem dX12_readsLine_175 : decode cX12_readsLine 175 = .ok (.iconst 1, 1) := by decide +kernel
theorem dX12_readsLine_176 : decode cX12_readsLine 176 = .ok (.iadd, 1) := by decide +kernel
theorem dX12_readsLine_177 : decode cX12_readsLine 177 = .ok (.iastore, 1) := by decide +kernel
theorem dX12_readsLine_178 : decode cX12_readsLine 178 = .ok (.aload_n 0, 1) := by decide +kernel
theorem dX12_readsLine_179 : decode cX12_readsLine 179 = .ok (.invokevirtual 322, 3) := by decide +kernel
theorem dX12_readsLine_182 : decode cX12_readsLine 182 = .ok (.ireturn, 1) := by decide +kernel
theorem dX12_laysLines_0 : decode cX12_laysLines 0 = .ok (.aload_n 0, 1) := by decide +kernel
theorem dX12_laysLines_1 : decode cX12_laysLines 1 = .ok (.getfield 93, 3) := by decide +kernel
theorem dX12_laysLines_4 : decode cX12_laysLines 4 = .ok (.iload_n 2, 1) := by decide +kernel
theorem dX12_laysLines_5 : decode cX12_laysLines 5 = .ok (.aload_n 0, 1) := by decide +kernel
theorem dX12_laysLines_6 : decode cX12_laysLines 6 = .ok (.getfield 93, 3) := by decide +kernel
theorem dX12_laysLines_9 : decode cX12_laysLines 9 = .ok (.iload_n 1, 1) := by decide +kernel
theorem dX12_laysLines_10 : decode cX12_laysLines 10 = .ok (.iaload, 1) := by decide +kernel
theorem dX12_laysLines_11 : decode cX12_laysLines 11 = .ok (.iastore, 1) := by decide +kernel
theorem dX12_laysLines_12 : decode cX12_laysLines 12 = .ok (.iconst 0, 1) := by decide +kernel
theorem dX12_laysLines_13 : decode cX12_laysLines 13 = .ok (.istore_n 3, 1) := by decide +kernel
theorem dX12_laysLines_14 : decode cX12_laysLines 14 = .ok (.iload_n 3, 1) := by decide +kernel
theorem dX12_laysLines_15 : decode cX12_laysLines 15 = .ok (.bipush 40, 2) := by decide +kernel
theorem dX12_laysLines_17 : decode cX12_laysLines 17 = .ok (.if_icmp .ge 75, 3) := by decide +kernel
theorem dX12_laysLines_20 : decode cX12_laysLines 20 = .ok (.aload_n 0, 1) := by decide +kernel
theorem dX12_laysLines_21 : decode cX12_laysLines 21 = .ok (.getfield 96, 3) := by decide +kernel
theorem dX12_laysLines_24 : decode cX12_laysLines 24 = .ok (.bipush 40, 2) := by decide +kernel
theorem dX12_laysLines_26 : decode cX12_laysLines 26 = .ok (.iload_n 2, 1) := by decide +kernel
theorem dX12_laysLines_27 : decode cX12_laysLines 27 = .ok (.imul, 1) := by decide +kernel
theorem dX12_laysLines_28 : decode cX12_laysLines 28 = .ok (.iload_n 3, 1) := by decide +kernel
theorem dX12_laysLines_29 : decode cX12_laysLines 29 = .ok (.iadd, 1) := by decide +kernel
theorem dX12_laysLines_30 : decode cX12_laysLines 30 = .ok (.aload_n 0, 1) := by decide +kernel
theorem dX12_laysLines_31 : decode cX12_laysLines 31 = .ok (.getfield 96, 3) := by decide +kernel
theorem dX12_laysLines_34 : decode cX12_laysLines 34 = .ok (.bipush 40, 2) := by decide +kernel
theorem dX12_laysLines_36 : decode cX12_laysLines 36 = .ok (.iload_n 1, 1) := by decide +kernel
theorem dX12_laysLines_37 : decode cX12_laysLines 37 = .ok (.imul, 1) := by decide +kernel
theorem dX12_laysLines_38 : decode cX12_laysLines 38 = .ok (.iload_n 3, 1) := by decide +kernel
theorem dX12_laysLines_39 : decode cX12_laysLines 39 = .ok (.iadd, 1) := by decide +kernel
theorem dX12_laysLines_40 : decode cX12_laysLines 40 = .ok (.iaload, 1) := by decide +kernel
theorem dX12_laysLines_41 : decode cX12_laysLines 41 = .ok (.iastore, 1) := by decide +kernel
theorem dX12_laysLines_42 : decode cX12_laysLines 42 = .ok (.aload_n 0, 1) := by decide +kernel
theorem dX12_laysLines_43 : decode cX12_laysLines 43 = .ok (.getfield 99, 3) := by decide +kernel
theorem dX12_laysLines_46 : decode cX12_laysLines 46 = .ok (.bipush 40, 2) := by decide +kernel
theorem dX12_laysLines_48 : decode cX12_laysLines 48 = .ok (.iload_n 2, 1) := by decide +kernel
theorem dX12_laysLines_49 : decode cX12_laysLines 49 = .ok (.imul, 1) := by decide +kernel
theorem dX12_laysLines_50 : decode cX12_laysLines 50 = .ok (.iload_n 3, 1) := by decide +kernel
theorem dX12_laysLines_51 : decode cX12_laysLines 51 = .ok (.iadd, 1) := by decide +kernel
theorem dX12_laysLines_52 : decode cX12_laysLines 52 = .ok (.aload_n 0, 1) := by decide +kernel
theorem dX12_laysLines_53 : decode cX12_laysLines 53 = .ok (.getfield 99, 3) := by decide +kernel
theorem dX12_laysLines_56 : decode cX12_laysLines 56 = .ok (.bipush 40, 2) := by decide +kernel
theorem dX12_laysLines_58 : decode cX12_laysLines 58 = .ok (.iload_n 1, 1) := by decide +kernel
theorem dX12_laysLines_59 : decode cX12_laysLines 59 = .ok (.imul, 1) := by decide +kernel
theorem dX12_laysLines_60 : decode cX12_laysLines 60 = .ok (.iload_n 3, 1) := by decide +kernel
theorem dX12_laysLines_61 : decode cX12_laysLines 61 = .ok (.iadd, 1) := by decide +kernel
theorem dX12_laysLines_62 : decode cX12_laysLines 62 = .ok (.iaload, 1) := by decide +kernel
theorem dX12_laysLines_63 : decode cX12_laysLines 63 = .ok (.iastore, 1) := by decide +kernel
theorem dX12_laysLines_64 : decode cX12_laysLines 64 = .ok (.aload_n 0, 1) := by decide +kernel
theorem dX12_laysLines_65 : decode cX12_laysLines 65 = .ok (.getfield 102, 3) := by decide +kernel
theorem dX12_laysLines_68 : decode cX12_laysLines 68 = .ok (.bipush 40, 2) := by decide +kernel
theorem dX12_laysLines_70 : decode cX12_laysLines 70 = .ok (.iload_n 2, 1) := by decide +kernel
theorem dX12_laysLines_71 : decode cX12_laysLines 71 = .ok (.imul, 1) := by decide +kernel
theorem dX12_laysLines_72 : decode cX12_laysLines 72 = .ok (.iload_n 3, 1) := by decide +kernel
theorem dX12_laysLines_73 : decode cX12_laysLines 73 = .ok (.iadd, 1) := by decide +kernel
theorem dX12_laysLines_74 : decode cX12_laysLines 74 = .ok (.aload_n 0, 1) := by decide +kernel
theorem dX12_laysLines_75 : decode cX12_laysLines 75 = .ok (.getfield 102, 3) := by decide +kernel
theorem dX12_laysLines_78 : decode cX12_laysLines 78 = .ok (.bipush 40, 2) := by decide +kernel
theorem dX12_laysLines_80 : decode cX12_laysLines 80 = .ok (.iload_n 1, 1) := by decide +kernel
theorem dX12_laysLines_81 : decode cX12_laysLines 81 = .ok (.imul, 1) := by decide +kernel
theorem dX12_laysLines_82 : decode cX12_laysLines 82 = .ok (.iload_n 3, 1) := by decide +kernel
theorem dX12_laysLines_83 : decode cX12_laysLines 83 = .ok (.iadd, 1) := by decide +kernel
theorem dX12_laysLines_84 : decode cX12_laysLines 84 = .ok (.iaload, 1) := by decide +kernel
theorem dX12_laysLines_85 : decode cX12_laysLines 85 = .ok (.iastore, 1) := by decide +kernel
theorem dX12_laysLines_86 : decode cX12_laysLines 86 = .ok (.iinc 3 1, 3) := by decide +kernel
theorem dX12_laysLines_89 : decode cX12_laysLines 89 = .ok (.goto (-75), 3) := by decide +kernel
theorem dX12_laysLines_92 : decode cX12_laysLines 92 = .ok (.return_, 1) := by decide +kernel
theorem dX12_laysFound_0 : decode cX12_laysFound 0 = .ok (.aload_n 0, 1) := by decide +kernel
theorem dX12_laysFound_1 : decode cX12_laysFound 1 = .ok (.getfield 105, 3) := by decide +kernel
theorem dX12_laysFound_4 : decode cX12_laysFound 4 = .ok (.iload_n 2, 1) := by decide +kernel
theorem dX12_laysFound_5 : decode cX12_laysFound 5 = .ok (.aload_n 0, 1) := by decide +kernel
theorem dX12_laysFound_6 : decode cX12_laysFound 6 = .ok (.getfield 105, 3) := by decide +kernel
theorem dX12_laysFound_9 : decode cX12_laysFound 9 = .ok (.iload_n 1, 1) := by decide +kernel
theorem dX12_laysFound_10 : decode cX12_laysFound 10 = .ok (.iaload, 1) := by decide +kernel
theorem dX12_laysFound_11 : decode cX12_laysFound 11 = .ok (.iastore, 1) := by decide +kernel
theorem dX12_laysFound_12 : decode cX12_laysFound 12 = .ok (.iconst 0, 1) := by decide +kernel
theorem dX12_laysFound_13 : decode cX12_laysFound 13 = .ok (.istore_n 3, 1) := by decide +kernel
theorem dX12_laysFound_14 : decode cX12_laysFound 14 = .ok (.iload_n 3, 1) := by decide +kernel
theorem dX12_laysFound_15 : decode cX12_laysFound 15 = .ok (.bipush 8, 2) := by decide +kernel
theorem dX12_laysFound_17 : decode cX12_laysFound 17 = .ok (.if_icmp .ge 53, 3) := by decide +kernel
theorem dX12_laysFound_20 : decode cX12_laysFound 20 = .ok (.aload_n 0, 1) := by decide +kernel
theorem dX12_laysFound_21 : decode cX12_laysFound 21 = .ok (.getfield 108, 3) := by decide +kernel
theorem dX12_laysFound_24 : decode cX12_laysFound 24 = .ok (.bipush 8, 2) := by decide +kernel
theorem dX12_laysFound_26 : decode cX12_laysFound 26 = .ok (.iload_n 2, 1) := by decide +kernel
theorem dX12_laysFound_27 : decode cX12_laysFound 27 = .ok (.imul, 1) := by decide +kernel
theorem dX12_laysFound_28 : decode cX12_laysFound 28 = .ok (.iload_n 3, 1) := by decide +kernel
theorem dX12_laysFound_29 : decode cX12_laysFound 29 = .ok (.iadd, 1) := by decide +kernel
theorem dX12_laysFound_30 : decode cX12_laysFound 30 = .ok (.aload_n 0, 1) := by decide +kernel
theorem dX12_laysFound_31 : decode cX12_laysFound 31 = .ok (.getfield 108, 3) := by decide +kernel
theorem dX12_laysFound_34 : decode cX12_laysFound 34 = .ok (.bipush 8, 2) := by decide +kernel
theorem dX12_laysFound_36 : decode cX12_laysFound 36 = .ok (.iload_n 1, 1) := by decide +kernel
theorem dX12_laysFound_37 : decode cX12_laysFound 37 = .ok (.imul, 1) := by decide +kernel
theorem dX12_laysFound_38 : decode cX12_laysFound 38 = .ok (.iload_n 3, 1) := by decide +kernel
theorem dX12_laysFound_39 : decode cX12_laysFound 39 = .ok (.iadd, 1) := by decide +kernel
theorem dX12_laysFound_40 : decode cX12_laysFound 40 = .ok (.iaload, 1) := by decide +kernel
theorem dX12_laysFound_41 : decode cX12_laysFound 41 = .ok (.iastore, 1) := by decide +kernel
theorem dX12_laysFound_42 : decode cX12_laysFound 42 = .ok (.aload_n 0, 1) := by decide +kernel
theorem dX12_laysFound_43 : decode cX12_laysFound 43 = .ok (.getfield 111, 3) := by decide +kernel
theorem dX12_laysFound_46 : decode cX12_laysFound 46 = .ok (.bipush 8, 2) := by decide +kernel
theorem dX12_laysFound_48 : decode cX12_laysFound 48 = .ok (.iload_n 2, 1) := by decide +kernel
theorem dX12_laysFound_49 : decode cX12_laysFound 49 = .ok (.imul, 1) := by decide +kernel
theorem dX12_laysFound_50 : decode cX12_laysFound 50 = .ok (.iload_n 3, 1) := by decide +kernel
theorem dX12_laysFound_51 : decode cX12_laysFound 51 = .ok (.iadd, 1) := by decide +kernel
theorem dX12_laysFound_52 : decode cX12_laysFound 52 = .ok (.aload_n 0, 1) := by decide +kernel
theorem dX12_laysFound_53 : decode cX12_laysFound 53 = .ok (.getfield 111, 3) := by decide +kernel
theorem dX12_laysFound_56 : decode cX12_laysFound 56 = .ok (.bipush 8, 2) := by decide +kernel
theorem dX12_laysFound_58 : decode cX12_laysFound 58 = .ok (.iload_n 1, 1) := by decide +kernel
theorem dX12_laysFound_59 : decode cX12_laysFound 59 = .ok (.imul, 1) := by decide +kernel
theorem dX12_laysFound_60 : decode cX12_laysFound 60 = .ok (.iload_n 3, 1) := by decide +kernel
theorem dX12_laysFound_61 : decode cX12_laysFound 61 = .ok (.iadd, 1) := by decide +kernel
theorem dX12_laysFound_62 : decode cX12_laysFound 62 = .ok (.iaload, 1) := by decide +kernel
theorem dX12_laysFound_63 : decode cX12_laysFound 63 = .ok (.iastore, 1) := by decide +kernel
theorem dX12_laysFound_64 : decode cX12_laysFound 64 = .ok (.iinc 3 1, 3) := by decide +kernel
theorem dX12_laysFound_67 : decode cX12_laysFound 67 = .ok (.goto (-53), 3) := by decide +kernel
theorem dX12_laysFound_70 : decode cX12_laysFound 70 = .ok (.return_, 1) := by decide +kernel
theorem dX12_fresh_0 : decode cX12_fresh 0 = .ok (.iconst 0, 1) := by decide +kernel
theorem dX12_fresh_1 : decode cX12_fresh 1 = .ok (.istore_n 1, 1) := by decide +kernel
theorem dX12_fresh_2 : decode cX12_fresh 2 = .ok (.iload_n 1, 1) := by decide +kernel
theorem dX12_fresh_3 : decode cX12_fresh 3 = .ok (.bipush 17, 2) := by decide +kernel
theorem dX12_fresh_5 : decode cX12_fresh 5 = .ok (.if_icmp .ge 16, 3) := by decide +kernel
theorem dX12_fresh_8 : decode cX12_fresh 8 = .ok (.aload_n 0, 1) := by decide +kernel
theorem dX12_fresh_9 : decode cX12_fresh 9 = .ok (.getfield 114, 3) := by decide +kernel
theorem dX12_fresh_12 : decode cX12_fresh 12 = .ok (.iload_n 1, 1) := by decide +kernel
theorem dX12_fresh_13 : decode cX12_fresh 13 = .ok (.iconst 0, 1) := by decide +kernel
theorem dX12_fresh_14 : decode cX12_fresh 14 = .ok (.iastore, 1) := by decide +kernel
theorem dX12_fresh_15 : decode cX12_fresh 15 = .ok (.iinc 1 1, 3) := by decide +kernel
theorem dX12_fresh_18 : decode cX12_fresh 18 = .ok (.goto (-16), 3) := by decide +kernel
theorem dX12_fresh_21 : decode cX12_fresh 21 = .ok (.aload_n 0, 1) := by decide +kernel
theorem dX12_fresh_22 : decode cX12_fresh 22 = .ok (.getfield 114, 3) := by decide +kernel
theorem dX12_fresh_25 : decode cX12_fresh 25 = .ok (.iconst 1, 1) := by decide +kernel
theorem dX12_fresh_26 : decode cX12_fresh 26 = .ok (.aload_n 0, 1) := by decide +kernel
theorem dX12_fresh_27 : decode cX12_fresh 27 = .ok (.getfield 13, 3) := by decide +kernel
theorem dX12_fresh_30 : decode cX12_fresh 30 = .ok (.iconst 3, 1) := by decide +kernel
theorem dX12_fresh_31 : decode cX12_fresh 31 = .ok (.iaload, 1) := by decide +kernel
theorem dX12_fresh_32 : decode cX12_fresh 32 = .ok (.iastore, 1) := by decide +kernel
theorem dX12_fresh_33 : decode cX12_fresh 33 = .ok (.aload_n 0, 1) := by decide +kernel
theorem dX12_fresh_34 : decode cX12_fresh 34 = .ok (.getfield 114, 3) := by decide +kernel
theorem dX12_fresh_37 : decode cX12_fresh 37 = .ok (.iconst 2, 1) := by decide +kernel
theorem dX12_fresh_38 : decode cX12_fresh 38 = .ok (.aload_n 0, 1) := by decide +kernel
theorem dX12_fresh_39 : decode cX12_fresh 39 = .ok (.getfield 13, 3) := by decide +kernel
theorem dX12_fresh_42 : decode cX12_fresh 42 = .ok (.iconst 4, 1) := by decide +kernel
theorem dX12_fresh_43 : decode cX12_fresh 43 = .ok (.iaload, 1) := by decide +kernel
theorem dX12_fresh_44 : decode cX12_fresh 44 = .ok (.iastore, 1) := by decide +kernel
theorem dX12_fresh_45 : decode cX12_fresh 45 = .ok (.aload_n 0, 1) := by decide +kernel
theorem dX12_fresh_46 : decode cX12_fresh 46 = .ok (.getfield 114, 3) := by decide +kernel
theorem dX12_fresh_49 : decode cX12_fresh 49 = .ok (.iconst 3, 1) := by decide +kernel
theorem dX12_fresh_50 : decode cX12_fresh 50 = .ok (.aload_n 0, 1) := by decide +kernel
theorem dX12_fresh_51 : decode cX12_fresh 51 = .ok (.getfield 13, 3) := by decide +kernel
theorem dX12_fresh_54 : decode cX12_fresh 54 = .ok (.iconst 5, 1) := by decide +kernel
theorem dX12_fresh_55 : decode cX12_fresh 55 = .ok (.iaload, 1) := by decide +kernel
theorem dX12_fresh_56 : decode cX12_fresh 56 = .ok (.iastore, 1) := by decide +kernel
theorem dX12_fresh_57 : decode cX12_fresh 57 = .ok (.return_, 1) := by decide +kernel
set_option maxRecDepth 20000 in
theorem ggX12_station_X12_readsAll : GoodIn wsX12_station wsX12_readsAll := goodIn_r _ [11, 12, 13, 14, 15, 16, 17, 18, 19, 20, 21, 22, 23, 24, 25, 26, 27, 10, 28, 29, 30, 31, 32, 33, 34, 35, 36, 37, 38, 39, 40, 41, 42, 43, 44, 45, 46, 47, 48, 49, 50, 51, 52, 53, 54, 55, 56, 57, 58, 59, 60, 61, 62, 63, 64, 65, 66, 2, 67, 68, 69, 70, 71, 72, 73, 74, 75, 76, 77, 78, 79, 80, 81, 82, 83, 84, 85, 86, 87, 88, 89, 90, 91, 92, 93, 94, 95, 96, 97, 98, 99, 100, 101, 102, 103, 104, 105, 106, 107, 108, 109, 110, 111, 112, 113, 114, 115, 116, 117, 118, 119, 120, 121, 122, 123, 124, 125, 126, 127, 128, 129, 130, 131, 132, 133, 134, 135, 136, 137, 138, 139, 140, 141, 142, 143, 144, 145, 146, 147, 148, 149, 150, 151, 152, 153, 154, 155, 156, 157, 158, 159, 160, 161, 162, 163, 164, 165, 166, 167, 168, 169, 170, 171, 172, 173, 174, 175, 188, 189, 190, 191, 192, 193, 194, 195, 196, 197, 198, 199, 200, 201, 202, 203, 204, 205, 206, 207, 208, 209, 210, 211, 212, 213, 214, 215, 216, 217, 218, 219, 220, 221, 222, 223, 224, 225, 226, 227, 228, 229, 230, 231, 232, 233, 234, 235, 236, 237, 238, 239, 240, 241, 242, 243, 244, 245, 246, 247, 248, 249, 250, 251, 252, 253, 254] (by decide +kernel) (by decide +kernel)
set_option maxRecDepth 20000 in
theorem gX12_station_X12_readsAll : GoodIn wsX12_station (wsV RX12 366 RX12 yX12_readsAll wsX12_readsAll) := goodIn_app (goodIn_of _ (by decide +kernel)) ggX12_station_X12_readsAll
set_option maxRecDepth 20000 in
theorem ggX12_station_X12_lays : GoodIn wsX12_station wsX12_lays := goodIn_r _ [179, 29, 60, 59, 111, 112, 113, 115, 116, 117, 175, 12, 13, 180, 181, 10, 182, 188, 189, 190, 191, 192, 193, 194, 195, 196, 197, 198, 199, 200, 201, 202, 203, 204, 205, 206, 207, 208, 209, 210, 211, 212, 213, 214, 215, 216, 217, 218, 219, 220, 221, 222, 223, 224, 225, 226, 227, 228, 229, 230, 231, 232, 233, 234, 235, 236, 237, 238, 239, 240, 241, 242, 243, 244, 245, 246, 247, 248, 249, 250, 251, 252, 253, 254] (by decide +kernel) (by decide +kernel)
set_option maxRecDepth 20000 in
theorem gX12_station_X12_lays : GoodIn wsX12_station (wsV RX12 369 RX12 yX12_lays wsX12_lays) := goodIn_app (goodIn_of _ (by decide +kernel)) ggX12_station_X12_lays
set_option maxRecDepth 20000 in
theorem ggX12_station_X12_fresh : GoodIn wsX12_station wsX12_fresh := goodIn_r _ [186, 187, 29, 188, 189, 190, 191, 192, 193, 194, 195, 196, 197, 198, 199, 200, 201, 202, 203, 204, 205, 206, 207, 208, 209, 210, 211, 212, 213, 214, 215, 216, 217, 218, 219, 220, 221, 222, 223, 224, 225, 226, 227, 228, 229, 230, 231, 232, 233, 234, 235, 236, 237, 238, 239, 240, 241, 242, 243, 244, 245, 246, 247, 248, 249, 250, 251, 252, 253, 254] (by decide +kernel) (by decide +kernel)
set_option maxRecDepth 20000 in
theorem gX12_station_X12_fresh : GoodIn wsX12_station (wsV RX12 157 RX12 yX12_fresh wsX12_fresh) := goodIn_app (goodIn_of _ (by decide +kernel)) ggX12_station_X12_fresh
theorem dX12_station_0 : decode cX12_station 0 = .ok (.aload_n 0, 1) := by decide +kernel
theorem dX12_station_1 : decode cX12_station 1 = .ok (.iconst 0, 1) := by decide +kernel
theorem dX12_station_2 : decode cX12_station 2 = .ok (.putfield 160, 3) := by decide +kernel
theorem dX12_station_5 : decode cX12_station 5 = .ok (.aload_n 0, 1) := by decide +kernel
theorem dX12_station_6 : decode cX12_station 6 = .ok (.invokevirtual 366, 3) := by decide +kernel
theorem dX12_station_9 : decode cX12_station 9 = .ok (.ifCond .ne 8, 3) := by decide +kernel
theorem dX12_station_12 : decode cX12_station 12 = .ok (.aload_n 0, 1) := by decide +kernel
theorem dX12_station_13 : decode cX12_station 13 = .ok (.getfield 196, 3) := by decide +kernel
theorem dX12_station_16 : decode cX12_station 16 = .ok (.ireturn, 1) := by decide +kernel
theorem dX12_station_17 : decode cX12_station 17 = .ok (.aload_n 0, 1) := by decide +kernel
theorem dX12_station_18 : decode cX12_station 18 = .ok (.invokevirtual 369, 3) := by decide +kernel
theorem dX12_station_21 : decode cX12_station 21 = .ok (.aload_n 0, 1) := by decide +kernel
theorem dX12_station_22 : decode cX12_station 22 = .ok (.invokevirtual 157, 3) := by decide +kernel
theorem dX12_station_25 : decode cX12_station 25 = .ok (.aload_n 0, 1) := by decide +kernel
theorem dX12_station_26 : decode cX12_station 26 = .ok (.getfield 93, 3) := by decide +kernel
theorem dX12_station_29 : decode cX12_station 29 = .ok (.iconst 0, 1) := by decide +kernel
theorem dX12_station_30 : decode cX12_station 30 = .ok (.iconst 0, 1) := by decide +kernel
theorem dX12_station_31 : decode cX12_station 31 = .ok (.iastore, 1) := by decide +kernel
theorem dX12_station_32 : decode cX12_station 32 = .ok (.aload_n 0, 1) := by decide +kernel
theorem dX12_station_33 : decode cX12_station 33 = .ok (.getfield 105, 3) := by decide +kernel
theorem dX12_station_36 : decode cX12_station 36 = .ok (.iconst 0, 1) := by decide +kernel
theorem dX12_station_37 : decode cX12_station 37 = .ok (.iconst 0, 1) := by decide +kernel
theorem dX12_station_38 : decode cX12_station 38 = .ok (.iastore, 1) := by decide +kernel
theorem dX12_station_39 : decode cX12_station 39 = .ok (.aload_n 0, 1) := by decide +kernel
theorem dX12_station_40 : decode cX12_station 40 = .ok (.iconst 0, 1) := by decide +kernel
theorem dX12_station_41 : decode cX12_station 41 = .ok (.putfield 372, 3) := by decide +kernel
theorem dX12_station_44 : decode cX12_station 44 = .ok (.iconst 0, 1) := by decide +kernel
theorem dX12_station_45 : decode cX12_station 45 = .ok (.istore_n 1, 1) := by decide +kernel
theorem dX12_station_46 : decode cX12_station 46 = .ok (.iload_n 1, 1) := by decide +kernel
theorem dX12_station_47 : decode cX12_station 47 = .ok (.iconst 4, 1) := by decide +kernel
theorem dX12_station_48 : decode cX12_station 48 = .ok (.if_icmp .ge 16, 3) := by decide +kernel
theorem dX12_station_51 : decode cX12_station 51 = .ok (.aload_n 0, 1) := by decide +kernel
theorem dX12_station_52 : decode cX12_station 52 = .ok (.getfield 129, 3) := by decide +kernel
theorem dX12_station_55 : decode cX12_station 55 = .ok (.iload_n 1, 1) := by decide +kernel
theorem dX12_station_56 : decode cX12_station 56 = .ok (.iconst 0, 1) := by decide +kernel
theorem dX12_station_57 : decode cX12_station 57 = .ok (.bastore, 1) := by decide +kernel
theorem dX12_station_58 : decode cX12_station 58 = .ok (.iinc 1 1, 3) := by decide +kernel
theorem dX12_station_61 : decode cX12_station 61 = .ok (.goto (-15), 3) := by decide +kernel
theorem dX12_station_64 : decode cX12_station 64 = .ok (.iconst 0, 1) := by decide +kernel
theorem dX12_station_65 : decode cX12_station 65 = .ok (.ireturn, 1) := by decide +kernel
set_option maxRecDepth 20000 in
theorem ggX12_week_X12_begins0 : GoodIn wsX12_week wsX12_begins0 := goodIn_r _ [10, 11, 12, 13, 14, 15, 16, 9, 17, 18, 19, 20, 21, 4, 22, 23, 24, 25, 26, 27, 80, 81, 82, 83, 84, 85, 86, 87, 88, 89, 90, 91, 92, 93, 94, 95, 96, 97, 98, 99, 100, 101, 102, 103, 104, 105, 106, 107, 108, 109, 110, 111, 112, 113, 114, 115, 116, 117, 118, 119, 120, 121, 122, 123, 124, 125, 126, 127, 128, 129, 130, 131, 132, 133, 134, 135, 136, 137, 138, 139, 140, 141, 142, 143, 144, 145, 146] (by decide +kernel) (by decide +kernel)
set_option maxRecDepth 20000 in
theorem gX12_week_X12_begins0 : GoodIn wsX12_week (wsV RX12 344 RX12 yX12_begins0 wsX12_begins0) := goodIn_app (goodIn_of _ (by decide +kernel)) ggX12_week_X12_begins0
set_option maxRecDepth 20000 in
theorem ggX12_week_X12_readsLine : GoodIn wsX12_week wsX12_readsLine := goodIn_r _ [31, 32, 33, 34, 35, 2, 36, 37, 38, 3, 39, 40, 41, 42, 9, 43, 4, 20, 44, 45, 46, 47, 19, 5, 14, 15, 16, 17, 13, 12, 18, 21, 22, 23, 24, 25, 26, 27, 48, 49, 50, 51, 52, 53, 54, 55, 56, 57, 58, 59, 60, 61, 62, 63, 64, 65, 66, 67, 68, 69, 70, 71, 72, 73, 74, 75, 80, 81, 82, 83, 84, 85, 86, 87, 88, 89, 90, 91, 92, 93, 94, 95, 96, 97, 98, 99, 100, 101, 102, 103, 104, 105, 106, 107, 108, 109, 110, 111, 112, 113, 114, 115, 116, 117, 118, 119, 120, 121, 122, 123, 124, 125, 126, 127, 128, 129, 130, 131, 132, 133, 134, 135, 136, 137, 138, 139, 140, 141, 142, 143, 144, 145, 146] (by decide +kernel) (by decide +kernel)
set_option maxRecDepth 20000 in
theorem gX12_week_X12_readsLine : GoodIn wsX12_week (wsV RX12 375 RX12 yX12_readsLine wsX12_readsLine) := goodIn_app (goodIn_of _ (by decide +kernel)) ggX12_week_X12_readsLine
set_option maxRecDepth 20000 in
theorem ggX12_week_X12_laysLines : GoodIn wsX12_week wsX12_laysLines := goodIn_r _ [79, 2, 36, 37, 39, 80, 81, 82, 83, 84, 85, 86, 87, 88, 89, 90, 91, 92, 93, 94, 95, 96, 97, 98, 99, 100, 101, 102, 103, 104, 105, 106, 107, 108, 109, 110, 111, 112, 113, 114, 115, 116, 117, 118, 119, 120, 121, 122, 123, 124, 125, 126, 127, 128, 129, 130, 131, 132, 133, 134, 135, 136, 137, 138, 139, 140, 141, 142, 143, 144, 145, 146] (by decide +kernel) (by decide +kernel)
set_option maxRecDepth 20000 in
theorem gX12_week_X12_laysLines : GoodIn wsX12_week (wsV RX12 378 RX12 yX12_laysLines wsX12_laysLines) := goodIn_app (goodIn_of _ (by decide +kernel)) ggX12_week_X12_laysLines
theorem dX12_week_0 : decode cX12_week 0 = .ok (.aload_n 0, 1) := by decide +kernel
theorem dX12_week_1 : decode cX12_week 1 = .ok (.iconst 0, 1) := by decide +kernel
theorem dX12_week_2 : decode cX12_week 2 = .ok (.putfield 160, 3) := by decide +kernel
theorem dX12_week_5 : decode cX12_week 5 = .ok (.aload_n 0, 1) := by decide +kernel
theorem dX12_week_6 : decode cX12_week 6 = .ok (.getfield 93, 3) := by decide +kernel
theorem dX12_week_9 : decode cX12_week 9 = .ok (.iconst 5, 1) := by decide +kernel
theorem dX12_week_10 : decode cX12_week 10 = .ok (.iconst 0, 1) := by decide +kernel
theorem dX12_week_11 : decode cX12_week 11 = .ok (.iastore, 1) := by decide +kernel
theorem dX12_week_12 : decode cX12_week 12 = .ok (.aload_n 0, 1) := by decide +kernel
theorem dX12_week_13 : decode cX12_week 13 = .ok (.iconst 0, 1) := by decide +kernel
theorem dX12_week_14 : decode cX12_week 14 = .ok (.putfield 297, 3) := by decide +kernel
theorem dX12_week_17 : decode cX12_week 17 = .ok (.aload_n 0, 1) := by decide +kernel
theorem dX12_week_18 : decode cX12_week 18 = .ok (.invokevirtual 344, 3) := by decide +kernel
theorem dX12_week_21 : decode cX12_week 21 = .ok (.aload_n 0, 1) := by decide +kernel
theorem dX12_week_22 : decode cX12_week 22 = .ok (.getfield 185, 3) := by decide +kernel
theorem dX12_week_25 : decode cX12_week 25 = .ok (.ifCond .eq 15, 3) := by decide +kernel
theorem dX12_week_28 : decode cX12_week 28 = .ok (.aload_n 0, 1) := by decide +kernel
theorem dX12_week_29 : decode cX12_week 29 = .ok (.invokevirtual 375, 3) := by decide +kernel
theorem dX12_week_32 : decode cX12_week 32 = .ok (.ifCond .ne (-11), 3) := by decide +kernel
theorem dX12_week_35 : decode cX12_week 35 = .ok (.aload_n 0, 1) := by decide +kernel
theorem dX12_week_36 : decode cX12_week 36 = .ok (.getfield 196, 3) := by decide +kernel
theorem dX12_week_39 : decode cX12_week 39 = .ok (.ireturn, 1) := by decide +kernel
theorem dX12_week_40 : decode cX12_week 40 = .ok (.aload_n 0, 1) := by decide +kernel
theorem dX12_week_41 : decode cX12_week 41 = .ok (.iconst 5, 1) := by decide +kernel
theorem dX12_week_42 : decode cX12_week 42 = .ok (.iconst 0, 1) := by decide +kernel
theorem dX12_week_43 : decode cX12_week 43 = .ok (.invokevirtual 378, 3) := by decide +kernel
theorem dX12_week_46 : decode cX12_week 46 = .ok (.iconst 0, 1) := by decide +kernel
theorem dX12_week_47 : decode cX12_week 47 = .ok (.ireturn, 1) := by decide +kernel
theorem dX12_isPasser_0 : decode cX12_isPasser 0 = .ok (.iload_n 1, 1) := by decide +kernel
theorem dX12_isPasser_1 : decode cX12_isPasser 1 = .ok (.ifCond .lt 17, 3) := by decide +kernel
theorem dX12_isPasser_4 : decode cX12_isPasser 4 = .ok (.iload_n 1, 1) := by decide +kernel
theorem dX12_isPasser_5 : decode cX12_isPasser 5 = .ok (.aload_n 0, 1) := by decide +kernel
theorem dX12_isPasser_6 : decode cX12_isPasser 6 = .ok (.getfield 13, 3) := by decide +kernel
theorem dX12_isPasser_9 : decode cX12_isPasser 9 = .ok (.iconst 1, 1) := by decide +kernel
theorem dX12_isPasser_10 : decode cX12_isPasser 10 = .ok (.iaload, 1) := by decide +kernel
theorem dX12_isPasser_11 : decode cX12_isPasser 11 = .ok (.if_icmp .ge 7, 3) := by decide +kernel
theorem dX12_isPasser_14 : decode cX12_isPasser 14 = .ok (.iconst 1, 1) := by decide +kernel
theorem dX12_isPasser_15 : decode cX12_isPasser 15 = .ok (.goto 4, 3) := by decide +kernel
theorem dX12_isPasser_18 : decode cX12_isPasser 18 = .ok (.iconst 0, 1) := by decide +kernel
theorem dX12_isPasser_19 : decode cX12_isPasser 19 = .ok (.ireturn, 1) := by decide +kernel
theorem dX12_isKey_0 : decode cX12_isKey 0 = .ok (.iload_n 1, 1) := by decide +kernel
theorem dX12_isKey_1 : decode cX12_isKey 1 = .ok (.ifCond .lt 13, 3) := by decide +kernel
theorem dX12_isKey_4 : decode cX12_isKey 4 = .ok (.iload_n 1, 1) := by decide +kernel
theorem dX12_isKey_5 : decode cX12_isKey 5 = .ok (.bipush 12, 2) := by decide +kernel
theorem dX12_isKey_7 : decode cX12_isKey 7 = .ok (.if_icmp .ge 7, 3) := by decide +kernel
theorem dX12_isKey_10 : decode cX12_isKey 10 = .ok (.iconst 1, 1) := by decide +kernel
theorem dX12_isKey_11 : decode cX12_isKey 11 = .ok (.goto 4, 3) := by decide +kernel
theorem dX12_isKey_14 : decode cX12_isKey 14 = .ok (.iconst 0, 1) := by decide +kernel
theorem dX12_isKey_15 : decode cX12_isKey 15 = .ok (.ireturn, 1) := by decide +kernel
theorem dX12_rowOf_0 : decode cX12_rowOf 0 = .ok (.aload_n 0, 1) := by decide +kernel
theorem dX12_rowOf_1 : decode cX12_rowOf 1 = .ok (.getfield 26, 3) := by decide +kernel
theorem dX12_rowOf_4 : decode cX12_rowOf 4 = .ok (.aload_n 0, 1) := by decide +kernel
theorem dX12_rowOf_5 : decode cX12_rowOf 5 = .ok (.getfield 32, 3) := by decide +kernel
theorem dX12_rowOf_8 : decode cX12_rowOf 8 = .ok (.iload_n 1, 1) := by decide +kernel
theorem dX12_rowOf_9 : decode cX12_rowOf 9 = .ok (.iaload, 1) := by decide +kernel
theorem dX12_rowOf_10 : decode cX12_rowOf 10 = .ok (.iaload, 1) := by decide +kernel
theorem dX12_rowOf_11 : decode cX12_rowOf 11 = .ok (.istore_n 2, 1) := by decide +kernel
theorem dX12_rowOf_12 : decode cX12_rowOf 12 = .ok (.aload_n 0, 1) := by decide +kernel
theorem dX12_rowOf_13 : decode cX12_rowOf 13 = .ok (.getfield 29, 3) := by decide +kernel
theorem dX12_rowOf_16 : decode cX12_rowOf 16 = .ok (.iload_n 1, 1) := by decide +kernel
theorem dX12_rowOf_17 : decode cX12_rowOf 17 = .ok (.iaload, 1) := by decide +kernel
theorem dX12_rowOf_18 : decode cX12_rowOf 18 = .ok (.iconst 1, 1) := by decide +kernel
theorem dX12_rowOf_19 : decode cX12_rowOf 19 = .ok (.if_icmp .ne 11, 3) := by decide +kernel
theorem dX12_rowOf_22 : decode cX12_rowOf 22 = .ok (.iconst 3, 1) := by decide +kernel
theorem dX12_rowOf_23 : decode cX12_rowOf 23 = .ok (.iload_n 2, 1) := by decide +kernel
theorem dX12_rowOf_24 : decode cX12_rowOf 24 = .ok (.invokestatic 382, 3) := by decide +kernel
theorem dX12_rowOf_27 : decode cX12_rowOf 27 = .ok (.goto 4, 3) := by decide +kernel
theorem dX12_rowOf_30 : decode cX12_rowOf 30 = .ok (.iload_n 2, 1) := by decide +kernel
theorem dX12_rowOf_31 : decode cX12_rowOf 31 = .ok (.ireturn, 1) := by decide +kernel
set_option maxRecDepth 20000 in
theorem ggX12_allStrikes_X12_rowOf : GoodIn wsX12_allStrikes wsX12_rowOf := goodIn_r _ [6, 7, 8, 1, 9, 10, 11, 12, 13, 14, 15, 16, 17, 18, 19, 20, 21, 22, 23, 24, 25, 26, 27, 28, 29, 30, 31, 32, 33, 34, 35, 36, 37, 38, 39, 40, 41, 42, 43, 44, 45, 46, 47, 48, 49, 50, 51, 52, 53, 54, 55, 56, 57, 58, 59, 60, 61, 62, 63, 64, 65, 66, 67, 68, 69, 70, 71, 72, 73, 74, 75, 76, 77, 78, 79] (by decide +kernel) (by decide +kernel)
set_option maxRecDepth 20000 in
theorem gX12_allStrikes_X12_rowOf : GoodIn wsX12_allStrikes (wsV RX12 388 RX12 yX12_rowOf wsX12_rowOf) := goodIn_app (goodIn_of _ (by decide +kernel)) ggX12_allStrikes_X12_rowOf
theorem dX12_allStrikes_0 : decode cX12_allStrikes 0 = .ok (.aload_n 0, 1) := by decide +kernel
theorem dX12_allStrikes_1 : decode cX12_allStrikes 1 = .ok (.getfield 29, 3) := by decide +kernel
theorem dX12_allStrikes_4 : decode cX12_allStrikes 4 = .ok (.iload_n 1, 1) := by decide +kernel
theorem dX12_allStrikes_5 : decode cX12_allStrikes 5 = .ok (.iaload, 1) := by decide +kernel
theorem dX12_allStrikes_6 : decode cX12_allStrikes 6 = .ok (.iconst 2, 1) := by decide +kernel
theorem dX12_allStrikes_7 : decode cX12_allStrikes 7 = .ok (.if_icmp .ne 13, 3) := by decide +kernel
theorem dX12_allStrikes_10 : decode cX12_allStrikes 10 = .ok (.iconst 2, 1) := by decide +kernel
theorem dX12_allStrikes_11 : decode cX12_allStrikes 11 = .ok (.aload_n 0, 1) := by decide +kernel
theorem dX12_allStrikes_12 : decode cX12_allStrikes 12 = .ok (.iload_n 1, 1) := by decide +kernel
theorem dX12_allStrikes_13 : decode cX12_allStrikes 13 = .ok (.invokevirtual 388, 3) := by decide +kernel
theorem dX12_allStrikes_16 : decode cX12_allStrikes 16 = .ok (.imul, 1) := by decide +kernel
theorem dX12_allStrikes_17 : decode cX12_allStrikes 17 = .ok (.goto 8, 3) := by decide +kernel
theorem dX12_allStrikes_20 : decode cX12_allStrikes 20 = .ok (.aload_n 0, 1) := by decide +kernel
theorem dX12_allStrikes_21 : decode cX12_allStrikes 21 = .ok (.iload_n 1, 1) := by decide +kernel
theorem dX12_allStrikes_22 : decode cX12_allStrikes 22 = .ok (.invokevirtual 388, 3) := by decide +kernel
theorem dX12_allStrikes_25 : decode cX12_allStrikes 25 = .ok (.ireturn, 1) := by decide +kernel
set_option maxRecDepth 20000 in
theorem ggX12_keyAt_X12_rowOf : GoodIn wsX12_keyAt wsX12_rowOf := goodIn_r _ [7, 8, 2, 9, 10, 11, 12, 13, 14, 15, 16, 17, 18, 19, 20, 21, 22, 23, 24, 25, 26, 27, 28, 29, 30, 31, 32, 33, 34, 35, 36, 37, 38, 39, 40, 41, 42, 43, 44, 45, 46, 47, 48, 49, 50, 51, 52, 53, 54, 55, 56, 57, 58, 59, 60, 61, 62, 63, 64, 65, 66, 67, 68, 69, 70, 71, 72, 73, 74, 75, 76, 77, 78, 79, 80] (by decide +kernel) (by decide +kernel)
set_option maxRecDepth 20000 in
theorem gX12_keyAt_X12_rowOf : GoodIn wsX12_keyAt (wsV RX12 388 RX12 yX12_rowOf wsX12_rowOf) := goodIn_app (goodIn_of _ (by decide +kernel)) ggX12_keyAt_X12_rowOf
theorem dX12_keyAt_0 : decode cX12_keyAt 0 = .ok (.aload_n 0, 1) := by decide +kernel
theorem dX12_keyAt_1 : decode cX12_keyAt 1 = .ok (.getfield 23, 3) := by decide +kernel
theorem dX12_keyAt_4 : decode cX12_keyAt 4 = .ok (.bipush 9, 2) := by decide +kernel
theorem dX12_keyAt_6 : decode cX12_keyAt 6 = .ok (.aload_n 0, 1) := by decide +kernel
theorem dX12_keyAt_7 : decode cX12_keyAt 7 = .ok (.getfield 32, 3) := by decide +kernel
theorem dX12_keyAt_10 : decode cX12_keyAt 10 = .ok (.iload_n 1, 1) := by decide +kernel
theorem dX12_keyAt_11 : decode cX12_keyAt 11 = .ok (.iaload, 1) := by decide +kernel
theorem dX12_keyAt_12 : decode cX12_keyAt 12 = .ok (.imul, 1) := by decide +kernel
theorem dX12_keyAt_13 : decode cX12_keyAt 13 = .ok (.iload_n 2, 1) := by decide +kernel
theorem dX12_keyAt_14 : decode cX12_keyAt 14 = .ok (.aload_n 0, 1) := by decide +kernel
theorem dX12_keyAt_15 : decode cX12_keyAt 15 = .ok (.iload_n 1, 1) := by decide +kernel
theorem dX12_keyAt_16 : decode cX12_keyAt 16 = .ok (.invokevirtual 388, 3) := by decide +kernel
theorem dX12_keyAt_19 : decode cX12_keyAt 19 = .ok (.irem, 1) := by decide +kernel
theorem dX12_keyAt_20 : decode cX12_keyAt 20 = .ok (.iadd, 1) := by decide +kernel
theorem dX12_keyAt_21 : decode cX12_keyAt 21 = .ok (.iaload, 1) := by decide +kernel
theorem dX12_keyAt_22 : decode cX12_keyAt 22 = .ok (.ireturn, 1) := by decide +kernel
set_option maxRecDepth 20000 in
theorem ggX12_strikesOf_X12_allStrikes : GoodIn wsX12_strikesOf wsX12_allStrikes := goodIn_r _ [5, 6, 7, 8, 9, 4, 10, 11, 12, 13, 14, 15, 16, 22, 23, 24, 25, 26, 27, 28, 29, 30, 31, 32, 33, 34, 35, 36, 37, 38, 39, 40, 41, 42, 43, 44, 45, 46, 47, 48, 49, 50, 51, 52, 53, 54, 55, 56, 57, 58, 59, 60, 61, 62, 63, 64, 65, 66, 67, 68, 69, 70, 71, 72, 73, 74, 75, 76, 77, 78, 79, 80, 81, 82, 83, 84, 85, 86, 87, 88] (by decide +kernel) (by decide +kernel)
set_option maxRecDepth 20000 in
theorem gX12_strikesOf_X12_allStrikes : GoodIn wsX12_strikesOf (wsV RX12 391 RX12 yX12_allStrikes wsX12_allStrikes) := goodIn_app (goodIn_of _ (by decide +kernel)) ggX12_strikesOf_X12_allStrikes
set_option maxRecDepth 20000 in
theorem ggX12_strikesOf_X12_keyAt : GoodIn wsX12_strikesOf wsX12_keyAt := goodIn_r _ [20, 21, 12, 7, 8, 9, 4, 10, 11, 6, 13, 14, 15, 16, 22, 23, 24, 25, 26, 27, 28, 29, 30, 31, 32, 33, 34, 35, 36, 37, 38, 39, 40, 41, 42, 43, 44, 45, 46, 47, 48, 49, 50, 51, 52, 53, 54, 55, 56, 57, 58, 59, 60, 61, 62, 63, 64, 65, 66, 67, 68, 69, 70, 71, 72, 73, 74, 75, 76, 77, 78, 79, 80, 81, 82, 83, 84, 85, 86, 87, 88] (by decide +kernel) (by decide +kernel)
set_option maxRecDepth 20000 in
theorem gX12_strikesOf_X12_keyAt : GoodIn wsX12_strikesOf (wsV RX12 394 RX12 yX12_keyAt wsX12_keyAt) := goodIn_app (goodIn_of _ (by decide +kernel)) ggX12_strikesOf_X12_keyAt
theorem dX12_strikesOf_0 : decode cX12_strikesOf 0 = .ok (.iconst 0, 1) := by decide +kernel
theorem dX12_strikesOf_1 : decode cX12_strikesOf 1 = .ok (.istore_n 3, 1) := by decide +kernel
theorem dX12_strikesOf_2 : decode cX12_strikesOf 2 = .ok (.iconst 0, 1) := by decide +kernel
theorem dX12_strikesOf_3 : decode cX12_strikesOf 3 = .ok (.istore 4, 2) := by decide +kernel
theorem dX12_strikesOf_5 : decode cX12_strikesOf 5 = .ok (.iload 4, 2) := by decide +kernel
theorem dX12_strikesOf_7 : decode cX12_strikesOf 7 = .ok (.aload_n 0, 1) := by decide +kernel
theorem dX12_strikesOf_8 : decode cX12_strikesOf 8 = .ok (.iload_n 1, 1) := by decide +kernel
theorem dX12_strikesOf_9 : decode cX12_strikesOf 9 = .ok (.invokevirtual 391, 3) := by decide +kernel
theorem dX12_strikesOf_12 : decode cX12_strikesOf 12 = .ok (.if_icmp .ge 28, 3) := by decide +kernel
theorem dX12_strikesOf_15 : decode cX12_strikesOf 15 = .ok (.iload_n 3, 1) := by decide +kernel
theorem dX12_strikesOf_16 : decode cX12_strikesOf 16 = .ok (.aload_n 0, 1) := by decide +kernel
theorem dX12_strikesOf_17 : decode cX12_strikesOf 17 = .ok (.iload_n 1, 1) := by decide +kernel
theorem dX12_strikesOf_18 : decode cX12_strikesOf 18 = .ok (.iload 4, 2) := by decide +kernel
theorem dX12_strikesOf_20 : decode cX12_strikesOf 20 = .ok (.invokevirtual 394, 3) := by decide +kernel
theorem dX12_strikesOf_23 : decode cX12_strikesOf 23 = .ok (.iload_n 2, 1) := by decide +kernel
theorem dX12_strikesOf_24 : decode cX12_strikesOf 24 = .ok (.if_icmp .ne 7, 3) := by decide +kernel
theorem dX12_strikesOf_27 : decode cX12_strikesOf 27 = .ok (.iconst 1, 1) := by decide +kernel
theorem dX12_strikesOf_28 : decode cX12_strikesOf 28 = .ok (.goto 4, 3) := by decide +kernel
theorem dX12_strikesOf_31 : decode cX12_strikesOf 31 = .ok (.iconst 0, 1) := by decide +kernel
theorem dX12_strikesOf_32 : decode cX12_strikesOf 32 = .ok (.iadd, 1) := by decide +kernel
theorem dX12_strikesOf_33 : decode cX12_strikesOf 33 = .ok (.istore_n 3, 1) := by decide +kernel
theorem dX12_strikesOf_34 : decode cX12_strikesOf 34 = .ok (.iinc 4 1, 3) := by decide +kernel
theorem dX12_strikesOf_37 : decode cX12_strikesOf 37 = .ok (.goto (-32), 3) := by decide +kernel
theorem dX12_strikesOf_40 : decode cX12_strikesOf 40 = .ok (.iload_n 3, 1) := by decide +kernel
theorem dX12_strikesOf_41 : decode cX12_strikesOf 41 = .ok (.ireturn, 1) := by decide +kernel
theorem dX12_minutesOf_0 : decode cX12_minutesOf 0 = .ok (.aload_n 0, 1) := by decide +kernel
theorem dX12_minutesOf_1 : decode cX12_minutesOf 1 = .ok (.getfield 29, 3) := by decide +kernel
theorem dX12_minutesOf_4 : decode cX12_minutesOf 4 = .ok (.iload_n 1, 1) := by decide +kernel
theorem dX12_minutesOf_5 : decode cX12_minutesOf 5 = .ok (.iaload, 1) := by decide +kernel
theorem dX12_minutesOf_6 : decode cX12_minutesOf 6 = .ok (.iconst 3, 1) := by decide +kernel
theorem dX12_minutesOf_7 : decode cX12_minutesOf 7 = .ok (.if_icmp .ne 12, 3) := by decide +kernel
theorem dX12_minutesOf_10 : decode cX12_minutesOf 10 = .ok (.aload_n 0, 1) := by decide +kernel
theorem dX12_minutesOf_11 : decode cX12_minutesOf 11 = .ok (.getfield 41, 3) := by decide +kernel
theorem dX12_minutesOf_14 : decode cX12_minutesOf 14 = .ok (.iload_n 1, 1) := by decide +kernel
theorem dX12_minutesOf_15 : decode cX12_minutesOf 15 = .ok (.iaload, 1) := by decide +kernel
theorem dX12_minutesOf_16 : decode cX12_minutesOf 16 = .ok (.goto 18, 3) := by decide +kernel
theorem dX12_minutesOf_19 : decode cX12_minutesOf 19 = .ok (.aload_n 0, 1) := by decide +kernel
theorem dX12_minutesOf_20 : decode cX12_minutesOf 20 = .ok (.getfield 41, 3) := by decide +kernel
theorem dX12_minutesOf_23 : decode cX12_minutesOf 23 = .ok (.iload_n 1, 1) := by decide +kernel
theorem dX12_minutesOf_24 : decode cX12_minutesOf 24 = .ok (.iaload, 1) := by decide +kernel
theorem dX12_minutesOf_25 : decode cX12_minutesOf 25 = .ok (.aload_n 0, 1) := by decide +kernel
theorem dX12_minutesOf_26 : decode cX12_minutesOf 26 = .ok (.getfield 114, 3) := by decide +kernel
theorem dX12_minutesOf_29 : decode cX12_minutesOf 29 = .ok (.iconst 1, 1) := by decide +kernel
theorem dX12_minutesOf_30 : decode cX12_minutesOf 30 = .ok (.iaload, 1) := by decide +kernel
theorem dX12_minutesOf_31 : decode cX12_minutesOf 31 = .ok (.invokestatic 382, 3) := by decide +kernel
theorem dX12_minutesOf_34 : decode cX12_minutesOf 34 = .ok (.ireturn, 1) := by decide +kernel
set_option maxRecDepth 20000 in
theorem ggX12_wornBy_X12_minutesOf : GoodIn wsX12_wornBy wsX12_minutesOf := goodIn_r _ [13, 14, 15, 16, 5, 6, 7, 8, 46, 47, 48, 49, 50, 51, 52, 53, 54, 55, 56, 57, 58, 59, 60, 61, 62, 63, 64, 65, 66, 67, 68, 69, 70, 71, 72, 73, 74, 75, 76, 77, 78, 79, 80, 81, 82, 83, 84, 85, 86, 87, 88, 89, 90, 91, 92, 93, 94, 95, 96, 97, 98, 99, 100, 101, 102, 103, 104, 105, 106, 107, 108, 109, 110, 111, 112] (by decide +kernel) (by decide +kernel)
set_option maxRecDepth 20000 in
theorem gX12_wornBy_X12_minutesOf : GoodIn wsX12_wornBy (wsV RX12 397 RX12 yX12_minutesOf wsX12_minutesOf) := goodIn_app (goodIn_of _ (by decide +kernel)) ggX12_wornBy_X12_minutesOf
set_option maxRecDepth 20000 in
theorem ggX12_wornBy_X12_worked : GoodIn wsX12_wornBy wsX12_worked := goodIn_r _ [20, 2, 1, 21, 22, 23, 24, 25, 26, 27, 28, 3, 29, 30, 31, 32, 33, 12, 34, 35, 36, 37, 38, 39, 40, 41, 42, 46, 47, 48, 49, 50, 51, 52, 53, 54, 55, 56, 57, 58, 59, 60, 61, 62, 63, 64, 65, 66, 67, 68, 69, 70, 71, 72, 73, 74, 75, 76, 77, 78, 79, 80, 81, 82, 83, 84, 85, 86, 87, 88, 89, 90, 91, 92, 93, 94, 95, 96, 97, 98, 99, 100, 101, 102, 103, 104, 105, 106, 107, 108, 109, 110, 111, 112] (by decide +kernel) (by decide +kernel)
set_option maxRecDepth 20000 in
theorem gX12_wornBy_X12_worked : GoodIn wsX12_wornBy (wsV RX12 400 RX12 yX12_worked wsX12_worked) := goodIn_app (goodIn_of _ (by decide +kernel)) ggX12_wornBy_X12_worked
set_option maxRecDepth 20000 in
theorem ggX12_wornBy_X12_between : GoodIn wsX12_wornBy wsX12_between := goodIn_r _ [45] (by decide +kernel) (by decide +kernel)
set_option maxRecDepth 20000 in
theorem gX12_wornBy_X12_between : GoodIn wsX12_wornBy (va_wsS RX12 403 yX12_between wsX12_between) := goodIn_app (goodIn_of _ (by decide +kernel)) ggX12_wornBy_X12_between
theorem dX12_wornBy_0 : decode cX12_wornBy 0 = .ok (.iconst 1, 1) := by decide +kernel
theorem dX12_wornBy_1 : decode cX12_wornBy 1 = .ok (.istore_n 3, 1) := by decide +kernel
theorem dX12_wornBy_2 : decode cX12_wornBy 2 = .ok (.aload_n 0, 1) := by decide +kernel
theorem dX12_wornBy_3 : decode cX12_wornBy 3 = .ok (.getfield 50, 3) := by decide +kernel
theorem dX12_wornBy_6 : decode cX12_wornBy 6 = .ok (.iconst 1, 1) := by decide +kernel
theorem dX12_wornBy_7 : decode cX12_wornBy 7 = .ok (.iaload, 1) := by decide +kernel
theorem dX12_wornBy_8 : decode cX12_wornBy 8 = .ok (.aload_n 0, 1) := by decide +kernel
theorem dX12_wornBy_9 : decode cX12_wornBy 9 = .ok (.getfield 47, 3) := by decide +kernel
theorem dX12_wornBy_12 : decode cX12_wornBy 12 = .ok (.iconst 1, 1) := by decide +kernel
theorem dX12_wornBy_13 : decode cX12_wornBy 13 = .ok (.iaload, 1) := by decide +kernel
theorem dX12_wornBy_14 : decode cX12_wornBy 14 = .ok (.if_icmp .le 40, 3) := by decide +kernel
theorem dX12_wornBy_17 : decode cX12_wornBy 17 = .ok (.aload_n 0, 1) := by decide +kernel
theorem dX12_wornBy_18 : decode cX12_wornBy 18 = .ok (.getfield 90, 3) := by decide +kernel
theorem dX12_wornBy_21 : decode cX12_wornBy 21 = .ok (.iconst 1, 1) := by decide +kernel
theorem dX12_wornBy_22 : decode cX12_wornBy 22 = .ok (.aload_n 0, 1) := by decide +kernel
theorem dX12_wornBy_23 : decode cX12_wornBy 23 = .ok (.getfield 35, 3) := by decide +kernel
theorem dX12_wornBy_26 : decode cX12_wornBy 26 = .ok (.iload_n 1, 1) := by decide +kernel
theorem dX12_wornBy_27 : decode cX12_wornBy 27 = .ok (.iaload, 1) := by decide +kernel
theorem dX12_wornBy_28 : decode cX12_wornBy 28 = .ok (.iastore, 1) := by decide +kernel
theorem dX12_wornBy_29 : decode cX12_wornBy 29 = .ok (.aload_n 0, 1) := by decide +kernel
theorem dX12_wornBy_30 : decode cX12_wornBy 30 = .ok (.getfield 90, 3) := by decide +kernel
theorem dX12_wornBy_33 : decode cX12_wornBy 33 = .ok (.iconst 5, 1) := by decide +kernel
theorem dX12_wornBy_34 : decode cX12_wornBy 34 = .ok (.iload_n 2, 1) := by decide +kernel
theorem dX12_wornBy_35 : decode cX12_wornBy 35 = .ok (.iastore, 1) := by decide +kernel
theorem dX12_wornBy_36 : decode cX12_wornBy 36 = .ok (.aload_n 0, 1) := by decide +kernel
theorem dX12_wornBy_37 : decode cX12_wornBy 37 = .ok (.getfield 90, 3) := by decide +kernel
theorem dX12_wornBy_40 : decode cX12_wornBy 40 = .ok (.bipush 6, 2) := by decide +kernel
theorem dX12_wornBy_42 : decode cX12_wornBy 42 = .ok (.aload_n 0, 1) := by decide +kernel
theorem dX12_wornBy_43 : decode cX12_wornBy 43 = .ok (.iload_n 1, 1) := by decide +kernel
theorem dX12_wornBy_44 : decode cX12_wornBy 44 = .ok (.invokevirtual 397, 3) := by decide +kernel
theorem dX12_wornBy_47 : decode cX12_wornBy 47 = .ok (.iastore, 1) := by decide +kernel
theorem dX12_wornBy_48 : decode cX12_wornBy 48 = .ok (.aload_n 0, 1) := by decide +kernel
theorem dX12_wornBy_49 : decode cX12_wornBy 49 = .ok (.iconst 1, 1) := by decide +kernel
theorem dX12_wornBy_50 : decode cX12_wornBy 50 = .ok (.invokevirtual 400, 3) := by decide +kernel
theorem dX12_wornBy_53 : decode cX12_wornBy 53 = .ok (.istore_n 3, 1) := by decide +kernel
theorem dX12_wornBy_54 : decode cX12_wornBy 54 = .ok (.bipush 9, 2) := by decide +kernel
theorem dX12_wornBy_56 : decode cX12_wornBy 56 = .ok (.iload_n 2, 1) := by decide +kernel
theorem dX12_wornBy_57 : decode cX12_wornBy 57 = .ok (.iload_n 3, 1) := by decide +kernel
theorem dX12_wornBy_58 : decode cX12_wornBy 58 = .ok (.iconst 0, 1) := by decide +kernel
theorem dX12_wornBy_59 : decode cX12_wornBy 59 = .ok (.bipush 9, 2) := by decide +kernel
theorem dX12_wornBy_61 : decode cX12_wornBy 61 = .ok (.invokestatic 403, 3) := by decide +kernel
theorem dX12_wornBy_64 : decode cX12_wornBy 64 = .ok (.iadd, 1) := by decide +kernel
theorem dX12_wornBy_65 : decode cX12_wornBy 65 = .ok (.invokestatic 382, 3) := by decide +kernel
theorem dX12_wornBy_68 : decode cX12_wornBy 68 = .ok (.ireturn, 1) := by decide +kernel
set_option maxRecDepth 20000 in
theorem ggX12_wornFor_X12_allStrikes : GoodIn wsX12_wornFor wsX12_allStrikes := goodIn_r _ [6, 7, 8, 9, 10, 5, 11, 12, 13, 14, 15, 16, 17, 23, 24, 25, 26, 27, 28, 29, 30, 31, 32, 33, 34, 35, 36, 37, 38, 39, 40, 41, 42, 43, 44, 45, 46, 47, 48, 49, 50, 51, 52, 53, 54, 55, 56, 57, 58, 59, 60, 61, 62, 63, 64, 65, 66, 67, 68, 69, 70, 71, 72, 73, 74, 75, 76, 77, 78, 79, 80, 81, 82, 83, 84, 85, 86, 87, 88, 89] (by decide +kernel) (by decide +kernel)
set_option maxRecDepth 20000 in
theorem gX12_wornFor_X12_allStrikes : GoodIn wsX12_wornFor (wsV RX12 391 RX12 yX12_allStrikes wsX12_allStrikes) := goodIn_app (goodIn_of _ (by decide +kernel)) ggX12_wornFor_X12_allStrikes
set_option maxRecDepth 20000 in
theorem ggX12_wornFor_X12_keyAt : GoodIn wsX12_wornFor wsX12_keyAt := goodIn_r _ [21, 22, 13, 8, 9, 10, 5, 11, 12, 7, 14, 15, 16, 17, 23, 24, 25, 26, 27, 28, 29, 30, 31, 32, 33, 34, 35, 36, 37, 38, 39, 40, 41, 42, 43, 44, 45, 46, 47, 48, 49, 50, 51, 52, 53, 54, 55, 56, 57, 58, 59, 60, 61, 62, 63, 64, 65, 66, 67, 68, 69, 70, 71, 72, 73, 74, 75, 76, 77, 78, 79, 80, 81, 82, 83, 84, 85, 86, 87, 88, 89] (by decide +kernel) (by decide +kernel)
set_option maxRecDepth 20000 in
theorem gX12_wornFor_X12_keyAt : GoodIn wsX12_wornFor (wsV RX12 394 RX12 yX12_keyAt wsX12_keyAt) := goodIn_app (goodIn_of _ (by decide +kernel)) ggX12_wornFor_X12_keyAt
theorem dX12_wornFor_0 : decode cX12_wornFor 0 = .ok (.iconst 0, 1) := by decide +kernel
theorem dX12_wornFor_1 : decode cX12_wornFor 1 = .ok (.istore_n 2, 1) := by decide +kernel
theorem dX12_wornFor_2 : decode cX12_wornFor 2 = .ok (.iconst 0, 1) := by decide +kernel
theorem dX12_wornFor_3 : decode cX12_wornFor 3 = .ok (.istore_n 3, 1) := by decide +kernel
theorem dX12_wornFor_4 : decode cX12_wornFor 4 = .ok (.iload_n 3, 1) := by decide +kernel
theorem dX12_wornFor_5 : decode cX12_wornFor 5 = .ok (.aload_n 0, 1) := by decide +kernel
theorem dX12_wornFor_6 : decode cX12_wornFor 6 = .ok (.iload_n 1, 1) := by decide +kernel
theorem dX12_wornFor_7 : decode cX12_wornFor 7 = .ok (.invokevirtual 391, 3) := by decide +kernel
theorem dX12_wornFor_10 : decode cX12_wornFor 10 = .ok (.if_icmp .ge 25, 3) := by decide +kernel
theorem dX12_wornFor_13 : decode cX12_wornFor 13 = .ok (.iload_n 2, 1) := by decide +kernel
theorem dX12_wornFor_14 : decode cX12_wornFor 14 = .ok (.aload_n 0, 1) := by decide +kernel
theorem dX12_wornFor_15 : decode cX12_wornFor 15 = .ok (.getfield 114, 3) := by decide +kernel
theorem dX12_wornFor_18 : decode cX12_wornFor 18 = .ok (.iconst 5, 1) := by decide +kernel
theorem dX12_wornFor_19 : decode cX12_wornFor 19 = .ok (.aload_n 0, 1) := by decide +kernel
theorem dX12_wornFor_20 : decode cX12_wornFor 20 = .ok (.iload_n 1, 1) := by decide +kernel
theorem dX12_wornFor_21 : decode cX12_wornFor 21 = .ok (.iload_n 3, 1) := by decide +kernel
theorem dX12_wornFor_22 : decode cX12_wornFor 22 = .ok (.invokevirtual 394, 3) := by decide +kernel
theorem dX12_wornFor_25 : decode cX12_wornFor 25 = .ok (.iadd, 1) := by decide +kernel
theorem dX12_wornFor_26 : decode cX12_wornFor 26 = .ok (.iaload, 1) := by decide +kernel
theorem dX12_wornFor_27 : decode cX12_wornFor 27 = .ok (.iadd, 1) := by decide +kernel
theorem dX12_wornFor_28 : decode cX12_wornFor 28 = .ok (.istore_n 2, 1) := by decide +kernel
theorem dX12_wornFor_29 : decode cX12_wornFor 29 = .ok (.iinc 3 1, 3) := by decide +kernel
theorem dX12_wornFor_32 : decode cX12_wornFor 32 = .ok (.goto (-28), 3) := by decide +kernel
theorem dX12_wornFor_35 : decode cX12_wornFor 35 = .ok (.iload_n 2, 1) := by decide +kernel
theorem dX12_wornFor_36 : decode cX12_wornFor 36 = .ok (.ireturn, 1) := by decide +kernel
theorem dX12_standing_0 : decode cX12_standing 0 = .ok (.iconst 0, 1) := by decide +kernel
theorem dX12_standing_1 : decode cX12_standing 1 = .ok (.istore_n 1, 1) := by decide +kernel
theorem dX12_standing_2 : decode cX12_standing 2 = .ok (.iconst 0, 1) := by decide +kernel
theorem dX12_standing_3 : decode cX12_standing 3 = .ok (.istore_n 2, 1) := by decide +kernel
theorem dX12_standing_4 : decode cX12_standing 4 = .ok (.iload_n 2, 1) := by decide +kernel
theorem dX12_standing_5 : decode cX12_standing 5 = .ok (.aload_n 0, 1) := by decide +kernel
theorem dX12_standing_6 : decode cX12_standing 6 = .ok (.getfield 13, 3) := by decide +kernel
theorem dX12_standing_9 : decode cX12_standing 9 = .ok (.iconst 1, 1) := by decide +kernel
theorem dX12_standing_10 : decode cX12_standing 10 = .ok (.iaload, 1) := by decide +kernel
theorem dX12_standing_11 : decode cX12_standing 11 = .ok (.if_icmp .ge 27, 3) := by decide +kernel
theorem dX12_standing_14 : decode cX12_standing 14 = .ok (.iload_n 1, 1) := by decide +kernel
theorem dX12_standing_15 : decode cX12_standing 15 = .ok (.aload_n 0, 1) := by decide +kernel
theorem dX12_standing_16 : decode cX12_standing 16 = .ok (.getfield 135, 3) := by decide +kernel
theorem dX12_standing_19 : decode cX12_standing 19 = .ok (.iload_n 2, 1) := by decide +kernel
theorem dX12_standing_20 : decode cX12_standing 20 = .ok (.iaload, 1) := by decide +kernel
theorem dX12_standing_21 : decode cX12_standing 21 = .ok (.iconst 1, 1) := by decide +kernel
theorem dX12_standing_22 : decode cX12_standing 22 = .ok (.if_icmp .ne 7, 3) := by decide +kernel
theorem dX12_standing_25 : decode cX12_standing 25 = .ok (.iconst 1, 1) := by decide +kernel
theorem dX12_standing_26 : decode cX12_standing 26 = .ok (.goto 4, 3) := by decide +kernel
theorem dX12_standing_29 : decode cX12_standing 29 = .ok (.iconst 0, 1) := by decide +kernel
theorem dX12_standing_30 : decode cX12_standing 30 = .ok (.iadd, 1) := by decide +kernel
theorem dX12_standing_31 : decode cX12_standing 31 = .ok (.istore_n 1, 1) := by decide +kernel
theorem dX12_standing_32 : decode cX12_standing 32 = .ok (.iinc 2 1, 3) := by decide +kernel
theorem dX12_standing_35 : decode cX12_standing 35 = .ok (.goto (-31), 3) := by decide +kernel
theorem dX12_standing_38 : decode cX12_standing 38 = .ok (.iload_n 1, 1) := by decide +kernel
theorem dX12_standing_39 : decode cX12_standing 39 = .ok (.ireturn, 1) := by decide +kernel
theorem dX12_wouldDare_0 : decode cX12_wouldDare 0 = .ok (.aload_n 0, 1) := by decide +kernel
theorem dX12_wouldDare_1 : decode cX12_wouldDare 1 = .ok (.getfield 29, 3) := by decide +kernel
theorem dX12_wouldDare_4 : decode cX12_wouldDare 4 = .ok (.iload_n 1, 1) := by decide +kernel
theorem dX12_wouldDare_5 : decode cX12_wouldDare 5 = .ok (.iaload, 1) := by decide +kernel
theorem dX12_wouldDare_6 : decode cX12_wouldDare 6 = .ok (.iconst 2, 1) := by decide +kernel
theorem dX12_wouldDare_7 : decode cX12_wouldDare 7 = .ok (.if_icmp .eq 16, 3) := by decide +kernel
theorem dX12_wouldDare_10 : decode cX12_wouldDare 10 = .ok (.aload_n 0, 1) := by decide +kernel
theorem dX12_wouldDare_11 : decode cX12_wouldDare 11 = .ok (.getfield 38, 3) := by decide +kernel
theorem dX12_wouldDare_14 : decode cX12_wouldDare 14 = .ok (.iload_n 1, 1) := by decide +kernel
theorem dX12_wouldDare_15 : decode cX12_wouldDare 15 = .ok (.iaload, 1) := by decide +kernel
theorem dX12_wouldDare_16 : decode cX12_wouldDare 16 = .ok (.iload_n 2, 1) := by decide +kernel
theorem dX12_wouldDare_17 : decode cX12_wouldDare 17 = .ok (.iadd, 1) := by decide +kernel
theorem dX12_wouldDare_18 : decode cX12_wouldDare 18 = .ok (.bipush 9, 2) := by decide +kernel
theorem dX12_wouldDare_20 : decode cX12_wouldDare 20 = .ok (.if_icmp .gt 7, 3) := by decide +kernel
theorem dX12_wouldDare_23 : decode cX12_wouldDare 23 = .ok (.iconst 1, 1) := by decide +kernel
theorem dX12_wouldDare_24 : decode cX12_wouldDare 24 = .ok (.goto 4, 3) := by decide +kernel
theorem dX12_wouldDare_27 : decode cX12_wouldDare 27 = .ok (.iconst 0, 1) := by decide +kernel
theorem dX12_wouldDare_28 : decode cX12_wouldDare 28 = .ok (.ireturn, 1) := by decide +kernel
theorem dX12_isOpenAt_0 : decode cX12_isOpenAt 0 = .ok (.iload_n 1, 1) := by decide +kernel
theorem dX12_isOpenAt_1 : decode cX12_isOpenAt 1 = .ok (.aload_n 0, 1) := by decide +kernel
theorem dX12_isOpenAt_2 : decode cX12_isOpenAt 2 = .ok (.getfield 114, 3) := by decide +kernel
theorem dX12_isOpenAt_5 : decode cX12_isOpenAt 5 = .ok (.iconst 2, 1) := by decide +kernel
theorem dX12_isOpenAt_6 : decode cX12_isOpenAt 6 = .ok (.iaload, 1) := by decide +kernel
theorem dX12_isOpenAt_7 : decode cX12_isOpenAt 7 = .ok (.if_icmp .lt 17, 3) := by decide +kernel
theorem dX12_isOpenAt_10 : decode cX12_isOpenAt 10 = .ok (.iload_n 1, 1) := by decide +kernel
theorem dX12_isOpenAt_11 : decode cX12_isOpenAt 11 = .ok (.aload_n 0, 1) := by decide +kernel
theorem dX12_isOpenAt_12 : decode cX12_isOpenAt 12 = .ok (.getfield 114, 3) := by decide +kernel
theorem dX12_isOpenAt_15 : decode cX12_isOpenAt 15 = .ok (.iconst 3, 1) := by decide +kernel
theorem dX12_isOpenAt_16 : decode cX12_isOpenAt 16 = .ok (.iaload, 1) := by decide +kernel
theorem dX12_isOpenAt_17 : decode cX12_isOpenAt 17 = .ok (.if_icmp .ge 7, 3) := by decide +kernel
theorem dX12_isOpenAt_20 : decode cX12_isOpenAt 20 = .ok (.iconst 1, 1) := by decide +kernel
theorem dX12_isOpenAt_21 : decode cX12_isOpenAt 21 = .ok (.goto 4, 3) := by decide +kernel
theorem dX12_isOpenAt_24 : decode cX12_isOpenAt 24 = .ok (.iconst 0, 1) := by decide +kernel
theorem dX12_isOpenAt_25 : decode cX12_isOpenAt 25 = .ok (.ireturn, 1) := by decide +kernel
set_option maxRecDepth 20000 in
theorem ggX12_firstDaring_X12_standing : GoodIn wsX12_firstDaring wsX12_standing := goodIn_r _ [8, 1, 2, 15, 16, 17, 18, 19, 20, 21, 22, 23, 24, 25, 26, 27, 28, 29, 30, 31, 32, 33, 34, 35, 36, 37, 38, 39, 40, 41, 42, 43, 44, 45, 46, 47, 48, 49, 50, 51, 52, 53, 54, 55, 56, 57, 58, 59, 60, 61, 62, 63, 64, 65, 66, 67, 68, 69, 70, 71, 72, 73, 74, 75, 76, 77, 78, 79, 80, 81] (by decide +kernel) (by decide +kernel)
set_option maxRecDepth 20000 in
theorem gX12_firstDaring_X12_standing : GoodIn wsX12_firstDaring (wsV RX12 407 RX12 yX12_standing wsX12_standing) := goodIn_app (goodIn_of _ (by decide +kernel)) ggX12_firstDaring_X12_standing
set_option maxRecDepth 20000 in
theorem ggX12_firstDaring_X12_wouldDare : GoodIn wsX12_firstDaring wsX12_wouldDare := goodIn_r _ [12, 13, 14, 15, 16, 17, 18, 19, 20, 21, 22, 23, 24, 25, 26, 27, 28, 29, 30, 31, 32, 33, 34, 35, 36, 37, 38, 39, 40, 41, 42, 43, 44, 45, 46, 47, 48, 49, 50, 51, 52, 53, 54, 55, 56, 57, 58, 59, 60, 61, 62, 63, 64, 65, 66, 67, 68, 69, 70, 71, 72, 73, 74, 75, 76, 77, 78, 79, 80, 81] (by decide +kernel) (by decide +kernel)
set_option maxRecDepth 20000 in
theorem gX12_firstDaring_X12_wouldDare : GoodIn wsX12_firstDaring (wsV RX12 410 RX12 yX12_wouldDare wsX12_wouldDare) := goodIn_app (goodIn_of _ (by decide +kernel)) ggX12_firstDaring_X12_wouldDare
theorem dX12_firstDaring_0 : decode cX12_firstDaring 0 = .ok (.aload_n 0, 1) := by decide +kernel
theorem dX12_firstDaring_1 : decode cX12_firstDaring 1 = .ok (.invokevirtual 407, 3) := by decide +kernel
theorem dX12_firstDaring_4 : decode cX12_firstDaring 4 = .ok (.iconst 1, 1) := by decide +kernel
theorem dX12_firstDaring_5 : decode cX12_firstDaring 5 = .ok (.isub, 1) := by decide +kernel
theorem dX12_firstDaring_6 : decode cX12_firstDaring 6 = .ok (.istore_n 1, 1) := by decide +kernel
theorem dX12_firstDaring_7 : decode cX12_firstDaring 7 = .ok (.iconst (-1), 1) := by decide +kernel
theorem dX12_firstDaring_8 : decode cX12_firstDaring 8 = .ok (.istore_n 2, 1) := by decide +kernel
theorem dX12_firstDaring_9 : decode cX12_firstDaring 9 = .ok (.iconst 0, 1) := by decide +kernel
theorem dX12_firstDaring_10 : decode cX12_firstDaring 10 = .ok (.istore_n 3, 1) := by decide +kernel
theorem dX12_firstDaring_11 : decode cX12_firstDaring 11 = .ok (.iload_n 3, 1) := by decide +kernel
theorem dX12_firstDaring_12 : decode cX12_firstDaring 12 = .ok (.aload_n 0, 1) := by decide +kernel
theorem dX12_firstDaring_13 : decode cX12_firstDaring 13 = .ok (.getfield 13, 3) := by decide +kernel
theorem dX12_firstDaring_16 : decode cX12_firstDaring 16 = .ok (.iconst 1, 1) := by decide +kernel
theorem dX12_firstDaring_17 : decode cX12_firstDaring 17 = .ok (.iaload, 1) := by decide +kernel
theorem dX12_firstDaring_18 : decode cX12_firstDaring 18 = .ok (.if_icmp .ge 49, 3) := by decide +kernel
theorem dX12_firstDaring_21 : decode cX12_firstDaring 21 = .ok (.aload_n 0, 1) := by decide +kernel
theorem dX12_firstDaring_22 : decode cX12_firstDaring 22 = .ok (.getfield 135, 3) := by decide +kernel
theorem dX12_firstDaring_25 : decode cX12_firstDaring 25 = .ok (.iload_n 3, 1) := by decide +kernel
theorem dX12_firstDaring_26 : decode cX12_firstDaring 26 = .ok (.iaload, 1) := by decide +kernel
theorem dX12_firstDaring_27 : decode cX12_firstDaring 27 = .ok (.iconst 1, 1) := by decide +kernel
theorem dX12_firstDaring_28 : decode cX12_firstDaring 28 = .ok (.if_icmp .ne 33, 3) := by decide +kernel
theorem dX12_firstDaring_31 : decode cX12_firstDaring 31 = .ok (.aload_n 0, 1) := by decide +kernel
theorem dX12_firstDaring_32 : decode cX12_firstDaring 32 = .ok (.iload_n 3, 1) := by decide +kernel
theorem dX12_firstDaring_33 : decode cX12_firstDaring 33 = .ok (.iload_n 1, 1) := by decide +kernel
theorem dX12_firstDaring_34 : decode cX12_firstDaring 34 = .ok (.invokevirtual 410, 3) := by decide +kernel
theorem dX12_firstDaring_37 : decode cX12_firstDaring 37 = .ok (.ifCond .eq 24, 3) := by decide +kernel
theorem dX12_firstDaring_40 : decode cX12_firstDaring 40 = .ok (.iload_n 2, 1) := by decide +kernel
theorem dX12_firstDaring_41 : decode cX12_firstDaring 41 = .ok (.ifCond .lt 18, 3) := by decide +kernel
theorem dX12_firstDaring_44 : decode cX12_firstDaring 44 = .ok (.aload_n 0, 1) := by decide +kernel
theorem dX12_firstDaring_45 : decode cX12_firstDaring 45 = .ok (.getfield 132, 3) := by decide +kernel
theorem dX12_firstDaring_48 : decode cX12_firstDaring 48 = .ok (.iload_n 3, 1) := by decide +kernel
theorem dX12_firstDaring_49 : decode cX12_firstDaring 49 = .ok (.iaload, 1) := by decide +kernel
theorem dX12_firstDaring_50 : decode cX12_firstDaring 50 = .ok (.aload_n 0, 1) := by decide +kernel
theorem dX12_firstDaring_51 : decode cX12_firstDaring 51 = .ok (.getfield 132, 3) := by decide +kernel
theorem dX12_firstDaring_54 : decode cX12_firstDaring 54 = .ok (.iload_n 2, 1) := by decide +kernel
theorem dX12_firstDaring_55 : decode cX12_firstDaring 55 = .ok (.iaload, 1) := by decide +kernel
theorem dX12_firstDaring_56 : decode cX12_firstDaring 56 = .ok (.if_icmp .ge 5, 3) := by decide +kernel
theorem dX12_firstDaring_59 : decode cX12_firstDaring 59 = .ok (.iload_n 3, 1) := by decide +kernel
theorem dX12_firstDaring_60 : decode cX12_firstDaring 60 = .ok (.istore_n 2, 1) := by decide +kernel
theorem dX12_firstDaring_61 : decode cX12_firstDaring 61 = .ok (.iinc 3 1, 3) := by decide +kernel
theorem dX12_firstDaring_64 : decode cX12_firstDaring 64 = .ok (.goto (-53), 3) := by decide +kernel
theorem dX12_firstDaring_67 : decode cX12_firstDaring 67 = .ok (.iload_n 2, 1) := by decide +kernel
theorem dX12_firstDaring_68 : decode cX12_firstDaring 68 = .ok (.ireturn, 1) := by decide +kernel
set_option maxRecDepth 20000 in
theorem ggX12_beginsAt_X12_allStrikes : GoodIn wsX12_beginsAt wsX12_allStrikes := goodIn_r _ [12, 13, 14, 15, 16, 11, 17, 18, 5, 19, 20, 21, 22, 70, 71, 72, 73, 74, 75, 76, 77, 78, 79, 80, 81, 82, 83, 84, 85, 86, 87, 88, 89, 90, 91, 92, 93, 94, 95, 96, 97, 98, 99, 100, 101, 102, 103, 104, 105, 106, 107, 108, 109, 110, 111, 112, 113, 114, 115, 116, 117, 118, 119, 120, 121, 122, 123, 124, 125, 126, 127, 128, 129, 130, 131, 132, 133, 134, 135, 136] (by decide +kernel) (by decide +kernel)
set_option maxRecDepth 20000 in
theorem gX12_beginsAt_X12_allStrikes : GoodIn wsX12_beginsAt (wsV RX12 391 RX12 yX12_allStrikes wsX12_allStrikes) := goodIn_app (goodIn_of _ (by decide +kernel)) ggX12_beginsAt_X12_allStrikes
set_option maxRecDepth 20000 in
theorem ggX12_beginsAt_X12_keyAt : GoodIn wsX12_beginsAt wsX12_keyAt := goodIn_r _ [26, 27, 5, 14, 15, 16, 11, 17, 18, 13, 19, 20, 21, 22, 70, 71, 72, 73, 74, 75, 76, 77, 78, 79, 80, 81, 82, 83, 84, 85, 86, 87, 88, 89, 90, 91, 92, 93, 94, 95, 96, 97, 98, 99, 100, 101, 102, 103, 104, 105, 106, 107, 108, 109, 110, 111, 112, 113, 114, 115, 116, 117, 118, 119, 120, 121, 122, 123, 124, 125, 126, 127, 128, 129, 130, 131, 132, 133, 134, 135, 136] (by decide +kernel) (by decide +kernel)
set_option maxRecDepth 20000 in
theorem gX12_beginsAt_X12_keyAt : GoodIn wsX12_beginsAt (wsV RX12 394 RX12 yX12_keyAt wsX12_keyAt) := goodIn_app (goodIn_of _ (by decide +kernel)) ggX12_beginsAt_X12_keyAt
set_option maxRecDepth 20000 in
theorem ggX12_beginsAt_X12_wornBy : GoodIn wsX12_beginsAt wsX12_wornBy := goodIn_r _ [31, 32, 33, 34, 35, 19, 20, 21, 22, 36, 37, 38, 11, 39, 13, 40, 6, 41, 42, 43, 44, 45, 46, 47, 48, 49, 50, 51, 52, 53, 54, 55, 56, 57, 58, 59, 60, 61, 62, 63, 64, 65, 66, 67, 68, 69, 70, 71, 72, 73, 74, 75, 76, 77, 78, 79, 80, 81, 82, 83, 84, 85, 86, 87, 88, 89, 90, 91, 92, 93, 94, 95, 96, 97, 98, 99, 100, 101, 102, 103, 104, 105, 106, 107, 108, 109, 110, 111, 112, 113, 114, 115, 116, 117, 118, 119, 120, 121, 122, 123, 124, 125, 126, 127, 128, 129, 130, 131, 132, 133, 134, 135, 136] (by decide +kernel) (by decide +kernel)
set_option maxRecDepth 20000 in
theorem gX12_beginsAt_X12_wornBy : GoodIn wsX12_beginsAt (wsV RX12 413 RX12 yX12_wornBy wsX12_wornBy) := goodIn_app (goodIn_of _ (by decide +kernel)) ggX12_beginsAt_X12_wornBy
theorem dX12_beginsAt_0 : decode cX12_beginsAt 0 = .ok (.aload_n 0, 1) := by decide +kernel
theorem dX12_beginsAt_1 : decode cX12_beginsAt 1 = .ok (.getfield 135, 3) := by decide +kernel
theorem dX12_beginsAt_4 : decode cX12_beginsAt 4 = .ok (.iload_n 1, 1) := by decide +kernel
theorem dX12_beginsAt_5 : decode cX12_beginsAt 5 = .ok (.iconst 2, 1) := by decide +kernel
theorem dX12_beginsAt_6 : decode cX12_beginsAt 6 = .ok (.iastore, 1) := by decide +kernel
theorem dX12_beginsAt_7 : decode cX12_beginsAt 7 = .ok (.aload_n 0, 1) := by decide +kernel
theorem dX12_beginsAt_8 : decode cX12_beginsAt 8 = .ok (.getfield 138, 3) := by decide +kernel
theorem dX12_beginsAt_11 : decode cX12_beginsAt 11 = .ok (.iload_n 1, 1) := by decide +kernel
theorem dX12_beginsAt_12 : decode cX12_beginsAt 12 = .ok (.iload_n 2, 1) := by decide +kernel
theorem dX12_beginsAt_13 : decode cX12_beginsAt 13 = .ok (.iastore, 1) := by decide +kernel
theorem dX12_beginsAt_14 : decode cX12_beginsAt 14 = .ok (.aload_n 0, 1) := by decide +kernel
theorem dX12_beginsAt_15 : decode cX12_beginsAt 15 = .ok (.getfield 147, 3) := by decide +kernel
theorem dX12_beginsAt_18 : decode cX12_beginsAt 18 = .ok (.iload_n 1, 1) := by decide +kernel
theorem dX12_beginsAt_19 : decode cX12_beginsAt 19 = .ok (.iconst 0, 1) := by decide +kernel
theorem dX12_beginsAt_20 : decode cX12_beginsAt 20 = .ok (.iastore, 1) := by decide +kernel
theorem dX12_beginsAt_21 : decode cX12_beginsAt 21 = .ok (.iconst 0, 1) := by decide +kernel
theorem dX12_beginsAt_22 : decode cX12_beginsAt 22 = .ok (.istore_n 3, 1) := by decide +kernel
theorem dX12_beginsAt_23 : decode cX12_beginsAt 23 = .ok (.iload_n 3, 1) := by decide +kernel
theorem dX12_beginsAt_24 : decode cX12_beginsAt 24 = .ok (.aload_n 0, 1) := by decide +kernel
theorem dX12_beginsAt_25 : decode cX12_beginsAt 25 = .ok (.getfield 13, 3) := by decide +kernel
theorem dX12_beginsAt_28 : decode cX12_beginsAt 28 = .ok (.iconst 1, 1) := by decide +kernel
theorem dX12_beginsAt_29 : decode cX12_beginsAt 29 = .ok (.iaload, 1) := by decide +kernel
theorem dX12_beginsAt_30 : decode cX12_beginsAt 30 = .ok (.if_icmp .ge 52, 3) := by decide +kernel
theorem dX12_beginsAt_33 : decode cX12_beginsAt 33 = .ok (.aload_n 0, 1) := by decide +kernel
theorem dX12_beginsAt_34 : decode cX12_beginsAt 34 = .ok (.getfield 147, 3) := by decide +kernel
theorem dX12_beginsAt_37 : decode cX12_beginsAt 37 = .ok (.iload_n 1, 1) := by decide +kernel
theorem dX12_beginsAt_38 : decode cX12_beginsAt 38 = .ok (.dup2, 1) := by decide +kernel
theorem dX12_beginsAt_39 : decode cX12_beginsAt 39 = .ok (.iaload, 1) := by decide +kernel
theorem dX12_beginsAt_40 : decode cX12_beginsAt 40 = .ok (.iload_n 3, 1) := by decide +kernel
theorem dX12_beginsAt_41 : decode cX12_beginsAt 41 = .ok (.iload_n 1, 1) := by decide +kernel
theorem dX12_beginsAt_42 : decode cX12_beginsAt 42 = .ok (.if_icmp .eq 31, 3) := by decide +kernel
theorem dX12_beginsAt_45 : decode cX12_beginsAt 45 = .ok (.aload_n 0, 1) := by decide +kernel
theorem dX12_beginsAt_46 : decode cX12_beginsAt 46 = .ok (.getfield 138, 3) := by decide +kernel
theorem dX12_beginsAt_49 : decode cX12_beginsAt 49 = .ok (.iload_n 3, 1) := by decide +kernel
theorem dX12_beginsAt_50 : decode cX12_beginsAt 50 = .ok (.iaload, 1) := by decide +kernel
theorem dX12_beginsAt_51 : decode cX12_beginsAt 51 = .ok (.ifCond .lt 22, 3) := by decide +kernel
theorem dX12_beginsAt_54 : decode cX12_beginsAt 54 = .ok (.aload_n 0, 1) := by decide +kernel
theorem dX12_beginsAt_55 : decode cX12_beginsAt 55 = .ok (.getfield 32, 3) := by decide +kernel
theorem dX12_beginsAt_58 : decode cX12_beginsAt 58 = .ok (.iload_n 3, 1) := by decide +kernel
theorem dX12_beginsAt_59 : decode cX12_beginsAt 59 = .ok (.iaload, 1) := by decide +kernel
theorem dX12_beginsAt_60 : decode cX12_beginsAt 60 = .ok (.aload_n 0, 1) := by decide +kernel
theorem dX12_beginsAt_61 : decode cX12_beginsAt 61 = .ok (.getfield 32, 3) := by decide +kernel
theorem dX12_beginsAt_64 : decode cX12_beginsAt 64 = .ok (.iload_n 1, 1) := by decide +kernel
theorem dX12_beginsAt_65 : decode cX12_beginsAt 65 = .ok (.iaload, 1) := by decide +kernel
theorem dX12_beginsAt_66 : decode cX12_beginsAt 66 = .ok (.if_icmp .ne 7, 3) := by decide +kernel
theorem dX12_beginsAt_69 : decode cX12_beginsAt 69 = .ok (.iconst 1, 1) := by decide +kernel
theorem dX12_beginsAt_70 : decode cX12_beginsAt 70 = .ok (.goto 4, 3) := by decide +kernel
theorem dX12_beginsAt_73 : decode cX12_beginsAt 73 = .ok (.iconst 0, 1) := by decide +kernel
theorem dX12_beginsAt_74 : decode cX12_beginsAt 74 = .ok (.iadd, 1) := by decide +kernel
theorem dX12_beginsAt_75 : decode cX12_beginsAt 75 = .ok (.iastore, 1) := by decide +kernel
theorem dX12_beginsAt_76 : decode cX12_beginsAt 76 = .ok (.iinc 3 1, 3) := by decide +kernel
theorem dX12_beginsAt_79 : decode cX12_beginsAt 79 = .ok (.goto (-56), 3) := by decide +kernel
theorem dX12_beginsAt_82 : decode cX12_beginsAt 82 = .ok (.iconst 0, 1) := by decide +kernel
theorem dX12_beginsAt_83 : decode cX12_beginsAt 83 = .ok (.istore_n 3, 1) := by decide +kernel
theorem dX12_beginsAt_84 : decode cX12_beginsAt 84 = .ok (.iload_n 3, 1) := by decide +kernel
theorem dX12_beginsAt_85 : decode cX12_beginsAt 85 = .ok (.aload_n 0, 1) := by decide +kernel
theorem dX12_beginsAt_86 : decode cX12_beginsAt 86 = .ok (.iload_n 1, 1) := by decide +kernel
theorem dX12_beginsAt_87 : decode cX12_beginsAt 87 = .ok (.invokevirtual 391, 3) := by decide +kernel
theorem dX12_beginsAt_90 : decode cX12_beginsAt 90 = .ok (.if_icmp .ge 40, 3) := by decide +kernel
theorem dX12_beginsAt_93 : decode cX12_beginsAt 93 = .ok (.aload_n 0, 1) := by decide +kernel
theorem dX12_beginsAt_94 : decode cX12_beginsAt 94 = .ok (.getfield 114, 3) := by decide +kernel
theorem dX12_beginsAt_97 : decode cX12_beginsAt 97 = .ok (.iconst 5, 1) := by decide +kernel
theorem dX12_beginsAt_98 : decode cX12_beginsAt 98 = .ok (.aload_n 0, 1) := by decide +kernel
theorem dX12_beginsAt_99 : decode cX12_beginsAt 99 = .ok (.iload_n 1, 1) := by decide +kernel
theorem dX12_beginsAt_100 : decode cX12_beginsAt 100 = .ok (.iload_n 3, 1) := by decide +kernel
theorem dX12_beginsAt_101 : decode cX12_beginsAt 101 = .ok (.invokevirtual 394, 3) := by decide +kernel
theorem dX12_beginsAt_104 : decode cX12_beginsAt 104 = .ok (.iadd, 1) := by decide +kernel
theorem dX12_beginsAt_105 : decode cX12_beginsAt 105 = .ok (.aload_n 0, 1) := by decide +kernel
theorem dX12_beginsAt_106 : decode cX12_beginsAt 106 = .ok (.iload_n 1, 1) := by decide +kernel
theorem dX12_beginsAt_107 : decode cX12_beginsAt 107 = .ok (.aload_n 0, 1) := by decide +kernel
theorem dX12_beginsAt_108 : decode cX12_beginsAt 108 = .ok (.getfield 114, 3) := by decide +kernel
theorem dX12_beginsAt_111 : decode cX12_beginsAt 111 = .ok (.iconst 5, 1) := by decide +kernel
theorem dX12_beginsAt_112 : decode cX12_beginsAt 112 = .ok (.aload_n 0, 1) := by decide +kernel
theorem dX12_beginsAt_113 : decode cX12_beginsAt 113 = .ok (.iload_n 1, 1) := by decide +kernel
theorem dX12_beginsAt_114 : decode cX12_beginsAt 114 = .ok (.iload_n 3, 1) := by decide +kernel
theorem dX12_beginsAt_115 : decode cX12_beginsAt 115 = .ok (.invokevirtual 394, 3) := by decide +kernel
theorem dX12_beginsAt_118 : decode cX12_beginsAt 118 = .ok (.iadd, 1) := by decide +kernel
theorem dX12_beginsAt_119 : decode cX12_beginsAt 119 = .ok (.iaload, 1) := by decide +kernel
theorem dX12_beginsAt_120 : decode cX12_beginsAt 120 = .ok (.invokevirtual 413, 3) := by decide +kernel
theorem dX12_beginsAt_123 : decode cX12_beginsAt 123 = .ok (.iastore, 1) := by decide +kernel
theorem dX12_beginsAt_124 : decode cX12_beginsAt 124 = .ok (.iinc 3 1, 3) := by decide +kernel
theorem dX12_beginsAt_127 : decode cX12_beginsAt 127 = .ok (.goto (-43), 3) := by decide +kernel
theorem dX12_beginsAt_130 : decode cX12_beginsAt 130 = .ok (.aload_n 0, 1) := by decide +kernel
theorem dX12_beginsAt_131 : decode cX12_beginsAt 131 = .ok (.dup, 1) := by decide +kernel
theorem dX12_beginsAt_132 : decode cX12_beginsAt 132 = .ok (.getfield 416, 3) := by decide +kernel
theorem dX12_beginsAt_135 : decode cX12_beginsAt 135 = .ok (.iconst 1, 1) := by decide +kernel
theorem dX12_beginsAt_136 : decode cX12_beginsAt 136 = .ok (.iadd, 1) := by decide +kernel
theorem dX12_beginsAt_137 : decode cX12_beginsAt 137 = .ok (.putfield 416, 3) := by decide +kernel
theorem dX12_beginsAt_140 : decode cX12_beginsAt 140 = .ok (.return_, 1) := by decide +kernel
set_option maxRecDepth 20000 in
theorem ggX12_joyOf_X12_wornFor : GoodIn wsX12_joyOf wsX12_wornFor := goodIn_r _ [10, 11, 12, 13, 14, 9, 15, 16, 17, 18, 19, 20, 21, 22, 23, 24, 25, 26, 27, 28, 29, 30, 31, 67, 68, 69, 70, 71, 72, 73, 74, 75, 76, 77, 78, 79, 80, 81, 82, 83, 84, 85, 86, 87, 88, 89, 90, 91, 92, 93, 94, 95, 96, 97, 98, 99, 100, 101, 102, 103, 104, 105, 106, 107, 108, 109, 110, 111, 112, 113, 114, 115, 116, 117, 118, 119, 120, 121, 122, 123, 124, 125, 126, 127, 128, 129, 130, 131, 132, 133] (by decide +kernel) (by decide +kernel)
set_option maxRecDepth 20000 in
theorem gX12_joyOf_X12_wornFor : GoodIn wsX12_joyOf (wsV RX12 419 RX12 yX12_wornFor wsX12_wornFor) := goodIn_app (goodIn_of _ (by decide +kernel)) ggX12_joyOf_X12_wornFor
set_option maxRecDepth 20000 in
theorem ggX12_joyOf_X12_standing : GoodIn wsX12_joyOf wsX12_standing := goodIn_r _ [35, 36, 37, 67, 68, 69, 70, 71, 72, 73, 74, 75, 76, 77, 78, 79, 80, 81, 82, 83, 84, 85, 86, 87, 88, 89, 90, 91, 92, 93, 94, 95, 96, 97, 98, 99, 100, 101, 102, 103, 104, 105, 106, 107, 108, 109, 110, 111, 112, 113, 114, 115, 116, 117, 118, 119, 120, 121, 122, 123, 124, 125, 126, 127, 128, 129, 130, 131, 132, 133] (by decide +kernel) (by decide +kernel)
set_option maxRecDepth 20000 in
theorem gX12_joyOf_X12_standing : GoodIn wsX12_joyOf (wsV RX12 407 RX12 yX12_standing wsX12_standing) := goodIn_app (goodIn_of _ (by decide +kernel)) ggX12_joyOf_X12_standing
set_option maxRecDepth 20000 in
theorem ggX12_joyOf_X12_worked : GoodIn wsX12_joyOf wsX12_worked := goodIn_r _ [41, 4, 3, 42, 43, 44, 45, 46, 47, 48, 49, 5, 50, 51, 52, 53, 54, 9, 55, 56, 57, 58, 59, 60, 61, 62, 63, 67, 68, 69, 70, 71, 72, 73, 74, 75, 76, 77, 78, 79, 80, 81, 82, 83, 84, 85, 86, 87, 88, 89, 90, 91, 92, 93, 94, 95, 96, 97, 98, 99, 100, 101, 102, 103, 104, 105, 106, 107, 108, 109, 110, 111, 112, 113, 114, 115, 116, 117, 118, 119, 120, 121, 122, 123, 124, 125, 126, 127, 128, 129, 130, 131, 132, 133] (by decide +kernel) (by decide +kernel)
set_option maxRecDepth 20000 in
theorem gX12_joyOf_X12_worked : GoodIn wsX12_joyOf (wsV RX12 400 RX12 yX12_worked wsX12_worked) := goodIn_app (goodIn_of _ (by decide +kernel)) ggX12_joyOf_X12_worked
set_option maxRecDepth 20000 in
theorem ggX12_joyOf_X12_between : GoodIn wsX12_joyOf wsX12_between := goodIn_r _ [66] (by decide +kernel) (by decide +kernel)
set_option maxRecDepth 20000 in
theorem gX12_joyOf_X12_between : GoodIn wsX12_joyOf (va_wsS RX12 403 yX12_between wsX12_between) := goodIn_app (goodIn_of _ (by decide +kernel)) ggX12_joyOf_X12_between
theorem dX12_joyOf_0 : decode cX12_joyOf 0 = .ok (.aload_n 0, 1) := by decide +kernel
theorem dX12_joyOf_1 : decode cX12_joyOf 1 = .ok (.iload_n 1, 1) := by decide +kernel
theorem dX12_joyOf_2 : decode cX12_joyOf 2 = .ok (.invokevirtual 419, 3) := by decide +kernel
theorem dX12_joyOf_5 : decode cX12_joyOf 5 = .ok (.istore_n 2, 1) := by decide +kernel
theorem dX12_joyOf_6 : decode cX12_joyOf 6 = .ok (.aload_n 0, 1) := by decide +kernel
theorem dX12_joyOf_7 : decode cX12_joyOf 7 = .ok (.getfield 35, 3) := by decide +kernel
theorem dX12_joyOf_10 : decode cX12_joyOf 10 = .ok (.iload_n 1, 1) := by decide +kernel
theorem dX12_joyOf_11 : decode cX12_joyOf 11 = .ok (.iaload, 1) := by decide +kernel
theorem dX12_joyOf_12 : decode cX12_joyOf 12 = .ok (.iload_n 2, 1) := by decide +kernel
theorem dX12_joyOf_13 : decode cX12_joyOf 13 = .ok (.isub, 1) := by decide +kernel
theorem dX12_joyOf_14 : decode cX12_joyOf 14 = .ok (.aload_n 0, 1) := by decide +kernel
theorem dX12_joyOf_15 : decode cX12_joyOf 15 = .ok (.getfield 147, 3) := by decide +kernel
theorem dX12_joyOf_18 : decode cX12_joyOf 18 = .ok (.iload_n 1, 1) := by decide +kernel
theorem dX12_joyOf_19 : decode cX12_joyOf 19 = .ok (.iaload, 1) := by decide +kernel
theorem dX12_joyOf_20 : decode cX12_joyOf 20 = .ok (.isub, 1) := by decide +kernel
theorem dX12_joyOf_21 : decode cX12_joyOf 21 = .ok (.istore_n 3, 1) := by decide +kernel
theorem dX12_joyOf_22 : decode cX12_joyOf 22 = .ok (.aload_n 0, 1) := by decide +kernel
theorem dX12_joyOf_23 : decode cX12_joyOf 23 = .ok (.getfield 50, 3) := by decide +kernel
theorem dX12_joyOf_26 : decode cX12_joyOf 26 = .ok (.iconst 0, 1) := by decide +kernel
theorem dX12_joyOf_27 : decode cX12_joyOf 27 = .ok (.iaload, 1) := by decide +kernel
theorem dX12_joyOf_28 : decode cX12_joyOf 28 = .ok (.aload_n 0, 1) := by decide +kernel
theorem dX12_joyOf_29 : decode cX12_joyOf 29 = .ok (.getfield 47, 3) := by decide +kernel
theorem dX12_joyOf_32 : decode cX12_joyOf 32 = .ok (.iconst 0, 1) := by decide +kernel
theorem dX12_joyOf_33 : decode cX12_joyOf 33 = .ok (.iaload, 1) := by decide +kernel
theorem dX12_joyOf_34 : decode cX12_joyOf 34 = .ok (.if_icmp .le 50, 3) := by decide +kernel
theorem dX12_joyOf_37 : decode cX12_joyOf 37 = .ok (.aload_n 0, 1) := by decide +kernel
theorem dX12_joyOf_38 : decode cX12_joyOf 38 = .ok (.getfield 90, 3) := by decide +kernel
theorem dX12_joyOf_41 : decode cX12_joyOf 41 = .ok (.iconst 1, 1) := by decide +kernel
theorem dX12_joyOf_42 : decode cX12_joyOf 42 = .ok (.aload_n 0, 1) := by decide +kernel
theorem dX12_joyOf_43 : decode cX12_joyOf 43 = .ok (.getfield 35, 3) := by decide +kernel
theorem dX12_joyOf_46 : decode cX12_joyOf 46 = .ok (.iload_n 1, 1) := by decide +kernel
theorem dX12_joyOf_47 : decode cX12_joyOf 47 = .ok (.iaload, 1) := by decide +kernel
theorem dX12_joyOf_48 : decode cX12_joyOf 48 = .ok (.iastore, 1) := by decide +kernel
theorem dX12_joyOf_49 : decode cX12_joyOf 49 = .ok (.aload_n 0, 1) := by decide +kernel
theorem dX12_joyOf_50 : decode cX12_joyOf 50 = .ok (.getfield 90, 3) := by decide +kernel
theorem dX12_joyOf_53 : decode cX12_joyOf 53 = .ok (.iconst 2, 1) := by decide +kernel
theorem dX12_joyOf_54 : decode cX12_joyOf 54 = .ok (.iload_n 2, 1) := by decide +kernel
theorem dX12_joyOf_55 : decode cX12_joyOf 55 = .ok (.iastore, 1) := by decide +kernel
theorem dX12_joyOf_56 : decode cX12_joyOf 56 = .ok (.aload_n 0, 1) := by decide +kernel
theorem dX12_joyOf_57 : decode cX12_joyOf 57 = .ok (.getfield 90, 3) := by decide +kernel
theorem dX12_joyOf_60 : decode cX12_joyOf 60 = .ok (.iconst 3, 1) := by decide +kernel
theorem dX12_joyOf_61 : decode cX12_joyOf 61 = .ok (.aload_n 0, 1) := by decide +kernel
theorem dX12_joyOf_62 : decode cX12_joyOf 62 = .ok (.invokevirtual 407, 3) := by decide +kernel
theorem dX12_joyOf_65 : decode cX12_joyOf 65 = .ok (.iastore, 1) := by decide +kernel
theorem dX12_joyOf_66 : decode cX12_joyOf 66 = .ok (.aload_n 0, 1) := by decide +kernel
theorem dX12_joyOf_67 : decode cX12_joyOf 67 = .ok (.getfield 90, 3) := by decide +kernel
theorem dX12_joyOf_70 : decode cX12_joyOf 70 = .ok (.iconst 4, 1) := by decide +kernel
theorem dX12_joyOf_71 : decode cX12_joyOf 71 = .ok (.aload_n 0, 1) := by decide +kernel
theorem dX12_joyOf_72 : decode cX12_joyOf 72 = .ok (.getfield 147, 3) := by decide +kernel
theorem dX12_joyOf_75 : decode cX12_joyOf 75 = .ok (.iload_n 1, 1) := by decide +kernel
theorem dX12_joyOf_76 : decode cX12_joyOf 76 = .ok (.iaload, 1) := by decide +kernel
theorem dX12_joyOf_77 : decode cX12_joyOf 77 = .ok (.iastore, 1) := by decide +kernel
theorem dX12_joyOf_78 : decode cX12_joyOf 78 = .ok (.aload_n 0, 1) := by decide +kernel
theorem dX12_joyOf_79 : decode cX12_joyOf 79 = .ok (.iconst 0, 1) := by decide +kernel
theorem dX12_joyOf_80 : decode cX12_joyOf 80 = .ok (.invokevirtual 400, 3) := by decide +kernel
theorem dX12_joyOf_83 : decode cX12_joyOf 83 = .ok (.istore_n 3, 1) := by decide +kernel
theorem dX12_joyOf_84 : decode cX12_joyOf 84 = .ok (.iload_n 3, 1) := by decide +kernel
theorem dX12_joyOf_85 : decode cX12_joyOf 85 = .ok (.bipush (-99), 2) := by decide +kernel
theorem dX12_joyOf_87 : decode cX12_joyOf 87 = .ok (.bipush 99, 2) := by decide +kernel
theorem dX12_joyOf_89 : decode cX12_joyOf 89 = .ok (.invokestatic 403, 3) := by decide +kernel
theorem dX12_joyOf_92 : decode cX12_joyOf 92 = .ok (.ireturn, 1) := by decide +kernel
set_option maxRecDepth 20000 in
theorem ggX12_passesMinute_X12_minutesOf : GoodIn wsX12_passesMinute wsX12_minutesOf := goodIn_r _ [13, 14, 15, 16, 17, 18, 19, 20, 104, 105, 106, 107, 108, 109, 110, 111, 112, 113, 114, 115, 116, 117, 118, 119, 120, 121, 122, 123, 124, 125, 126, 127, 128, 129, 130, 131, 132, 133, 134, 135, 136, 137, 138, 139, 140, 141, 142, 143, 144, 145, 146, 147, 148, 149, 150, 151, 152, 153, 154, 155, 156, 157, 158, 159, 160, 161, 162, 163, 164, 165, 166, 167, 168, 169, 170] (by decide +kernel) (by decide +kernel)
set_option maxRecDepth 20000 in
theorem gX12_passesMinute_X12_minutesOf : GoodIn wsX12_passesMinute (wsV RX12 397 RX12 yX12_minutesOf wsX12_minutesOf) := goodIn_app (goodIn_of _ (by decide +kernel)) ggX12_passesMinute_X12_minutesOf
set_option maxRecDepth 20000 in
theorem ggX12_passesMinute_X12_isOpenAt : GoodIn wsX12_passesMinute wsX12_isOpenAt := goodIn_r _ [24, 16, 104, 105, 106, 107, 108, 109, 110, 111, 112, 113, 114, 115, 116, 117, 118, 119, 120, 121, 122, 123, 124, 125, 126, 127, 128, 129, 130, 131, 132, 133, 134, 135, 136, 137, 138, 139, 140, 141, 142, 143, 144, 145, 146, 147, 148, 149, 150, 151, 152, 153, 154, 155, 156, 157, 158, 159, 160, 161, 162, 163, 164, 165, 166, 167, 168, 169, 170] (by decide +kernel) (by decide +kernel)
set_option maxRecDepth 20000 in
theorem gX12_passesMinute_X12_isOpenAt : GoodIn wsX12_passesMinute (wsV RX12 425 RX12 yX12_isOpenAt wsX12_isOpenAt) := goodIn_app (goodIn_of _ (by decide +kernel)) ggX12_passesMinute_X12_isOpenAt
set_option maxRecDepth 20000 in
theorem ggX12_passesMinute_X12_firstDaring : GoodIn wsX12_passesMinute wsX12_firstDaring := goodIn_r _ [28, 1, 4, 2, 29, 30, 31, 12, 32, 33, 34, 35, 36, 14, 37, 104, 105, 106, 107, 108, 109, 110, 111, 112, 113, 114, 115, 116, 117, 118, 119, 120, 121, 122, 123, 124, 125, 126, 127, 128, 129, 130, 131, 132, 133, 134, 135, 136, 137, 138, 139, 140, 141, 142, 143, 144, 145, 146, 147, 148, 149, 150, 151, 152, 153, 154, 155, 156, 157, 158, 159, 160, 161, 162, 163, 164, 165, 166, 167, 168, 169, 170] (by decide +kernel) (by decide +kernel)
set_option maxRecDepth 20000 in
theorem gX12_passesMinute_X12_firstDaring : GoodIn wsX12_passesMinute (wsV RX12 428 RX12 yX12_firstDaring wsX12_firstDaring) := goodIn_app (goodIn_of _ (by decide +kernel)) ggX12_passesMinute_X12_firstDaring
set_option maxRecDepth 20000 in
theorem ggX12_passesMinute_X12_beginsAt : GoodIn wsX12_passesMinute wsX12_beginsAt := goodIn_r _ [41, 4, 5, 42, 1, 43, 16, 44, 45, 46, 47, 12, 48, 14, 49, 50, 51, 52, 53, 17, 18, 19, 20, 54, 55, 56, 57, 58, 59, 60, 61, 62, 63, 64, 65, 66, 9, 10, 11, 13, 15, 67, 68, 69, 70, 71, 72, 73, 74, 75, 76, 77, 78, 79, 80, 81, 82, 83, 84, 85, 86, 87, 88, 89, 90, 91, 92, 93, 94, 95, 104, 105, 106, 107, 108, 109, 110, 111, 112, 113, 114, 115, 116, 117, 118, 119, 120, 121, 122, 123, 124, 125, 126, 127, 128, 129, 130, 131, 132, 133, 134, 135, 136, 137, 138, 139, 140, 141, 142, 143, 144, 145, 146, 147, 148, 149, 150, 151, 152, 153, 154, 155, 156, 157, 158, 159, 160, 161, 162, 163, 164, 165, 166, 167, 168, 169, 170] (by decide +kernel) (by decide +kernel)
set_option maxRecDepth 20000 in
theorem gX12_passesMinute_X12_beginsAt : GoodIn wsX12_passesMinute (wsV RX12 431 RX12 yX12_beginsAt wsX12_beginsAt) := goodIn_app (goodIn_of _ (by decide +kernel)) ggX12_passesMinute_X12_beginsAt
set_option maxRecDepth 20000 in
theorem ggX12_passesMinute_X12_joyOf : GoodIn wsX12_passesMinute wsX12_joyOf := goodIn_r _ [99, 66, 42, 63, 64, 65, 100, 101, 102, 12, 103, 16, 45, 46, 47, 48, 14, 49, 50, 51, 52, 53, 43, 17, 18, 19, 20, 54, 55, 56, 57, 58, 29, 30, 31, 32, 1, 4, 67, 68, 69, 70, 71, 72, 73, 74, 75, 76, 77, 78, 79, 80, 81, 82, 83, 84, 85, 86, 87, 88, 89, 90, 91, 92, 93, 94, 95, 104, 105, 106, 107, 108, 109, 110, 111, 112, 113, 114, 115, 116, 117, 118, 119, 120, 121, 122, 123, 124, 125, 126, 127, 128, 129, 130, 131, 132, 133, 134, 135, 136, 137, 138, 139, 140, 141, 142, 143, 144, 145, 146, 147, 148, 149, 150, 151, 152, 153, 154, 155, 156, 157, 158, 159, 160, 161, 162, 163, 164, 165, 166, 167, 168, 169, 170] (by decide +kernel) (by decide +kernel)
set_option maxRecDepth 20000 in
theorem gX12_passesMinute_X12_joyOf : GoodIn wsX12_passesMinute (wsV RX12 437 RX12 yX12_joyOf wsX12_joyOf) := goodIn_app (goodIn_of _ (by decide +kernel)) ggX12_passesMinute_X12_joyOf
theorem dX12_passesMinute_0 : decode cX12_passesMinute 0 = .ok (.iload_n 2, 1) := by decide +kernel
theorem dX12_passesMinute_1 : decode cX12_passesMinute 1 = .ok (.istore_n 3, 1) := by decide +kernel
theorem dX12_passesMinute_2 : decode cX12_passesMinute 2 = .ok (.iconst 0, 1) := by decide +kernel
theorem dX12_passesMinute_3 : decode cX12_passesMinute 3 = .ok (.istore 4, 2) := by decide +kernel
theorem dX12_passesMinute_5 : decode cX12_passesMinute 5 = .ok (.iload 4, 2) := by decide +kernel
theorem dX12_passesMinute_7 : decode cX12_passesMinute 7 = .ok (.aload_n 0, 1) := by decide +kernel
theorem dX12_passesMinute_8 : decode cX12_passesMinute 8 = .ok (.getfield 13, 3) := by decide +kernel
theorem dX12_passesMinute_11 : decode cX12_passesMinute 11 = .ok (.iconst 1, 1) := by decide +kernel
theorem dX12_passesMinute_12 : decode cX12_passesMinute 12 = .ok (.iaload, 1) := by decide +kernel
theorem dX12_passesMinute_13 : decode cX12_passesMinute 13 = .ok (.if_icmp .ge 40, 3) := by decide +kernel
theorem dX12_passesMinute_16 : decode cX12_passesMinute 16 = .ok (.aload_n 0, 1) := by decide +kernel
theorem dX12_passesMinute_17 : decode cX12_passesMinute 17 = .ok (.getfield 132, 3) := by decide +kernel
theorem dX12_passesMinute_20 : decode cX12_passesMinute 20 = .ok (.iload 4, 2) := by decide +kernel
theorem dX12_passesMinute_22 : decode cX12_passesMinute 22 = .ok (.iaload, 1) := by decide +kernel
theorem dX12_passesMinute_23 : decode cX12_passesMinute 23 = .ok (.iload_n 1, 1) := by decide +kernel
theorem dX12_passesMinute_24 : decode cX12_passesMinute 24 = .ok (.if_icmp .ne 23, 3) := by decide +kernel
theorem dX12_passesMinute_27 : decode cX12_passesMinute 27 = .ok (.aload_n 0, 1) := by decide +kernel
theorem dX12_passesMinute_28 : decode cX12_passesMinute 28 = .ok (.getfield 422, 3) := by decide +kernel
theorem dX12_passesMinute_31 : decode cX12_passesMinute 31 = .ok (.iload 4, 2) := by decide +kernel
theorem dX12_passesMinute_33 : decode cX12_passesMinute 33 = .ok (.ishr, 1) := by decide +kernel
theorem dX12_passesMinute_34 : decode cX12_passesMinute 34 = .ok (.iconst 1, 1) := by decide +kernel
theorem dX12_passesMinute_35 : decode cX12_passesMinute 35 = .ok (.iand, 1) := by decide +kernel
theorem dX12_passesMinute_36 : decode cX12_passesMinute 36 = .ok (.ifCond .ne 11, 3) := by decide +kernel
theorem dX12_passesMinute_39 : decode cX12_passesMinute 39 = .ok (.aload_n 0, 1) := by decide +kernel
theorem dX12_passesMinute_40 : decode cX12_passesMinute 40 = .ok (.getfield 135, 3) := by decide +kernel
theorem dX12_passesMinute_43 : decode cX12_passesMinute 43 = .ok (.iload 4, 2) := by decide +kernel
theorem dX12_passesMinute_45 : decode cX12_passesMinute 45 = .ok (.iconst 1, 1) := by decide +kernel
theorem dX12_passesMinute_46 : decode cX12_passesMinute 46 = .ok (.iastore, 1) := by decide +kernel
theorem dX12_passesMinute_47 : decode cX12_passesMinute 47 = .ok (.iinc 4 1, 3) := by decide +kernel
theorem dX12_passesMinute_50 : decode cX12_passesMinute 50 = .ok (.goto (-45), 3) := by decide +kernel
theorem dX12_passesMinute_53 : decode cX12_passesMinute 53 = .ok (.iload_n 3, 1) := by decide +kernel
theorem dX12_passesMinute_54 : decode cX12_passesMinute 54 = .ok (.ifCond .lt 43, 3) := by decide +kernel
theorem dX12_passesMinute_57 : decode cX12_passesMinute 57 = .ok (.iload_n 1, 1) := by decide +kernel
theorem dX12_passesMinute_58 : decode cX12_passesMinute 58 = .ok (.aload_n 0, 1) := by decide +kernel
theorem dX12_passesMinute_59 : decode cX12_passesMinute 59 = .ok (.getfield 138, 3) := by decide +kernel
theorem dX12_passesMinute_62 : decode cX12_passesMinute 62 = .ok (.iload_n 3, 1) := by decide +kernel
theorem dX12_passesMinute_63 : decode cX12_passesMinute 63 = .ok (.iaload, 1) := by decide +kernel
theorem dX12_passesMinute_64 : decode cX12_passesMinute 64 = .ok (.isub, 1) := by decide +kernel
theorem dX12_passesMinute_65 : decode cX12_passesMinute 65 = .ok (.aload_n 0, 1) := by decide +kernel
theorem dX12_passesMinute_66 : decode cX12_passesMinute 66 = .ok (.iload_n 3, 1) := by decide +kernel
theorem dX12_passesMinute_67 : decode cX12_passesMinute 67 = .ok (.invokevirtual 397, 3) := by decide +kernel
theorem dX12_passesMinute_70 : decode cX12_passesMinute 70 = .ok (.if_icmp .ge 11, 3) := by decide +kernel
theorem dX12_passesMinute_73 : decode cX12_passesMinute 73 = .ok (.aload_n 0, 1) := by decide +kernel
theorem dX12_passesMinute_74 : decode cX12_passesMinute 74 = .ok (.iload_n 1, 1) := by decide +kernel
theorem dX12_passesMinute_75 : decode cX12_passesMinute 75 = .ok (.invokevirtual 425, 3) := by decide +kernel
theorem dX12_passesMinute_78 : decode cX12_passesMinute 78 = .ok (.ifCond .ne 19, 3) := by decide +kernel
theorem dX12_passesMinute_81 : decode cX12_passesMinute 81 = .ok (.aload_n 0, 1) := by decide +kernel
theorem dX12_passesMinute_82 : decode cX12_passesMinute 82 = .ok (.getfield 135, 3) := by decide +kernel
theorem dX12_passesMinute_85 : decode cX12_passesMinute 85 = .ok (.iload_n 3, 1) := by decide +kernel
theorem dX12_passesMinute_86 : decode cX12_passesMinute 86 = .ok (.iconst 3, 1) := by decide +kernel
theorem dX12_passesMinute_87 : decode cX12_passesMinute 87 = .ok (.iastore, 1) := by decide +kernel
theorem dX12_passesMinute_88 : decode cX12_passesMinute 88 = .ok (.aload_n 0, 1) := by decide +kernel
theorem dX12_passesMinute_89 : decode cX12_passesMinute 89 = .ok (.getfield 141, 3) := by decide +kernel
theorem dX12_passesMinute_92 : decode cX12_passesMinute 92 = .ok (.iload_n 3, 1) := by decide +kernel
theorem dX12_passesMinute_93 : decode cX12_passesMinute 93 = .ok (.iload_n 1, 1) := by decide +kernel
theorem dX12_passesMinute_94 : decode cX12_passesMinute 94 = .ok (.iastore, 1) := by decide +kernel
theorem dX12_passesMinute_95 : decode cX12_passesMinute 95 = .ok (.iconst (-1), 1) := by decide +kernel
theorem dX12_passesMinute_96 : decode cX12_passesMinute 96 = .ok (.istore_n 3, 1) := by decide +kernel
theorem dX12_passesMinute_97 : decode cX12_passesMinute 97 = .ok (.iconst 0, 1) := by decide +kernel
theorem dX12_passesMinute_98 : decode cX12_passesMinute 98 = .ok (.istore 4, 2) := by decide +kernel
theorem dX12_passesMinute_100 : decode cX12_passesMinute 100 = .ok (.iload 4, 2) := by decide +kernel
theorem dX12_passesMinute_102 : decode cX12_passesMinute 102 = .ok (.aload_n 0, 1) := by decide +kernel
theorem dX12_passesMinute_103 : decode cX12_passesMinute 103 = .ok (.getfield 13, 3) := by decide +kernel
theorem dX12_passesMinute_106 : decode cX12_passesMinute 106 = .ok (.iconst 1, 1) := by decide +kernel
theorem dX12_passesMinute_107 : decode cX12_passesMinute 107 = .ok (.iaload, 1) := by decide +kernel
theorem dX12_passesMinute_108 : decode cX12_passesMinute 108 = .ok (.if_icmp .ge 46, 3) := by decide +kernel
theorem dX12_passesMinute_111 : decode cX12_passesMinute 111 = .ok (.aload_n 0, 1) := by decide +kernel
theorem dX12_passesMinute_112 : decode cX12_passesMinute 112 = .ok (.getfield 135, 3) := by decide +kernel
theorem dX12_passesMinute_115 : decode cX12_passesMinute 115 = .ok (.iload 4, 2) := by decide +kernel
theorem dX12_passesMinute_117 : decode cX12_passesMinute 117 = .ok (.iaload, 1) := by decide +kernel
theorem dX12_passesMinute_118 : decode cX12_passesMinute 118 = .ok (.iconst 1, 1) := by decide +kernel
theorem dX12_passesMinute_119 : decode cX12_passesMinute 119 = .ok (.if_icmp .ne 29, 3) := by decide +kernel
theorem dX12_passesMinute_122 : decode cX12_passesMinute 122 = .ok (.iload_n 1, 1) := by decide +kernel
theorem dX12_passesMinute_123 : decode cX12_passesMinute 123 = .ok (.aload_n 0, 1) := by decide +kernel
theorem dX12_passesMinute_124 : decode cX12_passesMinute 124 = .ok (.getfield 132, 3) := by decide +kernel
theorem dX12_passesMinute_127 : decode cX12_passesMinute 127 = .ok (.iload 4, 2) := by decide +kernel
theorem dX12_passesMinute_129 : decode cX12_passesMinute 129 = .ok (.iaload, 1) := by decide +kernel
theorem dX12_passesMinute_130 : decode cX12_passesMinute 130 = .ok (.isub, 1) := by decide +kernel
theorem dX12_passesMinute_131 : decode cX12_passesMinute 131 = .ok (.aload_n 0, 1) := by decide +kernel
theorem dX12_passesMinute_132 : decode cX12_passesMinute 132 = .ok (.getfield 13, 3) := by decide +kernel
theorem dX12_passesMinute_135 : decode cX12_passesMinute 135 = .ok (.iconst 2, 1) := by decide +kernel
theorem dX12_passesMinute_136 : decode cX12_passesMinute 136 = .ok (.iaload, 1) := by decide +kernel
theorem dX12_passesMinute_137 : decode cX12_passesMinute 137 = .ok (.if_icmp .le 11, 3) := by decide +kernel
theorem dX12_passesMinute_140 : decode cX12_passesMinute 140 = .ok (.aload_n 0, 1) := by decide +kernel
