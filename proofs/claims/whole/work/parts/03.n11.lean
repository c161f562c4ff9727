theorem dX12_passesMinute_141 : decode cX12_passesMinute 141 = .ok (.getfield 135, 3) := by decide +kernel
theorem dX12_passesMinute_144 : decode cX12_passesMinute 144 = .ok (.iload 4, 2) := by decide +kernel
theorem dX12_passesMinute_146 : decode cX12_passesMinute 146 = .ok (.iconst 3, 1) := by decide +kernel
theorem dX12_passesMinute_147 : decode cX12_passesMinute 147 = .ok (.iastore, 1) := by decide +kernel
theorem dX12_passesMinute_148 : decode cX12_passesMinute 148 = .ok (.iinc 4 1, 3) := by decide +kernel
theorem dX12_passesMinute_151 : decode cX12_passesMinute 151 = .ok (.goto (-51), 3) := by decide +kernel
theorem dX12_passesMinute_154 : decode cX12_passesMinute 154 = .ok (.iload_n 3, 1) := by decide +kernel
theorem dX12_passesMinute_155 : decode cX12_passesMinute 155 = .ok (.ifCond .ge 26, 3) := by decide +kernel
theorem dX12_passesMinute_158 : decode cX12_passesMinute 158 = .ok (.aload_n 0, 1) := by decide +kernel
theorem dX12_passesMinute_159 : decode cX12_passesMinute 159 = .ok (.iload_n 1, 1) := by decide +kernel
theorem dX12_passesMinute_160 : decode cX12_passesMinute 160 = .ok (.invokevirtual 425, 3) := by decide +kernel
theorem dX12_passesMinute_163 : decode cX12_passesMinute 163 = .ok (.ifCond .eq 18, 3) := by decide +kernel
theorem dX12_passesMinute_166 : decode cX12_passesMinute 166 = .ok (.aload_n 0, 1) := by decide +kernel
theorem dX12_passesMinute_167 : decode cX12_passesMinute 167 = .ok (.invokevirtual 428, 3) := by decide +kernel
theorem dX12_passesMinute_170 : decode cX12_passesMinute 170 = .ok (.istore_n 3, 1) := by decide +kernel
theorem dX12_passesMinute_171 : decode cX12_passesMinute 171 = .ok (.iload_n 3, 1) := by decide +kernel
theorem dX12_passesMinute_172 : decode cX12_passesMinute 172 = .ok (.ifCond .lt 9, 3) := by decide +kernel
theorem dX12_passesMinute_175 : decode cX12_passesMinute 175 = .ok (.aload_n 0, 1) := by decide +kernel
theorem dX12_passesMinute_176 : decode cX12_passesMinute 176 = .ok (.iload_n 3, 1) := by decide +kernel
theorem dX12_passesMinute_177 : decode cX12_passesMinute 177 = .ok (.iload_n 1, 1) := by decide +kernel
theorem dX12_passesMinute_178 : decode cX12_passesMinute 178 = .ok (.invokevirtual 431, 3) := by decide +kernel
theorem dX12_passesMinute_181 : decode cX12_passesMinute 181 = .ok (.iload_n 3, 1) := by decide +kernel
theorem dX12_passesMinute_182 : decode cX12_passesMinute 182 = .ok (.ifCond .lt 17, 3) := by decide +kernel
theorem dX12_passesMinute_185 : decode cX12_passesMinute 185 = .ok (.aload_n 0, 1) := by decide +kernel
theorem dX12_passesMinute_186 : decode cX12_passesMinute 186 = .ok (.dup, 1) := by decide +kernel
theorem dX12_passesMinute_187 : decode cX12_passesMinute 187 = .ok (.getfield 434, 3) := by decide +kernel
theorem dX12_passesMinute_190 : decode cX12_passesMinute 190 = .ok (.aload_n 0, 1) := by decide +kernel
theorem dX12_passesMinute_191 : decode cX12_passesMinute 191 = .ok (.iload_n 3, 1) := by decide +kernel
theorem dX12_passesMinute_192 : decode cX12_passesMinute 192 = .ok (.invokevirtual 437, 3) := by decide +kernel
theorem dX12_passesMinute_195 : decode cX12_passesMinute 195 = .ok (.iadd, 1) := by decide +kernel
theorem dX12_passesMinute_196 : decode cX12_passesMinute 196 = .ok (.putfield 434, 3) := by decide +kernel
theorem dX12_passesMinute_199 : decode cX12_passesMinute 199 = .ok (.aload_n 0, 1) := by decide +kernel
theorem dX12_passesMinute_200 : decode cX12_passesMinute 200 = .ok (.getfield 144, 3) := by decide +kernel
theorem dX12_passesMinute_203 : decode cX12_passesMinute 203 = .ok (.iload_n 1, 1) := by decide +kernel
theorem dX12_passesMinute_204 : decode cX12_passesMinute 204 = .ok (.iload_n 3, 1) := by decide +kernel
theorem dX12_passesMinute_205 : decode cX12_passesMinute 205 = .ok (.iastore, 1) := by decide +kernel
theorem dX12_passesMinute_206 : decode cX12_passesMinute 206 = .ok (.iload_n 3, 1) := by decide +kernel
theorem dX12_passesMinute_207 : decode cX12_passesMinute 207 = .ok (.ireturn, 1) := by decide +kernel
set_option maxRecDepth 20000 in
theorem ggX12_passesDay_X12_passesMinute : GoodIn wsX12_passesDay wsX12_passesMinute := goodIn_r _ [11, 12, 13, 14, 3, 4, 5, 1, 15, 16, 17, 18, 10, 19, 20, 21, 6, 22, 23, 24, 25, 26, 27, 28, 29, 30, 31, 32, 33, 34, 35, 36, 37, 38, 39, 40, 41, 42, 43, 44, 45, 46, 47, 48, 2, 49, 50, 51, 52, 53, 54, 55, 56, 57, 58, 59, 60, 61, 62, 63, 64, 65, 66, 67, 68, 69, 70, 71, 72, 73, 74, 75, 76, 77, 78, 79, 80, 81, 82, 83, 84, 85, 86, 87, 88, 89, 90, 91, 92, 93, 94, 95, 96, 97, 98, 99, 100, 101, 102, 103, 104, 105, 106, 107, 108, 109, 110, 111, 112, 113, 114, 115, 116, 117, 118, 119, 120, 121, 122, 123, 124, 125, 126, 127, 128, 129, 130, 131, 132, 133, 134, 135, 136, 137, 138, 139, 140, 141, 142, 143, 144, 145, 146, 147, 148, 149, 150, 151, 152, 153, 154, 155, 156, 157, 158, 159, 160, 161, 162, 163, 164, 165, 166, 167, 168, 169, 170, 171, 172, 173, 174] (by decide +kernel) (by decide +kernel)
set_option maxRecDepth 20000 in
theorem gX12_passesDay_X12_passesMinute : GoodIn wsX12_passesDay (wsV RX12 440 RX12 yX12_passesMinute wsX12_passesMinute) := goodIn_app (goodIn_of _ (by decide +kernel)) ggX12_passesDay_X12_passesMinute
theorem dX12_passesDay_0 : decode cX12_passesDay 0 = .ok (.aload_n 0, 1) := by decide +kernel
theorem dX12_passesDay_1 : decode cX12_passesDay 1 = .ok (.iconst 0, 1) := by decide +kernel
theorem dX12_passesDay_2 : decode cX12_passesDay 2 = .ok (.putfield 434, 3) := by decide +kernel
theorem dX12_passesDay_5 : decode cX12_passesDay 5 = .ok (.aload_n 0, 1) := by decide +kernel
theorem dX12_passesDay_6 : decode cX12_passesDay 6 = .ok (.iconst 0, 1) := by decide +kernel
theorem dX12_passesDay_7 : decode cX12_passesDay 7 = .ok (.putfield 416, 3) := by decide +kernel
theorem dX12_passesDay_10 : decode cX12_passesDay 10 = .ok (.iconst 0, 1) := by decide +kernel
theorem dX12_passesDay_11 : decode cX12_passesDay 11 = .ok (.istore_n 1, 1) := by decide +kernel
theorem dX12_passesDay_12 : decode cX12_passesDay 12 = .ok (.iload_n 1, 1) := by decide +kernel
theorem dX12_passesDay_13 : decode cX12_passesDay 13 = .ok (.bipush 7, 2) := by decide +kernel
theorem dX12_passesDay_15 : decode cX12_passesDay 15 = .ok (.if_icmp .ge 30, 3) := by decide +kernel
theorem dX12_passesDay_18 : decode cX12_passesDay 18 = .ok (.aload_n 0, 1) := by decide +kernel
theorem dX12_passesDay_19 : decode cX12_passesDay 19 = .ok (.getfield 135, 3) := by decide +kernel
theorem dX12_passesDay_22 : decode cX12_passesDay 22 = .ok (.iload_n 1, 1) := by decide +kernel
theorem dX12_passesDay_23 : decode cX12_passesDay 23 = .ok (.iconst 0, 1) := by decide +kernel
theorem dX12_passesDay_24 : decode cX12_passesDay 24 = .ok (.iastore, 1) := by decide +kernel
theorem dX12_passesDay_25 : decode cX12_passesDay 25 = .ok (.aload_n 0, 1) := by decide +kernel
theorem dX12_passesDay_26 : decode cX12_passesDay 26 = .ok (.getfield 138, 3) := by decide +kernel
theorem dX12_passesDay_29 : decode cX12_passesDay 29 = .ok (.iload_n 1, 1) := by decide +kernel
theorem dX12_passesDay_30 : decode cX12_passesDay 30 = .ok (.iconst (-1), 1) := by decide +kernel
theorem dX12_passesDay_31 : decode cX12_passesDay 31 = .ok (.iastore, 1) := by decide +kernel
theorem dX12_passesDay_32 : decode cX12_passesDay 32 = .ok (.aload_n 0, 1) := by decide +kernel
theorem dX12_passesDay_33 : decode cX12_passesDay 33 = .ok (.getfield 141, 3) := by decide +kernel
theorem dX12_passesDay_36 : decode cX12_passesDay 36 = .ok (.iload_n 1, 1) := by decide +kernel
theorem dX12_passesDay_37 : decode cX12_passesDay 37 = .ok (.iconst (-1), 1) := by decide +kernel
theorem dX12_passesDay_38 : decode cX12_passesDay 38 = .ok (.iastore, 1) := by decide +kernel
theorem dX12_passesDay_39 : decode cX12_passesDay 39 = .ok (.iinc 1 1, 3) := by decide +kernel
theorem dX12_passesDay_42 : decode cX12_passesDay 42 = .ok (.goto (-30), 3) := by decide +kernel
theorem dX12_passesDay_45 : decode cX12_passesDay 45 = .ok (.iconst (-1), 1) := by decide +kernel
theorem dX12_passesDay_46 : decode cX12_passesDay 46 = .ok (.istore_n 1, 1) := by decide +kernel
theorem dX12_passesDay_47 : decode cX12_passesDay 47 = .ok (.iconst 0, 1) := by decide +kernel
theorem dX12_passesDay_48 : decode cX12_passesDay 48 = .ok (.istore_n 2, 1) := by decide +kernel
theorem dX12_passesDay_49 : decode cX12_passesDay 49 = .ok (.iload_n 2, 1) := by decide +kernel
theorem dX12_passesDay_50 : decode cX12_passesDay 50 = .ok (.bipush 60, 2) := by decide +kernel
theorem dX12_passesDay_52 : decode cX12_passesDay 52 = .ok (.if_icmp .ge 16, 3) := by decide +kernel
theorem dX12_passesDay_55 : decode cX12_passesDay 55 = .ok (.aload_n 0, 1) := by decide +kernel
theorem dX12_passesDay_56 : decode cX12_passesDay 56 = .ok (.iload_n 2, 1) := by decide +kernel
theorem dX12_passesDay_57 : decode cX12_passesDay 57 = .ok (.iload_n 1, 1) := by decide +kernel
theorem dX12_passesDay_58 : decode cX12_passesDay 58 = .ok (.invokevirtual 440, 3) := by decide +kernel
theorem dX12_passesDay_61 : decode cX12_passesDay 61 = .ok (.istore_n 1, 1) := by decide +kernel
theorem dX12_passesDay_62 : decode cX12_passesDay 62 = .ok (.iinc 2 1, 3) := by decide +kernel
theorem dX12_passesDay_65 : decode cX12_passesDay 65 = .ok (.goto (-16), 3) := by decide +kernel
theorem dX12_passesDay_68 : decode cX12_passesDay 68 = .ok (.iload_n 1, 1) := by decide +kernel
theorem dX12_passesDay_69 : decode cX12_passesDay 69 = .ok (.ifCond .lt 11, 3) := by decide +kernel
theorem dX12_passesDay_72 : decode cX12_passesDay 72 = .ok (.aload_n 0, 1) := by decide +kernel
theorem dX12_passesDay_73 : decode cX12_passesDay 73 = .ok (.getfield 141, 3) := by decide +kernel
theorem dX12_passesDay_76 : decode cX12_passesDay 76 = .ok (.iload_n 1, 1) := by decide +kernel
theorem dX12_passesDay_77 : decode cX12_passesDay 77 = .ok (.bipush 60, 2) := by decide +kernel
theorem dX12_passesDay_79 : decode cX12_passesDay 79 = .ok (.iastore, 1) := by decide +kernel
theorem dX12_passesDay_80 : decode cX12_passesDay 80 = .ok (.aload_n 0, 1) := by decide +kernel
theorem dX12_passesDay_81 : decode cX12_passesDay 81 = .ok (.getfield 114, 3) := by decide +kernel
theorem dX12_passesDay_84 : decode cX12_passesDay 84 = .ok (.iconst 0, 1) := by decide +kernel
theorem dX12_passesDay_85 : decode cX12_passesDay 85 = .ok (.dup2, 1) := by decide +kernel
theorem dX12_passesDay_86 : decode cX12_passesDay 86 = .ok (.iaload, 1) := by decide +kernel
theorem dX12_passesDay_87 : decode cX12_passesDay 87 = .ok (.iconst 1, 1) := by decide +kernel
theorem dX12_passesDay_88 : decode cX12_passesDay 88 = .ok (.iadd, 1) := by decide +kernel
theorem dX12_passesDay_89 : decode cX12_passesDay 89 = .ok (.iastore, 1) := by decide +kernel
theorem dX12_passesDay_90 : decode cX12_passesDay 90 = .ok (.aload_n 0, 1) := by decide +kernel
theorem dX12_passesDay_91 : decode cX12_passesDay 91 = .ok (.getfield 434, 3) := by decide +kernel
theorem dX12_passesDay_94 : decode cX12_passesDay 94 = .ok (.ireturn, 1) := by decide +kernel
set_option maxRecDepth 20000 in
theorem ggX12_passes_X12_passesDay : GoodIn wsX12_passes wsX12_passesDay := goodIn_r _ [7, 8, 9, 10, 11, 12, 13, 14, 15, 16, 6, 17, 18, 1, 19, 20, 21, 22, 23, 24, 25, 26, 27, 28, 29, 30, 31, 32, 33, 34, 35, 36, 37, 38, 39, 40, 41, 42, 43, 44, 45, 46, 47, 48, 49, 50, 51, 52, 53, 54, 55, 56, 57, 58, 59, 60, 61, 62, 63, 64, 65, 66, 67, 68, 69, 70, 71, 72, 73, 74, 75, 76, 77, 78, 79, 80, 81, 82, 83, 84, 85, 86, 87, 88, 89, 90, 91, 92, 93, 94, 95, 96, 97, 98, 99, 100, 101, 102, 103, 104, 105, 106, 107, 108, 109, 110, 111, 112, 113, 114, 115, 116, 117, 118, 119, 120, 121, 122, 123, 124, 125, 126, 127, 128, 129, 130, 131, 132, 133, 134, 135, 136, 137, 138, 139, 140, 141, 142, 143, 144, 145, 146, 147, 148, 149, 150, 151, 152, 153, 154, 155, 156, 157, 158, 159, 160, 161, 162, 163, 164, 165, 166, 167, 168, 169, 170, 171, 172, 173, 174, 175, 176, 177, 178, 179] (by decide +kernel) (by decide +kernel)
set_option maxRecDepth 20000 in
theorem gX12_passes_X12_passesDay : GoodIn wsX12_passes (wsV RX12 443 RX12 yX12_passesDay wsX12_passesDay) := goodIn_app (goodIn_of _ (by decide +kernel)) ggX12_passes_X12_passesDay
theorem dX12_passes_0 : decode cX12_passes 0 = .ok (.iconst 0, 1) := by decide +kernel
theorem dX12_passes_1 : decode cX12_passes 1 = .ok (.istore_n 1, 1) := by decide +kernel
theorem dX12_passes_2 : decode cX12_passes 2 = .ok (.iload_n 1, 1) := by decide +kernel
theorem dX12_passes_3 : decode cX12_passes 3 = .ok (.bipush 7, 2) := by decide +kernel
theorem dX12_passes_5 : decode cX12_passes 5 = .ok (.if_icmp .ge 21, 3) := by decide +kernel
theorem dX12_passes_8 : decode cX12_passes 8 = .ok (.aload_n 0, 1) := by decide +kernel
theorem dX12_passes_9 : decode cX12_passes 9 = .ok (.getfield 132, 3) := by decide +kernel
theorem dX12_passes_12 : decode cX12_passes 12 = .ok (.iload_n 1, 1) := by decide +kernel
theorem dX12_passes_13 : decode cX12_passes 13 = .ok (.aload_n 0, 1) := by decide +kernel
theorem dX12_passes_14 : decode cX12_passes 14 = .ok (.getfield 44, 3) := by decide +kernel
theorem dX12_passes_17 : decode cX12_passes 17 = .ok (.iload_n 1, 1) := by decide +kernel
theorem dX12_passes_18 : decode cX12_passes 18 = .ok (.iaload, 1) := by decide +kernel
theorem dX12_passes_19 : decode cX12_passes 19 = .ok (.iastore, 1) := by decide +kernel
theorem dX12_passes_20 : decode cX12_passes 20 = .ok (.iinc 1 1, 3) := by decide +kernel
theorem dX12_passes_23 : decode cX12_passes 23 = .ok (.goto (-21), 3) := by decide +kernel
theorem dX12_passes_26 : decode cX12_passes 26 = .ok (.aload_n 0, 1) := by decide +kernel
theorem dX12_passes_27 : decode cX12_passes 27 = .ok (.invokevirtual 443, 3) := by decide +kernel
theorem dX12_passes_30 : decode cX12_passes 30 = .ok (.ireturn, 1) := by decide +kernel
set_option maxRecDepth 20000 in
theorem ggX12_tries_X12_copies : GoodIn wsX12_tries wsX12_copies := goodIn_r _ [6] (by decide +kernel) (by decide +kernel)
set_option maxRecDepth 20000 in
theorem gX12_tries_X12_copies : GoodIn wsX12_tries (va_wsS RX12 446 yX12_copies wsX12_copies) := goodIn_app (goodIn_of _ (by decide +kernel)) ggX12_tries_X12_copies
set_option maxRecDepth 20000 in
theorem ggX12_tries_X12_passes : GoodIn wsX12_tries wsX12_passes := goodIn_r _ [10, 11, 12, 13, 14, 15, 5, 16, 17, 18, 19, 20, 21, 1, 22, 23, 24, 25, 26, 27, 28, 29, 30, 31, 32, 33, 34, 35, 36, 37, 38, 39, 40, 41, 42, 43, 44, 45, 46, 47, 48, 49, 50, 51, 52, 53, 54, 55, 56, 57, 58, 59, 60, 61, 62, 63, 64, 65, 66, 67, 68, 69, 70, 71, 72, 73, 74, 75, 76, 77, 78, 79, 80, 81, 82, 83, 84, 85, 86, 87, 88, 89, 90, 91, 92, 93, 94, 95, 96, 97, 98, 99, 100, 101, 102, 103, 104, 105, 106, 107, 108, 109, 110, 111, 112, 113, 114, 115, 116, 117, 118, 119, 120, 121, 122, 123, 124, 125, 126, 127, 128, 129, 130, 131, 132, 133, 134, 135, 136, 137, 138, 139, 140, 141, 142, 143, 144, 145, 146, 147, 148, 149, 150, 151, 152, 153, 154, 155, 156, 157, 158, 159, 160, 161, 162, 163, 164, 165, 166, 167, 168, 169, 170, 171, 172, 173, 174, 175, 176, 177, 178, 179, 180, 181, 182, 183, 184, 185, 186, 187] (by decide +kernel) (by decide +kernel)
set_option maxRecDepth 20000 in
theorem gX12_tries_X12_passes : GoodIn wsX12_tries (wsV RX12 450 RX12 yX12_passes wsX12_passes) := goodIn_app (goodIn_of _ (by decide +kernel)) ggX12_tries_X12_passes
theorem dX12_tries_0 : decode cX12_tries 0 = .ok (.aload_n 0, 1) := by decide +kernel
theorem dX12_tries_1 : decode cX12_tries 1 = .ok (.getfield 114, 3) := by decide +kernel
theorem dX12_tries_4 : decode cX12_tries 4 = .ok (.iconst 0, 1) := by decide +kernel
theorem dX12_tries_5 : decode cX12_tries 5 = .ok (.aload_n 0, 1) := by decide +kernel
theorem dX12_tries_6 : decode cX12_tries 6 = .ok (.getfield 120, 3) := by decide +kernel
theorem dX12_tries_9 : decode cX12_tries 9 = .ok (.iconst 0, 1) := by decide +kernel
theorem dX12_tries_10 : decode cX12_tries 10 = .ok (.invokestatic 446, 3) := by decide +kernel
theorem dX12_tries_13 : decode cX12_tries 13 = .ok (.aload_n 0, 1) := by decide +kernel
theorem dX12_tries_14 : decode cX12_tries 14 = .ok (.invokevirtual 450, 3) := by decide +kernel
theorem dX12_tries_17 : decode cX12_tries 17 = .ok (.istore_n 1, 1) := by decide +kernel
theorem dX12_tries_18 : decode cX12_tries 18 = .ok (.aload_n 0, 1) := by decide +kernel
theorem dX12_tries_19 : decode cX12_tries 19 = .ok (.getfield 120, 3) := by decide +kernel
theorem dX12_tries_22 : decode cX12_tries 22 = .ok (.iconst 0, 1) := by decide +kernel
theorem dX12_tries_23 : decode cX12_tries 23 = .ok (.aload_n 0, 1) := by decide +kernel
theorem dX12_tries_24 : decode cX12_tries 24 = .ok (.getfield 114, 3) := by decide +kernel
theorem dX12_tries_27 : decode cX12_tries 27 = .ok (.iconst 0, 1) := by decide +kernel
theorem dX12_tries_28 : decode cX12_tries 28 = .ok (.invokestatic 446, 3) := by decide +kernel
theorem dX12_tries_31 : decode cX12_tries 31 = .ok (.iload_n 1, 1) := by decide +kernel
theorem dX12_tries_32 : decode cX12_tries 32 = .ok (.ireturn, 1) := by decide +kernel
set_option maxRecDepth 20000 in
theorem ggX12_triesWithout_X12_tries : GoodIn wsX12_triesWithout wsX12_tries := goodIn_r _ [6, 7, 8, 9, 10, 5, 11, 12, 13, 14, 15, 16, 17, 18, 19, 20, 21, 22, 23, 24, 25, 26, 27, 28, 29, 30, 31, 1, 32, 33, 34, 35, 36, 37, 38, 39, 40, 41, 42, 43, 44, 45, 46, 47, 48, 49, 50, 51, 52, 53, 54, 55, 56, 57, 58, 59, 60, 61, 62, 63, 64, 65, 66, 67, 68, 69, 70, 71, 72, 73, 74, 75, 76, 77, 78, 79, 80, 81, 82, 83, 84, 85, 86, 87, 88, 89, 90, 91, 92, 93, 94, 95, 96, 97, 98, 99, 100, 101, 102, 103, 104, 105, 106, 107, 108, 109, 110, 111, 112, 113, 114, 115, 116, 117, 118, 119, 120, 121, 122, 123, 124, 125, 126, 127, 128, 129, 130, 131, 132, 133, 134, 135, 136, 137, 138, 139, 140, 141, 142, 143, 144, 145, 146, 147, 148, 149, 150, 151, 152, 153, 154, 155, 156, 157, 158, 159, 160, 161, 162, 163, 164, 165, 166, 167, 168, 169, 170, 171, 172, 173, 174, 175, 176, 177, 178, 179, 180, 181, 182, 183, 184, 185, 186, 187, 188, 189, 190, 191] (by decide +kernel) (by decide +kernel)
set_option maxRecDepth 20000 in
theorem gX12_triesWithout_X12_tries : GoodIn wsX12_triesWithout (wsV RX12 453 RX12 yX12_tries wsX12_tries) := goodIn_app (goodIn_of _ (by decide +kernel)) ggX12_triesWithout_X12_tries
theorem dX12_triesWithout_0 : decode cX12_triesWithout 0 = .ok (.aload_n 0, 1) := by decide +kernel
theorem dX12_triesWithout_1 : decode cX12_triesWithout 1 = .ok (.iload_n 1, 1) := by decide +kernel
theorem dX12_triesWithout_2 : decode cX12_triesWithout 2 = .ok (.putfield 422, 3) := by decide +kernel
theorem dX12_triesWithout_5 : decode cX12_triesWithout 5 = .ok (.aload_n 0, 1) := by decide +kernel
theorem dX12_triesWithout_6 : decode cX12_triesWithout 6 = .ok (.invokevirtual 453, 3) := by decide +kernel
theorem dX12_triesWithout_9 : decode cX12_triesWithout 9 = .ok (.istore_n 2, 1) := by decide +kernel
theorem dX12_triesWithout_10 : decode cX12_triesWithout 10 = .ok (.aload_n 0, 1) := by decide +kernel
theorem dX12_triesWithout_11 : decode cX12_triesWithout 11 = .ok (.iconst 0, 1) := by decide +kernel
theorem dX12_triesWithout_12 : decode cX12_triesWithout 12 = .ok (.putfield 422, 3) := by decide +kernel
theorem dX12_triesWithout_15 : decode cX12_triesWithout 15 = .ok (.iload_n 2, 1) := by decide +kernel
theorem dX12_triesWithout_16 : decode cX12_triesWithout 16 = .ok (.ireturn, 1) := by decide +kernel
theorem dX12_mends_0 : decode cX12_mends 0 = .ok (.iconst 0, 1) := by decide +kernel
theorem dX12_mends_1 : decode cX12_mends 1 = .ok (.istore_n 1, 1) := by decide +kernel
theorem dX12_mends_2 : decode cX12_mends 2 = .ok (.iconst 5, 1) := by decide +kernel
theorem dX12_mends_3 : decode cX12_mends 3 = .ok (.istore_n 2, 1) := by decide +kernel
theorem dX12_mends_4 : decode cX12_mends 4 = .ok (.iload_n 2, 1) := by decide +kernel
theorem dX12_mends_5 : decode cX12_mends 5 = .ok (.bipush 17, 2) := by decide +kernel
theorem dX12_mends_7 : decode cX12_mends 7 = .ok (.if_icmp .ge 39, 3) := by decide +kernel
theorem dX12_mends_10 : decode cX12_mends 10 = .ok (.aload_n 0, 1) := by decide +kernel
theorem dX12_mends_11 : decode cX12_mends 11 = .ok (.getfield 114, 3) := by decide +kernel
theorem dX12_mends_14 : decode cX12_mends 14 = .ok (.iload_n 2, 1) := by decide +kernel
theorem dX12_mends_15 : decode cX12_mends 15 = .ok (.iaload, 1) := by decide +kernel
theorem dX12_mends_16 : decode cX12_mends 16 = .ok (.bipush 9, 2) := by decide +kernel
theorem dX12_mends_18 : decode cX12_mends 18 = .ok (.if_icmp .ne 6, 3) := by decide +kernel
theorem dX12_mends_21 : decode cX12_mends 21 = .ok (.goto 19, 3) := by decide +kernel
theorem dX12_mends_24 : decode cX12_mends 24 = .ok (.iload_n 1, 1) := by decide +kernel
theorem dX12_mends_25 : decode cX12_mends 25 = .ok (.aload_n 0, 1) := by decide +kernel
theorem dX12_mends_26 : decode cX12_mends 26 = .ok (.getfield 114, 3) := by decide +kernel
theorem dX12_mends_29 : decode cX12_mends 29 = .ok (.iload_n 2, 1) := by decide +kernel
theorem dX12_mends_30 : decode cX12_mends 30 = .ok (.iaload, 1) := by decide +kernel
theorem dX12_mends_31 : decode cX12_mends 31 = .ok (.iadd, 1) := by decide +kernel
theorem dX12_mends_32 : decode cX12_mends 32 = .ok (.istore_n 1, 1) := by decide +kernel
theorem dX12_mends_33 : decode cX12_mends 33 = .ok (.aload_n 0, 1) := by decide +kernel
theorem dX12_mends_34 : decode cX12_mends 34 = .ok (.getfield 114, 3) := by decide +kernel
theorem dX12_mends_37 : decode cX12_mends 37 = .ok (.iload_n 2, 1) := by decide +kernel
theorem dX12_mends_38 : decode cX12_mends 38 = .ok (.iconst 0, 1) := by decide +kernel
theorem dX12_mends_39 : decode cX12_mends 39 = .ok (.iastore, 1) := by decide +kernel
theorem dX12_mends_40 : decode cX12_mends 40 = .ok (.iinc 2 1, 3) := by decide +kernel
theorem dX12_mends_43 : decode cX12_mends 43 = .ok (.goto (-39), 3) := by decide +kernel
theorem dX12_mends_46 : decode cX12_mends 46 = .ok (.aload_n 0, 1) := by decide +kernel
theorem dX12_mends_47 : decode cX12_mends 47 = .ok (.getfield 114, 3) := by decide +kernel
theorem dX12_mends_50 : decode cX12_mends 50 = .ok (.iconst 4, 1) := by decide +kernel
theorem dX12_mends_51 : decode cX12_mends 51 = .ok (.dup2, 1) := by decide +kernel
theorem dX12_mends_52 : decode cX12_mends 52 = .ok (.iaload, 1) := by decide +kernel
theorem dX12_mends_53 : decode cX12_mends 53 = .ok (.aload_n 0, 1) := by decide +kernel
theorem dX12_mends_54 : decode cX12_mends 54 = .ok (.getfield 13, 3) := by decide +kernel
theorem dX12_mends_57 : decode cX12_mends 57 = .ok (.bipush 6, 2) := by decide +kernel
theorem dX12_mends_59 : decode cX12_mends 59 = .ok (.iaload, 1) := by decide +kernel
theorem dX12_mends_60 : decode cX12_mends 60 = .ok (.iadd, 1) := by decide +kernel
theorem dX12_mends_61 : decode cX12_mends 61 = .ok (.iastore, 1) := by decide +kernel
theorem dX12_mends_62 : decode cX12_mends 62 = .ok (.iload_n 1, 1) := by decide +kernel
theorem dX12_mends_63 : decode cX12_mends 63 = .ok (.ireturn, 1) := by decide +kernel
theorem dX12_goneKeys_0 : decode cX12_goneKeys 0 = .ok (.iconst 0, 1) := by decide +kernel
theorem dX12_goneKeys_1 : decode cX12_goneKeys 1 = .ok (.istore_n 1, 1) := by decide +kernel
theorem dX12_goneKeys_2 : decode cX12_goneKeys 2 = .ok (.iconst 0, 1) := by decide +kernel
theorem dX12_goneKeys_3 : decode cX12_goneKeys 3 = .ok (.istore_n 2, 1) := by decide +kernel
theorem dX12_goneKeys_4 : decode cX12_goneKeys 4 = .ok (.iload_n 2, 1) := by decide +kernel
theorem dX12_goneKeys_5 : decode cX12_goneKeys 5 = .ok (.bipush 12, 2) := by decide +kernel
theorem dX12_goneKeys_7 : decode cX12_goneKeys 7 = .ok (.if_icmp .ge 32, 3) := by decide +kernel
theorem dX12_goneKeys_10 : decode cX12_goneKeys 10 = .ok (.iload_n 1, 1) := by decide +kernel
theorem dX12_goneKeys_11 : decode cX12_goneKeys 11 = .ok (.aload_n 0, 1) := by decide +kernel
theorem dX12_goneKeys_12 : decode cX12_goneKeys 12 = .ok (.getfield 114, 3) := by decide +kernel
theorem dX12_goneKeys_15 : decode cX12_goneKeys 15 = .ok (.iconst 5, 1) := by decide +kernel
theorem dX12_goneKeys_16 : decode cX12_goneKeys 16 = .ok (.iload_n 2, 1) := by decide +kernel
theorem dX12_goneKeys_17 : decode cX12_goneKeys 17 = .ok (.iadd, 1) := by decide +kernel
theorem dX12_goneKeys_18 : decode cX12_goneKeys 18 = .ok (.iaload, 1) := by decide +kernel
theorem dX12_goneKeys_19 : decode cX12_goneKeys 19 = .ok (.bipush 9, 2) := by decide +kernel
theorem dX12_goneKeys_21 : decode cX12_goneKeys 21 = .ok (.if_icmp .ne 9, 3) := by decide +kernel
theorem dX12_goneKeys_24 : decode cX12_goneKeys 24 = .ok (.iconst 1, 1) := by decide +kernel
theorem dX12_goneKeys_25 : decode cX12_goneKeys 25 = .ok (.iload_n 2, 1) := by decide +kernel
theorem dX12_goneKeys_26 : decode cX12_goneKeys 26 = .ok (.ishl, 1) := by decide +kernel
theorem dX12_goneKeys_27 : decode cX12_goneKeys 27 = .ok (.goto 4, 3) := by decide +kernel
theorem dX12_goneKeys_30 : decode cX12_goneKeys 30 = .ok (.iconst 0, 1) := by decide +kernel
theorem dX12_goneKeys_31 : decode cX12_goneKeys 31 = .ok (.ior, 1) := by decide +kernel
theorem dX12_goneKeys_32 : decode cX12_goneKeys 32 = .ok (.istore_n 1, 1) := by decide +kernel
theorem dX12_goneKeys_33 : decode cX12_goneKeys 33 = .ok (.iinc 2 1, 3) := by decide +kernel
theorem dX12_goneKeys_36 : decode cX12_goneKeys 36 = .ok (.goto (-32), 3) := by decide +kernel
theorem dX12_goneKeys_39 : decode cX12_goneKeys 39 = .ok (.iload_n 1, 1) := by decide +kernel
theorem dX12_goneKeys_40 : decode cX12_goneKeys 40 = .ok (.ireturn, 1) := by decide +kernel
set_option maxRecDepth 20000 in
theorem ggX12_passer_X12_isPasser : GoodIn wsX12_passer wsX12_isPasser := goodIn_r _ [11, 12, 26, 27, 28, 29, 30, 31, 32, 33, 34, 35, 36, 37, 38, 39, 40, 41, 42, 43, 44, 45, 46, 47, 48, 49, 50, 51, 52, 53, 54, 55, 56, 57, 58, 59, 60, 61, 62, 63, 64, 65, 66, 67, 68, 69, 70, 71, 72, 73, 74, 75, 76, 77, 78, 79, 80, 81, 82, 83, 84, 85, 86, 87, 88, 89, 90, 91, 92] (by decide +kernel) (by decide +kernel)
set_option maxRecDepth 20000 in
theorem gX12_passer_X12_isPasser : GoodIn wsX12_passer (wsV RX12 456 RX12 yX12_isPasser wsX12_isPasser) := goodIn_app (goodIn_of _ (by decide +kernel)) ggX12_passer_X12_isPasser
set_option maxRecDepth 20000 in
theorem ggX12_passer_X12_within : GoodIn wsX12_passer wsX12_within := goodIn_r _ [15] (by decide +kernel) (by decide +kernel)
set_option maxRecDepth 20000 in
theorem gX12_passer_X12_within : GoodIn wsX12_passer (va_wsS RX12 293 yX12_within wsX12_within) := goodIn_app (goodIn_of _ (by decide +kernel)) ggX12_passer_X12_within
set_option maxRecDepth 20000 in
theorem ggX12_passer_X12_minutesOf : GoodIn wsX12_passer wsX12_minutesOf := goodIn_r _ [19, 2, 20, 21, 22, 23, 24, 25, 26, 27, 28, 29, 30, 31, 32, 33, 34, 35, 36, 37, 38, 39, 40, 41, 42, 43, 44, 45, 46, 47, 48, 49, 50, 51, 52, 53, 54, 55, 56, 57, 58, 59, 60, 61, 62, 63, 64, 65, 66, 67, 68, 69, 70, 71, 72, 73, 74, 75, 76, 77, 78, 79, 80, 81, 82, 83, 84, 85, 86, 87, 88, 89, 90, 91, 92] (by decide +kernel) (by decide +kernel)
set_option maxRecDepth 20000 in
theorem gX12_passer_X12_minutesOf : GoodIn wsX12_passer (wsV RX12 397 RX12 yX12_minutesOf wsX12_minutesOf) := goodIn_app (goodIn_of _ (by decide +kernel)) ggX12_passer_X12_minutesOf
theorem dX12_passer_0 : decode cX12_passer 0 = .ok (.aload_n 0, 1) := by decide +kernel
theorem dX12_passer_1 : decode cX12_passer 1 = .ok (.iconst 0, 1) := by decide +kernel
theorem dX12_passer_2 : decode cX12_passer 2 = .ok (.putfield 160, 3) := by decide +kernel
theorem dX12_passer_5 : decode cX12_passer 5 = .ok (.aload_n 0, 1) := by decide +kernel
theorem dX12_passer_6 : decode cX12_passer 6 = .ok (.iload_n 1, 1) := by decide +kernel
theorem dX12_passer_7 : decode cX12_passer 7 = .ok (.invokevirtual 456, 3) := by decide +kernel
theorem dX12_passer_10 : decode cX12_passer 10 = .ok (.ifCond .eq 12, 3) := by decide +kernel
theorem dX12_passer_13 : decode cX12_passer 13 = .ok (.iload_n 2, 1) := by decide +kernel
theorem dX12_passer_14 : decode cX12_passer 14 = .ok (.iconst 0, 1) := by decide +kernel
theorem dX12_passer_15 : decode cX12_passer 15 = .ok (.iconst 5, 1) := by decide +kernel
theorem dX12_passer_16 : decode cX12_passer 16 = .ok (.invokestatic 293, 3) := by decide +kernel
theorem dX12_passer_19 : decode cX12_passer 19 = .ok (.ifCond .ne 5, 3) := by decide +kernel
theorem dX12_passer_22 : decode cX12_passer 22 = .ok (.iconst (-1), 1) := by decide +kernel
theorem dX12_passer_23 : decode cX12_passer 23 = .ok (.ireturn, 1) := by decide +kernel
theorem dX12_passer_24 : decode cX12_passer 24 = .ok (.iload_n 2, 1) := by decide +kernel
theorem dX12_passer_25 : decode cX12_passer 25 = .ok (.iconst 2, 1) := by decide +kernel
theorem dX12_passer_26 : decode cX12_passer 26 = .ok (.if_icmp .ge 23, 3) := by decide +kernel
theorem dX12_passer_29 : decode cX12_passer 29 = .ok (.iload_n 2, 1) := by decide +kernel
theorem dX12_passer_30 : decode cX12_passer 30 = .ok (.ifCond .ne 12, 3) := by decide +kernel
theorem dX12_passer_33 : decode cX12_passer 33 = .ok (.aload_n 0, 1) := by decide +kernel
theorem dX12_passer_34 : decode cX12_passer 34 = .ok (.getfield 29, 3) := by decide +kernel
theorem dX12_passer_37 : decode cX12_passer 37 = .ok (.iload_n 1, 1) := by decide +kernel
theorem dX12_passer_38 : decode cX12_passer 38 = .ok (.iaload, 1) := by decide +kernel
theorem dX12_passer_39 : decode cX12_passer 39 = .ok (.goto 9, 3) := by decide +kernel
theorem dX12_passer_42 : decode cX12_passer 42 = .ok (.aload_n 0, 1) := by decide +kernel
theorem dX12_passer_43 : decode cX12_passer 43 = .ok (.getfield 32, 3) := by decide +kernel
theorem dX12_passer_46 : decode cX12_passer 46 = .ok (.iload_n 1, 1) := by decide +kernel
theorem dX12_passer_47 : decode cX12_passer 47 = .ok (.iaload, 1) := by decide +kernel
theorem dX12_passer_48 : decode cX12_passer 48 = .ok (.ireturn, 1) := by decide +kernel
theorem dX12_passer_49 : decode cX12_passer 49 = .ok (.iload_n 2, 1) := by decide +kernel
theorem dX12_passer_50 : decode cX12_passer 50 = .ok (.iconst 4, 1) := by decide +kernel
theorem dX12_passer_51 : decode cX12_passer 51 = .ok (.if_icmp .ge 24, 3) := by decide +kernel
theorem dX12_passer_54 : decode cX12_passer 54 = .ok (.iload_n 2, 1) := by decide +kernel
theorem dX12_passer_55 : decode cX12_passer 55 = .ok (.iconst 2, 1) := by decide +kernel
theorem dX12_passer_56 : decode cX12_passer 56 = .ok (.if_icmp .ne 12, 3) := by decide +kernel
theorem dX12_passer_59 : decode cX12_passer 59 = .ok (.aload_n 0, 1) := by decide +kernel
theorem dX12_passer_60 : decode cX12_passer 60 = .ok (.getfield 35, 3) := by decide +kernel
theorem dX12_passer_63 : decode cX12_passer 63 = .ok (.iload_n 1, 1) := by decide +kernel
theorem dX12_passer_64 : decode cX12_passer 64 = .ok (.iaload, 1) := by decide +kernel
theorem dX12_passer_65 : decode cX12_passer 65 = .ok (.goto 9, 3) := by decide +kernel
theorem dX12_passer_68 : decode cX12_passer 68 = .ok (.aload_n 0, 1) := by decide +kernel
theorem dX12_passer_69 : decode cX12_passer 69 = .ok (.getfield 38, 3) := by decide +kernel
theorem dX12_passer_72 : decode cX12_passer 72 = .ok (.iload_n 1, 1) := by decide +kernel
theorem dX12_passer_73 : decode cX12_passer 73 = .ok (.iaload, 1) := by decide +kernel
theorem dX12_passer_74 : decode cX12_passer 74 = .ok (.ireturn, 1) := by decide +kernel
theorem dX12_passer_75 : decode cX12_passer 75 = .ok (.iload_n 2, 1) := by decide +kernel
theorem dX12_passer_76 : decode cX12_passer 76 = .ok (.iconst 4, 1) := by decide +kernel
theorem dX12_passer_77 : decode cX12_passer 77 = .ok (.if_icmp .ne 11, 3) := by decide +kernel
theorem dX12_passer_80 : decode cX12_passer 80 = .ok (.aload_n 0, 1) := by decide +kernel
theorem dX12_passer_81 : decode cX12_passer 81 = .ok (.iload_n 1, 1) := by decide +kernel
theorem dX12_passer_82 : decode cX12_passer 82 = .ok (.invokevirtual 397, 3) := by decide +kernel
theorem dX12_passer_85 : decode cX12_passer 85 = .ok (.goto 9, 3) := by decide +kernel
theorem dX12_passer_88 : decode cX12_passer 88 = .ok (.aload_n 0, 1) := by decide +kernel
theorem dX12_passer_89 : decode cX12_passer 89 = .ok (.getfield 44, 3) := by decide +kernel
theorem dX12_passer_92 : decode cX12_passer 92 = .ok (.iload_n 1, 1) := by decide +kernel
theorem dX12_passer_93 : decode cX12_passer 93 = .ok (.iaload, 1) := by decide +kernel
theorem dX12_passer_94 : decode cX12_passer 94 = .ok (.ireturn, 1) := by decide +kernel
theorem dX12_tune_0 : decode cX12_tune 0 = .ok (.aload_n 0, 1) := by decide +kernel
theorem dX12_tune_1 : decode cX12_tune 1 = .ok (.iconst 0, 1) := by decide +kernel
theorem dX12_tune_2 : decode cX12_tune 2 = .ok (.putfield 160, 3) := by decide +kernel
theorem dX12_tune_5 : decode cX12_tune 5 = .ok (.iload_n 1, 1) := by decide +kernel
theorem dX12_tune_6 : decode cX12_tune 6 = .ok (.ifCond .lt 41, 3) := by decide +kernel
theorem dX12_tune_9 : decode cX12_tune 9 = .ok (.iload_n 1, 1) := by decide +kernel
theorem dX12_tune_10 : decode cX12_tune 10 = .ok (.aload_n 0, 1) := by decide +kernel
theorem dX12_tune_11 : decode cX12_tune 11 = .ok (.getfield 13, 3) := by decide +kernel
theorem dX12_tune_14 : decode cX12_tune 14 = .ok (.iconst 0, 1) := by decide +kernel
theorem dX12_tune_15 : decode cX12_tune 15 = .ok (.iaload, 1) := by decide +kernel
theorem dX12_tune_16 : decode cX12_tune 16 = .ok (.if_icmp .ge 31, 3) := by decide +kernel
theorem dX12_tune_19 : decode cX12_tune 19 = .ok (.iload_n 2, 1) := by decide +kernel
theorem dX12_tune_20 : decode cX12_tune 20 = .ok (.ifCond .lt 27, 3) := by decide +kernel
theorem dX12_tune_23 : decode cX12_tune 23 = .ok (.iload_n 2, 1) := by decide +kernel
theorem dX12_tune_24 : decode cX12_tune 24 = .ok (.aload_n 0, 1) := by decide +kernel
theorem dX12_tune_25 : decode cX12_tune 25 = .ok (.getfield 26, 3) := by decide +kernel
theorem dX12_tune_28 : decode cX12_tune 28 = .ok (.iload_n 1, 1) := by decide +kernel
theorem dX12_tune_29 : decode cX12_tune 29 = .ok (.iaload, 1) := by decide +kernel
theorem dX12_tune_30 : decode cX12_tune 30 = .ok (.if_icmp .ge 17, 3) := by decide +kernel
theorem dX12_tune_33 : decode cX12_tune 33 = .ok (.aload_n 0, 1) := by decide +kernel
theorem dX12_tune_34 : decode cX12_tune 34 = .ok (.getfield 23, 3) := by decide +kernel
theorem dX12_tune_37 : decode cX12_tune 37 = .ok (.bipush 9, 2) := by decide +kernel
theorem dX12_tune_39 : decode cX12_tune 39 = .ok (.iload_n 1, 1) := by decide +kernel
theorem dX12_tune_40 : decode cX12_tune 40 = .ok (.imul, 1) := by decide +kernel
theorem dX12_tune_41 : decode cX12_tune 41 = .ok (.iload_n 2, 1) := by decide +kernel
theorem dX12_tune_42 : decode cX12_tune 42 = .ok (.iadd, 1) := by decide +kernel
theorem dX12_tune_43 : decode cX12_tune 43 = .ok (.iaload, 1) := by decide +kernel
theorem dX12_tune_44 : decode cX12_tune 44 = .ok (.goto 4, 3) := by decide +kernel
theorem dX12_tune_47 : decode cX12_tune 47 = .ok (.iconst (-1), 1) := by decide +kernel
theorem dX12_tune_48 : decode cX12_tune 48 = .ok (.ireturn, 1) := by decide +kernel
set_option maxRecDepth 20000 in
theorem ggX12_key_X12_isKey : GoodIn wsX12_key wsX12_isKey := goodIn_r _ [7] (by decide +kernel) (by decide +kernel)
set_option maxRecDepth 20000 in
theorem gX12_key_X12_isKey : GoodIn wsX12_key (wsV RX12 459 RX12 yX12_isKey wsX12_isKey) := goodIn_app (goodIn_of _ (by decide +kernel)) ggX12_key_X12_isKey
theorem dX12_key_0 : decode cX12_key 0 = .ok (.aload_n 0, 1) := by decide +kernel
theorem dX12_key_1 : decode cX12_key 1 = .ok (.iconst 0, 1) := by decide +kernel
theorem dX12_key_2 : decode cX12_key 2 = .ok (.putfield 160, 3) := by decide +kernel
theorem dX12_key_5 : decode cX12_key 5 = .ok (.aload_n 0, 1) := by decide +kernel
theorem dX12_key_6 : decode cX12_key 6 = .ok (.iload_n 1, 1) := by decide +kernel
theorem dX12_key_7 : decode cX12_key 7 = .ok (.invokevirtual 459, 3) := by decide +kernel
theorem dX12_key_10 : decode cX12_key 10 = .ok (.ifCond .eq 14, 3) := by decide +kernel
theorem dX12_key_13 : decode cX12_key 13 = .ok (.aload_n 0, 1) := by decide +kernel
theorem dX12_key_14 : decode cX12_key 14 = .ok (.getfield 114, 3) := by decide +kernel
theorem dX12_key_17 : decode cX12_key 17 = .ok (.iconst 5, 1) := by decide +kernel
theorem dX12_key_18 : decode cX12_key 18 = .ok (.iload_n 1, 1) := by decide +kernel
theorem dX12_key_19 : decode cX12_key 19 = .ok (.iadd, 1) := by decide +kernel
theorem dX12_key_20 : decode cX12_key 20 = .ok (.iaload, 1) := by decide +kernel
theorem dX12_key_21 : decode cX12_key 21 = .ok (.goto 4, 3) := by decide +kernel
theorem dX12_key_24 : decode cX12_key 24 = .ok (.iconst (-1), 1) := by decide +kernel
theorem dX12_key_25 : decode cX12_key 25 = .ok (.ireturn, 1) := by decide +kernel
set_option maxRecDepth 20000 in
theorem ggX12_begins_X12_isPasser : GoodIn wsX12_begins wsX12_isPasser := goodIn_r _ [7, 8, 130, 131, 132, 133, 134, 135, 136, 137, 138, 139, 140, 141, 142, 143, 144, 145, 146, 147, 148, 149, 150, 151, 152, 153, 154, 155, 156, 157, 158, 159, 160, 161, 162, 163, 164, 165, 166, 167, 168, 169, 170, 171, 172, 173, 174, 175, 176, 177, 178, 179, 180, 181, 182, 183, 184, 185, 186, 187, 188, 189, 190, 191, 192, 193, 194, 195, 196] (by decide +kernel) (by decide +kernel)
set_option maxRecDepth 20000 in
theorem gX12_begins_X12_isPasser : GoodIn wsX12_begins (wsV RX12 456 RX12 yX12_isPasser wsX12_isPasser) := goodIn_app (goodIn_of _ (by decide +kernel)) ggX12_begins_X12_isPasser
set_option maxRecDepth 20000 in
theorem ggX12_begins_X12_tries : GoodIn wsX12_begins wsX12_tries := goodIn_r _ [12, 13, 14, 15, 16, 6, 17, 18, 19, 20, 21, 22, 23, 24, 25, 26, 27, 28, 29, 30, 2, 31, 32, 33, 34, 35, 8, 36, 37, 38, 39, 40, 41, 42, 43, 44, 45, 46, 47, 48, 49, 50, 51, 52, 53, 54, 55, 56, 57, 58, 59, 60, 61, 62, 63, 64, 65, 66, 67, 68, 69, 70, 71, 72, 73, 74, 75, 76, 77, 78, 79, 80, 81, 82, 83, 84, 85, 86, 87, 88, 89, 90, 91, 92, 93, 94, 95, 96, 97, 98, 99, 100, 101, 102, 103, 104, 105, 106, 107, 108, 109, 110, 111, 112, 113, 114, 115, 116, 117, 118, 119, 120, 121, 122, 123, 124, 125, 126, 127, 128, 129, 130, 131, 132, 133, 134, 135, 136, 137, 138, 139, 140, 141, 142, 143, 144, 145, 146, 147, 148, 149, 150, 151, 152, 153, 154, 155, 156, 157, 158, 159, 160, 161, 162, 163, 164, 165, 166, 167, 168, 169, 170, 171, 172, 173, 174, 175, 176, 177, 178, 179, 180, 181, 182, 183, 184, 185, 186, 187, 188, 189, 190, 191, 192, 193, 194, 195, 196] (by decide +kernel) (by decide +kernel)
set_option maxRecDepth 20000 in
theorem gX12_begins_X12_tries : GoodIn wsX12_begins (wsV RX12 453 RX12 yX12_tries wsX12_tries) := goodIn_app (goodIn_of _ (by decide +kernel)) ggX12_begins_X12_tries
theorem dX12_begins_0 : decode cX12_begins 0 = .ok (.aload_n 0, 1) := by decide +kernel
theorem dX12_begins_1 : decode cX12_begins 1 = .ok (.iconst 0, 1) := by decide +kernel
theorem dX12_begins_2 : decode cX12_begins 2 = .ok (.putfield 160, 3) := by decide +kernel
theorem dX12_begins_5 : decode cX12_begins 5 = .ok (.aload_n 0, 1) := by decide +kernel
theorem dX12_begins_6 : decode cX12_begins 6 = .ok (.iload_n 1, 1) := by decide +kernel
theorem dX12_begins_7 : decode cX12_begins 7 = .ok (.invokevirtual 456, 3) := by decide +kernel
theorem dX12_begins_10 : decode cX12_begins 10 = .ok (.ifCond .ne 5, 3) := by decide +kernel
theorem dX12_begins_13 : decode cX12_begins 13 = .ok (.iconst (-1), 1) := by decide +kernel
theorem dX12_begins_14 : decode cX12_begins 14 = .ok (.ireturn, 1) := by decide +kernel
theorem dX12_begins_15 : decode cX12_begins 15 = .ok (.aload_n 0, 1) := by decide +kernel
theorem dX12_begins_16 : decode cX12_begins 16 = .ok (.invokevirtual 453, 3) := by decide +kernel
theorem dX12_begins_19 : decode cX12_begins 19 = .ok (.pop, 1) := by decide +kernel
theorem dX12_begins_20 : decode cX12_begins 20 = .ok (.aload_n 0, 1) := by decide +kernel
theorem dX12_begins_21 : decode cX12_begins 21 = .ok (.getfield 138, 3) := by decide +kernel
theorem dX12_begins_24 : decode cX12_begins 24 = .ok (.iload_n 1, 1) := by decide +kernel
theorem dX12_begins_25 : decode cX12_begins 25 = .ok (.iaload, 1) := by decide +kernel
theorem dX12_begins_26 : decode cX12_begins 26 = .ok (.ireturn, 1) := by decide +kernel
set_option maxRecDepth 20000 in
theorem ggX12_ends_X12_isPasser : GoodIn wsX12_ends wsX12_isPasser := goodIn_r _ [7, 8, 130, 131, 132, 133, 134, 135, 136, 137, 138, 139, 140, 141, 142, 143, 144, 145, 146, 147, 148, 149, 150, 151, 152, 153, 154, 155, 156, 157, 158, 159, 160, 161, 162, 163, 164, 165, 166, 167, 168, 169, 170, 171, 172, 173, 174, 175, 176, 177, 178, 179, 180, 181, 182, 183, 184, 185, 186, 187, 188, 189, 190, 191, 192, 193, 194, 195, 196] (by decide +kernel) (by decide +kernel)
set_option maxRecDepth 20000 in
theorem gX12_ends_X12_isPasser : GoodIn wsX12_ends (wsV RX12 456 RX12 yX12_isPasser wsX12_isPasser) := goodIn_app (goodIn_of _ (by decide +kernel)) ggX12_ends_X12_isPasser
set_option maxRecDepth 20000 in
theorem ggX12_ends_X12_tries : GoodIn wsX12_ends wsX12_tries := goodIn_r _ [12, 13, 14, 15, 16, 6, 17, 18, 19, 20, 21, 22, 23, 24, 25, 26, 27, 28, 29, 30, 31, 2, 32, 33, 34, 35, 8, 36, 37, 38, 39, 40, 41, 42, 43, 44, 45, 46, 47, 48, 49, 50, 51, 52, 53, 54, 55, 56, 57, 58, 59, 60, 61, 62, 63, 64, 65, 66, 67, 68, 69, 70, 71, 72, 73, 74, 75, 76, 77, 78, 79, 80, 81, 82, 83, 84, 85, 86, 87, 88, 89, 90, 91, 92, 93, 94, 95, 96, 97, 98, 99, 100, 101, 102, 103, 104, 105, 106, 107, 108, 109, 110, 111, 112, 113, 114, 115, 116, 117, 118, 119, 120, 121, 122, 123, 124, 125, 126, 127, 128, 129, 130, 131, 132, 133, 134, 135, 136, 137, 138, 139, 140, 141, 142, 143, 144, 145, 146, 147, 148, 149, 150, 151, 152, 153, 154, 155, 156, 157, 158, 159, 160, 161, 162, 163, 164, 165, 166, 167, 168, 169, 170, 171, 172, 173, 174, 175, 176, 177, 178, 179, 180, 181, 182, 183, 184, 185, 186, 187, 188, 189, 190, 191, 192, 193, 194, 195, 196] (by decide +kernel) (by decide +kernel)
set_option maxRecDepth 20000 in
theorem gX12_ends_X12_tries : GoodIn wsX12_ends (wsV RX12 453 RX12 yX12_tries wsX12_tries) := goodIn_app (goodIn_of _ (by decide +kernel)) ggX12_ends_X12_tries
theorem dX12_ends_0 : decode cX12_ends 0 = .ok (.aload_n 0, 1) := by decide +kernel
theorem dX12_ends_1 : decode cX12_ends 1 = .ok (.iconst 0, 1) := by decide +kernel
theorem dX12_ends_2 : decode cX12_ends 2 = .ok (.putfield 160, 3) := by decide +kernel
theorem dX12_ends_5 : decode cX12_ends 5 = .ok (.aload_n 0, 1) := by decide +kernel
theorem dX12_ends_6 : decode cX12_ends 6 = .ok (.iload_n 1, 1) := by decide +kernel
theorem dX12_ends_7 : decode cX12_ends 7 = .ok (.invokevirtual 456, 3) := by decide +kernel
theorem dX12_ends_10 : decode cX12_ends 10 = .ok (.ifCond .ne 5, 3) := by decide +kernel
theorem dX12_ends_13 : decode cX12_ends 13 = .ok (.iconst (-1), 1) := by decide +kernel
theorem dX12_ends_14 : decode cX12_ends 14 = .ok (.ireturn, 1) := by decide +kernel
theorem dX12_ends_15 : decode cX12_ends 15 = .ok (.aload_n 0, 1) := by decide +kernel
theorem dX12_ends_16 : decode cX12_ends 16 = .ok (.invokevirtual 453, 3) := by decide +kernel
theorem dX12_ends_19 : decode cX12_ends 19 = .ok (.pop, 1) := by decide +kernel
theorem dX12_ends_20 : decode cX12_ends 20 = .ok (.aload_n 0, 1) := by decide +kernel
theorem dX12_ends_21 : decode cX12_ends 21 = .ok (.getfield 141, 3) := by decide +kernel
theorem dX12_ends_24 : decode cX12_ends 24 = .ok (.iload_n 1, 1) := by decide +kernel
theorem dX12_ends_25 : decode cX12_ends 25 = .ok (.iaload, 1) := by decide +kernel
theorem dX12_ends_26 : decode cX12_ends 26 = .ok (.ireturn, 1) := by decide +kernel
set_option maxRecDepth 20000 in
theorem ggX12_now_X12_within : GoodIn wsX12_now wsX12_within := goodIn_r _ [6] (by decide +kernel) (by decide +kernel)
set_option maxRecDepth 20000 in
theorem gX12_now_X12_within : GoodIn wsX12_now (va_wsS RX12 293 yX12_within wsX12_within) := goodIn_app (goodIn_of _ (by decide +kernel)) ggX12_now_X12_within
set_option maxRecDepth 20000 in
theorem ggX12_now_X12_tries : GoodIn wsX12_now wsX12_tries := goodIn_r _ [10, 11, 12, 13, 14, 5, 15, 16, 17, 18, 19, 20, 21, 22, 23, 24, 25, 26, 27, 28, 29, 30, 31, 32, 33, 34, 35, 36, 2, 37, 38, 39, 40, 41, 42, 43, 44, 45, 46, 47, 48, 49, 50, 51, 52, 53, 54, 55, 56, 57, 58, 59, 60, 61, 62, 63, 64, 65, 66, 67, 68, 69, 70, 71, 72, 73, 74, 75, 76, 77, 78, 79, 80, 81, 82, 83, 84, 85, 86, 87, 88, 89, 90, 91, 92, 93, 94, 95, 96, 97, 98, 99, 100, 101, 102, 103, 104, 105, 106, 107, 108, 109, 110, 111, 112, 113, 114, 115, 116, 117, 118, 119, 120, 121, 122, 123, 124, 125, 126, 127, 128, 129, 130, 131, 132, 133, 134, 135, 136, 137, 138, 139, 140, 141, 142, 143, 144, 145, 146, 147, 148, 149, 150, 151, 152, 153, 154, 155, 156, 157, 158, 159, 160, 161, 162, 163, 164, 165, 166, 167, 168, 169, 170, 171, 172, 173, 174, 175, 176, 177, 178, 179, 180, 181, 182, 183, 184, 185, 186, 187, 188, 189, 190, 191, 192, 193, 194, 195] (by decide +kernel) (by decide +kernel)
set_option maxRecDepth 20000 in
theorem gX12_now_X12_tries : GoodIn wsX12_now (wsV RX12 453 RX12 yX12_tries wsX12_tries) := goodIn_app (goodIn_of _ (by decide +kernel)) ggX12_now_X12_tries
theorem dX12_now_0 : decode cX12_now 0 = .ok (.aload_n 0, 1) := by decide +kernel
theorem dX12_now_1 : decode cX12_now 1 = .ok (.iconst 0, 1) := by decide +kernel
theorem dX12_now_2 : decode cX12_now 2 = .ok (.putfield 160, 3) := by decide +kernel
theorem dX12_now_5 : decode cX12_now 5 = .ok (.iload_n 1, 1) := by decide +kernel
theorem dX12_now_6 : decode cX12_now 6 = .ok (.iconst 0, 1) := by decide +kernel
theorem dX12_now_7 : decode cX12_now 7 = .ok (.bipush 59, 2) := by decide +kernel
theorem dX12_now_9 : decode cX12_now 9 = .ok (.invokestatic 293, 3) := by decide +kernel
theorem dX12_now_12 : decode cX12_now 12 = .ok (.ifCond .ne 5, 3) := by decide +kernel
theorem dX12_now_15 : decode cX12_now 15 = .ok (.iconst (-1), 1) := by decide +kernel
theorem dX12_now_16 : decode cX12_now 16 = .ok (.ireturn, 1) := by decide +kernel
theorem dX12_now_17 : decode cX12_now 17 = .ok (.aload_n 0, 1) := by decide +kernel
theorem dX12_now_18 : decode cX12_now 18 = .ok (.invokevirtual 453, 3) := by decide +kernel
theorem dX12_now_21 : decode cX12_now 21 = .ok (.pop, 1) := by decide +kernel
theorem dX12_now_22 : decode cX12_now 22 = .ok (.aload_n 0, 1) := by decide +kernel
theorem dX12_now_23 : decode cX12_now 23 = .ok (.getfield 144, 3) := by decide +kernel
theorem dX12_now_26 : decode cX12_now 26 = .ok (.iload_n 1, 1) := by decide +kernel
theorem dX12_now_27 : decode cX12_now 27 = .ok (.iaload, 1) := by decide +kernel
theorem dX12_now_28 : decode cX12_now 28 = .ok (.ireturn, 1) := by decide +kernel
set_option maxRecDepth 20000 in
theorem ggX12_away_X12_tries : GoodIn wsX12_away wsX12_tries := goodIn_r _ [8, 9, 10, 11, 12, 7, 13, 14, 15, 16, 17, 18, 19, 20, 21, 22, 23, 24, 25, 26, 3, 27, 28, 29, 30, 31, 2, 32, 33, 34, 35, 36, 37, 38, 39, 40, 41, 42, 43, 44, 45, 46, 47, 48, 49, 50, 51, 52, 53, 54, 55, 56, 57, 58, 59, 60, 61, 62, 63, 64, 65, 66, 67, 68, 69, 70, 71, 72, 73, 74, 75, 76, 77, 78, 79, 80, 81, 82, 83, 84, 85, 86, 87, 88, 89, 90, 91, 92, 93, 94, 95, 96, 97, 98, 99, 100, 101, 102, 103, 104, 105, 106, 107, 108, 109, 110, 111, 112, 113, 114, 115, 116, 117, 118, 119, 120, 121, 122, 123, 124, 125, 126, 127, 128, 129, 130, 131, 132, 133, 134, 135, 136, 137, 138, 139, 140, 141, 142, 143, 144, 145, 146, 147, 148, 149, 150, 151, 152, 153, 154, 155, 156, 157, 158, 159, 160, 161, 162, 163, 164, 165, 166, 167, 168, 169, 170, 171, 172, 173, 174, 175, 176, 177, 178, 179, 180, 181, 182, 183, 184, 185, 186, 187, 188, 189, 190, 191, 192] (by decide +kernel) (by decide +kernel)
set_option maxRecDepth 20000 in
theorem gX12_away_X12_tries : GoodIn wsX12_away (wsV RX12 453 RX12 yX12_tries wsX12_tries) := goodIn_app (goodIn_of _ (by decide +kernel)) ggX12_away_X12_tries
theorem dX12_away_0 : decode cX12_away 0 = .ok (.aload_n 0, 1) := by decide +kernel
theorem dX12_away_1 : decode cX12_away 1 = .ok (.iconst 0, 1) := by decide +kernel
theorem dX12_away_2 : decode cX12_away 2 = .ok (.putfield 160, 3) := by decide +kernel
theorem dX12_away_5 : decode cX12_away 5 = .ok (.aload_n 0, 1) := by decide +kernel
theorem dX12_away_6 : decode cX12_away 6 = .ok (.invokevirtual 453, 3) := by decide +kernel
theorem dX12_away_9 : decode cX12_away 9 = .ok (.pop, 1) := by decide +kernel
theorem dX12_away_10 : decode cX12_away 10 = .ok (.iconst 0, 1) := by decide +kernel
theorem dX12_away_11 : decode cX12_away 11 = .ok (.istore_n 1, 1) := by decide +kernel
theorem dX12_away_12 : decode cX12_away 12 = .ok (.iconst 0, 1) := by decide +kernel
theorem dX12_away_13 : decode cX12_away 13 = .ok (.istore_n 2, 1) := by decide +kernel
theorem dX12_away_14 : decode cX12_away 14 = .ok (.iload_n 2, 1) := by decide +kernel
theorem dX12_away_15 : decode cX12_away 15 = .ok (.aload_n 0, 1) := by decide +kernel
theorem dX12_away_16 : decode cX12_away 16 = .ok (.getfield 13, 3) := by decide +kernel
theorem dX12_away_19 : decode cX12_away 19 = .ok (.iconst 1, 1) := by decide +kernel
theorem dX12_away_20 : decode cX12_away 20 = .ok (.iaload, 1) := by decide +kernel
theorem dX12_away_21 : decode cX12_away 21 = .ok (.if_icmp .ge 28, 3) := by decide +kernel
theorem dX12_away_24 : decode cX12_away 24 = .ok (.iload_n 1, 1) := by decide +kernel
theorem dX12_away_25 : decode cX12_away 25 = .ok (.aload_n 0, 1) := by decide +kernel
theorem dX12_away_26 : decode cX12_away 26 = .ok (.getfield 138, 3) := by decide +kernel
theorem dX12_away_29 : decode cX12_away 29 = .ok (.iload_n 2, 1) := by decide +kernel
theorem dX12_away_30 : decode cX12_away 30 = .ok (.iaload, 1) := by decide +kernel
theorem dX12_away_31 : decode cX12_away 31 = .ok (.ifCond .ge 9, 3) := by decide +kernel
theorem dX12_away_34 : decode cX12_away 34 = .ok (.iconst 1, 1) := by decide +kernel
theorem dX12_away_35 : decode cX12_away 35 = .ok (.iload_n 2, 1) := by decide +kernel
theorem dX12_away_36 : decode cX12_away 36 = .ok (.ishl, 1) := by decide +kernel
theorem dX12_away_37 : decode cX12_away 37 = .ok (.goto 4, 3) := by decide +kernel
theorem dX12_away_40 : decode cX12_away 40 = .ok (.iconst 0, 1) := by decide +kernel
theorem dX12_away_41 : decode cX12_away 41 = .ok (.ior, 1) := by decide +kernel
theorem dX12_away_42 : decode cX12_away 42 = .ok (.istore_n 1, 1) := by decide +kernel
theorem dX12_away_43 : decode cX12_away 43 = .ok (.iinc 2 1, 3) := by decide +kernel
theorem dX12_away_46 : decode cX12_away 46 = .ok (.goto (-32), 3) := by decide +kernel
theorem dX12_away_49 : decode cX12_away 49 = .ok (.iload_n 1, 1) := by decide +kernel
theorem dX12_away_50 : decode cX12_away 50 = .ok (.ireturn, 1) := by decide +kernel
set_option maxRecDepth 20000 in
theorem ggX12_joy_X12_tries : GoodIn wsX12_joy wsX12_tries := goodIn_r _ [6, 7, 8, 9, 10, 5, 11, 12, 13, 14, 15, 16, 17, 18, 19, 20, 21, 22, 23, 24, 25, 26, 27, 28, 29, 30, 31, 32, 33, 34, 35, 36, 37, 38, 39, 40, 41, 42, 43, 44, 45, 46, 47, 48, 49, 50, 51, 52, 53, 54, 55, 56, 57, 58, 59, 60, 61, 62, 63, 64, 65, 66, 67, 68, 69, 70, 71, 72, 73, 74, 75, 76, 77, 78, 79, 80, 81, 82, 83, 84, 85, 86, 87, 88, 89, 90, 91, 92, 93, 94, 95, 96, 97, 98, 99, 100, 101, 102, 103, 104, 105, 106, 107, 108, 109, 110, 111, 112, 113, 114, 115, 116, 117, 118, 119, 120, 121, 122, 123, 124, 125, 126, 127, 128, 129, 130, 131, 132, 133, 134, 135, 136, 137, 138, 139, 140, 141, 142, 143, 144, 145, 146, 147, 148, 149, 150, 151, 152, 153, 154, 155, 156, 157, 158, 159, 160, 161, 162, 163, 164, 165, 166, 167, 168, 169, 170, 171, 172, 173, 174, 175, 176, 177, 178, 179, 180, 181, 182, 183, 184, 185, 186, 187, 188, 189, 190, 191, 192] (by decide +kernel) (by decide +kernel)
set_option maxRecDepth 20000 in
theorem gX12_joy_X12_tries : GoodIn wsX12_joy (wsV RX12 453 RX12 yX12_tries wsX12_tries) := goodIn_app (goodIn_of _ (by decide +kernel)) ggX12_joy_X12_tries
theorem dX12_joy_0 : decode cX12_joy 0 = .ok (.aload_n 0, 1) := by decide +kernel
theorem dX12_joy_1 : decode cX12_joy 1 = .ok (.iconst 0, 1) := by decide +kernel
theorem dX12_joy_2 : decode cX12_joy 2 = .ok (.putfield 160, 3) := by decide +kernel
theorem dX12_joy_5 : decode cX12_joy 5 = .ok (.aload_n 0, 1) := by decide +kernel
theorem dX12_joy_6 : decode cX12_joy 6 = .ok (.invokevirtual 453, 3) := by decide +kernel
theorem dX12_joy_9 : decode cX12_joy 9 = .ok (.ireturn, 1) := by decide +kernel
set_option maxRecDepth 20000 in
theorem ggX12_keeps_X12_copies : GoodIn wsX12_keeps wsX12_copies := goodIn_r _ [7] (by decide +kernel) (by decide +kernel)
set_option maxRecDepth 20000 in
theorem gX12_keeps_X12_copies : GoodIn wsX12_keeps (va_wsS RX12 446 yX12_copies wsX12_copies) := goodIn_app (goodIn_of _ (by decide +kernel)) ggX12_keeps_X12_copies
theorem dX12_keeps_0 : decode cX12_keeps 0 = .ok (.aload_n 0, 1) := by decide +kernel
theorem dX12_keeps_1 : decode cX12_keeps 1 = .ok (.getfield 372, 3) := by decide +kernel
theorem dX12_keeps_4 : decode cX12_keeps 4 = .ok (.bipush 16, 2) := by decide +kernel
theorem dX12_keeps_6 : decode cX12_keeps 6 = .ok (.if_icmp .ne 43, 3) := by decide +kernel
theorem dX12_keeps_9 : decode cX12_keeps 9 = .ok (.iconst 0, 1) := by decide +kernel
theorem dX12_keeps_10 : decode cX12_keeps 10 = .ok (.istore_n 1, 1) := by decide +kernel
theorem dX12_keeps_11 : decode cX12_keeps 11 = .ok (.iload_n 1, 1) := by decide +kernel
theorem dX12_keeps_12 : decode cX12_keeps 12 = .ok (.sipush 255, 3) := by decide +kernel
theorem dX12_keeps_15 : decode cX12_keeps 15 = .ok (.if_icmp .ge 24, 3) := by decide +kernel
theorem dX12_keeps_18 : decode cX12_keeps 18 = .ok (.aload_n 0, 1) := by decide +kernel
theorem dX12_keeps_19 : decode cX12_keeps 19 = .ok (.getfield 126, 3) := by decide +kernel
theorem dX12_keeps_22 : decode cX12_keeps 22 = .ok (.iload_n 1, 1) := by decide +kernel
theorem dX12_keeps_23 : decode cX12_keeps 23 = .ok (.aload_n 0, 1) := by decide +kernel
theorem dX12_keeps_24 : decode cX12_keeps 24 = .ok (.getfield 126, 3) := by decide +kernel
theorem dX12_keeps_27 : decode cX12_keeps 27 = .ok (.iload_n 1, 1) := by decide +kernel
theorem dX12_keeps_28 : decode cX12_keeps 28 = .ok (.bipush 17, 2) := by decide +kernel
theorem dX12_keeps_30 : decode cX12_keeps 30 = .ok (.iadd, 1) := by decide +kernel
theorem dX12_keeps_31 : decode cX12_keeps 31 = .ok (.iaload, 1) := by decide +kernel
theorem dX12_keeps_32 : decode cX12_keeps 32 = .ok (.iastore, 1) := by decide +kernel
theorem dX12_keeps_33 : decode cX12_keeps 33 = .ok (.iinc 1 1, 3) := by decide +kernel
theorem dX12_keeps_36 : decode cX12_keeps 36 = .ok (.goto (-25), 3) := by decide +kernel
theorem dX12_keeps_39 : decode cX12_keeps 39 = .ok (.aload_n 0, 1) := by decide +kernel
theorem dX12_keeps_40 : decode cX12_keeps 40 = .ok (.dup, 1) := by decide +kernel
theorem dX12_keeps_41 : decode cX12_keeps 41 = .ok (.getfield 372, 3) := by decide +kernel
theorem dX12_keeps_44 : decode cX12_keeps 44 = .ok (.iconst 1, 1) := by decide +kernel
theorem dX12_keeps_45 : decode cX12_keeps 45 = .ok (.isub, 1) := by decide +kernel
theorem dX12_keeps_46 : decode cX12_keeps 46 = .ok (.putfield 372, 3) := by decide +kernel
theorem dX12_keeps_49 : decode cX12_keeps 49 = .ok (.aload_n 0, 1) := by decide +kernel
theorem dX12_keeps_50 : decode cX12_keeps 50 = .ok (.getfield 114, 3) := by decide +kernel
theorem dX12_keeps_53 : decode cX12_keeps 53 = .ok (.iconst 0, 1) := by decide +kernel
theorem dX12_keeps_54 : decode cX12_keeps 54 = .ok (.aload_n 0, 1) := by decide +kernel
theorem dX12_keeps_55 : decode cX12_keeps 55 = .ok (.getfield 126, 3) := by decide +kernel
theorem dX12_keeps_58 : decode cX12_keeps 58 = .ok (.bipush 17, 2) := by decide +kernel
theorem dX12_keeps_60 : decode cX12_keeps 60 = .ok (.aload_n 0, 1) := by decide +kernel
theorem dX12_keeps_61 : decode cX12_keeps 61 = .ok (.getfield 372, 3) := by decide +kernel
theorem dX12_keeps_64 : decode cX12_keeps 64 = .ok (.imul, 1) := by decide +kernel
theorem dX12_keeps_65 : decode cX12_keeps 65 = .ok (.invokestatic 446, 3) := by decide +kernel
theorem dX12_keeps_68 : decode cX12_keeps 68 = .ok (.aload_n 0, 1) := by decide +kernel
theorem dX12_keeps_69 : decode cX12_keeps 69 = .ok (.dup, 1) := by decide +kernel
theorem dX12_keeps_70 : decode cX12_keeps 70 = .ok (.getfield 372, 3) := by decide +kernel
theorem dX12_keeps_73 : decode cX12_keeps 73 = .ok (.iconst 1, 1) := by decide +kernel
theorem dX12_keeps_74 : decode cX12_keeps 74 = .ok (.iadd, 1) := by decide +kernel
theorem dX12_keeps_75 : decode cX12_keeps 75 = .ok (.putfield 372, 3) := by decide +kernel
theorem dX12_keeps_78 : decode cX12_keeps 78 = .ok (.return_, 1) := by decide +kernel
set_option maxRecDepth 20000 in
theorem ggX12_day_X12_keeps : GoodIn wsX12_day wsX12_keeps := goodIn_r _ [6, 7, 8, 9, 10, 11, 5, 12, 127, 128, 129, 130, 131, 132, 133, 134, 135, 136, 137, 138, 139, 140, 141, 142, 143, 144, 145, 146, 147, 148, 149, 150, 151, 152, 153, 154, 155, 156, 157, 158, 159, 160, 161, 162, 163, 164, 165, 166, 167, 168, 169, 170, 171, 172, 173, 174, 175, 176, 177, 178, 179, 180, 181, 182, 183, 184, 185, 186, 187, 188, 189, 190, 191, 192, 193] (by decide +kernel) (by decide +kernel)
set_option maxRecDepth 20000 in
theorem gX12_day_X12_keeps : GoodIn wsX12_day (wsV RX12 462 RX12 yX12_keeps wsX12_keeps) := goodIn_app (goodIn_of _ (by decide +kernel)) ggX12_day_X12_keeps
set_option maxRecDepth 20000 in
theorem ggX12_day_X12_passes : GoodIn wsX12_day wsX12_passes := goodIn_r _ [16, 17, 18, 19, 20, 21, 5, 22, 23, 24, 25, 26, 27, 9, 28, 29, 30, 31, 32, 33, 34, 35, 36, 37, 38, 39, 40, 41, 42, 43, 44, 45, 46, 47, 48, 49, 50, 51, 52, 53, 54, 55, 56, 57, 58, 59, 60, 61, 62, 63, 64, 65, 66, 67, 68, 69, 70, 71, 72, 73, 74, 75, 76, 77, 78, 79, 80, 81, 82, 83, 84, 85, 86, 87, 88, 89, 90, 91, 92, 93, 94, 95, 96, 97, 98, 99, 100, 101, 102, 103, 104, 105, 106, 107, 108, 109, 110, 111, 112, 113, 114, 115, 116, 117, 118, 119, 120, 121, 122, 123, 124, 125, 126, 127, 128, 129, 130, 131, 132, 133, 134, 135, 136, 137, 138, 139, 140, 141, 142, 143, 144, 145, 146, 147, 148, 149, 150, 151, 152, 153, 154, 155, 156, 157, 158, 159, 160, 161, 162, 163, 164, 165, 166, 167, 168, 169, 170, 171, 172, 173, 174, 175, 176, 177, 178, 179, 180, 181, 182, 183, 184, 185, 186, 187, 188, 189, 190, 191, 192, 193] (by decide +kernel) (by decide +kernel)
set_option maxRecDepth 20000 in
theorem gX12_day_X12_passes : GoodIn wsX12_day (wsV RX12 450 RX12 yX12_passes wsX12_passes) := goodIn_app (goodIn_of _ (by decide +kernel)) ggX12_day_X12_passes
theorem dX12_day_0 : decode cX12_day 0 = .ok (.aload_n 0, 1) := by decide +kernel
theorem dX12_day_1 : decode cX12_day 1 = .ok (.iconst 0, 1) := by decide +kernel
theorem dX12_day_2 : decode cX12_day 2 = .ok (.putfield 160, 3) := by decide +kernel
theorem dX12_day_5 : decode cX12_day 5 = .ok (.aload_n 0, 1) := by decide +kernel
theorem dX12_day_6 : decode cX12_day 6 = .ok (.invokevirtual 462, 3) := by decide +kernel
theorem dX12_day_9 : decode cX12_day 9 = .ok (.aload_n 0, 1) := by decide +kernel
theorem dX12_day_10 : decode cX12_day 10 = .ok (.invokevirtual 450, 3) := by decide +kernel
theorem dX12_day_13 : decode cX12_day 13 = .ok (.ireturn, 1) := by decide +kernel
set_option maxRecDepth 20000 in
theorem ggX12_mend_X12_keeps : GoodIn wsX12_mend wsX12_keeps := goodIn_r _ [6, 7, 8, 9, 10, 11, 5, 12, 18, 19, 20, 21, 22, 23, 24, 25, 26, 27, 28, 29, 30, 31, 32, 33, 34, 35, 36, 37, 38, 39, 40, 41, 42, 43, 44, 45, 46, 47, 48, 49, 50, 51, 52, 53, 54, 55, 56, 57, 58, 59, 60, 61, 62, 63, 64, 65, 66, 67, 68, 69, 70, 71, 72, 73, 74, 75, 76, 77, 78, 79, 80, 81, 82, 83, 84] (by decide +kernel) (by decide +kernel)
set_option maxRecDepth 20000 in
theorem gX12_mend_X12_keeps : GoodIn wsX12_mend (wsV RX12 462 RX12 yX12_keeps wsX12_keeps) := goodIn_app (goodIn_of _ (by decide +kernel)) ggX12_mend_X12_keeps
set_option maxRecDepth 20000 in
theorem ggX12_mend_X12_mends : GoodIn wsX12_mend wsX12_mends := goodIn_r _ [16, 9, 17, 18, 19, 20, 21, 22, 23, 24, 25, 26, 27, 28, 29, 30, 31, 32, 33, 34, 35, 36, 37, 38, 39, 40, 41, 42, 43, 44, 45, 46, 47, 48, 49, 50, 51, 52, 53, 54, 55, 56, 57, 58, 59, 60, 61, 62, 63, 64, 65, 66, 67, 68, 69, 70, 71, 72, 73, 74, 75, 76, 77, 78, 79, 80, 81, 82, 83, 84] (by decide +kernel) (by decide +kernel)
set_option maxRecDepth 20000 in
theorem gX12_mend_X12_mends : GoodIn wsX12_mend (wsV RX12 465 RX12 yX12_mends wsX12_mends) := goodIn_app (goodIn_of _ (by decide +kernel)) ggX12_mend_X12_mends
theorem dX12_mend_0 : decode cX12_mend 0 = .ok (.aload_n 0, 1) := by decide +kernel
theorem dX12_mend_1 : decode cX12_mend 1 = .ok (.iconst 0, 1) := by decide +kernel
theorem dX12_mend_2 : decode cX12_mend 2 = .ok (.putfield 160, 3) := by decide +kernel
theorem dX12_mend_5 : decode cX12_mend 5 = .ok (.aload_n 0, 1) := by decide +kernel
theorem dX12_mend_6 : decode cX12_mend 6 = .ok (.invokevirtual 462, 3) := by decide +kernel
theorem dX12_mend_9 : decode cX12_mend 9 = .ok (.aload_n 0, 1) := by decide +kernel
theorem dX12_mend_10 : decode cX12_mend 10 = .ok (.invokevirtual 465, 3) := by decide +kernel
theorem dX12_mend_13 : decode cX12_mend 13 = .ok (.ireturn, 1) := by decide +kernel
set_option maxRecDepth 20000 in
theorem ggX12_each_X12_within : GoodIn wsX12_each wsX12_within := goodIn_r _ [6] (by decide +kernel) (by decide +kernel)
set_option maxRecDepth 20000 in
theorem gX12_each_X12_within : GoodIn wsX12_each (va_wsS RX12 293 yX12_within wsX12_within) := goodIn_app (goodIn_of _ (by decide +kernel)) ggX12_each_X12_within
set_option maxRecDepth 20000 in
theorem ggX12_each_X12_keeps : GoodIn wsX12_each wsX12_keeps := goodIn_r _ [10, 11, 12, 2, 13, 14, 5, 15, 16, 17, 18, 19, 20, 21, 22, 23, 24, 25, 26, 27, 28, 29, 30, 31, 32, 33, 34, 35, 36, 37, 38, 39, 40, 41, 42, 43, 44, 45, 46, 47, 48, 49, 50, 51, 52, 53, 54, 55, 56, 57, 58, 59, 60, 61, 62, 63, 64, 65, 66, 67, 68, 69, 70, 71, 72, 73, 74, 75, 76, 77, 78, 79, 80, 81, 82] (by decide +kernel) (by decide +kernel)
set_option maxRecDepth 20000 in
theorem gX12_each_X12_keeps : GoodIn wsX12_each (wsV RX12 462 RX12 yX12_keeps wsX12_keeps) := goodIn_app (goodIn_of _ (by decide +kernel)) ggX12_each_X12_keeps
theorem dX12_each_0 : decode cX12_each 0 = .ok (.aload_n 0, 1) := by decide +kernel
theorem dX12_each_1 : decode cX12_each 1 = .ok (.iconst 0, 1) := by decide +kernel
theorem dX12_each_2 : decode cX12_each 2 = .ok (.putfield 160, 3) := by decide +kernel
theorem dX12_each_5 : decode cX12_each 5 = .ok (.iload_n 1, 1) := by decide +kernel
theorem dX12_each_6 : decode cX12_each 6 = .ok (.iconst 1, 1) := by decide +kernel
theorem dX12_each_7 : decode cX12_each 7 = .ok (.bipush 30, 2) := by decide +kernel
theorem dX12_each_9 : decode cX12_each 9 = .ok (.invokestatic 293, 3) := by decide +kernel
theorem dX12_each_12 : decode cX12_each 12 = .ok (.ifCond .ne 5, 3) := by decide +kernel
theorem dX12_each_15 : decode cX12_each 15 = .ok (.iconst 0, 1) := by decide +kernel
theorem dX12_each_16 : decode cX12_each 16 = .ok (.ireturn, 1) := by decide +kernel
theorem dX12_each_17 : decode cX12_each 17 = .ok (.aload_n 0, 1) := by decide +kernel
theorem dX12_each_18 : decode cX12_each 18 = .ok (.invokevirtual 462, 3) := by decide +kernel
theorem dX12_each_21 : decode cX12_each 21 = .ok (.aload_n 0, 1) := by decide +kernel
theorem dX12_each_22 : decode cX12_each 22 = .ok (.getfield 114, 3) := by decide +kernel
theorem dX12_each_25 : decode cX12_each 25 = .ok (.iconst 1, 1) := by decide +kernel
theorem dX12_each_26 : decode cX12_each 26 = .ok (.iload_n 1, 1) := by decide +kernel
theorem dX12_each_27 : decode cX12_each 27 = .ok (.iastore, 1) := by decide +kernel
theorem dX12_each_28 : decode cX12_each 28 = .ok (.iconst 1, 1) := by decide +kernel
theorem dX12_each_29 : decode cX12_each 29 = .ok (.ireturn, 1) := by decide +kernel
set_option maxRecDepth 20000 in
theorem ggX12_open_X12_within : GoodIn wsX12_open wsX12_within := goodIn_r _ [6] (by decide +kernel) (by decide +kernel)
set_option maxRecDepth 20000 in
theorem gX12_open_X12_within : GoodIn wsX12_open (va_wsS RX12 293 yX12_within wsX12_within) := goodIn_app (goodIn_of _ (by decide +kernel)) ggX12_open_X12_within
set_option maxRecDepth 20000 in
theorem ggX12_open_X12_keeps : GoodIn wsX12_open wsX12_keeps := goodIn_r _ [10, 11, 12, 2, 13, 14, 5, 15, 16, 17, 18, 19, 20, 21, 22, 23, 24, 25, 26, 27, 28, 29, 30, 31, 32, 33, 34, 35, 36, 37, 38, 39, 40, 41, 42, 43, 44, 45, 46, 47, 48, 49, 50, 51, 52, 53, 54, 55, 56, 57, 58, 59, 60, 61, 62, 63, 64, 65, 66, 67, 68, 69, 70, 71, 72, 73, 74, 75, 76, 77, 78, 79, 80, 81, 82] (by decide +kernel) (by decide +kernel)
set_option maxRecDepth 20000 in
theorem gX12_open_X12_keeps : GoodIn wsX12_open (wsV RX12 462 RX12 yX12_keeps wsX12_keeps) := goodIn_app (goodIn_of _ (by decide +kernel)) ggX12_open_X12_keeps
theorem dX12_open_0 : decode cX12_open 0 = .ok (.aload_n 0, 1) := by decide +kernel
theorem dX12_open_1 : decode cX12_open 1 = .ok (.iconst 0, 1) := by decide +kernel
theorem dX12_open_2 : decode cX12_open 2 = .ok (.putfield 160, 3) := by decide +kernel
theorem dX12_open_5 : decode cX12_open 5 = .ok (.iload_n 1, 1) := by decide +kernel
theorem dX12_open_6 : decode cX12_open 6 = .ok (.iconst 0, 1) := by decide +kernel
theorem dX12_open_7 : decode cX12_open 7 = .ok (.bipush 59, 2) := by decide +kernel
theorem dX12_open_9 : decode cX12_open 9 = .ok (.invokestatic 293, 3) := by decide +kernel
theorem dX12_open_12 : decode cX12_open 12 = .ok (.ifCond .eq 14, 3) := by decide +kernel
theorem dX12_open_15 : decode cX12_open 15 = .ok (.iload_n 2, 1) := by decide +kernel
theorem dX12_open_16 : decode cX12_open 16 = .ok (.iload_n 1, 1) := by decide +kernel
theorem dX12_open_17 : decode cX12_open 17 = .ok (.if_icmp .le 9, 3) := by decide +kernel
theorem dX12_open_20 : decode cX12_open 20 = .ok (.iload_n 2, 1) := by decide +kernel
theorem dX12_open_21 : decode cX12_open 21 = .ok (.bipush 60, 2) := by decide +kernel
theorem dX12_open_23 : decode cX12_open 23 = .ok (.if_icmp .le 5, 3) := by decide +kernel
theorem dX12_open_26 : decode cX12_open 26 = .ok (.iconst 0, 1) := by decide +kernel
theorem dX12_open_27 : decode cX12_open 27 = .ok (.ireturn, 1) := by decide +kernel
theorem dX12_open_28 : decode cX12_open 28 = .ok (.aload_n 0, 1) := by decide +kernel
theorem dX12_open_29 : decode cX12_open 29 = .ok (.invokevirtual 462, 3) := by decide +kernel
theorem dX12_open_32 : decode cX12_open 32 = .ok (.aload_n 0, 1) := by decide +kernel
theorem dX12_open_33 : decode cX12_open 33 = .ok (.getfield 114, 3) := by decide +kernel
theorem dX12_open_36 : decode cX12_open 36 = .ok (.iconst 2, 1) := by decide +kernel
theorem dX12_open_37 : decode cX12_open 37 = .ok (.iload_n 1, 1) := by decide +kernel
theorem dX12_open_38 : decode cX12_open 38 = .ok (.iastore, 1) := by decide +kernel
theorem dX12_open_39 : decode cX12_open 39 = .ok (.aload_n 0, 1) := by decide +kernel
theorem dX12_open_40 : decode cX12_open 40 = .ok (.getfield 114, 3) := by decide +kernel
theorem dX12_open_43 : decode cX12_open 43 = .ok (.iconst 3, 1) := by decide +kernel
theorem dX12_open_44 : decode cX12_open 44 = .ok (.iload_n 2, 1) := by decide +kernel
theorem dX12_open_45 : decode cX12_open 45 = .ok (.iastore, 1) := by decide +kernel
theorem dX12_open_46 : decode cX12_open 46 = .ok (.iconst 1, 1) := by decide +kernel
theorem dX12_open_47 : decode cX12_open 47 = .ok (.ireturn, 1) := by decide +kernel
set_option maxRecDepth 20000 in
theorem ggX12_undo_X12_copies : GoodIn wsX12_undo wsX12_copies := goodIn_r _ [8] (by decide +kernel) (by decide +kernel)
set_option maxRecDepth 20000 in
theorem gX12_undo_X12_copies : GoodIn wsX12_undo (va_wsS RX12 446 yX12_copies wsX12_copies) := goodIn_app (goodIn_of _ (by decide +kernel)) ggX12_undo_X12_copies
theorem dX12_undo_0 : decode cX12_undo 0 = .ok (.aload_n 0, 1) := by decide +kernel
theorem dX12_undo_1 : decode cX12_undo 1 = .ok (.iconst 0, 1) := by decide +kernel
theorem dX12_undo_2 : decode cX12_undo 2 = .ok (.putfield 160, 3) := by decide +kernel
theorem dX12_undo_5 : decode cX12_undo 5 = .ok (.aload_n 0, 1) := by decide +kernel
theorem dX12_undo_6 : decode cX12_undo 6 = .ok (.getfield 372, 3) := by decide +kernel
theorem dX12_undo_9 : decode cX12_undo 9 = .ok (.ifCond .ne 5, 3) := by decide +kernel
theorem dX12_undo_12 : decode cX12_undo 12 = .ok (.iconst 0, 1) := by decide +kernel
theorem dX12_undo_13 : decode cX12_undo 13 = .ok (.ireturn, 1) := by decide +kernel
theorem dX12_undo_14 : decode cX12_undo 14 = .ok (.aload_n 0, 1) := by decide +kernel
theorem dX12_undo_15 : decode cX12_undo 15 = .ok (.dup, 1) := by decide +kernel
theorem dX12_undo_16 : decode cX12_undo 16 = .ok (.getfield 372, 3) := by decide +kernel
theorem dX12_undo_19 : decode cX12_undo 19 = .ok (.iconst 1, 1) := by decide +kernel
theorem dX12_undo_20 : decode cX12_undo 20 = .ok (.isub, 1) := by decide +kernel
theorem dX12_undo_21 : decode cX12_undo 21 = .ok (.putfield 372, 3) := by decide +kernel
theorem dX12_undo_24 : decode cX12_undo 24 = .ok (.aload_n 0, 1) := by decide +kernel
theorem dX12_undo_25 : decode cX12_undo 25 = .ok (.getfield 126, 3) := by decide +kernel
theorem dX12_undo_28 : decode cX12_undo 28 = .ok (.bipush 17, 2) := by decide +kernel
theorem dX12_undo_30 : decode cX12_undo 30 = .ok (.aload_n 0, 1) := by decide +kernel
theorem dX12_undo_31 : decode cX12_undo 31 = .ok (.getfield 372, 3) := by decide +kernel
theorem dX12_undo_34 : decode cX12_undo 34 = .ok (.imul, 1) := by decide +kernel
theorem dX12_undo_35 : decode cX12_undo 35 = .ok (.aload_n 0, 1) := by decide +kernel
theorem dX12_undo_36 : decode cX12_undo 36 = .ok (.getfield 114, 3) := by decide +kernel
theorem dX12_undo_39 : decode cX12_undo 39 = .ok (.iconst 0, 1) := by decide +kernel
theorem dX12_undo_40 : decode cX12_undo 40 = .ok (.invokestatic 446, 3) := by decide +kernel
theorem dX12_undo_43 : decode cX12_undo 43 = .ok (.iconst 1, 1) := by decide +kernel
theorem dX12_undo_44 : decode cX12_undo 44 = .ok (.ireturn, 1) := by decide +kernel
set_option maxRecDepth 20000 in
theorem ggX12_goes_X12_passes : GoodIn wsX12_goes wsX12_passes := goodIn_r _ [9, 10, 11, 12, 13, 14, 8, 15, 16, 17, 18, 19, 20, 2, 21, 22, 23, 24, 25, 26, 27, 28, 29, 30, 31, 32, 33, 34, 35, 36, 37, 38, 39, 40, 41, 42, 43, 44, 45, 46, 47, 48, 49, 50, 51, 52, 53, 54, 55, 56, 57, 58, 59, 60, 61, 62, 63, 64, 65, 66, 67, 68, 69, 70, 71, 72, 73, 74, 75, 76, 77, 78, 79, 80, 81, 82, 83, 84, 85, 86, 87, 88, 89, 90, 91, 92, 93, 94, 95, 96, 97, 98, 99, 100, 101, 102, 103, 104, 105, 106, 107, 108, 109, 110, 111, 112, 113, 114, 115, 116, 117, 118, 119, 124, 125, 126, 127, 128, 129, 130, 131, 132, 133, 134, 135, 136, 137, 138, 139, 140, 141, 142, 143, 144, 145, 146, 147, 148, 149, 150, 151, 152, 153, 154, 155, 156, 157, 158, 159, 160, 161, 162, 163, 164, 165, 166, 167, 168, 169, 170, 171, 172, 173, 174, 175, 176, 177, 178, 179, 180, 181, 182, 183, 184, 185, 186, 187, 188, 189, 190] (by decide +kernel) (by decide +kernel)
set_option maxRecDepth 20000 in
theorem gX12_goes_X12_passes : GoodIn wsX12_goes (wsV RX12 450 RX12 yX12_passes wsX12_passes) := goodIn_app (goodIn_of _ (by decide +kernel)) ggX12_goes_X12_passes
set_option maxRecDepth 20000 in
theorem ggX12_goes_X12_mends : GoodIn wsX12_goes wsX12_mends := goodIn_r _ [123, 2, 25, 124, 125, 126, 127, 128, 129, 130, 131, 132, 133, 134, 135, 136, 137, 138, 139, 140, 141, 142, 143, 144, 145, 146, 147, 148, 149, 150, 151, 152, 153, 154, 155, 156, 157, 158, 159, 160, 161, 162, 163, 164, 165, 166, 167, 168, 169, 170, 171, 172, 173, 174, 175, 176, 177, 178, 179, 180, 181, 182, 183, 184, 185, 186, 187, 188, 189, 190] (by decide +kernel) (by decide +kernel)
set_option maxRecDepth 20000 in
theorem gX12_goes_X12_mends : GoodIn wsX12_goes (wsV RX12 465 RX12 yX12_mends wsX12_mends) := goodIn_app (goodIn_of _ (by decide +kernel)) ggX12_goes_X12_mends
theorem dX12_goes_0 : decode cX12_goes 0 = .ok (.aload_n 0, 1) := by decide +kernel
theorem dX12_goes_1 : decode cX12_goes 1 = .ok (.getfield 96, 3) := by decide +kernel
theorem dX12_goes_4 : decode cX12_goes 4 = .ok (.iload_n 1, 1) := by decide +kernel
theorem dX12_goes_5 : decode cX12_goes 5 = .ok (.iaload, 1) := by decide +kernel
theorem dX12_goes_6 : decode cX12_goes 6 = .ok (.ifCond .ne 8, 3) := by decide +kernel
theorem dX12_goes_9 : decode cX12_goes 9 = .ok (.aload_n 0, 1) := by decide +kernel
theorem dX12_goes_10 : decode cX12_goes 10 = .ok (.invokevirtual 450, 3) := by decide +kernel
theorem dX12_goes_13 : decode cX12_goes 13 = .ok (.ireturn, 1) := by decide +kernel
theorem dX12_goes_14 : decode cX12_goes 14 = .ok (.aload_n 0, 1) := by decide +kernel
theorem dX12_goes_15 : decode cX12_goes 15 = .ok (.getfield 96, 3) := by decide +kernel
theorem dX12_goes_18 : decode cX12_goes 18 = .ok (.iload_n 1, 1) := by decide +kernel
theorem dX12_goes_19 : decode cX12_goes 19 = .ok (.iaload, 1) := by decide +kernel
theorem dX12_goes_20 : decode cX12_goes 20 = .ok (.iconst 1, 1) := by decide +kernel
theorem dX12_goes_21 : decode cX12_goes 21 = .ok (.if_icmp .ne 11, 3) := by decide +kernel
theorem dX12_goes_24 : decode cX12_goes 24 = .ok (.aload_n 0, 1) := by decide +kernel
theorem dX12_goes_25 : decode cX12_goes 25 = .ok (.invokevirtual 465, 3) := by decide +kernel
theorem dX12_goes_28 : decode cX12_goes 28 = .ok (.pop, 1) := by decide +kernel
theorem dX12_goes_29 : decode cX12_goes 29 = .ok (.goto 52, 3) := by decide +kernel
theorem dX12_goes_32 : decode cX12_goes 32 = .ok (.aload_n 0, 1) := by decide +kernel
theorem dX12_goes_33 : decode cX12_goes 33 = .ok (.getfield 96, 3) := by decide +kernel
theorem dX12_goes_36 : decode cX12_goes 36 = .ok (.iload_n 1, 1) := by decide +kernel
theorem dX12_goes_37 : decode cX12_goes 37 = .ok (.iaload, 1) := by decide +kernel
theorem dX12_goes_38 : decode cX12_goes 38 = .ok (.iconst 2, 1) := by decide +kernel
theorem dX12_goes_39 : decode cX12_goes 39 = .ok (.if_icmp .ne 18, 3) := by decide +kernel
theorem dX12_goes_42 : decode cX12_goes 42 = .ok (.aload_n 0, 1) := by decide +kernel
theorem dX12_goes_43 : decode cX12_goes 43 = .ok (.getfield 114, 3) := by decide +kernel
theorem dX12_goes_46 : decode cX12_goes 46 = .ok (.iconst 1, 1) := by decide +kernel
theorem dX12_goes_47 : decode cX12_goes 47 = .ok (.aload_n 0, 1) := by decide +kernel
theorem dX12_goes_48 : decode cX12_goes 48 = .ok (.getfield 99, 3) := by decide +kernel
theorem dX12_goes_51 : decode cX12_goes 51 = .ok (.iload_n 1, 1) := by decide +kernel
theorem dX12_goes_52 : decode cX12_goes 52 = .ok (.iaload, 1) := by decide +kernel
theorem dX12_goes_53 : decode cX12_goes 53 = .ok (.iastore, 1) := by decide +kernel
theorem dX12_goes_54 : decode cX12_goes 54 = .ok (.goto 27, 3) := by decide +kernel
theorem dX12_goes_57 : decode cX12_goes 57 = .ok (.aload_n 0, 1) := by decide +kernel
theorem dX12_goes_58 : decode cX12_goes 58 = .ok (.getfield 114, 3) := by decide +kernel
theorem dX12_goes_61 : decode cX12_goes 61 = .ok (.iconst 2, 1) := by decide +kernel
theorem dX12_goes_62 : decode cX12_goes 62 = .ok (.aload_n 0, 1) := by decide +kernel
theorem dX12_goes_63 : decode cX12_goes 63 = .ok (.getfield 99, 3) := by decide +kernel
theorem dX12_goes_66 : decode cX12_goes 66 = .ok (.iload_n 1, 1) := by decide +kernel
theorem dX12_goes_67 : decode cX12_goes 67 = .ok (.iaload, 1) := by decide +kernel
theorem dX12_goes_68 : decode cX12_goes 68 = .ok (.iastore, 1) := by decide +kernel
theorem dX12_goes_69 : decode cX12_goes 69 = .ok (.aload_n 0, 1) := by decide +kernel
theorem dX12_goes_70 : decode cX12_goes 70 = .ok (.getfield 114, 3) := by decide +kernel
theorem dX12_goes_73 : decode cX12_goes 73 = .ok (.iconst 3, 1) := by decide +kernel
theorem dX12_goes_74 : decode cX12_goes 74 = .ok (.aload_n 0, 1) := by decide +kernel
theorem dX12_goes_75 : decode cX12_goes 75 = .ok (.getfield 102, 3) := by decide +kernel
theorem dX12_goes_78 : decode cX12_goes 78 = .ok (.iload_n 1, 1) := by decide +kernel
theorem dX12_goes_79 : decode cX12_goes 79 = .ok (.iaload, 1) := by decide +kernel
theorem dX12_goes_80 : decode cX12_goes 80 = .ok (.iastore, 1) := by decide +kernel
theorem dX12_goes_81 : decode cX12_goes 81 = .ok (.iconst 0, 1) := by decide +kernel
theorem dX12_goes_82 : decode cX12_goes 82 = .ok (.ireturn, 1) := by decide +kernel
set_option maxRecDepth 20000 in
theorem ggX12_judged_X12_within : GoodIn wsX12_judged wsX12_within := goodIn_r _ [9] (by decide +kernel) (by decide +kernel)
set_option maxRecDepth 20000 in
theorem gX12_judged_X12_within : GoodIn wsX12_judged (va_wsS RX12 293 yX12_within wsX12_within) := goodIn_app (goodIn_of _ (by decide +kernel)) ggX12_judged_X12_within
set_option maxRecDepth 20000 in
theorem ggX12_judged_X12_copies : GoodIn wsX12_judged wsX12_copies := goodIn_r _ [12] (by decide +kernel) (by decide +kernel)
set_option maxRecDepth 20000 in
theorem gX12_judged_X12_copies : GoodIn wsX12_judged (va_wsS RX12 446 yX12_copies wsX12_copies) := goodIn_app (goodIn_of _ (by decide +kernel)) ggX12_judged_X12_copies
set_option maxRecDepth 20000 in
theorem ggX12_judged_X12_fresh : GoodIn wsX12_judged wsX12_fresh := goodIn_r _ [16, 2, 17, 145, 146, 147, 148, 149, 150, 151, 152, 153, 154, 155, 156, 157, 158, 159, 160, 161, 162, 163, 164, 165, 166, 167, 168, 169, 170, 171, 172, 173, 174, 175, 176, 177, 178, 179, 180, 181, 182, 183, 184, 185, 186, 187, 188, 189, 190, 191, 192, 193, 194, 195, 196, 197, 198, 199, 200, 201, 202, 203, 204, 205, 206, 207, 208, 209, 210, 211] (by decide +kernel) (by decide +kernel)
set_option maxRecDepth 20000 in
theorem gX12_judged_X12_fresh : GoodIn wsX12_judged (wsV RX12 157 RX12 yX12_fresh wsX12_fresh) := goodIn_app (goodIn_of _ (by decide +kernel)) ggX12_judged_X12_fresh
set_option maxRecDepth 20000 in
theorem ggX12_judged_X12_goes : GoodIn wsX12_judged wsX12_goes := goodIn_r _ [21, 5, 2, 22, 23, 24, 25, 26, 8, 27, 28, 29, 30, 31, 32, 33, 34, 35, 36, 37, 38, 39, 40, 41, 42, 17, 43, 44, 45, 46, 47, 48, 49, 50, 51, 52, 53, 54, 55, 56, 57, 58, 59, 60, 61, 62, 63, 64, 65, 66, 67, 68, 69, 70, 71, 72, 73, 74, 75, 76, 77, 78, 79, 80, 81, 82, 83, 84, 85, 86, 87, 88, 89, 90, 91, 92, 93, 94, 95, 96, 97, 98, 99, 100, 101, 102, 103, 104, 105, 106, 107, 108, 109, 110, 111, 112, 113, 114, 115, 116, 117, 118, 119, 120, 121, 122, 123, 124, 125, 126, 127, 128, 129, 130, 131, 132, 133, 134, 135, 136, 137, 138, 139, 140, 145, 146, 147, 148, 149, 150, 151, 152, 153, 154, 155, 156, 157, 158, 159, 160, 161, 162, 163, 164, 165, 166, 167, 168, 169, 170, 171, 172, 173, 174, 175, 176, 177, 178, 179, 180, 181, 182, 183, 184, 185, 186, 187, 188, 189, 190, 191, 192, 193, 194, 195, 196, 197, 198, 199, 200, 201, 202, 203, 204, 205, 206, 207, 208, 209, 210, 211] (by decide +kernel) (by decide +kernel)
set_option maxRecDepth 20000 in
theorem gX12_judged_X12_goes : GoodIn wsX12_judged (wsV RX12 468 RX12 yX12_goes wsX12_goes) := goodIn_app (goodIn_of _ (by decide +kernel)) ggX12_judged_X12_goes
set_option maxRecDepth 20000 in
theorem ggX12_judged_X12_goneKeys : GoodIn wsX12_judged wsX12_goneKeys := goodIn_r _ [144, 2, 145, 146, 147, 148, 149, 150, 151, 152, 153, 154, 155, 156, 157, 158, 159, 160, 161, 162, 163, 164, 165, 166, 167, 168, 169, 170, 171, 172, 173, 174, 175, 176, 177, 178, 179, 180, 181, 182, 183, 184, 185, 186, 187, 188, 189, 190, 191, 192, 193, 194, 195, 196, 197, 198, 199, 200, 201, 202, 203, 204, 205, 206, 207, 208, 209, 210, 211] (by decide +kernel) (by decide +kernel)
set_option maxRecDepth 20000 in
theorem gX12_judged_X12_goneKeys : GoodIn wsX12_judged (wsV RX12 471 RX12 yX12_goneKeys wsX12_goneKeys) := goodIn_app (goodIn_of _ (by decide +kernel)) ggX12_judged_X12_goneKeys
theorem dX12_judged_0 : decode cX12_judged 0 = .ok (.aload_n 0, 1) := by decide +kernel
theorem dX12_judged_1 : decode cX12_judged 1 = .ok (.iload_n 1, 1) := by decide +kernel
theorem dX12_judged_2 : decode cX12_judged 2 = .ok (.iconst 0, 1) := by decide +kernel
theorem dX12_judged_3 : decode cX12_judged 3 = .ok (.iconst 2, 1) := by decide +kernel
theorem dX12_judged_4 : decode cX12_judged 4 = .ok (.invokestatic 293, 3) := by decide +kernel
theorem dX12_judged_7 : decode cX12_judged 7 = .ok (.ifCond .eq 7, 3) := by decide +kernel
theorem dX12_judged_10 : decode cX12_judged 10 = .ok (.iconst 0, 1) := by decide +kernel
theorem dX12_judged_11 : decode cX12_judged 11 = .ok (.goto 4, 3) := by decide +kernel
theorem dX12_judged_14 : decode cX12_judged 14 = .ok (.iconst 1, 1) := by decide +kernel
theorem dX12_judged_15 : decode cX12_judged 15 = .ok (.putfield 160, 3) := by decide +kernel
theorem dX12_judged_18 : decode cX12_judged 18 = .ok (.aload_n 0, 1) := by decide +kernel
theorem dX12_judged_19 : decode cX12_judged 19 = .ok (.getfield 160, 3) := by decide +kernel
theorem dX12_judged_22 : decode cX12_judged 22 = .ok (.iconst 1, 1) := by decide +kernel
theorem dX12_judged_23 : decode cX12_judged 23 = .ok (.if_icmp .ne 5, 3) := by decide +kernel
theorem dX12_judged_26 : decode cX12_judged 26 = .ok (.iconst 0, 1) := by decide +kernel
theorem dX12_judged_27 : decode cX12_judged 27 = .ok (.ireturn, 1) := by decide +kernel
theorem dX12_judged_28 : decode cX12_judged 28 = .ok (.aload_n 0, 1) := by decide +kernel
theorem dX12_judged_29 : decode cX12_judged 29 = .ok (.getfield 114, 3) := by decide +kernel
theorem dX12_judged_32 : decode cX12_judged 32 = .ok (.iconst 0, 1) := by decide +kernel
theorem dX12_judged_33 : decode cX12_judged 33 = .ok (.aload_n 0, 1) := by decide +kernel
theorem dX12_judged_34 : decode cX12_judged 34 = .ok (.getfield 117, 3) := by decide +kernel
theorem dX12_judged_37 : decode cX12_judged 37 = .ok (.iconst 0, 1) := by decide +kernel
theorem dX12_judged_38 : decode cX12_judged 38 = .ok (.invokestatic 446, 3) := by decide +kernel
theorem dX12_judged_41 : decode cX12_judged 41 = .ok (.aload_n 0, 1) := by decide +kernel
theorem dX12_judged_42 : decode cX12_judged 42 = .ok (.invokevirtual 157, 3) := by decide +kernel
theorem dX12_judged_45 : decode cX12_judged 45 = .ok (.iconst (-1), 1) := by decide +kernel
theorem dX12_judged_46 : decode cX12_judged 46 = .ok (.istore_n 2, 1) := by decide +kernel
theorem dX12_judged_47 : decode cX12_judged 47 = .ok (.iconst 0, 1) := by decide +kernel
theorem dX12_judged_48 : decode cX12_judged 48 = .ok (.istore_n 3, 1) := by decide +kernel
theorem dX12_judged_49 : decode cX12_judged 49 = .ok (.iconst 0, 1) := by decide +kernel
theorem dX12_judged_50 : decode cX12_judged 50 = .ok (.istore 4, 2) := by decide +kernel
theorem dX12_judged_52 : decode cX12_judged 52 = .ok (.iload 4, 2) := by decide +kernel
theorem dX12_judged_54 : decode cX12_judged 54 = .ok (.aload_n 0, 1) := by decide +kernel
theorem dX12_judged_55 : decode cX12_judged 55 = .ok (.getfield 93, 3) := by decide +kernel
theorem dX12_judged_58 : decode cX12_judged 58 = .ok (.iconst 0, 1) := by decide +kernel
theorem dX12_judged_59 : decode cX12_judged 59 = .ok (.iaload, 1) := by decide +kernel
theorem dX12_judged_60 : decode cX12_judged 60 = .ok (.if_icmp .ge 42, 3) := by decide +kernel
theorem dX12_judged_63 : decode cX12_judged 63 = .ok (.iload_n 3, 1) := by decide +kernel
theorem dX12_judged_64 : decode cX12_judged 64 = .ok (.aload_n 0, 1) := by decide +kernel
theorem dX12_judged_65 : decode cX12_judged 65 = .ok (.iload 4, 2) := by decide +kernel
theorem dX12_judged_67 : decode cX12_judged 67 = .ok (.invokevirtual 468, 3) := by decide +kernel
theorem dX12_judged_70 : decode cX12_judged 70 = .ok (.iadd, 1) := by decide +kernel
theorem dX12_judged_71 : decode cX12_judged 71 = .ok (.istore_n 3, 1) := by decide +kernel
theorem dX12_judged_72 : decode cX12_judged 72 = .ok (.aload_n 0, 1) := by decide +kernel
theorem dX12_judged_73 : decode cX12_judged 73 = .ok (.getfield 96, 3) := by decide +kernel
theorem dX12_judged_76 : decode cX12_judged 76 = .ok (.iload 4, 2) := by decide +kernel
theorem dX12_judged_78 : decode cX12_judged 78 = .ok (.iaload, 1) := by decide +kernel
theorem dX12_judged_79 : decode cX12_judged 79 = .ok (.ifCond .ne 17, 3) := by decide +kernel
theorem dX12_judged_82 : decode cX12_judged 82 = .ok (.iload_n 2, 1) := by decide +kernel
theorem dX12_judged_83 : decode cX12_judged 83 = .ok (.ifCond .ge 13, 3) := by decide +kernel
theorem dX12_judged_86 : decode cX12_judged 86 = .ok (.aload_n 0, 1) := by decide +kernel
theorem dX12_judged_87 : decode cX12_judged 87 = .ok (.invokevirtual 471, 3) := by decide +kernel
theorem dX12_judged_90 : decode cX12_judged 90 = .ok (.ifCond .eq 6, 3) := by decide +kernel
theorem dX12_judged_93 : decode cX12_judged 93 = .ok (.iload 4, 2) := by decide +kernel
theorem dX12_judged_95 : decode cX12_judged 95 = .ok (.istore_n 2, 1) := by decide +kernel
theorem dX12_judged_96 : decode cX12_judged 96 = .ok (.iinc 4 1, 3) := by decide +kernel
theorem dX12_judged_99 : decode cX12_judged 99 = .ok (.goto (-47), 3) := by decide +kernel
theorem dX12_judged_102 : decode cX12_judged 102 = .ok (.aload_n 0, 1) := by decide +kernel
theorem dX12_judged_103 : decode cX12_judged 103 = .ok (.getfield 114, 3) := by decide +kernel
theorem dX12_judged_106 : decode cX12_judged 106 = .ok (.iconst 4, 1) := by decide +kernel
theorem dX12_judged_107 : decode cX12_judged 107 = .ok (.iaload, 1) := by decide +kernel
theorem dX12_judged_108 : decode cX12_judged 108 = .ok (.istore 4, 2) := by decide +kernel
theorem dX12_judged_110 : decode cX12_judged 110 = .ok (.aload_n 0, 1) := by decide +kernel
theorem dX12_judged_111 : decode cX12_judged 111 = .ok (.getfield 117, 3) := by decide +kernel
theorem dX12_judged_114 : decode cX12_judged 114 = .ok (.iconst 0, 1) := by decide +kernel
theorem dX12_judged_115 : decode cX12_judged 115 = .ok (.aload_n 0, 1) := by decide +kernel
theorem dX12_judged_116 : decode cX12_judged 116 = .ok (.getfield 114, 3) := by decide +kernel
theorem dX12_judged_119 : decode cX12_judged 119 = .ok (.iconst 0, 1) := by decide +kernel
theorem dX12_judged_120 : decode cX12_judged 120 = .ok (.invokestatic 446, 3) := by decide +kernel
theorem dX12_judged_123 : decode cX12_judged 123 = .ok (.iload_n 1, 1) := by decide +kernel
theorem dX12_judged_124 : decode cX12_judged 124 = .ok (.ifCond .ne 7, 3) := by decide +kernel
theorem dX12_judged_127 : decode cX12_judged 127 = .ok (.iload_n 2, 1) := by decide +kernel
theorem dX12_judged_128 : decode cX12_judged 128 = .ok (.goto 14, 3) := by decide +kernel
theorem dX12_judged_131 : decode cX12_judged 131 = .ok (.iload_n 1, 1) := by decide +kernel
theorem dX12_judged_132 : decode cX12_judged 132 = .ok (.iconst 1, 1) := by decide +kernel
theorem dX12_judged_133 : decode cX12_judged 133 = .ok (.if_icmp .ne 7, 3) := by decide +kernel
theorem dX12_judged_136 : decode cX12_judged 136 = .ok (.iload_n 3, 1) := by decide +kernel
theorem dX12_judged_137 : decode cX12_judged 137 = .ok (.goto 5, 3) := by decide +kernel
theorem dX12_judged_140 : decode cX12_judged 140 = .ok (.iload 4, 2) := by decide +kernel
theorem dX12_judged_142 : decode cX12_judged 142 = .ok (.ireturn, 1) := by decide +kernel
set_option maxRecDepth 20000 in
theorem ggX12_best_X12_within : GoodIn wsX12_best wsX12_within := goodIn_r _ [6] (by decide +kernel) (by decide +kernel)
set_option maxRecDepth 20000 in
theorem gX12_best_X12_within : GoodIn wsX12_best (va_wsS RX12 293 yX12_within wsX12_within) := goodIn_app (goodIn_of _ (by decide +kernel)) ggX12_best_X12_within
set_option maxRecDepth 20000 in
theorem ggX12_best_X12_tries : GoodIn wsX12_best wsX12_tries := goodIn_r _ [10, 2, 11, 12, 13, 5, 14, 15, 16, 17, 18, 19, 20, 21, 22, 23, 24, 25, 26, 27, 28, 29, 30, 31, 32, 33, 34, 35, 36, 37, 38, 39, 40, 41, 42, 43, 44, 45, 46, 47, 48, 49, 50, 51, 52, 53, 54, 55, 56, 57, 58, 59, 60, 61, 62, 63, 64, 65, 66, 67, 68, 69, 70, 71, 72, 73, 74, 75, 76, 77, 78, 79, 80, 81, 82, 83, 84, 85, 86, 87, 88, 89, 90, 91, 92, 93, 94, 95, 96, 97, 98, 99, 100, 101, 102, 103, 104, 105, 106, 107, 108, 109, 110, 111, 112, 113, 114, 115, 116, 117, 118, 119, 120, 121, 122, 123, 124, 125, 126, 127, 128, 129, 130, 131, 132, 133, 134, 135, 136, 137, 138, 139, 140, 141, 142, 143, 144, 145, 146, 147, 148, 149, 150, 151, 152, 153, 154, 155, 156, 157, 158, 159, 160, 161, 162, 163, 164, 165, 166, 167, 168, 169, 170, 171, 172, 173, 174, 175, 176, 177, 178, 179, 180, 181, 182, 183, 184, 185, 186, 187, 188, 189, 190, 191, 192, 193, 194, 195] (by decide +kernel) (by decide +kernel)
set_option maxRecDepth 20000 in
theorem gX12_best_X12_tries : GoodIn wsX12_best (wsV RX12 453 RX12 yX12_tries wsX12_tries) := goodIn_app (goodIn_of _ (by decide +kernel)) ggX12_best_X12_tries
theorem dX12_best_0 : decode cX12_best 0 = .ok (.aload_n 0, 1) := by decide +kernel
theorem dX12_best_1 : decode cX12_best 1 = .ok (.iload_n 1, 1) := by decide +kernel
theorem dX12_best_2 : decode cX12_best 2 = .ok (.iconst 0, 1) := by decide +kernel
theorem dX12_best_3 : decode cX12_best 3 = .ok (.iconst 1, 1) := by decide +kernel
theorem dX12_best_4 : decode cX12_best 4 = .ok (.invokestatic 293, 3) := by decide +kernel
theorem dX12_best_7 : decode cX12_best 7 = .ok (.ifCond .eq 7, 3) := by decide +kernel
theorem dX12_best_10 : decode cX12_best 10 = .ok (.iconst 0, 1) := by decide +kernel
theorem dX12_best_11 : decode cX12_best 11 = .ok (.goto 4, 3) := by decide +kernel
theorem dX12_best_14 : decode cX12_best 14 = .ok (.iconst 1, 1) := by decide +kernel
theorem dX12_best_15 : decode cX12_best 15 = .ok (.putfield 160, 3) := by decide +kernel
theorem dX12_best_18 : decode cX12_best 18 = .ok (.aload_n 0, 1) := by decide +kernel
theorem dX12_best_19 : decode cX12_best 19 = .ok (.getfield 160, 3) := by decide +kernel
theorem dX12_best_22 : decode cX12_best 22 = .ok (.iconst 1, 1) := by decide +kernel
theorem dX12_best_23 : decode cX12_best 23 = .ok (.if_icmp .ne 5, 3) := by decide +kernel
theorem dX12_best_26 : decode cX12_best 26 = .ok (.iconst 0, 1) := by decide +kernel
theorem dX12_best_27 : decode cX12_best 27 = .ok (.ireturn, 1) := by decide +kernel
theorem dX12_best_28 : decode cX12_best 28 = .ok (.aload_n 0, 1) := by decide +kernel
theorem dX12_best_29 : decode cX12_best 29 = .ok (.getfield 114, 3) := by decide +kernel
theorem dX12_best_32 : decode cX12_best 32 = .ok (.iconst 1, 1) := by decide +kernel
theorem dX12_best_33 : decode cX12_best 33 = .ok (.iaload, 1) := by decide +kernel
theorem dX12_best_34 : decode cX12_best 34 = .ok (.istore_n 2, 1) := by decide +kernel
theorem dX12_best_35 : decode cX12_best 35 = .ok (.iconst 0, 1) := by decide +kernel
theorem dX12_best_36 : decode cX12_best 36 = .ok (.istore_n 3, 1) := by decide +kernel
theorem dX12_best_37 : decode cX12_best 37 = .ok (.iconst 0, 1) := by decide +kernel
theorem dX12_best_38 : decode cX12_best 38 = .ok (.istore 4, 2) := by decide +kernel
theorem dX12_best_40 : decode cX12_best 40 = .ok (.iconst 1, 1) := by decide +kernel
theorem dX12_best_41 : decode cX12_best 41 = .ok (.istore 5, 2) := by decide +kernel
theorem dX12_best_43 : decode cX12_best 43 = .ok (.iload 5, 2) := by decide +kernel
theorem dX12_best_45 : decode cX12_best 45 = .ok (.bipush 31, 2) := by decide +kernel
theorem dX12_best_47 : decode cX12_best 47 = .ok (.if_icmp .ge 44, 3) := by decide +kernel
theorem dX12_best_50 : decode cX12_best 50 = .ok (.aload_n 0, 1) := by decide +kernel
theorem dX12_best_51 : decode cX12_best 51 = .ok (.getfield 114, 3) := by decide +kernel
theorem dX12_best_54 : decode cX12_best 54 = .ok (.iconst 1, 1) := by decide +kernel
theorem dX12_best_55 : decode cX12_best 55 = .ok (.iload 5, 2) := by decide +kernel
theorem dX12_best_57 : decode cX12_best 57 = .ok (.iastore, 1) := by decide +kernel
theorem dX12_best_58 : decode cX12_best 58 = .ok (.aload_n 0, 1) := by decide +kernel
theorem dX12_best_59 : decode cX12_best 59 = .ok (.invokevirtual 453, 3) := by decide +kernel
theorem dX12_best_62 : decode cX12_best 62 = .ok (.istore 6, 2) := by decide +kernel
theorem dX12_best_64 : decode cX12_best 64 = .ok (.iload_n 3, 1) := by decide +kernel
theorem dX12_best_65 : decode cX12_best 65 = .ok (.ifCond .le 13, 3) := by decide +kernel
theorem dX12_best_68 : decode cX12_best 68 = .ok (.iload 6, 2) := by decide +kernel
theorem dX12_best_70 : decode cX12_best 70 = .ok (.iload 4, 2) := by decide +kernel
theorem dX12_best_72 : decode cX12_best 72 = .ok (.if_icmp .gt 6, 3) := by decide +kernel
theorem dX12_best_75 : decode cX12_best 75 = .ok (.goto 10, 3) := by decide +kernel
theorem dX12_best_78 : decode cX12_best 78 = .ok (.iload 5, 2) := by decide +kernel
theorem dX12_best_80 : decode cX12_best 80 = .ok (.istore_n 3, 1) := by decide +kernel
theorem dX12_best_81 : decode cX12_best 81 = .ok (.iload 6, 2) := by decide +kernel
theorem dX12_best_83 : decode cX12_best 83 = .ok (.istore 4, 2) := by decide +kernel
theorem dX12_best_85 : decode cX12_best 85 = .ok (.iinc 5 1, 3) := by decide +kernel
theorem dX12_best_88 : decode cX12_best 88 = .ok (.goto (-45), 3) := by decide +kernel
theorem dX12_best_91 : decode cX12_best 91 = .ok (.aload_n 0, 1) := by decide +kernel
theorem dX12_best_92 : decode cX12_best 92 = .ok (.getfield 114, 3) := by decide +kernel
theorem dX12_best_95 : decode cX12_best 95 = .ok (.iconst 1, 1) := by decide +kernel
theorem dX12_best_96 : decode cX12_best 96 = .ok (.iload_n 2, 1) := by decide +kernel
theorem dX12_best_97 : decode cX12_best 97 = .ok (.iastore, 1) := by decide +kernel
theorem dX12_best_98 : decode cX12_best 98 = .ok (.iload_n 1, 1) := by decide +kernel
theorem dX12_best_99 : decode cX12_best 99 = .ok (.ifCond .ne 7, 3) := by decide +kernel
theorem dX12_best_102 : decode cX12_best 102 = .ok (.iload_n 3, 1) := by decide +kernel
theorem dX12_best_103 : decode cX12_best 103 = .ok (.goto 5, 3) := by decide +kernel
theorem dX12_best_106 : decode cX12_best 106 = .ok (.iload 4, 2) := by decide +kernel
theorem dX12_best_108 : decode cX12_best 108 = .ok (.ireturn, 1) := by decide +kernel
set_option maxRecDepth 20000 in
theorem ggX12_hours_X12_within : GoodIn wsX12_hours wsX12_within := goodIn_r _ [6] (by decide +kernel) (by decide +kernel)
set_option maxRecDepth 20000 in
theorem gX12_hours_X12_within : GoodIn wsX12_hours (va_wsS RX12 293 yX12_within wsX12_within) := goodIn_app (goodIn_of _ (by decide +kernel)) ggX12_hours_X12_within
set_option maxRecDepth 20000 in
theorem ggX12_hours_X12_tries : GoodIn wsX12_hours wsX12_tries := goodIn_r _ [10, 2, 11, 12, 13, 5, 14, 15, 16, 17, 18, 19, 20, 21, 22, 23, 24, 25, 26, 27, 28, 29, 30, 31, 32, 33, 34, 35, 36, 37, 38, 39, 40, 41, 42, 43, 44, 45, 46, 47, 48, 49, 50, 51, 52, 53, 54, 55, 56, 57, 58, 59, 60, 61, 62, 63, 64, 65, 66, 67, 68, 69, 70, 71, 72, 73, 74, 75, 76, 77, 78, 79, 80, 81, 82, 83, 84, 85, 86, 87, 88, 89, 90, 91, 92, 93, 94, 95, 96, 97, 98, 99, 100, 101, 102, 103, 104, 105, 106, 107, 108, 109, 110, 111, 112, 113, 114, 115, 116, 117, 118, 119, 120, 121, 122, 123, 124, 125, 126, 127, 128, 129, 130, 131, 132, 133, 134, 135, 136, 137, 138, 139, 140, 141, 142, 143, 144, 145, 146, 147, 148, 149, 150, 151, 152, 153, 154, 155, 156, 157, 158, 159, 160, 161, 162, 163, 164, 165, 166, 167, 168, 169, 170, 171, 172, 173, 174, 175, 176, 177, 178, 179, 180, 181, 182, 183, 184, 185, 186, 187, 188, 189, 190, 191, 192, 193, 194, 195] (by decide +kernel) (by decide +kernel)
set_option maxRecDepth 20000 in
theorem gX12_hours_X12_tries : GoodIn wsX12_hours (wsV RX12 453 RX12 yX12_tries wsX12_tries) := goodIn_app (goodIn_of _ (by decide +kernel)) ggX12_hours_X12_tries
theorem dX12_hours_0 : decode cX12_hours 0 = .ok (.aload_n 0, 1) := by decide +kernel
theorem dX12_hours_1 : decode cX12_hours 1 = .ok (.iconst 0, 1) := by decide +kernel
theorem dX12_hours_2 : decode cX12_hours 2 = .ok (.putfield 160, 3) := by decide +kernel
theorem dX12_hours_5 : decode cX12_hours 5 = .ok (.iload_n 1, 1) := by decide +kernel
theorem dX12_hours_6 : decode cX12_hours 6 = .ok (.iconst 1, 1) := by decide +kernel
theorem dX12_hours_7 : decode cX12_hours 7 = .ok (.bipush 60, 2) := by decide +kernel
theorem dX12_hours_9 : decode cX12_hours 9 = .ok (.invokestatic 293, 3) := by decide +kernel
theorem dX12_hours_12 : decode cX12_hours 12 = .ok (.ifCond .ne 5, 3) := by decide +kernel
theorem dX12_hours_15 : decode cX12_hours 15 = .ok (.iconst (-1), 1) := by decide +kernel
theorem dX12_hours_16 : decode cX12_hours 16 = .ok (.ireturn, 1) := by decide +kernel
theorem dX12_hours_17 : decode cX12_hours 17 = .ok (.aload_n 0, 1) := by decide +kernel
theorem dX12_hours_18 : decode cX12_hours 18 = .ok (.getfield 114, 3) := by decide +kernel
theorem dX12_hours_21 : decode cX12_hours 21 = .ok (.iconst 2, 1) := by decide +kernel
theorem dX12_hours_22 : decode cX12_hours 22 = .ok (.iaload, 1) := by decide +kernel
theorem dX12_hours_23 : decode cX12_hours 23 = .ok (.istore_n 2, 1) := by decide +kernel
theorem dX12_hours_24 : decode cX12_hours 24 = .ok (.aload_n 0, 1) := by decide +kernel
theorem dX12_hours_25 : decode cX12_hours 25 = .ok (.getfield 114, 3) := by decide +kernel
theorem dX12_hours_28 : decode cX12_hours 28 = .ok (.iconst 3, 1) := by decide +kernel
theorem dX12_hours_29 : decode cX12_hours 29 = .ok (.iaload, 1) := by decide +kernel
theorem dX12_hours_30 : decode cX12_hours 30 = .ok (.istore_n 3, 1) := by decide +kernel
theorem dX12_hours_31 : decode cX12_hours 31 = .ok (.iconst (-1), 1) := by decide +kernel
theorem dX12_hours_32 : decode cX12_hours 32 = .ok (.istore 4, 2) := by decide +kernel
theorem dX12_hours_34 : decode cX12_hours 34 = .ok (.iconst 0, 1) := by decide +kernel
theorem dX12_hours_35 : decode cX12_hours 35 = .ok (.istore 5, 2) := by decide +kernel
theorem dX12_hours_37 : decode cX12_hours 37 = .ok (.iconst 0, 1) := by decide +kernel
theorem dX12_hours_38 : decode cX12_hours 38 = .ok (.istore 6, 2) := by decide +kernel
theorem dX12_hours_40 : decode cX12_hours 40 = .ok (.iload 6, 2) := by decide +kernel
theorem dX12_hours_42 : decode cX12_hours 42 = .ok (.iload_n 1, 1) := by decide +kernel
theorem dX12_hours_43 : decode cX12_hours 43 = .ok (.iadd, 1) := by decide +kernel
theorem dX12_hours_44 : decode cX12_hours 44 = .ok (.bipush 60, 2) := by decide +kernel
theorem dX12_hours_46 : decode cX12_hours 46 = .ok (.if_icmp .gt 56, 3) := by decide +kernel
theorem dX12_hours_49 : decode cX12_hours 49 = .ok (.aload_n 0, 1) := by decide +kernel
theorem dX12_hours_50 : decode cX12_hours 50 = .ok (.getfield 114, 3) := by decide +kernel
theorem dX12_hours_53 : decode cX12_hours 53 = .ok (.iconst 2, 1) := by decide +kernel
theorem dX12_hours_54 : decode cX12_hours 54 = .ok (.iload 6, 2) := by decide +kernel
theorem dX12_hours_56 : decode cX12_hours 56 = .ok (.iastore, 1) := by decide +kernel
theorem dX12_hours_57 : decode cX12_hours 57 = .ok (.aload_n 0, 1) := by decide +kernel
theorem dX12_hours_58 : decode cX12_hours 58 = .ok (.getfield 114, 3) := by decide +kernel
theorem dX12_hours_61 : decode cX12_hours 61 = .ok (.iconst 3, 1) := by decide +kernel
theorem dX12_hours_62 : decode cX12_hours 62 = .ok (.iload 6, 2) := by decide +kernel
theorem dX12_hours_64 : decode cX12_hours 64 = .ok (.iload_n 1, 1) := by decide +kernel
theorem dX12_hours_65 : decode cX12_hours 65 = .ok (.iadd, 1) := by decide +kernel
theorem dX12_hours_66 : decode cX12_hours 66 = .ok (.iastore, 1) := by decide +kernel
theorem dX12_hours_67 : decode cX12_hours 67 = .ok (.aload_n 0, 1) := by decide +kernel
theorem dX12_hours_68 : decode cX12_hours 68 = .ok (.invokevirtual 453, 3) := by decide +kernel
theorem dX12_hours_71 : decode cX12_hours 71 = .ok (.istore 7, 2) := by decide +kernel
theorem dX12_hours_73 : decode cX12_hours 73 = .ok (.iload 4, 2) := by decide +kernel
theorem dX12_hours_75 : decode cX12_hours 75 = .ok (.ifCond .lt 13, 3) := by decide +kernel
theorem dX12_hours_78 : decode cX12_hours 78 = .ok (.iload 7, 2) := by decide +kernel
theorem dX12_hours_80 : decode cX12_hours 80 = .ok (.iload 5, 2) := by decide +kernel
theorem dX12_hours_82 : decode cX12_hours 82 = .ok (.if_icmp .gt 6, 3) := by decide +kernel
theorem dX12_hours_85 : decode cX12_hours 85 = .ok (.goto 11, 3) := by decide +kernel
theorem dX12_hours_88 : decode cX12_hours 88 = .ok (.iload 6, 2) := by decide +kernel
theorem dX12_hours_90 : decode cX12_hours 90 = .ok (.istore 4, 2) := by decide +kernel
theorem dX12_hours_92 : decode cX12_hours 92 = .ok (.iload 7, 2) := by decide +kernel
theorem dX12_hours_94 : decode cX12_hours 94 = .ok (.istore 5, 2) := by decide +kernel
theorem dX12_hours_96 : decode cX12_hours 96 = .ok (.iinc 6 1, 3) := by decide +kernel
theorem dX12_hours_99 : decode cX12_hours 99 = .ok (.goto (-59), 3) := by decide +kernel
theorem dX12_hours_102 : decode cX12_hours 102 = .ok (.aload_n 0, 1) := by decide +kernel
theorem dX12_hours_103 : decode cX12_hours 103 = .ok (.getfield 114, 3) := by decide +kernel
theorem dX12_hours_106 : decode cX12_hours 106 = .ok (.iconst 2, 1) := by decide +kernel
theorem dX12_hours_107 : decode cX12_hours 107 = .ok (.iload_n 2, 1) := by decide +kernel
theorem dX12_hours_108 : decode cX12_hours 108 = .ok (.iastore, 1) := by decide +kernel
theorem dX12_hours_109 : decode cX12_hours 109 = .ok (.aload_n 0, 1) := by decide +kernel
theorem dX12_hours_110 : decode cX12_hours 110 = .ok (.getfield 114, 3) := by decide +kernel
theorem dX12_hours_113 : decode cX12_hours 113 = .ok (.iconst 3, 1) := by decide +kernel
theorem dX12_hours_114 : decode cX12_hours 114 = .ok (.iload_n 3, 1) := by decide +kernel
theorem dX12_hours_115 : decode cX12_hours 115 = .ok (.iastore, 1) := by decide +kernel
theorem dX12_hours_116 : decode cX12_hours 116 = .ok (.iload 4, 2) := by decide +kernel
theorem dX12_hours_118 : decode cX12_hours 118 = .ok (.ireturn, 1) := by decide +kernel
set_option maxRecDepth 20000 in
theorem ggX12_daysBring_X12_copies : GoodIn wsX12_daysBring wsX12_copies := goodIn_r _ [7] (by decide +kernel) (by decide +kernel)
set_option maxRecDepth 20000 in
theorem gX12_daysBring_X12_copies : GoodIn wsX12_daysBring (va_wsS RX12 446 yX12_copies wsX12_copies) := goodIn_app (goodIn_of _ (by decide +kernel)) ggX12_daysBring_X12_copies
set_option maxRecDepth 20000 in
theorem ggX12_daysBring_X12_mends : GoodIn wsX12_daysBring wsX12_mends := goodIn_r _ [11, 1, 3, 125, 126, 127, 128, 129, 130, 131, 132, 133, 134, 135, 136, 137, 138, 139, 140, 141, 142, 143, 144, 145, 146, 147, 148, 149, 150, 151, 152, 153, 154, 155, 156, 157, 158, 159, 160, 161, 162, 163, 164, 165, 166, 167, 168, 169, 170, 171, 172, 173, 174, 175, 176, 177, 178, 179, 180, 181, 182, 183, 184, 185, 186, 187, 188, 189, 190, 191] (by decide +kernel) (by decide +kernel)
set_option maxRecDepth 20000 in
theorem gX12_daysBring_X12_mends : GoodIn wsX12_daysBring (wsV RX12 465 RX12 yX12_mends wsX12_mends) := goodIn_app (goodIn_of _ (by decide +kernel)) ggX12_daysBring_X12_mends
set_option maxRecDepth 20000 in
theorem ggX12_daysBring_X12_passes : GoodIn wsX12_daysBring wsX12_passes := goodIn_r _ [15, 16, 17, 18, 19, 20, 6, 21, 22, 23, 24, 25, 26, 1, 27, 28, 29, 30, 3, 31, 32, 33, 34, 35, 36, 37, 38, 39, 40, 41, 42, 43, 44, 45, 46, 47, 48, 49, 50, 51, 52, 53, 54, 55, 56, 57, 58, 59, 60, 61, 62, 63, 64, 65, 66, 67, 68, 69, 70, 71, 72, 73, 74, 75, 76, 77, 78, 79, 80, 81, 82, 83, 84, 85, 86, 87, 88, 89, 90, 91, 92, 93, 94, 95, 96, 97, 98, 99, 100, 101, 102, 103, 104, 105, 106, 107, 108, 109, 110, 111, 112, 113, 114, 115, 116, 117, 118, 119, 120, 121, 122, 123, 124, 125, 126, 127, 128, 129, 130, 131, 132, 133, 134, 135, 136, 137, 138, 139, 140, 141, 142, 143, 144, 145, 146, 147, 148, 149, 150, 151, 152, 153, 154, 155, 156, 157, 158, 159, 160, 161, 162, 163, 164, 165, 166, 167, 168, 169, 170, 171, 172, 173, 174, 175, 176, 177, 178, 179, 180, 181, 182, 183, 184, 185, 186, 187, 188, 189, 190, 191] (by decide +kernel) (by decide +kernel)
set_option maxRecDepth 20000 in
theorem gX12_daysBring_X12_passes : GoodIn wsX12_daysBring (wsV RX12 450 RX12 yX12_passes wsX12_passes) := goodIn_app (goodIn_of _ (by decide +kernel)) ggX12_daysBring_X12_passes
theorem dX12_daysBring_0 : decode cX12_daysBring 0 = .ok (.aload_n 0, 1) := by decide +kernel
theorem dX12_daysBring_1 : decode cX12_daysBring 1 = .ok (.getfield 114, 3) := by decide +kernel
theorem dX12_daysBring_4 : decode cX12_daysBring 4 = .ok (.iconst 0, 1) := by decide +kernel
theorem dX12_daysBring_5 : decode cX12_daysBring 5 = .ok (.aload_n 0, 1) := by decide +kernel
theorem dX12_daysBring_6 : decode cX12_daysBring 6 = .ok (.getfield 117, 3) := by decide +kernel
theorem dX12_daysBring_9 : decode cX12_daysBring 9 = .ok (.iconst 0, 1) := by decide +kernel
theorem dX12_daysBring_10 : decode cX12_daysBring 10 = .ok (.invokestatic 446, 3) := by decide +kernel
theorem dX12_daysBring_13 : decode cX12_daysBring 13 = .ok (.iconst 0, 1) := by decide +kernel
theorem dX12_daysBring_14 : decode cX12_daysBring 14 = .ok (.istore_n 3, 1) := by decide +kernel
theorem dX12_daysBring_15 : decode cX12_daysBring 15 = .ok (.iconst 0, 1) := by decide +kernel
theorem dX12_daysBring_16 : decode cX12_daysBring 16 = .ok (.istore 4, 2) := by decide +kernel
theorem dX12_daysBring_18 : decode cX12_daysBring 18 = .ok (.iload 4, 2) := by decide +kernel
theorem dX12_daysBring_20 : decode cX12_daysBring 20 = .ok (.iload_n 1, 1) := by decide +kernel
theorem dX12_daysBring_21 : decode cX12_daysBring 21 = .ok (.if_icmp .ge 37, 3) := by decide +kernel
theorem dX12_daysBring_24 : decode cX12_daysBring 24 = .ok (.iload 4, 2) := by decide +kernel
theorem dX12_daysBring_26 : decode cX12_daysBring 26 = .ok (.iload_n 2, 1) := by decide +kernel
theorem dX12_daysBring_27 : decode cX12_daysBring 27 = .ok (.if_icmp .ne 18, 3) := by decide +kernel
theorem dX12_daysBring_30 : decode cX12_daysBring 30 = .ok (.aload_n 0, 1) := by decide +kernel
theorem dX12_daysBring_31 : decode cX12_daysBring 31 = .ok (.invokevirtual 465, 3) := by decide +kernel
theorem dX12_daysBring_34 : decode cX12_daysBring 34 = .ok (.pop, 1) := by decide +kernel
theorem dX12_daysBring_35 : decode cX12_daysBring 35 = .ok (.iload_n 3, 1) := by decide +kernel
theorem dX12_daysBring_36 : decode cX12_daysBring 36 = .ok (.aload_n 0, 1) := by decide +kernel
theorem dX12_daysBring_37 : decode cX12_daysBring 37 = .ok (.getfield 13, 3) := by decide +kernel
theorem dX12_daysBring_40 : decode cX12_daysBring 40 = .ok (.bipush 6, 2) := by decide +kernel
theorem dX12_daysBring_42 : decode cX12_daysBring 42 = .ok (.iaload, 1) := by decide +kernel
theorem dX12_daysBring_43 : decode cX12_daysBring 43 = .ok (.isub, 1) := by decide +kernel
theorem dX12_daysBring_44 : decode cX12_daysBring 44 = .ok (.istore_n 3, 1) := by decide +kernel
theorem dX12_daysBring_45 : decode cX12_daysBring 45 = .ok (.iload_n 3, 1) := by decide +kernel
theorem dX12_daysBring_46 : decode cX12_daysBring 46 = .ok (.aload_n 0, 1) := by decide +kernel
theorem dX12_daysBring_47 : decode cX12_daysBring 47 = .ok (.invokevirtual 450, 3) := by decide +kernel
theorem dX12_daysBring_50 : decode cX12_daysBring 50 = .ok (.iadd, 1) := by decide +kernel
theorem dX12_daysBring_51 : decode cX12_daysBring 51 = .ok (.istore_n 3, 1) := by decide +kernel
theorem dX12_daysBring_52 : decode cX12_daysBring 52 = .ok (.iinc 4 1, 3) := by decide +kernel
theorem dX12_daysBring_55 : decode cX12_daysBring 55 = .ok (.goto (-37), 3) := by decide +kernel
theorem dX12_daysBring_58 : decode cX12_daysBring 58 = .ok (.aload_n 0, 1) := by decide +kernel
theorem dX12_daysBring_59 : decode cX12_daysBring 59 = .ok (.getfield 117, 3) := by decide +kernel
theorem dX12_daysBring_62 : decode cX12_daysBring 62 = .ok (.iconst 0, 1) := by decide +kernel
theorem dX12_daysBring_63 : decode cX12_daysBring 63 = .ok (.aload_n 0, 1) := by decide +kernel
theorem dX12_daysBring_64 : decode cX12_daysBring 64 = .ok (.getfield 114, 3) := by decide +kernel
theorem dX12_daysBring_67 : decode cX12_daysBring 67 = .ok (.iconst 0, 1) := by decide +kernel
theorem dX12_daysBring_68 : decode cX12_daysBring 68 = .ok (.invokestatic 446, 3) := by decide +kernel
theorem dX12_daysBring_71 : decode cX12_daysBring 71 = .ok (.iload_n 3, 1) := by decide +kernel
theorem dX12_daysBring_72 : decode cX12_daysBring 72 = .ok (.ireturn, 1) := by decide +kernel
set_option maxRecDepth 20000 in
theorem ggX12_when_X12_within : GoodIn wsX12_when wsX12_within := goodIn_r _ [5] (by decide +kernel) (by decide +kernel)
set_option maxRecDepth 20000 in
theorem gX12_when_X12_within : GoodIn wsX12_when (va_wsS RX12 293 yX12_within wsX12_within) := goodIn_app (goodIn_of _ (by decide +kernel)) ggX12_when_X12_within
set_option maxRecDepth 20000 in
theorem ggX12_when_X12_daysBring : GoodIn wsX12_when wsX12_daysBring := goodIn_r _ [9, 10, 11, 12, 13, 14, 4, 15, 16, 17, 18, 19, 20, 21, 22, 23, 24, 25, 26, 27, 28, 29, 30, 31, 32, 33, 34, 35, 36, 37, 38, 39, 40, 41, 42, 43, 44, 45, 46, 47, 48, 49, 50, 51, 52, 53, 54, 55, 56, 57, 58, 59, 60, 61, 62, 63, 64, 65, 66, 67, 68, 69, 70, 71, 72, 73, 74, 75, 76, 77, 78, 79, 80, 81, 82, 83, 84, 85, 86, 87, 88, 89, 90, 91, 92, 93, 94, 95, 96, 97, 98, 99, 100, 101, 102, 103, 104, 105, 106, 107, 108, 109, 110, 111, 112, 113, 114, 115, 116, 117, 118, 119, 120, 121, 122, 123, 124, 125, 126, 127, 128, 129, 130, 131, 132, 133, 134, 135, 136, 137, 138, 139, 140, 141, 142, 143, 144, 145, 146, 147, 148, 149, 150, 151, 152, 153, 154, 155, 156, 157, 158, 159, 160, 161, 162, 163, 164, 165, 166, 167, 168, 169, 170, 171, 172, 173, 174, 175, 176, 177, 178, 179, 180, 181, 182, 183, 184, 185, 186, 187, 188, 189, 190, 191, 192, 193, 194, 195, 196, 197, 198, 199] (by decide +kernel) (by decide +kernel)
set_option maxRecDepth 20000 in
theorem gX12_when_X12_daysBring : GoodIn wsX12_when (wsV RX12 474 RX12 yX12_daysBring wsX12_daysBring) := goodIn_app (goodIn_of _ (by decide +kernel)) ggX12_when_X12_daysBring
theorem dX12_when_0 : decode cX12_when 0 = .ok (.aload_n 0, 1) := by decide +kernel
theorem dX12_when_1 : decode cX12_when 1 = .ok (.iload_n 1, 1) := by decide +kernel
theorem dX12_when_2 : decode cX12_when 2 = .ok (.iconst 1, 1) := by decide +kernel
theorem dX12_when_3 : decode cX12_when 3 = .ok (.bipush 9, 2) := by decide +kernel
theorem dX12_when_5 : decode cX12_when 5 = .ok (.invokestatic 293, 3) := by decide +kernel
theorem dX12_when_8 : decode cX12_when 8 = .ok (.ifCond .eq 16, 3) := by decide +kernel
theorem dX12_when_11 : decode cX12_when 11 = .ok (.iload_n 2, 1) := by decide +kernel
theorem dX12_when_12 : decode cX12_when 12 = .ok (.iconst 0, 1) := by decide +kernel
theorem dX12_when_13 : decode cX12_when 13 = .ok (.iconst 1, 1) := by decide +kernel
theorem dX12_when_14 : decode cX12_when 14 = .ok (.invokestatic 293, 3) := by decide +kernel
theorem dX12_when_17 : decode cX12_when 17 = .ok (.ifCond .eq 7, 3) := by decide +kernel
theorem dX12_when_20 : decode cX12_when 20 = .ok (.iconst 0, 1) := by decide +kernel
theorem dX12_when_21 : decode cX12_when 21 = .ok (.goto 4, 3) := by decide +kernel
theorem dX12_when_24 : decode cX12_when 24 = .ok (.iconst 1, 1) := by decide +kernel
theorem dX12_when_25 : decode cX12_when 25 = .ok (.putfield 160, 3) := by decide +kernel
theorem dX12_when_28 : decode cX12_when 28 = .ok (.aload_n 0, 1) := by decide +kernel
theorem dX12_when_29 : decode cX12_when 29 = .ok (.getfield 160, 3) := by decide +kernel
theorem dX12_when_32 : decode cX12_when 32 = .ok (.iconst 1, 1) := by decide +kernel
theorem dX12_when_33 : decode cX12_when 33 = .ok (.if_icmp .ne 5, 3) := by decide +kernel
theorem dX12_when_36 : decode cX12_when 36 = .ok (.iconst 0, 1) := by decide +kernel
theorem dX12_when_37 : decode cX12_when 37 = .ok (.ireturn, 1) := by decide +kernel
theorem dX12_when_38 : decode cX12_when 38 = .ok (.iconst 0, 1) := by decide +kernel
theorem dX12_when_39 : decode cX12_when 39 = .ok (.istore_n 3, 1) := by decide +kernel
theorem dX12_when_40 : decode cX12_when 40 = .ok (.aload_n 0, 1) := by decide +kernel
theorem dX12_when_41 : decode cX12_when 41 = .ok (.iload_n 1, 1) := by decide +kernel
theorem dX12_when_42 : decode cX12_when 42 = .ok (.iconst 0, 1) := by decide +kernel
theorem dX12_when_43 : decode cX12_when 43 = .ok (.invokevirtual 474, 3) := by decide +kernel
theorem dX12_when_46 : decode cX12_when 46 = .ok (.istore 4, 2) := by decide +kernel
theorem dX12_when_48 : decode cX12_when 48 = .ok (.iconst 1, 1) := by decide +kernel
theorem dX12_when_49 : decode cX12_when 49 = .ok (.istore 5, 2) := by decide +kernel
theorem dX12_when_51 : decode cX12_when 51 = .ok (.iload 5, 2) := by decide +kernel
theorem dX12_when_53 : decode cX12_when 53 = .ok (.iload_n 1, 1) := by decide +kernel
theorem dX12_when_54 : decode cX12_when 54 = .ok (.if_icmp .gt 45, 3) := by decide +kernel
theorem dX12_when_57 : decode cX12_when 57 = .ok (.aload_n 0, 1) := by decide +kernel
theorem dX12_when_58 : decode cX12_when 58 = .ok (.iload_n 1, 1) := by decide +kernel
theorem dX12_when_59 : decode cX12_when 59 = .ok (.iload 5, 2) := by decide +kernel
theorem dX12_when_61 : decode cX12_when 61 = .ok (.iload_n 1, 1) := by decide +kernel
theorem dX12_when_62 : decode cX12_when 62 = .ok (.if_icmp .ne 7, 3) := by decide +kernel
theorem dX12_when_65 : decode cX12_when 65 = .ok (.iconst (-1), 1) := by decide +kernel
theorem dX12_when_66 : decode cX12_when 66 = .ok (.goto 5, 3) := by decide +kernel
theorem dX12_when_69 : decode cX12_when 69 = .ok (.iload 5, 2) := by decide +kernel
theorem dX12_when_71 : decode cX12_when 71 = .ok (.invokevirtual 474, 3) := by decide +kernel
theorem dX12_when_74 : decode cX12_when 74 = .ok (.istore 6, 2) := by decide +kernel
theorem dX12_when_76 : decode cX12_when 76 = .ok (.iload 6, 2) := by decide +kernel
theorem dX12_when_78 : decode cX12_when 78 = .ok (.iload 4, 2) := by decide +kernel
theorem dX12_when_80 : decode cX12_when 80 = .ok (.if_icmp .gt 6, 3) := by decide +kernel
theorem dX12_when_83 : decode cX12_when 83 = .ok (.goto 10, 3) := by decide +kernel
theorem dX12_when_86 : decode cX12_when 86 = .ok (.iload 5, 2) := by decide +kernel
theorem dX12_when_88 : decode cX12_when 88 = .ok (.istore_n 3, 1) := by decide +kernel
theorem dX12_when_89 : decode cX12_when 89 = .ok (.iload 6, 2) := by decide +kernel
theorem dX12_when_91 : decode cX12_when 91 = .ok (.istore 4, 2) := by decide +kernel
theorem dX12_when_93 : decode cX12_when 93 = .ok (.iinc 5 1, 3) := by decide +kernel
theorem dX12_when_96 : decode cX12_when 96 = .ok (.goto (-45), 3) := by decide +kernel
theorem dX12_when_99 : decode cX12_when 99 = .ok (.iload_n 2, 1) := by decide +kernel
theorem dX12_when_100 : decode cX12_when 100 = .ok (.ifCond .ne 8, 3) := by decide +kernel
theorem dX12_when_103 : decode cX12_when 103 = .ok (.iload 4, 2) := by decide +kernel
theorem dX12_when_105 : decode cX12_when 105 = .ok (.goto 13, 3) := by decide +kernel
theorem dX12_when_108 : decode cX12_when 108 = .ok (.iload_n 3, 1) := by decide +kernel
theorem dX12_when_109 : decode cX12_when 109 = .ok (.iload_n 1, 1) := by decide +kernel
theorem dX12_when_110 : decode cX12_when 110 = .ok (.if_icmp .ne 7, 3) := by decide +kernel
theorem dX12_when_113 : decode cX12_when 113 = .ok (.iconst (-1), 1) := by decide +kernel
theorem dX12_when_114 : decode cX12_when 114 = .ok (.goto 4, 3) := by decide +kernel
theorem dX12_when_117 : decode cX12_when 117 = .ok (.iload_n 3, 1) := by decide +kernel
theorem dX12_when_118 : decode cX12_when 118 = .ok (.ireturn, 1) := by decide +kernel
set_option maxRecDepth 20000 in
theorem ggX12_rule_X12_within : GoodIn wsX12_rule wsX12_within := goodIn_r _ [6] (by decide +kernel) (by decide +kernel)
set_option maxRecDepth 20000 in
theorem gX12_rule_X12_within : GoodIn wsX12_rule (va_wsS RX12 293 yX12_within wsX12_within) := goodIn_app (goodIn_of _ (by decide +kernel)) ggX12_rule_X12_within
