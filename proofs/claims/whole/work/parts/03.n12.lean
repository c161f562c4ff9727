set_option maxRecDepth 20000 in
theorem ggX12_rule_X12_daysBring : GoodIn wsX12_rule wsX12_daysBring := goodIn_r _ [10, 2, 11, 12, 13, 14, 5, 15, 16, 17, 18, 19, 20, 21, 22, 23, 24, 25, 26, 27, 28, 29, 30, 31, 32, 33, 34, 35, 36, 37, 38, 39, 40, 41, 42, 43, 44, 45, 46, 47, 48, 49, 50, 51, 52, 53, 54, 55, 56, 57, 58, 59, 60, 61, 62, 63, 64, 65, 66, 67, 68, 69, 70, 71, 72, 73, 74, 75, 76, 77, 78, 79, 80, 81, 82, 83, 84, 85, 86, 87, 88, 89, 90, 91, 92, 93, 94, 95, 96, 97, 98, 99, 100, 101, 102, 103, 104, 105, 106, 107, 108, 109, 110, 111, 112, 113, 114, 115, 116, 117, 118, 119, 120, 121, 122, 123, 124, 125, 126, 127, 128, 129, 130, 131, 132, 133, 134, 135, 136, 137, 138, 139, 140, 141, 142, 143, 144, 145, 146, 147, 148, 149, 150, 151, 152, 153, 154, 155, 156, 157, 158, 159, 160, 161, 162, 163, 164, 165, 166, 167, 168, 169, 170, 171, 172, 173, 174, 175, 176, 177, 178, 179, 180, 181, 182, 183, 184, 185, 186, 187, 188, 189, 190, 191, 192, 193, 194, 195, 196, 197, 198, 199] (by decide +kernel) (by decide +kernel)
set_option maxRecDepth 20000 in
theorem gX12_rule_X12_daysBring : GoodIn wsX12_rule (wsV RX12 474 RX12 yX12_daysBring wsX12_daysBring) := goodIn_app (goodIn_of _ (by decide +kernel)) ggX12_rule_X12_daysBring
theorem dX12_rule_0 : decode cX12_rule 0 = .ok (.aload_n 0, 1) := by decide +kernel
theorem dX12_rule_1 : decode cX12_rule 1 = .ok (.iload_n 1, 1) := by decide +kernel
theorem dX12_rule_2 : decode cX12_rule 2 = .ok (.iconst 1, 1) := by decide +kernel
theorem dX12_rule_3 : decode cX12_rule 3 = .ok (.bipush 30, 2) := by decide +kernel
theorem dX12_rule_5 : decode cX12_rule 5 = .ok (.invokestatic 293, 3) := by decide +kernel
theorem dX12_rule_8 : decode cX12_rule 8 = .ok (.ifCond .eq 17, 3) := by decide +kernel
theorem dX12_rule_11 : decode cX12_rule 11 = .ok (.iload_n 2, 1) := by decide +kernel
theorem dX12_rule_12 : decode cX12_rule 12 = .ok (.iconst 1, 1) := by decide +kernel
theorem dX12_rule_13 : decode cX12_rule 13 = .ok (.bipush 30, 2) := by decide +kernel
theorem dX12_rule_15 : decode cX12_rule 15 = .ok (.invokestatic 293, 3) := by decide +kernel
theorem dX12_rule_18 : decode cX12_rule 18 = .ok (.ifCond .eq 7, 3) := by decide +kernel
theorem dX12_rule_21 : decode cX12_rule 21 = .ok (.iconst 0, 1) := by decide +kernel
theorem dX12_rule_22 : decode cX12_rule 22 = .ok (.goto 4, 3) := by decide +kernel
theorem dX12_rule_25 : decode cX12_rule 25 = .ok (.iconst 1, 1) := by decide +kernel
theorem dX12_rule_26 : decode cX12_rule 26 = .ok (.putfield 160, 3) := by decide +kernel
theorem dX12_rule_29 : decode cX12_rule 29 = .ok (.aload_n 0, 1) := by decide +kernel
theorem dX12_rule_30 : decode cX12_rule 30 = .ok (.getfield 160, 3) := by decide +kernel
theorem dX12_rule_33 : decode cX12_rule 33 = .ok (.iconst 1, 1) := by decide +kernel
theorem dX12_rule_34 : decode cX12_rule 34 = .ok (.if_icmp .ne 5, 3) := by decide +kernel
theorem dX12_rule_37 : decode cX12_rule 37 = .ok (.iconst 0, 1) := by decide +kernel
theorem dX12_rule_38 : decode cX12_rule 38 = .ok (.ireturn, 1) := by decide +kernel
theorem dX12_rule_39 : decode cX12_rule 39 = .ok (.aload_n 0, 1) := by decide +kernel
theorem dX12_rule_40 : decode cX12_rule 40 = .ok (.getfield 114, 3) := by decide +kernel
theorem dX12_rule_43 : decode cX12_rule 43 = .ok (.iconst 1, 1) := by decide +kernel
theorem dX12_rule_44 : decode cX12_rule 44 = .ok (.iaload, 1) := by decide +kernel
theorem dX12_rule_45 : decode cX12_rule 45 = .ok (.istore_n 3, 1) := by decide +kernel
theorem dX12_rule_46 : decode cX12_rule 46 = .ok (.aload_n 0, 1) := by decide +kernel
theorem dX12_rule_47 : decode cX12_rule 47 = .ok (.getfield 114, 3) := by decide +kernel
theorem dX12_rule_50 : decode cX12_rule 50 = .ok (.iconst 1, 1) := by decide +kernel
theorem dX12_rule_51 : decode cX12_rule 51 = .ok (.iload_n 2, 1) := by decide +kernel
theorem dX12_rule_52 : decode cX12_rule 52 = .ok (.iastore, 1) := by decide +kernel
theorem dX12_rule_53 : decode cX12_rule 53 = .ok (.aload_n 0, 1) := by decide +kernel
theorem dX12_rule_54 : decode cX12_rule 54 = .ok (.iload_n 1, 1) := by decide +kernel
theorem dX12_rule_55 : decode cX12_rule 55 = .ok (.iconst (-1), 1) := by decide +kernel
theorem dX12_rule_56 : decode cX12_rule 56 = .ok (.invokevirtual 474, 3) := by decide +kernel
theorem dX12_rule_59 : decode cX12_rule 59 = .ok (.istore 4, 2) := by decide +kernel
theorem dX12_rule_61 : decode cX12_rule 61 = .ok (.aload_n 0, 1) := by decide +kernel
theorem dX12_rule_62 : decode cX12_rule 62 = .ok (.getfield 114, 3) := by decide +kernel
theorem dX12_rule_65 : decode cX12_rule 65 = .ok (.iconst 1, 1) := by decide +kernel
theorem dX12_rule_66 : decode cX12_rule 66 = .ok (.iload_n 3, 1) := by decide +kernel
theorem dX12_rule_67 : decode cX12_rule 67 = .ok (.iastore, 1) := by decide +kernel
theorem dX12_rule_68 : decode cX12_rule 68 = .ok (.iload 4, 2) := by decide +kernel
theorem dX12_rule_70 : decode cX12_rule 70 = .ok (.ireturn, 1) := by decide +kernel
set_option maxRecDepth 20000 in
theorem ggX12_lasts_X12_isKey : GoodIn wsX12_lasts wsX12_isKey := goodIn_r _ [8] (by decide +kernel) (by decide +kernel)
set_option maxRecDepth 20000 in
theorem gX12_lasts_X12_isKey : GoodIn wsX12_lasts (wsV RX12 459 RX12 yX12_isKey wsX12_isKey) := goodIn_app (goodIn_of _ (by decide +kernel)) ggX12_lasts_X12_isKey
set_option maxRecDepth 20000 in
theorem ggX12_lasts_X12_copies : GoodIn wsX12_lasts wsX12_copies := goodIn_r _ [11] (by decide +kernel) (by decide +kernel)
set_option maxRecDepth 20000 in
theorem gX12_lasts_X12_copies : GoodIn wsX12_lasts (va_wsS RX12 446 yX12_copies wsX12_copies) := goodIn_app (goodIn_of _ (by decide +kernel)) ggX12_lasts_X12_copies
set_option maxRecDepth 20000 in
theorem ggX12_lasts_X12_passes : GoodIn wsX12_lasts wsX12_passes := goodIn_r _ [15, 16, 17, 18, 19, 20, 7, 21, 22, 23, 24, 25, 26, 2, 27, 28, 29, 30, 31, 32, 33, 34, 35, 36, 37, 38, 39, 40, 41, 42, 43, 44, 45, 46, 47, 48, 49, 50, 51, 52, 53, 54, 55, 56, 57, 58, 59, 60, 61, 62, 63, 64, 65, 66, 67, 68, 69, 70, 71, 72, 73, 74, 75, 76, 77, 78, 79, 80, 81, 82, 83, 84, 85, 86, 87, 88, 89, 90, 91, 92, 93, 94, 95, 96, 97, 98, 99, 100, 101, 102, 103, 104, 105, 106, 107, 108, 109, 110, 111, 112, 113, 114, 115, 116, 117, 118, 119, 120, 121, 122, 123, 124, 125, 126, 127, 128, 129, 130, 131, 132, 133, 134, 135, 136, 137, 138, 139, 140, 141, 142, 143, 144, 145, 146, 147, 148, 149, 150, 151, 152, 153, 154, 155, 156, 157, 158, 159, 160, 161, 162, 163, 164, 165, 166, 167, 168, 169, 170, 171, 172, 173, 174, 175, 176, 177, 178, 179, 180, 181, 182, 183, 184, 185, 186, 187, 188, 189, 190, 191, 192] (by decide +kernel) (by decide +kernel)
set_option maxRecDepth 20000 in
theorem gX12_lasts_X12_passes : GoodIn wsX12_lasts (wsV RX12 450 RX12 yX12_passes wsX12_passes) := goodIn_app (goodIn_of _ (by decide +kernel)) ggX12_lasts_X12_passes
theorem dX12_lasts_0 : decode cX12_lasts 0 = .ok (.aload_n 0, 1) := by decide +kernel
theorem dX12_lasts_1 : decode cX12_lasts 1 = .ok (.iconst 0, 1) := by decide +kernel
theorem dX12_lasts_2 : decode cX12_lasts 2 = .ok (.putfield 160, 3) := by decide +kernel
theorem dX12_lasts_5 : decode cX12_lasts 5 = .ok (.aload_n 0, 1) := by decide +kernel
theorem dX12_lasts_6 : decode cX12_lasts 6 = .ok (.iload_n 1, 1) := by decide +kernel
theorem dX12_lasts_7 : decode cX12_lasts 7 = .ok (.invokevirtual 459, 3) := by decide +kernel
theorem dX12_lasts_10 : decode cX12_lasts 10 = .ok (.ifCond .ne 5, 3) := by decide +kernel
theorem dX12_lasts_13 : decode cX12_lasts 13 = .ok (.iconst (-1), 1) := by decide +kernel
theorem dX12_lasts_14 : decode cX12_lasts 14 = .ok (.ireturn, 1) := by decide +kernel
theorem dX12_lasts_15 : decode cX12_lasts 15 = .ok (.aload_n 0, 1) := by decide +kernel
theorem dX12_lasts_16 : decode cX12_lasts 16 = .ok (.getfield 114, 3) := by decide +kernel
theorem dX12_lasts_19 : decode cX12_lasts 19 = .ok (.iconst 0, 1) := by decide +kernel
theorem dX12_lasts_20 : decode cX12_lasts 20 = .ok (.aload_n 0, 1) := by decide +kernel
theorem dX12_lasts_21 : decode cX12_lasts 21 = .ok (.getfield 117, 3) := by decide +kernel
theorem dX12_lasts_24 : decode cX12_lasts 24 = .ok (.iconst 0, 1) := by decide +kernel
theorem dX12_lasts_25 : decode cX12_lasts 25 = .ok (.invokestatic 446, 3) := by decide +kernel
theorem dX12_lasts_28 : decode cX12_lasts 28 = .ok (.iconst 0, 1) := by decide +kernel
theorem dX12_lasts_29 : decode cX12_lasts 29 = .ok (.istore_n 2, 1) := by decide +kernel
theorem dX12_lasts_30 : decode cX12_lasts 30 = .ok (.iload_n 2, 1) := by decide +kernel
theorem dX12_lasts_31 : decode cX12_lasts 31 = .ok (.bipush 61, 2) := by decide +kernel
theorem dX12_lasts_33 : decode cX12_lasts 33 = .ok (.if_icmp .ge 27, 3) := by decide +kernel
theorem dX12_lasts_36 : decode cX12_lasts 36 = .ok (.aload_n 0, 1) := by decide +kernel
theorem dX12_lasts_37 : decode cX12_lasts 37 = .ok (.getfield 114, 3) := by decide +kernel
theorem dX12_lasts_40 : decode cX12_lasts 40 = .ok (.iconst 5, 1) := by decide +kernel
theorem dX12_lasts_41 : decode cX12_lasts 41 = .ok (.iload_n 1, 1) := by decide +kernel
theorem dX12_lasts_42 : decode cX12_lasts 42 = .ok (.iadd, 1) := by decide +kernel
theorem dX12_lasts_43 : decode cX12_lasts 43 = .ok (.iaload, 1) := by decide +kernel
theorem dX12_lasts_44 : decode cX12_lasts 44 = .ok (.bipush 9, 2) := by decide +kernel
theorem dX12_lasts_46 : decode cX12_lasts 46 = .ok (.if_icmp .ge 14, 3) := by decide +kernel
theorem dX12_lasts_49 : decode cX12_lasts 49 = .ok (.aload_n 0, 1) := by decide +kernel
theorem dX12_lasts_50 : decode cX12_lasts 50 = .ok (.invokevirtual 450, 3) := by decide +kernel
theorem dX12_lasts_53 : decode cX12_lasts 53 = .ok (.pop, 1) := by decide +kernel
theorem dX12_lasts_54 : decode cX12_lasts 54 = .ok (.iinc 2 1, 3) := by decide +kernel
theorem dX12_lasts_57 : decode cX12_lasts 57 = .ok (.goto (-27), 3) := by decide +kernel
theorem dX12_lasts_60 : decode cX12_lasts 60 = .ok (.aload_n 0, 1) := by decide +kernel
theorem dX12_lasts_61 : decode cX12_lasts 61 = .ok (.getfield 117, 3) := by decide +kernel
theorem dX12_lasts_64 : decode cX12_lasts 64 = .ok (.iconst 0, 1) := by decide +kernel
theorem dX12_lasts_65 : decode cX12_lasts 65 = .ok (.aload_n 0, 1) := by decide +kernel
theorem dX12_lasts_66 : decode cX12_lasts 66 = .ok (.getfield 114, 3) := by decide +kernel
theorem dX12_lasts_69 : decode cX12_lasts 69 = .ok (.iconst 0, 1) := by decide +kernel
theorem dX12_lasts_70 : decode cX12_lasts 70 = .ok (.invokestatic 446, 3) := by decide +kernel
theorem dX12_lasts_73 : decode cX12_lasts 73 = .ok (.iload_n 2, 1) := by decide +kernel
theorem dX12_lasts_74 : decode cX12_lasts 74 = .ok (.bipush 61, 2) := by decide +kernel
theorem dX12_lasts_76 : decode cX12_lasts 76 = .ok (.if_icmp .ne 7, 3) := by decide +kernel
theorem dX12_lasts_79 : decode cX12_lasts 79 = .ok (.iconst (-1), 1) := by decide +kernel
theorem dX12_lasts_80 : decode cX12_lasts 80 = .ok (.goto 4, 3) := by decide +kernel
theorem dX12_lasts_83 : decode cX12_lasts 83 = .ok (.iload_n 2, 1) := by decide +kernel
theorem dX12_lasts_84 : decode cX12_lasts 84 = .ok (.ireturn, 1) := by decide +kernel
set_option maxRecDepth 20000 in
theorem ggX12_without_X12_isPasser : GoodIn wsX12_without wsX12_isPasser := goodIn_r _ [6, 7, 134, 135, 136, 137, 138, 139, 140, 141, 142, 143, 144, 145, 146, 147, 148, 149, 150, 151, 152, 153, 154, 155, 156, 157, 158, 159, 160, 161, 162, 163, 164, 165, 166, 167, 168, 169, 170, 171, 172, 173, 174, 175, 176, 177, 178, 179, 180, 181, 182, 183, 184, 185, 186, 187, 188, 189, 190, 191, 192, 193, 194, 195, 196, 197, 198, 199, 200] (by decide +kernel) (by decide +kernel)
set_option maxRecDepth 20000 in
theorem gX12_without_X12_isPasser : GoodIn wsX12_without (wsV RX12 456 RX12 yX12_isPasser wsX12_isPasser) := goodIn_app (goodIn_of _ (by decide +kernel)) ggX12_without_X12_isPasser
set_option maxRecDepth 20000 in
theorem ggX12_without_X12_triesWithout : GoodIn wsX12_without wsX12_triesWithout := goodIn_r _ [11, 12, 13, 14, 15, 5, 16, 17, 18, 19, 20, 21, 22, 23, 24, 25, 26, 27, 28, 29, 30, 31, 32, 33, 34, 35, 36, 37, 38, 39, 40, 7, 41, 42, 43, 44, 45, 46, 47, 48, 49, 50, 51, 52, 53, 54, 55, 56, 57, 58, 59, 60, 61, 62, 63, 64, 65, 66, 67, 68, 69, 70, 71, 72, 73, 74, 75, 76, 77, 78, 79, 80, 81, 82, 83, 84, 85, 86, 87, 88, 89, 90, 91, 92, 93, 94, 95, 96, 97, 98, 99, 100, 101, 102, 103, 104, 105, 106, 107, 108, 109, 110, 111, 112, 113, 114, 115, 116, 117, 118, 119, 120, 121, 122, 123, 124, 125, 126, 127, 128, 129, 130, 131, 132, 133, 134, 135, 136, 137, 138, 139, 140, 141, 142, 143, 144, 145, 146, 147, 148, 149, 150, 151, 152, 153, 154, 155, 156, 157, 158, 159, 160, 161, 162, 163, 164, 165, 166, 167, 168, 169, 170, 171, 172, 173, 174, 175, 176, 177, 178, 179, 180, 181, 182, 183, 184, 185, 186, 187, 188, 189, 190, 191, 192, 193, 194, 195, 196, 197, 198, 199, 200] (by decide +kernel) (by decide +kernel)
set_option maxRecDepth 20000 in
theorem gX12_without_X12_triesWithout : GoodIn wsX12_without (wsV RX12 477 RX12 yX12_triesWithout wsX12_triesWithout) := goodIn_app (goodIn_of _ (by decide +kernel)) ggX12_without_X12_triesWithout
set_option maxRecDepth 20000 in
theorem ggX12_without_X12_tries : GoodIn wsX12_without wsX12_tries := goodIn_r _ [16, 17, 18, 19, 20, 5, 21, 22, 23, 24, 25, 26, 27, 28, 29, 30, 31, 32, 33, 34, 35, 36, 37, 38, 39, 40, 7, 12, 41, 42, 43, 44, 45, 46, 47, 48, 49, 50, 51, 52, 53, 54, 55, 56, 57, 58, 59, 60, 61, 62, 63, 64, 65, 66, 67, 68, 69, 70, 71, 72, 73, 74, 75, 76, 77, 78, 79, 80, 81, 82, 83, 84, 85, 86, 87, 88, 89, 90, 91, 92, 93, 94, 95, 96, 97, 98, 99, 100, 101, 102, 103, 104, 105, 106, 107, 108, 109, 110, 111, 112, 113, 114, 115, 116, 117, 118, 119, 120, 121, 122, 123, 124, 125, 126, 127, 128, 129, 130, 131, 132, 133, 134, 135, 136, 137, 138, 139, 140, 141, 142, 143, 144, 145, 146, 147, 148, 149, 150, 151, 152, 153, 154, 155, 156, 157, 158, 159, 160, 161, 162, 163, 164, 165, 166, 167, 168, 169, 170, 171, 172, 173, 174, 175, 176, 177, 178, 179, 180, 181, 182, 183, 184, 185, 186, 187, 188, 189, 190, 191, 192, 193, 194, 195, 196, 197, 198, 199, 200] (by decide +kernel) (by decide +kernel)
set_option maxRecDepth 20000 in
theorem gX12_without_X12_tries : GoodIn wsX12_without (wsV RX12 453 RX12 yX12_tries wsX12_tries) := goodIn_app (goodIn_of _ (by decide +kernel)) ggX12_without_X12_tries
theorem dX12_without_0 : decode cX12_without 0 = .ok (.aload_n 0, 1) := by decide +kernel
theorem dX12_without_1 : decode cX12_without 1 = .ok (.aload_n 0, 1) := by decide +kernel
theorem dX12_without_2 : decode cX12_without 2 = .ok (.iload_n 1, 1) := by decide +kernel
theorem dX12_without_3 : decode cX12_without 3 = .ok (.invokevirtual 456, 3) := by decide +kernel
theorem dX12_without_6 : decode cX12_without 6 = .ok (.ifCond .eq 7, 3) := by decide +kernel
theorem dX12_without_9 : decode cX12_without 9 = .ok (.iconst 0, 1) := by decide +kernel
theorem dX12_without_10 : decode cX12_without 10 = .ok (.goto 4, 3) := by decide +kernel
theorem dX12_without_13 : decode cX12_without 13 = .ok (.iconst 1, 1) := by decide +kernel
theorem dX12_without_14 : decode cX12_without 14 = .ok (.putfield 160, 3) := by decide +kernel
theorem dX12_without_17 : decode cX12_without 17 = .ok (.aload_n 0, 1) := by decide +kernel
theorem dX12_without_18 : decode cX12_without 18 = .ok (.getfield 160, 3) := by decide +kernel
theorem dX12_without_21 : decode cX12_without 21 = .ok (.iconst 1, 1) := by decide +kernel
theorem dX12_without_22 : decode cX12_without 22 = .ok (.if_icmp .ne 7, 3) := by decide +kernel
theorem dX12_without_25 : decode cX12_without 25 = .ok (.iconst 0, 1) := by decide +kernel
theorem dX12_without_26 : decode cX12_without 26 = .ok (.goto 15, 3) := by decide +kernel
theorem dX12_without_29 : decode cX12_without 29 = .ok (.aload_n 0, 1) := by decide +kernel
theorem dX12_without_30 : decode cX12_without 30 = .ok (.iconst 1, 1) := by decide +kernel
theorem dX12_without_31 : decode cX12_without 31 = .ok (.iload_n 1, 1) := by decide +kernel
theorem dX12_without_32 : decode cX12_without 32 = .ok (.ishl, 1) := by decide +kernel
theorem dX12_without_33 : decode cX12_without 33 = .ok (.invokevirtual 477, 3) := by decide +kernel
theorem dX12_without_36 : decode cX12_without 36 = .ok (.aload_n 0, 1) := by decide +kernel
theorem dX12_without_37 : decode cX12_without 37 = .ok (.invokevirtual 453, 3) := by decide +kernel
theorem dX12_without_40 : decode cX12_without 40 = .ok (.isub, 1) := by decide +kernel
theorem dX12_without_41 : decode cX12_without 41 = .ok (.ireturn, 1) := by decide +kernel
set_option maxRecDepth 20000 in
theorem ggX12_rarer_X12_within : GoodIn wsX12_rarer wsX12_within := goodIn_r _ [6] (by decide +kernel) (by decide +kernel)
set_option maxRecDepth 20000 in
theorem gX12_rarer_X12_within : GoodIn wsX12_rarer (va_wsS RX12 293 yX12_within wsX12_within) := goodIn_app (goodIn_of _ (by decide +kernel)) ggX12_rarer_X12_within
set_option maxRecDepth 20000 in
theorem ggX12_rarer_X12_bits : GoodIn wsX12_rarer wsX12_bits := goodIn_r _ [9] (by decide +kernel) (by decide +kernel)
set_option maxRecDepth 20000 in
theorem gX12_rarer_X12_bits : GoodIn wsX12_rarer (va_wsS RX12 480 yX12_bits wsX12_bits) := goodIn_app (goodIn_of _ (by decide +kernel)) ggX12_rarer_X12_bits
set_option maxRecDepth 20000 in
theorem ggX12_rarer_X12_triesWithout : GoodIn wsX12_rarer wsX12_triesWithout := goodIn_r _ [13, 14, 15, 16, 17, 5, 18, 19, 20, 21, 22, 23, 24, 25, 26, 27, 28, 29, 30, 31, 32, 33, 34, 35, 36, 37, 38, 39, 40, 41, 42, 2, 43, 44, 45, 46, 47, 48, 49, 50, 51, 52, 53, 54, 55, 56, 57, 58, 59, 60, 61, 62, 63, 64, 65, 66, 67, 68, 69, 70, 71, 72, 73, 74, 75, 76, 77, 78, 79, 80, 81, 82, 83, 84, 85, 86, 87, 88, 89, 90, 91, 92, 93, 94, 95, 96, 97, 98, 99, 100, 101, 102, 103, 104, 105, 106, 107, 108, 109, 110, 111, 112, 113, 114, 115, 116, 117, 118, 119, 120, 121, 122, 123, 124, 125, 126, 127, 128, 129, 130, 131, 132, 133, 134, 135, 136, 137, 138, 139, 140, 141, 142, 143, 144, 145, 146, 147, 148, 149, 150, 151, 152, 153, 154, 155, 156, 157, 158, 159, 160, 161, 162, 163, 164, 165, 166, 167, 168, 169, 170, 171, 172, 173, 174, 175, 176, 177, 178, 179, 180, 181, 182, 183, 184, 185, 186, 187, 188, 189, 190, 191, 192, 193, 194, 195, 196, 197, 198, 199, 200, 201, 202] (by decide +kernel) (by decide +kernel)
set_option maxRecDepth 20000 in
theorem gX12_rarer_X12_triesWithout : GoodIn wsX12_rarer (wsV RX12 477 RX12 yX12_triesWithout wsX12_triesWithout) := goodIn_app (goodIn_of _ (by decide +kernel)) ggX12_rarer_X12_triesWithout
theorem dX12_rarer_0 : decode cX12_rarer 0 = .ok (.aload_n 0, 1) := by decide +kernel
theorem dX12_rarer_1 : decode cX12_rarer 1 = .ok (.iconst 0, 1) := by decide +kernel
theorem dX12_rarer_2 : decode cX12_rarer 2 = .ok (.putfield 160, 3) := by decide +kernel
theorem dX12_rarer_5 : decode cX12_rarer 5 = .ok (.iload_n 1, 1) := by decide +kernel
theorem dX12_rarer_6 : decode cX12_rarer 6 = .ok (.sipush (-9999), 3) := by decide +kernel
theorem dX12_rarer_9 : decode cX12_rarer 9 = .ok (.sipush 9999, 3) := by decide +kernel
theorem dX12_rarer_12 : decode cX12_rarer 12 = .ok (.invokestatic 293, 3) := by decide +kernel
theorem dX12_rarer_15 : decode cX12_rarer 15 = .ok (.ifCond .ne 5, 3) := by decide +kernel
theorem dX12_rarer_18 : decode cX12_rarer 18 = .ok (.iconst (-1), 1) := by decide +kernel
theorem dX12_rarer_19 : decode cX12_rarer 19 = .ok (.ireturn, 1) := by decide +kernel
theorem dX12_rarer_20 : decode cX12_rarer 20 = .ok (.iconst (-1), 1) := by decide +kernel
theorem dX12_rarer_21 : decode cX12_rarer 21 = .ok (.istore_n 2, 1) := by decide +kernel
theorem dX12_rarer_22 : decode cX12_rarer 22 = .ok (.iconst 0, 1) := by decide +kernel
theorem dX12_rarer_23 : decode cX12_rarer 23 = .ok (.istore_n 3, 1) := by decide +kernel
theorem dX12_rarer_24 : decode cX12_rarer 24 = .ok (.iload_n 3, 1) := by decide +kernel
theorem dX12_rarer_25 : decode cX12_rarer 25 = .ok (.iconst 1, 1) := by decide +kernel
theorem dX12_rarer_26 : decode cX12_rarer 26 = .ok (.aload_n 0, 1) := by decide +kernel
theorem dX12_rarer_27 : decode cX12_rarer 27 = .ok (.getfield 13, 3) := by decide +kernel
theorem dX12_rarer_30 : decode cX12_rarer 30 = .ok (.iconst 1, 1) := by decide +kernel
theorem dX12_rarer_31 : decode cX12_rarer 31 = .ok (.iaload, 1) := by decide +kernel
theorem dX12_rarer_32 : decode cX12_rarer 32 = .ok (.ishl, 1) := by decide +kernel
theorem dX12_rarer_33 : decode cX12_rarer 33 = .ok (.if_icmp .ge 35, 3) := by decide +kernel
theorem dX12_rarer_36 : decode cX12_rarer 36 = .ok (.iload_n 2, 1) := by decide +kernel
theorem dX12_rarer_37 : decode cX12_rarer 37 = .ok (.ifCond .lt 14, 3) := by decide +kernel
theorem dX12_rarer_40 : decode cX12_rarer 40 = .ok (.iload_n 3, 1) := by decide +kernel
theorem dX12_rarer_41 : decode cX12_rarer 41 = .ok (.invokestatic 480, 3) := by decide +kernel
theorem dX12_rarer_44 : decode cX12_rarer 44 = .ok (.iload_n 2, 1) := by decide +kernel
theorem dX12_rarer_45 : decode cX12_rarer 45 = .ok (.invokestatic 480, 3) := by decide +kernel
theorem dX12_rarer_48 : decode cX12_rarer 48 = .ok (.if_icmp .ge 14, 3) := by decide +kernel
theorem dX12_rarer_51 : decode cX12_rarer 51 = .ok (.aload_n 0, 1) := by decide +kernel
theorem dX12_rarer_52 : decode cX12_rarer 52 = .ok (.iload_n 3, 1) := by decide +kernel
theorem dX12_rarer_53 : decode cX12_rarer 53 = .ok (.invokevirtual 477, 3) := by decide +kernel
theorem dX12_rarer_56 : decode cX12_rarer 56 = .ok (.iload_n 1, 1) := by decide +kernel
theorem dX12_rarer_57 : decode cX12_rarer 57 = .ok (.if_icmp .lt 5, 3) := by decide +kernel
theorem dX12_rarer_60 : decode cX12_rarer 60 = .ok (.iload_n 3, 1) := by decide +kernel
theorem dX12_rarer_61 : decode cX12_rarer 61 = .ok (.istore_n 2, 1) := by decide +kernel
theorem dX12_rarer_62 : decode cX12_rarer 62 = .ok (.iinc 3 1, 3) := by decide +kernel
theorem dX12_rarer_65 : decode cX12_rarer 65 = .ok (.goto (-41), 3) := by decide +kernel
theorem dX12_rarer_68 : decode cX12_rarer 68 = .ok (.iload_n 2, 1) := by decide +kernel
theorem dX12_rarer_69 : decode cX12_rarer 69 = .ok (.ireturn, 1) := by decide +kernel
set_option maxRecDepth 20000 in
theorem ggX12_dare_X12_within : GoodIn wsX12_dare wsX12_within := goodIn_r _ [6] (by decide +kernel) (by decide +kernel)
set_option maxRecDepth 20000 in
theorem gX12_dare_X12_within : GoodIn wsX12_dare (va_wsS RX12 293 yX12_within wsX12_within) := goodIn_app (goodIn_of _ (by decide +kernel)) ggX12_dare_X12_within
set_option maxRecDepth 20000 in
theorem ggX12_dare_X12_wouldDare : GoodIn wsX12_dare wsX12_wouldDare := goodIn_r _ [10, 11, 12, 13, 14, 15, 16, 17, 18, 19, 20, 21, 22, 23, 24, 25, 26, 27, 28, 29, 30, 31, 32, 33, 34, 35, 36, 37, 38, 39, 40, 41, 42, 43, 44, 45, 46, 47, 48, 49, 50, 51, 52, 53, 54, 55, 56, 57, 58, 59, 60, 61, 62, 63, 64, 65, 66, 67, 68, 69, 70, 71, 72, 73, 74, 75, 76, 77, 78, 79] (by decide +kernel) (by decide +kernel)
set_option maxRecDepth 20000 in
theorem gX12_dare_X12_wouldDare : GoodIn wsX12_dare (wsV RX12 410 RX12 yX12_wouldDare wsX12_wouldDare) := goodIn_app (goodIn_of _ (by decide +kernel)) ggX12_dare_X12_wouldDare
theorem dX12_dare_0 : decode cX12_dare 0 = .ok (.aload_n 0, 1) := by decide +kernel
theorem dX12_dare_1 : decode cX12_dare 1 = .ok (.iconst 0, 1) := by decide +kernel
theorem dX12_dare_2 : decode cX12_dare 2 = .ok (.putfield 160, 3) := by decide +kernel
theorem dX12_dare_5 : decode cX12_dare 5 = .ok (.iload_n 1, 1) := by decide +kernel
theorem dX12_dare_6 : decode cX12_dare 6 = .ok (.iconst 0, 1) := by decide +kernel
theorem dX12_dare_7 : decode cX12_dare 7 = .ok (.bipush 9, 2) := by decide +kernel
theorem dX12_dare_9 : decode cX12_dare 9 = .ok (.invokestatic 293, 3) := by decide +kernel
theorem dX12_dare_12 : decode cX12_dare 12 = .ok (.ifCond .ne 5, 3) := by decide +kernel
theorem dX12_dare_15 : decode cX12_dare 15 = .ok (.iconst (-1), 1) := by decide +kernel
theorem dX12_dare_16 : decode cX12_dare 16 = .ok (.ireturn, 1) := by decide +kernel
theorem dX12_dare_17 : decode cX12_dare 17 = .ok (.iconst 0, 1) := by decide +kernel
theorem dX12_dare_18 : decode cX12_dare 18 = .ok (.istore_n 2, 1) := by decide +kernel
theorem dX12_dare_19 : decode cX12_dare 19 = .ok (.iconst 0, 1) := by decide +kernel
theorem dX12_dare_20 : decode cX12_dare 20 = .ok (.istore_n 3, 1) := by decide +kernel
theorem dX12_dare_21 : decode cX12_dare 21 = .ok (.iload_n 3, 1) := by decide +kernel
theorem dX12_dare_22 : decode cX12_dare 22 = .ok (.aload_n 0, 1) := by decide +kernel
theorem dX12_dare_23 : decode cX12_dare 23 = .ok (.getfield 13, 3) := by decide +kernel
theorem dX12_dare_26 : decode cX12_dare 26 = .ok (.iconst 1, 1) := by decide +kernel
theorem dX12_dare_27 : decode cX12_dare 27 = .ok (.iaload, 1) := by decide +kernel
theorem dX12_dare_28 : decode cX12_dare 28 = .ok (.if_icmp .ge 28, 3) := by decide +kernel
theorem dX12_dare_31 : decode cX12_dare 31 = .ok (.iload_n 2, 1) := by decide +kernel
theorem dX12_dare_32 : decode cX12_dare 32 = .ok (.aload_n 0, 1) := by decide +kernel
theorem dX12_dare_33 : decode cX12_dare 33 = .ok (.iload_n 3, 1) := by decide +kernel
theorem dX12_dare_34 : decode cX12_dare 34 = .ok (.iload_n 1, 1) := by decide +kernel
theorem dX12_dare_35 : decode cX12_dare 35 = .ok (.invokevirtual 410, 3) := by decide +kernel
theorem dX12_dare_38 : decode cX12_dare 38 = .ok (.ifCond .eq 9, 3) := by decide +kernel
theorem dX12_dare_41 : decode cX12_dare 41 = .ok (.iconst 1, 1) := by decide +kernel
theorem dX12_dare_42 : decode cX12_dare 42 = .ok (.iload_n 3, 1) := by decide +kernel
theorem dX12_dare_43 : decode cX12_dare 43 = .ok (.ishl, 1) := by decide +kernel
theorem dX12_dare_44 : decode cX12_dare 44 = .ok (.goto 4, 3) := by decide +kernel
theorem dX12_dare_47 : decode cX12_dare 47 = .ok (.iconst 0, 1) := by decide +kernel
theorem dX12_dare_48 : decode cX12_dare 48 = .ok (.ior, 1) := by decide +kernel
theorem dX12_dare_49 : decode cX12_dare 49 = .ok (.istore_n 2, 1) := by decide +kernel
theorem dX12_dare_50 : decode cX12_dare 50 = .ok (.iinc 3 1, 3) := by decide +kernel
theorem dX12_dare_53 : decode cX12_dare 53 = .ok (.goto (-32), 3) := by decide +kernel
theorem dX12_dare_56 : decode cX12_dare 56 = .ok (.iload_n 2, 1) := by decide +kernel
theorem dX12_dare_57 : decode cX12_dare 57 = .ok (.ireturn, 1) := by decide +kernel
set_option maxRecDepth 20000 in
theorem ggX12_strikes_X12_isPasser : GoodIn wsX12_strikes wsX12_isPasser := goodIn_r _ [6, 7, 36, 37, 38, 39, 40, 41, 42, 43, 44, 45, 46, 47, 48, 49, 50, 51, 52, 53, 54, 55, 56, 57, 58, 59, 60, 61, 62, 63, 64, 65, 66, 67, 68, 69, 70, 71, 72, 73, 74, 75, 76, 77, 78, 79, 80, 81, 82, 83, 84, 85, 86, 87, 88, 89, 90, 91, 92, 93, 94, 95, 96, 97, 98, 99, 100, 101, 102] (by decide +kernel) (by decide +kernel)
set_option maxRecDepth 20000 in
theorem gX12_strikes_X12_isPasser : GoodIn wsX12_strikes (wsV RX12 456 RX12 yX12_isPasser wsX12_isPasser) := goodIn_app (goodIn_of _ (by decide +kernel)) ggX12_strikes_X12_isPasser
set_option maxRecDepth 20000 in
theorem ggX12_strikes_X12_isKey : GoodIn wsX12_strikes wsX12_isKey := goodIn_r _ [11] (by decide +kernel) (by decide +kernel)
set_option maxRecDepth 20000 in
theorem gX12_strikes_X12_isKey : GoodIn wsX12_strikes (wsV RX12 459 RX12 yX12_isKey wsX12_isKey) := goodIn_app (goodIn_of _ (by decide +kernel)) ggX12_strikes_X12_isKey
set_option maxRecDepth 20000 in
theorem ggX12_strikes_X12_strikesOf : GoodIn wsX12_strikes wsX12_strikesOf := goodIn_r _ [15, 16, 17, 18, 5, 19, 20, 21, 22, 23, 24, 25, 26, 27, 28, 29, 30, 31, 32, 33, 34, 35, 36, 37, 38, 39, 40, 41, 42, 43, 44, 45, 46, 47, 48, 49, 50, 51, 52, 53, 54, 55, 56, 57, 58, 59, 60, 61, 62, 63, 64, 65, 66, 67, 68, 69, 70, 71, 72, 73, 74, 75, 76, 77, 78, 79, 80, 81, 82, 83, 84, 85, 86, 87, 88, 89, 90, 91, 92, 93, 94, 95, 96, 97, 98, 99, 100, 101, 102] (by decide +kernel) (by decide +kernel)
set_option maxRecDepth 20000 in
theorem gX12_strikes_X12_strikesOf : GoodIn wsX12_strikes (wsV RX12 483 RX12 yX12_strikesOf wsX12_strikesOf) := goodIn_app (goodIn_of _ (by decide +kernel)) ggX12_strikes_X12_strikesOf
theorem dX12_strikes_0 : decode cX12_strikes 0 = .ok (.aload_n 0, 1) := by decide +kernel
theorem dX12_strikes_1 : decode cX12_strikes 1 = .ok (.iconst 0, 1) := by decide +kernel
theorem dX12_strikes_2 : decode cX12_strikes 2 = .ok (.putfield 160, 3) := by decide +kernel
theorem dX12_strikes_5 : decode cX12_strikes 5 = .ok (.aload_n 0, 1) := by decide +kernel
theorem dX12_strikes_6 : decode cX12_strikes 6 = .ok (.iload_n 1, 1) := by decide +kernel
theorem dX12_strikes_7 : decode cX12_strikes 7 = .ok (.invokevirtual 456, 3) := by decide +kernel
theorem dX12_strikes_10 : decode cX12_strikes 10 = .ok (.ifCond .eq 20, 3) := by decide +kernel
theorem dX12_strikes_13 : decode cX12_strikes 13 = .ok (.aload_n 0, 1) := by decide +kernel
theorem dX12_strikes_14 : decode cX12_strikes 14 = .ok (.iload_n 2, 1) := by decide +kernel
theorem dX12_strikes_15 : decode cX12_strikes 15 = .ok (.invokevirtual 459, 3) := by decide +kernel
theorem dX12_strikes_18 : decode cX12_strikes 18 = .ok (.ifCond .eq 12, 3) := by decide +kernel
theorem dX12_strikes_21 : decode cX12_strikes 21 = .ok (.aload_n 0, 1) := by decide +kernel
theorem dX12_strikes_22 : decode cX12_strikes 22 = .ok (.iload_n 1, 1) := by decide +kernel
theorem dX12_strikes_23 : decode cX12_strikes 23 = .ok (.iload_n 2, 1) := by decide +kernel
theorem dX12_strikes_24 : decode cX12_strikes 24 = .ok (.invokevirtual 483, 3) := by decide +kernel
theorem dX12_strikes_27 : decode cX12_strikes 27 = .ok (.goto 4, 3) := by decide +kernel
theorem dX12_strikes_30 : decode cX12_strikes 30 = .ok (.iconst (-1), 1) := by decide +kernel
theorem dX12_strikes_31 : decode cX12_strikes 31 = .ok (.ireturn, 1) := by decide +kernel
set_option maxRecDepth 20000 in
theorem ggX12_find_X12_isKey : GoodIn wsX12_find wsX12_isKey := goodIn_r _ [9] (by decide +kernel) (by decide +kernel)
set_option maxRecDepth 20000 in
theorem gX12_find_X12_isKey : GoodIn wsX12_find (wsV RX12 459 RX12 yX12_isKey wsX12_isKey) := goodIn_app (goodIn_of _ (by decide +kernel)) ggX12_find_X12_isKey
set_option maxRecDepth 20000 in
theorem ggX12_find_X12_within : GoodIn wsX12_find wsX12_within := goodIn_r _ [12] (by decide +kernel) (by decide +kernel)
set_option maxRecDepth 20000 in
theorem gX12_find_X12_within : GoodIn wsX12_find (va_wsS RX12 293 yX12_within wsX12_within) := goodIn_app (goodIn_of _ (by decide +kernel)) ggX12_find_X12_within
theorem dX12_find_0 : decode cX12_find 0 = .ok (.aload_n 0, 1) := by decide +kernel
theorem dX12_find_1 : decode cX12_find 1 = .ok (.iconst 0, 1) := by decide +kernel
theorem dX12_find_2 : decode cX12_find 2 = .ok (.putfield 160, 3) := by decide +kernel
theorem dX12_find_5 : decode cX12_find 5 = .ok (.aload_n 0, 1) := by decide +kernel
theorem dX12_find_6 : decode cX12_find 6 = .ok (.iload_n 1, 1) := by decide +kernel
theorem dX12_find_7 : decode cX12_find 7 = .ok (.invokevirtual 459, 3) := by decide +kernel
theorem dX12_find_10 : decode cX12_find 10 = .ok (.ifCond .eq 24, 3) := by decide +kernel
theorem dX12_find_13 : decode cX12_find 13 = .ok (.iload_n 2, 1) := by decide +kernel
theorem dX12_find_14 : decode cX12_find 14 = .ok (.iconst 0, 1) := by decide +kernel
theorem dX12_find_15 : decode cX12_find 15 = .ok (.bipush 9, 2) := by decide +kernel
theorem dX12_find_17 : decode cX12_find 17 = .ok (.invokestatic 293, 3) := by decide +kernel
theorem dX12_find_20 : decode cX12_find 20 = .ok (.ifCond .eq 14, 3) := by decide +kernel
theorem dX12_find_23 : decode cX12_find 23 = .ok (.aload_n 0, 1) := by decide +kernel
theorem dX12_find_24 : decode cX12_find 24 = .ok (.getfield 105, 3) := by decide +kernel
theorem dX12_find_27 : decode cX12_find 27 = .ok (.iconst 0, 1) := by decide +kernel
theorem dX12_find_28 : decode cX12_find 28 = .ok (.iaload, 1) := by decide +kernel
theorem dX12_find_29 : decode cX12_find 29 = .ok (.bipush 8, 2) := by decide +kernel
theorem dX12_find_31 : decode cX12_find 31 = .ok (.if_icmp .ne 5, 3) := by decide +kernel
theorem dX12_find_34 : decode cX12_find 34 = .ok (.iconst 0, 1) := by decide +kernel
theorem dX12_find_35 : decode cX12_find 35 = .ok (.ireturn, 1) := by decide +kernel
theorem dX12_find_36 : decode cX12_find 36 = .ok (.aload_n 0, 1) := by decide +kernel
theorem dX12_find_37 : decode cX12_find 37 = .ok (.getfield 108, 3) := by decide +kernel
theorem dX12_find_40 : decode cX12_find 40 = .ok (.aload_n 0, 1) := by decide +kernel
theorem dX12_find_41 : decode cX12_find 41 = .ok (.getfield 105, 3) := by decide +kernel
theorem dX12_find_44 : decode cX12_find 44 = .ok (.iconst 0, 1) := by decide +kernel
theorem dX12_find_45 : decode cX12_find 45 = .ok (.iaload, 1) := by decide +kernel
theorem dX12_find_46 : decode cX12_find 46 = .ok (.iload_n 1, 1) := by decide +kernel
theorem dX12_find_47 : decode cX12_find 47 = .ok (.iastore, 1) := by decide +kernel
theorem dX12_find_48 : decode cX12_find 48 = .ok (.aload_n 0, 1) := by decide +kernel
theorem dX12_find_49 : decode cX12_find 49 = .ok (.getfield 111, 3) := by decide +kernel
theorem dX12_find_52 : decode cX12_find 52 = .ok (.aload_n 0, 1) := by decide +kernel
theorem dX12_find_53 : decode cX12_find 53 = .ok (.getfield 105, 3) := by decide +kernel
theorem dX12_find_56 : decode cX12_find 56 = .ok (.iconst 0, 1) := by decide +kernel
theorem dX12_find_57 : decode cX12_find 57 = .ok (.iaload, 1) := by decide +kernel
theorem dX12_find_58 : decode cX12_find 58 = .ok (.iload_n 2, 1) := by decide +kernel
theorem dX12_find_59 : decode cX12_find 59 = .ok (.iastore, 1) := by decide +kernel
theorem dX12_find_60 : decode cX12_find 60 = .ok (.aload_n 0, 1) := by decide +kernel
theorem dX12_find_61 : decode cX12_find 61 = .ok (.getfield 105, 3) := by decide +kernel
theorem dX12_find_64 : decode cX12_find 64 = .ok (.iconst 0, 1) := by decide +kernel
theorem dX12_find_65 : decode cX12_find 65 = .ok (.dup2, 1) := by decide +kernel
theorem dX12_find_66 : decode cX12_find 66 = .ok (.iaload, 1) := by decide +kernel
theorem dX12_find_67 : decode cX12_find 67 = .ok (.iconst 1, 1) := by decide +kernel
theorem dX12_find_68 : decode cX12_find 68 = .ok (.iadd, 1) := by decide +kernel
theorem dX12_find_69 : decode cX12_find 69 = .ok (.iastore, 1) := by decide +kernel
theorem dX12_find_70 : decode cX12_find 70 = .ok (.iconst 1, 1) := by decide +kernel
theorem dX12_find_71 : decode cX12_find 71 = .ok (.ireturn, 1) := by decide +kernel
set_option maxRecDepth 20000 in
theorem ggX12_wearBy_X12_strikesOf : GoodIn wsX12_wearBy wsX12_strikesOf := goodIn_r _ [6, 7, 8, 9, 5, 10, 11, 12, 13, 14, 15, 16, 17, 18, 19, 20, 21, 22, 23, 24, 25, 26, 70, 71, 72, 73, 74, 75, 76, 77, 78, 79, 80, 81, 82, 83, 84, 85, 86, 87, 88, 89, 90, 91, 92, 93, 94, 95, 96, 97, 98, 99, 100, 101, 102, 103, 104, 105, 106, 107, 108, 109, 110, 111, 112, 113, 114, 115, 116, 117, 118, 119, 120, 121, 122, 123, 124, 125, 126, 127, 128, 129, 130, 131, 132, 133, 134, 135, 136] (by decide +kernel) (by decide +kernel)
set_option maxRecDepth 20000 in
theorem gX12_wearBy_X12_strikesOf : GoodIn wsX12_wearBy (wsV RX12 483 RX12 yX12_strikesOf wsX12_strikesOf) := goodIn_app (goodIn_of _ (by decide +kernel)) ggX12_wearBy_X12_strikesOf
set_option maxRecDepth 20000 in
theorem ggX12_wearBy_X12_wornBy : GoodIn wsX12_wearBy wsX12_wornBy := goodIn_r _ [30, 31, 32, 33, 34, 18, 19, 20, 21, 35, 36, 37, 5, 38, 11, 39, 40, 41, 42, 43, 44, 45, 46, 47, 48, 49, 50, 51, 52, 53, 54, 55, 56, 57, 58, 59, 60, 61, 62, 63, 64, 65, 66, 67, 68, 69, 70, 71, 72, 73, 74, 75, 76, 77, 78, 79, 80, 81, 82, 83, 84, 85, 86, 87, 88, 89, 90, 91, 92, 93, 94, 95, 96, 97, 98, 99, 100, 101, 102, 103, 104, 105, 106, 107, 108, 109, 110, 111, 112, 113, 114, 115, 116, 117, 118, 119, 120, 121, 122, 123, 124, 125, 126, 127, 128, 129, 130, 131, 132, 133, 134, 135, 136] (by decide +kernel) (by decide +kernel)
set_option maxRecDepth 20000 in
theorem gX12_wearBy_X12_wornBy : GoodIn wsX12_wearBy (wsV RX12 413 RX12 yX12_wornBy wsX12_wornBy) := goodIn_app (goodIn_of _ (by decide +kernel)) ggX12_wearBy_X12_wornBy
theorem dX12_wearBy_0 : decode cX12_wearBy 0 = .ok (.iconst 0, 1) := by decide +kernel
theorem dX12_wearBy_1 : decode cX12_wearBy 1 = .ok (.istore_n 3, 1) := by decide +kernel
theorem dX12_wearBy_2 : decode cX12_wearBy 2 = .ok (.iconst 0, 1) := by decide +kernel
theorem dX12_wearBy_3 : decode cX12_wearBy 3 = .ok (.istore 4, 2) := by decide +kernel
theorem dX12_wearBy_5 : decode cX12_wearBy 5 = .ok (.iload 4, 2) := by decide +kernel
theorem dX12_wearBy_7 : decode cX12_wearBy 7 = .ok (.aload_n 0, 1) := by decide +kernel
theorem dX12_wearBy_8 : decode cX12_wearBy 8 = .ok (.getfield 13, 3) := by decide +kernel
theorem dX12_wearBy_11 : decode cX12_wearBy 11 = .ok (.iconst 1, 1) := by decide +kernel
theorem dX12_wearBy_12 : decode cX12_wearBy 12 = .ok (.iaload, 1) := by decide +kernel
theorem dX12_wearBy_13 : decode cX12_wearBy 13 = .ok (.if_icmp .ge 54, 3) := by decide +kernel
theorem dX12_wearBy_16 : decode cX12_wearBy 16 = .ok (.iload_n 1, 1) := by decide +kernel
theorem dX12_wearBy_17 : decode cX12_wearBy 17 = .ok (.iload 4, 2) := by decide +kernel
theorem dX12_wearBy_19 : decode cX12_wearBy 19 = .ok (.ishr, 1) := by decide +kernel
theorem dX12_wearBy_20 : decode cX12_wearBy 20 = .ok (.iconst 1, 1) := by decide +kernel
theorem dX12_wearBy_21 : decode cX12_wearBy 21 = .ok (.iand, 1) := by decide +kernel
theorem dX12_wearBy_22 : decode cX12_wearBy 22 = .ok (.ifCond .ne 6, 3) := by decide +kernel
theorem dX12_wearBy_25 : decode cX12_wearBy 25 = .ok (.goto 36, 3) := by decide +kernel
theorem dX12_wearBy_28 : decode cX12_wearBy 28 = .ok (.aload_n 0, 1) := by decide +kernel
theorem dX12_wearBy_29 : decode cX12_wearBy 29 = .ok (.iload 4, 2) := by decide +kernel
theorem dX12_wearBy_31 : decode cX12_wearBy 31 = .ok (.iload_n 2, 1) := by decide +kernel
theorem dX12_wearBy_32 : decode cX12_wearBy 32 = .ok (.invokevirtual 483, 3) := by decide +kernel
theorem dX12_wearBy_35 : decode cX12_wearBy 35 = .ok (.istore 5, 2) := by decide +kernel
theorem dX12_wearBy_37 : decode cX12_wearBy 37 = .ok (.iconst 0, 1) := by decide +kernel
theorem dX12_wearBy_38 : decode cX12_wearBy 38 = .ok (.istore 6, 2) := by decide +kernel
theorem dX12_wearBy_40 : decode cX12_wearBy 40 = .ok (.iload 6, 2) := by decide +kernel
theorem dX12_wearBy_42 : decode cX12_wearBy 42 = .ok (.iload 5, 2) := by decide +kernel
theorem dX12_wearBy_44 : decode cX12_wearBy 44 = .ok (.if_icmp .ge 17, 3) := by decide +kernel
theorem dX12_wearBy_47 : decode cX12_wearBy 47 = .ok (.aload_n 0, 1) := by decide +kernel
theorem dX12_wearBy_48 : decode cX12_wearBy 48 = .ok (.iload 4, 2) := by decide +kernel
theorem dX12_wearBy_50 : decode cX12_wearBy 50 = .ok (.iload_n 3, 1) := by decide +kernel
theorem dX12_wearBy_51 : decode cX12_wearBy 51 = .ok (.invokevirtual 413, 3) := by decide +kernel
theorem dX12_wearBy_54 : decode cX12_wearBy 54 = .ok (.istore_n 3, 1) := by decide +kernel
theorem dX12_wearBy_55 : decode cX12_wearBy 55 = .ok (.iinc 6 1, 3) := by decide +kernel
theorem dX12_wearBy_58 : decode cX12_wearBy 58 = .ok (.goto (-18), 3) := by decide +kernel
theorem dX12_wearBy_61 : decode cX12_wearBy 61 = .ok (.iinc 4 1, 3) := by decide +kernel
theorem dX12_wearBy_64 : decode cX12_wearBy 64 = .ok (.goto (-59), 3) := by decide +kernel
theorem dX12_wearBy_67 : decode cX12_wearBy 67 = .ok (.iload_n 3, 1) := by decide +kernel
theorem dX12_wearBy_68 : decode cX12_wearBy 68 = .ok (.ireturn, 1) := by decide +kernel
set_option maxRecDepth 20000 in
theorem ggX12_isAsFound_X12_wearBy : GoodIn wsX12_isAsFound wsX12_wearBy := goodIn_r _ [8, 9, 10, 11, 12, 7, 13, 14, 15, 16, 17, 18, 19, 20, 21, 22, 23, 24, 25, 26, 27, 28, 29, 30, 31, 32, 33, 34, 35, 36, 37, 38, 39, 40, 41, 42, 43, 44, 45, 46, 47, 48, 49, 50, 51, 52, 53, 54, 55, 56, 57, 58, 59, 60, 61, 62, 63, 64, 65, 66, 67, 68, 69, 70, 71, 72, 73, 74, 75, 76, 77, 78, 79, 80, 81, 82, 83, 84, 85, 86, 87, 88, 89, 90, 91, 92, 93, 94, 95, 96, 97, 98, 99, 100, 101, 102, 103, 104, 105, 106, 107, 108, 109, 110, 111, 112, 113, 114, 115, 116, 117, 118, 119, 120, 121, 122, 123, 124, 125, 126, 127, 128, 129, 130, 131, 132, 133, 134, 135, 136, 137, 138, 139, 140, 141, 142, 143] (by decide +kernel) (by decide +kernel)
set_option maxRecDepth 20000 in
theorem gX12_isAsFound_X12_wearBy : GoodIn wsX12_isAsFound (wsV RX12 486 RX12 yX12_wearBy wsX12_wearBy) := goodIn_app (goodIn_of _ (by decide +kernel)) ggX12_isAsFound_X12_wearBy
theorem dX12_isAsFound_0 : decode cX12_isAsFound 0 = .ok (.iconst 0, 1) := by decide +kernel
theorem dX12_isAsFound_1 : decode cX12_isAsFound 1 = .ok (.istore_n 2, 1) := by decide +kernel
theorem dX12_isAsFound_2 : decode cX12_isAsFound 2 = .ok (.iload_n 2, 1) := by decide +kernel
theorem dX12_isAsFound_3 : decode cX12_isAsFound 3 = .ok (.aload_n 0, 1) := by decide +kernel
theorem dX12_isAsFound_4 : decode cX12_isAsFound 4 = .ok (.getfield 105, 3) := by decide +kernel
theorem dX12_isAsFound_7 : decode cX12_isAsFound 7 = .ok (.iconst 0, 1) := by decide +kernel
theorem dX12_isAsFound_8 : decode cX12_isAsFound 8 = .ok (.iaload, 1) := by decide +kernel
theorem dX12_isAsFound_9 : decode cX12_isAsFound 9 = .ok (.if_icmp .ge 31, 3) := by decide +kernel
theorem dX12_isAsFound_12 : decode cX12_isAsFound 12 = .ok (.aload_n 0, 1) := by decide +kernel
theorem dX12_isAsFound_13 : decode cX12_isAsFound 13 = .ok (.iload_n 1, 1) := by decide +kernel
theorem dX12_isAsFound_14 : decode cX12_isAsFound 14 = .ok (.aload_n 0, 1) := by decide +kernel
theorem dX12_isAsFound_15 : decode cX12_isAsFound 15 = .ok (.getfield 108, 3) := by decide +kernel
theorem dX12_isAsFound_18 : decode cX12_isAsFound 18 = .ok (.iload_n 2, 1) := by decide +kernel
theorem dX12_isAsFound_19 : decode cX12_isAsFound 19 = .ok (.iaload, 1) := by decide +kernel
theorem dX12_isAsFound_20 : decode cX12_isAsFound 20 = .ok (.invokevirtual 486, 3) := by decide +kernel
theorem dX12_isAsFound_23 : decode cX12_isAsFound 23 = .ok (.aload_n 0, 1) := by decide +kernel
theorem dX12_isAsFound_24 : decode cX12_isAsFound 24 = .ok (.getfield 111, 3) := by decide +kernel
theorem dX12_isAsFound_27 : decode cX12_isAsFound 27 = .ok (.iload_n 2, 1) := by decide +kernel
theorem dX12_isAsFound_28 : decode cX12_isAsFound 28 = .ok (.iaload, 1) := by decide +kernel
theorem dX12_isAsFound_29 : decode cX12_isAsFound 29 = .ok (.if_icmp .eq 5, 3) := by decide +kernel
theorem dX12_isAsFound_32 : decode cX12_isAsFound 32 = .ok (.iconst 0, 1) := by decide +kernel
theorem dX12_isAsFound_33 : decode cX12_isAsFound 33 = .ok (.ireturn, 1) := by decide +kernel
theorem dX12_isAsFound_34 : decode cX12_isAsFound 34 = .ok (.iinc 2 1, 3) := by decide +kernel
theorem dX12_isAsFound_37 : decode cX12_isAsFound 37 = .ok (.goto (-35), 3) := by decide +kernel
theorem dX12_isAsFound_40 : decode cX12_isAsFound 40 = .ok (.iconst 1, 1) := by decide +kernel
theorem dX12_isAsFound_41 : decode cX12_isAsFound 41 = .ok (.ireturn, 1) := by decide +kernel
set_option maxRecDepth 20000 in
theorem ggX12_sets_X12_within : GoodIn wsX12_sets wsX12_within := goodIn_r _ [6] (by decide +kernel) (by decide +kernel)
set_option maxRecDepth 20000 in
theorem gX12_sets_X12_within : GoodIn wsX12_sets (va_wsS RX12 293 yX12_within wsX12_within) := goodIn_app (goodIn_of _ (by decide +kernel)) ggX12_sets_X12_within
set_option maxRecDepth 20000 in
theorem ggX12_sets_X12_isAsFound : GoodIn wsX12_sets wsX12_isAsFound := goodIn_r _ [10, 11, 12, 13, 14, 15, 16, 5, 17, 2, 18, 19, 20, 21, 22, 23, 24, 25, 26, 27, 28, 29, 30, 31, 32, 33, 34, 35, 36, 37, 38, 39, 40, 41, 42, 43, 44, 45, 46, 47, 48, 49, 50, 51, 52, 53, 54, 55, 56, 57, 58, 59, 60, 61, 62, 63, 64, 65, 66, 67, 68, 69, 70, 71, 72, 73, 74, 75, 76, 77, 78, 79, 80, 81, 82, 83, 84, 85, 86, 87, 88, 89, 90, 91, 92, 93, 94, 95, 96, 97, 98, 99, 100, 101, 102, 103, 104, 105, 106, 107, 108, 109, 110, 111, 112, 113, 114, 115, 116, 117, 118, 119, 120, 121, 122, 123, 124, 125, 126, 127, 128, 129, 130, 131, 132, 133, 134, 135, 136, 137, 138, 139, 140, 141, 142, 143, 144, 145, 146, 147, 148, 149, 150, 151] (by decide +kernel) (by decide +kernel)
set_option maxRecDepth 20000 in
theorem gX12_sets_X12_isAsFound : GoodIn wsX12_sets (wsV RX12 489 RX12 yX12_isAsFound wsX12_isAsFound) := goodIn_app (goodIn_of _ (by decide +kernel)) ggX12_sets_X12_isAsFound
theorem dX12_sets_0 : decode cX12_sets 0 = .ok (.aload_n 0, 1) := by decide +kernel
theorem dX12_sets_1 : decode cX12_sets 1 = .ok (.iconst 0, 1) := by decide +kernel
theorem dX12_sets_2 : decode cX12_sets 2 = .ok (.putfield 160, 3) := by decide +kernel
theorem dX12_sets_5 : decode cX12_sets 5 = .ok (.iload_n 1, 1) := by decide +kernel
theorem dX12_sets_6 : decode cX12_sets 6 = .ok (.iconst 0, 1) := by decide +kernel
theorem dX12_sets_7 : decode cX12_sets 7 = .ok (.iconst 2, 1) := by decide +kernel
theorem dX12_sets_8 : decode cX12_sets 8 = .ok (.invokestatic 293, 3) := by decide +kernel
theorem dX12_sets_11 : decode cX12_sets 11 = .ok (.ifCond .ne 5, 3) := by decide +kernel
theorem dX12_sets_14 : decode cX12_sets 14 = .ok (.iconst (-1), 1) := by decide +kernel
theorem dX12_sets_15 : decode cX12_sets 15 = .ok (.ireturn, 1) := by decide +kernel
theorem dX12_sets_16 : decode cX12_sets 16 = .ok (.iconst 0, 1) := by decide +kernel
theorem dX12_sets_17 : decode cX12_sets 17 = .ok (.istore_n 2, 1) := by decide +kernel
theorem dX12_sets_18 : decode cX12_sets 18 = .ok (.iconst 1, 1) := by decide +kernel
theorem dX12_sets_19 : decode cX12_sets 19 = .ok (.aload_n 0, 1) := by decide +kernel
theorem dX12_sets_20 : decode cX12_sets 20 = .ok (.getfield 13, 3) := by decide +kernel
theorem dX12_sets_23 : decode cX12_sets 23 = .ok (.iconst 1, 1) := by decide +kernel
theorem dX12_sets_24 : decode cX12_sets 24 = .ok (.iaload, 1) := by decide +kernel
theorem dX12_sets_25 : decode cX12_sets 25 = .ok (.ishl, 1) := by decide +kernel
theorem dX12_sets_26 : decode cX12_sets 26 = .ok (.iconst 1, 1) := by decide +kernel
theorem dX12_sets_27 : decode cX12_sets 27 = .ok (.isub, 1) := by decide +kernel
theorem dX12_sets_28 : decode cX12_sets 28 = .ok (.istore_n 3, 1) := by decide +kernel
theorem dX12_sets_29 : decode cX12_sets 29 = .ok (.iconst 0, 1) := by decide +kernel
theorem dX12_sets_30 : decode cX12_sets 30 = .ok (.istore 4, 2) := by decide +kernel
theorem dX12_sets_32 : decode cX12_sets 32 = .ok (.iconst 0, 1) := by decide +kernel
theorem dX12_sets_33 : decode cX12_sets 33 = .ok (.istore 5, 2) := by decide +kernel
theorem dX12_sets_35 : decode cX12_sets 35 = .ok (.iload 5, 2) := by decide +kernel
theorem dX12_sets_37 : decode cX12_sets 37 = .ok (.iconst 1, 1) := by decide +kernel
theorem dX12_sets_38 : decode cX12_sets 38 = .ok (.aload_n 0, 1) := by decide +kernel
theorem dX12_sets_39 : decode cX12_sets 39 = .ok (.getfield 13, 3) := by decide +kernel
theorem dX12_sets_42 : decode cX12_sets 42 = .ok (.iconst 1, 1) := by decide +kernel
theorem dX12_sets_43 : decode cX12_sets 43 = .ok (.iaload, 1) := by decide +kernel
theorem dX12_sets_44 : decode cX12_sets 44 = .ok (.ishl, 1) := by decide +kernel
theorem dX12_sets_45 : decode cX12_sets 45 = .ok (.if_icmp .ge 36, 3) := by decide +kernel
theorem dX12_sets_48 : decode cX12_sets 48 = .ok (.aload_n 0, 1) := by decide +kernel
theorem dX12_sets_49 : decode cX12_sets 49 = .ok (.iload 5, 2) := by decide +kernel
theorem dX12_sets_51 : decode cX12_sets 51 = .ok (.invokevirtual 489, 3) := by decide +kernel
theorem dX12_sets_54 : decode cX12_sets 54 = .ok (.ifCond .ne 6, 3) := by decide +kernel
theorem dX12_sets_57 : decode cX12_sets 57 = .ok (.goto 18, 3) := by decide +kernel
theorem dX12_sets_60 : decode cX12_sets 60 = .ok (.iinc 2 1, 3) := by decide +kernel
theorem dX12_sets_63 : decode cX12_sets 63 = .ok (.iload_n 3, 1) := by decide +kernel
theorem dX12_sets_64 : decode cX12_sets 64 = .ok (.iload 5, 2) := by decide +kernel
theorem dX12_sets_66 : decode cX12_sets 66 = .ok (.iand, 1) := by decide +kernel
theorem dX12_sets_67 : decode cX12_sets 67 = .ok (.istore_n 3, 1) := by decide +kernel
theorem dX12_sets_68 : decode cX12_sets 68 = .ok (.iload 4, 2) := by decide +kernel
theorem dX12_sets_70 : decode cX12_sets 70 = .ok (.iload 5, 2) := by decide +kernel
theorem dX12_sets_72 : decode cX12_sets 72 = .ok (.ior, 1) := by decide +kernel
theorem dX12_sets_73 : decode cX12_sets 73 = .ok (.istore 4, 2) := by decide +kernel
theorem dX12_sets_75 : decode cX12_sets 75 = .ok (.iinc 5 1, 3) := by decide +kernel
theorem dX12_sets_78 : decode cX12_sets 78 = .ok (.goto (-43), 3) := by decide +kernel
theorem dX12_sets_81 : decode cX12_sets 81 = .ok (.iload_n 2, 1) := by decide +kernel
theorem dX12_sets_82 : decode cX12_sets 82 = .ok (.ifCond .eq 7, 3) := by decide +kernel
theorem dX12_sets_85 : decode cX12_sets 85 = .ok (.iload_n 1, 1) := by decide +kernel
theorem dX12_sets_86 : decode cX12_sets 86 = .ok (.ifCond .ne 13, 3) := by decide +kernel
theorem dX12_sets_89 : decode cX12_sets 89 = .ok (.iload_n 1, 1) := by decide +kernel
theorem dX12_sets_90 : decode cX12_sets 90 = .ok (.ifCond .ne 7, 3) := by decide +kernel
theorem dX12_sets_93 : decode cX12_sets 93 = .ok (.iload_n 2, 1) := by decide +kernel
theorem dX12_sets_94 : decode cX12_sets 94 = .ok (.goto 4, 3) := by decide +kernel
theorem dX12_sets_97 : decode cX12_sets 97 = .ok (.iconst (-1), 1) := by decide +kernel
theorem dX12_sets_98 : decode cX12_sets 98 = .ok (.ireturn, 1) := by decide +kernel
theorem dX12_sets_99 : decode cX12_sets 99 = .ok (.iload_n 1, 1) := by decide +kernel
theorem dX12_sets_100 : decode cX12_sets 100 = .ok (.iconst 1, 1) := by decide +kernel
theorem dX12_sets_101 : decode cX12_sets 101 = .ok (.if_icmp .ne 7, 3) := by decide +kernel
theorem dX12_sets_104 : decode cX12_sets 104 = .ok (.iload_n 3, 1) := by decide +kernel
theorem dX12_sets_105 : decode cX12_sets 105 = .ok (.goto 5, 3) := by decide +kernel
theorem dX12_sets_108 : decode cX12_sets 108 = .ok (.iload 4, 2) := by decide +kernel
theorem dX12_sets_110 : decode cX12_sets 110 = .ok (.ireturn, 1) := by decide +kernel
set_option maxRecDepth 20000 in
theorem ggX12_mostAlike_X12_isAsFound : GoodIn wsX12_mostAlike wsX12_isAsFound := goodIn_r _ [11, 12, 13, 14, 15, 16, 17, 10, 18, 2, 19, 20, 21, 22, 23, 24, 25, 26, 27, 28, 29, 30, 31, 32, 33, 34, 35, 5, 36, 37, 38, 39, 40, 41, 42, 43, 44, 45, 46, 47, 48, 49, 50, 51, 52, 53, 54, 55, 56, 57, 58, 59, 60, 61, 62, 63, 64, 65, 66, 67, 68, 69, 70, 71, 72, 73, 74, 75, 76, 77, 78, 79, 80, 81, 82, 83, 84, 85, 86, 87, 88, 89, 90, 91, 92, 93, 94, 95, 96, 97, 98, 99, 100, 101, 102, 103, 104, 105, 106, 107, 108, 109, 110, 111, 112, 113, 114, 115, 116, 117, 118, 119, 120, 121, 122, 123, 124, 125, 126, 127, 128, 129, 130, 131, 132, 133, 134, 135, 136, 137, 138, 139, 140, 141, 142, 143, 144, 145, 146, 147, 148, 149, 150, 151] (by decide +kernel) (by decide +kernel)
set_option maxRecDepth 20000 in
theorem gX12_mostAlike_X12_isAsFound : GoodIn wsX12_mostAlike (wsV RX12 489 RX12 yX12_isAsFound wsX12_isAsFound) := goodIn_app (goodIn_of _ (by decide +kernel)) ggX12_mostAlike_X12_isAsFound
set_option maxRecDepth 20000 in
theorem ggX12_mostAlike_X12_wearBy : GoodIn wsX12_mostAlike wsX12_wearBy := goodIn_r _ [18, 2, 19, 20, 21, 10, 22, 23, 24, 25, 26, 27, 28, 29, 30, 31, 32, 33, 34, 35, 5, 36, 37, 38, 39, 40, 41, 42, 43, 44, 45, 46, 47, 48, 49, 50, 51, 52, 53, 54, 55, 56, 57, 58, 59, 60, 61, 62, 63, 64, 65, 66, 67, 68, 69, 70, 71, 72, 73, 74, 75, 76, 77, 78, 79, 80, 81, 82, 83, 84, 85, 86, 87, 88, 89, 90, 91, 92, 93, 94, 95, 96, 97, 98, 99, 100, 101, 102, 103, 104, 105, 106, 107, 108, 109, 110, 111, 112, 113, 114, 115, 116, 117, 118, 119, 120, 121, 122, 123, 124, 125, 126, 127, 128, 129, 130, 131, 132, 133, 134, 135, 136, 137, 138, 139, 140, 141, 142, 143, 144, 145, 146, 147, 148, 149, 150, 151] (by decide +kernel) (by decide +kernel)
set_option maxRecDepth 20000 in
theorem gX12_mostAlike_X12_wearBy : GoodIn wsX12_mostAlike (wsV RX12 486 RX12 yX12_wearBy wsX12_wearBy) := goodIn_app (goodIn_of _ (by decide +kernel)) ggX12_mostAlike_X12_wearBy
theorem dX12_mostAlike_0 : decode cX12_mostAlike 0 = .ok (.iconst 0, 1) := by decide +kernel
theorem dX12_mostAlike_1 : decode cX12_mostAlike 1 = .ok (.istore_n 2, 1) := by decide +kernel
theorem dX12_mostAlike_2 : decode cX12_mostAlike 2 = .ok (.iconst 0, 1) := by decide +kernel
theorem dX12_mostAlike_3 : decode cX12_mostAlike 3 = .ok (.istore_n 3, 1) := by decide +kernel
theorem dX12_mostAlike_4 : decode cX12_mostAlike 4 = .ok (.iload_n 3, 1) := by decide +kernel
theorem dX12_mostAlike_5 : decode cX12_mostAlike 5 = .ok (.bipush 10, 2) := by decide +kernel
theorem dX12_mostAlike_7 : decode cX12_mostAlike 7 = .ok (.if_icmp .ge 16, 3) := by decide +kernel
theorem dX12_mostAlike_10 : decode cX12_mostAlike 10 = .ok (.aload_n 0, 1) := by decide +kernel
theorem dX12_mostAlike_11 : decode cX12_mostAlike 11 = .ok (.getfield 150, 3) := by decide +kernel
theorem dX12_mostAlike_14 : decode cX12_mostAlike 14 = .ok (.iload_n 3, 1) := by decide +kernel
theorem dX12_mostAlike_15 : decode cX12_mostAlike 15 = .ok (.iconst 0, 1) := by decide +kernel
theorem dX12_mostAlike_16 : decode cX12_mostAlike 16 = .ok (.iastore, 1) := by decide +kernel
theorem dX12_mostAlike_17 : decode cX12_mostAlike 17 = .ok (.iinc 3 1, 3) := by decide +kernel
theorem dX12_mostAlike_20 : decode cX12_mostAlike 20 = .ok (.goto (-16), 3) := by decide +kernel
theorem dX12_mostAlike_23 : decode cX12_mostAlike 23 = .ok (.iconst 0, 1) := by decide +kernel
theorem dX12_mostAlike_24 : decode cX12_mostAlike 24 = .ok (.istore_n 3, 1) := by decide +kernel
theorem dX12_mostAlike_25 : decode cX12_mostAlike 25 = .ok (.iload_n 3, 1) := by decide +kernel
theorem dX12_mostAlike_26 : decode cX12_mostAlike 26 = .ok (.iconst 1, 1) := by decide +kernel
theorem dX12_mostAlike_27 : decode cX12_mostAlike 27 = .ok (.aload_n 0, 1) := by decide +kernel
theorem dX12_mostAlike_28 : decode cX12_mostAlike 28 = .ok (.getfield 13, 3) := by decide +kernel
theorem dX12_mostAlike_31 : decode cX12_mostAlike 31 = .ok (.iconst 1, 1) := by decide +kernel
theorem dX12_mostAlike_32 : decode cX12_mostAlike 32 = .ok (.iaload, 1) := by decide +kernel
theorem dX12_mostAlike_33 : decode cX12_mostAlike 33 = .ok (.ishl, 1) := by decide +kernel
theorem dX12_mostAlike_34 : decode cX12_mostAlike 34 = .ok (.if_icmp .ge 51, 3) := by decide +kernel
theorem dX12_mostAlike_37 : decode cX12_mostAlike 37 = .ok (.aload_n 0, 1) := by decide +kernel
theorem dX12_mostAlike_38 : decode cX12_mostAlike 38 = .ok (.iload_n 3, 1) := by decide +kernel
theorem dX12_mostAlike_39 : decode cX12_mostAlike 39 = .ok (.invokevirtual 489, 3) := by decide +kernel
theorem dX12_mostAlike_42 : decode cX12_mostAlike 42 = .ok (.ifCond .ne 6, 3) := by decide +kernel
theorem dX12_mostAlike_45 : decode cX12_mostAlike 45 = .ok (.goto 34, 3) := by decide +kernel
theorem dX12_mostAlike_48 : decode cX12_mostAlike 48 = .ok (.aload_n 0, 1) := by decide +kernel
theorem dX12_mostAlike_49 : decode cX12_mostAlike 49 = .ok (.iload_n 3, 1) := by decide +kernel
theorem dX12_mostAlike_50 : decode cX12_mostAlike 50 = .ok (.iload_n 1, 1) := by decide +kernel
theorem dX12_mostAlike_51 : decode cX12_mostAlike 51 = .ok (.invokevirtual 486, 3) := by decide +kernel
theorem dX12_mostAlike_54 : decode cX12_mostAlike 54 = .ok (.istore 4, 2) := by decide +kernel
theorem dX12_mostAlike_56 : decode cX12_mostAlike 56 = .ok (.aload_n 0, 1) := by decide +kernel
theorem dX12_mostAlike_57 : decode cX12_mostAlike 57 = .ok (.getfield 150, 3) := by decide +kernel
theorem dX12_mostAlike_60 : decode cX12_mostAlike 60 = .ok (.iload 4, 2) := by decide +kernel
theorem dX12_mostAlike_62 : decode cX12_mostAlike 62 = .ok (.dup2, 1) := by decide +kernel
theorem dX12_mostAlike_63 : decode cX12_mostAlike 63 = .ok (.iaload, 1) := by decide +kernel
theorem dX12_mostAlike_64 : decode cX12_mostAlike 64 = .ok (.iconst 1, 1) := by decide +kernel
theorem dX12_mostAlike_65 : decode cX12_mostAlike 65 = .ok (.iadd, 1) := by decide +kernel
theorem dX12_mostAlike_66 : decode cX12_mostAlike 66 = .ok (.iastore, 1) := by decide +kernel
theorem dX12_mostAlike_67 : decode cX12_mostAlike 67 = .ok (.iload_n 2, 1) := by decide +kernel
theorem dX12_mostAlike_68 : decode cX12_mostAlike 68 = .ok (.aload_n 0, 1) := by decide +kernel
theorem dX12_mostAlike_69 : decode cX12_mostAlike 69 = .ok (.getfield 150, 3) := by decide +kernel
theorem dX12_mostAlike_72 : decode cX12_mostAlike 72 = .ok (.iload 4, 2) := by decide +kernel
theorem dX12_mostAlike_74 : decode cX12_mostAlike 74 = .ok (.iaload, 1) := by decide +kernel
theorem dX12_mostAlike_75 : decode cX12_mostAlike 75 = .ok (.invokestatic 492, 3) := by decide +kernel
theorem dX12_mostAlike_78 : decode cX12_mostAlike 78 = .ok (.istore_n 2, 1) := by decide +kernel
theorem dX12_mostAlike_79 : decode cX12_mostAlike 79 = .ok (.iinc 3 1, 3) := by decide +kernel
theorem dX12_mostAlike_82 : decode cX12_mostAlike 82 = .ok (.goto (-57), 3) := by decide +kernel
theorem dX12_mostAlike_85 : decode cX12_mostAlike 85 = .ok (.iload_n 2, 1) := by decide +kernel
theorem dX12_mostAlike_86 : decode cX12_mostAlike 86 = .ok (.ireturn, 1) := by decide +kernel
theorem dX12_isFound_0 : decode cX12_isFound 0 = .ok (.iconst 0, 1) := by decide +kernel
theorem dX12_isFound_1 : decode cX12_isFound 1 = .ok (.istore_n 2, 1) := by decide +kernel
theorem dX12_isFound_2 : decode cX12_isFound 2 = .ok (.iload_n 2, 1) := by decide +kernel
theorem dX12_isFound_3 : decode cX12_isFound 3 = .ok (.aload_n 0, 1) := by decide +kernel
theorem dX12_isFound_4 : decode cX12_isFound 4 = .ok (.getfield 105, 3) := by decide +kernel
theorem dX12_isFound_7 : decode cX12_isFound 7 = .ok (.iconst 0, 1) := by decide +kernel
theorem dX12_isFound_8 : decode cX12_isFound 8 = .ok (.iaload, 1) := by decide +kernel
theorem dX12_isFound_9 : decode cX12_isFound 9 = .ok (.if_icmp .ge 21, 3) := by decide +kernel
theorem dX12_isFound_12 : decode cX12_isFound 12 = .ok (.aload_n 0, 1) := by decide +kernel
theorem dX12_isFound_13 : decode cX12_isFound 13 = .ok (.getfield 108, 3) := by decide +kernel
theorem dX12_isFound_16 : decode cX12_isFound 16 = .ok (.iload_n 2, 1) := by decide +kernel
theorem dX12_isFound_17 : decode cX12_isFound 17 = .ok (.iaload, 1) := by decide +kernel
theorem dX12_isFound_18 : decode cX12_isFound 18 = .ok (.iload_n 1, 1) := by decide +kernel
theorem dX12_isFound_19 : decode cX12_isFound 19 = .ok (.if_icmp .ne 5, 3) := by decide +kernel
theorem dX12_isFound_22 : decode cX12_isFound 22 = .ok (.iconst 1, 1) := by decide +kernel
theorem dX12_isFound_23 : decode cX12_isFound 23 = .ok (.ireturn, 1) := by decide +kernel
theorem dX12_isFound_24 : decode cX12_isFound 24 = .ok (.iinc 2 1, 3) := by decide +kernel
theorem dX12_isFound_27 : decode cX12_isFound 27 = .ok (.goto (-25), 3) := by decide +kernel
theorem dX12_isFound_30 : decode cX12_isFound 30 = .ok (.iconst 0, 1) := by decide +kernel
theorem dX12_isFound_31 : decode cX12_isFound 31 = .ok (.ireturn, 1) := by decide +kernel
set_option maxRecDepth 20000 in
theorem ggX12_look_X12_sets : GoodIn wsX12_look wsX12_sets := goodIn_r _ [6, 1, 7, 8, 9, 5, 10, 11, 12, 13, 14, 15, 16, 17, 18, 19, 20, 21, 22, 23, 24, 25, 26, 27, 28, 29, 30, 31, 32, 33, 34, 35, 36, 37, 38, 39, 40, 41, 42, 43, 44, 45, 46, 47, 48, 49, 50, 51, 52, 53, 54, 55, 56, 57, 58, 59, 60, 61, 62, 63, 64, 65, 66, 67, 68, 69, 70, 71, 72, 73, 74, 75, 76, 77, 78, 79, 80, 81, 82, 83, 84, 85, 86, 87, 88, 101, 102, 103, 104, 105, 106, 107, 108, 109, 110, 111, 112, 113, 114, 115, 116, 117, 118, 119, 120, 121, 122, 123, 124, 125, 126, 127, 128, 129, 130, 131, 132, 133, 134, 135, 136, 137, 138, 139, 140, 141, 142, 143, 144, 145, 146, 147, 148, 149, 150, 151, 152, 153, 154, 155, 156, 157, 158, 159, 160, 161, 162, 163, 164, 165, 166, 167] (by decide +kernel) (by decide +kernel)
set_option maxRecDepth 20000 in
theorem gX12_look_X12_sets : GoodIn wsX12_look (wsV RX12 495 RX12 yX12_sets wsX12_sets) := goodIn_app (goodIn_of _ (by decide +kernel)) ggX12_look_X12_sets
set_option maxRecDepth 20000 in
theorem ggX12_look_X12_isFound : GoodIn wsX12_look wsX12_isFound := goodIn_r _ [92, 15, 16, 101, 102, 103, 104, 105, 106, 107, 108, 109, 110, 111, 112, 113, 114, 115, 116, 117, 118, 119, 120, 121, 122, 123, 124, 125, 126, 127, 128, 129, 130, 131, 132, 133, 134, 135, 136, 137, 138, 139, 140, 141, 142, 143, 144, 145, 146, 147, 148, 149, 150, 151, 152, 153, 154, 155, 156, 157, 158, 159, 160, 161, 162, 163, 164, 165, 166, 167] (by decide +kernel) (by decide +kernel)
set_option maxRecDepth 20000 in
theorem gX12_look_X12_isFound : GoodIn wsX12_look (wsV RX12 498 RX12 yX12_isFound wsX12_isFound) := goodIn_app (goodIn_of _ (by decide +kernel)) ggX12_look_X12_isFound
set_option maxRecDepth 20000 in
theorem ggX12_look_X12_mostAlike : GoodIn wsX12_look wsX12_mostAlike := goodIn_r _ [96, 97, 7, 98, 99, 39, 100, 11, 12, 13, 5, 14, 15, 16, 17, 18, 19, 20, 21, 22, 23, 24, 25, 26, 27, 28, 29, 30, 31, 32, 33, 34, 35, 36, 37, 38, 40, 41, 42, 43, 44, 45, 46, 47, 48, 49, 50, 51, 52, 53, 54, 55, 56, 57, 58, 59, 60, 61, 62, 63, 64, 65, 66, 67, 68, 69, 70, 71, 72, 73, 74, 75, 76, 77, 78, 79, 80, 81, 82, 83, 84, 85, 86, 87, 88, 101, 102, 103, 104, 105, 106, 107, 108, 109, 110, 111, 112, 113, 114, 115, 116, 117, 118, 119, 120, 121, 122, 123, 124, 125, 126, 127, 128, 129, 130, 131, 132, 133, 134, 135, 136, 137, 138, 139, 140, 141, 142, 143, 144, 145, 146, 147, 148, 149, 150, 151, 152, 153, 154, 155, 156, 157, 158, 159, 160, 161, 162, 163, 164, 165, 166, 167] (by decide +kernel) (by decide +kernel)
set_option maxRecDepth 20000 in
theorem gX12_look_X12_mostAlike : GoodIn wsX12_look (wsV RX12 501 RX12 yX12_mostAlike wsX12_mostAlike) := goodIn_app (goodIn_of _ (by decide +kernel)) ggX12_look_X12_mostAlike
theorem dX12_look_0 : decode cX12_look 0 = .ok (.aload_n 0, 1) := by decide +kernel
theorem dX12_look_1 : decode cX12_look 1 = .ok (.iconst 0, 1) := by decide +kernel
theorem dX12_look_2 : decode cX12_look 2 = .ok (.putfield 160, 3) := by decide +kernel
theorem dX12_look_5 : decode cX12_look 5 = .ok (.aload_n 0, 1) := by decide +kernel
theorem dX12_look_6 : decode cX12_look 6 = .ok (.iconst 0, 1) := by decide +kernel
theorem dX12_look_7 : decode cX12_look 7 = .ok (.invokevirtual 495, 3) := by decide +kernel
theorem dX12_look_10 : decode cX12_look 10 = .ok (.istore_n 1, 1) := by decide +kernel
theorem dX12_look_11 : decode cX12_look 11 = .ok (.iconst (-1), 1) := by decide +kernel
theorem dX12_look_12 : decode cX12_look 12 = .ok (.istore_n 2, 1) := by decide +kernel
theorem dX12_look_13 : decode cX12_look 13 = .ok (.iconst 0, 1) := by decide +kernel
theorem dX12_look_14 : decode cX12_look 14 = .ok (.istore_n 3, 1) := by decide +kernel
theorem dX12_look_15 : decode cX12_look 15 = .ok (.iload_n 3, 1) := by decide +kernel
theorem dX12_look_16 : decode cX12_look 16 = .ok (.bipush 12, 2) := by decide +kernel
theorem dX12_look_18 : decode cX12_look 18 = .ok (.if_icmp .ge 41, 3) := by decide +kernel
theorem dX12_look_21 : decode cX12_look 21 = .ok (.aload_n 0, 1) := by decide +kernel
theorem dX12_look_22 : decode cX12_look 22 = .ok (.iload_n 3, 1) := by decide +kernel
theorem dX12_look_23 : decode cX12_look 23 = .ok (.invokevirtual 498, 3) := by decide +kernel
theorem dX12_look_26 : decode cX12_look 26 = .ok (.ifCond .eq 6, 3) := by decide +kernel
theorem dX12_look_29 : decode cX12_look 29 = .ok (.goto 24, 3) := by decide +kernel
theorem dX12_look_32 : decode cX12_look 32 = .ok (.aload_n 0, 1) := by decide +kernel
theorem dX12_look_33 : decode cX12_look 33 = .ok (.iload_n 3, 1) := by decide +kernel
theorem dX12_look_34 : decode cX12_look 34 = .ok (.invokevirtual 501, 3) := by decide +kernel
theorem dX12_look_37 : decode cX12_look 37 = .ok (.istore 4, 2) := by decide +kernel
theorem dX12_look_39 : decode cX12_look 39 = .ok (.iload 4, 2) := by decide +kernel
theorem dX12_look_41 : decode cX12_look 41 = .ok (.iload_n 1, 1) := by decide +kernel
theorem dX12_look_42 : decode cX12_look 42 = .ok (.if_icmp .lt 6, 3) := by decide +kernel
theorem dX12_look_45 : decode cX12_look 45 = .ok (.goto 8, 3) := by decide +kernel
theorem dX12_look_48 : decode cX12_look 48 = .ok (.iload 4, 2) := by decide +kernel
theorem dX12_look_50 : decode cX12_look 50 = .ok (.istore_n 1, 1) := by decide +kernel
theorem dX12_look_51 : decode cX12_look 51 = .ok (.iload_n 3, 1) := by decide +kernel
theorem dX12_look_52 : decode cX12_look 52 = .ok (.istore_n 2, 1) := by decide +kernel
theorem dX12_look_53 : decode cX12_look 53 = .ok (.iinc 3 1, 3) := by decide +kernel
theorem dX12_look_56 : decode cX12_look 56 = .ok (.goto (-41), 3) := by decide +kernel
theorem dX12_look_59 : decode cX12_look 59 = .ok (.iload_n 2, 1) := by decide +kernel
theorem dX12_look_60 : decode cX12_look 60 = .ok (.ireturn, 1) := by decide +kernel
set_option maxRecDepth 20000 in
theorem ggX12_share_X12_isPasser : GoodIn wsX12_share wsX12_isPasser := goodIn_r _ [7, 2, 23, 24, 25, 26, 27, 28, 29, 30, 31, 32, 33, 34, 35, 36, 37, 38, 39, 40, 41, 42, 43, 44, 45, 46, 47, 48, 49, 50, 51, 52, 53, 54, 55, 56, 57, 58, 59, 60, 61, 62, 63, 64, 65, 66, 67, 68, 69, 70, 71, 72, 73, 74, 75, 76, 77, 78, 79, 80, 81, 82, 83, 84, 85, 86, 87, 88, 89] (by decide +kernel) (by decide +kernel)
set_option maxRecDepth 20000 in
theorem gX12_share_X12_isPasser : GoodIn wsX12_share (wsV RX12 456 RX12 yX12_isPasser wsX12_isPasser) := goodIn_app (goodIn_of _ (by decide +kernel)) ggX12_share_X12_isPasser
set_option maxRecDepth 20000 in
theorem ggX12_share_X12_allStrikes : GoodIn wsX12_share wsX12_allStrikes := goodIn_r _ [11, 12, 13, 14, 15, 6, 16, 17, 18, 19, 20, 21, 22, 23, 24, 25, 26, 27, 28, 29, 30, 31, 32, 33, 34, 35, 36, 37, 38, 39, 40, 41, 42, 43, 44, 45, 46, 47, 48, 49, 50, 51, 52, 53, 54, 55, 56, 57, 58, 59, 60, 61, 62, 63, 64, 65, 66, 67, 68, 69, 70, 71, 72, 73, 74, 75, 76, 77, 78, 79, 80, 81, 82, 83, 84, 85, 86, 87, 88, 89] (by decide +kernel) (by decide +kernel)
set_option maxRecDepth 20000 in
theorem gX12_share_X12_allStrikes : GoodIn wsX12_share (wsV RX12 391 RX12 yX12_allStrikes wsX12_allStrikes) := goodIn_app (goodIn_of _ (by decide +kernel)) ggX12_share_X12_allStrikes
theorem dX12_share_0 : decode cX12_share 0 = .ok (.aload_n 0, 1) := by decide +kernel
theorem dX12_share_1 : decode cX12_share 1 = .ok (.iconst 0, 1) := by decide +kernel
theorem dX12_share_2 : decode cX12_share 2 = .ok (.putfield 160, 3) := by decide +kernel
theorem dX12_share_5 : decode cX12_share 5 = .ok (.aload_n 0, 1) := by decide +kernel
theorem dX12_share_6 : decode cX12_share 6 = .ok (.iload_n 1, 1) := by decide +kernel
theorem dX12_share_7 : decode cX12_share 7 = .ok (.invokevirtual 456, 3) := by decide +kernel
theorem dX12_share_10 : decode cX12_share 10 = .ok (.ifCond .ne 5, 3) := by decide +kernel
theorem dX12_share_13 : decode cX12_share 13 = .ok (.iconst (-1), 1) := by decide +kernel
theorem dX12_share_14 : decode cX12_share 14 = .ok (.ireturn, 1) := by decide +kernel
theorem dX12_share_15 : decode cX12_share 15 = .ok (.iconst 0, 1) := by decide +kernel
theorem dX12_share_16 : decode cX12_share 16 = .ok (.istore_n 2, 1) := by decide +kernel
theorem dX12_share_17 : decode cX12_share 17 = .ok (.iconst 0, 1) := by decide +kernel
theorem dX12_share_18 : decode cX12_share 18 = .ok (.istore_n 3, 1) := by decide +kernel
theorem dX12_share_19 : decode cX12_share 19 = .ok (.iload_n 3, 1) := by decide +kernel
theorem dX12_share_20 : decode cX12_share 20 = .ok (.aload_n 0, 1) := by decide +kernel
theorem dX12_share_21 : decode cX12_share 21 = .ok (.getfield 13, 3) := by decide +kernel
theorem dX12_share_24 : decode cX12_share 24 = .ok (.iconst 1, 1) := by decide +kernel
theorem dX12_share_25 : decode cX12_share 25 = .ok (.iaload, 1) := by decide +kernel
theorem dX12_share_26 : decode cX12_share 26 = .ok (.if_icmp .ge 17, 3) := by decide +kernel
theorem dX12_share_29 : decode cX12_share 29 = .ok (.iload_n 2, 1) := by decide +kernel
theorem dX12_share_30 : decode cX12_share 30 = .ok (.aload_n 0, 1) := by decide +kernel
theorem dX12_share_31 : decode cX12_share 31 = .ok (.iload_n 3, 1) := by decide +kernel
theorem dX12_share_32 : decode cX12_share 32 = .ok (.invokevirtual 391, 3) := by decide +kernel
theorem dX12_share_35 : decode cX12_share 35 = .ok (.iadd, 1) := by decide +kernel
theorem dX12_share_36 : decode cX12_share 36 = .ok (.istore_n 2, 1) := by decide +kernel
theorem dX12_share_37 : decode cX12_share 37 = .ok (.iinc 3 1, 3) := by decide +kernel
theorem dX12_share_40 : decode cX12_share 40 = .ok (.goto (-21), 3) := by decide +kernel
theorem dX12_share_43 : decode cX12_share 43 = .ok (.aload_n 0, 1) := by decide +kernel
theorem dX12_share_44 : decode cX12_share 44 = .ok (.getfield 13, 3) := by decide +kernel
theorem dX12_share_47 : decode cX12_share 47 = .ok (.bipush 6, 2) := by decide +kernel
theorem dX12_share_49 : decode cX12_share 49 = .ok (.iaload, 1) := by decide +kernel
theorem dX12_share_50 : decode cX12_share 50 = .ok (.sipush 1000, 3) := by decide +kernel
theorem dX12_share_53 : decode cX12_share 53 = .ok (.imul, 1) := by decide +kernel
theorem dX12_share_54 : decode cX12_share 54 = .ok (.aload_n 0, 1) := by decide +kernel
theorem dX12_share_55 : decode cX12_share 55 = .ok (.iload_n 1, 1) := by decide +kernel
theorem dX12_share_56 : decode cX12_share 56 = .ok (.invokevirtual 391, 3) := by decide +kernel
theorem dX12_share_59 : decode cX12_share 59 = .ok (.imul, 1) := by decide +kernel
theorem dX12_share_60 : decode cX12_share 60 = .ok (.iload_n 2, 1) := by decide +kernel
theorem dX12_share_61 : decode cX12_share 61 = .ok (.idiv, 1) := by decide +kernel
theorem dX12_share_62 : decode cX12_share 62 = .ok (.ireturn, 1) := by decide +kernel
theorem dX12_getsBy_0 : decode cX12_getsBy 0 = .ok (.iload_n 3, 1) := by decide +kernel
theorem dX12_getsBy_1 : decode cX12_getsBy 1 = .ok (.iconst 1, 1) := by decide +kernel
theorem dX12_getsBy_2 : decode cX12_getsBy 2 = .ok (.if_icmp .ne 18, 3) := by decide +kernel
theorem dX12_getsBy_5 : decode cX12_getsBy 5 = .ok (.iload 4, 2) := by decide +kernel
theorem dX12_getsBy_7 : decode cX12_getsBy 7 = .ok (.iconst 1, 1) := by decide +kernel
theorem dX12_getsBy_8 : decode cX12_getsBy 8 = .ok (.if_icmp .ne 8, 3) := by decide +kernel
theorem dX12_getsBy_11 : decode cX12_getsBy 11 = .ok (.iload_n 0, 1) := by decide +kernel
theorem dX12_getsBy_12 : decode cX12_getsBy 12 = .ok (.ineg, 1) := by decide +kernel
theorem dX12_getsBy_13 : decode cX12_getsBy 13 = .ok (.goto 18, 3) := by decide +kernel
theorem dX12_getsBy_16 : decode cX12_getsBy 16 = .ok (.iload_n 1, 1) := by decide +kernel
theorem dX12_getsBy_17 : decode cX12_getsBy 17 = .ok (.goto 14, 3) := by decide +kernel
theorem dX12_getsBy_20 : decode cX12_getsBy 20 = .ok (.iload 4, 2) := by decide +kernel
theorem dX12_getsBy_22 : decode cX12_getsBy 22 = .ok (.iconst 1, 1) := by decide +kernel
theorem dX12_getsBy_23 : decode cX12_getsBy 23 = .ok (.if_icmp .ne 7, 3) := by decide +kernel
theorem dX12_getsBy_26 : decode cX12_getsBy 26 = .ok (.iload_n 2, 1) := by decide +kernel
theorem dX12_getsBy_27 : decode cX12_getsBy 27 = .ok (.goto 4, 3) := by decide +kernel
theorem dX12_getsBy_30 : decode cX12_getsBy 30 = .ok (.iconst 0, 1) := by decide +kernel
theorem dX12_getsBy_31 : decode cX12_getsBy 31 = .ok (.ireturn, 1) := by decide +kernel
set_option maxRecDepth 20000 in
theorem ggX12_rests_X12_within : GoodIn wsX12_rests wsX12_within := goodIn_r _ [5] (by decide +kernel) (by decide +kernel)
set_option maxRecDepth 20000 in
theorem gX12_rests_X12_within : GoodIn wsX12_rests (va_wsS RX12 293 yX12_within wsX12_within) := goodIn_app (goodIn_of _ (by decide +kernel)) ggX12_rests_X12_within
set_option maxRecDepth 20000 in
theorem ggX12_rests_X12_getsBy : GoodIn wsX12_rests wsX12_getsBy := goodIn_r _ [8] (by decide +kernel) (by decide +kernel)
set_option maxRecDepth 20000 in
theorem gX12_rests_X12_getsBy : GoodIn wsX12_rests (va_wsS RX12 504 yX12_getsBy wsX12_getsBy) := goodIn_app (goodIn_of _ (by decide +kernel)) ggX12_rests_X12_getsBy
theorem dX12_rests_0 : decode cX12_rests 0 = .ok (.aload_n 0, 1) := by decide +kernel
theorem dX12_rests_1 : decode cX12_rests 1 = .ok (.iload_n 1, 1) := by decide +kernel
theorem dX12_rests_2 : decode cX12_rests 2 = .ok (.iconst 0, 1) := by decide +kernel
theorem dX12_rests_3 : decode cX12_rests 3 = .ok (.bipush 9, 2) := by decide +kernel
theorem dX12_rests_5 : decode cX12_rests 5 = .ok (.invokestatic 293, 3) := by decide +kernel
theorem dX12_rests_8 : decode cX12_rests 8 = .ok (.ifCond .eq 33, 3) := by decide +kernel
theorem dX12_rests_11 : decode cX12_rests 11 = .ok (.iload_n 2, 1) := by decide +kernel
theorem dX12_rests_12 : decode cX12_rests 12 = .ok (.iconst 0, 1) := by decide +kernel
theorem dX12_rests_13 : decode cX12_rests 13 = .ok (.bipush 9, 2) := by decide +kernel
theorem dX12_rests_15 : decode cX12_rests 15 = .ok (.invokestatic 293, 3) := by decide +kernel
theorem dX12_rests_18 : decode cX12_rests 18 = .ok (.ifCond .eq 23, 3) := by decide +kernel
theorem dX12_rests_21 : decode cX12_rests 21 = .ok (.iload_n 3, 1) := by decide +kernel
theorem dX12_rests_22 : decode cX12_rests 22 = .ok (.iconst 0, 1) := by decide +kernel
theorem dX12_rests_23 : decode cX12_rests 23 = .ok (.bipush 9, 2) := by decide +kernel
theorem dX12_rests_25 : decode cX12_rests 25 = .ok (.invokestatic 293, 3) := by decide +kernel
theorem dX12_rests_28 : decode cX12_rests 28 = .ok (.ifCond .eq 13, 3) := by decide +kernel
theorem dX12_rests_31 : decode cX12_rests 31 = .ok (.iload 4, 2) := by decide +kernel
theorem dX12_rests_33 : decode cX12_rests 33 = .ok (.iconst (-1), 1) := by decide +kernel
theorem dX12_rests_34 : decode cX12_rests 34 = .ok (.if_icmp .lt 7, 3) := by decide +kernel
theorem dX12_rests_37 : decode cX12_rests 37 = .ok (.iconst 0, 1) := by decide +kernel
theorem dX12_rests_38 : decode cX12_rests 38 = .ok (.goto 4, 3) := by decide +kernel
theorem dX12_rests_41 : decode cX12_rests 41 = .ok (.iconst 1, 1) := by decide +kernel
theorem dX12_rests_42 : decode cX12_rests 42 = .ok (.putfield 160, 3) := by decide +kernel
theorem dX12_rests_45 : decode cX12_rests 45 = .ok (.aload_n 0, 1) := by decide +kernel
theorem dX12_rests_46 : decode cX12_rests 46 = .ok (.getfield 160, 3) := by decide +kernel
theorem dX12_rests_49 : decode cX12_rests 49 = .ok (.iconst 1, 1) := by decide +kernel
theorem dX12_rests_50 : decode cX12_rests 50 = .ok (.if_icmp .ne 5, 3) := by decide +kernel
theorem dX12_rests_53 : decode cX12_rests 53 = .ok (.iconst 0, 1) := by decide +kernel
theorem dX12_rests_54 : decode cX12_rests 54 = .ok (.ireturn, 1) := by decide +kernel
theorem dX12_rests_55 : decode cX12_rests 55 = .ok (.iconst 0, 1) := by decide +kernel
theorem dX12_rests_56 : decode cX12_rests 56 = .ok (.istore 5, 2) := by decide +kernel
theorem dX12_rests_58 : decode cX12_rests 58 = .ok (.iconst 0, 1) := by decide +kernel
theorem dX12_rests_59 : decode cX12_rests 59 = .ok (.istore 6, 2) := by decide +kernel
theorem dX12_rests_61 : decode cX12_rests 61 = .ok (.iload 6, 2) := by decide +kernel
theorem dX12_rests_63 : decode cX12_rests 63 = .ok (.iconst 4, 1) := by decide +kernel
theorem dX12_rests_64 : decode cX12_rests 64 = .ok (.if_icmp .ge 87, 3) := by decide +kernel
theorem dX12_rests_67 : decode cX12_rests 67 = .ok (.iload 6, 2) := by decide +kernel
theorem dX12_rests_69 : decode cX12_rests 69 = .ok (.iconst 2, 1) := by decide +kernel
theorem dX12_rests_70 : decode cX12_rests 70 = .ok (.idiv, 1) := by decide +kernel
theorem dX12_rests_71 : decode cX12_rests 71 = .ok (.istore 7, 2) := by decide +kernel
theorem dX12_rests_73 : decode cX12_rests 73 = .ok (.iload 6, 2) := by decide +kernel
theorem dX12_rests_75 : decode cX12_rests 75 = .ok (.iconst 2, 1) := by decide +kernel
theorem dX12_rests_76 : decode cX12_rests 76 = .ok (.irem, 1) := by decide +kernel
theorem dX12_rests_77 : decode cX12_rests 77 = .ok (.istore 8, 2) := by decide +kernel
theorem dX12_rests_79 : decode cX12_rests 79 = .ok (.iload_n 1, 1) := by decide +kernel
theorem dX12_rests_80 : decode cX12_rests 80 = .ok (.iload_n 2, 1) := by decide +kernel
theorem dX12_rests_81 : decode cX12_rests 81 = .ok (.iload_n 3, 1) := by decide +kernel
theorem dX12_rests_82 : decode cX12_rests 82 = .ok (.iconst 1, 1) := by decide +kernel
theorem dX12_rests_83 : decode cX12_rests 83 = .ok (.iload 7, 2) := by decide +kernel
theorem dX12_rests_85 : decode cX12_rests 85 = .ok (.isub, 1) := by decide +kernel
theorem dX12_rests_86 : decode cX12_rests 86 = .ok (.iload 8, 2) := by decide +kernel
theorem dX12_rests_88 : decode cX12_rests 88 = .ok (.invokestatic 504, 3) := by decide +kernel
theorem dX12_rests_91 : decode cX12_rests 91 = .ok (.iload_n 1, 1) := by decide +kernel
theorem dX12_rests_92 : decode cX12_rests 92 = .ok (.iload_n 2, 1) := by decide +kernel
theorem dX12_rests_93 : decode cX12_rests 93 = .ok (.iload_n 3, 1) := by decide +kernel
theorem dX12_rests_94 : decode cX12_rests 94 = .ok (.iload 7, 2) := by decide +kernel
theorem dX12_rests_96 : decode cX12_rests 96 = .ok (.iload 8, 2) := by decide +kernel
theorem dX12_rests_98 : decode cX12_rests 98 = .ok (.invokestatic 504, 3) := by decide +kernel
theorem dX12_rests_101 : decode cX12_rests 101 = .ok (.if_icmp .gt 44, 3) := by decide +kernel
theorem dX12_rests_104 : decode cX12_rests 104 = .ok (.iload_n 1, 1) := by decide +kernel
theorem dX12_rests_105 : decode cX12_rests 105 = .ok (.iload_n 2, 1) := by decide +kernel
theorem dX12_rests_106 : decode cX12_rests 106 = .ok (.iload_n 3, 1) := by decide +kernel
theorem dX12_rests_107 : decode cX12_rests 107 = .ok (.iconst 1, 1) := by decide +kernel
theorem dX12_rests_108 : decode cX12_rests 108 = .ok (.iload 8, 2) := by decide +kernel
theorem dX12_rests_110 : decode cX12_rests 110 = .ok (.isub, 1) := by decide +kernel
theorem dX12_rests_111 : decode cX12_rests 111 = .ok (.iload 7, 2) := by decide +kernel
theorem dX12_rests_113 : decode cX12_rests 113 = .ok (.invokestatic 504, 3) := by decide +kernel
theorem dX12_rests_116 : decode cX12_rests 116 = .ok (.iload_n 1, 1) := by decide +kernel
theorem dX12_rests_117 : decode cX12_rests 117 = .ok (.iload_n 2, 1) := by decide +kernel
theorem dX12_rests_118 : decode cX12_rests 118 = .ok (.iload_n 3, 1) := by decide +kernel
theorem dX12_rests_119 : decode cX12_rests 119 = .ok (.iload 8, 2) := by decide +kernel
theorem dX12_rests_121 : decode cX12_rests 121 = .ok (.iload 7, 2) := by decide +kernel
theorem dX12_rests_123 : decode cX12_rests 123 = .ok (.invokestatic 504, 3) := by decide +kernel
theorem dX12_rests_126 : decode cX12_rests 126 = .ok (.if_icmp .le 6, 3) := by decide +kernel
theorem dX12_rests_129 : decode cX12_rests 129 = .ok (.goto 16, 3) := by decide +kernel
theorem dX12_rests_132 : decode cX12_rests 132 = .ok (.iload 5, 2) := by decide +kernel
theorem dX12_rests_134 : decode cX12_rests 134 = .ok (.iload 4, 2) := by decide +kernel
theorem dX12_rests_136 : decode cX12_rests 136 = .ok (.if_icmp .ne 6, 3) := by decide +kernel
theorem dX12_rests_139 : decode cX12_rests 139 = .ok (.iload 6, 2) := by decide +kernel
theorem dX12_rests_141 : decode cX12_rests 141 = .ok (.ireturn, 1) := by decide +kernel
theorem dX12_rests_142 : decode cX12_rests 142 = .ok (.iinc 5 1, 3) := by decide +kernel
theorem dX12_rests_145 : decode cX12_rests 145 = .ok (.iinc 6 1, 3) := by decide +kernel
theorem dX12_rests_148 : decode cX12_rests 148 = .ok (.goto (-87), 3) := by decide +kernel
theorem dX12_rests_151 : decode cX12_rests 151 = .ok (.aload_n 0, 1) := by decide +kernel
theorem dX12_rests_152 : decode cX12_rests 152 = .ok (.iload 4, 2) := by decide +kernel
theorem dX12_rests_154 : decode cX12_rests 154 = .ok (.iconst (-1), 1) := by decide +kernel
theorem dX12_rests_155 : decode cX12_rests 155 = .ok (.if_icmp .ne 7, 3) := by decide +kernel
theorem dX12_rests_158 : decode cX12_rests 158 = .ok (.iconst 0, 1) := by decide +kernel
theorem dX12_rests_159 : decode cX12_rests 159 = .ok (.goto 4, 3) := by decide +kernel
theorem dX12_rests_162 : decode cX12_rests 162 = .ok (.iconst 1, 1) := by decide +kernel
theorem dX12_rests_163 : decode cX12_rests 163 = .ok (.putfield 160, 3) := by decide +kernel
theorem dX12_rests_166 : decode cX12_rests 166 = .ok (.iload 4, 2) := by decide +kernel
theorem dX12_rests_168 : decode cX12_rests 168 = .ok (.iconst (-1), 1) := by decide +kernel
theorem dX12_rests_169 : decode cX12_rests 169 = .ok (.if_icmp .ne 8, 3) := by decide +kernel
theorem dX12_rests_172 : decode cX12_rests 172 = .ok (.iload 5, 2) := by decide +kernel
theorem dX12_rests_174 : decode cX12_rests 174 = .ok (.goto 4, 3) := by decide +kernel
theorem dX12_rests_177 : decode cX12_rests 177 = .ok (.iconst 0, 1) := by decide +kernel
theorem dX12_rests_178 : decode cX12_rests 178 = .ok (.ireturn, 1) := by decide +kernel
theorem dX12_draws_0 : decode cX12_draws 0 = .ok (.aload_n 0, 1) := by decide +kernel
theorem dX12_draws_1 : decode cX12_draws 1 = .ok (.aload_n 0, 1) := by decide +kernel
theorem dX12_draws_2 : decode cX12_draws 2 = .ok (.getfield 508, 3) := by decide +kernel
theorem dX12_draws_5 : decode cX12_draws 5 = .ok (.ldc2_w 511, 3) := by decide +kernel
theorem dX12_draws_8 : decode cX12_draws 8 = .ok (.lmul, 1) := by decide +kernel
theorem dX12_draws_9 : decode cX12_draws 9 = .ok (.ldc2_w 513, 3) := by decide +kernel
theorem dX12_draws_12 : decode cX12_draws 12 = .ok (.ladd, 1) := by decide +kernel
theorem dX12_draws_13 : decode cX12_draws 13 = .ok (.ldc2_w 515, 3) := by decide +kernel
theorem dX12_draws_16 : decode cX12_draws 16 = .ok (.lrem, 1) := by decide +kernel
theorem dX12_draws_17 : decode cX12_draws 17 = .ok (.putfield 508, 3) := by decide +kernel
theorem dX12_draws_20 : decode cX12_draws 20 = .ok (.aload_n 0, 1) := by decide +kernel
theorem dX12_draws_21 : decode cX12_draws 21 = .ok (.getfield 508, 3) := by decide +kernel
theorem dX12_draws_24 : decode cX12_draws 24 = .ok (.ldc2_w 517, 3) := by decide +kernel
theorem dX12_draws_27 : decode cX12_draws 27 = .ok (.ldiv, 1) := by decide +kernel
theorem dX12_draws_28 : decode cX12_draws 28 = .ok (.iload_n 1, 1) := by decide +kernel
theorem dX12_draws_29 : decode cX12_draws 29 = .ok (.i2l, 1) := by decide +kernel
theorem dX12_draws_30 : decode cX12_draws 30 = .ok (.lrem, 1) := by decide +kernel
theorem dX12_draws_31 : decode cX12_draws 31 = .ok (.l2i, 1) := by decide +kernel
theorem dX12_draws_32 : decode cX12_draws 32 = .ok (.ireturn, 1) := by decide +kernel
theorem dX12_badKeys_0 : decode cX12_badKeys 0 = .ok (.iconst 0, 1) := by decide +kernel
theorem dX12_badKeys_1 : decode cX12_badKeys 1 = .ok (.istore_n 1, 1) := by decide +kernel
theorem dX12_badKeys_2 : decode cX12_badKeys 2 = .ok (.iconst 0, 1) := by decide +kernel
theorem dX12_badKeys_3 : decode cX12_badKeys 3 = .ok (.istore_n 2, 1) := by decide +kernel
theorem dX12_badKeys_4 : decode cX12_badKeys 4 = .ok (.iload_n 2, 1) := by decide +kernel
theorem dX12_badKeys_5 : decode cX12_badKeys 5 = .ok (.bipush 12, 2) := by decide +kernel
theorem dX12_badKeys_7 : decode cX12_badKeys 7 = .ok (.if_icmp .ge 29, 3) := by decide +kernel
theorem dX12_badKeys_10 : decode cX12_badKeys 10 = .ok (.iload_n 1, 1) := by decide +kernel
theorem dX12_badKeys_11 : decode cX12_badKeys 11 = .ok (.aload_n 0, 1) := by decide +kernel
theorem dX12_badKeys_12 : decode cX12_badKeys 12 = .ok (.getfield 114, 3) := by decide +kernel
theorem dX12_badKeys_15 : decode cX12_badKeys 15 = .ok (.iconst 5, 1) := by decide +kernel
theorem dX12_badKeys_16 : decode cX12_badKeys 16 = .ok (.iload_n 2, 1) := by decide +kernel
theorem dX12_badKeys_17 : decode cX12_badKeys 17 = .ok (.iadd, 1) := by decide +kernel
theorem dX12_badKeys_18 : decode cX12_badKeys 18 = .ok (.iaload, 1) := by decide +kernel
theorem dX12_badKeys_19 : decode cX12_badKeys 19 = .ok (.iconst 5, 1) := by decide +kernel
theorem dX12_badKeys_20 : decode cX12_badKeys 20 = .ok (.if_icmp .le 7, 3) := by decide +kernel
theorem dX12_badKeys_23 : decode cX12_badKeys 23 = .ok (.iconst 1, 1) := by decide +kernel
theorem dX12_badKeys_24 : decode cX12_badKeys 24 = .ok (.goto 4, 3) := by decide +kernel
theorem dX12_badKeys_27 : decode cX12_badKeys 27 = .ok (.iconst 0, 1) := by decide +kernel
theorem dX12_badKeys_28 : decode cX12_badKeys 28 = .ok (.iadd, 1) := by decide +kernel
theorem dX12_badKeys_29 : decode cX12_badKeys 29 = .ok (.istore_n 1, 1) := by decide +kernel
theorem dX12_badKeys_30 : decode cX12_badKeys 30 = .ok (.iinc 2 1, 3) := by decide +kernel
theorem dX12_badKeys_33 : decode cX12_badKeys 33 = .ok (.goto (-29), 3) := by decide +kernel
theorem dX12_badKeys_36 : decode cX12_badKeys 36 = .ok (.iload_n 1, 1) := by decide +kernel
theorem dX12_badKeys_37 : decode cX12_badKeys 37 = .ok (.ireturn, 1) := by decide +kernel
set_option maxRecDepth 20000 in
theorem ggX12_months_X12_within : GoodIn wsX12_months wsX12_within := goodIn_r _ [11] (by decide +kernel) (by decide +kernel)
set_option maxRecDepth 20000 in
theorem gX12_months_X12_within : GoodIn wsX12_months (va_wsS RX12 293 yX12_within wsX12_within) := goodIn_app (goodIn_of _ (by decide +kernel)) ggX12_months_X12_within
set_option maxRecDepth 20000 in
theorem ggX12_months_X12_copies : GoodIn wsX12_months wsX12_copies := goodIn_r _ [14] (by decide +kernel) (by decide +kernel)
set_option maxRecDepth 20000 in
theorem gX12_months_X12_copies : GoodIn wsX12_months (va_wsS RX12 446 yX12_copies wsX12_copies) := goodIn_app (goodIn_of _ (by decide +kernel)) ggX12_months_X12_copies
set_option maxRecDepth 20000 in
theorem ggX12_months_X12_draws : GoodIn wsX12_months wsX12_draws := goodIn_r _ [18, 2, 19, 20, 21, 22, 137, 138, 139, 140, 141, 142, 143, 144, 145, 146, 147, 148, 149, 150, 151, 152, 153, 154, 155, 156, 157, 158, 159, 160, 161, 162, 163, 164, 165, 166, 167, 168, 169, 170, 171, 172, 173, 174, 175, 176, 177, 178, 179, 180, 181, 182, 183, 184, 185, 186, 187, 188, 189, 190, 191, 192, 193, 194, 195, 196, 197, 198, 199, 200, 201, 202, 203] (by decide +kernel) (by decide +kernel)
set_option maxRecDepth 20000 in
theorem gX12_months_X12_draws : GoodIn wsX12_months (wsV RX12 519 RX12 yX12_draws wsX12_draws) := goodIn_app (goodIn_of _ (by decide +kernel)) ggX12_months_X12_draws
set_option maxRecDepth 20000 in
theorem ggX12_months_X12_passesDay : GoodIn wsX12_months wsX12_passesDay := goodIn_r _ [26, 27, 7, 28, 29, 30, 3, 31, 32, 33, 10, 34, 5, 6, 35, 36, 37, 38, 39, 40, 41, 42, 43, 44, 45, 46, 47, 48, 49, 50, 51, 52, 53, 54, 55, 56, 57, 58, 59, 60, 61, 62, 63, 64, 65, 66, 67, 68, 69, 70, 71, 72, 73, 74, 75, 76, 77, 78, 79, 80, 81, 82, 83, 84, 85, 86, 87, 88, 89, 90, 91, 92, 93, 94, 95, 96, 97, 98, 99, 100, 101, 102, 103, 104, 105, 106, 107, 108, 109, 110, 111, 112, 113, 114, 115, 116, 117, 118, 119, 120, 121, 122, 123, 124, 125, 126, 127, 128, 137, 138, 139, 140, 141, 142, 143, 144, 145, 146, 147, 148, 149, 150, 151, 152, 153, 154, 155, 156, 157, 158, 159, 160, 161, 162, 163, 164, 165, 166, 167, 168, 169, 170, 171, 172, 173, 174, 175, 176, 177, 178, 179, 180, 181, 182, 183, 184, 185, 186, 187, 188, 189, 190, 191, 192, 193, 194, 195, 196, 197, 198, 199, 200, 201, 202, 203] (by decide +kernel) (by decide +kernel)
set_option maxRecDepth 20000 in
theorem gX12_months_X12_passesDay : GoodIn wsX12_months (wsV RX12 443 RX12 yX12_passesDay wsX12_passesDay) := goodIn_app (goodIn_of _ (by decide +kernel)) ggX12_months_X12_passesDay
set_option maxRecDepth 20000 in
theorem ggX12_months_X12_badKeys : GoodIn wsX12_months wsX12_badKeys := goodIn_r _ [132, 3, 137, 138, 139, 140, 141, 142, 143, 144, 145, 146, 147, 148, 149, 150, 151, 152, 153, 154, 155, 156, 157, 158, 159, 160, 161, 162, 163, 164, 165, 166, 167, 168, 169, 170, 171, 172, 173, 174, 175, 176, 177, 178, 179, 180, 181, 182, 183, 184, 185, 186, 187, 188, 189, 190, 191, 192, 193, 194, 195, 196, 197, 198, 199, 200, 201, 202, 203] (by decide +kernel) (by decide +kernel)
set_option maxRecDepth 20000 in
theorem gX12_months_X12_badKeys : GoodIn wsX12_months (wsV RX12 522 RX12 yX12_badKeys wsX12_badKeys) := goodIn_app (goodIn_of _ (by decide +kernel)) ggX12_months_X12_badKeys
set_option maxRecDepth 20000 in
theorem ggX12_months_X12_mends : GoodIn wsX12_months wsX12_mends := goodIn_r _ [136, 3, 5, 137, 138, 139, 140, 141, 142, 143, 144, 145, 146, 147, 148, 149, 150, 151, 152, 153, 154, 155, 156, 157, 158, 159, 160, 161, 162, 163, 164, 165, 166, 167, 168, 169, 170, 171, 172, 173, 174, 175, 176, 177, 178, 179, 180, 181, 182, 183, 184, 185, 186, 187, 188, 189, 190, 191, 192, 193, 194, 195, 196, 197, 198, 199, 200, 201, 202, 203] (by decide +kernel) (by decide +kernel)
set_option maxRecDepth 20000 in
theorem gX12_months_X12_mends : GoodIn wsX12_months (wsV RX12 465 RX12 yX12_mends wsX12_mends) := goodIn_app (goodIn_of _ (by decide +kernel)) ggX12_months_X12_mends
theorem dX12_months_0 : decode cX12_months 0 = .ok (.aload_n 0, 1) := by decide +kernel
theorem dX12_months_1 : decode cX12_months 1 = .ok (.iload_n 1, 1) := by decide +kernel
theorem dX12_months_2 : decode cX12_months 2 = .ok (.iconst 0, 1) := by decide +kernel
theorem dX12_months_3 : decode cX12_months 3 = .ok (.sipush 9999, 3) := by decide +kernel
theorem dX12_months_6 : decode cX12_months 6 = .ok (.invokestatic 293, 3) := by decide +kernel
theorem dX12_months_9 : decode cX12_months 9 = .ok (.ifCond .eq 26, 3) := by decide +kernel
theorem dX12_months_12 : decode cX12_months 12 = .ok (.iload_n 2, 1) := by decide +kernel
theorem dX12_months_13 : decode cX12_months 13 = .ok (.iconst 1, 1) := by decide +kernel
theorem dX12_months_14 : decode cX12_months 14 = .ok (.bipush 60, 2) := by decide +kernel
theorem dX12_months_16 : decode cX12_months 16 = .ok (.invokestatic 293, 3) := by decide +kernel
theorem dX12_months_19 : decode cX12_months 19 = .ok (.ifCond .eq 16, 3) := by decide +kernel
theorem dX12_months_22 : decode cX12_months 22 = .ok (.iload_n 3, 1) := by decide +kernel
theorem dX12_months_23 : decode cX12_months 23 = .ok (.iconst 0, 1) := by decide +kernel
theorem dX12_months_24 : decode cX12_months 24 = .ok (.iconst 2, 1) := by decide +kernel
theorem dX12_months_25 : decode cX12_months 25 = .ok (.invokestatic 293, 3) := by decide +kernel
theorem dX12_months_28 : decode cX12_months 28 = .ok (.ifCond .eq 7, 3) := by decide +kernel
theorem dX12_months_31 : decode cX12_months 31 = .ok (.iconst 0, 1) := by decide +kernel
theorem dX12_months_32 : decode cX12_months 32 = .ok (.goto 4, 3) := by decide +kernel
theorem dX12_months_35 : decode cX12_months 35 = .ok (.iconst 1, 1) := by decide +kernel
theorem dX12_months_36 : decode cX12_months 36 = .ok (.putfield 160, 3) := by decide +kernel
theorem dX12_months_39 : decode cX12_months 39 = .ok (.aload_n 0, 1) := by decide +kernel
theorem dX12_months_40 : decode cX12_months 40 = .ok (.getfield 160, 3) := by decide +kernel
theorem dX12_months_43 : decode cX12_months 43 = .ok (.iconst 1, 1) := by decide +kernel
theorem dX12_months_44 : decode cX12_months 44 = .ok (.if_icmp .ne 5, 3) := by decide +kernel
theorem dX12_months_47 : decode cX12_months 47 = .ok (.iconst 0, 1) := by decide +kernel
theorem dX12_months_48 : decode cX12_months 48 = .ok (.ireturn, 1) := by decide +kernel
theorem dX12_months_49 : decode cX12_months 49 = .ok (.aload_n 0, 1) := by decide +kernel
theorem dX12_months_50 : decode cX12_months 50 = .ok (.iload_n 1, 1) := by decide +kernel
theorem dX12_months_51 : decode cX12_months 51 = .ok (.i2l, 1) := by decide +kernel
theorem dX12_months_52 : decode cX12_months 52 = .ok (.putfield 508, 3) := by decide +kernel
theorem dX12_months_55 : decode cX12_months 55 = .ok (.aload_n 0, 1) := by decide +kernel
theorem dX12_months_56 : decode cX12_months 56 = .ok (.getfield 114, 3) := by decide +kernel
theorem dX12_months_59 : decode cX12_months 59 = .ok (.iconst 0, 1) := by decide +kernel
theorem dX12_months_60 : decode cX12_months 60 = .ok (.aload_n 0, 1) := by decide +kernel
theorem dX12_months_61 : decode cX12_months 61 = .ok (.getfield 117, 3) := by decide +kernel
theorem dX12_months_64 : decode cX12_months 64 = .ok (.iconst 0, 1) := by decide +kernel
theorem dX12_months_65 : decode cX12_months 65 = .ok (.invokestatic 446, 3) := by decide +kernel
theorem dX12_months_68 : decode cX12_months 68 = .ok (.iconst 0, 1) := by decide +kernel
theorem dX12_months_69 : decode cX12_months 69 = .ok (.istore 4, 2) := by decide +kernel
theorem dX12_months_71 : decode cX12_months 71 = .ok (.iconst 0, 1) := by decide +kernel
theorem dX12_months_72 : decode cX12_months 72 = .ok (.istore 5, 2) := by decide +kernel
theorem dX12_months_74 : decode cX12_months 74 = .ok (.iconst 0, 1) := by decide +kernel
theorem dX12_months_75 : decode cX12_months 75 = .ok (.istore 6, 2) := by decide +kernel
theorem dX12_months_77 : decode cX12_months 77 = .ok (.iload 6, 2) := by decide +kernel
theorem dX12_months_79 : decode cX12_months 79 = .ok (.iload_n 2, 1) := by decide +kernel
theorem dX12_months_80 : decode cX12_months 80 = .ok (.if_icmp .ge 81, 3) := by decide +kernel
theorem dX12_months_83 : decode cX12_months 83 = .ok (.iconst 0, 1) := by decide +kernel
theorem dX12_months_84 : decode cX12_months 84 = .ok (.istore 7, 2) := by decide +kernel
theorem dX12_months_86 : decode cX12_months 86 = .ok (.iload 7, 2) := by decide +kernel
theorem dX12_months_88 : decode cX12_months 88 = .ok (.aload_n 0, 1) := by decide +kernel
theorem dX12_months_89 : decode cX12_months 89 = .ok (.getfield 13, 3) := by decide +kernel
theorem dX12_months_92 : decode cX12_months 92 = .ok (.iconst 1, 1) := by decide +kernel
theorem dX12_months_93 : decode cX12_months 93 = .ok (.iaload, 1) := by decide +kernel
theorem dX12_months_94 : decode cX12_months 94 = .ok (.if_icmp .ge 22, 3) := by decide +kernel
theorem dX12_months_97 : decode cX12_months 97 = .ok (.aload_n 0, 1) := by decide +kernel
theorem dX12_months_98 : decode cX12_months 98 = .ok (.getfield 132, 3) := by decide +kernel
theorem dX12_months_101 : decode cX12_months 101 = .ok (.iload 7, 2) := by decide +kernel
theorem dX12_months_103 : decode cX12_months 103 = .ok (.aload_n 0, 1) := by decide +kernel
theorem dX12_months_104 : decode cX12_months 104 = .ok (.bipush 60, 2) := by decide +kernel
theorem dX12_months_106 : decode cX12_months 106 = .ok (.invokevirtual 519, 3) := by decide +kernel
theorem dX12_months_109 : decode cX12_months 109 = .ok (.iastore, 1) := by decide +kernel
theorem dX12_months_110 : decode cX12_months 110 = .ok (.iinc 7 1, 3) := by decide +kernel
theorem dX12_months_113 : decode cX12_months 113 = .ok (.goto (-27), 3) := by decide +kernel
theorem dX12_months_116 : decode cX12_months 116 = .ok (.iload 4, 2) := by decide +kernel
theorem dX12_months_118 : decode cX12_months 118 = .ok (.aload_n 0, 1) := by decide +kernel
theorem dX12_months_119 : decode cX12_months 119 = .ok (.invokevirtual 443, 3) := by decide +kernel
theorem dX12_months_122 : decode cX12_months 122 = .ok (.iadd, 1) := by decide +kernel
theorem dX12_months_123 : decode cX12_months 123 = .ok (.istore 4, 2) := by decide +kernel
theorem dX12_months_125 : decode cX12_months 125 = .ok (.iload 5, 2) := by decide +kernel
theorem dX12_months_127 : decode cX12_months 127 = .ok (.aload_n 0, 1) := by decide +kernel
theorem dX12_months_128 : decode cX12_months 128 = .ok (.getfield 416, 3) := by decide +kernel
theorem dX12_months_131 : decode cX12_months 131 = .ok (.iadd, 1) := by decide +kernel
theorem dX12_months_132 : decode cX12_months 132 = .ok (.istore 5, 2) := by decide +kernel
theorem dX12_months_134 : decode cX12_months 134 = .ok (.aload_n 0, 1) := by decide +kernel
theorem dX12_months_135 : decode cX12_months 135 = .ok (.invokevirtual 522, 3) := by decide +kernel
theorem dX12_months_138 : decode cX12_months 138 = .ok (.iconst 2, 1) := by decide +kernel
theorem dX12_months_139 : decode cX12_months 139 = .ok (.if_icmp .le 16, 3) := by decide +kernel
theorem dX12_months_142 : decode cX12_months 142 = .ok (.aload_n 0, 1) := by decide +kernel
theorem dX12_months_143 : decode cX12_months 143 = .ok (.iconst 4, 1) := by decide +kernel
theorem dX12_months_144 : decode cX12_months 144 = .ok (.invokevirtual 519, 3) := by decide +kernel
theorem dX12_months_147 : decode cX12_months 147 = .ok (.ifCond .ne 8, 3) := by decide +kernel
theorem dX12_months_150 : decode cX12_months 150 = .ok (.aload_n 0, 1) := by decide +kernel
theorem dX12_months_151 : decode cX12_months 151 = .ok (.invokevirtual 465, 3) := by decide +kernel
theorem dX12_months_154 : decode cX12_months 154 = .ok (.pop, 1) := by decide +kernel
theorem dX12_months_155 : decode cX12_months 155 = .ok (.iinc 6 1, 3) := by decide +kernel
theorem dX12_months_158 : decode cX12_months 158 = .ok (.goto (-81), 3) := by decide +kernel
theorem dX12_months_161 : decode cX12_months 161 = .ok (.aload_n 0, 1) := by decide +kernel
theorem dX12_months_162 : decode cX12_months 162 = .ok (.getfield 114, 3) := by decide +kernel
theorem dX12_months_165 : decode cX12_months 165 = .ok (.iconst 4, 1) := by decide +kernel
theorem dX12_months_166 : decode cX12_months 166 = .ok (.iaload, 1) := by decide +kernel
theorem dX12_months_167 : decode cX12_months 167 = .ok (.istore 6, 2) := by decide +kernel
theorem dX12_months_169 : decode cX12_months 169 = .ok (.aload_n 0, 1) := by decide +kernel
theorem dX12_months_170 : decode cX12_months 170 = .ok (.getfield 117, 3) := by decide +kernel
theorem dX12_months_173 : decode cX12_months 173 = .ok (.iconst 0, 1) := by decide +kernel
theorem dX12_months_174 : decode cX12_months 174 = .ok (.aload_n 0, 1) := by decide +kernel
theorem dX12_months_175 : decode cX12_months 175 = .ok (.getfield 114, 3) := by decide +kernel
theorem dX12_months_178 : decode cX12_months 178 = .ok (.iconst 0, 1) := by decide +kernel
theorem dX12_months_179 : decode cX12_months 179 = .ok (.invokestatic 446, 3) := by decide +kernel
theorem dX12_months_182 : decode cX12_months 182 = .ok (.iload_n 3, 1) := by decide +kernel
theorem dX12_months_183 : decode cX12_months 183 = .ok (.ifCond .ne 8, 3) := by decide +kernel
theorem dX12_months_186 : decode cX12_months 186 = .ok (.iload 4, 2) := by decide +kernel
theorem dX12_months_188 : decode cX12_months 188 = .ok (.goto 22, 3) := by decide +kernel
theorem dX12_months_191 : decode cX12_months 191 = .ok (.iload_n 3, 1) := by decide +kernel
theorem dX12_months_192 : decode cX12_months 192 = .ok (.iconst 1, 1) := by decide +kernel
theorem dX12_months_193 : decode cX12_months 193 = .ok (.if_icmp .ne 8, 3) := by decide +kernel
theorem dX12_months_196 : decode cX12_months 196 = .ok (.iload 5, 2) := by decide +kernel
theorem dX12_months_198 : decode cX12_months 198 = .ok (.goto 12, 3) := by decide +kernel
theorem dX12_months_201 : decode cX12_months 201 = .ok (.iload 6, 2) := by decide +kernel
theorem dX12_months_203 : decode cX12_months 203 = .ok (.aload_n 0, 1) := by decide +kernel
theorem dX12_months_204 : decode cX12_months 204 = .ok (.getfield 114, 3) := by decide +kernel
theorem dX12_months_207 : decode cX12_months 207 = .ok (.iconst 4, 1) := by decide +kernel
theorem dX12_months_208 : decode cX12_months 208 = .ok (.iaload, 1) := by decide +kernel
theorem dX12_months_209 : decode cX12_months 209 = .ok (.isub, 1) := by decide +kernel
theorem dX12_months_210 : decode cX12_months 210 = .ok (.ireturn, 1) := by decide +kernel
set_option maxRecDepth 20000 in
theorem ggX12_mark_X12_within : GoodIn wsX12_mark wsX12_within := goodIn_r _ [9] (by decide +kernel) (by decide +kernel)
set_option maxRecDepth 20000 in
theorem gX12_mark_X12_within : GoodIn wsX12_mark (va_wsS RX12 293 yX12_within wsX12_within) := goodIn_app (goodIn_of _ (by decide +kernel)) ggX12_mark_X12_within
set_option maxRecDepth 20000 in
theorem ggX12_mark_X12_laysLines : GoodIn wsX12_mark wsX12_laysLines := goodIn_r _ [13, 14, 15, 16, 17, 28, 29, 30, 31, 32, 33, 34, 35, 36, 37, 38, 39, 40, 41, 42, 43, 44, 45, 46, 47, 48, 49, 50, 51, 52, 53, 54, 55, 56, 57, 58, 59, 60, 61, 62, 63, 64, 65, 66, 67, 68, 69, 70, 71, 72, 73, 74, 75, 76, 77, 78, 79, 80, 81, 82, 83, 84, 85, 86, 87, 88, 89, 90, 91, 92, 93, 94] (by decide +kernel) (by decide +kernel)
set_option maxRecDepth 20000 in
theorem gX12_mark_X12_laysLines : GoodIn wsX12_mark (wsV RX12 378 RX12 yX12_laysLines wsX12_laysLines) := goodIn_app (goodIn_of _ (by decide +kernel)) ggX12_mark_X12_laysLines
set_option maxRecDepth 20000 in
theorem ggX12_mark_X12_laysFound : GoodIn wsX12_mark wsX12_laysFound := goodIn_r _ [21, 22, 23, 24, 28, 29, 30, 31, 32, 33, 34, 35, 36, 37, 38, 39, 40, 41, 42, 43, 44, 45, 46, 47, 48, 49, 50, 51, 52, 53, 54, 55, 56, 57, 58, 59, 60, 61, 62, 63, 64, 65, 66, 67, 68, 69, 70, 71, 72, 73, 74, 75, 76, 77, 78, 79, 80, 81, 82, 83, 84, 85, 86, 87, 88, 89, 90, 91, 92, 93, 94] (by decide +kernel) (by decide +kernel)
set_option maxRecDepth 20000 in
theorem gX12_mark_X12_laysFound : GoodIn wsX12_mark (wsV RX12 525 RX12 yX12_laysFound wsX12_laysFound) := goodIn_app (goodIn_of _ (by decide +kernel)) ggX12_mark_X12_laysFound
set_option maxRecDepth 20000 in
theorem ggX12_mark_X12_copies : GoodIn wsX12_mark wsX12_copies := goodIn_r _ [27] (by decide +kernel) (by decide +kernel)
set_option maxRecDepth 20000 in
theorem gX12_mark_X12_copies : GoodIn wsX12_mark (va_wsS RX12 446 yX12_copies wsX12_copies) := goodIn_app (goodIn_of _ (by decide +kernel)) ggX12_mark_X12_copies
theorem dX12_mark_0 : decode cX12_mark 0 = .ok (.aload_n 0, 1) := by decide +kernel
theorem dX12_mark_1 : decode cX12_mark 1 = .ok (.iconst 0, 1) := by decide +kernel
theorem dX12_mark_2 : decode cX12_mark 2 = .ok (.putfield 160, 3) := by decide +kernel
theorem dX12_mark_5 : decode cX12_mark 5 = .ok (.iload_n 1, 1) := by decide +kernel
theorem dX12_mark_6 : decode cX12_mark 6 = .ok (.iconst 0, 1) := by decide +kernel
theorem dX12_mark_7 : decode cX12_mark 7 = .ok (.iconst 3, 1) := by decide +kernel
theorem dX12_mark_8 : decode cX12_mark 8 = .ok (.invokestatic 293, 3) := by decide +kernel
theorem dX12_mark_11 : decode cX12_mark 11 = .ok (.ifCond .eq 16, 3) := by decide +kernel
theorem dX12_mark_14 : decode cX12_mark 14 = .ok (.iload_n 2, 1) := by decide +kernel
theorem dX12_mark_15 : decode cX12_mark 15 = .ok (.ifCond .eq 14, 3) := by decide +kernel
theorem dX12_mark_18 : decode cX12_mark 18 = .ok (.aload_n 0, 1) := by decide +kernel
theorem dX12_mark_19 : decode cX12_mark 19 = .ok (.getfield 129, 3) := by decide +kernel
theorem dX12_mark_22 : decode cX12_mark 22 = .ok (.iload_n 1, 1) := by decide +kernel
theorem dX12_mark_23 : decode cX12_mark 23 = .ok (.baload, 1) := by decide +kernel
theorem dX12_mark_24 : decode cX12_mark 24 = .ok (.ifCond .ne 5, 3) := by decide +kernel
theorem dX12_mark_27 : decode cX12_mark 27 = .ok (.iconst 0, 1) := by decide +kernel
theorem dX12_mark_28 : decode cX12_mark 28 = .ok (.ireturn, 1) := by decide +kernel
theorem dX12_mark_29 : decode cX12_mark 29 = .ok (.aload_n 0, 1) := by decide +kernel
theorem dX12_mark_30 : decode cX12_mark 30 = .ok (.getfield 129, 3) := by decide +kernel
theorem dX12_mark_33 : decode cX12_mark 33 = .ok (.iload_n 1, 1) := by decide +kernel
theorem dX12_mark_34 : decode cX12_mark 34 = .ok (.iconst 1, 1) := by decide +kernel
theorem dX12_mark_35 : decode cX12_mark 35 = .ok (.bastore, 1) := by decide +kernel
theorem dX12_mark_36 : decode cX12_mark 36 = .ok (.iload_n 2, 1) := by decide +kernel
theorem dX12_mark_37 : decode cX12_mark 37 = .ok (.ifCond .eq 9, 3) := by decide +kernel
theorem dX12_mark_40 : decode cX12_mark 40 = .ok (.iconst 1, 1) := by decide +kernel
theorem dX12_mark_41 : decode cX12_mark 41 = .ok (.iload_n 1, 1) := by decide +kernel
theorem dX12_mark_42 : decode cX12_mark 42 = .ok (.iadd, 1) := by decide +kernel
theorem dX12_mark_43 : decode cX12_mark 43 = .ok (.goto 4, 3) := by decide +kernel
theorem dX12_mark_46 : decode cX12_mark 46 = .ok (.iconst 0, 1) := by decide +kernel
theorem dX12_mark_47 : decode cX12_mark 47 = .ok (.istore_n 3, 1) := by decide +kernel
theorem dX12_mark_48 : decode cX12_mark 48 = .ok (.iload_n 2, 1) := by decide +kernel
theorem dX12_mark_49 : decode cX12_mark 49 = .ok (.ifCond .eq 7, 3) := by decide +kernel
theorem dX12_mark_52 : decode cX12_mark 52 = .ok (.iconst 0, 1) := by decide +kernel
theorem dX12_mark_53 : decode cX12_mark 53 = .ok (.goto 6, 3) := by decide +kernel
theorem dX12_mark_56 : decode cX12_mark 56 = .ok (.iconst 1, 1) := by decide +kernel
theorem dX12_mark_57 : decode cX12_mark 57 = .ok (.iload_n 1, 1) := by decide +kernel
theorem dX12_mark_58 : decode cX12_mark 58 = .ok (.iadd, 1) := by decide +kernel
theorem dX12_mark_59 : decode cX12_mark 59 = .ok (.istore 4, 2) := by decide +kernel
theorem dX12_mark_61 : decode cX12_mark 61 = .ok (.aload_n 0, 1) := by decide +kernel
theorem dX12_mark_62 : decode cX12_mark 62 = .ok (.iload_n 3, 1) := by decide +kernel
theorem dX12_mark_63 : decode cX12_mark 63 = .ok (.iload 4, 2) := by decide +kernel
theorem dX12_mark_65 : decode cX12_mark 65 = .ok (.invokevirtual 378, 3) := by decide +kernel
theorem dX12_mark_68 : decode cX12_mark 68 = .ok (.aload_n 0, 1) := by decide +kernel
theorem dX12_mark_69 : decode cX12_mark 69 = .ok (.iload_n 3, 1) := by decide +kernel
theorem dX12_mark_70 : decode cX12_mark 70 = .ok (.iload 4, 2) := by decide +kernel
theorem dX12_mark_72 : decode cX12_mark 72 = .ok (.invokevirtual 525, 3) := by decide +kernel
theorem dX12_mark_75 : decode cX12_mark 75 = .ok (.iload_n 2, 1) := by decide +kernel
theorem dX12_mark_76 : decode cX12_mark 76 = .ok (.ifCond .eq 27, 3) := by decide +kernel
theorem dX12_mark_79 : decode cX12_mark 79 = .ok (.aload_n 0, 1) := by decide +kernel
theorem dX12_mark_80 : decode cX12_mark 80 = .ok (.getfield 123, 3) := by decide +kernel
theorem dX12_mark_83 : decode cX12_mark 83 = .ok (.bipush 17, 2) := by decide +kernel
theorem dX12_mark_85 : decode cX12_mark 85 = .ok (.iload_n 1, 1) := by decide +kernel
theorem dX12_mark_86 : decode cX12_mark 86 = .ok (.imul, 1) := by decide +kernel
theorem dX12_mark_87 : decode cX12_mark 87 = .ok (.aload_n 0, 1) := by decide +kernel
theorem dX12_mark_88 : decode cX12_mark 88 = .ok (.getfield 114, 3) := by decide +kernel
theorem dX12_mark_91 : decode cX12_mark 91 = .ok (.iconst 0, 1) := by decide +kernel
theorem dX12_mark_92 : decode cX12_mark 92 = .ok (.invokestatic 446, 3) := by decide +kernel
theorem dX12_mark_95 : decode cX12_mark 95 = .ok (.aload_n 0, 1) := by decide +kernel
theorem dX12_mark_96 : decode cX12_mark 96 = .ok (.iconst 0, 1) := by decide +kernel
theorem dX12_mark_97 : decode cX12_mark 97 = .ok (.putfield 372, 3) := by decide +kernel
theorem dX12_mark_100 : decode cX12_mark 100 = .ok (.goto 19, 3) := by decide +kernel
theorem dX12_mark_103 : decode cX12_mark 103 = .ok (.aload_n 0, 1) := by decide +kernel
theorem dX12_mark_104 : decode cX12_mark 104 = .ok (.getfield 114, 3) := by decide +kernel
theorem dX12_mark_107 : decode cX12_mark 107 = .ok (.iconst 0, 1) := by decide +kernel
theorem dX12_mark_108 : decode cX12_mark 108 = .ok (.aload_n 0, 1) := by decide +kernel
theorem dX12_mark_109 : decode cX12_mark 109 = .ok (.getfield 123, 3) := by decide +kernel
theorem dX12_mark_112 : decode cX12_mark 112 = .ok (.bipush 17, 2) := by decide +kernel
theorem dX12_mark_114 : decode cX12_mark 114 = .ok (.iload_n 1, 1) := by decide +kernel
theorem dX12_mark_115 : decode cX12_mark 115 = .ok (.imul, 1) := by decide +kernel
theorem dX12_mark_116 : decode cX12_mark 116 = .ok (.invokestatic 446, 3) := by decide +kernel
theorem dX12_mark_119 : decode cX12_mark 119 = .ok (.iconst 1, 1) := by decide +kernel
theorem dX12_mark_120 : decode cX12_mark 120 = .ok (.ireturn, 1) := by decide +kernel
set_option maxRecDepth 20000 in
theorem ggX12_count_X12_within : GoodIn wsX12_count wsX12_within := goodIn_r _ [11] (by decide +kernel) (by decide +kernel)
set_option maxRecDepth 20000 in
theorem gX12_count_X12_within : GoodIn wsX12_count (va_wsS RX12 293 yX12_within wsX12_within) := goodIn_app (goodIn_of _ (by decide +kernel)) ggX12_count_X12_within
set_option maxRecDepth 20000 in
theorem ggX12_count_X12_goneKeys : GoodIn wsX12_count wsX12_goneKeys := goodIn_r _ [15, 3, 16, 17, 18, 19, 20, 21, 22, 23, 24, 25, 26, 27, 28, 29, 30, 31, 32, 33, 34, 35, 36, 37, 38, 39, 40, 41, 42, 43, 44, 45, 46, 47, 48, 49, 50, 51, 52, 53, 54, 55, 56, 57, 58, 59, 60, 61, 62, 63, 64, 65, 66, 67, 68, 69, 70, 71, 72, 73, 74, 75, 76, 77, 78, 79, 80, 81, 82] (by decide +kernel) (by decide +kernel)
set_option maxRecDepth 20000 in
theorem gX12_count_X12_goneKeys : GoodIn wsX12_count (wsV RX12 471 RX12 yX12_goneKeys wsX12_goneKeys) := goodIn_app (goodIn_of _ (by decide +kernel)) ggX12_count_X12_goneKeys
theorem dX12_count_0 : decode cX12_count 0 = .ok (.aload_n 0, 1) := by decide +kernel
theorem dX12_count_1 : decode cX12_count 1 = .ok (.iconst 0, 1) := by decide +kernel
theorem dX12_count_2 : decode cX12_count 2 = .ok (.putfield 160, 3) := by decide +kernel
theorem dX12_count_5 : decode cX12_count 5 = .ok (.iload_n 1, 1) := by decide +kernel
theorem dX12_count_6 : decode cX12_count 6 = .ok (.iconst 0, 1) := by decide +kernel
theorem dX12_count_7 : decode cX12_count 7 = .ok (.bipush 13, 2) := by decide +kernel
theorem dX12_count_9 : decode cX12_count 9 = .ok (.invokestatic 293, 3) := by decide +kernel
theorem dX12_count_12 : decode cX12_count 12 = .ok (.ifCond .ne 5, 3) := by decide +kernel
theorem dX12_count_15 : decode cX12_count 15 = .ok (.iconst (-1), 1) := by decide +kernel
theorem dX12_count_16 : decode cX12_count 16 = .ok (.ireturn, 1) := by decide +kernel
theorem dX12_count_17 : decode cX12_count 17 = .ok (.iload_n 1, 1) := by decide +kernel
theorem dX12_count_18 : decode cX12_count 18 = .ok (.iconst 3, 1) := by decide +kernel
theorem dX12_count_19 : decode cX12_count 19 = .ok (.if_icmp .ge 10, 3) := by decide +kernel
theorem dX12_count_22 : decode cX12_count 22 = .ok (.aload_n 0, 1) := by decide +kernel
theorem dX12_count_23 : decode cX12_count 23 = .ok (.getfield 13, 3) := by decide +kernel
theorem dX12_count_26 : decode cX12_count 26 = .ok (.iload_n 1, 1) := by decide +kernel
theorem dX12_count_27 : decode cX12_count 27 = .ok (.iaload, 1) := by decide +kernel
theorem dX12_count_28 : decode cX12_count 28 = .ok (.ireturn, 1) := by decide +kernel
theorem dX12_count_29 : decode cX12_count 29 = .ok (.iload_n 1, 1) := by decide +kernel
theorem dX12_count_30 : decode cX12_count 30 = .ok (.bipush 6, 2) := by decide +kernel
theorem dX12_count_32 : decode cX12_count 32 = .ok (.if_icmp .ge 38, 3) := by decide +kernel
theorem dX12_count_35 : decode cX12_count 35 = .ok (.iload_n 1, 1) := by decide +kernel
theorem dX12_count_36 : decode cX12_count 36 = .ok (.iconst 3, 1) := by decide +kernel
theorem dX12_count_37 : decode cX12_count 37 = .ok (.if_icmp .ne 12, 3) := by decide +kernel
theorem dX12_count_40 : decode cX12_count 40 = .ok (.aload_n 0, 1) := by decide +kernel
theorem dX12_count_41 : decode cX12_count 41 = .ok (.getfield 114, 3) := by decide +kernel
theorem dX12_count_44 : decode cX12_count 44 = .ok (.iconst 1, 1) := by decide +kernel
theorem dX12_count_45 : decode cX12_count 45 = .ok (.iaload, 1) := by decide +kernel
theorem dX12_count_46 : decode cX12_count 46 = .ok (.goto 23, 3) := by decide +kernel
theorem dX12_count_49 : decode cX12_count 49 = .ok (.iload_n 1, 1) := by decide +kernel
theorem dX12_count_50 : decode cX12_count 50 = .ok (.iconst 4, 1) := by decide +kernel
theorem dX12_count_51 : decode cX12_count 51 = .ok (.if_icmp .ne 12, 3) := by decide +kernel
theorem dX12_count_54 : decode cX12_count 54 = .ok (.aload_n 0, 1) := by decide +kernel
theorem dX12_count_55 : decode cX12_count 55 = .ok (.getfield 114, 3) := by decide +kernel
