theorem dX11_station_46 : decode cX11_station 46 = .ok (.iload_n 1, 1) := by decide +kernel
theorem dX11_station_47 : decode cX11_station 47 = .ok (.ireturn, 1) := by decide +kernel
set_option maxRecDepth 20000 in
theorem ggX11_week_X5_readWeek : GoodIn wsX11_week wsX5_readWeek := goodIn_r _ [9, 10, 11, 12, 13, 14, 15, 16, 17, 18, 19, 20, 21, 22, 23, 24, 25, 26, 27, 28, 29, 30, 31, 32, 33, 34, 35, 36, 37, 38, 39, 40, 41, 42, 43, 44, 45, 46, 47, 48, 49, 50, 51, 52, 53, 54, 55, 56, 57, 58, 59, 60, 61, 62, 63, 64, 65, 66, 67, 68, 69, 70, 71, 72, 73, 74, 75, 76, 77, 78, 79, 80, 81, 82, 83, 84, 85, 86, 87, 88, 89, 90, 91, 92, 93, 94, 95, 96, 97, 98, 99, 100, 101, 102, 103, 104, 105, 106, 107, 108, 109, 110, 111, 112, 113, 114, 115, 116, 117, 118, 119, 120, 121, 122, 123, 124, 125, 126, 127, 128, 129, 130, 131, 132, 133, 134, 135, 136, 137, 138, 139, 140, 141, 142, 143, 144, 145, 146, 147, 148, 8, 149, 150, 151, 152, 153, 154, 155, 156, 157, 158, 159, 160, 161, 162, 163, 164, 165, 166, 167, 168, 169, 170, 171, 172, 173, 174, 175, 176, 205, 206, 207, 208, 209, 210, 211, 198, 199, 200, 201, 202, 203, 204] (by decide +kernel) (by decide +kernel)
set_option maxRecDepth 20000 in
theorem gX11_week_X5_readWeek : GoodIn wsX11_week (wsV RX11 108 RX5 yX5_readWeek wsX5_readWeek) := goodIn_app (goodIn_of _ (by decide +kernel)) ggX11_week_X5_readWeek
set_option maxRecDepth 20000 in
theorem ggX11_week_X10_copyFrom : GoodIn wsX11_week wsX10_copyFrom := goodIn_r _ [180, 173, 174, 175, 176, 205, 206, 207, 208] (by decide +kernel) (by decide +kernel)
set_option maxRecDepth 20000 in
theorem gX11_week_X10_copyFrom : GoodIn wsX11_week (wsV RX11 112 RX10 yX10_copyFrom wsX10_copyFrom) := goodIn_app (goodIn_of _ (by decide +kernel)) ggX11_week_X10_copyFrom
theorem dX11_week_0 : decode cX11_week 0 = .ok (.aload_n 0, 1) := by decide +kernel
theorem dX11_week_1 : decode cX11_week 1 = .ok (.getfield 21, 3) := by decide +kernel
theorem dX11_week_4 : decode cX11_week 4 = .ok (.aload_n 0, 1) := by decide +kernel
theorem dX11_week_5 : decode cX11_week 5 = .ok (.getfield 52, 3) := by decide +kernel
theorem dX11_week_8 : decode cX11_week 8 = .ok (.invokevirtual 108, 3) := by decide +kernel
theorem dX11_week_11 : decode cX11_week 11 = .ok (.istore_n 1, 1) := by decide +kernel
theorem dX11_week_12 : decode cX11_week 12 = .ok (.aload_n 0, 1) := by decide +kernel
theorem dX11_week_13 : decode cX11_week 13 = .ok (.getfield 12, 3) := by decide +kernel
theorem dX11_week_16 : decode cX11_week 16 = .ok (.iconst 0, 1) := by decide +kernel
theorem dX11_week_17 : decode cX11_week 17 = .ok (.putfield 97, 3) := by decide +kernel
theorem dX11_week_20 : decode cX11_week 20 = .ok (.iload_n 1, 1) := by decide +kernel
theorem dX11_week_21 : decode cX11_week 21 = .ok (.ifCond .ne 14, 3) := by decide +kernel
theorem dX11_week_24 : decode cX11_week 24 = .ok (.aload_n 0, 1) := by decide +kernel
theorem dX11_week_25 : decode cX11_week 25 = .ok (.getfield 48, 3) := by decide +kernel
theorem dX11_week_28 : decode cX11_week 28 = .ok (.aload_n 0, 1) := by decide +kernel
theorem dX11_week_29 : decode cX11_week 29 = .ok (.getfield 52, 3) := by decide +kernel
theorem dX11_week_32 : decode cX11_week 32 = .ok (.invokevirtual 112, 3) := by decide +kernel
theorem dX11_week_35 : decode cX11_week 35 = .ok (.iload_n 1, 1) := by decide +kernel
theorem dX11_week_36 : decode cX11_week 36 = .ok (.ireturn, 1) := by decide +kernel
set_option maxRecDepth 20000 in
theorem ggX11_passer_X11_isPasser : GoodIn wsX11_passer wsX11_isPasser := goodIn_r _ [7, 1, 19, 20, 21, 22, 23, 24, 25, 26, 27, 28, 29, 30, 31, 32, 33, 34, 35, 36, 37, 38, 39, 40, 41, 42, 43, 44, 45, 46, 47, 48, 49] (by decide +kernel) (by decide +kernel)
set_option maxRecDepth 20000 in
theorem gX11_passer_X11_isPasser : GoodIn wsX11_passer (wsV RX11 116 RX11 yX11_isPasser wsX11_isPasser) := goodIn_app (goodIn_of _ (by decide +kernel)) ggX11_passer_X11_isPasser
set_option maxRecDepth 20000 in
theorem ggX11_passer_X4_playsFor : GoodIn wsX11_passer wsX4_playsFor := goodIn_r _ [12, 13, 14, 15, 16, 17, 18, 50, 51, 52, 53, 54, 55, 56, 57, 58] (by decide +kernel) (by decide +kernel)
set_option maxRecDepth 20000 in
theorem gX11_passer_X4_playsFor : GoodIn wsX11_passer (wsV RX11 141 RX4 yX4_playsFor wsX4_playsFor) := goodIn_app (goodIn_of _ (by decide +kernel)) ggX11_passer_X4_playsFor
theorem dX11_passer_0 : decode cX11_passer 0 = .ok (.aload_n 0, 1) := by decide +kernel
theorem dX11_passer_1 : decode cX11_passer 1 = .ok (.iload_n 1, 1) := by decide +kernel
theorem dX11_passer_2 : decode cX11_passer 2 = .ok (.invokevirtual 116, 3) := by decide +kernel
theorem dX11_passer_5 : decode cX11_passer 5 = .ok (.ifCond .ne 5, 3) := by decide +kernel
theorem dX11_passer_8 : decode cX11_passer 8 = .ok (.iconst (-1), 1) := by decide +kernel
theorem dX11_passer_9 : decode cX11_passer 9 = .ok (.ireturn, 1) := by decide +kernel
theorem dX11_passer_10 : decode cX11_passer 10 = .ok (.aload_n 0, 1) := by decide +kernel
theorem dX11_passer_11 : decode cX11_passer 11 = .ok (.getfield 28, 3) := by decide +kernel
theorem dX11_passer_14 : decode cX11_passer 14 = .ok (.getfield 120, 3) := by decide +kernel
theorem dX11_passer_17 : decode cX11_passer 17 = .ok (.iload_n 1, 1) := by decide +kernel
theorem dX11_passer_18 : decode cX11_passer 18 = .ok (.aaload, 1) := by decide +kernel
theorem dX11_passer_19 : decode cX11_passer 19 = .ok (.astore_n 3, 1) := by decide +kernel
theorem dX11_passer_20 : decode cX11_passer 20 = .ok (.iload_n 2, 1) := by decide +kernel
theorem dX11_passer_21 : decode cX11_passer 21 = .ok (.tableswitch 76 0 5 #[39, 44, 49, 54, 59, 71], 39) := by decide +kernel
theorem dX11_passer_60 : decode cX11_passer 60 = .ok (.aload_n 3, 1) := by decide +kernel
theorem dX11_passer_61 : decode cX11_passer 61 = .ok (.getfield 124, 3) := by decide +kernel
theorem dX11_passer_64 : decode cX11_passer 64 = .ok (.ireturn, 1) := by decide +kernel
theorem dX11_passer_65 : decode cX11_passer 65 = .ok (.aload_n 3, 1) := by decide +kernel
theorem dX11_passer_66 : decode cX11_passer 66 = .ok (.getfield 129, 3) := by decide +kernel
theorem dX11_passer_69 : decode cX11_passer 69 = .ok (.ireturn, 1) := by decide +kernel
theorem dX11_passer_70 : decode cX11_passer 70 = .ok (.aload_n 3, 1) := by decide +kernel
theorem dX11_passer_71 : decode cX11_passer 71 = .ok (.getfield 132, 3) := by decide +kernel
theorem dX11_passer_74 : decode cX11_passer 74 = .ok (.ireturn, 1) := by decide +kernel
theorem dX11_passer_75 : decode cX11_passer 75 = .ok (.aload_n 3, 1) := by decide +kernel
theorem dX11_passer_76 : decode cX11_passer 76 = .ok (.getfield 135, 3) := by decide +kernel
theorem dX11_passer_79 : decode cX11_passer 79 = .ok (.ireturn, 1) := by decide +kernel
theorem dX11_passer_80 : decode cX11_passer 80 = .ok (.aload_n 3, 1) := by decide +kernel
theorem dX11_passer_81 : decode cX11_passer 81 = .ok (.aload_n 0, 1) := by decide +kernel
theorem dX11_passer_82 : decode cX11_passer 82 = .ok (.getfield 38, 3) := by decide +kernel
theorem dX11_passer_85 : decode cX11_passer 85 = .ok (.getfield 138, 3) := by decide +kernel
theorem dX11_passer_88 : decode cX11_passer 88 = .ok (.invokevirtual 141, 3) := by decide +kernel
theorem dX11_passer_91 : decode cX11_passer 91 = .ok (.ireturn, 1) := by decide +kernel
theorem dX11_passer_92 : decode cX11_passer 92 = .ok (.aload_n 3, 1) := by decide +kernel
theorem dX11_passer_93 : decode cX11_passer 93 = .ok (.getfield 145, 3) := by decide +kernel
theorem dX11_passer_96 : decode cX11_passer 96 = .ok (.ireturn, 1) := by decide +kernel
theorem dX11_passer_97 : decode cX11_passer 97 = .ok (.iconst (-1), 1) := by decide +kernel
theorem dX11_passer_98 : decode cX11_passer 98 = .ok (.ireturn, 1) := by decide +kernel
theorem dX11_tune_0 : decode cX11_tune 0 = .ok (.iload_n 1, 1) := by decide +kernel
theorem dX11_tune_1 : decode cX11_tune 1 = .ok (.ifCond .lt 29, 3) := by decide +kernel
theorem dX11_tune_4 : decode cX11_tune 4 = .ok (.iload_n 1, 1) := by decide +kernel
theorem dX11_tune_5 : decode cX11_tune 5 = .ok (.aload_n 0, 1) := by decide +kernel
theorem dX11_tune_6 : decode cX11_tune 6 = .ok (.getfield 28, 3) := by decide +kernel
theorem dX11_tune_9 : decode cX11_tune 9 = .ok (.getfield 148, 3) := by decide +kernel
theorem dX11_tune_12 : decode cX11_tune 12 = .ok (.if_icmp .ge 18, 3) := by decide +kernel
theorem dX11_tune_15 : decode cX11_tune 15 = .ok (.iload_n 1, 1) := by decide +kernel
theorem dX11_tune_16 : decode cX11_tune 16 = .ok (.iconst 5, 1) := by decide +kernel
theorem dX11_tune_17 : decode cX11_tune 17 = .ok (.if_icmp .ge 13, 3) := by decide +kernel
theorem dX11_tune_20 : decode cX11_tune 20 = .ok (.iload_n 2, 1) := by decide +kernel
theorem dX11_tune_21 : decode cX11_tune 21 = .ok (.ifCond .lt 9, 3) := by decide +kernel
theorem dX11_tune_24 : decode cX11_tune 24 = .ok (.iload_n 2, 1) := by decide +kernel
theorem dX11_tune_25 : decode cX11_tune 25 = .ok (.bipush 9, 2) := by decide +kernel
theorem dX11_tune_27 : decode cX11_tune 27 = .ok (.if_icmp .lt 5, 3) := by decide +kernel
theorem dX11_tune_30 : decode cX11_tune 30 = .ok (.iconst (-1), 1) := by decide +kernel
theorem dX11_tune_31 : decode cX11_tune 31 = .ok (.ireturn, 1) := by decide +kernel
theorem dX11_tune_32 : decode cX11_tune 32 = .ok (.iload_n 2, 1) := by decide +kernel
theorem dX11_tune_33 : decode cX11_tune 33 = .ok (.aload_n 0, 1) := by decide +kernel
theorem dX11_tune_34 : decode cX11_tune 34 = .ok (.getfield 28, 3) := by decide +kernel
theorem dX11_tune_37 : decode cX11_tune 37 = .ok (.getfield 151, 3) := by decide +kernel
theorem dX11_tune_40 : decode cX11_tune 40 = .ok (.iload_n 1, 1) := by decide +kernel
theorem dX11_tune_41 : decode cX11_tune 41 = .ok (.iaload, 1) := by decide +kernel
theorem dX11_tune_42 : decode cX11_tune 42 = .ok (.if_icmp .ge 17, 3) := by decide +kernel
theorem dX11_tune_45 : decode cX11_tune 45 = .ok (.aload_n 0, 1) := by decide +kernel
theorem dX11_tune_46 : decode cX11_tune 46 = .ok (.getfield 28, 3) := by decide +kernel
theorem dX11_tune_49 : decode cX11_tune 49 = .ok (.getfield 154, 3) := by decide +kernel
theorem dX11_tune_52 : decode cX11_tune 52 = .ok (.iload_n 1, 1) := by decide +kernel
theorem dX11_tune_53 : decode cX11_tune 53 = .ok (.aaload, 1) := by decide +kernel
theorem dX11_tune_54 : decode cX11_tune 54 = .ok (.iload_n 2, 1) := by decide +kernel
theorem dX11_tune_55 : decode cX11_tune 55 = .ok (.iaload, 1) := by decide +kernel
theorem dX11_tune_56 : decode cX11_tune 56 = .ok (.goto 4, 3) := by decide +kernel
theorem dX11_tune_59 : decode cX11_tune 59 = .ok (.iconst (-1), 1) := by decide +kernel
theorem dX11_tune_60 : decode cX11_tune 60 = .ok (.ireturn, 1) := by decide +kernel
set_option maxRecDepth 20000 in
theorem ggX11_key_X11_isKey : GoodIn wsX11_key wsX11_isKey := goodIn_r _ [5] (by decide +kernel) (by decide +kernel)
set_option maxRecDepth 20000 in
theorem gX11_key_X11_isKey : GoodIn wsX11_key (va_wsS RX11 158 yX11_isKey wsX11_isKey) := goodIn_app (goodIn_of _ (by decide +kernel)) ggX11_key_X11_isKey
theorem dX11_key_0 : decode cX11_key 0 = .ok (.iload_n 1, 1) := by decide +kernel
theorem dX11_key_1 : decode cX11_key 1 = .ok (.invokestatic 158, 3) := by decide +kernel
theorem dX11_key_4 : decode cX11_key 4 = .ok (.ifCond .eq 15, 3) := by decide +kernel
theorem dX11_key_7 : decode cX11_key 7 = .ok (.aload_n 0, 1) := by decide +kernel
theorem dX11_key_8 : decode cX11_key 8 = .ok (.getfield 38, 3) := by decide +kernel
theorem dX11_key_11 : decode cX11_key 11 = .ok (.getfield 161, 3) := by decide +kernel
theorem dX11_key_14 : decode cX11_key 14 = .ok (.iload_n 1, 1) := by decide +kernel
theorem dX11_key_15 : decode cX11_key 15 = .ok (.iaload, 1) := by decide +kernel
theorem dX11_key_16 : decode cX11_key 16 = .ok (.goto 4, 3) := by decide +kernel
theorem dX11_key_19 : decode cX11_key 19 = .ok (.iconst (-1), 1) := by decide +kernel
theorem dX11_key_20 : decode cX11_key 20 = .ok (.ireturn, 1) := by decide +kernel
set_option maxRecDepth 20000 in
theorem ggX11_begins_X11_isPasser : GoodIn wsX11_begins wsX11_isPasser := goodIn_r _ [6, 7, 134, 135, 136, 137, 138, 139, 140, 141, 142, 143, 144, 145, 146, 147, 148, 149, 150, 166, 167, 168, 169, 170, 171, 172, 173, 174, 175, 176, 177, 178, 179] (by decide +kernel) (by decide +kernel)
set_option maxRecDepth 20000 in
theorem gX11_begins_X11_isPasser : GoodIn wsX11_begins (wsV RX11 116 RX11 yX11_isPasser wsX11_isPasser) := goodIn_app (goodIn_of _ (by decide +kernel)) ggX11_begins_X11_isPasser
set_option maxRecDepth 20000 in
theorem ggX11_begins_X11_tryDay : GoodIn wsX11_begins wsX11_tryDay := goodIn_r _ [11, 12, 13, 1, 7, 14, 15, 16, 17, 18, 19, 20, 21, 22, 23, 24, 25, 26, 27, 28, 29, 30, 31, 32, 33, 34, 35, 36, 37, 38, 39, 40, 41, 42, 43, 44, 45, 46, 47, 48, 49, 50, 51, 52, 53, 54, 55, 56, 57, 58, 59, 60, 61, 62, 63, 64, 65, 66, 67, 68, 69, 70, 71, 72, 73, 74, 75, 76, 77, 78, 79, 80, 81, 82, 83, 84, 85, 86, 87, 88, 89, 90, 91, 92, 93, 94, 95, 96, 97, 98, 99, 100, 101, 102, 103, 104, 105, 106, 107, 108, 109, 110, 111, 112, 113, 114, 115, 116, 117, 118, 119, 120, 121, 122, 123, 124, 125, 126, 127, 128, 129, 130, 131, 132, 133, 134, 135, 136, 137, 138, 139, 140, 141, 142, 143, 144, 145, 146, 147, 148, 149, 150, 180, 181, 182, 183, 184, 185, 151, 152, 153, 154, 155, 156, 157, 158, 159, 160, 161, 162, 163, 164, 165, 166, 167, 168, 169, 170, 171, 172, 173, 174, 175, 176, 177, 178, 179, 186, 187, 188, 189, 190, 191, 192, 193, 194, 195, 196, 197, 198, 199] (by decide +kernel) (by decide +kernel)
set_option maxRecDepth 20000 in
theorem gX11_begins_X11_tryDay : GoodIn wsX11_begins (wsV RX11 164 RX11 yX11_tryDay wsX11_tryDay) := goodIn_app (goodIn_of _ (by decide +kernel)) ggX11_begins_X11_tryDay
theorem dX11_begins_0 : decode cX11_begins 0 = .ok (.aload_n 0, 1) := by decide +kernel
theorem dX11_begins_1 : decode cX11_begins 1 = .ok (.iload_n 1, 1) := by decide +kernel
theorem dX11_begins_2 : decode cX11_begins 2 = .ok (.invokevirtual 116, 3) := by decide +kernel
theorem dX11_begins_5 : decode cX11_begins 5 = .ok (.ifCond .ne 5, 3) := by decide +kernel
theorem dX11_begins_8 : decode cX11_begins 8 = .ok (.iconst (-1), 1) := by decide +kernel
theorem dX11_begins_9 : decode cX11_begins 9 = .ok (.ireturn, 1) := by decide +kernel
theorem dX11_begins_10 : decode cX11_begins 10 = .ok (.aload_n 0, 1) := by decide +kernel
theorem dX11_begins_11 : decode cX11_begins 11 = .ok (.iconst 0, 1) := by decide +kernel
theorem dX11_begins_12 : decode cX11_begins 12 = .ok (.invokevirtual 164, 3) := by decide +kernel
theorem dX11_begins_15 : decode cX11_begins 15 = .ok (.pop, 1) := by decide +kernel
theorem dX11_begins_16 : decode cX11_begins 16 = .ok (.aload_n 0, 1) := by decide +kernel
theorem dX11_begins_17 : decode cX11_begins 17 = .ok (.getfield 74, 3) := by decide +kernel
theorem dX11_begins_20 : decode cX11_begins 20 = .ok (.getfield 167, 3) := by decide +kernel
theorem dX11_begins_23 : decode cX11_begins 23 = .ok (.iload_n 1, 1) := by decide +kernel
theorem dX11_begins_24 : decode cX11_begins 24 = .ok (.iaload, 1) := by decide +kernel
theorem dX11_begins_25 : decode cX11_begins 25 = .ok (.ireturn, 1) := by decide +kernel
set_option maxRecDepth 20000 in
theorem ggX11_ends_X11_isPasser : GoodIn wsX11_ends wsX11_isPasser := goodIn_r _ [6, 7, 134, 135, 136, 137, 138, 139, 140, 141, 142, 143, 144, 145, 146, 147, 148, 149, 150, 166, 167, 168, 169, 170, 171, 172, 173, 174, 175, 176, 177, 178, 179] (by decide +kernel) (by decide +kernel)
set_option maxRecDepth 20000 in
theorem gX11_ends_X11_isPasser : GoodIn wsX11_ends (wsV RX11 116 RX11 yX11_isPasser wsX11_isPasser) := goodIn_app (goodIn_of _ (by decide +kernel)) ggX11_ends_X11_isPasser
set_option maxRecDepth 20000 in
theorem ggX11_ends_X11_tryDay : GoodIn wsX11_ends wsX11_tryDay := goodIn_r _ [11, 12, 13, 1, 7, 14, 15, 16, 17, 18, 19, 20, 21, 22, 23, 24, 25, 26, 27, 28, 29, 30, 31, 32, 33, 34, 35, 36, 37, 38, 39, 40, 41, 42, 43, 44, 45, 46, 47, 48, 49, 50, 51, 52, 53, 54, 55, 56, 57, 58, 59, 60, 61, 62, 63, 64, 65, 66, 67, 68, 69, 70, 71, 72, 73, 74, 75, 76, 77, 78, 79, 80, 81, 82, 83, 84, 85, 86, 87, 88, 89, 90, 91, 92, 93, 94, 95, 96, 97, 98, 99, 100, 101, 102, 103, 104, 105, 106, 107, 108, 109, 110, 111, 112, 113, 114, 115, 116, 117, 118, 119, 120, 121, 122, 123, 124, 125, 126, 127, 128, 129, 130, 131, 132, 133, 134, 135, 136, 137, 138, 139, 140, 141, 142, 143, 144, 145, 146, 147, 148, 149, 150, 180, 181, 182, 183, 184, 185, 151, 152, 153, 154, 155, 156, 157, 158, 159, 160, 161, 162, 163, 164, 165, 166, 167, 168, 169, 170, 171, 172, 173, 174, 175, 176, 177, 178, 179, 186, 187, 188, 189, 190, 191, 192, 193, 194, 195, 196, 197, 198, 199] (by decide +kernel) (by decide +kernel)
set_option maxRecDepth 20000 in
theorem gX11_ends_X11_tryDay : GoodIn wsX11_ends (wsV RX11 164 RX11 yX11_tryDay wsX11_tryDay) := goodIn_app (goodIn_of _ (by decide +kernel)) ggX11_ends_X11_tryDay
theorem dX11_ends_0 : decode cX11_ends 0 = .ok (.aload_n 0, 1) := by decide +kernel
theorem dX11_ends_1 : decode cX11_ends 1 = .ok (.iload_n 1, 1) := by decide +kernel
theorem dX11_ends_2 : decode cX11_ends 2 = .ok (.invokevirtual 116, 3) := by decide +kernel
theorem dX11_ends_5 : decode cX11_ends 5 = .ok (.ifCond .ne 5, 3) := by decide +kernel
theorem dX11_ends_8 : decode cX11_ends 8 = .ok (.iconst (-1), 1) := by decide +kernel
theorem dX11_ends_9 : decode cX11_ends 9 = .ok (.ireturn, 1) := by decide +kernel
theorem dX11_ends_10 : decode cX11_ends 10 = .ok (.aload_n 0, 1) := by decide +kernel
theorem dX11_ends_11 : decode cX11_ends 11 = .ok (.iconst 0, 1) := by decide +kernel
theorem dX11_ends_12 : decode cX11_ends 12 = .ok (.invokevirtual 164, 3) := by decide +kernel
theorem dX11_ends_15 : decode cX11_ends 15 = .ok (.pop, 1) := by decide +kernel
theorem dX11_ends_16 : decode cX11_ends 16 = .ok (.aload_n 0, 1) := by decide +kernel
theorem dX11_ends_17 : decode cX11_ends 17 = .ok (.getfield 74, 3) := by decide +kernel
theorem dX11_ends_20 : decode cX11_ends 20 = .ok (.getfield 170, 3) := by decide +kernel
theorem dX11_ends_23 : decode cX11_ends 23 = .ok (.iload_n 1, 1) := by decide +kernel
theorem dX11_ends_24 : decode cX11_ends 24 = .ok (.iaload, 1) := by decide +kernel
theorem dX11_ends_25 : decode cX11_ends 25 = .ok (.ireturn, 1) := by decide +kernel
set_option maxRecDepth 20000 in
theorem ggX11_now_X11_tryDay : GoodIn wsX11_now wsX11_tryDay := goodIn_r _ [7, 8, 9, 2, 1, 10, 11, 12, 13, 14, 15, 16, 17, 18, 19, 20, 21, 22, 23, 24, 25, 26, 27, 28, 29, 30, 31, 32, 33, 34, 35, 36, 37, 38, 39, 40, 41, 42, 43, 44, 45, 46, 47, 48, 49, 50, 51, 52, 53, 54, 55, 56, 57, 58, 59, 60, 61, 62, 63, 64, 65, 66, 67, 68, 69, 70, 71, 72, 73, 74, 75, 76, 77, 78, 79, 80, 81, 82, 83, 84, 85, 86, 87, 88, 89, 90, 91, 92, 93, 94, 95, 96, 97, 98, 99, 100, 101, 102, 103, 104, 105, 106, 107, 108, 109, 110, 111, 112, 113, 114, 115, 116, 117, 118, 119, 120, 121, 122, 123, 124, 125, 126, 127, 128, 129, 130, 131, 132, 133, 134, 135, 136, 137, 138, 139, 140, 141, 142, 143, 144, 145, 146, 176, 177, 178, 179, 180, 181, 161, 162, 163, 164, 165, 166, 167, 168, 169, 170, 171, 172, 173, 174, 175, 147, 148, 149, 150, 151, 152, 153, 154, 155, 156, 157, 158, 159, 160, 182, 183, 184, 185, 186, 187, 188, 189, 190, 191, 192, 193, 194, 195] (by decide +kernel) (by decide +kernel)
set_option maxRecDepth 20000 in
theorem gX11_now_X11_tryDay : GoodIn wsX11_now (wsV RX11 164 RX11 yX11_tryDay wsX11_tryDay) := goodIn_app (goodIn_of _ (by decide +kernel)) ggX11_now_X11_tryDay
theorem dX11_now_0 : decode cX11_now 0 = .ok (.iload_n 1, 1) := by decide +kernel
theorem dX11_now_1 : decode cX11_now 1 = .ok (.ifCond .lt 9, 3) := by decide +kernel
theorem dX11_now_4 : decode cX11_now 4 = .ok (.iload_n 1, 1) := by decide +kernel
theorem dX11_now_5 : decode cX11_now 5 = .ok (.bipush 60, 2) := by decide +kernel
theorem dX11_now_7 : decode cX11_now 7 = .ok (.if_icmp .lt 5, 3) := by decide +kernel
theorem dX11_now_10 : decode cX11_now 10 = .ok (.iconst (-1), 1) := by decide +kernel
theorem dX11_now_11 : decode cX11_now 11 = .ok (.ireturn, 1) := by decide +kernel
theorem dX11_now_12 : decode cX11_now 12 = .ok (.aload_n 0, 1) := by decide +kernel
theorem dX11_now_13 : decode cX11_now 13 = .ok (.iconst 0, 1) := by decide +kernel
theorem dX11_now_14 : decode cX11_now 14 = .ok (.invokevirtual 164, 3) := by decide +kernel
theorem dX11_now_17 : decode cX11_now 17 = .ok (.pop, 1) := by decide +kernel
theorem dX11_now_18 : decode cX11_now 18 = .ok (.iconst 0, 1) := by decide +kernel
theorem dX11_now_19 : decode cX11_now 19 = .ok (.istore_n 2, 1) := by decide +kernel
theorem dX11_now_20 : decode cX11_now 20 = .ok (.iload_n 2, 1) := by decide +kernel
theorem dX11_now_21 : decode cX11_now 21 = .ok (.aload_n 0, 1) := by decide +kernel
theorem dX11_now_22 : decode cX11_now 22 = .ok (.getfield 28, 3) := by decide +kernel
theorem dX11_now_25 : decode cX11_now 25 = .ok (.getfield 173, 3) := by decide +kernel
theorem dX11_now_28 : decode cX11_now 28 = .ok (.if_icmp .ge 56, 3) := by decide +kernel
theorem dX11_now_31 : decode cX11_now 31 = .ok (.iload_n 2, 1) := by decide +kernel
theorem dX11_now_32 : decode cX11_now 32 = .ok (.bipush 7, 2) := by decide +kernel
theorem dX11_now_34 : decode cX11_now 34 = .ok (.if_icmp .ge 50, 3) := by decide +kernel
theorem dX11_now_37 : decode cX11_now 37 = .ok (.aload_n 0, 1) := by decide +kernel
theorem dX11_now_38 : decode cX11_now 38 = .ok (.getfield 74, 3) := by decide +kernel
theorem dX11_now_41 : decode cX11_now 41 = .ok (.getfield 167, 3) := by decide +kernel
theorem dX11_now_44 : decode cX11_now 44 = .ok (.iload_n 2, 1) := by decide +kernel
theorem dX11_now_45 : decode cX11_now 45 = .ok (.iaload, 1) := by decide +kernel
theorem dX11_now_46 : decode cX11_now 46 = .ok (.iconst (-1), 1) := by decide +kernel
theorem dX11_now_47 : decode cX11_now 47 = .ok (.if_icmp .eq 31, 3) := by decide +kernel
theorem dX11_now_50 : decode cX11_now 50 = .ok (.aload_n 0, 1) := by decide +kernel
theorem dX11_now_51 : decode cX11_now 51 = .ok (.getfield 74, 3) := by decide +kernel
theorem dX11_now_54 : decode cX11_now 54 = .ok (.getfield 167, 3) := by decide +kernel
theorem dX11_now_57 : decode cX11_now 57 = .ok (.iload_n 2, 1) := by decide +kernel
theorem dX11_now_58 : decode cX11_now 58 = .ok (.iaload, 1) := by decide +kernel
theorem dX11_now_59 : decode cX11_now 59 = .ok (.iload_n 1, 1) := by decide +kernel
theorem dX11_now_60 : decode cX11_now 60 = .ok (.if_icmp .gt 18, 3) := by decide +kernel
theorem dX11_now_63 : decode cX11_now 63 = .ok (.iload_n 1, 1) := by decide +kernel
theorem dX11_now_64 : decode cX11_now 64 = .ok (.aload_n 0, 1) := by decide +kernel
theorem dX11_now_65 : decode cX11_now 65 = .ok (.getfield 74, 3) := by decide +kernel
theorem dX11_now_68 : decode cX11_now 68 = .ok (.getfield 170, 3) := by decide +kernel
theorem dX11_now_71 : decode cX11_now 71 = .ok (.iload_n 2, 1) := by decide +kernel
theorem dX11_now_72 : decode cX11_now 72 = .ok (.iaload, 1) := by decide +kernel
theorem dX11_now_73 : decode cX11_now 73 = .ok (.if_icmp .ge 5, 3) := by decide +kernel
theorem dX11_now_76 : decode cX11_now 76 = .ok (.iload_n 2, 1) := by decide +kernel
theorem dX11_now_77 : decode cX11_now 77 = .ok (.ireturn, 1) := by decide +kernel
theorem dX11_now_78 : decode cX11_now 78 = .ok (.iinc 2 1, 3) := by decide +kernel
theorem dX11_now_81 : decode cX11_now 81 = .ok (.goto (-61), 3) := by decide +kernel
theorem dX11_now_84 : decode cX11_now 84 = .ok (.iconst (-1), 1) := by decide +kernel
theorem dX11_now_85 : decode cX11_now 85 = .ok (.ireturn, 1) := by decide +kernel
set_option maxRecDepth 20000 in
theorem ggX11_away_X11_tryDay : GoodIn wsX11_away wsX11_tryDay := goodIn_r _ [7, 8, 9, 2, 1, 10, 11, 12, 13, 14, 15, 16, 17, 18, 19, 20, 21, 22, 23, 24, 25, 26, 27, 28, 29, 30, 31, 32, 33, 34, 35, 36, 37, 38, 39, 40, 41, 42, 43, 44, 45, 46, 47, 48, 49, 50, 51, 52, 53, 54, 55, 56, 57, 58, 59, 60, 61, 62, 63, 64, 65, 66, 67, 68, 69, 70, 71, 72, 73, 74, 75, 76, 77, 78, 79, 80, 81, 82, 83, 84, 85, 86, 87, 88, 89, 90, 91, 92, 93, 94, 95, 96, 97, 98, 99, 100, 101, 102, 103, 104, 105, 106, 107, 108, 109, 110, 111, 112, 113, 114, 115, 116, 117, 118, 119, 120, 121, 122, 123, 124, 125, 126, 127, 128, 129, 130, 131, 132, 133, 134, 135, 136, 137, 138, 139, 140, 141, 142, 143, 144, 145, 146, 176, 177, 178, 179, 180, 181, 161, 162, 163, 164, 165, 166, 167, 168, 169, 170, 171, 172, 173, 174, 175, 147, 148, 149, 150, 151, 152, 153, 154, 155, 156, 157, 158, 159, 160, 182, 183, 184, 185, 186, 187, 188, 189, 190, 191, 192, 193, 194, 195] (by decide +kernel) (by decide +kernel)
set_option maxRecDepth 20000 in
theorem gX11_away_X11_tryDay : GoodIn wsX11_away (wsV RX11 164 RX11 yX11_tryDay wsX11_tryDay) := goodIn_app (goodIn_of _ (by decide +kernel)) ggX11_away_X11_tryDay
theorem dX11_away_0 : decode cX11_away 0 = .ok (.aload_n 0, 1) := by decide +kernel
theorem dX11_away_1 : decode cX11_away 1 = .ok (.iconst 0, 1) := by decide +kernel
theorem dX11_away_2 : decode cX11_away 2 = .ok (.invokevirtual 164, 3) := by decide +kernel
theorem dX11_away_5 : decode cX11_away 5 = .ok (.pop, 1) := by decide +kernel
theorem dX11_away_6 : decode cX11_away 6 = .ok (.iconst 0, 1) := by decide +kernel
theorem dX11_away_7 : decode cX11_away 7 = .ok (.istore_n 1, 1) := by decide +kernel
theorem dX11_away_8 : decode cX11_away 8 = .ok (.iconst 0, 1) := by decide +kernel
theorem dX11_away_9 : decode cX11_away 9 = .ok (.istore_n 2, 1) := by decide +kernel
theorem dX11_away_10 : decode cX11_away 10 = .ok (.iload_n 2, 1) := by decide +kernel
theorem dX11_away_11 : decode cX11_away 11 = .ok (.aload_n 0, 1) := by decide +kernel
theorem dX11_away_12 : decode cX11_away 12 = .ok (.getfield 28, 3) := by decide +kernel
theorem dX11_away_15 : decode cX11_away 15 = .ok (.getfield 173, 3) := by decide +kernel
theorem dX11_away_18 : decode cX11_away 18 = .ok (.if_icmp .ge 34, 3) := by decide +kernel
theorem dX11_away_21 : decode cX11_away 21 = .ok (.iload_n 2, 1) := by decide +kernel
theorem dX11_away_22 : decode cX11_away 22 = .ok (.bipush 7, 2) := by decide +kernel
theorem dX11_away_24 : decode cX11_away 24 = .ok (.if_icmp .ge 28, 3) := by decide +kernel
theorem dX11_away_27 : decode cX11_away 27 = .ok (.aload_n 0, 1) := by decide +kernel
theorem dX11_away_28 : decode cX11_away 28 = .ok (.getfield 74, 3) := by decide +kernel
theorem dX11_away_31 : decode cX11_away 31 = .ok (.getfield 167, 3) := by decide +kernel
theorem dX11_away_34 : decode cX11_away 34 = .ok (.iload_n 2, 1) := by decide +kernel
theorem dX11_away_35 : decode cX11_away 35 = .ok (.iaload, 1) := by decide +kernel
theorem dX11_away_36 : decode cX11_away 36 = .ok (.iconst (-1), 1) := by decide +kernel
theorem dX11_away_37 : decode cX11_away 37 = .ok (.if_icmp .ne 9, 3) := by decide +kernel
theorem dX11_away_40 : decode cX11_away 40 = .ok (.iload_n 1, 1) := by decide +kernel
theorem dX11_away_41 : decode cX11_away 41 = .ok (.iconst 1, 1) := by decide +kernel
theorem dX11_away_42 : decode cX11_away 42 = .ok (.iload_n 2, 1) := by decide +kernel
theorem dX11_away_43 : decode cX11_away 43 = .ok (.ishl, 1) := by decide +kernel
theorem dX11_away_44 : decode cX11_away 44 = .ok (.ior, 1) := by decide +kernel
theorem dX11_away_45 : decode cX11_away 45 = .ok (.istore_n 1, 1) := by decide +kernel
theorem dX11_away_46 : decode cX11_away 46 = .ok (.iinc 2 1, 3) := by decide +kernel
theorem dX11_away_49 : decode cX11_away 49 = .ok (.goto (-39), 3) := by decide +kernel
theorem dX11_away_52 : decode cX11_away 52 = .ok (.iload_n 1, 1) := by decide +kernel
theorem dX11_away_53 : decode cX11_away 53 = .ok (.ireturn, 1) := by decide +kernel
set_option maxRecDepth 20000 in
theorem ggX11_joy_X11_tryDay : GoodIn wsX11_joy wsX11_tryDay := goodIn_r _ [5, 6, 7, 8, 9, 10, 11, 12, 13, 14, 15, 16, 17, 18, 19, 20, 21, 22, 23, 24, 25, 26, 27, 28, 29, 30, 31, 32, 33, 34, 35, 36, 37, 38, 39, 40, 41, 42, 43, 44, 45, 46, 47, 48, 49, 50, 51, 52, 53, 54, 55, 56, 57, 58, 59, 60, 61, 62, 63, 64, 65, 66, 67, 68, 69, 70, 71, 72, 73, 74, 75, 76, 77, 78, 79, 80, 81, 82, 83, 84, 85, 86, 87, 88, 89, 90, 91, 92, 93, 94, 95, 96, 97, 98, 99, 100, 101, 102, 103, 104, 105, 106, 107, 108, 109, 110, 111, 112, 113, 114, 115, 116, 117, 118, 119, 120, 121, 122, 123, 124, 125, 126, 127, 128, 129, 130, 131, 132, 133, 134, 135, 136, 137, 138, 139, 140, 141, 142, 143, 144, 145, 146, 147, 148, 149, 150, 151, 152, 153, 154, 155, 156, 157, 158, 159, 160, 161, 162, 163, 164, 165, 166, 167, 168, 169, 170, 171, 172, 173, 174, 175, 176, 177, 178, 179, 180, 181, 182, 183, 184, 185, 186, 187, 188, 189, 190, 191, 192, 193, 194, 195] (by decide +kernel) (by decide +kernel)
set_option maxRecDepth 20000 in
theorem gX11_joy_X11_tryDay : GoodIn wsX11_joy (wsV RX11 164 RX11 yX11_tryDay wsX11_tryDay) := goodIn_app (goodIn_of _ (by decide +kernel)) ggX11_joy_X11_tryDay
theorem dX11_joy_0 : decode cX11_joy 0 = .ok (.aload_n 0, 1) := by decide +kernel
theorem dX11_joy_1 : decode cX11_joy 1 = .ok (.iconst 0, 1) := by decide +kernel
theorem dX11_joy_2 : decode cX11_joy 2 = .ok (.invokevirtual 164, 3) := by decide +kernel
theorem dX11_joy_5 : decode cX11_joy 5 = .ok (.ireturn, 1) := by decide +kernel
set_option maxRecDepth 20000 in
theorem ggX11_day_X11_remember : GoodIn wsX11_day wsX11_remember := goodIn_r _ [8, 9, 10, 3, 11, 12, 13, 14, 15, 16, 17, 18, 19, 20, 21, 22, 23, 24, 25, 26, 133, 134, 135, 136, 137, 138, 139, 140, 141, 142, 143, 144, 145, 146, 147, 148, 149, 150, 151, 152, 153, 154, 155] (by decide +kernel) (by decide +kernel)
set_option maxRecDepth 20000 in
theorem gX11_day_X11_remember : GoodIn wsX11_day (wsV RX11 176 RX11 yX11_remember wsX11_remember) := goodIn_app (goodIn_of _ (by decide +kernel)) ggX11_day_X11_remember
set_option maxRecDepth 20000 in
theorem ggX11_day_X1_prepare : GoodIn wsX11_day wsX1_prepare := goodIn_r _ [31, 32, 33, 34, 35, 36, 37, 13, 14, 15, 38, 39, 40, 41, 42, 43, 44, 45, 46, 47, 48, 49, 50, 51, 52, 53, 54, 55, 56, 57, 58, 59, 60, 61, 62, 63, 64, 65, 66, 67, 68, 69, 70, 71, 72, 73, 74, 75, 156, 157, 158, 159, 160, 161, 162, 163, 164, 165, 166, 167, 168, 169, 170, 171, 172, 173, 174, 175, 176, 177, 178, 179, 180, 181, 182, 183, 184, 185, 186, 187, 188, 189, 190, 191, 192, 193, 194, 195, 196, 197, 198] (by decide +kernel) (by decide +kernel)
set_option maxRecDepth 20000 in
theorem gX11_day_X1_prepare : GoodIn wsX11_day (wsV RX11 179 RX1 yX1_prepare wsX1_prepare) := goodIn_app (goodIn_of _ (by decide +kernel)) ggX11_day_X1_prepare
set_option maxRecDepth 20000 in
theorem ggX11_day_X1_pass : GoodIn wsX11_day wsX1_pass := goodIn_r _ [79, 80, 81, 82, 83, 84, 85, 86, 87, 88, 89, 30, 90, 32, 33, 91, 92, 93, 94, 95, 96, 34, 97, 98, 99, 100, 101, 102, 103, 104, 105, 106, 107, 41, 108, 43, 109, 110, 111, 112, 113, 114, 54, 14, 55, 115, 116, 117, 118, 36, 119, 120, 121, 122, 35, 123, 124, 125, 126, 127, 128, 129, 130, 49, 131, 132, 52, 13, 15, 53, 56, 57, 58, 59, 60, 61, 62, 63, 64, 65, 66, 67, 68, 69, 70, 71, 72, 73, 74, 75, 156, 157, 158, 159, 160, 161, 162, 163, 164, 165, 166, 167, 168, 169, 170, 150, 151, 152, 153, 154, 155, 171, 172, 173, 174, 175, 176, 177, 178, 179, 180, 181, 182, 183, 184, 185, 186, 187, 188, 189, 190, 191, 192, 193, 194, 195, 196, 197, 198] (by decide +kernel) (by decide +kernel)
set_option maxRecDepth 20000 in
theorem gX11_day_X1_pass : GoodIn wsX11_day (wsV RX11 183 RX1 yX1_pass wsX1_pass) := goodIn_app (goodIn_of _ (by decide +kernel)) ggX11_day_X1_pass
theorem dX11_day_0 : decode cX11_day 0 = .ok (.aload_n 0, 1) := by decide +kernel
theorem dX11_day_1 : decode cX11_day 1 = .ok (.invokevirtual 176, 3) := by decide +kernel
theorem dX11_day_4 : decode cX11_day 4 = .ok (.aload_n 0, 1) := by decide +kernel
theorem dX11_day_5 : decode cX11_day 5 = .ok (.getfield 74, 3) := by decide +kernel
theorem dX11_day_8 : decode cX11_day 8 = .ok (.aload_n 0, 1) := by decide +kernel
theorem dX11_day_9 : decode cX11_day 9 = .ok (.getfield 28, 3) := by decide +kernel
theorem dX11_day_12 : decode cX11_day 12 = .ok (.aload_n 0, 1) := by decide +kernel
theorem dX11_day_13 : decode cX11_day 13 = .ok (.getfield 38, 3) := by decide +kernel
theorem dX11_day_16 : decode cX11_day 16 = .ok (.getfield 138, 3) := by decide +kernel
theorem dX11_day_19 : decode cX11_day 19 = .ok (.invokevirtual 179, 3) := by decide +kernel
theorem dX11_day_22 : decode cX11_day 22 = .ok (.aload_n 0, 1) := by decide +kernel
theorem dX11_day_23 : decode cX11_day 23 = .ok (.getfield 74, 3) := by decide +kernel
theorem dX11_day_26 : decode cX11_day 26 = .ok (.aload_n 0, 1) := by decide +kernel
theorem dX11_day_27 : decode cX11_day 27 = .ok (.getfield 38, 3) := by decide +kernel
theorem dX11_day_30 : decode cX11_day 30 = .ok (.iconst 0, 1) := by decide +kernel
theorem dX11_day_31 : decode cX11_day 31 = .ok (.invokevirtual 183, 3) := by decide +kernel
theorem dX11_day_34 : decode cX11_day 34 = .ok (.aload_n 0, 1) := by decide +kernel
theorem dX11_day_35 : decode cX11_day 35 = .ok (.getfield 38, 3) := by decide +kernel
theorem dX11_day_38 : decode cX11_day 38 = .ok (.dup, 1) := by decide +kernel
theorem dX11_day_39 : decode cX11_day 39 = .ok (.getfield 187, 3) := by decide +kernel
theorem dX11_day_42 : decode cX11_day 42 = .ok (.iconst 1, 1) := by decide +kernel
theorem dX11_day_43 : decode cX11_day 43 = .ok (.iadd, 1) := by decide +kernel
theorem dX11_day_44 : decode cX11_day 44 = .ok (.putfield 187, 3) := by decide +kernel
theorem dX11_day_47 : decode cX11_day 47 = .ok (.aload_n 0, 1) := by decide +kernel
theorem dX11_day_48 : decode cX11_day 48 = .ok (.getfield 74, 3) := by decide +kernel
theorem dX11_day_51 : decode cX11_day 51 = .ok (.getfield 190, 3) := by decide +kernel
theorem dX11_day_54 : decode cX11_day 54 = .ok (.ireturn, 1) := by decide +kernel
set_option maxRecDepth 20000 in
theorem ggX11_mend_X11_remember : GoodIn wsX11_mend wsX11_remember := goodIn_r _ [7, 8, 9, 1, 10, 11, 12, 13, 14, 15, 16, 17, 18, 19, 20, 21, 22, 23, 24, 25, 30, 31, 32, 33, 34, 35, 36, 37, 38, 39, 40, 41, 42, 43, 44, 45, 46, 61, 62, 63, 64, 65, 66] (by decide +kernel) (by decide +kernel)
set_option maxRecDepth 20000 in
theorem gX11_mend_X11_remember : GoodIn wsX11_mend (wsV RX11 176 RX11 yX11_remember wsX11_remember) := goodIn_app (goodIn_of _ (by decide +kernel)) ggX11_mend_X11_remember
set_option maxRecDepth 20000 in
theorem ggX11_mend_X6_tuneUp : GoodIn wsX11_mend wsX6_tuneUp := goodIn_r _ [29, 20, 25, 61, 62, 63, 64, 65, 66] (by decide +kernel) (by decide +kernel)
set_option maxRecDepth 20000 in
theorem gX11_mend_X6_tuneUp : GoodIn wsX11_mend (wsV RX11 196 RX6 yX6_tuneUp wsX6_tuneUp) := goodIn_app (goodIn_of _ (by decide +kernel)) ggX11_mend_X6_tuneUp
theorem dX11_mend_0 : decode cX11_mend 0 = .ok (.aload_n 0, 1) := by decide +kernel
theorem dX11_mend_1 : decode cX11_mend 1 = .ok (.invokevirtual 176, 3) := by decide +kernel
theorem dX11_mend_4 : decode cX11_mend 4 = .ok (.aload_n 0, 1) := by decide +kernel
theorem dX11_mend_5 : decode cX11_mend 5 = .ok (.getfield 38, 3) := by decide +kernel
theorem dX11_mend_8 : decode cX11_mend 8 = .ok (.aload_n 0, 1) := by decide +kernel
theorem dX11_mend_9 : decode cX11_mend 9 = .ok (.getfield 28, 3) := by decide +kernel
theorem dX11_mend_12 : decode cX11_mend 12 = .ok (.getfield 193, 3) := by decide +kernel
theorem dX11_mend_15 : decode cX11_mend 15 = .ok (.invokevirtual 196, 3) := by decide +kernel
theorem dX11_mend_18 : decode cX11_mend 18 = .ok (.ireturn, 1) := by decide +kernel
set_option maxRecDepth 20000 in
theorem ggX11_each_X11_isEach : GoodIn wsX11_each wsX11_isEach := goodIn_r _ [5] (by decide +kernel) (by decide +kernel)
set_option maxRecDepth 20000 in
theorem gX11_each_X11_isEach : GoodIn wsX11_each (va_wsS RX11 199 yX11_isEach wsX11_isEach) := goodIn_app (goodIn_of _ (by decide +kernel)) ggX11_each_X11_isEach
set_option maxRecDepth 20000 in
theorem ggX11_each_X11_remember : GoodIn wsX11_each wsX11_remember := goodIn_r _ [9, 10, 11, 1, 12, 13, 14, 15, 16, 17, 18, 19, 20, 21, 22, 23, 24, 25, 26, 27, 28, 29, 30, 31, 32, 33, 34, 35, 36, 37, 38, 39, 40, 41, 42, 43, 44, 45, 46, 47, 48, 49, 50] (by decide +kernel) (by decide +kernel)
set_option maxRecDepth 20000 in
theorem gX11_each_X11_remember : GoodIn wsX11_each (wsV RX11 176 RX11 yX11_remember wsX11_remember) := goodIn_app (goodIn_of _ (by decide +kernel)) ggX11_each_X11_remember
theorem dX11_each_0 : decode cX11_each 0 = .ok (.iload_n 1, 1) := by decide +kernel
theorem dX11_each_1 : decode cX11_each 1 = .ok (.invokestatic 199, 3) := by decide +kernel
theorem dX11_each_4 : decode cX11_each 4 = .ok (.ifCond .ne 5, 3) := by decide +kernel
theorem dX11_each_7 : decode cX11_each 7 = .ok (.iconst 0, 1) := by decide +kernel
theorem dX11_each_8 : decode cX11_each 8 = .ok (.ireturn, 1) := by decide +kernel
theorem dX11_each_9 : decode cX11_each 9 = .ok (.aload_n 0, 1) := by decide +kernel
theorem dX11_each_10 : decode cX11_each 10 = .ok (.invokevirtual 176, 3) := by decide +kernel
theorem dX11_each_13 : decode cX11_each 13 = .ok (.aload_n 0, 1) := by decide +kernel
theorem dX11_each_14 : decode cX11_each 14 = .ok (.getfield 38, 3) := by decide +kernel
theorem dX11_each_17 : decode cX11_each 17 = .ok (.iload_n 1, 1) := by decide +kernel
theorem dX11_each_18 : decode cX11_each 18 = .ok (.putfield 138, 3) := by decide +kernel
theorem dX11_each_21 : decode cX11_each 21 = .ok (.iconst 1, 1) := by decide +kernel
theorem dX11_each_22 : decode cX11_each 22 = .ok (.ireturn, 1) := by decide +kernel
set_option maxRecDepth 20000 in
theorem ggX11_open_X11_remember : GoodIn wsX11_open wsX11_remember := goodIn_r _ [6, 7, 8, 1, 9, 10, 11, 12, 13, 14, 15, 16, 17, 18, 19, 20, 21, 22, 23, 24, 25, 26, 27, 28, 29, 30, 31, 32, 33, 34, 35, 36, 37, 38, 39, 40, 41, 42, 43, 44, 45, 46, 47] (by decide +kernel) (by decide +kernel)
set_option maxRecDepth 20000 in
theorem gX11_open_X11_remember : GoodIn wsX11_open (wsV RX11 176 RX11 yX11_remember wsX11_remember) := goodIn_app (goodIn_of _ (by decide +kernel)) ggX11_open_X11_remember
theorem dX11_open_0 : decode cX11_open 0 = .ok (.iload_n 1, 1) := by decide +kernel
theorem dX11_open_1 : decode cX11_open 1 = .ok (.ifCond .lt 20, 3) := by decide +kernel
theorem dX11_open_4 : decode cX11_open 4 = .ok (.iload_n 1, 1) := by decide +kernel
theorem dX11_open_5 : decode cX11_open 5 = .ok (.bipush 60, 2) := by decide +kernel
theorem dX11_open_7 : decode cX11_open 7 = .ok (.if_icmp .ge 14, 3) := by decide +kernel
theorem dX11_open_10 : decode cX11_open 10 = .ok (.iload_n 2, 1) := by decide +kernel
theorem dX11_open_11 : decode cX11_open 11 = .ok (.iload_n 1, 1) := by decide +kernel
theorem dX11_open_12 : decode cX11_open 12 = .ok (.if_icmp .le 9, 3) := by decide +kernel
theorem dX11_open_15 : decode cX11_open 15 = .ok (.iload_n 2, 1) := by decide +kernel
theorem dX11_open_16 : decode cX11_open 16 = .ok (.bipush 60, 2) := by decide +kernel
theorem dX11_open_18 : decode cX11_open 18 = .ok (.if_icmp .le 5, 3) := by decide +kernel
theorem dX11_open_21 : decode cX11_open 21 = .ok (.iconst 0, 1) := by decide +kernel
theorem dX11_open_22 : decode cX11_open 22 = .ok (.ireturn, 1) := by decide +kernel
theorem dX11_open_23 : decode cX11_open 23 = .ok (.aload_n 0, 1) := by decide +kernel
theorem dX11_open_24 : decode cX11_open 24 = .ok (.invokevirtual 176, 3) := by decide +kernel
theorem dX11_open_27 : decode cX11_open 27 = .ok (.aload_n 0, 1) := by decide +kernel
theorem dX11_open_28 : decode cX11_open 28 = .ok (.getfield 38, 3) := by decide +kernel
theorem dX11_open_31 : decode cX11_open 31 = .ok (.iload_n 1, 1) := by decide +kernel
theorem dX11_open_32 : decode cX11_open 32 = .ok (.putfield 202, 3) := by decide +kernel
theorem dX11_open_35 : decode cX11_open 35 = .ok (.aload_n 0, 1) := by decide +kernel
theorem dX11_open_36 : decode cX11_open 36 = .ok (.getfield 38, 3) := by decide +kernel
theorem dX11_open_39 : decode cX11_open 39 = .ok (.iload_n 2, 1) := by decide +kernel
theorem dX11_open_40 : decode cX11_open 40 = .ok (.putfield 205, 3) := by decide +kernel
theorem dX11_open_43 : decode cX11_open 43 = .ok (.iconst 1, 1) := by decide +kernel
theorem dX11_open_44 : decode cX11_open 44 = .ok (.ireturn, 1) := by decide +kernel
set_option maxRecDepth 20000 in
theorem ggX11_undo_X6_copyFrom : GoodIn wsX11_undo wsX6_copyFrom := goodIn_r _ [9, 10, 11, 12, 13, 14, 15, 33, 34, 35, 36, 37, 38] (by decide +kernel) (by decide +kernel)
set_option maxRecDepth 20000 in
theorem gX11_undo_X6_copyFrom : GoodIn wsX11_undo (wsV RX11 214 RX6 yX6_copyFrom wsX6_copyFrom) := goodIn_app (goodIn_of _ (by decide +kernel)) ggX11_undo_X6_copyFrom
theorem dX11_undo_0 : decode cX11_undo 0 = .ok (.aload_n 0, 1) := by decide +kernel
theorem dX11_undo_1 : decode cX11_undo 1 = .ok (.getfield 208, 3) := by decide +kernel
theorem dX11_undo_4 : decode cX11_undo 4 = .ok (.ifCond .gt 5, 3) := by decide +kernel
theorem dX11_undo_7 : decode cX11_undo 7 = .ok (.iconst 0, 1) := by decide +kernel
theorem dX11_undo_8 : decode cX11_undo 8 = .ok (.ireturn, 1) := by decide +kernel
theorem dX11_undo_9 : decode cX11_undo 9 = .ok (.aload_n 0, 1) := by decide +kernel
theorem dX11_undo_10 : decode cX11_undo 10 = .ok (.aload_n 0, 1) := by decide +kernel
theorem dX11_undo_11 : decode cX11_undo 11 = .ok (.getfield 211, 3) := by decide +kernel
theorem dX11_undo_14 : decode cX11_undo 14 = .ok (.ifCond .le 21, 3) := by decide +kernel
theorem dX11_undo_17 : decode cX11_undo 17 = .ok (.aload_n 0, 1) := by decide +kernel
theorem dX11_undo_18 : decode cX11_undo 18 = .ok (.getfield 211, 3) := by decide +kernel
theorem dX11_undo_21 : decode cX11_undo 21 = .ok (.bipush 16, 2) := by decide +kernel
theorem dX11_undo_23 : decode cX11_undo 23 = .ok (.if_icmp .ge 12, 3) := by decide +kernel
theorem dX11_undo_26 : decode cX11_undo 26 = .ok (.aload_n 0, 1) := by decide +kernel
theorem dX11_undo_27 : decode cX11_undo 27 = .ok (.getfield 211, 3) := by decide +kernel
theorem dX11_undo_30 : decode cX11_undo 30 = .ok (.iconst 1, 1) := by decide +kernel
theorem dX11_undo_31 : decode cX11_undo 31 = .ok (.isub, 1) := by decide +kernel
theorem dX11_undo_32 : decode cX11_undo 32 = .ok (.goto 5, 3) := by decide +kernel
theorem dX11_undo_35 : decode cX11_undo 35 = .ok (.bipush 15, 2) := by decide +kernel
theorem dX11_undo_37 : decode cX11_undo 37 = .ok (.putfield 211, 3) := by decide +kernel
theorem dX11_undo_40 : decode cX11_undo 40 = .ok (.aload_n 0, 1) := by decide +kernel
theorem dX11_undo_41 : decode cX11_undo 41 = .ok (.dup, 1) := by decide +kernel
theorem dX11_undo_42 : decode cX11_undo 42 = .ok (.getfield 208, 3) := by decide +kernel
theorem dX11_undo_45 : decode cX11_undo 45 = .ok (.iconst 1, 1) := by decide +kernel
theorem dX11_undo_46 : decode cX11_undo 46 = .ok (.isub, 1) := by decide +kernel
theorem dX11_undo_47 : decode cX11_undo 47 = .ok (.putfield 208, 3) := by decide +kernel
theorem dX11_undo_50 : decode cX11_undo 50 = .ok (.aload_n 0, 1) := by decide +kernel
theorem dX11_undo_51 : decode cX11_undo 51 = .ok (.getfield 38, 3) := by decide +kernel
theorem dX11_undo_54 : decode cX11_undo 54 = .ok (.aload_n 0, 1) := by decide +kernel
theorem dX11_undo_55 : decode cX11_undo 55 = .ok (.getfield 85, 3) := by decide +kernel
theorem dX11_undo_58 : decode cX11_undo 58 = .ok (.aload_n 0, 1) := by decide +kernel
theorem dX11_undo_59 : decode cX11_undo 59 = .ok (.getfield 211, 3) := by decide +kernel
theorem dX11_undo_62 : decode cX11_undo 62 = .ok (.aaload, 1) := by decide +kernel
theorem dX11_undo_63 : decode cX11_undo 63 = .ok (.invokevirtual 214, 3) := by decide +kernel
theorem dX11_undo_66 : decode cX11_undo 66 = .ok (.iconst 1, 1) := by decide +kernel
theorem dX11_undo_67 : decode cX11_undo 67 = .ok (.ireturn, 1) := by decide +kernel
set_option maxRecDepth 20000 in
theorem ggX11_judged_X11_judgeWeek : GoodIn wsX11_judged wsX11_judgeWeek := goodIn_r _ [8, 9, 10, 11, 12, 3, 13, 14, 15, 16, 17, 18, 19, 20, 21, 22, 23, 24, 25, 26, 27, 28, 29, 30, 31, 32, 33, 34, 35, 36, 37, 38, 39, 40, 41, 42, 43, 44, 45, 46, 47, 48, 49, 50, 51, 52, 53, 54, 55, 56, 57, 58, 59, 60, 61, 62, 63, 64, 65, 66, 67, 68, 69, 70, 71, 72, 73, 74, 75, 76, 77, 78, 79, 80, 81, 82, 83, 84, 85, 86, 87, 88, 89, 90, 91, 92, 93, 94, 95, 96, 97, 98, 99, 100, 101, 102, 103, 104, 105, 106, 107, 108, 109, 110, 111, 112, 113, 114, 115, 116, 117, 118, 119, 120, 121, 122, 123, 124, 125, 126, 127, 128, 129, 130, 131, 132, 133, 134, 135, 136, 137, 138, 139, 140, 141, 142, 143, 144, 145, 146, 147, 148, 149, 150, 151, 152, 153, 154, 155, 156, 157, 158, 159, 160, 161, 162, 163, 164, 165, 166, 167, 168, 169, 170, 171, 172, 173, 174, 175, 176, 177, 178, 179, 180, 181, 182, 183, 184, 185, 186, 187, 188, 189, 190, 191, 192, 193, 194, 195, 196, 197, 198, 199, 200, 201, 202, 203, 204, 205, 206, 207, 208, 209, 210] (by decide +kernel) (by decide +kernel)
set_option maxRecDepth 20000 in
theorem gX11_judged_X11_judgeWeek : GoodIn wsX11_judged (wsV RX11 220 RX11 yX11_judgeWeek wsX11_judgeWeek) := goodIn_app (goodIn_of _ (by decide +kernel)) ggX11_judged_X11_judgeWeek
theorem dX11_judged_0 : decode cX11_judged 0 = .ok (.iload_n 1, 1) := by decide +kernel
theorem dX11_judged_1 : decode cX11_judged 1 = .ok (.ifCond .lt 8, 3) := by decide +kernel
theorem dX11_judged_4 : decode cX11_judged 4 = .ok (.iload_n 1, 1) := by decide +kernel
theorem dX11_judged_5 : decode cX11_judged 5 = .ok (.iconst 2, 1) := by decide +kernel
theorem dX11_judged_6 : decode cX11_judged 6 = .ok (.if_icmp .le 11, 3) := by decide +kernel
theorem dX11_judged_9 : decode cX11_judged 9 = .ok (.new 217, 3) := by decide +kernel
theorem dX11_judged_12 : decode cX11_judged 12 = .ok (.dup, 1) := by decide +kernel
theorem dX11_judged_13 : decode cX11_judged 13 = .ok (.invokespecial 219, 3) := by decide +kernel
theorem dX11_judged_16 : decode cX11_judged 16 = .ok (.athrow, 1) := by decide +kernel
theorem dX11_judged_17 : decode cX11_judged 17 = .ok (.aload_n 0, 1) := by decide +kernel
theorem dX11_judged_18 : decode cX11_judged 18 = .ok (.invokevirtual 220, 3) := by decide +kernel
theorem dX11_judged_21 : decode cX11_judged 21 = .ok (.aload_n 0, 1) := by decide +kernel
theorem dX11_judged_22 : decode cX11_judged 22 = .ok (.getfield 89, 3) := by decide +kernel
theorem dX11_judged_25 : decode cX11_judged 25 = .ok (.iload_n 1, 1) := by decide +kernel
theorem dX11_judged_26 : decode cX11_judged 26 = .ok (.iaload, 1) := by decide +kernel
theorem dX11_judged_27 : decode cX11_judged 27 = .ok (.ireturn, 1) := by decide +kernel
set_option maxRecDepth 20000 in
theorem ggX11_best_X11_searchEach : GoodIn wsX11_best wsX11_searchEach := goodIn_r _ [8, 3, 9, 10, 11, 12, 13, 14, 15, 16, 17, 18, 19, 20, 21, 22, 23, 24, 25, 26, 27, 28, 29, 30, 31, 32, 33, 34, 35, 36, 37, 38, 39, 40, 41, 42, 43, 44, 45, 46, 47, 48, 49, 50, 51, 52, 53, 54, 55, 56, 57, 58, 59, 60, 61, 62, 63, 64, 65, 66, 67, 68, 69, 70, 71, 72, 73, 74, 75, 76, 77, 78, 79, 80, 81, 82, 83, 84, 85, 86, 87, 88, 89, 90, 91, 92, 93, 94, 95, 96, 97, 98, 99, 100, 101, 102, 103, 104, 105, 106, 107, 108, 109, 110, 111, 112, 113, 114, 115, 116, 117, 118, 119, 120, 121, 122, 123, 124, 125, 126, 127, 128, 129, 130, 131, 132, 133, 134, 135, 136, 137, 138, 139, 140, 141, 142, 143, 144, 145, 146, 147, 148, 149, 150, 151, 152, 153, 154, 155, 156, 157, 158, 159, 160, 161, 162, 163, 164, 165, 166, 167, 168, 169, 170, 171, 172, 173, 174, 175, 176, 177, 178, 179, 180, 181, 182, 183, 184, 185, 186, 187, 188, 189, 190, 191, 192, 193, 194, 195, 196, 197, 198] (by decide +kernel) (by decide +kernel)
set_option maxRecDepth 20000 in
theorem gX11_best_X11_searchEach : GoodIn wsX11_best (wsV RX11 223 RX11 yX11_searchEach wsX11_searchEach) := goodIn_app (goodIn_of _ (by decide +kernel)) ggX11_best_X11_searchEach
theorem dX11_best_0 : decode cX11_best 0 = .ok (.iload_n 1, 1) := by decide +kernel
theorem dX11_best_1 : decode cX11_best 1 = .ok (.ifCond .lt 8, 3) := by decide +kernel
theorem dX11_best_4 : decode cX11_best 4 = .ok (.iload_n 1, 1) := by decide +kernel
theorem dX11_best_5 : decode cX11_best 5 = .ok (.iconst 1, 1) := by decide +kernel
theorem dX11_best_6 : decode cX11_best 6 = .ok (.if_icmp .le 11, 3) := by decide +kernel
theorem dX11_best_9 : decode cX11_best 9 = .ok (.new 217, 3) := by decide +kernel
theorem dX11_best_12 : decode cX11_best 12 = .ok (.dup, 1) := by decide +kernel
theorem dX11_best_13 : decode cX11_best 13 = .ok (.invokespecial 219, 3) := by decide +kernel
theorem dX11_best_16 : decode cX11_best 16 = .ok (.athrow, 1) := by decide +kernel
theorem dX11_best_17 : decode cX11_best 17 = .ok (.aload_n 0, 1) := by decide +kernel
theorem dX11_best_18 : decode cX11_best 18 = .ok (.invokevirtual 223, 3) := by decide +kernel
theorem dX11_best_21 : decode cX11_best 21 = .ok (.aload_n 0, 1) := by decide +kernel
theorem dX11_best_22 : decode cX11_best 22 = .ok (.getfield 89, 3) := by decide +kernel
theorem dX11_best_25 : decode cX11_best 25 = .ok (.iload_n 1, 1) := by decide +kernel
theorem dX11_best_26 : decode cX11_best 26 = .ok (.iaload, 1) := by decide +kernel
theorem dX11_best_27 : decode cX11_best 27 = .ok (.ireturn, 1) := by decide +kernel
set_option maxRecDepth 20000 in
theorem ggX11_hours_X1_prepare : GoodIn wsX11_hours wsX1_prepare := goodIn_r _ [9, 10, 11, 12, 13, 14, 15, 16, 17, 18, 19, 20, 21, 22, 23, 24, 25, 26, 27, 28, 29, 30, 31, 32, 33, 34, 35, 36, 37, 38, 39, 40, 41, 42, 43, 44, 45, 46, 47, 48, 49, 50, 51, 52, 53, 54, 55, 56, 148, 149, 150, 151, 152, 153, 154, 155, 156, 157, 158, 159, 160, 161, 162, 163, 164, 165, 166, 167, 168, 169, 170, 171, 172, 173, 174, 175, 176, 177, 178, 179, 180, 181, 182, 183, 184, 185, 186, 187, 188, 189, 190] (by decide +kernel) (by decide +kernel)
set_option maxRecDepth 20000 in
theorem gX11_hours_X1_prepare : GoodIn wsX11_hours (wsV RX11 179 RX1 yX1_prepare wsX1_prepare) := goodIn_app (goodIn_of _ (by decide +kernel)) ggX11_hours_X1_prepare
set_option maxRecDepth 20000 in
theorem ggX11_hours_X6_copyFrom : GoodIn wsX11_hours wsX6_copyFrom := goodIn_r _ [61, 62, 63, 64, 65, 66, 67, 142, 143, 144, 145, 146, 147] (by decide +kernel) (by decide +kernel)
set_option maxRecDepth 20000 in
theorem gX11_hours_X6_copyFrom : GoodIn wsX11_hours (wsV RX11 214 RX6 yX6_copyFrom wsX6_copyFrom) := goodIn_app (goodIn_of _ (by decide +kernel)) ggX11_hours_X6_copyFrom
set_option maxRecDepth 20000 in
theorem ggX11_hours_X1_pass : GoodIn wsX11_hours wsX1_pass := goodIn_r _ [71, 72, 73, 74, 75, 76, 77, 78, 79, 80, 81, 8, 82, 10, 11, 83, 84, 85, 86, 87, 88, 12, 89, 90, 91, 92, 93, 94, 95, 96, 97, 98, 99, 22, 100, 24, 101, 102, 103, 104, 105, 106, 35, 17, 36, 107, 108, 109, 110, 14, 111, 112, 113, 114, 13, 115, 116, 117, 118, 119, 120, 121, 122, 30, 123, 124, 33, 16, 18, 34, 37, 38, 39, 40, 41, 42, 43, 44, 45, 46, 47, 48, 49, 50, 51, 52, 53, 54, 55, 56, 148, 149, 150, 151, 152, 153, 154, 155, 156, 157, 158, 159, 160, 161, 162, 142, 143, 144, 145, 146, 147, 163, 164, 165, 166, 167, 168, 169, 170, 171, 172, 173, 174, 175, 176, 177, 178, 179, 180, 181, 182, 183, 184, 185, 186, 187, 188, 189, 190] (by decide +kernel) (by decide +kernel)
set_option maxRecDepth 20000 in
theorem gX11_hours_X1_pass : GoodIn wsX11_hours (wsV RX11 183 RX1 yX1_pass wsX1_pass) := goodIn_app (goodIn_of _ (by decide +kernel)) ggX11_hours_X1_pass
theorem dX11_hours_0 : decode cX11_hours 0 = .ok (.iload_n 1, 1) := by decide +kernel
theorem dX11_hours_1 : decode cX11_hours 1 = .ok (.iconst 1, 1) := by decide +kernel
theorem dX11_hours_2 : decode cX11_hours 2 = .ok (.if_icmp .lt 9, 3) := by decide +kernel
theorem dX11_hours_5 : decode cX11_hours 5 = .ok (.iload_n 1, 1) := by decide +kernel
theorem dX11_hours_6 : decode cX11_hours 6 = .ok (.bipush 60, 2) := by decide +kernel
theorem dX11_hours_8 : decode cX11_hours 8 = .ok (.if_icmp .le 5, 3) := by decide +kernel
theorem dX11_hours_11 : decode cX11_hours 11 = .ok (.iconst (-1), 1) := by decide +kernel
theorem dX11_hours_12 : decode cX11_hours 12 = .ok (.ireturn, 1) := by decide +kernel
theorem dX11_hours_13 : decode cX11_hours 13 = .ok (.aload_n 0, 1) := by decide +kernel
theorem dX11_hours_14 : decode cX11_hours 14 = .ok (.getfield 74, 3) := by decide +kernel
theorem dX11_hours_17 : decode cX11_hours 17 = .ok (.aload_n 0, 1) := by decide +kernel
theorem dX11_hours_18 : decode cX11_hours 18 = .ok (.getfield 28, 3) := by decide +kernel
theorem dX11_hours_21 : decode cX11_hours 21 = .ok (.aload_n 0, 1) := by decide +kernel
theorem dX11_hours_22 : decode cX11_hours 22 = .ok (.getfield 38, 3) := by decide +kernel
theorem dX11_hours_25 : decode cX11_hours 25 = .ok (.getfield 138, 3) := by decide +kernel
theorem dX11_hours_28 : decode cX11_hours 28 = .ok (.invokevirtual 179, 3) := by decide +kernel
theorem dX11_hours_31 : decode cX11_hours 31 = .ok (.iconst 0, 1) := by decide +kernel
theorem dX11_hours_32 : decode cX11_hours 32 = .ok (.istore_n 2, 1) := by decide +kernel
theorem dX11_hours_33 : decode cX11_hours 33 = .ok (.iconst (-1), 1) := by decide +kernel
theorem dX11_hours_34 : decode cX11_hours 34 = .ok (.istore_n 3, 1) := by decide +kernel
theorem dX11_hours_35 : decode cX11_hours 35 = .ok (.iconst 0, 1) := by decide +kernel
theorem dX11_hours_36 : decode cX11_hours 36 = .ok (.istore 4, 2) := by decide +kernel
theorem dX11_hours_38 : decode cX11_hours 38 = .ok (.iload 4, 2) := by decide +kernel
theorem dX11_hours_40 : decode cX11_hours 40 = .ok (.iload_n 1, 1) := by decide +kernel
theorem dX11_hours_41 : decode cX11_hours 41 = .ok (.iadd, 1) := by decide +kernel
theorem dX11_hours_42 : decode cX11_hours 42 = .ok (.bipush 60, 2) := by decide +kernel
theorem dX11_hours_44 : decode cX11_hours 44 = .ok (.if_icmp .gt 79, 3) := by decide +kernel
theorem dX11_hours_47 : decode cX11_hours 47 = .ok (.aload_n 0, 1) := by decide +kernel
theorem dX11_hours_48 : decode cX11_hours 48 = .ok (.getfield 42, 3) := by decide +kernel
theorem dX11_hours_51 : decode cX11_hours 51 = .ok (.aload_n 0, 1) := by decide +kernel
theorem dX11_hours_52 : decode cX11_hours 52 = .ok (.getfield 38, 3) := by decide +kernel
theorem dX11_hours_55 : decode cX11_hours 55 = .ok (.invokevirtual 214, 3) := by decide +kernel
theorem dX11_hours_58 : decode cX11_hours 58 = .ok (.aload_n 0, 1) := by decide +kernel
theorem dX11_hours_59 : decode cX11_hours 59 = .ok (.getfield 42, 3) := by decide +kernel
theorem dX11_hours_62 : decode cX11_hours 62 = .ok (.iload 4, 2) := by decide +kernel
theorem dX11_hours_64 : decode cX11_hours 64 = .ok (.putfield 202, 3) := by decide +kernel
theorem dX11_hours_67 : decode cX11_hours 67 = .ok (.aload_n 0, 1) := by decide +kernel
theorem dX11_hours_68 : decode cX11_hours 68 = .ok (.getfield 42, 3) := by decide +kernel
theorem dX11_hours_71 : decode cX11_hours 71 = .ok (.iload 4, 2) := by decide +kernel
theorem dX11_hours_73 : decode cX11_hours 73 = .ok (.iload_n 1, 1) := by decide +kernel
theorem dX11_hours_74 : decode cX11_hours 74 = .ok (.iadd, 1) := by decide +kernel
theorem dX11_hours_75 : decode cX11_hours 75 = .ok (.putfield 205, 3) := by decide +kernel
theorem dX11_hours_78 : decode cX11_hours 78 = .ok (.aload_n 0, 1) := by decide +kernel
theorem dX11_hours_79 : decode cX11_hours 79 = .ok (.getfield 74, 3) := by decide +kernel
theorem dX11_hours_82 : decode cX11_hours 82 = .ok (.aload_n 0, 1) := by decide +kernel
theorem dX11_hours_83 : decode cX11_hours 83 = .ok (.getfield 42, 3) := by decide +kernel
theorem dX11_hours_86 : decode cX11_hours 86 = .ok (.iconst 0, 1) := by decide +kernel
theorem dX11_hours_87 : decode cX11_hours 87 = .ok (.invokevirtual 183, 3) := by decide +kernel
theorem dX11_hours_90 : decode cX11_hours 90 = .ok (.iload_n 3, 1) := by decide +kernel
theorem dX11_hours_91 : decode cX11_hours 91 = .ok (.iconst (-1), 1) := by decide +kernel
theorem dX11_hours_92 : decode cX11_hours 92 = .ok (.if_icmp .eq 14, 3) := by decide +kernel
theorem dX11_hours_95 : decode cX11_hours 95 = .ok (.aload_n 0, 1) := by decide +kernel
theorem dX11_hours_96 : decode cX11_hours 96 = .ok (.getfield 74, 3) := by decide +kernel
theorem dX11_hours_99 : decode cX11_hours 99 = .ok (.getfield 190, 3) := by decide +kernel
theorem dX11_hours_102 : decode cX11_hours 102 = .ok (.iload_n 2, 1) := by decide +kernel
theorem dX11_hours_103 : decode cX11_hours 103 = .ok (.if_icmp .le 14, 3) := by decide +kernel
theorem dX11_hours_106 : decode cX11_hours 106 = .ok (.aload_n 0, 1) := by decide +kernel
theorem dX11_hours_107 : decode cX11_hours 107 = .ok (.getfield 74, 3) := by decide +kernel
theorem dX11_hours_110 : decode cX11_hours 110 = .ok (.getfield 190, 3) := by decide +kernel
theorem dX11_hours_113 : decode cX11_hours 113 = .ok (.istore_n 2, 1) := by decide +kernel
theorem dX11_hours_114 : decode cX11_hours 114 = .ok (.iload 4, 2) := by decide +kernel
theorem dX11_hours_116 : decode cX11_hours 116 = .ok (.istore_n 3, 1) := by decide +kernel
theorem dX11_hours_117 : decode cX11_hours 117 = .ok (.iinc 4 1, 3) := by decide +kernel
theorem dX11_hours_120 : decode cX11_hours 120 = .ok (.goto (-82), 3) := by decide +kernel
theorem dX11_hours_123 : decode cX11_hours 123 = .ok (.iload_n 3, 1) := by decide +kernel
theorem dX11_hours_124 : decode cX11_hours 124 = .ok (.ireturn, 1) := by decide +kernel
set_option maxRecDepth 20000 in
theorem ggX11_when_X11_searchMending : GoodIn wsX11_when wsX11_searchMending := goodIn_r _ [8, 9, 10, 11, 3, 12, 13, 14, 15, 16, 17, 18, 19, 20, 21, 22, 23, 24, 25, 26, 27, 28, 29, 30, 31, 32, 33, 34, 35, 36, 37, 38, 39, 40, 41, 42, 43, 44, 45, 46, 47, 48, 49, 50, 51, 52, 53, 54, 55, 56, 57, 58, 59, 60, 61, 62, 63, 64, 65, 66, 7, 67, 68, 69, 70, 71, 72, 73, 74, 75, 76, 77, 78, 79, 80, 81, 82, 83, 84, 85, 86, 87, 88, 89, 90, 91, 92, 93, 94, 95, 96, 97, 98, 99, 100, 101, 102, 103, 104, 105, 106, 107, 108, 109, 110, 111, 112, 113, 114, 115, 116, 117, 118, 119, 120, 121, 122, 123, 124, 125, 126, 127, 128, 129, 130, 131, 132, 133, 134, 135, 136, 137, 138, 139, 140, 141, 142, 143, 144, 145, 146, 147, 148, 149, 150, 151, 152, 153, 154, 155, 156, 157, 158, 159, 160, 161, 162, 163, 164, 165, 166, 167, 168, 169, 170, 171, 172, 173, 174, 175, 176, 177, 178, 179, 180, 181, 182, 183, 184, 185, 186, 187, 188, 189, 190, 191, 192, 193, 194, 195, 196, 197, 198, 199, 200, 201, 202, 203, 204, 205, 206] (by decide +kernel) (by decide +kernel)
set_option maxRecDepth 20000 in
theorem gX11_when_X11_searchMending : GoodIn wsX11_when (wsV RX11 226 RX11 yX11_searchMending wsX11_searchMending) := goodIn_app (goodIn_of _ (by decide +kernel)) ggX11_when_X11_searchMending
theorem dX11_when_0 : decode cX11_when 0 = .ok (.iload_n 1, 1) := by decide +kernel
theorem dX11_when_1 : decode cX11_when 1 = .ok (.iconst 1, 1) := by decide +kernel
theorem dX11_when_2 : decode cX11_when 2 = .ok (.if_icmp .lt 18, 3) := by decide +kernel
theorem dX11_when_5 : decode cX11_when 5 = .ok (.iload_n 1, 1) := by decide +kernel
theorem dX11_when_6 : decode cX11_when 6 = .ok (.bipush 9, 2) := by decide +kernel
theorem dX11_when_8 : decode cX11_when 8 = .ok (.if_icmp .gt 12, 3) := by decide +kernel
theorem dX11_when_11 : decode cX11_when 11 = .ok (.iload_n 2, 1) := by decide +kernel
theorem dX11_when_12 : decode cX11_when 12 = .ok (.ifCond .lt 8, 3) := by decide +kernel
theorem dX11_when_15 : decode cX11_when 15 = .ok (.iload_n 2, 1) := by decide +kernel
theorem dX11_when_16 : decode cX11_when 16 = .ok (.iconst 1, 1) := by decide +kernel
theorem dX11_when_17 : decode cX11_when 17 = .ok (.if_icmp .le 11, 3) := by decide +kernel
theorem dX11_when_20 : decode cX11_when 20 = .ok (.new 217, 3) := by decide +kernel
theorem dX11_when_23 : decode cX11_when 23 = .ok (.dup, 1) := by decide +kernel
theorem dX11_when_24 : decode cX11_when 24 = .ok (.invokespecial 219, 3) := by decide +kernel
theorem dX11_when_27 : decode cX11_when 27 = .ok (.athrow, 1) := by decide +kernel
theorem dX11_when_28 : decode cX11_when 28 = .ok (.aload_n 0, 1) := by decide +kernel
theorem dX11_when_29 : decode cX11_when 29 = .ok (.iload_n 1, 1) := by decide +kernel
theorem dX11_when_30 : decode cX11_when 30 = .ok (.invokevirtual 226, 3) := by decide +kernel
theorem dX11_when_33 : decode cX11_when 33 = .ok (.aload_n 0, 1) := by decide +kernel
theorem dX11_when_34 : decode cX11_when 34 = .ok (.getfield 89, 3) := by decide +kernel
theorem dX11_when_37 : decode cX11_when 37 = .ok (.iload_n 2, 1) := by decide +kernel
theorem dX11_when_38 : decode cX11_when 38 = .ok (.iaload, 1) := by decide +kernel
theorem dX11_when_39 : decode cX11_when 39 = .ok (.ireturn, 1) := by decide +kernel
set_option maxRecDepth 20000 in
theorem ggX11_lasts_X11_isKey : GoodIn wsX11_lasts wsX11_isKey := goodIn_r _ [8] (by decide +kernel) (by decide +kernel)
set_option maxRecDepth 20000 in
theorem gX11_lasts_X11_isKey : GoodIn wsX11_lasts (va_wsS RX11 158 yX11_isKey wsX11_isKey) := goodIn_app (goodIn_of _ (by decide +kernel)) ggX11_lasts_X11_isKey
set_option maxRecDepth 20000 in
theorem ggX11_lasts_X6_copyFrom : GoodIn wsX11_lasts wsX6_copyFrom := goodIn_r _ [13, 14, 15, 16, 17, 18, 19, 146, 147, 148, 149, 150, 151] (by decide +kernel) (by decide +kernel)
set_option maxRecDepth 20000 in
theorem gX11_lasts_X6_copyFrom : GoodIn wsX11_lasts (wsV RX11 214 RX6 yX6_copyFrom wsX6_copyFrom) := goodIn_app (goodIn_of _ (by decide +kernel)) ggX11_lasts_X6_copyFrom
set_option maxRecDepth 20000 in
theorem ggX11_lasts_X1_prepare : GoodIn wsX11_lasts wsX1_prepare := goodIn_r _ [24, 25, 26, 27, 28, 29, 30, 31, 32, 33, 34, 35, 36, 37, 38, 39, 40, 41, 42, 43, 44, 45, 46, 47, 48, 49, 50, 51, 52, 53, 54, 55, 56, 57, 58, 59, 60, 61, 62, 63, 64, 65, 66, 67, 68, 69, 70, 71, 152, 153, 154, 155, 156, 157, 158, 159, 160, 161, 162, 163, 164, 165, 166, 167, 168, 169, 170, 171, 172, 173, 174, 175, 176, 177, 178, 179, 180, 181, 182, 183, 184, 185, 186, 187, 188, 189, 190, 191, 192, 193, 194] (by decide +kernel) (by decide +kernel)
set_option maxRecDepth 20000 in
theorem gX11_lasts_X1_prepare : GoodIn wsX11_lasts (wsV RX11 179 RX1 yX1_prepare wsX1_prepare) := goodIn_app (goodIn_of _ (by decide +kernel)) ggX11_lasts_X1_prepare
set_option maxRecDepth 20000 in
theorem ggX11_lasts_X1_pass : GoodIn wsX11_lasts wsX1_pass := goodIn_r _ [75, 76, 77, 78, 79, 80, 81, 82, 83, 84, 85, 23, 86, 25, 26, 87, 88, 89, 90, 91, 92, 27, 93, 94, 95, 96, 97, 98, 99, 100, 101, 102, 103, 37, 104, 39, 105, 106, 107, 108, 109, 110, 50, 32, 51, 111, 112, 113, 114, 29, 115, 116, 117, 118, 28, 119, 120, 121, 122, 123, 124, 125, 126, 45, 127, 128, 48, 31, 33, 49, 52, 53, 54, 55, 56, 57, 58, 59, 60, 61, 62, 63, 64, 65, 66, 67, 68, 69, 70, 71, 152, 153, 154, 155, 156, 157, 158, 159, 160, 161, 162, 163, 164, 165, 166, 146, 147, 148, 149, 150, 151, 167, 168, 169, 170, 171, 172, 173, 174, 175, 176, 177, 178, 179, 180, 181, 182, 183, 184, 185, 186, 187, 188, 189, 190, 191, 192, 193, 194] (by decide +kernel) (by decide +kernel)
set_option maxRecDepth 20000 in
theorem gX11_lasts_X1_pass : GoodIn wsX11_lasts (wsV RX11 183 RX1 yX1_pass wsX1_pass) := goodIn_app (goodIn_of _ (by decide +kernel)) ggX11_lasts_X1_pass
theorem dX11_lasts_0 : decode cX11_lasts 0 = .ok (.iload_n 1, 1) := by decide +kernel
theorem dX11_lasts_1 : decode cX11_lasts 1 = .ok (.invokestatic 158, 3) := by decide +kernel
theorem dX11_lasts_4 : decode cX11_lasts 4 = .ok (.ifCond .ne 5, 3) := by decide +kernel
theorem dX11_lasts_7 : decode cX11_lasts 7 = .ok (.iconst (-1), 1) := by decide +kernel
theorem dX11_lasts_8 : decode cX11_lasts 8 = .ok (.ireturn, 1) := by decide +kernel
theorem dX11_lasts_9 : decode cX11_lasts 9 = .ok (.aload_n 0, 1) := by decide +kernel
theorem dX11_lasts_10 : decode cX11_lasts 10 = .ok (.getfield 42, 3) := by decide +kernel
theorem dX11_lasts_13 : decode cX11_lasts 13 = .ok (.aload_n 0, 1) := by decide +kernel
theorem dX11_lasts_14 : decode cX11_lasts 14 = .ok (.getfield 38, 3) := by decide +kernel
theorem dX11_lasts_17 : decode cX11_lasts 17 = .ok (.invokevirtual 214, 3) := by decide +kernel
theorem dX11_lasts_20 : decode cX11_lasts 20 = .ok (.aload_n 0, 1) := by decide +kernel
theorem dX11_lasts_21 : decode cX11_lasts 21 = .ok (.getfield 74, 3) := by decide +kernel
theorem dX11_lasts_24 : decode cX11_lasts 24 = .ok (.aload_n 0, 1) := by decide +kernel
theorem dX11_lasts_25 : decode cX11_lasts 25 = .ok (.getfield 28, 3) := by decide +kernel
theorem dX11_lasts_28 : decode cX11_lasts 28 = .ok (.aload_n 0, 1) := by decide +kernel
theorem dX11_lasts_29 : decode cX11_lasts 29 = .ok (.getfield 42, 3) := by decide +kernel
theorem dX11_lasts_32 : decode cX11_lasts 32 = .ok (.getfield 138, 3) := by decide +kernel
theorem dX11_lasts_35 : decode cX11_lasts 35 = .ok (.invokevirtual 179, 3) := by decide +kernel
theorem dX11_lasts_38 : decode cX11_lasts 38 = .ok (.iconst 0, 1) := by decide +kernel
theorem dX11_lasts_39 : decode cX11_lasts 39 = .ok (.istore_n 2, 1) := by decide +kernel
theorem dX11_lasts_40 : decode cX11_lasts 40 = .ok (.iload_n 2, 1) := by decide +kernel
theorem dX11_lasts_41 : decode cX11_lasts 41 = .ok (.bipush 60, 2) := by decide +kernel
theorem dX11_lasts_43 : decode cX11_lasts 43 = .ok (.if_icmp .gt 37, 3) := by decide +kernel
theorem dX11_lasts_46 : decode cX11_lasts 46 = .ok (.aload_n 0, 1) := by decide +kernel
theorem dX11_lasts_47 : decode cX11_lasts 47 = .ok (.getfield 42, 3) := by decide +kernel
theorem dX11_lasts_50 : decode cX11_lasts 50 = .ok (.getfield 161, 3) := by decide +kernel
theorem dX11_lasts_53 : decode cX11_lasts 53 = .ok (.iload_n 1, 1) := by decide +kernel
theorem dX11_lasts_54 : decode cX11_lasts 54 = .ok (.iaload, 1) := by decide +kernel
theorem dX11_lasts_55 : decode cX11_lasts 55 = .ok (.bipush 9, 2) := by decide +kernel
theorem dX11_lasts_57 : decode cX11_lasts 57 = .ok (.if_icmp .lt 5, 3) := by decide +kernel
theorem dX11_lasts_60 : decode cX11_lasts 60 = .ok (.iload_n 2, 1) := by decide +kernel
theorem dX11_lasts_61 : decode cX11_lasts 61 = .ok (.ireturn, 1) := by decide +kernel
theorem dX11_lasts_62 : decode cX11_lasts 62 = .ok (.aload_n 0, 1) := by decide +kernel
theorem dX11_lasts_63 : decode cX11_lasts 63 = .ok (.getfield 74, 3) := by decide +kernel
theorem dX11_lasts_66 : decode cX11_lasts 66 = .ok (.aload_n 0, 1) := by decide +kernel
theorem dX11_lasts_67 : decode cX11_lasts 67 = .ok (.getfield 42, 3) := by decide +kernel
theorem dX11_lasts_70 : decode cX11_lasts 70 = .ok (.iconst 0, 1) := by decide +kernel
theorem dX11_lasts_71 : decode cX11_lasts 71 = .ok (.invokevirtual 183, 3) := by decide +kernel
theorem dX11_lasts_74 : decode cX11_lasts 74 = .ok (.iinc 2 1, 3) := by decide +kernel
theorem dX11_lasts_77 : decode cX11_lasts 77 = .ok (.goto (-37), 3) := by decide +kernel
theorem dX11_lasts_80 : decode cX11_lasts 80 = .ok (.iconst (-1), 1) := by decide +kernel
theorem dX11_lasts_81 : decode cX11_lasts 81 = .ok (.ireturn, 1) := by decide +kernel
set_option maxRecDepth 20000 in
theorem ggX11_without_X11_isPasser : GoodIn wsX11_without wsX11_isPasser := goodIn_r _ [7, 8, 136, 137, 138, 139, 140, 141, 142, 143, 144, 145, 146, 147, 148, 149, 150, 151, 152, 153, 154, 155, 156, 157, 158, 159, 160, 161, 162, 163, 164, 165, 166] (by decide +kernel) (by decide +kernel)
set_option maxRecDepth 20000 in
theorem gX11_without_X11_isPasser : GoodIn wsX11_without (wsV RX11 116 RX11 yX11_isPasser wsX11_isPasser) := goodIn_app (goodIn_of _ (by decide +kernel)) ggX11_without_X11_isPasser
set_option maxRecDepth 20000 in
theorem ggX11_without_X11_tryDay : GoodIn wsX11_without wsX11_tryDay := goodIn_r _ [12, 13, 14, 15, 8, 16, 17, 18, 19, 20, 21, 22, 23, 24, 25, 26, 27, 28, 29, 30, 31, 32, 33, 34, 35, 36, 37, 38, 39, 40, 41, 42, 43, 44, 45, 46, 47, 48, 49, 50, 51, 52, 53, 54, 55, 56, 57, 58, 59, 60, 61, 62, 63, 64, 65, 66, 67, 68, 69, 70, 71, 72, 73, 74, 75, 76, 77, 78, 79, 80, 81, 82, 83, 84, 85, 86, 87, 88, 89, 90, 91, 92, 93, 94, 95, 96, 97, 98, 99, 100, 101, 102, 103, 104, 105, 106, 107, 108, 109, 110, 111, 112, 113, 114, 115, 116, 117, 118, 119, 120, 121, 122, 123, 124, 125, 126, 127, 128, 129, 130, 131, 132, 133, 134, 135, 136, 137, 138, 139, 140, 141, 142, 143, 144, 145, 146, 147, 148, 149, 150, 151, 152, 167, 168, 169, 170, 171, 172, 173, 174, 175, 176, 177, 178, 179, 180, 181, 182, 183, 184, 185, 186, 187, 153, 154, 155, 156, 157, 158, 159, 160, 161, 162, 163, 164, 165, 166, 188, 189, 190, 191, 192, 193, 194, 195, 196, 197, 198, 199, 200, 201] (by decide +kernel) (by decide +kernel)
set_option maxRecDepth 20000 in
theorem gX11_without_X11_tryDay : GoodIn wsX11_without (wsV RX11 164 RX11 yX11_tryDay wsX11_tryDay) := goodIn_app (goodIn_of _ (by decide +kernel)) ggX11_without_X11_tryDay
theorem dX11_without_0 : decode cX11_without 0 = .ok (.aload_n 0, 1) := by decide +kernel
theorem dX11_without_1 : decode cX11_without 1 = .ok (.iload_n 1, 1) := by decide +kernel
theorem dX11_without_2 : decode cX11_without 2 = .ok (.invokevirtual 116, 3) := by decide +kernel
theorem dX11_without_5 : decode cX11_without 5 = .ok (.ifCond .ne 11, 3) := by decide +kernel
theorem dX11_without_8 : decode cX11_without 8 = .ok (.new 217, 3) := by decide +kernel
theorem dX11_without_11 : decode cX11_without 11 = .ok (.dup, 1) := by decide +kernel
theorem dX11_without_12 : decode cX11_without 12 = .ok (.invokespecial 219, 3) := by decide +kernel
theorem dX11_without_15 : decode cX11_without 15 = .ok (.athrow, 1) := by decide +kernel
theorem dX11_without_16 : decode cX11_without 16 = .ok (.aload_n 0, 1) := by decide +kernel
theorem dX11_without_17 : decode cX11_without 17 = .ok (.iconst 0, 1) := by decide +kernel
theorem dX11_without_18 : decode cX11_without 18 = .ok (.invokevirtual 164, 3) := by decide +kernel
theorem dX11_without_21 : decode cX11_without 21 = .ok (.istore_n 2, 1) := by decide +kernel
theorem dX11_without_22 : decode cX11_without 22 = .ok (.aload_n 0, 1) := by decide +kernel
theorem dX11_without_23 : decode cX11_without 23 = .ok (.iconst 1, 1) := by decide +kernel
theorem dX11_without_24 : decode cX11_without 24 = .ok (.iload_n 1, 1) := by decide +kernel
theorem dX11_without_25 : decode cX11_without 25 = .ok (.ishl, 1) := by decide +kernel
theorem dX11_without_26 : decode cX11_without 26 = .ok (.invokevirtual 164, 3) := by decide +kernel
theorem dX11_without_29 : decode cX11_without 29 = .ok (.iload_n 2, 1) := by decide +kernel
theorem dX11_without_30 : decode cX11_without 30 = .ok (.isub, 1) := by decide +kernel
theorem dX11_without_31 : decode cX11_without 31 = .ok (.ireturn, 1) := by decide +kernel
set_option maxRecDepth 20000 in
theorem ggX11_rarer_X1_prepare : GoodIn wsX11_rarer wsX1_prepare := goodIn_r _ [16, 17, 18, 19, 20, 21, 22, 5, 6, 7, 23, 24, 25, 26, 27, 28, 29, 30, 31, 32, 33, 34, 35, 36, 37, 38, 9, 10, 39, 40, 41, 42, 43, 44, 45, 46, 47, 48, 49, 50, 51, 52, 53, 54, 55, 56, 57, 58, 171, 172, 173, 174, 175, 176, 177, 178, 179, 180, 181, 182, 183, 184, 185, 157, 158, 159, 160, 161, 162, 163, 164, 165, 166, 167, 168, 169, 170, 186, 187, 188, 189, 190, 191, 192, 193, 194, 195, 196, 197, 198, 199] (by decide +kernel) (by decide +kernel)
set_option maxRecDepth 20000 in
theorem gX11_rarer_X1_prepare : GoodIn wsX11_rarer (wsV RX11 179 RX1 yX1_prepare wsX1_prepare) := goodIn_app (goodIn_of _ (by decide +kernel)) ggX11_rarer_X1_prepare
set_option maxRecDepth 20000 in
theorem ggX11_rarer_J6_bitCount_0f7a4 : GoodIn wsX11_rarer wsJ6_bitCount_0f7a4 := goodIn_r _ [62, 63, 64, 65] (by decide +kernel) (by decide +kernel)
set_option maxRecDepth 20000 in
theorem gX11_rarer_J6_bitCount_0f7a4 : GoodIn wsX11_rarer (va_wsS RX11 239 yJ6_bitCount_0f7a4 wsJ6_bitCount_0f7a4) := goodIn_app (goodIn_of _ (by decide +kernel)) ggX11_rarer_J6_bitCount_0f7a4
set_option maxRecDepth 20000 in
theorem ggX11_rarer_X6_copyFrom : GoodIn wsX11_rarer wsX6_copyFrom := goodIn_r _ [70, 71, 72, 73, 74, 75, 76, 151, 152, 153, 154, 155, 156] (by decide +kernel) (by decide +kernel)
set_option maxRecDepth 20000 in
theorem gX11_rarer_X6_copyFrom : GoodIn wsX11_rarer (wsV RX11 214 RX6 yX6_copyFrom wsX6_copyFrom) := goodIn_app (goodIn_of _ (by decide +kernel)) ggX11_rarer_X6_copyFrom
set_option maxRecDepth 20000 in
theorem ggX11_rarer_X1_pass : GoodIn wsX11_rarer wsX1_pass := goodIn_r _ [80, 81, 82, 83, 84, 85, 86, 87, 88, 89, 90, 15, 91, 17, 18, 92, 93, 94, 95, 96, 97, 19, 98, 99, 100, 101, 102, 103, 104, 105, 106, 107, 108, 26, 109, 28, 110, 111, 112, 113, 114, 115, 9, 6, 10, 116, 117, 118, 119, 21, 120, 121, 122, 123, 20, 124, 125, 126, 127, 128, 129, 130, 131, 34, 132, 133, 37, 5, 7, 38, 39, 40, 41, 42, 43, 44, 45, 46, 47, 48, 49, 50, 51, 52, 53, 54, 55, 56, 57, 58, 171, 172, 173, 174, 175, 176, 177, 178, 179, 180, 181, 182, 183, 184, 185, 151, 152, 153, 154, 155, 156, 157, 158, 159, 160, 161, 162, 163, 164, 165, 166, 167, 168, 169, 170, 186, 187, 188, 189, 190, 191, 192, 193, 194, 195, 196, 197, 198, 199] (by decide +kernel) (by decide +kernel)
set_option maxRecDepth 20000 in
theorem gX11_rarer_X1_pass : GoodIn wsX11_rarer (wsV RX11 183 RX1 yX1_pass wsX1_pass) := goodIn_app (goodIn_of _ (by decide +kernel)) ggX11_rarer_X1_pass
theorem dX11_rarer_0 : decode cX11_rarer 0 = .ok (.iload_n 1, 1) := by decide +kernel
theorem dX11_rarer_1 : decode cX11_rarer 1 = .ok (.sipush (-9999), 3) := by decide +kernel
theorem dX11_rarer_4 : decode cX11_rarer 4 = .ok (.if_icmp .lt 10, 3) := by decide +kernel
theorem dX11_rarer_7 : decode cX11_rarer 7 = .ok (.iload_n 1, 1) := by decide +kernel
theorem dX11_rarer_8 : decode cX11_rarer 8 = .ok (.sipush 9999, 3) := by decide +kernel
theorem dX11_rarer_11 : decode cX11_rarer 11 = .ok (.if_icmp .le 5, 3) := by decide +kernel
theorem dX11_rarer_14 : decode cX11_rarer 14 = .ok (.iconst (-1), 1) := by decide +kernel
theorem dX11_rarer_15 : decode cX11_rarer 15 = .ok (.ireturn, 1) := by decide +kernel
theorem dX11_rarer_16 : decode cX11_rarer 16 = .ok (.aload_n 0, 1) := by decide +kernel
theorem dX11_rarer_17 : decode cX11_rarer 17 = .ok (.getfield 74, 3) := by decide +kernel
theorem dX11_rarer_20 : decode cX11_rarer 20 = .ok (.aload_n 0, 1) := by decide +kernel
theorem dX11_rarer_21 : decode cX11_rarer 21 = .ok (.getfield 28, 3) := by decide +kernel
theorem dX11_rarer_24 : decode cX11_rarer 24 = .ok (.aload_n 0, 1) := by decide +kernel
theorem dX11_rarer_25 : decode cX11_rarer 25 = .ok (.getfield 38, 3) := by decide +kernel
theorem dX11_rarer_28 : decode cX11_rarer 28 = .ok (.getfield 138, 3) := by decide +kernel
theorem dX11_rarer_31 : decode cX11_rarer 31 = .ok (.invokevirtual 179, 3) := by decide +kernel
theorem dX11_rarer_34 : decode cX11_rarer 34 = .ok (.iconst 1, 1) := by decide +kernel
theorem dX11_rarer_35 : decode cX11_rarer 35 = .ok (.iconst 0, 1) := by decide +kernel
theorem dX11_rarer_36 : decode cX11_rarer 36 = .ok (.bipush 7, 2) := by decide +kernel
theorem dX11_rarer_38 : decode cX11_rarer 38 = .ok (.aload_n 0, 1) := by decide +kernel
theorem dX11_rarer_39 : decode cX11_rarer 39 = .ok (.getfield 28, 3) := by decide +kernel
theorem dX11_rarer_42 : decode cX11_rarer 42 = .ok (.getfield 173, 3) := by decide +kernel
theorem dX11_rarer_45 : decode cX11_rarer 45 = .ok (.invokestatic 230, 3) := by decide +kernel
theorem dX11_rarer_48 : decode cX11_rarer 48 = .ok (.invokestatic 236, 3) := by decide +kernel
theorem dX11_rarer_51 : decode cX11_rarer 51 = .ok (.ishl, 1) := by decide +kernel
theorem dX11_rarer_52 : decode cX11_rarer 52 = .ok (.istore_n 2, 1) := by decide +kernel
theorem dX11_rarer_53 : decode cX11_rarer 53 = .ok (.iconst (-1), 1) := by decide +kernel
theorem dX11_rarer_54 : decode cX11_rarer 54 = .ok (.istore_n 3, 1) := by decide +kernel
theorem dX11_rarer_55 : decode cX11_rarer 55 = .ok (.iconst 0, 1) := by decide +kernel
theorem dX11_rarer_56 : decode cX11_rarer 56 = .ok (.istore 4, 2) := by decide +kernel
theorem dX11_rarer_58 : decode cX11_rarer 58 = .ok (.iload 4, 2) := by decide +kernel
theorem dX11_rarer_60 : decode cX11_rarer 60 = .ok (.iload_n 2, 1) := by decide +kernel
theorem dX11_rarer_61 : decode cX11_rarer 61 = .ok (.if_icmp .ge 67, 3) := by decide +kernel
theorem dX11_rarer_64 : decode cX11_rarer 64 = .ok (.iload_n 3, 1) := by decide +kernel
theorem dX11_rarer_65 : decode cX11_rarer 65 = .ok (.iconst (-1), 1) := by decide +kernel
theorem dX11_rarer_66 : decode cX11_rarer 66 = .ok (.if_icmp .eq 18, 3) := by decide +kernel
theorem dX11_rarer_69 : decode cX11_rarer 69 = .ok (.iload 4, 2) := by decide +kernel
theorem dX11_rarer_71 : decode cX11_rarer 71 = .ok (.invokestatic 239, 3) := by decide +kernel
theorem dX11_rarer_74 : decode cX11_rarer 74 = .ok (.iload_n 3, 1) := by decide +kernel
theorem dX11_rarer_75 : decode cX11_rarer 75 = .ok (.invokestatic 239, 3) := by decide +kernel
theorem dX11_rarer_78 : decode cX11_rarer 78 = .ok (.if_icmp .lt 6, 3) := by decide +kernel
theorem dX11_rarer_81 : decode cX11_rarer 81 = .ok (.goto 41, 3) := by decide +kernel
theorem dX11_rarer_84 : decode cX11_rarer 84 = .ok (.aload_n 0, 1) := by decide +kernel
theorem dX11_rarer_85 : decode cX11_rarer 85 = .ok (.getfield 42, 3) := by decide +kernel
theorem dX11_rarer_88 : decode cX11_rarer 88 = .ok (.aload_n 0, 1) := by decide +kernel
theorem dX11_rarer_89 : decode cX11_rarer 89 = .ok (.getfield 38, 3) := by decide +kernel
theorem dX11_rarer_92 : decode cX11_rarer 92 = .ok (.invokevirtual 214, 3) := by decide +kernel
theorem dX11_rarer_95 : decode cX11_rarer 95 = .ok (.aload_n 0, 1) := by decide +kernel
theorem dX11_rarer_96 : decode cX11_rarer 96 = .ok (.getfield 74, 3) := by decide +kernel
theorem dX11_rarer_99 : decode cX11_rarer 99 = .ok (.aload_n 0, 1) := by decide +kernel
theorem dX11_rarer_100 : decode cX11_rarer 100 = .ok (.getfield 42, 3) := by decide +kernel
theorem dX11_rarer_103 : decode cX11_rarer 103 = .ok (.iload 4, 2) := by decide +kernel
theorem dX11_rarer_105 : decode cX11_rarer 105 = .ok (.invokevirtual 183, 3) := by decide +kernel
theorem dX11_rarer_108 : decode cX11_rarer 108 = .ok (.aload_n 0, 1) := by decide +kernel
theorem dX11_rarer_109 : decode cX11_rarer 109 = .ok (.getfield 74, 3) := by decide +kernel
theorem dX11_rarer_112 : decode cX11_rarer 112 = .ok (.getfield 190, 3) := by decide +kernel
theorem dX11_rarer_115 : decode cX11_rarer 115 = .ok (.iload_n 1, 1) := by decide +kernel
theorem dX11_rarer_116 : decode cX11_rarer 116 = .ok (.if_icmp .lt 6, 3) := by decide +kernel
theorem dX11_rarer_119 : decode cX11_rarer 119 = .ok (.iload 4, 2) := by decide +kernel
theorem dX11_rarer_121 : decode cX11_rarer 121 = .ok (.istore_n 3, 1) := by decide +kernel
theorem dX11_rarer_122 : decode cX11_rarer 122 = .ok (.iinc 4 1, 3) := by decide +kernel
theorem dX11_rarer_125 : decode cX11_rarer 125 = .ok (.goto (-67), 3) := by decide +kernel
theorem dX11_rarer_128 : decode cX11_rarer 128 = .ok (.iload_n 3, 1) := by decide +kernel
theorem dX11_rarer_129 : decode cX11_rarer 129 = .ok (.ireturn, 1) := by decide +kernel
set_option maxRecDepth 20000 in
theorem ggX11_dare_X4_daresBefore : GoodIn wsX11_dare wsX4_daresBefore := goodIn_r _ [6, 7, 8, 40, 41, 42, 43, 44, 45, 46, 47, 48] (by decide +kernel) (by decide +kernel)
set_option maxRecDepth 20000 in
theorem gX11_dare_X4_daresBefore : GoodIn wsX11_dare (wsV RX11 244 RX4 yX4_daresBefore wsX4_daresBefore) := goodIn_app (goodIn_of _ (by decide +kernel)) ggX11_dare_X4_daresBefore
theorem dX11_dare_0 : decode cX11_dare 0 = .ok (.iload_n 1, 1) := by decide +kernel
theorem dX11_dare_1 : decode cX11_dare 1 = .ok (.ifCond .lt 9, 3) := by decide +kernel
theorem dX11_dare_4 : decode cX11_dare 4 = .ok (.iload_n 1, 1) := by decide +kernel
theorem dX11_dare_5 : decode cX11_dare 5 = .ok (.bipush 9, 2) := by decide +kernel
theorem dX11_dare_7 : decode cX11_dare 7 = .ok (.if_icmp .le 5, 3) := by decide +kernel
theorem dX11_dare_10 : decode cX11_dare 10 = .ok (.iconst (-1), 1) := by decide +kernel
theorem dX11_dare_11 : decode cX11_dare 11 = .ok (.ireturn, 1) := by decide +kernel
theorem dX11_dare_12 : decode cX11_dare 12 = .ok (.iconst 0, 1) := by decide +kernel
theorem dX11_dare_13 : decode cX11_dare 13 = .ok (.istore_n 2, 1) := by decide +kernel
theorem dX11_dare_14 : decode cX11_dare 14 = .ok (.iconst 0, 1) := by decide +kernel
theorem dX11_dare_15 : decode cX11_dare 15 = .ok (.istore_n 3, 1) := by decide +kernel
theorem dX11_dare_16 : decode cX11_dare 16 = .ok (.iload_n 3, 1) := by decide +kernel
theorem dX11_dare_17 : decode cX11_dare 17 = .ok (.aload_n 0, 1) := by decide +kernel
theorem dX11_dare_18 : decode cX11_dare 18 = .ok (.getfield 28, 3) := by decide +kernel
theorem dX11_dare_21 : decode cX11_dare 21 = .ok (.getfield 173, 3) := by decide +kernel
theorem dX11_dare_24 : decode cX11_dare 24 = .ok (.if_icmp .ge 37, 3) := by decide +kernel
theorem dX11_dare_27 : decode cX11_dare 27 = .ok (.iload_n 3, 1) := by decide +kernel
theorem dX11_dare_28 : decode cX11_dare 28 = .ok (.bipush 7, 2) := by decide +kernel
theorem dX11_dare_30 : decode cX11_dare 30 = .ok (.if_icmp .ge 31, 3) := by decide +kernel
theorem dX11_dare_33 : decode cX11_dare 33 = .ok (.aload_n 0, 1) := by decide +kernel
theorem dX11_dare_34 : decode cX11_dare 34 = .ok (.getfield 28, 3) := by decide +kernel
theorem dX11_dare_37 : decode cX11_dare 37 = .ok (.getfield 120, 3) := by decide +kernel
theorem dX11_dare_40 : decode cX11_dare 40 = .ok (.iload_n 3, 1) := by decide +kernel
theorem dX11_dare_41 : decode cX11_dare 41 = .ok (.aaload, 1) := by decide +kernel
theorem dX11_dare_42 : decode cX11_dare 42 = .ok (.iload_n 1, 1) := by decide +kernel
theorem dX11_dare_43 : decode cX11_dare 43 = .ok (.invokevirtual 244, 3) := by decide +kernel
theorem dX11_dare_46 : decode cX11_dare 46 = .ok (.ifCond .eq 9, 3) := by decide +kernel
theorem dX11_dare_49 : decode cX11_dare 49 = .ok (.iload_n 2, 1) := by decide +kernel
theorem dX11_dare_50 : decode cX11_dare 50 = .ok (.iconst 1, 1) := by decide +kernel
theorem dX11_dare_51 : decode cX11_dare 51 = .ok (.iload_n 3, 1) := by decide +kernel
theorem dX11_dare_52 : decode cX11_dare 52 = .ok (.ishl, 1) := by decide +kernel
theorem dX11_dare_53 : decode cX11_dare 53 = .ok (.ior, 1) := by decide +kernel
theorem dX11_dare_54 : decode cX11_dare 54 = .ok (.istore_n 2, 1) := by decide +kernel
theorem dX11_dare_55 : decode cX11_dare 55 = .ok (.iinc 3 1, 3) := by decide +kernel
theorem dX11_dare_58 : decode cX11_dare 58 = .ok (.goto (-42), 3) := by decide +kernel
theorem dX11_dare_61 : decode cX11_dare 61 = .ok (.iload_n 2, 1) := by decide +kernel
theorem dX11_dare_62 : decode cX11_dare 62 = .ok (.ireturn, 1) := by decide +kernel
set_option maxRecDepth 20000 in
theorem ggX11_strikes_X11_isPasser : GoodIn wsX11_strikes wsX11_isPasser := goodIn_r _ [6, 1, 17, 18, 19, 20, 21, 22, 23, 24, 25, 26, 27, 28, 29, 30, 31, 32, 33, 34, 35, 36, 37, 38, 39, 40, 41, 42, 43, 44, 45, 46, 47] (by decide +kernel) (by decide +kernel)
set_option maxRecDepth 20000 in
theorem gX11_strikes_X11_isPasser : GoodIn wsX11_strikes (wsV RX11 116 RX11 yX11_isPasser wsX11_isPasser) := goodIn_app (goodIn_of _ (by decide +kernel)) ggX11_strikes_X11_isPasser
set_option maxRecDepth 20000 in
theorem ggX11_strikes_X11_isKey : GoodIn wsX11_strikes wsX11_isKey := goodIn_r _ [9] (by decide +kernel) (by decide +kernel)
set_option maxRecDepth 20000 in
theorem gX11_strikes_X11_isKey : GoodIn wsX11_strikes (va_wsS RX11 158 yX11_isKey wsX11_isKey) := goodIn_app (goodIn_of _ (by decide +kernel)) ggX11_strikes_X11_isKey
set_option maxRecDepth 20000 in
theorem ggX11_strikes_X4_strikesOn : GoodIn wsX11_strikes wsX4_strikesOn := goodIn_r _ [14, 15, 16, 48, 49, 50, 51, 52, 53, 54, 55, 56] (by decide +kernel) (by decide +kernel)
set_option maxRecDepth 20000 in
theorem gX11_strikes_X4_strikesOn : GoodIn wsX11_strikes (wsV RX11 247 RX4 yX4_strikesOn wsX4_strikesOn) := goodIn_app (goodIn_of _ (by decide +kernel)) ggX11_strikes_X4_strikesOn
theorem dX11_strikes_0 : decode cX11_strikes 0 = .ok (.aload_n 0, 1) := by decide +kernel
theorem dX11_strikes_1 : decode cX11_strikes 1 = .ok (.iload_n 1, 1) := by decide +kernel
theorem dX11_strikes_2 : decode cX11_strikes 2 = .ok (.invokevirtual 116, 3) := by decide +kernel
theorem dX11_strikes_5 : decode cX11_strikes 5 = .ok (.ifCond .eq 10, 3) := by decide +kernel
theorem dX11_strikes_8 : decode cX11_strikes 8 = .ok (.iload_n 2, 1) := by decide +kernel
theorem dX11_strikes_9 : decode cX11_strikes 9 = .ok (.invokestatic 158, 3) := by decide +kernel
theorem dX11_strikes_12 : decode cX11_strikes 12 = .ok (.ifCond .ne 5, 3) := by decide +kernel
theorem dX11_strikes_15 : decode cX11_strikes 15 = .ok (.iconst (-1), 1) := by decide +kernel
theorem dX11_strikes_16 : decode cX11_strikes 16 = .ok (.ireturn, 1) := by decide +kernel
theorem dX11_strikes_17 : decode cX11_strikes 17 = .ok (.aload_n 0, 1) := by decide +kernel
theorem dX11_strikes_18 : decode cX11_strikes 18 = .ok (.getfield 28, 3) := by decide +kernel
theorem dX11_strikes_21 : decode cX11_strikes 21 = .ok (.getfield 120, 3) := by decide +kernel
theorem dX11_strikes_24 : decode cX11_strikes 24 = .ok (.iload_n 1, 1) := by decide +kernel
theorem dX11_strikes_25 : decode cX11_strikes 25 = .ok (.aaload, 1) := by decide +kernel
theorem dX11_strikes_26 : decode cX11_strikes 26 = .ok (.iload_n 2, 1) := by decide +kernel
theorem dX11_strikes_27 : decode cX11_strikes 27 = .ok (.invokevirtual 247, 3) := by decide +kernel
theorem dX11_strikes_30 : decode cX11_strikes 30 = .ok (.ireturn, 1) := by decide +kernel
set_option maxRecDepth 20000 in
theorem ggX11_find_X11_isKey : GoodIn wsX11_find wsX11_isKey := goodIn_r _ [5] (by decide +kernel) (by decide +kernel)
set_option maxRecDepth 20000 in
theorem gX11_find_X11_isKey : GoodIn wsX11_find (va_wsS RX11 158 yX11_isKey wsX11_isKey) := goodIn_app (goodIn_of _ (by decide +kernel)) ggX11_find_X11_isKey
set_option maxRecDepth 20000 in
theorem ggX11_find_X0_add : GoodIn wsX11_find wsX0_add := goodIn_r _ [10, 11, 12, 13, 31, 32, 33] (by decide +kernel) (by decide +kernel)
set_option maxRecDepth 20000 in
theorem gX11_find_X0_add : GoodIn wsX11_find (wsV RX11 250 RX0 yX0_add wsX0_add) := goodIn_app (goodIn_of _ (by decide +kernel)) ggX11_find_X0_add
theorem dX11_find_0 : decode cX11_find 0 = .ok (.iload_n 1, 1) := by decide +kernel
theorem dX11_find_1 : decode cX11_find 1 = .ok (.invokestatic 158, 3) := by decide +kernel
theorem dX11_find_4 : decode cX11_find 4 = .ok (.ifCond .eq 29, 3) := by decide +kernel
theorem dX11_find_7 : decode cX11_find 7 = .ok (.iload_n 2, 1) := by decide +kernel
theorem dX11_find_8 : decode cX11_find 8 = .ok (.ifCond .lt 25, 3) := by decide +kernel
theorem dX11_find_11 : decode cX11_find 11 = .ok (.iload_n 2, 1) := by decide +kernel
theorem dX11_find_12 : decode cX11_find 12 = .ok (.bipush 9, 2) := by decide +kernel
theorem dX11_find_14 : decode cX11_find 14 = .ok (.if_icmp .gt 19, 3) := by decide +kernel
theorem dX11_find_17 : decode cX11_find 17 = .ok (.aload_n 0, 1) := by decide +kernel
theorem dX11_find_18 : decode cX11_find 18 = .ok (.getfield 58, 3) := by decide +kernel
theorem dX11_find_21 : decode cX11_find 21 = .ok (.iload_n 1, 1) := by decide +kernel
theorem dX11_find_22 : decode cX11_find 22 = .ok (.iload_n 2, 1) := by decide +kernel
theorem dX11_find_23 : decode cX11_find 23 = .ok (.invokevirtual 250, 3) := by decide +kernel
theorem dX11_find_26 : decode cX11_find 26 = .ok (.ifCond .eq 7, 3) := by decide +kernel
theorem dX11_find_29 : decode cX11_find 29 = .ok (.iconst 1, 1) := by decide +kernel
theorem dX11_find_30 : decode cX11_find 30 = .ok (.goto 4, 3) := by decide +kernel
theorem dX11_find_33 : decode cX11_find 33 = .ok (.iconst 0, 1) := by decide +kernel
theorem dX11_find_34 : decode cX11_find 34 = .ok (.ireturn, 1) := by decide +kernel
set_option maxRecDepth 20000 in
theorem ggX11_sets_X1_prepare : GoodIn wsX11_sets wsX1_prepare := goodIn_r _ [10, 11, 12, 13, 14, 15, 16, 17, 18, 19, 20, 21, 22, 23, 24, 25, 26, 27, 28, 29, 30, 31, 32, 33, 34, 35, 36, 37, 38, 39, 40, 41, 42, 43, 44, 45, 46, 47, 48, 49, 50, 51, 52, 53, 54, 55, 56, 57, 118, 119, 120, 121, 122, 123, 124, 125, 126, 127, 128, 129, 130, 131, 132, 133, 134, 135, 136, 137, 138, 139, 140, 141, 142, 143, 144, 145, 146, 147, 148, 149, 150, 151, 152, 153, 154, 155, 156, 157, 158, 159, 160] (by decide +kernel) (by decide +kernel)
set_option maxRecDepth 20000 in
theorem gX11_sets_X1_prepare : GoodIn wsX11_sets (wsV RX11 179 RX1 yX1_prepare wsX1_prepare) := goodIn_app (goodIn_of _ (by decide +kernel)) ggX11_sets_X1_prepare
set_option maxRecDepth 20000 in
theorem ggX11_sets_X8_search : GoodIn wsX11_sets wsX8_search := goodIn_r _ [62, 63, 17, 18, 19, 64, 36, 37, 65, 66, 67, 68, 69, 70, 71, 72, 61, 73, 74, 75, 76, 9, 77, 15, 78, 79, 80, 81, 82, 83, 84, 85, 86, 87, 88, 89, 133, 134, 135, 136, 137, 138, 139, 140, 141, 142, 143, 144, 145, 146, 113, 114, 115, 116, 117, 147, 148, 149, 150, 151, 152, 153, 154, 155, 118, 119, 120, 121, 122, 123, 124, 125, 126, 127, 128, 129, 130, 131, 132, 161, 162, 163] (by decide +kernel) (by decide +kernel)
set_option maxRecDepth 20000 in
theorem gX11_sets_X8_search : GoodIn wsX11_sets (wsV RX11 254 RX8 yX8_search wsX8_search) := goodIn_app (goodIn_of _ (by decide +kernel)) ggX11_sets_X8_search
theorem dX11_sets_0 : decode cX11_sets 0 = .ok (.iload_n 1, 1) := by decide +kernel
theorem dX11_sets_1 : decode cX11_sets 1 = .ok (.ifCond .lt 8, 3) := by decide +kernel
theorem dX11_sets_4 : decode cX11_sets 4 = .ok (.iload_n 1, 1) := by decide +kernel
theorem dX11_sets_5 : decode cX11_sets 5 = .ok (.iconst 2, 1) := by decide +kernel
theorem dX11_sets_6 : decode cX11_sets 6 = .ok (.if_icmp .le 5, 3) := by decide +kernel
theorem dX11_sets_9 : decode cX11_sets 9 = .ok (.iconst (-1), 1) := by decide +kernel
theorem dX11_sets_10 : decode cX11_sets 10 = .ok (.ireturn, 1) := by decide +kernel
theorem dX11_sets_11 : decode cX11_sets 11 = .ok (.aload_n 0, 1) := by decide +kernel
theorem dX11_sets_12 : decode cX11_sets 12 = .ok (.getfield 74, 3) := by decide +kernel
theorem dX11_sets_15 : decode cX11_sets 15 = .ok (.aload_n 0, 1) := by decide +kernel
theorem dX11_sets_16 : decode cX11_sets 16 = .ok (.getfield 28, 3) := by decide +kernel
theorem dX11_sets_19 : decode cX11_sets 19 = .ok (.aload_n 0, 1) := by decide +kernel
theorem dX11_sets_20 : decode cX11_sets 20 = .ok (.getfield 38, 3) := by decide +kernel
theorem dX11_sets_23 : decode cX11_sets 23 = .ok (.getfield 138, 3) := by decide +kernel
theorem dX11_sets_26 : decode cX11_sets 26 = .ok (.invokevirtual 179, 3) := by decide +kernel
theorem dX11_sets_29 : decode cX11_sets 29 = .ok (.aload_n 0, 1) := by decide +kernel
theorem dX11_sets_30 : decode cX11_sets 30 = .ok (.getfield 65, 3) := by decide +kernel
theorem dX11_sets_33 : decode cX11_sets 33 = .ok (.aload_n 0, 1) := by decide +kernel
theorem dX11_sets_34 : decode cX11_sets 34 = .ok (.getfield 28, 3) := by decide +kernel
theorem dX11_sets_37 : decode cX11_sets 37 = .ok (.aload_n 0, 1) := by decide +kernel
theorem dX11_sets_38 : decode cX11_sets 38 = .ok (.getfield 74, 3) := by decide +kernel
theorem dX11_sets_41 : decode cX11_sets 41 = .ok (.aload_n 0, 1) := by decide +kernel
theorem dX11_sets_42 : decode cX11_sets 42 = .ok (.getfield 58, 3) := by decide +kernel
theorem dX11_sets_45 : decode cX11_sets 45 = .ok (.invokevirtual 254, 3) := by decide +kernel
theorem dX11_sets_48 : decode cX11_sets 48 = .ok (.iload_n 1, 1) := by decide +kernel
theorem dX11_sets_49 : decode cX11_sets 49 = .ok (.ifCond .ne 11, 3) := by decide +kernel
theorem dX11_sets_52 : decode cX11_sets 52 = .ok (.aload_n 0, 1) := by decide +kernel
theorem dX11_sets_53 : decode cX11_sets 53 = .ok (.getfield 65, 3) := by decide +kernel
theorem dX11_sets_56 : decode cX11_sets 56 = .ok (.getfield 258, 3) := by decide +kernel
theorem dX11_sets_59 : decode cX11_sets 59 = .ok (.ireturn, 1) := by decide +kernel
theorem dX11_sets_60 : decode cX11_sets 60 = .ok (.aload_n 0, 1) := by decide +kernel
theorem dX11_sets_61 : decode cX11_sets 61 = .ok (.getfield 65, 3) := by decide +kernel
theorem dX11_sets_64 : decode cX11_sets 64 = .ok (.getfield 258, 3) := by decide +kernel
theorem dX11_sets_67 : decode cX11_sets 67 = .ok (.ifCond .ne 5, 3) := by decide +kernel
theorem dX11_sets_70 : decode cX11_sets 70 = .ok (.iconst (-1), 1) := by decide +kernel
theorem dX11_sets_71 : decode cX11_sets 71 = .ok (.ireturn, 1) := by decide +kernel
theorem dX11_sets_72 : decode cX11_sets 72 = .ok (.iload_n 1, 1) := by decide +kernel
theorem dX11_sets_73 : decode cX11_sets 73 = .ok (.iconst 1, 1) := by decide +kernel
theorem dX11_sets_74 : decode cX11_sets 74 = .ok (.if_icmp .ne 13, 3) := by decide +kernel
theorem dX11_sets_77 : decode cX11_sets 77 = .ok (.aload_n 0, 1) := by decide +kernel
theorem dX11_sets_78 : decode cX11_sets 78 = .ok (.getfield 65, 3) := by decide +kernel
theorem dX11_sets_81 : decode cX11_sets 81 = .ok (.getfield 261, 3) := by decide +kernel
theorem dX11_sets_84 : decode cX11_sets 84 = .ok (.goto 10, 3) := by decide +kernel
theorem dX11_sets_87 : decode cX11_sets 87 = .ok (.aload_n 0, 1) := by decide +kernel
theorem dX11_sets_88 : decode cX11_sets 88 = .ok (.getfield 65, 3) := by decide +kernel
theorem dX11_sets_91 : decode cX11_sets 91 = .ok (.getfield 264, 3) := by decide +kernel
theorem dX11_sets_94 : decode cX11_sets 94 = .ok (.ireturn, 1) := by decide +kernel
set_option maxRecDepth 20000 in
theorem ggX11_look_X1_prepare : GoodIn wsX11_look wsX1_prepare := goodIn_r _ [10, 11, 12, 13, 14, 15, 16, 17, 18, 19, 20, 21, 22, 23, 24, 25, 26, 27, 28, 29, 30, 31, 32, 33, 34, 35, 36, 37, 38, 39, 40, 41, 42, 43, 44, 45, 46, 47, 48, 49, 50, 51, 52, 53, 54, 55, 56, 57, 126, 127, 128, 129, 130, 131, 132, 133, 134, 135, 136, 137, 138, 139, 140, 141, 142, 143, 144, 145, 146, 147, 148, 149, 150, 151, 152, 153, 154, 155, 156, 157, 158, 159, 160, 161, 162, 163, 164, 165, 166, 167, 168] (by decide +kernel) (by decide +kernel)
set_option maxRecDepth 20000 in
theorem gX11_look_X1_prepare : GoodIn wsX11_look (wsV RX11 179 RX1 yX1_prepare wsX1_prepare) := goodIn_app (goodIn_of _ (by decide +kernel)) ggX11_look_X1_prepare
set_option maxRecDepth 20000 in
theorem ggX11_look_X8_search : GoodIn wsX11_look wsX8_search := goodIn_r _ [62, 63, 17, 18, 19, 64, 36, 37, 65, 66, 67, 68, 69, 70, 71, 72, 61, 73, 74, 75, 76, 9, 77, 15, 78, 79, 80, 81, 82, 83, 84, 85, 86, 87, 88, 89, 141, 142, 143, 144, 145, 146, 147, 148, 149, 150, 151, 152, 153, 154, 121, 122, 123, 124, 125, 155, 156, 157, 158, 159, 160, 161, 162, 163, 126, 127, 128, 129, 130, 131, 132, 133, 134, 135, 136, 137, 138, 139, 140, 169, 170, 171] (by decide +kernel) (by decide +kernel)
set_option maxRecDepth 20000 in
theorem gX11_look_X8_search : GoodIn wsX11_look (wsV RX11 254 RX8 yX8_search wsX8_search) := goodIn_app (goodIn_of _ (by decide +kernel)) ggX11_look_X8_search
set_option maxRecDepth 20000 in
theorem ggX11_look_X0_has : GoodIn wsX11_look wsX0_has := goodIn_r _ [93, 83, 84, 169, 170, 171] (by decide +kernel) (by decide +kernel)
set_option maxRecDepth 20000 in
theorem gX11_look_X0_has : GoodIn wsX11_look (wsV RX11 267 RX0 yX0_has wsX0_has) := goodIn_app (goodIn_of _ (by decide +kernel)) ggX11_look_X0_has
set_option maxRecDepth 20000 in
theorem ggX11_look_X8_mostAlike : GoodIn wsX11_look wsX8_mostAlike := goodIn_r _ [97, 68, 64, 36, 18, 37, 121, 122, 123, 124, 125] (by decide +kernel) (by decide +kernel)
set_option maxRecDepth 20000 in
theorem gX11_look_X8_mostAlike : GoodIn wsX11_look (wsV RX11 270 RX8 yX8_mostAlike wsX8_mostAlike) := goodIn_app (goodIn_of _ (by decide +kernel)) ggX11_look_X8_mostAlike
theorem dX11_look_0 : decode cX11_look 0 = .ok (.aload_n 0, 1) := by decide +kernel
theorem dX11_look_1 : decode cX11_look 1 = .ok (.getfield 74, 3) := by decide +kernel
theorem dX11_look_4 : decode cX11_look 4 = .ok (.aload_n 0, 1) := by decide +kernel
theorem dX11_look_5 : decode cX11_look 5 = .ok (.getfield 28, 3) := by decide +kernel
theorem dX11_look_8 : decode cX11_look 8 = .ok (.aload_n 0, 1) := by decide +kernel
theorem dX11_look_9 : decode cX11_look 9 = .ok (.getfield 38, 3) := by decide +kernel
theorem dX11_look_12 : decode cX11_look 12 = .ok (.getfield 138, 3) := by decide +kernel
theorem dX11_look_15 : decode cX11_look 15 = .ok (.invokevirtual 179, 3) := by decide +kernel
theorem dX11_look_18 : decode cX11_look 18 = .ok (.aload_n 0, 1) := by decide +kernel
theorem dX11_look_19 : decode cX11_look 19 = .ok (.getfield 65, 3) := by decide +kernel
theorem dX11_look_22 : decode cX11_look 22 = .ok (.aload_n 0, 1) := by decide +kernel
theorem dX11_look_23 : decode cX11_look 23 = .ok (.getfield 28, 3) := by decide +kernel
theorem dX11_look_26 : decode cX11_look 26 = .ok (.aload_n 0, 1) := by decide +kernel
theorem dX11_look_27 : decode cX11_look 27 = .ok (.getfield 74, 3) := by decide +kernel
theorem dX11_look_30 : decode cX11_look 30 = .ok (.aload_n 0, 1) := by decide +kernel
theorem dX11_look_31 : decode cX11_look 31 = .ok (.getfield 58, 3) := by decide +kernel
theorem dX11_look_34 : decode cX11_look 34 = .ok (.invokevirtual 254, 3) := by decide +kernel
theorem dX11_look_37 : decode cX11_look 37 = .ok (.aload_n 0, 1) := by decide +kernel
theorem dX11_look_38 : decode cX11_look 38 = .ok (.getfield 65, 3) := by decide +kernel
theorem dX11_look_41 : decode cX11_look 41 = .ok (.getfield 258, 3) := by decide +kernel
theorem dX11_look_44 : decode cX11_look 44 = .ok (.istore_n 1, 1) := by decide +kernel
theorem dX11_look_45 : decode cX11_look 45 = .ok (.iconst (-1), 1) := by decide +kernel
theorem dX11_look_46 : decode cX11_look 46 = .ok (.istore_n 2, 1) := by decide +kernel
theorem dX11_look_47 : decode cX11_look 47 = .ok (.iconst 0, 1) := by decide +kernel
theorem dX11_look_48 : decode cX11_look 48 = .ok (.istore_n 3, 1) := by decide +kernel
theorem dX11_look_49 : decode cX11_look 49 = .ok (.iload_n 3, 1) := by decide +kernel
theorem dX11_look_50 : decode cX11_look 50 = .ok (.bipush 12, 2) := by decide +kernel
theorem dX11_look_52 : decode cX11_look 52 = .ok (.if_icmp .ge 43, 3) := by decide +kernel
theorem dX11_look_55 : decode cX11_look 55 = .ok (.aload_n 0, 1) := by decide +kernel
theorem dX11_look_56 : decode cX11_look 56 = .ok (.getfield 58, 3) := by decide +kernel
theorem dX11_look_59 : decode cX11_look 59 = .ok (.iload_n 3, 1) := by decide +kernel
theorem dX11_look_60 : decode cX11_look 60 = .ok (.invokevirtual 267, 3) := by decide +kernel
theorem dX11_look_63 : decode cX11_look 63 = .ok (.ifCond .ne 26, 3) := by decide +kernel
theorem dX11_look_66 : decode cX11_look 66 = .ok (.aload_n 0, 1) := by decide +kernel
theorem dX11_look_67 : decode cX11_look 67 = .ok (.getfield 65, 3) := by decide +kernel
theorem dX11_look_70 : decode cX11_look 70 = .ok (.iload_n 3, 1) := by decide +kernel
theorem dX11_look_71 : decode cX11_look 71 = .ok (.invokevirtual 270, 3) := by decide +kernel
theorem dX11_look_74 : decode cX11_look 74 = .ok (.iload_n 1, 1) := by decide +kernel
theorem dX11_look_75 : decode cX11_look 75 = .ok (.if_icmp .ge 14, 3) := by decide +kernel
theorem dX11_look_78 : decode cX11_look 78 = .ok (.aload_n 0, 1) := by decide +kernel
theorem dX11_look_79 : decode cX11_look 79 = .ok (.getfield 65, 3) := by decide +kernel
theorem dX11_look_82 : decode cX11_look 82 = .ok (.iload_n 3, 1) := by decide +kernel
theorem dX11_look_83 : decode cX11_look 83 = .ok (.invokevirtual 270, 3) := by decide +kernel
theorem dX11_look_86 : decode cX11_look 86 = .ok (.istore_n 1, 1) := by decide +kernel
theorem dX11_look_87 : decode cX11_look 87 = .ok (.iload_n 3, 1) := by decide +kernel
theorem dX11_look_88 : decode cX11_look 88 = .ok (.istore_n 2, 1) := by decide +kernel
theorem dX11_look_89 : decode cX11_look 89 = .ok (.iinc 3 1, 3) := by decide +kernel
theorem dX11_look_92 : decode cX11_look 92 = .ok (.goto (-43), 3) := by decide +kernel
theorem dX11_look_95 : decode cX11_look 95 = .ok (.iload_n 2, 1) := by decide +kernel
theorem dX11_look_96 : decode cX11_look 96 = .ok (.ireturn, 1) := by decide +kernel
set_option maxRecDepth 20000 in
theorem ggX11_share_X11_isPasser : GoodIn wsX11_share wsX11_isPasser := goodIn_r _ [6, 1, 7, 8, 9, 10, 11, 12, 13, 14, 15, 16, 17, 18, 19, 20, 21, 22, 23, 24, 25, 26, 27, 28, 29, 30, 31, 32, 33, 34, 35, 36, 37] (by decide +kernel) (by decide +kernel)
set_option maxRecDepth 20000 in
theorem gX11_share_X11_isPasser : GoodIn wsX11_share (wsV RX11 116 RX11 yX11_isPasser wsX11_isPasser) := goodIn_app (goodIn_of _ (by decide +kernel)) ggX11_share_X11_isPasser
theorem dX11_share_0 : decode cX11_share 0 = .ok (.aload_n 0, 1) := by decide +kernel
theorem dX11_share_1 : decode cX11_share 1 = .ok (.iload_n 1, 1) := by decide +kernel
theorem dX11_share_2 : decode cX11_share 2 = .ok (.invokevirtual 116, 3) := by decide +kernel
theorem dX11_share_5 : decode cX11_share 5 = .ok (.ifCond .ne 5, 3) := by decide +kernel
theorem dX11_share_8 : decode cX11_share 8 = .ok (.iconst (-1), 1) := by decide +kernel
theorem dX11_share_9 : decode cX11_share 9 = .ok (.ireturn, 1) := by decide +kernel
theorem dX11_share_10 : decode cX11_share 10 = .ok (.iconst 0, 1) := by decide +kernel
theorem dX11_share_11 : decode cX11_share 11 = .ok (.istore_n 2, 1) := by decide +kernel
theorem dX11_share_12 : decode cX11_share 12 = .ok (.iconst 0, 1) := by decide +kernel
theorem dX11_share_13 : decode cX11_share 13 = .ok (.istore_n 3, 1) := by decide +kernel
theorem dX11_share_14 : decode cX11_share 14 = .ok (.iload_n 3, 1) := by decide +kernel
theorem dX11_share_15 : decode cX11_share 15 = .ok (.aload_n 0, 1) := by decide +kernel
theorem dX11_share_16 : decode cX11_share 16 = .ok (.getfield 28, 3) := by decide +kernel
theorem dX11_share_19 : decode cX11_share 19 = .ok (.getfield 173, 3) := by decide +kernel
theorem dX11_share_22 : decode cX11_share 22 = .ok (.if_icmp .ge 30, 3) := by decide +kernel
theorem dX11_share_25 : decode cX11_share 25 = .ok (.iload_n 3, 1) := by decide +kernel
theorem dX11_share_26 : decode cX11_share 26 = .ok (.bipush 7, 2) := by decide +kernel
theorem dX11_share_28 : decode cX11_share 28 = .ok (.if_icmp .ge 24, 3) := by decide +kernel
theorem dX11_share_31 : decode cX11_share 31 = .ok (.iload_n 2, 1) := by decide +kernel
theorem dX11_share_32 : decode cX11_share 32 = .ok (.aload_n 0, 1) := by decide +kernel
theorem dX11_share_33 : decode cX11_share 33 = .ok (.getfield 28, 3) := by decide +kernel
theorem dX11_share_36 : decode cX11_share 36 = .ok (.getfield 120, 3) := by decide +kernel
theorem dX11_share_39 : decode cX11_share 39 = .ok (.iload_n 3, 1) := by decide +kernel
theorem dX11_share_40 : decode cX11_share 40 = .ok (.aaload, 1) := by decide +kernel
theorem dX11_share_41 : decode cX11_share 41 = .ok (.getfield 273, 3) := by decide +kernel
theorem dX11_share_44 : decode cX11_share 44 = .ok (.iadd, 1) := by decide +kernel
theorem dX11_share_45 : decode cX11_share 45 = .ok (.istore_n 2, 1) := by decide +kernel
theorem dX11_share_46 : decode cX11_share 46 = .ok (.iinc 3 1, 3) := by decide +kernel
theorem dX11_share_49 : decode cX11_share 49 = .ok (.goto (-35), 3) := by decide +kernel
theorem dX11_share_52 : decode cX11_share 52 = .ok (.iload_n 2, 1) := by decide +kernel
theorem dX11_share_53 : decode cX11_share 53 = .ok (.ifCond .le 32, 3) := by decide +kernel
theorem dX11_share_56 : decode cX11_share 56 = .ok (.aload_n 0, 1) := by decide +kernel
theorem dX11_share_57 : decode cX11_share 57 = .ok (.getfield 28, 3) := by decide +kernel
theorem dX11_share_60 : decode cX11_share 60 = .ok (.getfield 193, 3) := by decide +kernel
theorem dX11_share_63 : decode cX11_share 63 = .ok (.sipush 1000, 3) := by decide +kernel
theorem dX11_share_66 : decode cX11_share 66 = .ok (.imul, 1) := by decide +kernel
theorem dX11_share_67 : decode cX11_share 67 = .ok (.aload_n 0, 1) := by decide +kernel
theorem dX11_share_68 : decode cX11_share 68 = .ok (.getfield 28, 3) := by decide +kernel
theorem dX11_share_71 : decode cX11_share 71 = .ok (.getfield 120, 3) := by decide +kernel
theorem dX11_share_74 : decode cX11_share 74 = .ok (.iload_n 1, 1) := by decide +kernel
theorem dX11_share_75 : decode cX11_share 75 = .ok (.aaload, 1) := by decide +kernel
theorem dX11_share_76 : decode cX11_share 76 = .ok (.getfield 273, 3) := by decide +kernel
theorem dX11_share_79 : decode cX11_share 79 = .ok (.imul, 1) := by decide +kernel
theorem dX11_share_80 : decode cX11_share 80 = .ok (.iload_n 2, 1) := by decide +kernel
theorem dX11_share_81 : decode cX11_share 81 = .ok (.idiv, 1) := by decide +kernel
theorem dX11_share_82 : decode cX11_share 82 = .ok (.goto 4, 3) := by decide +kernel
theorem dX11_share_85 : decode cX11_share 85 = .ok (.iconst (-1), 1) := by decide +kernel
theorem dX11_share_86 : decode cX11_share 86 = .ok (.ireturn, 1) := by decide +kernel
set_option maxRecDepth 20000 in
theorem ggX11_rests_X11_isDigit : GoodIn wsX11_rests wsX11_isDigit := goodIn_r _ [6] (by decide +kernel) (by decide +kernel)
set_option maxRecDepth 20000 in
theorem gX11_rests_X11_isDigit : GoodIn wsX11_rests (va_wsS RX11 276 yX11_isDigit wsX11_isDigit) := goodIn_app (goodIn_of _ (by decide +kernel)) ggX11_rests_X11_isDigit
set_option maxRecDepth 20000 in
theorem ggX11_rests_X11_isRest : GoodIn wsX11_rests wsX11_isRest := goodIn_r _ [9, 10, 11, 5, 12] (by decide +kernel) (by decide +kernel)
set_option maxRecDepth 20000 in
theorem gX11_rests_X11_isRest : GoodIn wsX11_rests (va_wsS RX11 279 yX11_isRest wsX11_isRest) := goodIn_app (goodIn_of _ (by decide +kernel)) ggX11_rests_X11_isRest
theorem dX11_rests_0 : decode cX11_rests 0 = .ok (.iload_n 1, 1) := by decide +kernel
theorem dX11_rests_1 : decode cX11_rests 1 = .ok (.invokestatic 276, 3) := by decide +kernel
theorem dX11_rests_4 : decode cX11_rests 4 = .ok (.ifCond .eq 23, 3) := by decide +kernel
theorem dX11_rests_7 : decode cX11_rests 7 = .ok (.iload_n 2, 1) := by decide +kernel
theorem dX11_rests_8 : decode cX11_rests 8 = .ok (.invokestatic 276, 3) := by decide +kernel
theorem dX11_rests_11 : decode cX11_rests 11 = .ok (.ifCond .eq 16, 3) := by decide +kernel
theorem dX11_rests_14 : decode cX11_rests 14 = .ok (.iload_n 3, 1) := by decide +kernel
theorem dX11_rests_15 : decode cX11_rests 15 = .ok (.invokestatic 276, 3) := by decide +kernel
theorem dX11_rests_18 : decode cX11_rests 18 = .ok (.ifCond .eq 9, 3) := by decide +kernel
theorem dX11_rests_21 : decode cX11_rests 21 = .ok (.iload 4, 2) := by decide +kernel
theorem dX11_rests_23 : decode cX11_rests 23 = .ok (.iconst (-1), 1) := by decide +kernel
theorem dX11_rests_24 : decode cX11_rests 24 = .ok (.if_icmp .ge 11, 3) := by decide +kernel
theorem dX11_rests_27 : decode cX11_rests 27 = .ok (.new 217, 3) := by decide +kernel
theorem dX11_rests_30 : decode cX11_rests 30 = .ok (.dup, 1) := by decide +kernel
theorem dX11_rests_31 : decode cX11_rests 31 = .ok (.invokespecial 219, 3) := by decide +kernel
theorem dX11_rests_34 : decode cX11_rests 34 = .ok (.athrow, 1) := by decide +kernel
theorem dX11_rests_35 : decode cX11_rests 35 = .ok (.iconst 0, 1) := by decide +kernel
theorem dX11_rests_36 : decode cX11_rests 36 = .ok (.istore 5, 2) := by decide +kernel
theorem dX11_rests_38 : decode cX11_rests 38 = .ok (.iconst 0, 1) := by decide +kernel
theorem dX11_rests_39 : decode cX11_rests 39 = .ok (.istore 6, 2) := by decide +kernel
theorem dX11_rests_41 : decode cX11_rests 41 = .ok (.iload 6, 2) := by decide +kernel
theorem dX11_rests_43 : decode cX11_rests 43 = .ok (.iconst 4, 1) := by decide +kernel
theorem dX11_rests_44 : decode cX11_rests 44 = .ok (.if_icmp .ge 36, 3) := by decide +kernel
theorem dX11_rests_47 : decode cX11_rests 47 = .ok (.iload_n 1, 1) := by decide +kernel
theorem dX11_rests_48 : decode cX11_rests 48 = .ok (.iload_n 2, 1) := by decide +kernel
theorem dX11_rests_49 : decode cX11_rests 49 = .ok (.iload_n 3, 1) := by decide +kernel
theorem dX11_rests_50 : decode cX11_rests 50 = .ok (.iload 6, 2) := by decide +kernel
theorem dX11_rests_52 : decode cX11_rests 52 = .ok (.invokestatic 279, 3) := by decide +kernel
theorem dX11_rests_55 : decode cX11_rests 55 = .ok (.ifCond .ne 6, 3) := by decide +kernel
theorem dX11_rests_58 : decode cX11_rests 58 = .ok (.goto 16, 3) := by decide +kernel
theorem dX11_rests_61 : decode cX11_rests 61 = .ok (.iload 5, 2) := by decide +kernel
theorem dX11_rests_63 : decode cX11_rests 63 = .ok (.iload 4, 2) := by decide +kernel
theorem dX11_rests_65 : decode cX11_rests 65 = .ok (.if_icmp .ne 6, 3) := by decide +kernel
theorem dX11_rests_68 : decode cX11_rests 68 = .ok (.iload 6, 2) := by decide +kernel
theorem dX11_rests_70 : decode cX11_rests 70 = .ok (.ireturn, 1) := by decide +kernel
theorem dX11_rests_71 : decode cX11_rests 71 = .ok (.iinc 5 1, 3) := by decide +kernel
theorem dX11_rests_74 : decode cX11_rests 74 = .ok (.iinc 6 1, 3) := by decide +kernel
theorem dX11_rests_77 : decode cX11_rests 77 = .ok (.goto (-36), 3) := by decide +kernel
theorem dX11_rests_80 : decode cX11_rests 80 = .ok (.iload 4, 2) := by decide +kernel
theorem dX11_rests_82 : decode cX11_rests 82 = .ok (.iconst (-1), 1) := by decide +kernel
theorem dX11_rests_83 : decode cX11_rests 83 = .ok (.if_icmp .eq 11, 3) := by decide +kernel
theorem dX11_rests_86 : decode cX11_rests 86 = .ok (.new 217, 3) := by decide +kernel
theorem dX11_rests_89 : decode cX11_rests 89 = .ok (.dup, 1) := by decide +kernel
theorem dX11_rests_90 : decode cX11_rests 90 = .ok (.invokespecial 219, 3) := by decide +kernel
theorem dX11_rests_93 : decode cX11_rests 93 = .ok (.athrow, 1) := by decide +kernel
theorem dX11_rests_94 : decode cX11_rests 94 = .ok (.iload 5, 2) := by decide +kernel
theorem dX11_rests_96 : decode cX11_rests 96 = .ok (.ireturn, 1) := by decide +kernel
set_option maxRecDepth 20000 in
theorem ggX11_rule_X11_isEach : GoodIn wsX11_rule wsX11_isEach := goodIn_r _ [10] (by decide +kernel) (by decide +kernel)
set_option maxRecDepth 20000 in
theorem gX11_rule_X11_isEach : GoodIn wsX11_rule (va_wsS RX11 199 yX11_isEach wsX11_isEach) := goodIn_app (goodIn_of _ (by decide +kernel)) ggX11_rule_X11_isEach
set_option maxRecDepth 20000 in
theorem ggX11_rule_X6_copyFrom : GoodIn wsX11_rule wsX6_copyFrom := goodIn_r _ [15, 16, 17, 18, 19, 20, 21, 148, 149, 150, 151, 152, 153] (by decide +kernel) (by decide +kernel)
set_option maxRecDepth 20000 in
theorem gX11_rule_X6_copyFrom : GoodIn wsX11_rule (wsV RX11 214 RX6 yX6_copyFrom wsX6_copyFrom) := goodIn_app (goodIn_of _ (by decide +kernel)) ggX11_rule_X6_copyFrom
set_option maxRecDepth 20000 in
theorem ggX11_rule_X1_prepare : GoodIn wsX11_rule wsX1_prepare := goodIn_r _ [26, 27, 28, 29, 30, 31, 32, 33, 34, 35, 36, 37, 38, 39, 40, 41, 42, 43, 44, 45, 46, 47, 48, 49, 50, 51, 52, 53, 54, 55, 56, 57, 58, 59, 60, 61, 62, 63, 64, 65, 66, 67, 68, 69, 70, 71, 72, 73, 154, 155, 156, 157, 158, 159, 160, 161, 162, 163, 164, 165, 166, 167, 168, 169, 170, 171, 172, 173, 174, 175, 176, 177, 178, 179, 180, 181, 182, 183, 184, 185, 186, 187, 188, 189, 190, 191, 192, 193, 194, 195, 196] (by decide +kernel) (by decide +kernel)
set_option maxRecDepth 20000 in
theorem gX11_rule_X1_prepare : GoodIn wsX11_rule (wsV RX11 179 RX1 yX1_prepare wsX1_prepare) := goodIn_app (goodIn_of _ (by decide +kernel)) ggX11_rule_X1_prepare
set_option maxRecDepth 20000 in
theorem ggX11_rule_X1_pass : GoodIn wsX11_rule wsX1_pass := goodIn_r _ [77, 78, 79, 80, 81, 82, 83, 84, 85, 86, 87, 25, 88, 27, 28, 89, 90, 91, 92, 93, 94, 29, 95, 96, 97, 98, 99, 100, 101, 102, 103, 104, 105, 39, 106, 41, 107, 108, 109, 110, 111, 112, 52, 34, 53, 113, 114, 115, 116, 31, 117, 118, 119, 120, 30, 121, 122, 123, 124, 125, 126, 127, 128, 47, 129, 130, 50, 33, 35, 51, 54, 55, 56, 57, 58, 59, 60, 61, 62, 63, 64, 65, 66, 67, 68, 69, 70, 71, 72, 73, 154, 155, 156, 157, 158, 159, 160, 161, 162, 163, 164, 165, 166, 167, 168, 148, 149, 150, 151, 152, 153, 169, 170, 171, 172, 173, 174, 175, 176, 177, 178, 179, 180, 181, 182, 183, 184, 185, 186, 187, 188, 189, 190, 191, 192, 193, 194, 195, 196] (by decide +kernel) (by decide +kernel)
set_option maxRecDepth 20000 in
theorem gX11_rule_X1_pass : GoodIn wsX11_rule (wsV RX11 183 RX1 yX1_pass wsX1_pass) := goodIn_app (goodIn_of _ (by decide +kernel)) ggX11_rule_X1_pass
theorem dX11_rule_0 : decode cX11_rule 0 = .ok (.iload_n 1, 1) := by decide +kernel
theorem dX11_rule_1 : decode cX11_rule 1 = .ok (.iconst 1, 1) := by decide +kernel
theorem dX11_rule_2 : decode cX11_rule 2 = .ok (.if_icmp .lt 16, 3) := by decide +kernel
theorem dX11_rule_5 : decode cX11_rule 5 = .ok (.iload_n 1, 1) := by decide +kernel
theorem dX11_rule_6 : decode cX11_rule 6 = .ok (.bipush 30, 2) := by decide +kernel
theorem dX11_rule_8 : decode cX11_rule 8 = .ok (.if_icmp .gt 10, 3) := by decide +kernel
theorem dX11_rule_11 : decode cX11_rule 11 = .ok (.iload_n 2, 1) := by decide +kernel
theorem dX11_rule_12 : decode cX11_rule 12 = .ok (.invokestatic 199, 3) := by decide +kernel
theorem dX11_rule_15 : decode cX11_rule 15 = .ok (.ifCond .ne 11, 3) := by decide +kernel
theorem dX11_rule_18 : decode cX11_rule 18 = .ok (.new 217, 3) := by decide +kernel
theorem dX11_rule_21 : decode cX11_rule 21 = .ok (.dup, 1) := by decide +kernel
theorem dX11_rule_22 : decode cX11_rule 22 = .ok (.invokespecial 219, 3) := by decide +kernel
theorem dX11_rule_25 : decode cX11_rule 25 = .ok (.athrow, 1) := by decide +kernel
theorem dX11_rule_26 : decode cX11_rule 26 = .ok (.aload_n 0, 1) := by decide +kernel
theorem dX11_rule_27 : decode cX11_rule 27 = .ok (.getfield 42, 3) := by decide +kernel
theorem dX11_rule_30 : decode cX11_rule 30 = .ok (.aload_n 0, 1) := by decide +kernel
theorem dX11_rule_31 : decode cX11_rule 31 = .ok (.getfield 38, 3) := by decide +kernel
theorem dX11_rule_34 : decode cX11_rule 34 = .ok (.invokevirtual 214, 3) := by decide +kernel
theorem dX11_rule_37 : decode cX11_rule 37 = .ok (.aload_n 0, 1) := by decide +kernel
theorem dX11_rule_38 : decode cX11_rule 38 = .ok (.getfield 42, 3) := by decide +kernel
theorem dX11_rule_41 : decode cX11_rule 41 = .ok (.iload_n 2, 1) := by decide +kernel
theorem dX11_rule_42 : decode cX11_rule 42 = .ok (.putfield 138, 3) := by decide +kernel
theorem dX11_rule_45 : decode cX11_rule 45 = .ok (.aload_n 0, 1) := by decide +kernel
theorem dX11_rule_46 : decode cX11_rule 46 = .ok (.getfield 74, 3) := by decide +kernel
theorem dX11_rule_49 : decode cX11_rule 49 = .ok (.aload_n 0, 1) := by decide +kernel
theorem dX11_rule_50 : decode cX11_rule 50 = .ok (.getfield 28, 3) := by decide +kernel
theorem dX11_rule_53 : decode cX11_rule 53 = .ok (.iload_n 2, 1) := by decide +kernel
theorem dX11_rule_54 : decode cX11_rule 54 = .ok (.invokevirtual 179, 3) := by decide +kernel
theorem dX11_rule_57 : decode cX11_rule 57 = .ok (.iconst 0, 1) := by decide +kernel
theorem dX11_rule_58 : decode cX11_rule 58 = .ok (.istore_n 3, 1) := by decide +kernel
theorem dX11_rule_59 : decode cX11_rule 59 = .ok (.iconst 0, 1) := by decide +kernel
theorem dX11_rule_60 : decode cX11_rule 60 = .ok (.istore 4, 2) := by decide +kernel
theorem dX11_rule_62 : decode cX11_rule 62 = .ok (.iload 4, 2) := by decide +kernel
theorem dX11_rule_64 : decode cX11_rule 64 = .ok (.iload_n 1, 1) := by decide +kernel
theorem dX11_rule_65 : decode cX11_rule 65 = .ok (.if_icmp .ge 31, 3) := by decide +kernel
theorem dX11_rule_68 : decode cX11_rule 68 = .ok (.aload_n 0, 1) := by decide +kernel
theorem dX11_rule_69 : decode cX11_rule 69 = .ok (.getfield 74, 3) := by decide +kernel
theorem dX11_rule_72 : decode cX11_rule 72 = .ok (.aload_n 0, 1) := by decide +kernel
theorem dX11_rule_73 : decode cX11_rule 73 = .ok (.getfield 42, 3) := by decide +kernel
theorem dX11_rule_76 : decode cX11_rule 76 = .ok (.iconst 0, 1) := by decide +kernel
theorem dX11_rule_77 : decode cX11_rule 77 = .ok (.invokevirtual 183, 3) := by decide +kernel
theorem dX11_rule_80 : decode cX11_rule 80 = .ok (.iload_n 3, 1) := by decide +kernel
theorem dX11_rule_81 : decode cX11_rule 81 = .ok (.aload_n 0, 1) := by decide +kernel
theorem dX11_rule_82 : decode cX11_rule 82 = .ok (.getfield 74, 3) := by decide +kernel
theorem dX11_rule_85 : decode cX11_rule 85 = .ok (.getfield 190, 3) := by decide +kernel
theorem dX11_rule_88 : decode cX11_rule 88 = .ok (.iadd, 1) := by decide +kernel
theorem dX11_rule_89 : decode cX11_rule 89 = .ok (.istore_n 3, 1) := by decide +kernel
