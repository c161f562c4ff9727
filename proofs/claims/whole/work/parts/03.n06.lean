theorem dX12_minutesOf_26 : decode cX12_minutesOf 26 = .ok (.getfield 114, 3) := by decide +kernel
theorem dX12_minutesOf_29 : decode cX12_minutesOf 29 = .ok (.iconst 1, 1) := by decide +kernel
theorem dX12_minutesOf_30 : decode cX12_minutesOf 30 = .ok (.iaload, 1) := by decide +kernel
theorem dX12_minutesOf_31 : decode cX12_minutesOf 31 = .ok (.invokestatic 382, 3) := by decide +kernel
theorem dX12_minutesOf_34 : decode cX12_minutesOf 34 = .ok (.ireturn, 1) := by decide +kernel
theorem dX12_wornBy_0 : decode cX12_wornBy 0 = .ok (.iconst 1, 1) := by decide +kernel
theorem dX12_wornBy_1 : decode cX12_wornBy 1 = .ok (.istore_n 3, 1) := by decide +kernel
theorem dX12_wornBy_2 : decode cX12_wornBy 2 = .ok (.aload_n 0, 1) := by decide +kernel
theorem dX12_wornBy_3 : decode cX12_wornBy 3 = .ok (.getfield 50, 3) := by decide +kernel
theorem dX12_wornBy_6 : decode cX12_wornBy 6 = .ok (.iconst 1, 1) := by decide +kernel
theorem dX12_wornBy_7 : decode cX12_wornBy 7 = .ok (.iaload, 1) := by decide +kernel
theorem dX12_wornBy_8 : decode cX12_wornBy 8 = .ok (.aload_n 0, 1) := by decide +kernel
theorem dX12_wornBy_9 : decode cX12_wornBy 9 = .ok (.getfield 47, 3) := by decide +kernel
theorem dX12_wornBy_12 : decode cX12_wornBy 12 = .ok (.iconst 1, 1) := by decide +kernel
theorem dX12_wornBy_13 : decode cX12_wornBy 13 = .ok (.iaload, 1) := by decide +kernel
theorem dX12_wornBy_14 : decode cX12_wornBy 14 = .ok (.if_icmp .le 40, 3) := by decide +kernel
theorem dX12_wornBy_17 : decode cX12_wornBy 17 = .ok (.aload_n 0, 1) := by decide +kernel
theorem dX12_wornBy_18 : decode cX12_wornBy 18 = .ok (.getfield 90, 3) := by decide +kernel
theorem dX12_wornBy_21 : decode cX12_wornBy 21 = .ok (.iconst 1, 1) := by decide +kernel
theorem dX12_wornBy_22 : decode cX12_wornBy 22 = .ok (.aload_n 0, 1) := by decide +kernel
theorem dX12_wornBy_23 : decode cX12_wornBy 23 = .ok (.getfield 35, 3) := by decide +kernel
theorem dX12_wornBy_26 : decode cX12_wornBy 26 = .ok (.iload_n 1, 1) := by decide +kernel
theorem dX12_wornBy_27 : decode cX12_wornBy 27 = .ok (.iaload, 1) := by decide +kernel
theorem dX12_wornBy_28 : decode cX12_wornBy 28 = .ok (.iastore, 1) := by decide +kernel
theorem dX12_wornBy_29 : decode cX12_wornBy 29 = .ok (.aload_n 0, 1) := by decide +kernel
theorem dX12_wornBy_30 : decode cX12_wornBy 30 = .ok (.getfield 90, 3) := by decide +kernel
theorem dX12_wornBy_33 : decode cX12_wornBy 33 = .ok (.iconst 5, 1) := by decide +kernel
theorem dX12_wornBy_34 : decode cX12_wornBy 34 = .ok (.iload_n 2, 1) := by decide +kernel
theorem dX12_wornBy_35 : decode cX12_wornBy 35 = .ok (.iastore, 1) := by decide +kernel
theorem dX12_wornBy_36 : decode cX12_wornBy 36 = .ok (.aload_n 0, 1) := by decide +kernel
theorem dX12_wornBy_37 : decode cX12_wornBy 37 = .ok (.getfield 90, 3) := by decide +kernel
theorem dX12_wornBy_40 : decode cX12_wornBy 40 = .ok (.bipush 6, 2) := by decide +kernel
theorem dX12_wornBy_42 : decode cX12_wornBy 42 = .ok (.aload_n 0, 1) := by decide +kernel
theorem dX12_wornBy_43 : decode cX12_wornBy 43 = .ok (.iload_n 1, 1) := by decide +kernel
theorem dX12_wornBy_44 : decode cX12_wornBy 44 = .ok (.invokevirtual 397, 3) := by decide +kernel
theorem dX12_wornBy_47 : decode cX12_wornBy 47 = .ok (.iastore, 1) := by decide +kernel
theorem dX12_wornBy_48 : decode cX12_wornBy 48 = .ok (.aload_n 0, 1) := by decide +kernel
theorem dX12_wornBy_49 : decode cX12_wornBy 49 = .ok (.iconst 1, 1) := by decide +kernel
theorem dX12_wornBy_50 : decode cX12_wornBy 50 = .ok (.invokevirtual 400, 3) := by decide +kernel
theorem dX12_wornBy_53 : decode cX12_wornBy 53 = .ok (.istore_n 3, 1) := by decide +kernel
theorem dX12_wornBy_54 : decode cX12_wornBy 54 = .ok (.bipush 9, 2) := by decide +kernel
theorem dX12_wornBy_56 : decode cX12_wornBy 56 = .ok (.iload_n 2, 1) := by decide +kernel
theorem dX12_wornBy_57 : decode cX12_wornBy 57 = .ok (.iload_n 3, 1) := by decide +kernel
theorem dX12_wornBy_58 : decode cX12_wornBy 58 = .ok (.iconst 0, 1) := by decide +kernel
theorem dX12_wornBy_59 : decode cX12_wornBy 59 = .ok (.bipush 9, 2) := by decide +kernel
theorem dX12_wornBy_61 : decode cX12_wornBy 61 = .ok (.invokestatic 403, 3) := by decide +kernel
theorem dX12_wornBy_64 : decode cX12_wornBy 64 = .ok (.iadd, 1) := by decide +kernel
theorem dX12_wornBy_65 : decode cX12_wornBy 65 = .ok (.invokestatic 382, 3) := by decide +kernel
theorem dX12_wornBy_68 : decode cX12_wornBy 68 = .ok (.ireturn, 1) := by decide +kernel
theorem dX12_wornFor_0 : decode cX12_wornFor 0 = .ok (.iconst 0, 1) := by decide +kernel
theorem dX12_wornFor_1 : decode cX12_wornFor 1 = .ok (.istore_n 2, 1) := by decide +kernel
theorem dX12_wornFor_2 : decode cX12_wornFor 2 = .ok (.iconst 0, 1) := by decide +kernel
theorem dX12_wornFor_3 : decode cX12_wornFor 3 = .ok (.istore_n 3, 1) := by decide +kernel
theorem dX12_wornFor_4 : decode cX12_wornFor 4 = .ok (.iload_n 3, 1) := by decide +kernel
theorem dX12_wornFor_5 : decode cX12_wornFor 5 = .ok (.aload_n 0, 1) := by decide +kernel
theorem dX12_wornFor_6 : decode cX12_wornFor 6 = .ok (.iload_n 1, 1) := by decide +kernel
theorem dX12_wornFor_7 : decode cX12_wornFor 7 = .ok (.invokevirtual 391, 3) := by decide +kernel
theorem dX12_wornFor_10 : decode cX12_wornFor 10 = .ok (.if_icmp .ge 25, 3) := by decide +kernel
theorem dX12_wornFor_13 : decode cX12_wornFor 13 = .ok (.iload_n 2, 1) := by decide +kernel
theorem dX12_wornFor_14 : decode cX12_wornFor 14 = .ok (.aload_n 0, 1) := by decide +kernel
theorem dX12_wornFor_15 : decode cX12_wornFor 15 = .ok (.getfield 114, 3) := by decide +kernel
theorem dX12_wornFor_18 : decode cX12_wornFor 18 = .ok (.iconst 5, 1) := by decide +kernel
theorem dX12_wornFor_19 : decode cX12_wornFor 19 = .ok (.aload_n 0, 1) := by decide +kernel
theorem dX12_wornFor_20 : decode cX12_wornFor 20 = .ok (.iload_n 1, 1) := by decide +kernel
theorem dX12_wornFor_21 : decode cX12_wornFor 21 = .ok (.iload_n 3, 1) := by decide +kernel
theorem dX12_wornFor_22 : decode cX12_wornFor 22 = .ok (.invokevirtual 394, 3) := by decide +kernel
theorem dX12_wornFor_25 : decode cX12_wornFor 25 = .ok (.iadd, 1) := by decide +kernel
theorem dX12_wornFor_26 : decode cX12_wornFor 26 = .ok (.iaload, 1) := by decide +kernel
theorem dX12_wornFor_27 : decode cX12_wornFor 27 = .ok (.iadd, 1) := by decide +kernel
theorem dX12_wornFor_28 : decode cX12_wornFor 28 = .ok (.istore_n 2, 1) := by decide +kernel
theorem dX12_wornFor_29 : decode cX12_wornFor 29 = .ok (.iinc 3 1, 3) := by decide +kernel
theorem dX12_wornFor_32 : decode cX12_wornFor 32 = .ok (.goto (-28), 3) := by decide +kernel
theorem dX12_wornFor_35 : decode cX12_wornFor 35 = .ok (.iload_n 2, 1) := by decide +kernel
theorem dX12_wornFor_36 : decode cX12_wornFor 36 = .ok (.ireturn, 1) := by decide +kernel
theorem dX12_standing_0 : decode cX12_standing 0 = .ok (.iconst 0, 1) := by decide +kernel
theorem dX12_standing_1 : decode cX12_standing 1 = .ok (.istore_n 1, 1) := by decide +kernel
theorem dX12_standing_2 : decode cX12_standing 2 = .ok (.iconst 0, 1) := by decide +kernel
theorem dX12_standing_3 : decode cX12_standing 3 = .ok (.istore_n 2, 1) := by decide +kernel
theorem dX12_standing_4 : decode cX12_standing 4 = .ok (.iload_n 2, 1) := by decide +kernel
theorem dX12_standing_5 : decode cX12_standing 5 = .ok (.aload_n 0, 1) := by decide +kernel
theorem dX12_standing_6 : decode cX12_standing 6 = .ok (.getfield 13, 3) := by decide +kernel
theorem dX12_standing_9 : decode cX12_standing 9 = .ok (.iconst 1, 1) := by decide +kernel
theorem dX12_standing_10 : decode cX12_standing 10 = .ok (.iaload, 1) := by decide +kernel
theorem dX12_standing_11 : decode cX12_standing 11 = .ok (.if_icmp .ge 27, 3) := by decide +kernel
theorem dX12_standing_14 : decode cX12_standing 14 = .ok (.iload_n 1, 1) := by decide +kernel
theorem dX12_standing_15 : decode cX12_standing 15 = .ok (.aload_n 0, 1) := by decide +kernel
theorem dX12_standing_16 : decode cX12_standing 16 = .ok (.getfield 135, 3) := by decide +kernel
theorem dX12_standing_19 : decode cX12_standing 19 = .ok (.iload_n 2, 1) := by decide +kernel
theorem dX12_standing_20 : decode cX12_standing 20 = .ok (.iaload, 1) := by decide +kernel
theorem dX12_standing_21 : decode cX12_standing 21 = .ok (.iconst 1, 1) := by decide +kernel
theorem dX12_standing_22 : decode cX12_standing 22 = .ok (.if_icmp .ne 7, 3) := by decide +kernel
theorem dX12_standing_25 : decode cX12_standing 25 = .ok (.iconst 1, 1) := by decide +kernel
theorem dX12_standing_26 : decode cX12_standing 26 = .ok (.goto 4, 3) := by decide +kernel
theorem dX12_standing_29 : decode cX12_standing 29 = .ok (.iconst 0, 1) := by decide +kernel
theorem dX12_standing_30 : decode cX12_standing 30 = .ok (.iadd, 1) := by decide +kernel
theorem dX12_standing_31 : decode cX12_standing 31 = .ok (.istore_n 1, 1) := by decide +kernel
theorem dX12_standing_32 : decode cX12_standing 32 = .ok (.iinc 2 1, 3) := by decide +kernel
theorem dX12_standing_35 : decode cX12_standing 35 = .ok (.goto (-31), 3) := by decide +kernel
theorem dX12_standing_38 : decode cX12_standing 38 = .ok (.iload_n 1, 1) := by decide +kernel
theorem dX12_standing_39 : decode cX12_standing 39 = .ok (.ireturn, 1) := by decide +kernel
theorem dX12_wouldDare_0 : decode cX12_wouldDare 0 = .ok (.aload_n 0, 1) := by decide +kernel
theorem dX12_wouldDare_1 : decode cX12_wouldDare 1 = .ok (.getfield 29, 3) := by decide +kernel
theorem dX12_wouldDare_4 : decode cX12_wouldDare 4 = .ok (.iload_n 1, 1) := by decide +kernel
theorem dX12_wouldDare_5 : decode cX12_wouldDare 5 = .ok (.iaload, 1) := by decide +kernel
theorem dX12_wouldDare_6 : decode cX12_wouldDare 6 = .ok (.iconst 2, 1) := by decide +kernel
theorem dX12_wouldDare_7 : decode cX12_wouldDare 7 = .ok (.if_icmp .eq 16, 3) := by decide +kernel
theorem dX12_wouldDare_10 : decode cX12_wouldDare 10 = .ok (.aload_n 0, 1) := by decide +kernel
theorem dX12_wouldDare_11 : decode cX12_wouldDare 11 = .ok (.getfield 38, 3) := by decide +kernel
theorem dX12_wouldDare_14 : decode cX12_wouldDare 14 = .ok (.iload_n 1, 1) := by decide +kernel
theorem dX12_wouldDare_15 : decode cX12_wouldDare 15 = .ok (.iaload, 1) := by decide +kernel
theorem dX12_wouldDare_16 : decode cX12_wouldDare 16 = .ok (.iload_n 2, 1) := by decide +kernel
theorem dX12_wouldDare_17 : decode cX12_wouldDare 17 = .ok (.iadd, 1) := by decide +kernel
theorem dX12_wouldDare_18 : decode cX12_wouldDare 18 = .ok (.bipush 9, 2) := by decide +kernel
theorem dX12_wouldDare_20 : decode cX12_wouldDare 20 = .ok (.if_icmp .gt 7, 3) := by decide +kernel
theorem dX12_wouldDare_23 : decode cX12_wouldDare 23 = .ok (.iconst 1, 1) := by decide +kernel
theorem dX12_wouldDare_24 : decode cX12_wouldDare 24 = .ok (.goto 4, 3) := by decide +kernel
theorem dX12_wouldDare_27 : decode cX12_wouldDare 27 = .ok (.iconst 0, 1) := by decide +kernel
theorem dX12_wouldDare_28 : decode cX12_wouldDare 28 = .ok (.ireturn, 1) := by decide +kernel
theorem dX12_isOpenAt_0 : decode cX12_isOpenAt 0 = .ok (.iload_n 1, 1) := by decide +kernel
theorem dX12_isOpenAt_1 : decode cX12_isOpenAt 1 = .ok (.aload_n 0, 1) := by decide +kernel
theorem dX12_isOpenAt_2 : decode cX12_isOpenAt 2 = .ok (.getfield 114, 3) := by decide +kernel
theorem dX12_isOpenAt_5 : decode cX12_isOpenAt 5 = .ok (.iconst 2, 1) := by decide +kernel
theorem dX12_isOpenAt_6 : decode cX12_isOpenAt 6 = .ok (.iaload, 1) := by decide +kernel
theorem dX12_isOpenAt_7 : decode cX12_isOpenAt 7 = .ok (.if_icmp .lt 17, 3) := by decide +kernel
theorem dX12_isOpenAt_10 : decode cX12_isOpenAt 10 = .ok (.iload_n 1, 1) := by decide +kernel
theorem dX12_isOpenAt_11 : decode cX12_isOpenAt 11 = .ok (.aload_n 0, 1) := by decide +kernel
theorem dX12_isOpenAt_12 : decode cX12_isOpenAt 12 = .ok (.getfield 114, 3) := by decide +kernel
theorem dX12_isOpenAt_15 : decode cX12_isOpenAt 15 = .ok (.iconst 3, 1) := by decide +kernel
theorem dX12_isOpenAt_16 : decode cX12_isOpenAt 16 = .ok (.iaload, 1) := by decide +kernel
theorem dX12_isOpenAt_17 : decode cX12_isOpenAt 17 = .ok (.if_icmp .ge 7, 3) := by decide +kernel
theorem dX12_isOpenAt_20 : decode cX12_isOpenAt 20 = .ok (.iconst 1, 1) := by decide +kernel
theorem dX12_isOpenAt_21 : decode cX12_isOpenAt 21 = .ok (.goto 4, 3) := by decide +kernel
theorem dX12_isOpenAt_24 : decode cX12_isOpenAt 24 = .ok (.iconst 0, 1) := by decide +kernel
theorem dX12_isOpenAt_25 : decode cX12_isOpenAt 25 = .ok (.ireturn, 1) := by decide +kernel
theorem dX12_firstDaring_0 : decode cX12_firstDaring 0 = .ok (.aload_n 0, 1) := by decide +kernel
theorem dX12_firstDaring_1 : decode cX12_firstDaring 1 = .ok (.invokevirtual 407, 3) := by decide +kernel
theorem dX12_firstDaring_4 : decode cX12_firstDaring 4 = .ok (.iconst 1, 1) := by decide +kernel
theorem dX12_firstDaring_5 : decode cX12_firstDaring 5 = .ok (.isub, 1) := by decide +kernel
theorem dX12_firstDaring_6 : decode cX12_firstDaring 6 = .ok (.istore_n 1, 1) := by decide +kernel
theorem dX12_firstDaring_7 : decode cX12_firstDaring 7 = .ok (.iconst (-1), 1) := by decide +kernel
theorem dX12_firstDaring_8 : decode cX12_firstDaring 8 = .ok (.istore_n 2, 1) := by decide +kernel
theorem dX12_firstDaring_9 : decode cX12_firstDaring 9 = .ok (.iconst 0, 1) := by decide +kernel
theorem dX12_firstDaring_10 : decode cX12_firstDaring 10 = .ok (.istore_n 3, 1) := by decide +kernel
theorem dX12_firstDaring_11 : decode cX12_firstDaring 11 = .ok (.iload_n 3, 1) := by decide +kernel
theorem dX12_firstDaring_12 : decode cX12_firstDaring 12 = .ok (.aload_n 0, 1) := by decide +kernel
theorem dX12_firstDaring_13 : decode cX12_firstDaring 13 = .ok (.getfield 13, 3) := by decide +kernel
theorem dX12_firstDaring_16 : decode cX12_firstDaring 16 = .ok (.iconst 1, 1) := by decide +kernel
theorem dX12_firstDaring_17 : decode cX12_firstDaring 17 = .ok (.iaload, 1) := by decide +kernel
theorem dX12_firstDaring_18 : decode cX12_firstDaring 18 = .ok (.if_icmp .ge 49, 3) := by decide +kernel
theorem dX12_firstDaring_21 : decode cX12_firstDaring 21 = .ok (.aload_n 0, 1) := by decide +kernel
theorem dX12_firstDaring_22 : decode cX12_firstDaring 22 = .ok (.getfield 135, 3) := by decide +kernel
theorem dX12_firstDaring_25 : decode cX12_firstDaring 25 = .ok (.iload_n 3, 1) := by decide +kernel
theorem dX12_firstDaring_26 : decode cX12_firstDaring 26 = .ok (.iaload, 1) := by decide +kernel
theorem dX12_firstDaring_27 : decode cX12_firstDaring 27 = .ok (.iconst 1, 1) := by decide +kernel
theorem dX12_firstDaring_28 : decode cX12_firstDaring 28 = .ok (.if_icmp .ne 33, 3) := by decide +kernel
theorem dX12_firstDaring_31 : decode cX12_firstDaring 31 = .ok (.aload_n 0, 1) := by decide +kernel
theorem dX12_firstDaring_32 : decode cX12_firstDaring 32 = .ok (.iload_n 3, 1) := by decide +kernel
theorem dX12_firstDaring_33 : decode cX12_firstDaring 33 = .ok (.iload_n 1, 1) := by decide +kernel
theorem dX12_firstDaring_34 : decode cX12_firstDaring 34 = .ok (.invokevirtual 410, 3) := by decide +kernel
theorem dX12_firstDaring_37 : decode cX12_firstDaring 37 = .ok (.ifCond .eq 24, 3) := by decide +kernel
theorem dX12_firstDaring_40 : decode cX12_firstDaring 40 = .ok (.iload_n 2, 1) := by decide +kernel
theorem dX12_firstDaring_41 : decode cX12_firstDaring 41 = .ok (.ifCond .lt 18, 3) := by decide +kernel
theorem dX12_firstDaring_44 : decode cX12_firstDaring 44 = .ok (.aload_n 0, 1) := by decide +kernel
theorem dX12_firstDaring_45 : decode cX12_firstDaring 45 = .ok (.getfield 132, 3) := by decide +kernel
theorem dX12_firstDaring_48 : decode cX12_firstDaring 48 = .ok (.iload_n 3, 1) := by decide +kernel
theorem dX12_firstDaring_49 : decode cX12_firstDaring 49 = .ok (.iaload, 1) := by decide +kernel
theorem dX12_firstDaring_50 : decode cX12_firstDaring 50 = .ok (.aload_n 0, 1) := by decide +kernel
theorem dX12_firstDaring_51 : decode cX12_firstDaring 51 = .ok (.getfield 132, 3) := by decide +kernel
theorem dX12_firstDaring_54 : decode cX12_firstDaring 54 = .ok (.iload_n 2, 1) := by decide +kernel
theorem dX12_firstDaring_55 : decode cX12_firstDaring 55 = .ok (.iaload, 1) := by decide +kernel
theorem dX12_firstDaring_56 : decode cX12_firstDaring 56 = .ok (.if_icmp .ge 5, 3) := by decide +kernel
theorem dX12_firstDaring_59 : decode cX12_firstDaring 59 = .ok (.iload_n 3, 1) := by decide +kernel
theorem dX12_firstDaring_60 : decode cX12_firstDaring 60 = .ok (.istore_n 2, 1) := by decide +kernel
theorem dX12_firstDaring_61 : decode cX12_firstDaring 61 = .ok (.iinc 3 1, 3) := by decide +kernel
theorem dX12_firstDaring_64 : decode cX12_firstDaring 64 = .ok (.goto (-53), 3) := by decide +kernel
theorem dX12_firstDaring_67 : decode cX12_firstDaring 67 = .ok (.iload_n 2, 1) := by decide +kernel
theorem dX12_firstDaring_68 : decode cX12_firstDaring 68 = .ok (.ireturn, 1) := by decide +kernel
theorem dX12_beginsAt_0 : decode cX12_beginsAt 0 = .ok (.aload_n 0, 1) := by decide +kernel
theorem dX12_beginsAt_1 : decode cX12_beginsAt 1 = .ok (.getfield 135, 3) := by decide +kernel
theorem dX12_beginsAt_4 : decode cX12_beginsAt 4 = .ok (.iload_n 1, 1) := by decide +kernel
theorem dX12_beginsAt_5 : decode cX12_beginsAt 5 = .ok (.iconst 2, 1) := by decide +kernel
theorem dX12_beginsAt_6 : decode cX12_beginsAt 6 = .ok (.iastore, 1) := by decide +kernel
theorem dX12_beginsAt_7 : decode cX12_beginsAt 7 = .ok (.aload_n 0, 1) := by decide +kernel
theorem dX12_beginsAt_8 : decode cX12_beginsAt 8 = .ok (.getfield 138, 3) := by decide +kernel
theorem dX12_beginsAt_11 : decode cX12_beginsAt 11 = .ok (.iload_n 1, 1) := by decide +kernel
theorem dX12_beginsAt_12 : decode cX12_beginsAt 12 = .ok (.iload_n 2, 1) := by decide +kernel
theorem dX12_beginsAt_13 : decode cX12_beginsAt 13 = .ok (.iastore, 1) := by decide +kernel
theorem dX12_beginsAt_14 : decode cX12_beginsAt 14 = .ok (.aload_n 0, 1) := by decide +kernel
theorem dX12_beginsAt_15 : decode cX12_beginsAt 15 = .ok (.getfield 147, 3) := by decide +kernel
theorem dX12_beginsAt_18 : decode cX12_beginsAt 18 = .ok (.iload_n 1, 1) := by decide +kernel
theorem dX12_beginsAt_19 : decode cX12_beginsAt 19 = .ok (.iconst 0, 1) := by decide +kernel
theorem dX12_beginsAt_20 : decode cX12_beginsAt 20 = .ok (.iastore, 1) := by decide +kernel
theorem dX12_beginsAt_21 : decode cX12_beginsAt 21 = .ok (.iconst 0, 1) := by decide +kernel
theorem dX12_beginsAt_22 : decode cX12_beginsAt 22 = .ok (.istore_n 3, 1) := by decide +kernel
theorem dX12_beginsAt_23 : decode cX12_beginsAt 23 = .ok (.iload_n 3, 1) := by decide +kernel
theorem dX12_beginsAt_24 : decode cX12_beginsAt 24 = .ok (.aload_n 0, 1) := by decide +kernel
theorem dX12_beginsAt_25 : decode cX12_beginsAt 25 = .ok (.getfield 13, 3) := by decide +kernel
theorem dX12_beginsAt_28 : decode cX12_beginsAt 28 = .ok (.iconst 1, 1) := by decide +kernel
theorem dX12_beginsAt_29 : decode cX12_beginsAt 29 = .ok (.iaload, 1) := by decide +kernel
theorem dX12_beginsAt_30 : decode cX12_beginsAt 30 = .ok (.if_icmp .ge 52, 3) := by decide +kernel
theorem dX12_beginsAt_33 : decode cX12_beginsAt 33 = .ok (.aload_n 0, 1) := by decide +kernel
theorem dX12_beginsAt_34 : decode cX12_beginsAt 34 = .ok (.getfield 147, 3) := by decide +kernel
theorem dX12_beginsAt_37 : decode cX12_beginsAt 37 = .ok (.iload_n 1, 1) := by decide +kernel
theorem dX12_beginsAt_38 : decode cX12_beginsAt 38 = .ok (.dup2, 1) := by decide +kernel
theorem dX12_beginsAt_39 : decode cX12_beginsAt 39 = .ok (.iaload, 1) := by decide +kernel
theorem dX12_beginsAt_40 : decode cX12_beginsAt 40 = .ok (.iload_n 3, 1) := by decide +kernel
theorem dX12_beginsAt_41 : decode cX12_beginsAt 41 = .ok (.iload_n 1, 1) := by decide +kernel
theorem dX12_beginsAt_42 : decode cX12_beginsAt 42 = .ok (.if_icmp .eq 31, 3) := by decide +kernel
theorem dX12_beginsAt_45 : decode cX12_beginsAt 45 = .ok (.aload_n 0, 1) := by decide +kernel
theorem dX12_beginsAt_46 : decode cX12_beginsAt 46 = .ok (.getfield 138, 3) := by decide +kernel
theorem dX12_beginsAt_49 : decode cX12_beginsAt 49 = .ok (.iload_n 3, 1) := by decide +kernel
theorem dX12_beginsAt_50 : decode cX12_beginsAt 50 = .ok (.iaload, 1) := by decide +kernel
theorem dX12_beginsAt_51 : decode cX12_beginsAt 51 = .ok (.ifCond .lt 22, 3) := by decide +kernel
theorem dX12_beginsAt_54 : decode cX12_beginsAt 54 = .ok (.aload_n 0, 1) := by decide +kernel
theorem dX12_beginsAt_55 : decode cX12_beginsAt 55 = .ok (.getfield 32, 3) := by decide +kernel
theorem dX12_beginsAt_58 : decode cX12_beginsAt 58 = .ok (.iload_n 3, 1) := by decide +kernel
theorem dX12_beginsAt_59 : decode cX12_beginsAt 59 = .ok (.iaload, 1) := by decide +kernel
theorem dX12_beginsAt_60 : decode cX12_beginsAt 60 = .ok (.aload_n 0, 1) := by decide +kernel
theorem dX12_beginsAt_61 : decode cX12_beginsAt 61 = .ok (.getfield 32, 3) := by decide +kernel
theorem dX12_beginsAt_64 : decode cX12_beginsAt 64 = .ok (.iload_n 1, 1) := by decide +kernel
theorem dX12_beginsAt_65 : decode cX12_beginsAt 65 = .ok (.iaload, 1) := by decide +kernel
theorem dX12_beginsAt_66 : decode cX12_beginsAt 66 = .ok (.if_icmp .ne 7, 3) := by decide +kernel
theorem dX12_beginsAt_69 : decode cX12_beginsAt 69 = .ok (.iconst 1, 1) := by decide +kernel
theorem dX12_beginsAt_70 : decode cX12_beginsAt 70 = .ok (.goto 4, 3) := by decide +kernel
theorem dX12_beginsAt_73 : decode cX12_beginsAt 73 = .ok (.iconst 0, 1) := by decide +kernel
theorem dX12_beginsAt_74 : decode cX12_beginsAt 74 = .ok (.iadd, 1) := by decide +kernel
theorem dX12_beginsAt_75 : decode cX12_beginsAt 75 = .ok (.iastore, 1) := by decide +kernel
theorem dX12_beginsAt_76 : decode cX12_beginsAt 76 = .ok (.iinc 3 1, 3) := by decide +kernel
theorem dX12_beginsAt_79 : decode cX12_beginsAt 79 = .ok (.goto (-56), 3) := by decide +kernel
theorem dX12_beginsAt_82 : decode cX12_beginsAt 82 = .ok (.iconst 0, 1) := by decide +kernel
theorem dX12_beginsAt_83 : decode cX12_beginsAt 83 = .ok (.istore_n 3, 1) := by decide +kernel
theorem dX12_beginsAt_84 : decode cX12_beginsAt 84 = .ok (.iload_n 3, 1) := by decide +kernel
theorem dX12_beginsAt_85 : decode cX12_beginsAt 85 = .ok (.aload_n 0, 1) := by decide +kernel
theorem dX12_beginsAt_86 : decode cX12_beginsAt 86 = .ok (.iload_n 1, 1) := by decide +kernel
theorem dX12_beginsAt_87 : decode cX12_beginsAt 87 = .ok (.invokevirtual 391, 3) := by decide +kernel
theorem dX12_beginsAt_90 : decode cX12_beginsAt 90 = .ok (.if_icmp .ge 40, 3) := by decide +kernel
theorem dX12_beginsAt_93 : decode cX12_beginsAt 93 = .ok (.aload_n 0, 1) := by decide +kernel
theorem dX12_beginsAt_94 : decode cX12_beginsAt 94 = .ok (.getfield 114, 3) := by decide +kernel
theorem dX12_beginsAt_97 : decode cX12_beginsAt 97 = .ok (.iconst 5, 1) := by decide +kernel
theorem dX12_beginsAt_98 : decode cX12_beginsAt 98 = .ok (.aload_n 0, 1) := by decide +kernel
theorem dX12_beginsAt_99 : decode cX12_beginsAt 99 = .ok (.iload_n 1, 1) := by decide +kernel
theorem dX12_beginsAt_100 : decode cX12_beginsAt 100 = .ok (.iload_n 3, 1) := by decide +kernel
theorem dX12_beginsAt_101 : decode cX12_beginsAt 101 = .ok (.invokevirtual 394, 3) := by decide +kernel
theorem dX12_beginsAt_104 : decode cX12_beginsAt 104 = .ok (.iadd, 1) := by decide +kernel
theorem dX12_beginsAt_105 : decode cX12_beginsAt 105 = .ok (.aload_n 0, 1) := by decide +kernel
theorem dX12_beginsAt_106 : decode cX12_beginsAt 106 = .ok (.iload_n 1, 1) := by decide +kernel
theorem dX12_beginsAt_107 : decode cX12_beginsAt 107 = .ok (.aload_n 0, 1) := by decide +kernel
theorem dX12_beginsAt_108 : decode cX12_beginsAt 108 = .ok (.getfield 114, 3) := by decide +kernel
theorem dX12_beginsAt_111 : decode cX12_beginsAt 111 = .ok (.iconst 5, 1) := by decide +kernel
theorem dX12_beginsAt_112 : decode cX12_beginsAt 112 = .ok (.aload_n 0, 1) := by decide +kernel
theorem dX12_beginsAt_113 : decode cX12_beginsAt 113 = .ok (.iload_n 1, 1) := by decide +kernel
theorem dX12_beginsAt_114 : decode cX12_beginsAt 114 = .ok (.iload_n 3, 1) := by decide +kernel
theorem dX12_beginsAt_115 : decode cX12_beginsAt 115 = .ok (.invokevirtual 394, 3) := by decide +kernel
theorem dX12_beginsAt_118 : decode cX12_beginsAt 118 = .ok (.iadd, 1) := by decide +kernel
theorem dX12_beginsAt_119 : decode cX12_beginsAt 119 = .ok (.iaload, 1) := by decide +kernel
theorem dX12_beginsAt_120 : decode cX12_beginsAt 120 = .ok (.invokevirtual 413, 3) := by decide +kernel
theorem dX12_beginsAt_123 : decode cX12_beginsAt 123 = .ok (.iastore, 1) := by decide +kernel
theorem dX12_beginsAt_124 : decode cX12_beginsAt 124 = .ok (.iinc 3 1, 3) := by decide +kernel
theorem dX12_beginsAt_127 : decode cX12_beginsAt 127 = .ok (.goto (-43), 3) := by decide +kernel
theorem dX12_beginsAt_130 : decode cX12_beginsAt 130 = .ok (.aload_n 0, 1) := by decide +kernel
theorem dX12_beginsAt_131 : decode cX12_beginsAt 131 = .ok (.dup, 1) := by decide +kernel
theorem dX12_beginsAt_132 : decode cX12_beginsAt 132 = .ok (.getfield 416, 3) := by decide +kernel
theorem dX12_beginsAt_135 : decode cX12_beginsAt 135 = .ok (.iconst 1, 1) := by decide +kernel
theorem dX12_beginsAt_136 : decode cX12_beginsAt 136 = .ok (.iadd, 1) := by decide +kernel
theorem dX12_beginsAt_137 : decode cX12_beginsAt 137 = .ok (.putfield 416, 3) := by decide +kernel
theorem dX12_beginsAt_140 : decode cX12_beginsAt 140 = .ok (.return_, 1) := by decide +kernel
theorem dX12_joyOf_0 : decode cX12_joyOf 0 = .ok (.aload_n 0, 1) := by decide +kernel
theorem dX12_joyOf_1 : decode cX12_joyOf 1 = .ok (.iload_n 1, 1) := by decide +kernel
theorem dX12_joyOf_2 : decode cX12_joyOf 2 = .ok (.invokevirtual 419, 3) := by decide +kernel
theorem dX12_joyOf_5 : decode cX12_joyOf 5 = .ok (.istore_n 2, 1) := by decide +kernel
theorem dX12_joyOf_6 : decode cX12_joyOf 6 = .ok (.aload_n 0, 1) := by decide +kernel
theorem dX12_joyOf_7 : decode cX12_joyOf 7 = .ok (.getfield 35, 3) := by decide +kernel
theorem dX12_joyOf_10 : decode cX12_joyOf 10 = .ok (.iload_n 1, 1) := by decide +kernel
theorem dX12_joyOf_11 : decode cX12_joyOf 11 = .ok (.iaload, 1) := by decide +kernel
theorem dX12_joyOf_12 : decode cX12_joyOf 12 = .ok (.iload_n 2, 1) := by decide +kernel
theorem dX12_joyOf_13 : decode cX12_joyOf 13 = .ok (.isub, 1) := by decide +kernel
theorem dX12_joyOf_14 : decode cX12_joyOf 14 = .ok (.aload_n 0, 1) := by decide +kernel
theorem dX12_joyOf_15 : decode cX12_joyOf 15 = .ok (.getfield 147, 3) := by decide +kernel
theorem dX12_joyOf_18 : decode cX12_joyOf 18 = .ok (.iload_n 1, 1) := by decide +kernel
theorem dX12_joyOf_19 : decode cX12_joyOf 19 = .ok (.iaload, 1) := by decide +kernel
theorem dX12_joyOf_20 : decode cX12_joyOf 20 = .ok (.isub, 1) := by decide +kernel
theorem dX12_joyOf_21 : decode cX12_joyOf 21 = .ok (.istore_n 3, 1) := by decide +kernel
theorem dX12_joyOf_22 : decode cX12_joyOf 22 = .ok (.aload_n 0, 1) := by decide +kernel
theorem dX12_joyOf_23 : decode cX12_joyOf 23 = .ok (.getfield 50, 3) := by decide +kernel
theorem dX12_joyOf_26 : decode cX12_joyOf 26 = .ok (.iconst 0, 1) := by decide +kernel
theorem dX12_joyOf_27 : decode cX12_joyOf 27 = .ok (.iaload, 1) := by decide +kernel
theorem dX12_joyOf_28 : decode cX12_joyOf 28 = .ok (.aload_n 0, 1) := by decide +kernel
theorem dX12_joyOf_29 : decode cX12_joyOf 29 = .ok (.getfield 47, 3) := by decide +kernel
theorem dX12_joyOf_32 : decode cX12_joyOf 32 = .ok (.iconst 0, 1) := by decide +kernel
theorem dX12_joyOf_33 : decode cX12_joyOf 33 = .ok (.iaload, 1) := by decide +kernel
theorem dX12_joyOf_34 : decode cX12_joyOf 34 = .ok (.if_icmp .le 50, 3) := by decide +kernel
theorem dX12_joyOf_37 : decode cX12_joyOf 37 = .ok (.aload_n 0, 1) := by decide +kernel
theorem dX12_joyOf_38 : decode cX12_joyOf 38 = .ok (.getfield 90, 3) := by decide +kernel
theorem dX12_joyOf_41 : decode cX12_joyOf 41 = .ok (.iconst 1, 1) := by decide +kernel
theorem dX12_joyOf_42 : decode cX12_joyOf 42 = .ok (.aload_n 0, 1) := by decide +kernel
theorem dX12_joyOf_43 : decode cX12_joyOf 43 = .ok (.getfield 35, 3) := by decide +kernel
theorem dX12_joyOf_46 : decode cX12_joyOf 46 = .ok (.iload_n 1, 1) := by decide +kernel
theorem dX12_joyOf_47 : decode cX12_joyOf 47 = .ok (.iaload, 1) := by decide +kernel
theorem dX12_joyOf_48 : decode cX12_joyOf 48 = .ok (.iastore, 1) := by decide +kernel
theorem dX12_joyOf_49 : decode cX12_joyOf 49 = .ok (.aload_n 0, 1) := by decide +kernel
theorem dX12_joyOf_50 : decode cX12_joyOf 50 = .ok (.getfield 90, 3) := by decide +kernel
theorem dX12_joyOf_53 : decode cX12_joyOf 53 = .ok (.iconst 2, 1) := by decide +kernel
theorem dX12_joyOf_54 : decode cX12_joyOf 54 = .ok (.iload_n 2, 1) := by decide +kernel
theorem dX12_joyOf_55 : decode cX12_joyOf 55 = .ok (.iastore, 1) := by decide +kernel
theorem dX12_joyOf_56 : decode cX12_joyOf 56 = .ok (.aload_n 0, 1) := by decide +kernel
theorem dX12_joyOf_57 : decode cX12_joyOf 57 = .ok (.getfield 90, 3) := by decide +kernel
theorem dX12_joyOf_60 : decode cX12_joyOf 60 = .ok (.iconst 3, 1) := by decide +kernel
theorem dX12_joyOf_61 : decode cX12_joyOf 61 = .ok (.aload_n 0, 1) := by decide +kernel
theorem dX12_joyOf_62 : decode cX12_joyOf 62 = .ok (.invokevirtual 407, 3) := by decide +kernel
theorem dX12_joyOf_65 : decode cX12_joyOf 65 = .ok (.iastore, 1) := by decide +kernel
theorem dX12_joyOf_66 : decode cX12_joyOf 66 = .ok (.aload_n 0, 1) := by decide +kernel
theorem dX12_joyOf_67 : decode cX12_joyOf 67 = .ok (.getfield 90, 3) := by decide +kernel
theorem dX12_joyOf_70 : decode cX12_joyOf 70 = .ok (.iconst 4, 1) := by decide +kernel
theorem dX12_joyOf_71 : decode cX12_joyOf 71 = .ok (.aload_n 0, 1) := by decide +kernel
theorem dX12_joyOf_72 : decode cX12_joyOf 72 = .ok (.getfield 147, 3) := by decide +kernel
theorem dX12_joyOf_75 : decode cX12_joyOf 75 = .ok (.iload_n 1, 1) := by decide +kernel
theorem dX12_joyOf_76 : decode cX12_joyOf 76 = .ok (.iaload, 1) := by decide +kernel
theorem dX12_joyOf_77 : decode cX12_joyOf 77 = .ok (.iastore, 1) := by decide +kernel
theorem dX12_joyOf_78 : decode cX12_joyOf 78 = .ok (.aload_n 0, 1) := by decide +kernel
theorem dX12_joyOf_79 : decode cX12_joyOf 79 = .ok (.iconst 0, 1) := by decide +kernel
theorem dX12_joyOf_80 : decode cX12_joyOf 80 = .ok (.invokevirtual 400, 3) := by decide +kernel
theorem dX12_joyOf_83 : decode cX12_joyOf 83 = .ok (.istore_n 3, 1) := by decide +kernel
theorem dX12_joyOf_84 : decode cX12_joyOf 84 = .ok (.iload_n 3, 1) := by decide +kernel
theorem dX12_joyOf_85 : decode cX12_joyOf 85 = .ok (.bipush (-99), 2) := by decide +kernel
theorem dX12_joyOf_87 : decode cX12_joyOf 87 = .ok (.bipush 99, 2) := by decide +kernel
theorem dX12_joyOf_89 : decode cX12_joyOf 89 = .ok (.invokestatic 403, 3) := by decide +kernel
theorem dX12_joyOf_92 : decode cX12_joyOf 92 = .ok (.ireturn, 1) := by decide +kernel
theorem dX12_passesMinute_0 : decode cX12_passesMinute 0 = .ok (.iload_n 2, 1) := by decide +kernel
theorem dX12_passesMinute_1 : decode cX12_passesMinute 1 = .ok (.istore_n 3, 1) := by decide +kernel
theorem dX12_passesMinute_2 : decode cX12_passesMinute 2 = .ok (.iconst 0, 1) := by decide +kernel
theorem dX12_passesMinute_3 : decode cX12_passesMinute 3 = .ok (.istore 4, 2) := by decide +kernel
theorem dX12_passesMinute_5 : decode cX12_passesMinute 5 = .ok (.iload 4, 2) := by decide +kernel
theorem dX12_passesMinute_7 : decode cX12_passesMinute 7 = .ok (.aload_n 0, 1) := by decide +kernel
theorem dX12_passesMinute_8 : decode cX12_passesMinute 8 = .ok (.getfield 13, 3) := by decide +kernel
theorem dX12_passesMinute_11 : decode cX12_passesMinute 11 = .ok (.iconst 1, 1) := by decide +kernel
theorem dX12_passesMinute_12 : decode cX12_passesMinute 12 = .ok (.iaload, 1) := by decide +kernel
theorem dX12_passesMinute_13 : decode cX12_passesMinute 13 = .ok (.if_icmp .ge 40, 3) := by decide +kernel
theorem dX12_passesMinute_16 : decode cX12_passesMinute 16 = .ok (.aload_n 0, 1) := by decide +kernel
theorem dX12_passesMinute_17 : decode cX12_passesMinute 17 = .ok (.getfield 132, 3) := by decide +kernel
theorem dX12_passesMinute_20 : decode cX12_passesMinute 20 = .ok (.iload 4, 2) := by decide +kernel
theorem dX12_passesMinute_22 : decode cX12_passesMinute 22 = .ok (.iaload, 1) := by decide +kernel
theorem dX12_passesMinute_23 : decode cX12_passesMinute 23 = .ok (.iload_n 1, 1) := by decide +kernel
theorem dX12_passesMinute_24 : decode cX12_passesMinute 24 = .ok (.if_icmp .ne 23, 3) := by decide +kernel
theorem dX12_passesMinute_27 : decode cX12_passesMinute 27 = .ok (.aload_n 0, 1) := by decide +kernel
theorem dX12_passesMinute_28 : decode cX12_passesMinute 28 = .ok (.getfield 422, 3) := by decide +kernel
theorem dX12_passesMinute_31 : decode cX12_passesMinute 31 = .ok (.iload 4, 2) := by decide +kernel
theorem dX12_passesMinute_33 : decode cX12_passesMinute 33 = .ok (.ishr, 1) := by decide +kernel
theorem dX12_passesMinute_34 : decode cX12_passesMinute 34 = .ok (.iconst 1, 1) := by decide +kernel
theorem dX12_passesMinute_35 : decode cX12_passesMinute 35 = .ok (.iand, 1) := by decide +kernel
theorem dX12_passesMinute_36 : decode cX12_passesMinute 36 = .ok (.ifCond .ne 11, 3) := by decide +kernel
theorem dX12_passesMinute_39 : decode cX12_passesMinute 39 = .ok (.aload_n 0, 1) := by decide +kernel
theorem dX12_passesMinute_40 : decode cX12_passesMinute 40 = .ok (.getfield 135, 3) := by decide +kernel
theorem dX12_passesMinute_43 : decode cX12_passesMinute 43 = .ok (.iload 4, 2) := by decide +kernel
theorem dX12_passesMinute_45 : decode cX12_passesMinute 45 = .ok (.iconst 1, 1) := by decide +kernel
theorem dX12_passesMinute_46 : decode cX12_passesMinute 46 = .ok (.iastore, 1) := by decide +kernel
theorem dX12_passesMinute_47 : decode cX12_passesMinute 47 = .ok (.iinc 4 1, 3) := by decide +kernel
theorem dX12_passesMinute_50 : decode cX12_passesMinute 50 = .ok (.goto (-45), 3) := by decide +kernel
theorem dX12_passesMinute_53 : decode cX12_passesMinute 53 = .ok (.iload_n 3, 1) := by decide +kernel
theorem dX12_passesMinute_54 : decode cX12_passesMinute 54 = .ok (.ifCond .lt 43, 3) := by decide +kernel
theorem dX12_passesMinute_57 : decode cX12_passesMinute 57 = .ok (.iload_n 1, 1) := by decide +kernel
theorem dX12_passesMinute_58 : decode cX12_passesMinute 58 = .ok (.aload_n 0, 1) := by decide +kernel
theorem dX12_passesMinute_59 : decode cX12_passesMinute 59 = .ok (.getfield 138, 3) := by decide +kernel
theorem dX12_passesMinute_62 : decode cX12_passesMinute 62 = .ok (.iload_n 3, 1) := by decide +kernel
theorem dX12_passesMinute_63 : decode cX12_passesMinute 63 = .ok (.iaload, 1) := by decide +kernel
theorem dX12_passesMinute_64 : decode cX12_passesMinute 64 = .ok (.isub, 1) := by decide +kernel
theorem dX12_passesMinute_65 : decode cX12_passesMinute 65 = .ok (.aload_n 0, 1) := by decide +kernel
theorem dX12_passesMinute_66 : decode cX12_passesMinute 66 = .ok (.iload_n 3, 1) := by decide +kernel
theorem dX12_passesMinute_67 : decode cX12_passesMinute 67 = .ok (.invokevirtual 397, 3) := by decide +kernel
theorem dX12_passesMinute_70 : decode cX12_passesMinute 70 = .ok (.if_icmp .ge 11, 3) := by decide +kernel
theorem dX12_passesMinute_73 : decode cX12_passesMinute 73 = .ok (.aload_n 0, 1) := by decide +kernel
theorem dX12_passesMinute_74 : decode cX12_passesMinute 74 = .ok (.iload_n 1, 1) := by decide +kernel
theorem dX12_passesMinute_75 : decode cX12_passesMinute 75 = .ok (.invokevirtual 425, 3) := by decide +kernel
theorem dX12_passesMinute_78 : decode cX12_passesMinute 78 = .ok (.ifCond .ne 19, 3) := by decide +kernel
theorem dX12_passesMinute_81 : decode cX12_passesMinute 81 = .ok (.aload_n 0, 1) := by decide +kernel
theorem dX12_passesMinute_82 : decode cX12_passesMinute 82 = .ok (.getfield 135, 3) := by decide +kernel
theorem dX12_passesMinute_85 : decode cX12_passesMinute 85 = .ok (.iload_n 3, 1) := by decide +kernel
theorem dX12_passesMinute_86 : decode cX12_passesMinute 86 = .ok (.iconst 3, 1) := by decide +kernel
theorem dX12_passesMinute_87 : decode cX12_passesMinute 87 = .ok (.iastore, 1) := by decide +kernel
theorem dX12_passesMinute_88 : decode cX12_passesMinute 88 = .ok (.aload_n 0, 1) := by decide +kernel
theorem dX12_passesMinute_89 : decode cX12_passesMinute 89 = .ok (.getfield 141, 3) := by decide +kernel
theorem dX12_passesMinute_92 : decode cX12_passesMinute 92 = .ok (.iload_n 3, 1) := by decide +kernel
theorem dX12_passesMinute_93 : decode cX12_passesMinute 93 = .ok (.iload_n 1, 1) := by decide +kernel
theorem dX12_passesMinute_94 : decode cX12_passesMinute 94 = .ok (.iastore, 1) := by decide +kernel
theorem dX12_passesMinute_95 : decode cX12_passesMinute 95 = .ok (.iconst (-1), 1) := by decide +kernel
theorem dX12_passesMinute_96 : decode cX12_passesMinute 96 = .ok (.istore_n 3, 1) := by decide +kernel
theorem dX12_passesMinute_97 : decode cX12_passesMinute 97 = .ok (.iconst 0, 1) := by decide +kernel
theorem dX12_passesMinute_98 : decode cX12_passesMinute 98 = .ok (.istore 4, 2) := by decide +kernel
theorem dX12_passesMinute_100 : decode cX12_passesMinute 100 = .ok (.iload 4, 2) := by decide +kernel
theorem dX12_passesMinute_102 : decode cX12_passesMinute 102 = .ok (.aload_n 0, 1) := by decide +kernel
theorem dX12_passesMinute_103 : decode cX12_passesMinute 103 = .ok (.getfield 13, 3) := by decide +kernel
theorem dX12_passesMinute_106 : decode cX12_passesMinute 106 = .ok (.iconst 1, 1) := by decide +kernel
theorem dX12_passesMinute_107 : decode cX12_passesMinute 107 = .ok (.iaload, 1) := by decide +kernel
theorem dX12_passesMinute_108 : decode cX12_passesMinute 108 = .ok (.if_icmp .ge 46, 3) := by decide +kernel
theorem dX12_passesMinute_111 : decode cX12_passesMinute 111 = .ok (.aload_n 0, 1) := by decide +kernel
theorem dX12_passesMinute_112 : decode cX12_passesMinute 112 = .ok (.getfield 135, 3) := by decide +kernel
theorem dX12_passesMinute_115 : decode cX12_passesMinute 115 = .ok (.iload 4, 2) := by decide +kernel
theorem dX12_passesMinute_117 : decode cX12_passesMinute 117 = .ok (.iaload, 1) := by decide +kernel
theorem dX12_passesMinute_118 : decode cX12_passesMinute 118 = .ok (.iconst 1, 1) := by decide +kernel
theorem dX12_passesMinute_119 : decode cX12_passesMinute 119 = .ok (.if_icmp .ne 29, 3) := by decide +kernel
theorem dX12_passesMinute_122 : decode cX12_passesMinute 122 = .ok (.iload_n 1, 1) := by decide +kernel
theorem dX12_passesMinute_123 : decode cX12_passesMinute 123 = .ok (.aload_n 0, 1) := by decide +kernel
theorem dX12_passesMinute_124 : decode cX12_passesMinute 124 = .ok (.getfield 132, 3) := by decide +kernel
theorem dX12_passesMinute_127 : decode cX12_passesMinute 127 = .ok (.iload 4, 2) := by decide +kernel
theorem dX12_passesMinute_129 : decode cX12_passesMinute 129 = .ok (.iaload, 1) := by decide +kernel
theorem dX12_passesMinute_130 : decode cX12_passesMinute 130 = .ok (.isub, 1) := by decide +kernel
theorem dX12_passesMinute_131 : decode cX12_passesMinute 131 = .ok (.aload_n 0, 1) := by decide +kernel
theorem dX12_passesMinute_132 : decode cX12_passesMinute 132 = .ok (.getfield 13, 3) := by decide +kernel
theorem dX12_passesMinute_135 : decode cX12_passesMinute 135 = .ok (.iconst 2, 1) := by decide +kernel
theorem dX12_passesMinute_136 : decode cX12_passesMinute 136 = .ok (.iaload, 1) := by decide +kernel
theorem dX12_passesMinute_137 : decode cX12_passesMinute 137 = .ok (.if_icmp .le 11, 3) := by decide +kernel
theorem dX12_passesMinute_140 : decode cX12_passesMinute 140 = .ok (.aload_n 0, 1) := by decide +kernel
theorem dX12_passesMinute_141 : decode cX12_passesMinute 141 = .ok (.getfield 135, 3) := by decide +kernel
theorem dX12_passesMinute_144 : decode cX12_passesMinute 144 = .ok (.iload 4, 2) := by decide +kernel
theorem dX12_passesMinute_146 : decode cX12_passesMinute 146 = .ok (.iconst 3, 1) := by decide +kernel
theorem dX12_passesMinute_147 : decode cX12_passesMinute 147 = .ok (.iastore, 1) := by decide +kernel
theorem dX12_passesMinute_148 : decode cX12_passesMinute 148 = .ok (.iinc 4 1, 3) := by decide +kernel
theorem dX12_passesMinute_151 : decode cX12_passesMinute 151 = .ok (.goto (-51), 3) := by decide +kernel
theorem dX12_passesMinute_154 : decode cX12_passesMinute 154 = .ok (.iload_n 3, 1) := by decide +kernel
theorem dX12_passesMinute_155 : decode cX12_passesMinute 155 = .ok (.ifCond .ge 26, 3) := by decide +kernel
theorem dX12_passesMinute_158 : decode cX12_passesMinute 158 = .ok (.aload_n 0, 1) := by decide +kernel
theorem dX12_passesMinute_159 : decode cX12_passesMinute 159 = .ok (.iload_n 1, 1) := by decide +kernel
theorem dX12_passesMinute_160 : decode cX12_passesMinute 160 = .ok (.invokevirtual 425, 3) := by decide +kernel
theorem dX12_passesMinute_163 : decode cX12_passesMinute 163 = .ok (.ifCond .eq 18, 3) := by decide +kernel
theorem dX12_passesMinute_166 : decode cX12_passesMinute 166 = .ok (.aload_n 0, 1) := by decide +kernel
theorem dX12_passesMinute_167 : decode cX12_passesMinute 167 = .ok (.invokevirtual 428, 3) := by decide +kernel
theorem dX12_passesMinute_170 : decode cX12_passesMinute 170 = .ok (.istore_n 3, 1) := by decide +kernel
theorem dX12_passesMinute_171 : decode cX12_passesMinute 171 = .ok (.iload_n 3, 1) := by decide +kernel
theorem dX12_passesMinute_172 : decode cX12_passesMinute 172 = .ok (.ifCond .lt 9, 3) := by decide +kernel
theorem dX12_passesMinute_175 : decode cX12_passesMinute 175 = .ok (.aload_n 0, 1) := by decide +kernel
theorem dX12_passesMinute_176 : decode cX12_passesMinute 176 = .ok (.iload_n 3, 1) := by decide +kernel
theorem dX12_passesMinute_177 : decode cX12_passesMinute 177 = .ok (.iload_n 1, 1) := by decide +kernel
theorem dX12_passesMinute_178 : decode cX12_passesMinute 178 = .ok (.invokevirtual 431, 3) := by decide +kernel
theorem dX12_passesMinute_181 : decode cX12_passesMinute 181 = .ok (.iload_n 3, 1) := by decide +kernel
theorem dX12_passesMinute_182 : decode cX12_passesMinute 182 = .ok (.ifCond .lt 17, 3) := by decide +kernel
theorem dX12_passesMinute_185 : decode cX12_passesMinute 185 = .ok (.aload_n 0, 1) := by decide +kernel
theorem dX12_passesMinute_186 : decode cX12_passesMinute 186 = .ok (.dup, 1) := by decide +kernel
theorem dX12_passesMinute_187 : decode cX12_passesMinute 187 = .ok (.getfield 434, 3) := by decide +kernel
theorem dX12_passesMinute_190 : decode cX12_passesMinute 190 = .ok (.aload_n 0, 1) := by decide +kernel
theorem dX12_passesMinute_191 : decode cX12_passesMinute 191 = .ok (.iload_n 3, 1) := by decide +kernel
theorem dX12_passesMinute_192 : decode cX12_passesMinute 192 = .ok (.invokevirtual 437, 3) := by decide +kernel
theorem dX12_passesMinute_195 : decode cX12_passesMinute 195 = .ok (.iadd, 1) := by decide +kernel
theorem dX12_passesMinute_196 : decode cX12_passesMinute 196 = .ok (.putfield 434, 3) := by decide +kernel
theorem dX12_passesMinute_199 : decode cX12_passesMinute 199 = .ok (.aload_n 0, 1) := by decide +kernel
theorem dX12_passesMinute_200 : decode cX12_passesMinute 200 = .ok (.getfield 144, 3) := by decide +kernel
theorem dX12_passesMinute_203 : decode cX12_passesMinute 203 = .ok (.iload_n 1, 1) := by decide +kernel
theorem dX12_passesMinute_204 : decode cX12_passesMinute 204 = .ok (.iload_n 3, 1) := by decide +kernel
theorem dX12_passesMinute_205 : decode cX12_passesMinute 205 = .ok (.iastore, 1) := by decide +kernel
theorem dX12_passesMinute_206 : decode cX12_passesMinute 206 = .ok (.iload_n 3, 1) := by decide +kernel
theorem dX12_passesMinute_207 : decode cX12_passesMinute 207 = .ok (.ireturn, 1) := by decide +kernel
theorem dX12_passesDay_0 : decode cX12_passesDay 0 = .ok (.aload_n 0, 1) := by decide +kernel
theorem dX12_passesDay_1 : decode cX12_passesDay 1 = .ok (.iconst 0, 1) := by decide +kernel
theorem dX12_passesDay_2 : decode cX12_passesDay 2 = .ok (.putfield 434, 3) := by decide +kernel
theorem dX12_passesDay_5 : decode cX12_passesDay 5 = .ok (.aload_n 0, 1) := by decide +kernel
theorem dX12_passesDay_6 : decode cX12_passesDay 6 = .ok (.iconst 0, 1) := by decide +kernel
theorem dX12_passesDay_7 : decode cX12_passesDay 7 = .ok (.putfield 416, 3) := by decide +kernel
theorem dX12_passesDay_10 : decode cX12_passesDay 10 = .ok (.iconst 0, 1) := by decide +kernel
theorem dX12_passesDay_11 : decode cX12_passesDay 11 = .ok (.istore_n 1, 1) := by decide +kernel
theorem dX12_passesDay_12 : decode cX12_passesDay 12 = .ok (.iload_n 1, 1) := by decide +kernel
theorem dX12_passesDay_13 : decode cX12_passesDay 13 = .ok (.bipush 7, 2) := by decide +kernel
theorem dX12_passesDay_15 : decode cX12_passesDay 15 = .ok (.if_icmp .ge 30, 3) := by decide +kernel
theorem dX12_passesDay_18 : decode cX12_passesDay 18 = .ok (.aload_n 0, 1) := by decide +kernel
theorem dX12_passesDay_19 : decode cX12_passesDay 19 = .ok (.getfield 135, 3) := by decide +kernel
theorem dX12_passesDay_22 : decode cX12_passesDay 22 = .ok (.iload_n 1, 1) := by decide +kernel
theorem dX12_passesDay_23 : decode cX12_passesDay 23 = .ok (.iconst 0, 1) := by decide +kernel
theorem dX12_passesDay_24 : decode cX12_passesDay 24 = .ok (.iastore, 1) := by decide +kernel
theorem dX12_passesDay_25 : decode cX12_passesDay 25 = .ok (.aload_n 0, 1) := by decide +kernel
theorem dX12_passesDay_26 : decode cX12_passesDay 26 = .ok (.getfield 138, 3) := by decide +kernel
theorem dX12_passesDay_29 : decode cX12_passesDay 29 = .ok (.iload_n 1, 1) := by decide +kernel
theorem dX12_passesDay_30 : decode cX12_passesDay 30 = .ok (.iconst (-1), 1) := by decide +kernel
theorem dX12_passesDay_31 : decode cX12_passesDay 31 = .ok (.iastore, 1) := by decide +kernel
theorem dX12_passesDay_32 : decode cX12_passesDay 32 = .ok (.aload_n 0, 1) := by decide +kernel
theorem dX12_passesDay_33 : decode cX12_passesDay 33 = .ok (.getfield 141, 3) := by decide +kernel
theorem dX12_passesDay_36 : decode cX12_passesDay 36 = .ok (.iload_n 1, 1) := by decide +kernel
theorem dX12_passesDay_37 : decode cX12_passesDay 37 = .ok (.iconst (-1), 1) := by decide +kernel
theorem dX12_passesDay_38 : decode cX12_passesDay 38 = .ok (.iastore, 1) := by decide +kernel
theorem dX12_passesDay_39 : decode cX12_passesDay 39 = .ok (.iinc 1 1, 3) := by decide +kernel
theorem dX12_passesDay_42 : decode cX12_passesDay 42 = .ok (.goto (-30), 3) := by decide +kernel
theorem dX12_passesDay_45 : decode cX12_passesDay 45 = .ok (.iconst (-1), 1) := by decide +kernel
theorem dX12_passesDay_46 : decode cX12_passesDay 46 = .ok (.istore_n 1, 1) := by decide +kernel
theorem dX12_passesDay_47 : decode cX12_passesDay 47 = .ok (.iconst 0, 1) := by decide +kernel
theorem dX12_passesDay_48 : decode cX12_passesDay 48 = .ok (.istore_n 2, 1) := by decide +kernel
theorem dX12_passesDay_49 : decode cX12_passesDay 49 = .ok (.iload_n 2, 1) := by decide +kernel
theorem dX12_passesDay_50 : decode cX12_passesDay 50 = .ok (.bipush 60, 2) := by decide +kernel
theorem dX12_passesDay_52 : decode cX12_passesDay 52 = .ok (.if_icmp .ge 16, 3) := by decide +kernel
theorem dX12_passesDay_55 : decode cX12_passesDay 55 = .ok (.aload_n 0, 1) := by decide +kernel
theorem dX12_passesDay_56 : decode cX12_passesDay 56 = .ok (.iload_n 2, 1) := by decide +kernel
theorem dX12_passesDay_57 : decode cX12_passesDay 57 = .ok (.iload_n 1, 1) := by decide +kernel
theorem dX12_passesDay_58 : decode cX12_passesDay 58 = .ok (.invokevirtual 440, 3) := by decide +kernel
theorem dX12_passesDay_61 : decode cX12_passesDay 61 = .ok (.istore_n 1, 1) := by decide +kernel
theorem dX12_passesDay_62 : decode cX12_passesDay 62 = .ok (.iinc 2 1, 3) := by decide +kernel
theorem dX12_passesDay_65 : decode cX12_passesDay 65 = .ok (.goto (-16), 3) := by decide +kernel
theorem dX12_passesDay_68 : decode cX12_passesDay 68 = .ok (.iload_n 1, 1) := by decide +kernel
theorem dX12_passesDay_69 : decode cX12_passesDay 69 = .ok (.ifCond .lt 11, 3) := by decide +kernel
theorem dX12_passesDay_72 : decode cX12_passesDay 72 = .ok (.aload_n 0, 1) := by decide +kernel
theorem dX12_passesDay_73 : decode cX12_passesDay 73 = .ok (.getfield 141, 3) := by decide +kernel
theorem dX12_passesDay_76 : decode cX12_passesDay 76 = .ok (.iload_n 1, 1) := by decide +kernel
theorem dX12_passesDay_77 : decode cX12_passesDay 77 = .ok (.bipush 60, 2) := by decide +kernel
theorem dX12_passesDay_79 : decode cX12_passesDay 79 = .ok (.iastore, 1) := by decide +kernel
theorem dX12_passesDay_80 : decode cX12_passesDay 80 = .ok (.aload_n 0, 1) := by decide +kernel
theorem dX12_passesDay_81 : decode cX12_passesDay 81 = .ok (.getfield 114, 3) := by decide +kernel
theorem dX12_passesDay_84 : decode cX12_passesDay 84 = .ok (.iconst 0, 1) := by decide +kernel
theorem dX12_passesDay_85 : decode cX12_passesDay 85 = .ok (.dup2, 1) := by decide +kernel
theorem dX12_passesDay_86 : decode cX12_passesDay 86 = .ok (.iaload, 1) := by decide +kernel
theorem dX12_passesDay_87 : decode cX12_passesDay 87 = .ok (.iconst 1, 1) := by decide +kernel
theorem dX12_passesDay_88 : decode cX12_passesDay 88 = .ok (.iadd, 1) := by decide +kernel
theorem dX12_passesDay_89 : decode cX12_passesDay 89 = .ok (.iastore, 1) := by decide +kernel
theorem dX12_passesDay_90 : decode cX12_passesDay 90 = .ok (.aload_n 0, 1) := by decide +kernel
theorem dX12_passesDay_91 : decode cX12_passesDay 91 = .ok (.getfield 434, 3) := by decide +kernel
theorem dX12_passesDay_94 : decode cX12_passesDay 94 = .ok (.ireturn, 1) := by decide +kernel
theorem dX12_passes_0 : decode cX12_passes 0 = .ok (.iconst 0, 1) := by decide +kernel
theorem dX12_passes_1 : decode cX12_passes 1 = .ok (.istore_n 1, 1) := by decide +kernel
theorem dX12_passes_2 : decode cX12_passes 2 = .ok (.iload_n 1, 1) := by decide +kernel
theorem dX12_passes_3 : decode cX12_passes 3 = .ok (.bipush 7, 2) := by decide +kernel
theorem dX12_passes_5 : decode cX12_passes 5 = .ok (.if_icmp .ge 21, 3) := by decide +kernel
theorem dX12_passes_8 : decode cX12_passes 8 = .ok (.aload_n 0, 1) := by decide +kernel
theorem dX12_passes_9 : decode cX12_passes 9 = .ok (.getfield 132, 3) := by decide +kernel
theorem dX12_passes_12 : decode cX12_passes 12 = .ok (.iload_n 1, 1) := by decide +kernel
theorem dX12_passes_13 : decode cX12_passes 13 = .ok (.aload_n 0, 1) := by decide +kernel
theorem dX12_passes_14 : decode cX12_passes 14 = .ok (.getfield 44, 3) := by decide +kernel
theorem dX12_passes_17 : decode cX12_passes 17 = .ok (.iload_n 1, 1) := by decide +kernel
theorem dX12_passes_18 : decode cX12_passes 18 = .ok (.iaload, 1) := by decide +kernel
theorem dX12_passes_19 : decode cX12_passes 19 = .ok (.iastore, 1) := by decide +kernel
theorem dX12_passes_20 : decode cX12_passes 20 = .ok (.iinc 1 1, 3) := by decide +kernel
theorem dX12_passes_23 : decode cX12_passes 23 = .ok (.goto (-21), 3) := by decide +kernel
theorem dX12_passes_26 : decode cX12_passes 26 = .ok (.aload_n 0, 1) := by decide +kernel
theorem dX12_passes_27 : decode cX12_passes 27 = .ok (.invokevirtual 443, 3) := by decide +kernel
theorem dX12_passes_30 : decode cX12_passes 30 = .ok (.ireturn, 1) := by decide +kernel
theorem dX12_tries_0 : decode cX12_tries 0 = .ok (.aload_n 0, 1) := by decide +kernel
theorem dX12_tries_1 : decode cX12_tries 1 = .ok (.getfield 114, 3) := by decide +kernel
theorem dX12_tries_4 : decode cX12_tries 4 = .ok (.iconst 0, 1) := by decide +kernel
theorem dX12_tries_5 : decode cX12_tries 5 = .ok (.aload_n 0, 1) := by decide +kernel
theorem dX12_tries_6 : decode cX12_tries 6 = .ok (.getfield 120, 3) := by decide +kernel
theorem dX12_tries_9 : decode cX12_tries 9 = .ok (.iconst 0, 1) := by decide +kernel
theorem dX12_tries_10 : decode cX12_tries 10 = .ok (.invokestatic 446, 3) := by decide +kernel
theorem dX12_tries_13 : decode cX12_tries 13 = .ok (.aload_n 0, 1) := by decide +kernel
theorem dX12_tries_14 : decode cX12_tries 14 = .ok (.invokevirtual 450, 3) := by decide +kernel
theorem dX12_tries_17 : decode cX12_tries 17 = .ok (.istore_n 1, 1) := by decide +kernel
theorem dX12_tries_18 : decode cX12_tries 18 = .ok (.aload_n 0, 1) := by decide +kernel
theorem dX12_tries_19 : decode cX12_tries 19 = .ok (.getfield 120, 3) := by decide +kernel
theorem dX12_tries_22 : decode cX12_tries 22 = .ok (.iconst 0, 1) := by decide +kernel
theorem dX12_tries_23 : decode cX12_tries 23 = .ok (.aload_n 0, 1) := by decide +kernel
theorem dX12_tries_24 : decode cX12_tries 24 = .ok (.getfield 114, 3) := by decide +kernel
theorem dX12_tries_27 : decode cX12_tries 27 = .ok (.iconst 0, 1) := by decide +kernel
theorem dX12_tries_28 : decode cX12_tries 28 = .ok (.invokestatic 446, 3) := by decide +kernel
theorem dX12_tries_31 : decode cX12_tries 31 = .ok (.iload_n 1, 1) := by decide +kernel
theorem dX12_tries_32 : decode cX12_tries 32 = .ok (.ireturn, 1) := by decide +kernel
theorem dX12_triesWithout_0 : decode cX12_triesWithout 0 = .ok (.aload_n 0, 1) := by decide +kernel
theorem dX12_triesWithout_1 : decode cX12_triesWithout 1 = .ok (.iload_n 1, 1) := by decide +kernel
theorem dX12_triesWithout_2 : decode cX12_triesWithout 2 = .ok (.putfield 422, 3) := by decide +kernel
theorem dX12_triesWithout_5 : decode cX12_triesWithout 5 = .ok (.aload_n 0, 1) := by decide +kernel
theorem dX12_triesWithout_6 : decode cX12_triesWithout 6 = .ok (.invokevirtual 453, 3) := by decide +kernel
theorem dX12_triesWithout_9 : decode cX12_triesWithout 9 = .ok (.istore_n 2, 1) := by decide +kernel
theorem dX12_triesWithout_10 : decode cX12_triesWithout 10 = .ok (.aload_n 0, 1) := by decide +kernel
theorem dX12_triesWithout_11 : decode cX12_triesWithout 11 = .ok (.iconst 0, 1) := by decide +kernel
theorem dX12_triesWithout_12 : decode cX12_triesWithout 12 = .ok (.putfield 422, 3) := by decide +kernel
theorem dX12_triesWithout_15 : decode cX12_triesWithout 15 = .ok (.iload_n 2, 1) := by decide +kernel
theorem dX12_triesWithout_16 : decode cX12_triesWithout 16 = .ok (.ireturn, 1) := by decide +kernel
theorem dX12_mends_0 : decode cX12_mends 0 = .ok (.iconst 0, 1) := by decide +kernel
theorem dX12_mends_1 : decode cX12_mends 1 = .ok (.istore_n 1, 1) := by decide +kernel
theorem dX12_mends_2 : decode cX12_mends 2 = .ok (.iconst 5, 1) := by decide +kernel
theorem dX12_mends_3 : decode cX12_mends 3 = .ok (.istore_n 2, 1) := by decide +kernel
theorem dX12_mends_4 : decode cX12_mends 4 = .ok (.iload_n 2, 1) := by decide +kernel
theorem dX12_mends_5 : decode cX12_mends 5 = .ok (.bipush 17, 2) := by decide +kernel
theorem dX12_mends_7 : decode cX12_mends 7 = .ok (.if_icmp .ge 39, 3) := by decide +kernel
theorem dX12_mends_10 : decode cX12_mends 10 = .ok (.aload_n 0, 1) := by decide +kernel
theorem dX12_mends_11 : decode cX12_mends 11 = .ok (.getfield 114, 3) := by decide +kernel
theorem dX12_mends_14 : decode cX12_mends 14 = .ok (.iload_n 2, 1) := by decide +kernel
theorem dX12_mends_15 : decode cX12_mends 15 = .ok (.iaload, 1) := by decide +kernel
theorem dX12_mends_16 : decode cX12_mends 16 = .ok (.bipush 9, 2) := by decide +kernel
theorem dX12_mends_18 : decode cX12_mends 18 = .ok (.if_icmp .ne 6, 3) := by decide +kernel
theorem dX12_mends_21 : decode cX12_mends 21 = .ok (.goto 19, 3) := by decide +kernel
theorem dX12_mends_24 : decode cX12_mends 24 = .ok (.iload_n 1, 1) := by decide +kernel
theorem dX12_mends_25 : decode cX12_mends 25 = .ok (.aload_n 0, 1) := by decide +kernel
theorem dX12_mends_26 : decode cX12_mends 26 = .ok (.getfield 114, 3) := by decide +kernel
theorem dX12_mends_29 : decode cX12_mends 29 = .ok (.iload_n 2, 1) := by decide +kernel
theorem dX12_mends_30 : decode cX12_mends 30 = .ok (.iaload, 1) := by decide +kernel
theorem dX12_mends_31 : decode cX12_mends 31 = .ok (.iadd, 1) := by decide +kernel
theorem dX12_mends_32 : decode cX12_mends 32 = .ok (.istore_n 1, 1) := by decide +kernel
theorem dX12_mends_33 : decode cX12_mends 33 = .ok (.aload_n 0, 1) := by decide +kernel
theorem dX12_mends_34 : decode cX12_mends 34 = .ok (.getfield 114, 3) := by decide +kernel
theorem dX12_mends_37 : decode cX12_mends 37 = .ok (.iload_n 2, 1) := by decide +kernel
theorem dX12_mends_38 : decode cX12_mends 38 = .ok (.iconst 0, 1) := by decide +kernel
theorem dX12_mends_39 : decode cX12_mends 39 = .ok (.iastore, 1) := by decide +kernel
theorem dX12_mends_40 : decode cX12_mends 40 = .ok (.iinc 2 1, 3) := by decide +kernel
theorem dX12_mends_43 : decode cX12_mends 43 = .ok (.goto (-39), 3) := by decide +kernel
theorem dX12_mends_46 : decode cX12_mends 46 = .ok (.aload_n 0, 1) := by decide +kernel
theorem dX12_mends_47 : decode cX12_mends 47 = .ok (.getfield 114, 3) := by decide +kernel
theorem dX12_mends_50 : decode cX12_mends 50 = .ok (.iconst 4, 1) := by decide +kernel
theorem dX12_mends_51 : decode cX12_mends 51 = .ok (.dup2, 1) := by decide +kernel
theorem dX12_mends_52 : decode cX12_mends 52 = .ok (.iaload, 1) := by decide +kernel
theorem dX12_mends_53 : decode cX12_mends 53 = .ok (.aload_n 0, 1) := by decide +kernel
theorem dX12_mends_54 : decode cX12_mends 54 = .ok (.getfield 13, 3) := by decide +kernel
theorem dX12_mends_57 : decode cX12_mends 57 = .ok (.bipush 6, 2) := by decide +kernel
theorem dX12_mends_59 : decode cX12_mends 59 = .ok (.iaload, 1) := by decide +kernel
theorem dX12_mends_60 : decode cX12_mends 60 = .ok (.iadd, 1) := by decide +kernel
theorem dX12_mends_61 : decode cX12_mends 61 = .ok (.iastore, 1) := by decide +kernel
theorem dX12_mends_62 : decode cX12_mends 62 = .ok (.iload_n 1, 1) := by decide +kernel
theorem dX12_mends_63 : decode cX12_mends 63 = .ok (.ireturn, 1) := by decide +kernel
theorem dX12_goneKeys_0 : decode cX12_goneKeys 0 = .ok (.iconst 0, 1) := by decide +kernel
theorem dX12_goneKeys_1 : decode cX12_goneKeys 1 = .ok (.istore_n 1, 1) := by decide +kernel
theorem dX12_goneKeys_2 : decode cX12_goneKeys 2 = .ok (.iconst 0, 1) := by decide +kernel
theorem dX12_goneKeys_3 : decode cX12_goneKeys 3 = .ok (.istore_n 2, 1) := by decide +kernel
theorem dX12_goneKeys_4 : decode cX12_goneKeys 4 = .ok (.iload_n 2, 1) := by decide +kernel
theorem dX12_goneKeys_5 : decode cX12_goneKeys 5 = .ok (.bipush 12, 2) := by decide +kernel
theorem dX12_goneKeys_7 : decode cX12_goneKeys 7 = .ok (.if_icmp .ge 32, 3) := by decide +kernel
theorem dX12_goneKeys_10 : decode cX12_goneKeys 10 = .ok (.iload_n 1, 1) := by decide +kernel
theorem dX12_goneKeys_11 : decode cX12_goneKeys 11 = .ok (.aload_n 0, 1) := by decide +kernel
theorem dX12_goneKeys_12 : decode cX12_goneKeys 12 = .ok (.getfield 114, 3) := by decide +kernel
theorem dX12_goneKeys_15 : decode cX12_goneKeys 15 = .ok (.iconst 5, 1) := by decide +kernel
theorem dX12_goneKeys_16 : decode cX12_goneKeys 16 = .ok (.iload_n 2, 1) := by decide +kernel
theorem dX12_goneKeys_17 : decode cX12_goneKeys 17 = .ok (.iadd, 1) := by decide +kernel
theorem dX12_goneKeys_18 : decode cX12_goneKeys 18 = .ok (.iaload, 1) := by decide +kernel
theorem dX12_goneKeys_19 : decode cX12_goneKeys 19 = .ok (.bipush 9, 2) := by decide +kernel
theorem dX12_goneKeys_21 : decode cX12_goneKeys 21 = .ok (.if_icmp .ne 9, 3) := by decide +kernel
theorem dX12_goneKeys_24 : decode cX12_goneKeys 24 = .ok (.iconst 1, 1) := by decide +kernel
theorem dX12_goneKeys_25 : decode cX12_goneKeys 25 = .ok (.iload_n 2, 1) := by decide +kernel
theorem dX12_goneKeys_26 : decode cX12_goneKeys 26 = .ok (.ishl, 1) := by decide +kernel
theorem dX12_goneKeys_27 : decode cX12_goneKeys 27 = .ok (.goto 4, 3) := by decide +kernel
theorem dX12_goneKeys_30 : decode cX12_goneKeys 30 = .ok (.iconst 0, 1) := by decide +kernel
theorem dX12_goneKeys_31 : decode cX12_goneKeys 31 = .ok (.ior, 1) := by decide +kernel
theorem dX12_goneKeys_32 : decode cX12_goneKeys 32 = .ok (.istore_n 1, 1) := by decide +kernel
theorem dX12_goneKeys_33 : decode cX12_goneKeys 33 = .ok (.iinc 2 1, 3) := by decide +kernel
theorem dX12_goneKeys_36 : decode cX12_goneKeys 36 = .ok (.goto (-32), 3) := by decide +kernel
theorem dX12_goneKeys_39 : decode cX12_goneKeys 39 = .ok (.iload_n 1, 1) := by decide +kernel
theorem dX12_goneKeys_40 : decode cX12_goneKeys 40 = .ok (.ireturn, 1) := by decide +kernel
theorem dX12_passer_0 : decode cX12_passer 0 = .ok (.aload_n 0, 1) := by decide +kernel
theorem dX12_passer_1 : decode cX12_passer 1 = .ok (.iconst 0, 1) := by decide +kernel
theorem dX12_passer_2 : decode cX12_passer 2 = .ok (.putfield 160, 3) := by decide +kernel
theorem dX12_passer_5 : decode cX12_passer 5 = .ok (.aload_n 0, 1) := by decide +kernel
theorem dX12_passer_6 : decode cX12_passer 6 = .ok (.iload_n 1, 1) := by decide +kernel
theorem dX12_passer_7 : decode cX12_passer 7 = .ok (.invokevirtual 456, 3) := by decide +kernel
theorem dX12_passer_10 : decode cX12_passer 10 = .ok (.ifCond .eq 12, 3) := by decide +kernel
theorem dX12_passer_13 : decode cX12_passer 13 = .ok (.iload_n 2, 1) := by decide +kernel
theorem dX12_passer_14 : decode cX12_passer 14 = .ok (.iconst 0, 1) := by decide +kernel
theorem dX12_passer_15 : decode cX12_passer 15 = .ok (.iconst 5, 1) := by decide +kernel
theorem dX12_passer_16 : decode cX12_passer 16 = .ok (.invokestatic 293, 3) := by decide +kernel
theorem dX12_passer_19 : decode cX12_passer 19 = .ok (.ifCond .ne 5, 3) := by decide +kernel
theorem dX12_passer_22 : decode cX12_passer 22 = .ok (.iconst (-1), 1) := by decide +kernel
theorem dX12_passer_23 : decode cX12_passer 23 = .ok (.ireturn, 1) := by decide +kernel
theorem dX12_passer_24 : decode cX12_passer 24 = .ok (.iload_n 2, 1) := by decide +kernel
theorem dX12_passer_25 : decode cX12_passer 25 = .ok (.iconst 2, 1) := by decide +kernel
theorem dX12_passer_26 : decode cX12_passer 26 = .ok (.if_icmp .ge 23, 3) := by decide +kernel
theorem dX12_passer_29 : decode cX12_passer 29 = .ok (.iload_n 2, 1) := by decide +kernel
theorem dX12_passer_30 : decode cX12_passer 30 = .ok (.ifCond .ne 12, 3) := by decide +kernel
theorem dX12_passer_33 : decode cX12_passer 33 = .ok (.aload_n 0, 1) := by decide +kernel
theorem dX12_passer_34 : decode cX12_passer 34 = .ok (.getfield 29, 3) := by decide +kernel
theorem dX12_passer_37 : decode cX12_passer 37 = .ok (.iload_n 1, 1) := by decide +kernel
theorem dX12_passer_38 : decode cX12_passer 38 = .ok (.iaload, 1) := by decide +kernel
theorem dX12_passer_39 : decode cX12_passer 39 = .ok (.goto 9, 3) := by decide +kernel
theorem dX12_passer_42 : decode cX12_passer 42 = .ok (.aload_n 0, 1) := by decide +kernel
theorem dX12_passer_43 : decode cX12_passer 43 = .ok (.getfield 32, 3) := by decide +kernel
theorem dX12_passer_46 : decode cX12_passer 46 = .ok (.iload_n 1, 1) := by decide +kernel
theorem dX12_passer_47 : decode cX12_passer 47 = .ok (.iaload, 1) := by decide +kernel
theorem dX12_passer_48 : decode cX12_passer 48 = .ok (.ireturn, 1) := by decide +kernel
theorem dX12_passer_49 : decode cX12_passer 49 = .ok (.iload_n 2, 1) := by decide +kernel
theorem dX12_passer_50 : decode cX12_passer 50 = .ok (.iconst 4, 1) := by decide +kernel
theorem dX12_passer_51 : decode cX12_passer 51 = .ok (.if_icmp .ge 24, 3) := by decide +kernel
theorem dX12_passer_54 : decode cX12_passer 54 = .ok (.iload_n 2, 1) := by decide +kernel
theorem dX12_passer_55 : decode cX12_passer 55 = .ok (.iconst 2, 1) := by decide +kernel
theorem dX12_passer_56 : decode cX12_passer 56 = .ok (.if_icmp .ne 12, 3) := by decide +kernel
theorem dX12_passer_59 : decode cX12_passer 59 = .ok (.aload_n 0, 1) := by decide +kernel
theorem dX12_passer_60 : decode cX12_passer 60 = .ok (.getfield 35, 3) := by decide +kernel
theorem dX12_passer_63 : decode cX12_passer 63 = .ok (.iload_n 1, 1) := by decide +kernel
theorem dX12_passer_64 : decode cX12_passer 64 = .ok (.iaload, 1) := by decide +kernel
theorem dX12_passer_65 : decode cX12_passer 65 = .ok (.goto 9, 3) := by decide +kernel
theorem dX12_passer_68 : decode cX12_passer 68 = .ok (.aload_n 0, 1) := by decide +kernel
theorem dX12_passer_69 : decode cX12_passer 69 = .ok (.getfield 38, 3) := by decide +kernel
theorem dX12_passer_72 : decode cX12_passer 72 = .ok (.iload_n 1, 1) := by decide +kernel
theorem dX12_passer_73 : decode cX12_passer 73 = .ok (.iaload, 1) := by decide +kernel
theorem dX12_passer_74 : decode cX12_passer 74 = .ok (.ireturn, 1) := by decide +kernel
theorem dX12_passer_75 : decode cX12_passer 75 = .ok (.iload_n 2, 1) := by decide +kernel
theorem dX12_passer_76 : decode cX12_passer 76 = .ok (.iconst 4, 1) := by decide +kernel
theorem dX12_passer_77 : decode cX12_passer 77 = .ok (.if_icmp .ne 11, 3) := by decide +kernel
theorem dX12_passer_80 : decode cX12_passer 80 = .ok (.aload_n 0, 1) := by decide +kernel
theorem dX12_passer_81 : decode cX12_passer 81 = .ok (.iload_n 1, 1) := by decide +kernel
theorem dX12_passer_82 : decode cX12_passer 82 = .ok (.invokevirtual 397, 3) := by decide +kernel
theorem dX12_passer_85 : decode cX12_passer 85 = .ok (.goto 9, 3) := by decide +kernel
theorem dX12_passer_88 : decode cX12_passer 88 = .ok (.aload_n 0, 1) := by decide +kernel
theorem dX12_passer_89 : decode cX12_passer 89 = .ok (.getfield 44, 3) := by decide +kernel
theorem dX12_passer_92 : decode cX12_passer 92 = .ok (.iload_n 1, 1) := by decide +kernel
theorem dX12_passer_93 : decode cX12_passer 93 = .ok (.iaload, 1) := by decide +kernel
theorem dX12_passer_94 : decode cX12_passer 94 = .ok (.ireturn, 1) := by decide +kernel
theorem dX12_tune_0 : decode cX12_tune 0 = .ok (.aload_n 0, 1) := by decide +kernel
theorem dX12_tune_1 : decode cX12_tune 1 = .ok (.iconst 0, 1) := by decide +kernel
theorem dX12_tune_2 : decode cX12_tune 2 = .ok (.putfield 160, 3) := by decide +kernel
theorem dX12_tune_5 : decode cX12_tune 5 = .ok (.iload_n 1, 1) := by decide +kernel
theorem dX12_tune_6 : decode cX12_tune 6 = .ok (.ifCond .lt 41, 3) := by decide +kernel
theorem dX12_tune_9 : decode cX12_tune 9 = .ok (.iload_n 1, 1) := by decide +kernel
theorem dX12_tune_10 : decode cX12_tune 10 = .ok (.aload_n 0, 1) := by decide +kernel
theorem dX12_tune_11 : decode cX12_tune 11 = .ok (.getfield 13, 3) := by decide +kernel
theorem dX12_tune_14 : decode cX12_tune 14 = .ok (.iconst 0, 1) := by decide +kernel
theorem dX12_tune_15 : decode cX12_tune 15 = .ok (.iaload, 1) := by decide +kernel
theorem dX12_tune_16 : decode cX12_tune 16 = .ok (.if_icmp .ge 31, 3) := by decide +kernel
theorem dX12_tune_19 : decode cX12_tune 19 = .ok (.iload_n 2, 1) := by decide +kernel
theorem dX12_tune_20 : decode cX12_tune 20 = .ok (.ifCond .lt 27, 3) := by decide +kernel
theorem dX12_tune_23 : decode cX12_tune 23 = .ok (.iload_n 2, 1) := by decide +kernel
theorem dX12_tune_24 : decode cX12_tune 24 = .ok (.aload_n 0, 1) := by decide +kernel
theorem dX12_tune_25 : decode cX12_tune 25 = .ok (.getfield 26, 3) := by decide +kernel
theorem dX12_tune_28 : decode cX12_tune 28 = .ok (.iload_n 1, 1) := by decide +kernel
theorem dX12_tune_29 : decode cX12_tune 29 = .ok (.iaload, 1) := by decide +kernel
theorem dX12_tune_30 : decode cX12_tune 30 = .ok (.if_icmp .ge 17, 3) := by decide +kernel
theorem dX12_tune_33 : decode cX12_tune 33 = .ok (.aload_n 0, 1) := by decide +kernel
theorem dX12_tune_34 : decode cX12_tune 34 = .ok (.getfield 23, 3) := by decide +kernel
theorem dX12_tune_37 : decode cX12_tune 37 = .ok (.bipush 9, 2) := by decide +kernel
theorem dX12_tune_39 : decode cX12_tune 39 = .ok (.iload_n 1, 1) := by decide +kernel
theorem dX12_tune_40 : decode cX12_tune 40 = .ok (.imul, 1) := by decide +kernel
theorem dX12_tune_41 : decode cX12_tune 41 = .ok (.iload_n 2, 1) := by decide +kernel
theorem dX12_tune_42 : decode cX12_tune 42 = .ok (.iadd, 1) := by decide +kernel
theorem dX12_tune_43 : decode cX12_tune 43 = .ok (.iaload, 1) := by decide +kernel
theorem dX12_tune_44 : decode cX12_tune 44 = .ok (.goto 4, 3) := by decide +kernel
theorem dX12_tune_47 : decode cX12_tune 47 = .ok (.iconst (-1), 1) := by decide +kernel
theorem dX12_tune_48 : decode cX12_tune 48 = .ok (.ireturn, 1) := by decide +kernel
theorem dX12_key_0 : decode cX12_key 0 = .ok (.aload_n 0, 1) := by decide +kernel
theorem dX12_key_1 : decode cX12_key 1 = .ok (.iconst 0, 1) := by decide +kernel
theorem dX12_key_2 : decode cX12_key 2 = .ok (.putfield 160, 3) := by decide +kernel
theorem dX12_key_5 : decode cX12_key 5 = .ok (.aload_n 0, 1) := by decide +kernel
theorem dX12_key_6 : decode cX12_key 6 = .ok (.iload_n 1, 1) := by decide +kernel
theorem dX12_key_7 : decode cX12_key 7 = .ok (.invokevirtual 459, 3) := by decide +kernel
theorem dX12_key_10 : decode cX12_key 10 = .ok (.ifCond .eq 14, 3) := by decide +kernel
theorem dX12_key_13 : decode cX12_key 13 = .ok (.aload_n 0, 1) := by decide +kernel
theorem dX12_key_14 : decode cX12_key 14 = .ok (.getfield 114, 3) := by decide +kernel
theorem dX12_key_17 : decode cX12_key 17 = .ok (.iconst 5, 1) := by decide +kernel
theorem dX12_key_18 : decode cX12_key 18 = .ok (.iload_n 1, 1) := by decide +kernel
theorem dX12_key_19 : decode cX12_key 19 = .ok (.iadd, 1) := by decide +kernel
theorem dX12_key_20 : decode cX12_key 20 = .ok (.iaload, 1) := by decide +kernel
theorem dX12_key_21 : decode cX12_key 21 = .ok (.goto 4, 3) := by decide +kernel
theorem dX12_key_24 : decode cX12_key 24 = .ok (.iconst (-1), 1) := by decide +kernel
theorem dX12_key_25 : decode cX12_key 25 = .ok (.ireturn, 1) := by decide +kernel
theorem dX12_begins_0 : decode cX12_begins 0 = .ok (.aload_n 0, 1) := by decide +kernel
theorem dX12_begins_1 : decode cX12_begins 1 = .ok (.iconst 0, 1) := by decide +kernel
theorem dX12_begins_2 : decode cX12_begins 2 = .ok (.putfield 160, 3) := by decide +kernel
theorem dX12_begins_5 : decode cX12_begins 5 = .ok (.aload_n 0, 1) := by decide +kernel
theorem dX12_begins_6 : decode cX12_begins 6 = .ok (.iload_n 1, 1) := by decide +kernel
theorem dX12_begins_7 : decode cX12_begins 7 = .ok (.invokevirtual 456, 3) := by decide +kernel
theorem dX12_begins_10 : decode cX12_begins 10 = .ok (.ifCond .ne 5, 3) := by decide +kernel
theorem dX12_begins_13 : decode cX12_begins 13 = .ok (.iconst (-1), 1) := by decide +kernel
theorem dX12_begins_14 : decode cX12_begins 14 = .ok (.ireturn, 1) := by decide +kernel
theorem dX12_begins_15 : decode cX12_begins 15 = .ok (.aload_n 0, 1) := by decide +kernel
theorem dX12_begins_16 : decode cX12_begins 16 = .ok (.invokevirtual 453, 3) := by decide +kernel
theorem dX12_begins_19 : decode cX12_begins 19 = .ok (.pop, 1) := by decide +kernel
theorem dX12_begins_20 : decode cX12_begins 20 = .ok (.aload_n 0, 1) := by decide +kernel
theorem dX12_begins_21 : decode cX12_begins 21 = .ok (.getfield 138, 3) := by decide +kernel
theorem dX12_begins_24 : decode cX12_begins 24 = .ok (.iload_n 1, 1) := by decide +kernel
theorem dX12_begins_25 : decode cX12_begins 25 = .ok (.iaload, 1) := by decide +kernel
theorem dX12_begins_26 : decode cX12_begins 26 = .ok (.ireturn, 1) := by decide +kernel
theorem dX12_ends_0 : decode cX12_ends 0 = .ok (.aload_n 0, 1) := by decide +kernel
theorem dX12_ends_1 : decode cX12_ends 1 = .ok (.iconst 0, 1) := by decide +kernel
theorem dX12_ends_2 : decode cX12_ends 2 = .ok (.putfield 160, 3) := by decide +kernel
theorem dX12_ends_5 : decode cX12_ends 5 = .ok (.aload_n 0, 1) := by decide +kernel
theorem dX12_ends_6 : decode cX12_ends 6 = .ok (.iload_n 1, 1) := by decide +kernel
theorem dX12_ends_7 : decode cX12_ends 7 = .ok (.invokevirtual 456, 3) := by decide +kernel
theorem dX12_ends_10 : decode cX12_ends 10 = .ok (.ifCond .ne 5, 3) := by decide +kernel
theorem dX12_ends_13 : decode cX12_ends 13 = .ok (.iconst (-1), 1) := by decide +kernel
theorem dX12_ends_14 : decode cX12_ends 14 = .ok (.ireturn, 1) := by decide +kernel
theorem dX12_ends_15 : decode cX12_ends 15 = .ok (.aload_n 0, 1) := by decide +kernel
theorem dX12_ends_16 : decode cX12_ends 16 = .ok (.invokevirtual 453, 3) := by decide +kernel
theorem dX12_ends_19 : decode cX12_ends 19 = .ok (.pop, 1) := by decide +kernel
theorem dX12_ends_20 : decode cX12_ends 20 = .ok (.aload_n 0, 1) := by decide +kernel
theorem dX12_ends_21 : decode cX12_ends 21 = .ok (.getfield 141, 3) := by decide +kernel
theorem dX12_ends_24 : decode cX12_ends 24 = .ok (.iload_n 1, 1) := by decide +kernel
theorem dX12_ends_25 : decode cX12_ends 25 = .ok (.iaload, 1) := by decide +kernel
theorem dX12_ends_26 : decode cX12_ends 26 = .ok (.ireturn, 1) := by decide +kernel
theorem dX12_now_0 : decode cX12_now 0 = .ok (.aload_n 0, 1) := by decide +kernel
theorem dX12_now_1 : decode cX12_now 1 = .ok (.iconst 0, 1) := by decide +kernel
theorem dX12_now_2 : decode cX12_now 2 = .ok (.putfield 160, 3) := by decide +kernel
theorem dX12_now_5 : decode cX12_now 5 = .ok (.iload_n 1, 1) := by decide +kernel
theorem dX12_now_6 : decode cX12_now 6 = .ok (.iconst 0, 1) := by decide +kernel
theorem dX12_now_7 : decode cX12_now 7 = .ok (.bipush 59, 2) := by decide +kernel
theorem dX12_now_9 : decode cX12_now 9 = .ok (.invokestatic 293, 3) := by decide +kernel
theorem dX12_now_12 : decode cX12_now 12 = .ok (.ifCond .ne 5, 3) := by decide +kernel
theorem dX12_now_15 : decode cX12_now 15 = .ok (.iconst (-1), 1) := by decide +kernel
theorem dX12_now_16 : decode cX12_now 16 = .ok (.ireturn, 1) := by decide +kernel
theorem dX12_now_17 : decode cX12_now 17 = .ok (.aload_n 0, 1) := by decide +kernel
theorem dX12_now_18 : decode cX12_now 18 = .ok (.invokevirtual 453, 3) := by decide +kernel
theorem dX12_now_21 : decode cX12_now 21 = .ok (.pop, 1) := by decide +kernel
theorem dX12_now_22 : decode cX12_now 22 = .ok (.aload_n 0, 1) := by decide +kernel
theorem dX12_now_23 : decode cX12_now 23 = .ok (.getfield 144, 3) := by decide +kernel
theorem dX12_now_26 : decode cX12_now 26 = .ok (.iload_n 1, 1) := by decide +kernel
theorem dX12_now_27 : decode cX12_now 27 = .ok (.iaload, 1) := by decide +kernel
theorem dX12_now_28 : decode cX12_now 28 = .ok (.ireturn, 1) := by decide +kernel
theorem dX12_away_0 : decode cX12_away 0 = .ok (.aload_n 0, 1) := by decide +kernel
theorem dX12_away_1 : decode cX12_away 1 = .ok (.iconst 0, 1) := by decide +kernel
theorem dX12_away_2 : decode cX12_away 2 = .ok (.putfield 160, 3) := by decide +kernel
theorem dX12_away_5 : decode cX12_away 5 = .ok (.aload_n 0, 1) := by decide +kernel
theorem dX12_away_6 : decode cX12_away 6 = .ok (.invokevirtual 453, 3) := by decide +kernel
theorem dX12_away_9 : decode cX12_away 9 = .ok (.pop, 1) := by decide +kernel
theorem dX12_away_10 : decode cX12_away 10 = .ok (.iconst 0, 1) := by decide +kernel
theorem dX12_away_11 : decode cX12_away 11 = .ok (.istore_n 1, 1) := by decide +kernel
theorem dX12_away_12 : decode cX12_away 12 = .ok (.iconst 0, 1) := by decide +kernel
theorem dX12_away_13 : decode cX12_away 13 = .ok (.istore_n 2, 1) := by decide +kernel
theorem dX12_away_14 : decode cX12_away 14 = .ok (.iload_n 2, 1) := by decide +kernel
theorem dX12_away_15 : decode cX12_away 15 = .ok (.aload_n 0, 1) := by decide +kernel
theorem dX12_away_16 : decode cX12_away 16 = .ok (.getfield 13, 3) := by decide +kernel
theorem dX12_away_19 : decode cX12_away 19 = .ok (.iconst 1, 1) := by decide +kernel
theorem dX12_away_20 : decode cX12_away 20 = .ok (.iaload, 1) := by decide +kernel
theorem dX12_away_21 : decode cX12_away 21 = .ok (.if_icmp .ge 28, 3) := by decide +kernel
theorem dX12_away_24 : decode cX12_away 24 = .ok (.iload_n 1, 1) := by decide +kernel
theorem dX12_away_25 : decode cX12_away 25 = .ok (.aload_n 0, 1) := by decide +kernel
theorem dX12_away_26 : decode cX12_away 26 = .ok (.getfield 138, 3) := by decide +kernel
theorem dX12_away_29 : decode cX12_away 29 = .ok (.iload_n 2, 1) := by decide +kernel
theorem dX12_away_30 : decode cX12_away 30 = .ok (.iaload, 1) := by decide +kernel
theorem dX12_away_31 : decode cX12_away 31 = .ok (.ifCond .ge 9, 3) := by decide +kernel
theorem dX12_away_34 : decode cX12_away 34 = .ok (.iconst 1, 1) := by decide +kernel
theorem dX12_away_35 : decode cX12_away 35 = .ok (.iload_n 2, 1) := by decide +kernel
theorem dX12_away_36 : decode cX12_away 36 = .ok (.ishl, 1) := by decide +kernel
theorem dX12_away_37 : decode cX12_away 37 = .ok (.goto 4, 3) := by decide +kernel
theorem dX12_away_40 : decode cX12_away 40 = .ok (.iconst 0, 1) := by decide +kernel
theorem dX12_away_41 : decode cX12_away 41 = .ok (.ior, 1) := by decide +kernel
theorem dX12_away_42 : decode cX12_away 42 = .ok (.istore_n 1, 1) := by decide +kernel
theorem dX12_away_43 : decode cX12_away 43 = .ok (.iinc 2 1, 3) := by decide +kernel
theorem dX12_away_46 : decode cX12_away 46 = .ok (.goto (-32), 3) := by decide +kernel
theorem dX12_away_49 : decode cX12_away 49 = .ok (.iload_n 1, 1) := by decide +kernel
theorem dX12_away_50 : decode cX12_away 50 = .ok (.ireturn, 1) := by decide +kernel
theorem dX12_joy_0 : decode cX12_joy 0 = .ok (.aload_n 0, 1) := by decide +kernel
theorem dX12_joy_1 : decode cX12_joy 1 = .ok (.iconst 0, 1) := by decide +kernel
theorem dX12_joy_2 : decode cX12_joy 2 = .ok (.putfield 160, 3) := by decide +kernel
theorem dX12_joy_5 : decode cX12_joy 5 = .ok (.aload_n 0, 1) := by decide +kernel
theorem dX12_joy_6 : decode cX12_joy 6 = .ok (.invokevirtual 453, 3) := by decide +kernel
theorem dX12_joy_9 : decode cX12_joy 9 = .ok (.ireturn, 1) := by decide +kernel
theorem dX12_keeps_0 : decode cX12_keeps 0 = .ok (.aload_n 0, 1) := by decide +kernel
theorem dX12_keeps_1 : decode cX12_keeps 1 = .ok (.getfield 372, 3) := by decide +kernel
theorem dX12_keeps_4 : decode cX12_keeps 4 = .ok (.bipush 16, 2) := by decide +kernel
theorem dX12_keeps_6 : decode cX12_keeps 6 = .ok (.if_icmp .ne 43, 3) := by decide +kernel
theorem dX12_keeps_9 : decode cX12_keeps 9 = .ok (.iconst 0, 1) := by decide +kernel
theorem dX12_keeps_10 : decode cX12_keeps 10 = .ok (.istore_n 1, 1) := by decide +kernel
theorem dX12_keeps_11 : decode cX12_keeps 11 = .ok (.iload_n 1, 1) := by decide +kernel
theorem dX12_keeps_12 : decode cX12_keeps 12 = .ok (.sipush 255, 3) := by decide +kernel
theorem dX12_keeps_15 : decode cX12_keeps 15 = .ok (.if_icmp .ge 24, 3) := by decide +kernel
theorem dX12_keeps_18 : decode cX12_keeps 18 = .ok (.aload_n 0, 1) := by decide +kernel
theorem dX12_keeps_19 : decode cX12_keeps 19 = .ok (.getfield 126, 3) := by decide +kernel
theorem dX12_keeps_22 : decode cX12_keeps 22 = .ok (.iload_n 1, 1) := by decide +kernel
theorem dX12_keeps_23 : decode cX12_keeps 23 = .ok (.aload_n 0, 1) := by decide +kernel
theorem dX12_keeps_24 : decode cX12_keeps 24 = .ok (.getfield 126, 3) := by decide +kernel
theorem dX12_keeps_27 : decode cX12_keeps 27 = .ok (.iload_n 1, 1) := by decide +kernel
theorem dX12_keeps_28 : decode cX12_keeps 28 = .ok (.bipush 17, 2) := by decide +kernel
theorem dX12_keeps_30 : decode cX12_keeps 30 = .ok (.iadd, 1) := by decide +kernel
theorem dX12_keeps_31 : decode cX12_keeps 31 = .ok (.iaload, 1) := by decide +kernel
theorem dX12_keeps_32 : decode cX12_keeps 32 = .ok (.iastore, 1) := by decide +kernel
theorem dX12_keeps_33 : decode cX12_keeps 33 = .ok (.iinc 1 1, 3) := by decide +kernel
theorem dX12_keeps_36 : decode cX12_keeps 36 = .ok (.goto (-25), 3) := by decide +kernel
theorem dX12_keeps_39 : decode cX12_keeps 39 = .ok (.aload_n 0, 1) := by decide +kernel
theorem dX12_keeps_40 : decode cX12_keeps 40 = .ok (.dup, 1) := by decide +kernel
theorem dX12_keeps_41 : decode cX12_keeps 41 = .ok (.getfield 372, 3) := by decide +kernel
theorem dX12_keeps_44 : decode cX12_keeps 44 = .ok (.iconst 1, 1) := by decide +kernel
theorem dX12_keeps_45 : decode cX12_keeps 45 = .ok (.isub, 1) := by decide +kernel
theorem dX12_keeps_46 : decode cX12_keeps 46 = .ok (.putfield 372, 3) := by decide +kernel
theorem dX12_keeps_49 : decode cX12_keeps 49 = .ok (.aload_n 0, 1) := by decide +kernel
theorem dX12_keeps_50 : decode cX12_keeps 50 = .ok (.getfield 114, 3) := by decide +kernel
theorem dX12_keeps_53 : decode cX12_keeps 53 = .ok (.iconst 0, 1) := by decide +kernel
theorem dX12_keeps_54 : decode cX12_keeps 54 = .ok (.aload_n 0, 1) := by decide +kernel
theorem dX12_keeps_55 : decode cX12_keeps 55 = .ok (.getfield 126, 3) := by decide +kernel
theorem dX12_keeps_58 : decode cX12_keeps 58 = .ok (.bipush 17, 2) := by decide +kernel
theorem dX12_keeps_60 : decode cX12_keeps 60 = .ok (.aload_n 0, 1) := by decide +kernel
theorem dX12_keeps_61 : decode cX12_keeps 61 = .ok (.getfield 372, 3) := by decide +kernel
theorem dX12_keeps_64 : decode cX12_keeps 64 = .ok (.imul, 1) := by decide +kernel
theorem dX12_keeps_65 : decode cX12_keeps 65 = .ok (.invokestatic 446, 3) := by decide +kernel
theorem dX12_keeps_68 : decode cX12_keeps 68 = .ok (.aload_n 0, 1) := by decide +kernel
theorem dX12_keeps_69 : decode cX12_keeps 69 = .ok (.dup, 1) := by decide +kernel
theorem dX12_keeps_70 : decode cX12_keeps 70 = .ok (.getfield 372, 3) := by decide +kernel
theorem dX12_keeps_73 : decode cX12_keeps 73 = .ok (.iconst 1, 1) := by decide +kernel
theorem dX12_keeps_74 : decode cX12_keeps 74 = .ok (.iadd, 1) := by decide +kernel
theorem dX12_keeps_75 : decode cX12_keeps 75 = .ok (.putfield 372, 3) := by decide +kernel
theorem dX12_keeps_78 : decode cX12_keeps 78 = .ok (.return_, 1) := by decide +kernel
theorem dX12_day_0 : decode cX12_day 0 = .ok (.aload_n 0, 1) := by decide +kernel
theorem dX12_day_1 : decode cX12_day 1 = .ok (.iconst 0, 1) := by decide +kernel
theorem dX12_day_2 : decode cX12_day 2 = .ok (.putfield 160, 3) := by decide +kernel
theorem dX12_day_5 : decode cX12_day 5 = .ok (.aload_n 0, 1) := by decide +kernel
theorem dX12_day_6 : decode cX12_day 6 = .ok (.invokevirtual 462, 3) := by decide +kernel
theorem dX12_day_9 : decode cX12_day 9 = .ok (.aload_n 0, 1) := by decide +kernel
theorem dX12_day_10 : decode cX12_day 10 = .ok (.invokevirtual 450, 3) := by decide +kernel
theorem dX12_day_13 : decode cX12_day 13 = .ok (.ireturn, 1) := by decide +kernel
theorem dX12_mend_0 : decode cX12_mend 0 = .ok (.aload_n 0, 1) := by decide +kernel
theorem dX12_mend_1 : decode cX12_mend 1 = .ok (.iconst 0, 1) := by decide +kernel
theorem dX12_mend_2 : decode cX12_mend 2 = .ok (.putfield 160, 3) := by decide +kernel
theorem dX12_mend_5 : decode cX12_mend 5 = .ok (.aload_n 0, 1) := by decide +kernel
theorem dX12_mend_6 : decode cX12_mend 6 = .ok (.invokevirtual 462, 3) := by decide +kernel
theorem dX12_mend_9 : decode cX12_mend 9 = .ok (.aload_n 0, 1) := by decide +kernel
theorem dX12_mend_10 : decode cX12_mend 10 = .ok (.invokevirtual 465, 3) := by decide +kernel
theorem dX12_mend_13 : decode cX12_mend 13 = .ok (.ireturn, 1) := by decide +kernel
theorem dX12_each_0 : decode cX12_each 0 = .ok (.aload_n 0, 1) := by decide +kernel
theorem dX12_each_1 : decode cX12_each 1 = .ok (.iconst 0, 1) := by decide +kernel
theorem dX12_each_2 : decode cX12_each 2 = .ok (.putfield 160, 3) := by decide +kernel
theorem dX12_each_5 : decode cX12_each 5 = .ok (.iload_n 1, 1) := by decide +kernel
theorem dX12_each_6 : decode cX12_each 6 = .ok (.iconst 1, 1) := by decide +kernel
theorem dX12_each_7 : decode cX12_each 7 = .ok (.bipush 30, 2) := by decide +kernel
theorem dX12_each_9 : decode cX12_each 9 = .ok (.invokestatic 293, 3) := by decide +kernel
theorem dX12_each_12 : decode cX12_each 12 = .ok (.ifCond .ne 5, 3) := by decide +kernel
theorem dX12_each_15 : decode cX12_each 15 = .ok (.iconst 0, 1) := by decide +kernel
theorem dX12_each_16 : decode cX12_each 16 = .ok (.ireturn, 1) := by decide +kernel
theorem dX12_each_17 : decode cX12_each 17 = .ok (.aload_n 0, 1) := by decide +kernel
theorem dX12_each_18 : decode cX12_each 18 = .ok (.invokevirtual 462, 3) := by decide +kernel
theorem dX12_each_21 : decode cX12_each 21 = .ok (.aload_n 0, 1) := by decide +kernel
theorem dX12_each_22 : decode cX12_each 22 = .ok (.getfield 114, 3) := by decide +kernel
theorem dX12_each_25 : decode cX12_each 25 = .ok (.iconst 1, 1) := by decide +kernel
theorem dX12_each_26 : decode cX12_each 26 = .ok (.iload_n 1, 1) := by decide +kernel
theorem dX12_each_27 : decode cX12_each 27 = .ok (.iastore, 1) := by decide +kernel
theorem dX12_each_28 : decode cX12_each 28 = .ok (.iconst 1, 1) := by decide +kernel
theorem dX12_each_29 : decode cX12_each 29 = .ok (.ireturn, 1) := by decide +kernel
theorem dX12_open_0 : decode cX12_open 0 = .ok (.aload_n 0, 1) := by decide +kernel
theorem dX12_open_1 : decode cX12_open 1 = .ok (.iconst 0, 1) := by decide +kernel
theorem dX12_open_2 : decode cX12_open 2 = .ok (.putfield 160, 3) := by decide +kernel
theorem dX12_open_5 : decode cX12_open 5 = .ok (.iload_n 1, 1) := by decide +kernel
theorem dX12_open_6 : decode cX12_open 6 = .ok (.iconst 0, 1) := by decide +kernel
theorem dX12_open_7 : decode cX12_open 7 = .ok (.bipush 59, 2) := by decide +kernel
theorem dX12_open_9 : decode cX12_open 9 = .ok (.invokestatic 293, 3) := by decide +kernel
theorem dX12_open_12 : decode cX12_open 12 = .ok (.ifCond .eq 14, 3) := by decide +kernel
theorem dX12_open_15 : decode cX12_open 15 = .ok (.iload_n 2, 1) := by decide +kernel
theorem dX12_open_16 : decode cX12_open 16 = .ok (.iload_n 1, 1) := by decide +kernel
theorem dX12_open_17 : decode cX12_open 17 = .ok (.if_icmp .le 9, 3) := by decide +kernel
theorem dX12_open_20 : decode cX12_open 20 = .ok (.iload_n 2, 1) := by decide +kernel
theorem dX12_open_21 : decode cX12_open 21 = .ok (.bipush 60, 2) := by decide +kernel
theorem dX12_open_23 : decode cX12_open 23 = .ok (.if_icmp .le 5, 3) := by decide +kernel
theorem dX12_open_26 : decode cX12_open 26 = .ok (.iconst 0, 1) := by decide +kernel
theorem dX12_open_27 : decode cX12_open 27 = .ok (.ireturn, 1) := by decide +kernel
theorem dX12_open_28 : decode cX12_open 28 = .ok (.aload_n 0, 1) := by decide +kernel
theorem dX12_open_29 : decode cX12_open 29 = .ok (.invokevirtual 462, 3) := by decide +kernel
theorem dX12_open_32 : decode cX12_open 32 = .ok (.aload_n 0, 1) := by decide +kernel
theorem dX12_open_33 : decode cX12_open 33 = .ok (.getfield 114, 3) := by decide +kernel
theorem dX12_open_36 : decode cX12_open 36 = .ok (.iconst 2, 1) := by decide +kernel
theorem dX12_open_37 : decode cX12_open 37 = .ok (.iload_n 1, 1) := by decide +kernel
theorem dX12_open_38 : decode cX12_open 38 = .ok (.iastore, 1) := by decide +kernel
theorem dX12_open_39 : decode cX12_open 39 = .ok (.aload_n 0, 1) := by decide +kernel
theorem dX12_open_40 : decode cX12_open 40 = .ok (.getfield 114, 3) := by decide +kernel
theorem dX12_open_43 : decode cX12_open 43 = .ok (.iconst 3, 1) := by decide +kernel
theorem dX12_open_44 : decode cX12_open 44 = .ok (.iload_n 2, 1) := by decide +kernel
theorem dX12_open_45 : decode cX12_open 45 = .ok (.iastore, 1) := by decide +kernel
theorem dX12_open_46 : decode cX12_open 46 = .ok (.iconst 1, 1) := by decide +kernel
theorem dX12_open_47 : decode cX12_open 47 = .ok (.ireturn, 1) := by decide +kernel
theorem dX12_undo_0 : decode cX12_undo 0 = .ok (.aload_n 0, 1) := by decide +kernel
theorem dX12_undo_1 : decode cX12_undo 1 = .ok (.iconst 0, 1) := by decide +kernel
theorem dX12_undo_2 : decode cX12_undo 2 = .ok (.putfield 160, 3) := by decide +kernel
theorem dX12_undo_5 : decode cX12_undo 5 = .ok (.aload_n 0, 1) := by decide +kernel
theorem dX12_undo_6 : decode cX12_undo 6 = .ok (.getfield 372, 3) := by decide +kernel
theorem dX12_undo_9 : decode cX12_undo 9 = .ok (.ifCond .ne 5, 3) := by decide +kernel
theorem dX12_undo_12 : decode cX12_undo 12 = .ok (.iconst 0, 1) := by decide +kernel
theorem dX12_undo_13 : decode cX12_undo 13 = .ok (.ireturn, 1) := by decide +kernel
theorem dX12_undo_14 : decode cX12_undo 14 = .ok (.aload_n 0, 1) := by decide +kernel
theorem dX12_undo_15 : decode cX12_undo 15 = .ok (.dup, 1) := by decide +kernel
theorem dX12_undo_16 : decode cX12_undo 16 = .ok (.getfield 372, 3) := by decide +kernel
theorem dX12_undo_19 : decode cX12_undo 19 = .ok (.iconst 1, 1) := by decide +kernel
theorem dX12_undo_20 : decode cX12_undo 20 = .ok (.isub, 1) := by decide +kernel
theorem dX12_undo_21 : decode cX12_undo 21 = .ok (.putfield 372, 3) := by decide +kernel
theorem dX12_undo_24 : decode cX12_undo 24 = .ok (.aload_n 0, 1) := by decide +kernel
theorem dX12_undo_25 : decode cX12_undo 25 = .ok (.getfield 126, 3) := by decide +kernel
theorem dX12_undo_28 : decode cX12_undo 28 = .ok (.bipush 17, 2) := by decide +kernel
theorem dX12_undo_30 : decode cX12_undo 30 = .ok (.aload_n 0, 1) := by decide +kernel
theorem dX12_undo_31 : decode cX12_undo 31 = .ok (.getfield 372, 3) := by decide +kernel
theorem dX12_undo_34 : decode cX12_undo 34 = .ok (.imul, 1) := by decide +kernel
theorem dX12_undo_35 : decode cX12_undo 35 = .ok (.aload_n 0, 1) := by decide +kernel
theorem dX12_undo_36 : decode cX12_undo 36 = .ok (.getfield 114, 3) := by decide +kernel
theorem dX12_undo_39 : decode cX12_undo 39 = .ok (.iconst 0, 1) := by decide +kernel
theorem dX12_undo_40 : decode cX12_undo 40 = .ok (.invokestatic 446, 3) := by decide +kernel
theorem dX12_undo_43 : decode cX12_undo 43 = .ok (.iconst 1, 1) := by decide +kernel
theorem dX12_undo_44 : decode cX12_undo 44 = .ok (.ireturn, 1) := by decide +kernel
theorem dX12_goes_0 : decode cX12_goes 0 = .ok (.aload_n 0, 1) := by decide +kernel
theorem dX12_goes_1 : decode cX12_goes 1 = .ok (.getfield 96, 3) := by decide +kernel
theorem dX12_goes_4 : decode cX12_goes 4 = .ok (.iload_n 1, 1) := by decide +kernel
theorem dX12_goes_5 : decode cX12_goes 5 = .ok (.iaload, 1) := by decide +kernel
theorem dX12_goes_6 : decode cX12_goes 6 = .ok (.ifCond .ne 8, 3) := by decide +kernel
theorem dX12_goes_9 : decode cX12_goes 9 = .ok (.aload_n 0, 1) := by decide +kernel
theorem dX12_goes_10 : decode cX12_goes 10 = .ok (.invokevirtual 450, 3) := by decide +kernel
theorem dX12_goes_13 : decode cX12_goes 13 = .ok (.ireturn, 1) := by decide +kernel
theorem dX12_goes_14 : decode cX12_goes 14 = .ok (.aload_n 0, 1) := by decide +kernel
theorem dX12_goes_15 : decode cX12_goes 15 = .ok (.getfield 96, 3) := by decide +kernel
theorem dX12_goes_18 : decode cX12_goes 18 = .ok (.iload_n 1, 1) := by decide +kernel
theorem dX12_goes_19 : decode cX12_goes 19 = .ok (.iaload, 1) := by decide +kernel
theorem dX12_goes_20 : decode cX12_goes 20 = .ok (.iconst 1, 1) := by decide +kernel
theorem dX12_goes_21 : decode cX12_goes 21 = .ok (.if_icmp .ne 11, 3) := by decide +kernel
theorem dX12_goes_24 : decode cX12_goes 24 = .ok (.aload_n 0, 1) := by decide +kernel
theorem dX12_goes_25 : decode cX12_goes 25 = .ok (.invokevirtual 465, 3) := by decide +kernel
theorem dX12_goes_28 : decode cX12_goes 28 = .ok (.pop, 1) := by decide +kernel
theorem dX12_goes_29 : decode cX12_goes 29 = .ok (.goto 52, 3) := by decide +kernel
theorem dX12_goes_32 : decode cX12_goes 32 = .ok (.aload_n 0, 1) := by decide +kernel
theorem dX12_goes_33 : decode cX12_goes 33 = .ok (.getfield 96, 3) := by decide +kernel
theorem dX12_goes_36 : decode cX12_goes 36 = .ok (.iload_n 1, 1) := by decide +kernel
theorem dX12_goes_37 : decode cX12_goes 37 = .ok (.iaload, 1) := by decide +kernel
theorem dX12_goes_38 : decode cX12_goes 38 = .ok (.iconst 2, 1) := by decide +kernel
theorem dX12_goes_39 : decode cX12_goes 39 = .ok (.if_icmp .ne 18, 3) := by decide +kernel
theorem dX12_goes_42 : decode cX12_goes 42 = .ok (.aload_n 0, 1) := by decide +kernel
theorem dX12_goes_43 : decode cX12_goes 43 = .ok (.getfield 114, 3) := by decide +kernel
theorem dX12_goes_46 : decode cX12_goes 46 = .ok (.iconst 1, 1) := by decide +kernel
theorem dX12_goes_47 : decode cX12_goes 47 = .ok (.aload_n 0, 1) := by decide +kernel
theorem dX12_goes_48 : decode cX12_goes 48 = .ok (.getfield 99, 3) := by decide +kernel
theorem dX12_goes_51 : decode cX12_goes 51 = .ok (.iload_n 1, 1) := by decide +kernel
theorem dX12_goes_52 : decode cX12_goes 52 = .ok (.iaload, 1) := by decide +kernel
theorem dX12_goes_53 : decode cX12_goes 53 = .ok (.iastore, 1) := by decide +kernel
theorem dX12_goes_54 : decode cX12_goes 54 = .ok (.goto 27, 3) := by decide +kernel
theorem dX12_goes_57 : decode cX12_goes 57 = .ok (.aload_n 0, 1) := by decide +kernel
theorem dX12_goes_58 : decode cX12_goes 58 = .ok (.getfield 114, 3) := by decide +kernel
theorem dX12_goes_61 : decode cX12_goes 61 = .ok (.iconst 2, 1) := by decide +kernel
theorem dX12_goes_62 : decode cX12_goes 62 = .ok (.aload_n 0, 1) := by decide +kernel
theorem dX12_goes_63 : decode cX12_goes 63 = .ok (.getfield 99, 3) := by decide +kernel
theorem dX12_goes_66 : decode cX12_goes 66 = .ok (.iload_n 1, 1) := by decide +kernel
theorem dX12_goes_67 : decode cX12_goes 67 = .ok (.iaload, 1) := by decide +kernel
theorem dX12_goes_68 : decode cX12_goes 68 = .ok (.iastore, 1) := by decide +kernel
theorem dX12_goes_69 : decode cX12_goes 69 = .ok (.aload_n 0, 1) := by decide +kernel
theorem dX12_goes_70 : decode cX12_goes 70 = .ok (.getfield 114, 3) := by decide +kernel
theorem dX12_goes_73 : decode cX12_goes 73 = .ok (.iconst 3, 1) := by decide +kernel
theorem dX12_goes_74 : decode cX12_goes 74 = .ok (.aload_n 0, 1) := by decide +kernel
theorem dX12_goes_75 : decode cX12_goes 75 = .ok (.getfield 102, 3) := by decide +kernel
theorem dX12_goes_78 : decode cX12_goes 78 = .ok (.iload_n 1, 1) := by decide +kernel
theorem dX12_goes_79 : decode cX12_goes 79 = .ok (.iaload, 1) := by decide +kernel
theorem dX12_goes_80 : decode cX12_goes 80 = .ok (.iastore, 1) := by decide +kernel
theorem dX12_goes_81 : decode cX12_goes 81 = .ok (.iconst 0, 1) := by decide +kernel
theorem dX12_goes_82 : decode cX12_goes 82 = .ok (.ireturn, 1) := by decide +kernel
theorem dX12_judged_0 : decode cX12_judged 0 = .ok (.aload_n 0, 1) := by decide +kernel
theorem dX12_judged_1 : decode cX12_judged 1 = .ok (.iload_n 1, 1) := by decide +kernel
theorem dX12_judged_2 : decode cX12_judged 2 = .ok (.iconst 0, 1) := by decide +kernel
theorem dX12_judged_3 : decode cX12_judged 3 = .ok (.iconst 2, 1) := by decide +kernel
theorem dX12_judged_4 : decode cX12_judged 4 = .ok (.invokestatic 293, 3) := by decide +kernel
theorem dX12_judged_7 : decode cX12_judged 7 = .ok (.ifCond .eq 7, 3) := by decide +kernel
theorem dX12_judged_10 : decode cX12_judged 10 = .ok (.iconst 0, 1) := by decide +kernel
theorem dX12_judged_11 : decode cX12_judged 11 = .ok (.goto 4, 3) := by decide +kernel
theorem dX12_judged_14 : decode cX12_judged 14 = .ok (.iconst 1, 1) := by decide +kernel
theorem dX12_judged_15 : decode cX12_judged 15 = .ok (.putfield 160, 3) := by decide +kernel
theorem dX12_judged_18 : decode cX12_judged 18 = .ok (.aload_n 0, 1) := by decide +kernel
theorem dX12_judged_19 : decode cX12_judged 19 = .ok (.getfield 160, 3) := by decide +kernel
theorem dX12_judged_22 : decode cX12_judged 22 = .ok (.iconst 1, 1) := by decide +kernel
theorem dX12_judged_23 : decode cX12_judged 23 = .ok (.if_icmp .ne 5, 3) := by decide +kernel
theorem dX12_judged_26 : decode cX12_judged 26 = .ok (.iconst 0, 1) := by decide +kernel
theorem dX12_judged_27 : decode cX12_judged 27 = .ok (.ireturn, 1) := by decide +kernel
theorem dX12_judged_28 : decode cX12_judged 28 = .ok (.aload_n 0, 1) := by decide +kernel
theorem dX12_judged_29 : decode cX12_judged 29 = .ok (.getfield 114, 3) := by decide +kernel
theorem dX12_judged_32 : decode cX12_judged 32 = .ok (.iconst 0, 1) := by decide +kernel
theorem dX12_judged_33 : decode cX12_judged 33 = .ok (.aload_n 0, 1) := by decide +kernel
theorem dX12_judged_34 : decode cX12_judged 34 = .ok (.getfield 117, 3) := by decide +kernel
theorem dX12_judged_37 : decode cX12_judged 37 = .ok (.iconst 0, 1) := by decide +kernel
theorem dX12_judged_38 : decode cX12_judged 38 = .ok (.invokestatic 446, 3) := by decide +kernel
theorem dX12_judged_41 : decode cX12_judged 41 = .ok (.aload_n 0, 1) := by decide +kernel
theorem dX12_judged_42 : decode cX12_judged 42 = .ok (.invokevirtual 157, 3) := by decide +kernel
theorem dX12_judged_45 : decode cX12_judged 45 = .ok (.iconst (-1), 1) := by decide +kernel
theorem dX12_judged_46 : decode cX12_judged 46 = .ok (.istore_n 2, 1) := by decide +kernel
theorem dX12_judged_47 : decode cX12_judged 47 = .ok (.iconst 0, 1) := by decide +kernel
theorem dX12_judged_48 : decode cX12_judged 48 = .ok (.istore_n 3, 1) := by decide +kernel
theorem dX12_judged_49 : decode cX12_judged 49 = .ok (.iconst 0, 1) := by decide +kernel
theorem dX12_judged_50 : decode cX12_judged 50 = .ok (.istore 4, 2) := by decide +kernel
theorem dX12_judged_52 : decode cX12_judged 52 = .ok (.iload 4, 2) := by decide +kernel
theorem dX12_judged_54 : decode cX12_judged 54 = .ok (.aload_n 0, 1) := by decide +kernel
theorem dX12_judged_55 : decode cX12_judged 55 = .ok (.getfield 93, 3) := by decide +kernel
theorem dX12_judged_58 : decode cX12_judged 58 = .ok (.iconst 0, 1) := by decide +kernel
theorem dX12_judged_59 : decode cX12_judged 59 = .ok (.iaload, 1) := by decide +kernel
theorem dX12_judged_60 : decode cX12_judged 60 = .ok (.if_icmp .ge 42, 3) := by decide +kernel
theorem dX12_judged_63 : decode cX12_judged 63 = .ok (.iload_n 3, 1) := by decide +kernel
theorem dX12_judged_64 : decode cX12_judged 64 = .ok (.aload_n 0, 1) := by decide +kernel
theorem dX12_judged_65 : decode cX12_judged 65 = .ok (.iload 4, 2) := by decide +kernel
theorem dX12_judged_67 : decode cX12_judged 67 = .ok (.invokevirtual 468, 3) := by decide +kernel
theorem dX12_judged_70 : decode cX12_judged 70 = .ok (.iadd, 1) := by decide +kernel
theorem dX12_judged_71 : decode cX12_judged 71 = .ok (.istore_n 3, 1) := by decide +kernel
theorem dX12_judged_72 : decode cX12_judged 72 = .ok (.aload_n 0, 1) := by decide +kernel
theorem dX12_judged_73 : decode cX12_judged 73 = .ok (.getfield 96, 3) := by decide +kernel
theorem dX12_judged_76 : decode cX12_judged 76 = .ok (.iload 4, 2) := by decide +kernel
theorem dX12_judged_78 : decode cX12_judged 78 = .ok (.iaload, 1) := by decide +kernel
theorem dX12_judged_79 : decode cX12_judged 79 = .ok (.ifCond .ne 17, 3) := by decide +kernel
theorem dX12_judged_82 : decode cX12_judged 82 = .ok (.iload_n 2, 1) := by decide +kernel
theorem dX12_judged_83 : decode cX12_judged 83 = .ok (.ifCond .ge 13, 3) := by decide +kernel
theorem dX12_judged_86 : decode cX12_judged 86 = .ok (.aload_n 0, 1) := by decide +kernel
theorem dX12_judged_87 : decode cX12_judged 87 = .ok (.invokevirtual 471, 3) := by decide +kernel
theorem dX12_judged_90 : decode cX12_judged 90 = .ok (.ifCond .eq 6, 3) := by decide +kernel
theorem dX12_judged_93 : decode cX12_judged 93 = .ok (.iload 4, 2) := by decide +kernel
theorem dX12_judged_95 : decode cX12_judged 95 = .ok (.istore_n 2, 1) := by decide +kernel
theorem dX12_judged_96 : decode cX12_judged 96 = .ok (.iinc 4 1, 3) := by decide +kernel
theorem dX12_judged_99 : decode cX12_judged 99 = .ok (.goto (-47), 3) := by decide +kernel
theorem dX12_judged_102 : decode cX12_judged 102 = .ok (.aload_n 0, 1) := by decide +kernel
theorem dX12_judged_103 : decode cX12_judged 103 = .ok (.getfield 114, 3) := by decide +kernel
theorem dX12_judged_106 : decode cX12_judged 106 = .ok (.iconst 4, 1) := by decide +kernel
theorem dX12_judged_107 : decode cX12_judged 107 = .ok (.iaload, 1) := by decide +kernel
theorem dX12_judged_108 : decode cX12_judged 108 = .ok (.istore 4, 2) := by decide +kernel
theorem dX12_judged_110 : decode cX12_judged 110 = .ok (.aload_n 0, 1) := by decide +kernel
theorem dX12_judged_111 : decode cX12_judged 111 = .ok (.getfield 117, 3) := by decide +kernel
theorem dX12_judged_114 : decode cX12_judged 114 = .ok (.iconst 0, 1) := by decide +kernel
theorem dX12_judged_115 : decode cX12_judged 115 = .ok (.aload_n 0, 1) := by decide +kernel
theorem dX12_judged_116 : decode cX12_judged 116 = .ok (.getfield 114, 3) := by decide +kernel
theorem dX12_judged_119 : decode cX12_judged 119 = .ok (.iconst 0, 1) := by decide +kernel
theorem dX12_judged_120 : decode cX12_judged 120 = .ok (.invokestatic 446, 3) := by decide +kernel
theorem dX12_judged_123 : decode cX12_judged 123 = .ok (.iload_n 1, 1) := by decide +kernel
theorem dX12_judged_124 : decode cX12_judged 124 = .ok (.ifCond .ne 7, 3) := by decide +kernel
theorem dX12_judged_127 : decode cX12_judged 127 = .ok (.iload_n 2, 1) := by decide +kernel
theorem dX12_judged_128 : decode cX12_judged 128 = .ok (.goto 14, 3) := by decide +kernel
theorem dX12_judged_131 : decode cX12_judged 131 = .ok (.iload_n 1, 1) := by decide +kernel
theorem dX12_judged_132 : decode cX12_judged 132 = .ok (.iconst 1, 1) := by decide +kernel
theorem dX12_judged_133 : decode cX12_judged 133 = .ok (.if_icmp .ne 7, 3) := by decide +kernel
theorem dX12_judged_136 : decode cX12_judged 136 = .ok (.iload_n 3, 1) := by decide +kernel
theorem dX12_judged_137 : decode cX12_judged 137 = .ok (.goto 5, 3) := by decide +kernel
theorem dX12_judged_140 : decode cX12_judged 140 = .ok (.iload 4, 2) := by decide +kernel
theorem dX12_judged_142 : decode cX12_judged 142 = .ok (.ireturn, 1) := by decide +kernel
theorem dX12_best_0 : decode cX12_best 0 = .ok (.aload_n 0, 1) := by decide +kernel
theorem dX12_best_1 : decode cX12_best 1 = .ok (.iload_n 1, 1) := by decide +kernel
theorem dX12_best_2 : decode cX12_best 2 = .ok (.iconst 0, 1) := by decide +kernel
theorem dX12_best_3 : decode cX12_best 3 = .ok (.iconst 1, 1) := by decide +kernel
theorem dX12_best_4 : decode cX12_best 4 = .ok (.invokestatic 293, 3) := by decide +kernel
theorem dX12_best_7 : decode cX12_best 7 = .ok (.ifCond .eq 7, 3) := by decide +kernel
theorem dX12_best_10 : decode cX12_best 10 = .ok (.iconst 0, 1) := by decide +kernel
theorem dX12_best_11 : decode cX12_best 11 = .ok (.goto 4, 3) := by decide +kernel
theorem dX12_best_14 : decode cX12_best 14 = .ok (.iconst 1, 1) := by decide +kernel
theorem dX12_best_15 : decode cX12_best 15 = .ok (.putfield 160, 3) := by decide +kernel
theorem dX12_best_18 : decode cX12_best 18 = .ok (.aload_n 0, 1) := by decide +kernel
theorem dX12_best_19 : decode cX12_best 19 = .ok (.getfield 160, 3) := by decide +kernel
theorem dX12_best_22 : decode cX12_best 22 = .ok (.iconst 1, 1) := by decide +kernel
theorem dX12_best_23 : decode cX12_best 23 = .ok (.if_icmp .ne 5, 3) := by decide +kernel
theorem dX12_best_26 : decode cX12_best 26 = .ok (.iconst 0, 1) := by decide +kernel
theorem dX12_best_27 : decode cX12_best 27 = .ok (.ireturn, 1) := by decide +kernel
theorem dX12_best_28 : decode cX12_best 28 = .ok (.aload_n 0, 1) := by decide +kernel
theorem dX12_best_29 : decode cX12_best 29 = .ok (.getfield 114, 3) := by decide +kernel
theorem dX12_best_32 : decode cX12_best 32 = .ok (.iconst 1, 1) := by decide +kernel
theorem dX12_best_33 : decode cX12_best 33 = .ok (.iaload, 1) := by decide +kernel
theorem dX12_best_34 : decode cX12_best 34 = .ok (.istore_n 2, 1) := by decide +kernel
theorem dX12_best_35 : decode cX12_best 35 = .ok (.iconst 0, 1) := by decide +kernel
theorem dX12_best_36 : decode cX12_best 36 = .ok (.istore_n 3, 1) := by decide +kernel
theorem dX12_best_37 : decode cX12_best 37 = .ok (.iconst 0, 1) := by decide +kernel
theorem dX12_best_38 : decode cX12_best 38 = .ok (.istore 4, 2) := by decide +kernel
theorem dX12_best_40 : decode cX12_best 40 = .ok (.iconst 1, 1) := by decide +kernel
theorem dX12_best_41 : decode cX12_best 41 = .ok (.istore 5, 2) := by decide +kernel
theorem dX12_best_43 : decode cX12_best 43 = .ok (.iload 5, 2) := by decide +kernel
theorem dX12_best_45 : decode cX12_best 45 = .ok (.bipush 31, 2) := by decide +kernel
theorem dX12_best_47 : decode cX12_best 47 = .ok (.if_icmp .ge 44, 3) := by decide +kernel
theorem dX12_best_50 : decode cX12_best 50 = .ok (.aload_n 0, 1) := by decide +kernel
theorem dX12_best_51 : decode cX12_best 51 = .ok (.getfield 114, 3) := by decide +kernel
theorem dX12_best_54 : decode cX12_best 54 = .ok (.iconst 1, 1) := by decide +kernel
theorem dX12_best_55 : decode cX12_best 55 = .ok (.iload 5, 2) := by decide +kernel
theorem dX12_best_57 : decode cX12_best 57 = .ok (.iastore, 1) := by decide +kernel
theorem dX12_best_58 : decode cX12_best 58 = .ok (.aload_n 0, 1) := by decide +kernel
theorem dX12_best_59 : decode cX12_best 59 = .ok (.invokevirtual 453, 3) := by decide +kernel
theorem dX12_best_62 : decode cX12_best 62 = .ok (.istore 6, 2) := by decide +kernel
theorem dX12_best_64 : decode cX12_best 64 = .ok (.iload_n 3, 1) := by decide +kernel
theorem dX12_best_65 : decode cX12_best 65 = .ok (.ifCond .le 13, 3) := by decide +kernel
theorem dX12_best_68 : decode cX12_best 68 = .ok (.iload 6, 2) := by decide +kernel
theorem dX12_best_70 : decode cX12_best 70 = .ok (.iload 4, 2) := by decide +kernel
theorem dX12_best_72 : decode cX12_best 72 = .ok (.if_icmp .gt 6, 3) := by decide +kernel
theorem dX12_best_75 : decode cX12_best 75 = .ok (.goto 10, 3) := by decide +kernel
theorem dX12_best_78 : decode cX12_best 78 = .ok (.iload 5, 2) := by decide +kernel
theorem dX12_best_80 : decode cX12_best 80 = .ok (.istore_n 3, 1) := by decide +kernel
theorem dX12_best_81 : decode cX12_best 81 = .ok (.iload 6, 2) := by decide +kernel
theorem dX12_best_83 : decode cX12_best 83 = .ok (.istore 4, 2) := by decide +kernel
theorem dX12_best_85 : decode cX12_best 85 = .ok (.iinc 5 1, 3) := by decide +kernel
theorem dX12_best_88 : decode cX12_best 88 = .ok (.goto (-45), 3) := by decide +kernel
theorem dX12_best_91 : decode cX12_best 91 = .ok (.aload_n 0, 1) := by decide +kernel
theorem dX12_best_92 : decode cX12_best 92 = .ok (.getfield 114, 3) := by decide +kernel
theorem dX12_best_95 : decode cX12_best 95 = .ok (.iconst 1, 1) := by decide +kernel
theorem dX12_best_96 : decode cX12_best 96 = .ok (.iload_n 2, 1) := by decide +kernel
theorem dX12_best_97 : decode cX12_best 97 = .ok (.iastore, 1) := by decide +kernel
theorem dX12_best_98 : decode cX12_best 98 = .ok (.iload_n 1, 1) := by decide +kernel
theorem dX12_best_99 : decode cX12_best 99 = .ok (.ifCond .ne 7, 3) := by decide +kernel
theorem dX12_best_102 : decode cX12_best 102 = .ok (.iload_n 3, 1) := by decide +kernel
theorem dX12_best_103 : decode cX12_best 103 = .ok (.goto 5, 3) := by decide +kernel
theorem dX12_best_106 : decode cX12_best 106 = .ok (.iload 4, 2) := by decide +kernel
theorem dX12_best_108 : decode cX12_best 108 = .ok (.ireturn, 1) := by decide +kernel
theorem dX12_hours_0 : decode cX12_hours 0 = .ok (.aload_n 0, 1) := by decide +kernel
theorem dX12_hours_1 : decode cX12_hours 1 = .ok (.iconst 0, 1) := by decide +kernel
theorem dX12_hours_2 : decode cX12_hours 2 = .ok (.putfield 160, 3) := by decide +kernel
theorem dX12_hours_5 : decode cX12_hours 5 = .ok (.iload_n 1, 1) := by decide +kernel
theorem dX12_hours_6 : decode cX12_hours 6 = .ok (.iconst 1, 1) := by decide +kernel
theorem dX12_hours_7 : decode cX12_hours 7 = .ok (.bipush 60, 2) := by decide +kernel
theorem dX12_hours_9 : decode cX12_hours 9 = .ok (.invokestatic 293, 3) := by decide +kernel
theorem dX12_hours_12 : decode cX12_hours 12 = .ok (.ifCond .ne 5, 3) := by decide +kernel
theorem dX12_hours_15 : decode cX12_hours 15 = .ok (.iconst (-1), 1) := by decide +kernel
theorem dX12_hours_16 : decode cX12_hours 16 = .ok (.ireturn, 1) := by decide +kernel
theorem dX12_hours_17 : decode cX12_hours 17 = .ok (.aload_n 0, 1) := by decide +kernel
theorem dX12_hours_18 : decode cX12_hours 18 = .ok (.getfield 114, 3) := by decide +kernel
theorem dX12_hours_21 : decode cX12_hours 21 = .ok (.iconst 2, 1) := by decide +kernel
theorem dX12_hours_22 : decode cX12_hours 22 = .ok (.iaload, 1) := by decide +kernel
theorem dX12_hours_23 : decode cX12_hours 23 = .ok (.istore_n 2, 1) := by decide +kernel
theorem dX12_hours_24 : decode cX12_hours 24 = .ok (.aload_n 0, 1) := by decide +kernel
theorem dX12_hours_25 : decode cX12_hours 25 = .ok (.getfield 114, 3) := by decide +kernel
theorem dX12_hours_28 : decode cX12_hours 28 = .ok (.iconst 3, 1) := by decide +kernel
theorem dX12_hours_29 : decode cX12_hours 29 = .ok (.iaload, 1) := by decide +kernel
theorem dX12_hours_30 : decode cX12_hours 30 = .ok (.istore_n 3, 1) := by decide +kernel
theorem dX12_hours_31 : decode cX12_hours 31 = .ok (.iconst (-1), 1) := by decide +kernel
theorem dX12_hours_32 : decode cX12_hours 32 = .ok (.istore 4, 2) := by decide +kernel
theorem dX12_hours_34 : decode cX12_hours 34 = .ok (.iconst 0, 1) := by decide +kernel
theorem dX12_hours_35 : decode cX12_hours 35 = .ok (.istore 5, 2) := by decide +kernel
theorem dX12_hours_37 : decode cX12_hours 37 = .ok (.iconst 0, 1) := by decide +kernel
theorem dX12_hours_38 : decode cX12_hours 38 = .ok (.istore 6, 2) := by decide +kernel
theorem dX12_hours_40 : decode cX12_hours 40 = .ok (.iload 6, 2) := by decide +kernel
theorem dX12_hours_42 : decode cX12_hours 42 = .ok (.iload_n 1, 1) := by decide +kernel
theorem dX12_hours_43 : decode cX12_hours 43 = .ok (.iadd, 1) := by decide +kernel
theorem dX12_hours_44 : decode cX12_hours 44 = .ok (.bipush 60, 2) := by decide +kernel
theorem dX12_hours_46 : decode cX12_hours 46 = .ok (.if_icmp .gt 56, 3) := by decide +kernel
theorem dX12_hours_49 : decode cX12_hours 49 = .ok (.aload_n 0, 1) := by decide +kernel
theorem dX12_hours_50 : decode cX12_hours 50 = .ok (.getfield 114, 3) := by decide +kernel
theorem dX12_hours_53 : decode cX12_hours 53 = .ok (.iconst 2, 1) := by decide +kernel
theorem dX12_hours_54 : decode cX12_hours 54 = .ok (.iload 6, 2) := by decide +kernel
theorem dX12_hours_56 : decode cX12_hours 56 = .ok (.iastore, 1) := by decide +kernel
theorem dX12_hours_57 : decode cX12_hours 57 = .ok (.aload_n 0, 1) := by decide +kernel
theorem dX12_hours_58 : decode cX12_hours 58 = .ok (.getfield 114, 3) := by decide +kernel
theorem dX12_hours_61 : decode cX12_hours 61 = .ok (.iconst 3, 1) := by decide +kernel
theorem dX12_hours_62 : decode cX12_hours 62 = .ok (.iload 6, 2) := by decide +kernel
theorem dX12_hours_64 : decode cX12_hours 64 = .ok (.iload_n 1, 1) := by decide +kernel
theorem dX12_hours_65 : decode cX12_hours 65 = .ok (.iadd, 1) := by decide +kernel
theorem dX12_hours_66 : decode cX12_hours 66 = .ok (.iastore, 1) := by decide +kernel
theorem dX12_hours_67 : decode cX12_hours 67 = .ok (.aload_n 0, 1) := by decide +kernel
theorem dX12_hours_68 : decode cX12_hours 68 = .ok (.invokevirtual 453, 3) := by decide +kernel
theorem dX12_hours_71 : decode cX12_hours 71 = .ok (.istore 7, 2) := by decide +kernel
theorem dX12_hours_73 : decode cX12_hours 73 = .ok (.iload 4, 2) := by decide +kernel
theorem dX12_hours_75 : decode cX12_hours 75 = .ok (.ifCond .lt 13, 3) := by decide +kernel
theorem dX12_hours_78 : decode cX12_hours 78 = .ok (.iload 7, 2) := by decide +kernel
theorem dX12_hours_80 : decode cX12_hours 80 = .ok (.iload 5, 2) := by decide +kernel
theorem dX12_hours_82 : decode cX12_hours 82 = .ok (.if_icmp .gt 6, 3) := by decide +kernel
theorem dX12_hours_85 : decode cX12_hours 85 = .ok (.goto 11, 3) := by decide +kernel
theorem dX12_hours_88 : decode cX12_hours 88 = .ok (.iload 6, 2) := by decide +kernel
theorem dX12_hours_90 : decode cX12_hours 90 = .ok (.istore 4, 2) := by decide +kernel
theorem dX12_hours_92 : decode cX12_hours 92 = .ok (.iload 7, 2) := by decide +kernel
theorem dX12_hours_94 : decode cX12_hours 94 = .ok (.istore 5, 2) := by decide +kernel
theorem dX12_hours_96 : decode cX12_hours 96 = .ok (.iinc 6 1, 3) := by decide +kernel
theorem dX12_hours_99 : decode cX12_hours 99 = .ok (.goto (-59), 3) := by decide +kernel
theorem dX12_hours_102 : decode cX12_hours 102 = .ok (.aload_n 0, 1) := by decide +kernel
theorem dX12_hours_103 : decode cX12_hours 103 = .ok (.getfield 114, 3) := by decide +kernel
theorem dX12_hours_106 : decode cX12_hours 106 = .ok (.iconst 2, 1) := by decide +kernel
theorem dX12_hours_107 : decode cX12_hours 107 = .ok (.iload_n 2, 1) := by decide +kernel
theorem dX12_hours_108 : decode cX12_hours 108 = .ok (.iastore, 1) := by decide +kernel
theorem dX12_hours_109 : decode cX12_hours 109 = .ok (.aload_n 0, 1) := by decide +kernel
theorem dX12_hours_110 : decode cX12_hours 110 = .ok (.getfield 114, 3) := by decide +kernel
theorem dX12_hours_113 : decode cX12_hours 113 = .ok (.iconst 3, 1) := by decide +kernel
theorem dX12_hours_114 : decode cX12_hours 114 = .ok (.iload_n 3, 1) := by decide +kernel
theorem dX12_hours_115 : decode cX12_hours 115 = .ok (.iastore, 1) := by decide +kernel
theorem dX12_hours_116 : decode cX12_hours 116 = .ok (.iload 4, 2) := by decide +kernel
theorem dX12_hours_118 : decode cX12_hours 118 = .ok (.ireturn, 1) := by decide +kernel
theorem dX12_daysBring_0 : decode cX12_daysBring 0 = .ok (.aload_n 0, 1) := by decide +kernel
theorem dX12_daysBring_1 : decode cX12_daysBring 1 = .ok (.getfield 114, 3) := by decide +kernel
theorem dX12_daysBring_4 : decode cX12_daysBring 4 = .ok (.iconst 0, 1) := by decide +kernel
theorem dX12_daysBring_5 : decode cX12_daysBring 5 = .ok (.aload_n 0, 1) := by decide +kernel
theorem dX12_daysBring_6 : decode cX12_daysBring 6 = .ok (.getfield 117, 3) := by decide +kernel
theorem dX12_daysBring_9 : decode cX12_daysBring 9 = .ok (.iconst 0, 1) := by decide +kernel
theorem dX12_daysBring_10 : decode cX12_daysBring 10 = .ok (.invokestatic 446, 3) := by decide +kernel
theorem dX12_daysBring_13 : decode cX12_daysBring 13 = .ok (.iconst 0, 1) := by decide +kernel
theorem dX12_daysBring_14 : decode cX12_daysBring 14 = .ok (.istore_n 3, 1) := by decide +kernel
theorem dX12_daysBring_15 : decode cX12_daysBring 15 = .ok (.iconst 0, 1) := by decide +kernel
theorem dX12_daysBring_16 : decode cX12_daysBring 16 = .ok (.istore 4, 2) := by decide +kernel
theorem dX12_daysBring_18 : decode cX12_daysBring 18 = .ok (.iload 4, 2) := by decide +kernel
theorem dX12_daysBring_20 : decode cX12_daysBring 20 = .ok (.iload_n 1, 1) := by decide +kernel
theorem dX12_daysBring_21 : decode cX12_daysBring 21 = .ok (.if_icmp .ge 37, 3) := by decide +kernel
theorem dX12_daysBring_24 : decode cX12_daysBring 24 = .ok (.iload 4, 2) := by decide +kernel
theorem dX12_daysBring_26 : decode cX12_daysBring 26 = .ok (.iload_n 2, 1) := by decide +kernel
theorem dX12_daysBring_27 : decode cX12_daysBring 27 = .ok (.if_icmp .ne 18, 3) := by decide +kernel
theorem dX12_daysBring_30 : decode cX12_daysBring 30 = .ok (.aload_n 0, 1) := by decide +kernel
theorem dX12_daysBring_31 : decode cX12_daysBring 31 = .ok (.invokevirtual 465, 3) := by decide +kernel
theorem dX12_daysBring_34 : decode cX12_daysBring 34 = .ok (.pop, 1) := by decide +kernel
theorem dX12_daysBring_35 : decode cX12_daysBring 35 = .ok (.iload_n 3, 1) := by decide +kernel
theorem dX12_daysBring_36 : decode cX12_daysBring 36 = .ok (.aload_n 0, 1) := by decide +kernel
theorem dX12_daysBring_37 : decode cX12_daysBring 37 = .ok (.getfield 13, 3) := by decide +kernel
theorem dX12_daysBring_40 : decode cX12_daysBring 40 = .ok (.bipush 6, 2) := by decide +kernel
theorem dX12_daysBring_42 : decode cX12_daysBring 42 = .ok (.iaload, 1) := by decide +kernel
theorem dX12_daysBring_43 : decode cX12_daysBring 43 = .ok (.isub, 1) := by decide +kernel
theorem dX12_daysBring_44 : decode cX12_daysBring 44 = .ok (.istore_n 3, 1) := by decide +kernel
theorem dX12_daysBring_45 : decode cX12_daysBring 45 = .ok (.iload_n 3, 1) := by decide +kernel
theorem dX12_daysBring_46 : decode cX12_daysBring 46 = .ok (.aload_n 0, 1) := by decide +kernel
theorem dX12_daysBring_47 : decode cX12_daysBring 47 = .ok (.invokevirtual 450, 3) := by decide +kernel
theorem dX12_daysBring_50 : decode cX12_daysBring 50 = .ok (.iadd, 1) := by decide +kernel
theorem dX12_daysBring_51 : decode cX12_daysBring 51 = .ok (.istore_n 3, 1) := by decide +kernel
theorem dX12_daysBring_52 : decode cX12_daysBring 52 = .ok (.iinc 4 1, 3) := by decide +kernel
theorem dX12_daysBring_55 : decode cX12_daysBring 55 = .ok (.goto (-37), 3) := by decide +kernel
theorem dX12_daysBring_58 : decode cX12_daysBring 58 = .ok (.aload_n 0, 1) := by decide +kernel
theorem dX12_daysBring_59 : decode cX12_daysBring 59 = .ok (.getfield 117, 3) := by decide +kernel
theorem dX12_daysBring_62 : decode cX12_daysBring 62 = .ok (.iconst 0, 1) := by decide +kernel
theorem dX12_daysBring_63 : decode cX12_daysBring 63 = .ok (.aload_n 0, 1) := by decide +kernel
theorem dX12_daysBring_64 : decode cX12_daysBring 64 = .ok (.getfield 114, 3) := by decide +kernel
theorem dX12_daysBring_67 : decode cX12_daysBring 67 = .ok (.iconst 0, 1) := by decide +kernel
theorem dX12_daysBring_68 : decode cX12_daysBring 68 = .ok (.invokestatic 446, 3) := by decide +kernel
theorem dX12_daysBring_71 : decode cX12_daysBring 71 = .ok (.iload_n 3, 1) := by decide +kernel
theorem dX12_daysBring_72 : decode cX12_daysBring 72 = .ok (.ireturn, 1) := by decide +kernel
theorem dX12_when_0 : decode cX12_when 0 = .ok (.aload_n 0, 1) := by decide +kernel
theorem dX12_when_1 : decode cX12_when 1 = .ok (.iload_n 1, 1) := by decide +kernel
theorem dX12_when_2 : decode cX12_when 2 = .ok (.iconst 1, 1) := by decide +kernel
theorem dX12_when_3 : decode cX12_when 3 = .ok (.bipush 9, 2) := by decide +kernel
theorem dX12_when_5 : decode cX12_when 5 = .ok (.invokestatic 293, 3) := by decide +kernel
theorem dX12_when_8 : decode cX12_when 8 = .ok (.ifCond .eq 16, 3) := by decide +kernel
theorem dX12_when_11 : decode cX12_when 11 = .ok (.iload_n 2, 1) := by decide +kernel
theorem dX12_when_12 : decode cX12_when 12 = .ok (.iconst 0, 1) := by decide +kernel
theorem dX12_when_13 : decode cX12_when 13 = .ok (.iconst 1, 1) := by decide +kernel
theorem dX12_when_14 : decode cX12_when 14 = .ok (.invokestatic 293, 3) := by decide +kernel
theorem dX12_when_17 : decode cX12_when 17 = .ok (.ifCond .eq 7, 3) := by decide +kernel
theorem dX12_when_20 : decode cX12_when 20 = .ok (.iconst 0, 1) := by decide +kernel
theorem dX12_when_21 : decode cX12_when 21 = .ok (.goto 4, 3) := by decide +kernel
theorem dX12_when_24 : decode cX12_when 24 = .ok (.iconst 1, 1) := by decide +kernel
theorem dX12_when_25 : decode cX12_when 25 = .ok (.putfield 160, 3) := by decide +kernel
theorem dX12_when_28 : decode cX12_when 28 = .ok (.aload_n 0, 1) := by decide +kernel
theorem dX12_when_29 : decode cX12_when 29 = .ok (.getfield 160, 3) := by decide +kernel
theorem dX12_when_32 : decode cX12_when 32 = .ok (.iconst 1, 1) := by decide +kernel
theorem dX12_when_33 : decode cX12_when 33 = .ok (.if_icmp .ne 5, 3) := by decide +kernel
theorem dX12_when_36 : decode cX12_when 36 = .ok (.iconst 0, 1) := by decide +kernel
theorem dX12_when_37 : decode cX12_when 37 = .ok (.ireturn, 1) := by decide +kernel
theorem dX12_when_38 : decode cX12_when 38 = .ok (.iconst 0, 1) := by decide +kernel
theorem dX12_when_39 : decode cX12_when 39 = .ok (.istore_n 3, 1) := by decide +kernel
theorem dX12_when_40 : decode cX12_when 40 = .ok (.aload_n 0, 1) := by decide +kernel
theorem dX12_when_41 : decode cX12_when 41 = .ok (.iload_n 1, 1) := by decide +kernel
theorem dX12_when_42 : decode cX12_when 42 = .ok (.iconst 0, 1) := by decide +kernel
theorem dX12_when_43 : decode cX12_when 43 = .ok (.invokevirtual 474, 3) := by decide +kernel
theorem dX12_when_46 : decode cX12_when 46 = .ok (.istore 4, 2) := by decide +kernel
theorem dX12_when_48 : decode cX12_when 48 = .ok (.iconst 1, 1) := by decide +kernel
theorem dX12_when_49 : decode cX12_when 49 = .ok (.istore 5, 2) := by decide +kernel
theorem dX12_when_51 : decode cX12_when 51 = .ok (.iload 5, 2) := by decide +kernel
theorem dX12_when_53 : decode cX12_when 53 = .ok (.iload_n 1, 1) := by decide +kernel
theorem dX12_when_54 : decode cX12_when 54 = .ok (.if_icmp .gt 45, 3) := by decide +kernel
theorem dX12_when_57 : decode cX12_when 57 = .ok (.aload_n 0, 1) := by decide +kernel
theorem dX12_when_58 : decode cX12_when 58 = .ok (.iload_n 1, 1) := by decide +kernel
theorem dX12_when_59 : decode cX12_when 59 = .ok (.iload 5, 2) := by decide +kernel
theorem dX12_when_61 : decode cX12_when 61 = .ok (.iload_n 1, 1) := by decide +kernel
theorem dX12_when_62 : decode cX12_when 62 = .ok (.if_icmp .ne 7, 3) := by decide +kernel
theorem dX12_when_65 : decode cX12_when 65 = .ok (.iconst (-1), 1) := by decide +kernel
theorem dX12_when_66 : decode cX12_when 66 = .ok (.goto 5, 3) := by decide +kernel
theorem dX12_when_69 : decode cX12_when 69 = .ok (.iload 5, 2) := by decide +kernel
theorem dX12_when_71 : decode cX12_when 71 = .ok (.invokevirtual 474, 3) := by decide +kernel
theorem dX12_when_74 : decode cX12_when 74 = .ok (.istore 6, 2) := by decide +kernel
theorem dX12_when_76 : decode cX12_when 76 = .ok (.iload 6, 2) := by decide +kernel
theorem dX12_when_78 : decode cX12_when 78 = .ok (.iload 4, 2) := by decide +kernel
theorem dX12_when_80 : decode cX12_when 80 = .ok (.if_icmp .gt 6, 3) := by decide +kernel
theorem dX12_when_83 : decode cX12_when 83 = .ok (.goto 10, 3) := by decide +kernel
theorem dX12_when_86 : decode cX12_when 86 = .ok (.iload 5, 2) := by decide +kernel
theorem dX12_when_88 : decode cX12_when 88 = .ok (.istore_n 3, 1) := by decide +kernel
theorem dX12_when_89 : decode cX12_when 89 = .ok (.iload 6, 2) := by decide +kernel
theorem dX12_when_91 : decode cX12_when 91 = .ok (.istore 4, 2) := by decide +kernel
theorem dX12_when_93 : decode cX12_when 93 = .ok (.iinc 5 1, 3) := by decide +kernel
theorem dX12_when_96 : decode cX12_when 96 = .ok (.goto (-45), 3) := by decide +kernel
theorem dX12_when_99 : decode cX12_when 99 = .ok (.iload_n 2, 1) := by decide +kernel
theorem dX12_when_100 : decode cX12_when 100 = .ok (.ifCond .ne 8, 3) := by decide +kernel
theorem dX12_when_103 : decode cX12_when 103 = .ok (.iload 4, 2) := by decide +kernel
theorem dX12_when_105 : decode cX12_when 105 = .ok (.goto 13, 3) := by decide +kernel
theorem dX12_when_108 : decode cX12_when 108 = .ok (.iload_n 3, 1) := by decide +kernel
theorem dX12_when_109 : decode cX12_when 109 = .ok (.iload_n 1, 1) := by decide +kernel
theorem dX12_when_110 : decode cX12_when 110 = .ok (.if_icmp .ne 7, 3) := by decide +kernel
theorem dX12_when_113 : decode cX12_when 113 = .ok (.iconst (-1), 1) := by decide +kernel
theorem dX12_when_114 : decode cX12_when 114 = .ok (.goto 4, 3) := by decide +kernel
theorem dX12_when_117 : decode cX12_when 117 = .ok (.iload_n 3, 1) := by decide +kernel
theorem dX12_when_118 : decode cX12_when 118 = .ok (.ireturn, 1) := by decide +kernel
theorem dX12_rule_0 : decode cX12_rule 0 = .ok (.aload_n 0, 1) := by decide +kernel
theorem dX12_rule_1 : decode cX12_rule 1 = .ok (.iload_n 1, 1) := by decide +kernel
theorem dX12_rule_2 : decode cX12_rule 2 = .ok (.iconst 1, 1) := by decide +kernel
theorem dX12_rule_3 : decode cX12_rule 3 = .ok (.bipush 30, 2) := by decide +kernel
theorem dX12_rule_5 : decode cX12_rule 5 = .ok (.invokestatic 293, 3) := by decide +kernel
theorem dX12_rule_8 : decode cX12_rule 8 = .ok (.ifCond .eq 17, 3) := by decide +kernel
theorem dX12_rule_11 : decode cX12_rule 11 = .ok (.iload_n 2, 1) := by decide +kernel
theorem dX12_rule_12 : decode cX12_rule 12 = .ok (.iconst 1, 1) := by decide +kernel
theorem dX12_rule_13 : decode cX12_rule 13 = .ok (.bipush 30, 2) := by decide +kernel
theorem dX12_rule_15 : decode cX12_rule 15 = .ok (.invokestatic 293, 3) := by decide +kernel
theorem dX12_rule_18 : decode cX12_rule 18 = .ok (.ifCond .eq 7, 3) := by decide +kernel
theorem dX12_rule_21 : decode cX12_rule 21 = .ok (.iconst 0, 1) := by decide +kernel
theorem dX12_rule_22 : decode cX12_rule 22 = .ok (.goto 4, 3) := by decide +kernel
theorem dX12_rule_25 : decode cX12_rule 25 = .ok (.iconst 1, 1) := by decide +kernel
theorem dX12_rule_26 : decode cX12_rule 26 = .ok (.putfield 160, 3) := by decide +kernel
theorem dX12_rule_29 : decode cX12_rule 29 = .ok (.aload_n 0, 1) := by decide +kernel
theorem dX12_rule_30 : decode cX12_rule 30 = .ok (.getfield 160, 3) := by decide +kernel
theorem dX12_rule_33 : decode cX12_rule 33 = .ok (.iconst 1, 1) := by decide +kernel
theorem dX12_rule_34 : decode cX12_rule 34 = .ok (.if_icmp .ne 5, 3) := by decide +kernel
theorem dX12_rule_37 : decode cX12_rule 37 = .ok (.iconst 0, 1) := by decide +kernel
theorem dX12_rule_38 : decode cX12_rule 38 = .ok (.ireturn, 1) := by decide +kernel
theorem dX12_rule_39 : decode cX12_rule 39 = .ok (.aload_n 0, 1) := by decide +kernel
theorem dX12_rule_40 : decode cX12_rule 40 = .ok (.getfield 114, 3) := by decide +kernel
theorem dX12_rule_43 : decode cX12_rule 43 = .ok (.iconst 1, 1) := by decide +kernel
theorem dX12_rule_44 : decode cX12_rule 44 = .ok (.iaload, 1) := by decide +kernel
theorem dX12_rule_45 : decode cX12_rule 45 = .ok (.istore_n 3, 1) := by decide +kernel
theorem dX12_rule_46 : decode cX12_rule 46 = .ok (.aload_n 0, 1) := by decide +kernel
theorem dX12_rule_47 : decode cX12_rule 47 = .ok (.getfield 114, 3) := by decide +kernel
theorem dX12_rule_50 : decode cX12_rule 50 = .ok (.iconst 1, 1) := by decide +kernel
theorem dX12_rule_51 : decode cX12_rule 51 = .ok (.iload_n 2, 1) := by decide +kernel
theorem dX12_rule_52 : decode cX12_rule 52 = .ok (.iastore, 1) := by decide +kernel
theorem dX12_rule_53 : decode cX12_rule 53 = .ok (.aload_n 0, 1) := by decide +kernel
theorem dX12_rule_54 : decode cX12_rule 54 = .ok (.iload_n 1, 1) := by decide +kernel
theorem dX12_rule_55 : decode cX12_rule 55 = .ok (.iconst (-1), 1) := by decide +kernel
theorem dX12_rule_56 : decode cX12_rule 56 = .ok (.invokevirtual 474, 3) := by decide +kernel
theorem dX12_rule_59 : decode cX12_rule 59 = .ok (.istore 4, 2) := by decide +kernel
theorem dX12_rule_61 : decode cX12_rule 61 = .ok (.aload_n 0, 1) := by decide +kernel
theorem dX12_rule_62 : decode cX12_rule 62 = .ok (.getfield 114, 3) := by decide +kernel
theorem dX12_rule_65 : decode cX12_rule 65 = .ok (.iconst 1, 1) := by decide +kernel
theorem dX12_rule_66 : decode cX12_rule 66 = .ok (.iload_n 3, 1) := by decide +kernel
theorem dX12_rule_67 : decode cX12_rule 67 = .ok (.iastore, 1) := by decide +kernel
theorem dX12_rule_68 : decode cX12_rule 68 = .ok (.iload 4, 2) := by decide +kernel
theorem dX12_rule_70 : decode cX12_rule 70 = .ok (.ireturn, 1) := by decide +kernel
theorem dX12_lasts_0 : decode cX12_lasts 0 = .ok (.aload_n 0, 1) := by decide +kernel
theorem dX12_lasts_1 : decode cX12_lasts 1 = .ok (.iconst 0, 1) := by decide +kernel
theorem dX12_lasts_2 : decode cX12_lasts 2 = .ok (.putfield 160, 3) := by decide +kernel
theorem dX12_lasts_5 : decode cX12_lasts 5 = .ok (.aload_n 0, 1) := by decide +kernel
theorem dX12_lasts_6 : decode cX12_lasts 6 = .ok (.iload_n 1, 1) := by decide +kernel
theorem dX12_lasts_7 : decode cX12_lasts 7 = .ok (.invokevirtual 459, 3) := by decide +kernel
theorem dX12_lasts_10 : decode cX12_lasts 10 = .ok (.ifCond .ne 5, 3) := by decide +kernel
theorem dX12_lasts_13 : decode cX12_lasts 13 = .ok (.iconst (-1), 1) := by decide +kernel
theorem dX12_lasts_14 : decode cX12_lasts 14 = .ok (.ireturn, 1) := by decide +kernel
theorem dX12_lasts_15 : decode cX12_lasts 15 = .ok (.aload_n 0, 1) := by decide +kernel
theorem dX12_lasts_16 : decode cX12_lasts 16 = .ok (.getfield 114, 3) := by decide +kernel
theorem dX12_lasts_19 : decode cX12_lasts 19 = .ok (.iconst 0, 1) := by decide +kernel
theorem dX12_lasts_20 : decode cX12_lasts 20 = .ok (.aload_n 0, 1) := by decide +kernel
theorem dX12_lasts_21 : decode cX12_lasts 21 = .ok (.getfield 117, 3) := by decide +kernel
theorem dX12_lasts_24 : decode cX12_lasts 24 = .ok (.iconst 0, 1) := by decide +kernel
theorem dX12_lasts_25 : decode cX12_lasts 25 = .ok (.invokestatic 446, 3) := by decide +kernel
theorem dX12_lasts_28 : decode cX12_lasts 28 = .ok (.iconst 0, 1) := by decide +kernel
theorem dX12_lasts_29 : decode cX12_lasts 29 = .ok (.istore_n 2, 1) := by decide +kernel
theorem dX12_lasts_30 : decode cX12_lasts 30 = .ok (.iload_n 2, 1) := by decide +kernel
theorem dX12_lasts_31 : decode cX12_lasts 31 = .ok (.bipush 61, 2) := by decide +kernel
theorem dX12_lasts_33 : decode cX12_lasts 33 = .ok (.if_icmp .ge 27, 3) := by decide +kernel
theorem dX12_lasts_36 : decode cX12_lasts 36 = .ok (.aload_n 0, 1) := by decide +kernel
theorem dX12_lasts_37 : decode cX12_lasts 37 = .ok (.getfield 114, 3) := by decide +kernel
theorem dX12_lasts_40 : decode cX12_lasts 40 = .ok (.iconst 5, 1) := by decide +kernel
theorem dX12_lasts_41 : decode cX12_lasts 41 = .ok (.iload_n 1, 1) := by decide +kernel
theorem dX12_lasts_42 : decode cX12_lasts 42 = .ok (.iadd, 1) := by decide +kernel
theorem dX12_lasts_43 : decode cX12_lasts 43 = .ok (.iaload, 1) := by decide +kernel
theorem dX12_lasts_44 : decode cX12_lasts 44 = .ok (.bipush 9, 2) := by decide +kernel
theorem dX12_lasts_46 : decode cX12_lasts 46 = .ok (.if_icmp .ge 14, 3) := by decide +kernel
theorem dX12_lasts_49 : decode cX12_lasts 49 = .ok (.aload_n 0, 1) := by decide +kernel
theorem dX12_lasts_50 : decode cX12_lasts 50 = .ok (.invokevirtual 450, 3) := by decide +kernel
theorem dX12_lasts_53 : decode cX12_lasts 53 = .ok (.pop, 1) := by decide +kernel
theorem dX12_lasts_54 : decode cX12_lasts 54 = .ok (.iinc 2 1, 3) := by decide +kernel
theorem dX12_lasts_57 : decode cX12_lasts 57 = .ok (.goto (-27), 3) := by decide +kernel
theorem dX12_lasts_60 : decode cX12_lasts 60 = .ok (.aload_n 0, 1) := by decide +kernel
theorem dX12_lasts_61 : decode cX12_lasts 61 = .ok (.getfield 117, 3) := by decide +kernel
theorem dX12_lasts_64 : decode cX12_lasts 64 = .ok (.iconst 0, 1) := by decide +kernel
theorem dX12_lasts_65 : decode cX12_lasts 65 = .ok (.aload_n 0, 1) := by decide +kernel
theorem dX12_lasts_66 : decode cX12_lasts 66 = .ok (.getfield 114, 3) := by decide +kernel
theorem dX12_lasts_69 : decode cX12_lasts 69 = .ok (.iconst 0, 1) := by decide +kernel
theorem dX12_lasts_70 : decode cX12_lasts 70 = .ok (.invokestatic 446, 3) := by decide +kernel
theorem dX12_lasts_73 : decode cX12_lasts 73 = .ok (.iload_n 2, 1) := by decide +kernel
theorem dX12_lasts_74 : decode cX12_lasts 74 = .ok (.bipush 61, 2) := by decide +kernel
theorem dX12_lasts_76 : decode cX12_lasts 76 = .ok (.if_icmp .ne 7, 3) := by decide +kernel
theorem dX12_lasts_79 : decode cX12_lasts 79 = .ok (.iconst (-1), 1) := by decide +kernel
theorem dX12_lasts_80 : decode cX12_lasts 80 = .ok (.goto 4, 3) := by decide +kernel
theorem dX12_lasts_83 : decode cX12_lasts 83 = .ok (.iload_n 2, 1) := by decide +kernel
theorem dX12_lasts_84 : decode cX12_lasts 84 = .ok (.ireturn, 1) := by decide +kernel
theorem dX12_without_0 : decode cX12_without 0 = .ok (.aload_n 0, 1) := by decide +kernel
theorem dX12_without_1 : decode cX12_without 1 = .ok (.aload_n 0, 1) := by decide +kernel
theorem dX12_without_2 : decode cX12_without 2 = .ok (.iload_n 1, 1) := by decide +kernel
theorem dX12_without_3 : decode cX12_without 3 = .ok (.invokevirtual 456, 3) := by decide +kernel
theorem dX12_without_6 : decode cX12_without 6 = .ok (.ifCond .eq 7, 3) := by decide +kernel
theorem dX12_without_9 : decode cX12_without 9 = .ok (.iconst 0, 1) := by decide +kernel
theorem dX12_without_10 : decode cX12_without 10 = .ok (.goto 4, 3) := by decide +kernel
theorem dX12_without_13 : decode cX12_without 13 = .ok (.iconst 1, 1) := by decide +kernel
theorem dX12_without_14 : decode cX12_without 14 = .ok (.putfield 160, 3) := by decide +kernel
theorem dX12_without_17 : decode cX12_without 17 = .ok (.aload_n 0, 1) := by decide +kernel
theorem dX12_without_18 : decode cX12_without 18 = .ok (.getfield 160, 3) := by decide +kernel
theorem dX12_without_21 : decode cX12_without 21 = .ok (.iconst 1, 1) := by decide +kernel
theorem dX12_without_22 : decode cX12_without 22 = .ok (.if_icmp .ne 7, 3) := by decide +kernel
theorem dX12_without_25 : decode cX12_without 25 = .ok (.iconst 0, 1) := by decide +kernel
theorem dX12_without_26 : decode cX12_without 26 = .ok (.goto 15, 3) := by decide +kernel
theorem dX12_without_29 : decode cX12_without 29 = .ok (.aload_n 0, 1) := by decide +kernel
theorem dX12_without_30 : decode cX12_without 30 = .ok (.iconst 1, 1) := by decide +kernel
theorem dX12_without_31 : decode cX12_without 31 = .ok (.iload_n 1, 1) := by decide +kernel
theorem dX12_without_32 : decode cX12_without 32 = .ok (.ishl, 1) := by decide +kernel
theorem dX12_without_33 : decode cX12_without 33 = .ok (.invokevirtual 477, 3) := by decide +kernel
theorem dX12_without_36 : decode cX12_without 36 = .ok (.aload_n 0, 1) := by decide +kernel
theorem dX12_without_37 : decode cX12_without 37 = .ok (.invokevirtual 453, 3) := by decide +kernel
theorem dX12_without_40 : decode cX12_without 40 = .ok (.isub, 1) := by decide +kernel
theorem dX12_without_41 : decode cX12_without 41 = .ok (.ireturn, 1) := by decide +kernel
theorem dX12_rarer_0 : decode cX12_rarer 0 = .ok (.aload_n 0, 1) := by decide +kernel
theorem dX12_rarer_1 : decode cX12_rarer 1 = .ok (.iconst 0, 1) := by decide +kernel
theorem dX12_rarer_2 : decode cX12_rarer 2 = .ok (.putfield 160, 3) := by decide +kernel
theorem dX12_rarer_5 : decode cX12_rarer 5 = .ok (.iload_n 1, 1) := by decide +kernel
theorem dX12_rarer_6 : decode cX12_rarer 6 = .ok (.sipush (-9999), 3) := by decide +kernel
theorem dX12_rarer_9 : decode cX12_rarer 9 = .ok (.sipush 9999, 3) := by decide +kernel
theorem dX12_rarer_12 : decode cX12_rarer 12 = .ok (.invokestatic 293, 3) := by decide +kernel
theorem dX12_rarer_15 : decode cX12_rarer 15 = .ok (.ifCond .ne 5, 3) := by decide +kernel
theorem dX12_rarer_18 : decode cX12_rarer 18 = .ok (.iconst (-1), 1) := by decide +kernel
theorem dX12_rarer_19 : decode cX12_rarer 19 = .ok (.ireturn, 1) := by decide +kernel
theorem dX12_rarer_20 : decode cX12_rarer 20 = .ok (.iconst (-1), 1) := by decide +kernel
theorem dX12_rarer_21 : decode cX12_rarer 21 = .ok (.istore_n 2, 1) := by decide +kernel
theorem dX12_rarer_22 : decode cX12_rarer 22 = .ok (.iconst 0, 1) := by decide +kernel
theorem dX12_rarer_23 : decode cX12_rarer 23 = .ok (.istore_n 3, 1) := by decide +kernel
theorem dX12_rarer_24 : decode cX12_rarer 24 = .ok (.iload_n 3, 1) := by decide +kernel
theorem dX12_rarer_25 : decode cX12_rarer 25 = .ok (.iconst 1, 1) := by decide +kernel
theorem dX12_rarer_26 : decode cX12_rarer 26 = .ok (.aload_n 0, 1) := by decide +kernel
theorem dX12_rarer_27 : decode cX12_rarer 27 = .ok (.getfield 13, 3) := by decide +kernel
theorem dX12_rarer_30 : decode cX12_rarer 30 = .ok (.iconst 1, 1) := by decide +kernel
theorem dX12_rarer_31 : decode cX12_rarer 31 = .ok (.iaload, 1) := by decide +kernel
theorem dX12_rarer_32 : decode cX12_rarer 32 = .ok (.ishl, 1) := by decide +kernel
theorem dX12_rarer_33 : decode cX12_rarer 33 = .ok (.if_icmp .ge 35, 3) := by decide +kernel
theorem dX12_rarer_36 : decode cX12_rarer 36 = .ok (.iload_n 2, 1) := by decide +kernel
theorem dX12_rarer_37 : decode cX12_rarer 37 = .ok (.ifCond .lt 14, 3) := by decide +kernel
theorem dX12_rarer_40 : decode cX12_rarer 40 = .ok (.iload_n 3, 1) := by decide +kernel
theorem dX12_rarer_41 : decode cX12_rarer 41 = .ok (.invokestatic 480, 3) := by decide +kernel
theorem dX12_rarer_44 : decode cX12_rarer 44 = .ok (.iload_n 2, 1) := by decide +kernel
theorem dX12_rarer_45 : decode cX12_rarer 45 = .ok (.invokestatic 480, 3) := by decide +kernel
theorem dX12_rarer_48 : decode cX12_rarer 48 = .ok (.if_icmp .ge 14, 3) := by decide +kernel
theorem dX12_rarer_51 : decode cX12_rarer 51 = .ok (.aload_n 0, 1) := by decide +kernel
theorem dX12_rarer_52 : decode cX12_rarer 52 = .ok (.iload_n 3, 1) := by decide +kernel
theorem dX12_rarer_53 : decode cX12_rarer 53 = .ok (.invokevirtual 477, 3) := by decide +kernel
theorem dX12_rarer_56 : decode cX12_rarer 56 = .ok (.iload_n 1, 1) := by decide +kernel
theorem dX12_rarer_57 : decode cX12_rarer 57 = .ok (.if_icmp .lt 5, 3) := by decide +kernel
theorem dX12_rarer_60 : decode cX12_rarer 60 = .ok (.iload_n 3, 1) := by decide +kernel
theorem dX12_rarer_61 : decode cX12_rarer 61 = .ok (.istore_n 2, 1) := by decide +kernel
theorem dX12_rarer_62 : decode cX12_rarer 62 = .ok (.iinc 3 1, 3) := by decide +kernel
theorem dX12_rarer_65 : decode cX12_rarer 65 = .ok (.goto (-41), 3) := by decide +kernel
theorem dX12_rarer_68 : decode cX12_rarer 68 = .ok (.iload_n 2, 1) := by decide +kernel
theorem dX12_rarer_69 : decode cX12_rarer 69 = .ok (.ireturn, 1) := by decide +kernel
theorem dX12_dare_0 : decode cX12_dare 0 = .ok (.aload_n 0, 1) := by decide +kernel
theorem dX12_dare_1 : decode cX12_dare 1 = .ok (.iconst 0, 1) := by decide +kernel
theorem dX12_dare_2 : decode cX12_dare 2 = .ok (.putfield 160, 3) := by decide +kernel
theorem dX12_dare_5 : decode cX12_dare 5 = .ok (.iload_n 1, 1) := by decide +kernel
theorem dX12_dare_6 : decode cX12_dare 6 = .ok (.iconst 0, 1) := by decide +kernel
theorem dX12_dare_7 : decode cX12_dare 7 = .ok (.bipush 9, 2) := by decide +kernel
theorem dX12_dare_9 : decode cX12_dare 9 = .ok (.invokestatic 293, 3) := by decide +kernel
theorem dX12_dare_12 : decode cX12_dare 12 = .ok (.ifCond .ne 5, 3) := by decide +kernel
theorem dX12_dare_15 : decode cX12_dare 15 = .ok (.iconst (-1), 1) := by decide +kernel
theorem dX12_dare_16 : decode cX12_dare 16 = .ok (.ireturn, 1) := by decide +kernel
theorem dX12_dare_17 : decode cX12_dare 17 = .ok (.iconst 0, 1) := by decide +kernel
theorem dX12_dare_18 : decode cX12_dare 18 = .ok (.istore_n 2, 1) := by decide +kernel
theorem dX12_dare_19 : decode cX12_dare 19 = .ok (.iconst 0, 1) := by decide +kernel
theorem dX12_dare_20 : decode cX12_dare 20 = .ok (.istore_n 3, 1) := by decide +kernel
theorem dX12_dare_21 : decode cX12_dare 21 = .ok (.iload_n 3, 1) := by decide +kernel
theorem dX12_dare_22 : decode cX12_dare 22 = .ok (.aload_n 0, 1) := by decide +kernel
theorem dX12_dare_23 : decode cX12_dare 23 = .ok (.getfield 13, 3) := by decide +kernel
theorem dX12_dare_26 : decode cX12_dare 26 = .ok (.iconst 1, 1) := by decide +kernel
theorem dX12_dare_27 : decode cX12_dare 27 = .ok (.iaload, 1) := by decide +kernel
theorem dX12_dare_28 : decode cX12_dare 28 = .ok (.if_icmp .ge 28, 3) := by decide +kernel
theorem dX12_dare_31 : decode cX12_dare 31 = .ok (.iload_n 2, 1) := by decide +kernel
theorem dX12_dare_32 : decode cX12_dare 32 = .ok (.aload_n 0, 1) := by decide +kernel
theorem dX12_dare_33 : decode cX12_dare 33 = .ok (.iload_n 3, 1) := by decide +kernel
theorem dX12_dare_34 : decode cX12_dare 34 = .ok (.iload_n 1, 1) := by decide +kernel
theorem dX12_dare_35 : decode cX12_dare 35 = .ok (.invokevirtual 410, 3) := by decide +kernel
theorem dX12_dare_38 : decode cX12_dare 38 = .ok (.ifCond .eq 9, 3) := by decide +kernel
theorem dX12_dare_41 : decode cX12_dare 41 = .ok (.iconst 1, 1) := by decide +kernel
theorem dX12_dare_42 : decode cX12_dare 42 = .ok (.iload_n 3, 1) := by decide +kernel
theorem dX12_dare_43 : decode cX12_dare 43 = .ok (.ishl, 1) := by decide +kernel
theorem dX12_dare_44 : decode cX12_dare 44 = .ok (.goto 4, 3) := by decide +kernel
theorem dX12_dare_47 : decode cX12_dare 47 = .ok (.iconst 0, 1) := by decide +kernel
theorem dX12_dare_48 : decode cX12_dare 48 = .ok (.ior, 1) := by decide +kernel
theorem dX12_dare_49 : decode cX12_dare 49 = .ok (.istore_n 2, 1) := by decide +kernel
theorem dX12_dare_50 : decode cX12_dare 50 = .ok (.iinc 3 1, 3) := by decide +kernel
theorem dX12_dare_53 : decode cX12_dare 53 = .ok (.goto (-32), 3) := by decide +kernel
theorem dX12_dare_56 : decode cX12_dare 56 = .ok (.iload_n 2, 1) := by decide +kernel
theorem dX12_dare_57 : decode cX12_dare 57 = .ok (.ireturn, 1) := by decide +kernel
theorem dX12_strikes_0 : decode cX12_strikes 0 = .ok (.aload_n 0, 1) := by decide +kernel
theorem dX12_strikes_1 : decode cX12_strikes 1 = .ok (.iconst 0, 1) := by decide +kernel
theorem dX12_strikes_2 : decode cX12_strikes 2 = .ok (.putfield 160, 3) := by decide +kernel
theorem dX12_strikes_5 : decode cX12_strikes 5 = .ok (.aload_n 0, 1) := by decide +kernel
theorem dX12_strikes_6 : decode cX12_strikes 6 = .ok (.iload_n 1, 1) := by decide +kernel
theorem dX12_strikes_7 : decode cX12_strikes 7 = .ok (.invokevirtual 456, 3) := by decide +kernel
theorem dX12_strikes_10 : decode cX12_strikes 10 = .ok (.ifCond .eq 20, 3) := by decide +kernel
theorem dX12_strikes_13 : decode cX12_strikes 13 = .ok (.aload_n 0, 1) := by decide +kernel
theorem dX12_strikes_14 : decode cX12_strikes 14 = .ok (.iload_n 2, 1) := by decide +kernel
theorem dX12_strikes_15 : decode cX12_strikes 15 = .ok (.invokevirtual 459, 3) := by decide +kernel
theorem dX12_strikes_18 : decode cX12_strikes 18 = .ok (.ifCond .eq 12, 3) := by decide +kernel
theorem dX12_strikes_21 : decode cX12_strikes 21 = .ok (.aload_n 0, 1) := by decide +kernel
theorem dX12_strikes_22 : decode cX12_strikes 22 = .ok (.iload_n 1, 1) := by decide +kernel
theorem dX12_strikes_23 : decode cX12_strikes 23 = .ok (.iload_n 2, 1) := by decide +kernel
theorem dX12_strikes_24 : decode cX12_strikes 24 = .ok (.invokevirtual 483, 3) := by decide +kernel
theorem dX12_strikes_27 : decode cX12_strikes 27 = .ok (.goto 4, 3) := by decide +kernel
theorem dX12_strikes_30 : decode cX12_strikes 30 = .ok (.iconst (-1), 1) := by decide +kernel
theorem dX12_strikes_31 : decode cX12_strikes 31 = .ok (.ireturn, 1) := by decide +kernel
theorem dX12_find_0 : decode cX12_find 0 = .ok (.aload_n 0, 1) := by decide +kernel
theorem dX12_find_1 : decode cX12_find 1 = .ok (.iconst 0, 1) := by decide +kernel
theorem dX12_find_2 : decode cX12_find 2 = .ok (.putfield 160, 3) := by decide +kernel
theorem dX12_find_5 : decode cX12_find 5 = .ok (.aload_n 0, 1) := by decide +kernel
theorem dX12_find_6 : decode cX12_find 6 = .ok (.iload_n 1, 1) := by decide +kernel
theorem dX12_find_7 : decode cX12_find 7 = .ok (.invokevirtual 459, 3) := by decide +kernel
theorem dX12_find_10 : decode cX12_find 10 = .ok (.ifCond .eq 24, 3) := by decide +kernel
theorem dX12_find_13 : decode cX12_find 13 = .ok (.iload_n 2, 1) := by decide +kernel
theorem dX12_find_14 : decode cX12_find 14 = .ok (.iconst 0, 1) := by decide +kernel
theorem dX12_find_15 : decode cX12_find 15 = .ok (.bipush 9, 2) := by decide +kernel
theorem dX12_find_17 : decode cX12_find 17 = .ok (.invokestatic 293, 3) := by decide +kernel
theorem dX12_find_20 : decode cX12_find 20 = .ok (.ifCond .eq 14, 3) := by decide +kernel
theorem dX12_find_23 : decode cX12_find 23 = .ok (.aload_n 0, 1) := by decide +kernel
theorem dX12_find_24 : decode cX12_find 24 = .ok (.getfield 105, 3) := by decide +kernel
theorem dX12_find_27 : decode cX12_find 27 = .ok (.iconst 0, 1) := by decide +kernel
theorem dX12_find_28 : decode cX12_find 28 = .ok (.iaload, 1) := by decide +kernel
theorem dX12_find_29 : decode cX12_find 29 = .ok (.bipush 8, 2) := by decide +kernel
theorem dX12_find_31 : decode cX12_find 31 = .ok (.if_icmp .ne 5, 3) := by decide +kernel
theorem dX12_find_34 : decode cX12_find 34 = .ok (.iconst 0, 1) := by decide +kernel
theorem dX12_find_35 : decode cX12_find 35 = .ok (.ireturn, 1) := by decide +kernel
theorem dX12_find_36 : decode cX12_find 36 = .ok (.aload_n 0, 1) := by decide +kernel
theorem dX12_find_37 : decode cX12_find 37 = .ok (.getfield 108, 3) := by decide +kernel
theorem dX12_find_40 : decode cX12_find 40 = .ok (.aload_n 0, 1) := by decide +kernel
theorem dX12_find_41 : decode cX12_find 41 = .ok (.getfield 105, 3) := by decide +kernel
theorem dX12_find_44 : decode cX12_find 44 = .ok (.iconst 0, 1) := by decide +kernel
theorem dX12_find_45 : decode cX12_find 45 = .ok (.iaload, 1) := by decide +kernel
theorem dX12_find_46 : decode cX12_find 46 = .ok (.iload_n 1, 1) := by decide +kernel
theorem dX12_find_47 : decode cX12_find 47 = .ok (.iastore, 1) := by decide +kernel
theorem dX12_find_48 : decode cX12_find 48 = .ok (.aload_n 0, 1) := by decide +kernel
theorem dX12_find_49 : decode cX12_find 49 = .ok (.getfield 111, 3) := by decide +kernel
theorem dX12_find_52 : decode cX12_find 52 = .ok (.aload_n 0, 1) := by decide +kernel
theorem dX12_find_53 : decode cX12_find 53 = .ok (.getfield 105, 3) := by decide +kernel
theorem dX12_find_56 : decode cX12_find 56 = .ok (.iconst 0, 1) := by decide +kernel
theorem dX12_find_57 : decode cX12_find 57 = .ok (.iaload, 1) := by decide +kernel
theorem dX12_find_58 : decode cX12_find 58 = .ok (.iload_n 2, 1) := by decide +kernel
theorem dX12_find_59 : decode cX12_find 59 = .ok (.iastore, 1) := by decide +kernel
theorem dX12_find_60 : decode cX12_find 60 = .ok (.aload_n 0, 1) := by decide +kernel
theorem dX12_find_61 : decode cX12_find 61 = .ok (.getfield 105, 3) := by decide +kernel
theorem dX12_find_64 : decode cX12_find 64 = .ok (.iconst 0, 1) := by decide +kernel
theorem dX12_find_65 : decode cX12_find 65 = .ok (.dup2, 1) := by decide +kernel
theorem dX12_find_66 : decode cX12_find 66 = .ok (.iaload, 1) := by decide +kernel
theorem dX12_find_67 : decode cX12_find 67 = .ok (.iconst 1, 1) := by decide +kernel
theorem dX12_find_68 : decode cX12_find 68 = .ok (.iadd, 1) := by decide +kernel
theorem dX12_find_69 : decode cX12_find 69 = .ok (.iastore, 1) := by decide +kernel
theorem dX12_find_70 : decode cX12_find 70 = .ok (.iconst 1, 1) := by decide +kernel
theorem dX12_find_71 : decode cX12_find 71 = .ok (.ireturn, 1) := by decide +kernel
theorem dX12_wearBy_0 : decode cX12_wearBy 0 = .ok (.iconst 0, 1) := by decide +kernel
theorem dX12_wearBy_1 : decode cX12_wearBy 1 = .ok (.istore_n 3, 1) := by decide +kernel
theorem dX12_wearBy_2 : decode cX12_wearBy 2 = .ok (.iconst 0, 1) := by decide +kernel
theorem dX12_wearBy_3 : decode cX12_wearBy 3 = .ok (.istore 4, 2) := by decide +kernel
theorem dX12_wearBy_5 : decode cX12_wearBy 5 = .ok (.iload 4, 2) := by decide +kernel
theorem dX12_wearBy_7 : decode cX12_wearBy 7 = .ok (.aload_n 0, 1) := by decide +kernel
theorem dX12_wearBy_8 : decode cX12_wearBy 8 = .ok (.getfield 13, 3) := by decide +kernel
theorem dX12_wearBy_11 : decode cX12_wearBy 11 = .ok (.iconst 1, 1) := by decide +kernel
theorem dX12_wearBy_12 : decode cX12_wearBy 12 = .ok (.iaload, 1) := by decide +kernel
theorem dX12_wearBy_13 : decode cX12_wearBy 13 = .ok (.if_icmp .ge 54, 3) := by decide +kernel
theorem dX12_wearBy_16 : decode cX12_wearBy 16 = .ok (.iload_n 1, 1) := by decide +kernel
theorem dX12_wearBy_17 : decode cX12_wearBy 17 = .ok (.iload 4, 2) := by decide +kernel
theorem dX12_wearBy_19 : decode cX12_wearBy 19 = .ok (.ishr, 1) := by decide +kernel
theorem dX12_wearBy_20 : decode cX12_wearBy 20 = .ok (.iconst 1, 1) := by decide +kernel
theorem dX12_wearBy_21 : decode cX12_wearBy 21 = .ok (.iand, 1) := by decide +kernel
theorem dX12_wearBy_22 : decode cX12_wearBy 22 = .ok (.ifCond .ne 6, 3) := by decide +kernel
theorem dX12_wearBy_25 : decode cX12_wearBy 25 = .ok (.goto 36, 3) := by decide +kernel
theorem dX12_wearBy_28 : decode cX12_wearBy 28 = .ok (.aload_n 0, 1) := by decide +kernel
theorem dX12_wearBy_29 : decode cX12_wearBy 29 = .ok (.iload 4, 2) := by decide +kernel
theorem dX12_wearBy_31 : decode cX12_wearBy 31 = .ok (.iload_n 2, 1) := by decide +kernel
theorem dX12_wearBy_32 : decode cX12_wearBy 32 = .ok (.invokevirtual 483, 3) := by decide +kernel
