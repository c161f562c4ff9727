theorem dX2_joined_45 : decode cX2_joined 45 = .ok (.ifCond .eq 7, 3) := by decide +kernel
theorem dX2_joined_48 : decode cX2_joined 48 = .ok (.iconst 1, 1) := by decide +kernel
theorem dX2_joined_49 : decode cX2_joined 49 = .ok (.goto 4, 3) := by decide +kernel
theorem dX2_joined_52 : decode cX2_joined 52 = .ok (.iconst 0, 1) := by decide +kernel
theorem dX2_joined_53 : decode cX2_joined 53 = .ok (.ireturn, 1) := by decide +kernel
theorem dX2_joined_54 : decode cX2_joined 54 = .ok (.iload_n 1, 1) := by decide +kernel
theorem dX2_joined_55 : decode cX2_joined 55 = .ok (.ifCond .ne 7, 3) := by decide +kernel
theorem dX2_joined_58 : decode cX2_joined 58 = .ok (.iload_n 2, 1) := by decide +kernel
theorem dX2_joined_59 : decode cX2_joined 59 = .ok (.ifCond .eq 7, 3) := by decide +kernel
theorem dX2_joined_62 : decode cX2_joined 62 = .ok (.iconst 1, 1) := by decide +kernel
theorem dX2_joined_63 : decode cX2_joined 63 = .ok (.goto 4, 3) := by decide +kernel
theorem dX2_joined_66 : decode cX2_joined 66 = .ok (.iconst 0, 1) := by decide +kernel
theorem dX2_joined_67 : decode cX2_joined 67 = .ok (.ireturn, 1) := by decide +kernel
theorem dX2_joined_68 : decode cX2_joined 68 = .ok (.iload_n 1, 1) := by decide +kernel
theorem dX2_joined_69 : decode cX2_joined 69 = .ok (.iload_n 2, 1) := by decide +kernel
theorem dX2_joined_70 : decode cX2_joined 70 = .ok (.if_icmp .ge 7, 3) := by decide +kernel
theorem dX2_joined_73 : decode cX2_joined 73 = .ok (.iconst 1, 1) := by decide +kernel
theorem dX2_joined_74 : decode cX2_joined 74 = .ok (.goto 4, 3) := by decide +kernel
theorem dX2_joined_77 : decode cX2_joined 77 = .ok (.iconst 0, 1) := by decide +kernel
theorem dX2_joined_78 : decode cX2_joined 78 = .ok (.ireturn, 1) := by decide +kernel
theorem dX2_joined_79 : decode cX2_joined 79 = .ok (.iload_n 1, 1) := by decide +kernel
theorem dX2_joined_80 : decode cX2_joined 80 = .ok (.iload_n 2, 1) := by decide +kernel
theorem dX2_joined_81 : decode cX2_joined 81 = .ok (.if_icmp .ne 7, 3) := by decide +kernel
theorem dX2_joined_84 : decode cX2_joined 84 = .ok (.iconst 1, 1) := by decide +kernel
theorem dX2_joined_85 : decode cX2_joined 85 = .ok (.goto 4, 3) := by decide +kernel
theorem dX2_joined_88 : decode cX2_joined 88 = .ok (.iconst 0, 1) := by decide +kernel
theorem dX2_joined_89 : decode cX2_joined 89 = .ok (.ireturn, 1) := by decide +kernel
theorem dX2_joined_90 : decode cX2_joined 90 = .ok (.iload_n 1, 1) := by decide +kernel
theorem dX2_joined_91 : decode cX2_joined 91 = .ok (.iload_n 2, 1) := by decide +kernel
theorem dX2_joined_92 : decode cX2_joined 92 = .ok (.iadd, 1) := by decide +kernel
theorem dX2_joined_93 : decode cX2_joined 93 = .ok (.ireturn, 1) := by decide +kernel
theorem dX2_joined_94 : decode cX2_joined 94 = .ok (.iload_n 1, 1) := by decide +kernel
theorem dX2_joined_95 : decode cX2_joined 95 = .ok (.iload_n 2, 1) := by decide +kernel
theorem dX2_joined_96 : decode cX2_joined 96 = .ok (.isub, 1) := by decide +kernel
theorem dX2_joined_97 : decode cX2_joined 97 = .ok (.ireturn, 1) := by decide +kernel
theorem dX2_joined_98 : decode cX2_joined 98 = .ok (.iload_n 1, 1) := by decide +kernel
theorem dX2_joined_99 : decode cX2_joined 99 = .ok (.iload_n 2, 1) := by decide +kernel
theorem dX2_joined_100 : decode cX2_joined 100 = .ok (.imul, 1) := by decide +kernel
theorem dX2_joined_101 : decode cX2_joined 101 = .ok (.ireturn, 1) := by decide +kernel
theorem dX3_init_0 : decode cX3_init 0 = .ok (.aload_n 0, 1) := by decide +kernel
theorem dX3_init_1 : decode cX3_init 1 = .ok (.invokespecial 1, 3) := by decide +kernel
theorem dX3_init_4 : decode cX3_init 4 = .ok (.aload_n 0, 1) := by decide +kernel
theorem dX3_init_5 : decode cX3_init 5 = .ok (.new 7, 3) := by decide +kernel
theorem dX3_init_8 : decode cX3_init 8 = .ok (.dup, 1) := by decide +kernel
theorem dX3_init_9 : decode cX3_init 9 = .ok (.invokespecial 9, 3) := by decide +kernel
theorem dX3_init_12 : decode cX3_init 12 = .ok (.putfield 10, 3) := by decide +kernel
theorem dX3_init_15 : decode cX3_init 15 = .ok (.aload_n 0, 1) := by decide +kernel
theorem dX3_init_16 : decode cX3_init 16 = .ok (.new 16, 3) := by decide +kernel
theorem dX3_init_19 : decode cX3_init 19 = .ok (.dup, 1) := by decide +kernel
theorem dX3_init_20 : decode cX3_init 20 = .ok (.invokespecial 18, 3) := by decide +kernel
theorem dX3_init_23 : decode cX3_init 23 = .ok (.putfield 19, 3) := by decide +kernel
theorem dX3_init_26 : decode cX3_init 26 = .ok (.aload_n 0, 1) := by decide +kernel
theorem dX3_init_27 : decode cX3_init 27 = .ok (.new 23, 3) := by decide +kernel
theorem dX3_init_30 : decode cX3_init 30 = .ok (.dup, 1) := by decide +kernel
theorem dX3_init_31 : decode cX3_init 31 = .ok (.invokespecial 25, 3) := by decide +kernel
theorem dX3_init_34 : decode cX3_init 34 = .ok (.putfield 26, 3) := by decide +kernel
theorem dX3_init_37 : decode cX3_init 37 = .ok (.return_, 1) := by decide +kernel
theorem dX3_lay_0 : decode cX3_lay 0 = .ok (.aload_n 0, 1) := by decide +kernel
theorem dX3_lay_1 : decode cX3_lay 1 = .ok (.getfield 10, 3) := by decide +kernel
theorem dX3_lay_4 : decode cX3_lay 4 = .ok (.aload_n 1, 1) := by decide +kernel
theorem dX3_lay_5 : decode cX3_lay 5 = .ok (.invokevirtual 30, 3) := by decide +kernel
theorem dX3_lay_8 : decode cX3_lay 8 = .ok (.aload_n 0, 1) := by decide +kernel
theorem dX3_lay_9 : decode cX3_lay 9 = .ok (.getfield 19, 3) := by decide +kernel
theorem dX3_lay_12 : decode cX3_lay 12 = .ok (.aload_n 2, 1) := by decide +kernel
theorem dX3_lay_13 : decode cX3_lay 13 = .ok (.invokevirtual 34, 3) := by decide +kernel
theorem dX3_lay_16 : decode cX3_lay 16 = .ok (.aload_n 0, 1) := by decide +kernel
theorem dX3_lay_17 : decode cX3_lay 17 = .ok (.getfield 26, 3) := by decide +kernel
theorem dX3_lay_20 : decode cX3_lay 20 = .ok (.aload_n 3, 1) := by decide +kernel
theorem dX3_lay_21 : decode cX3_lay 21 = .ok (.invokevirtual 37, 3) := by decide +kernel
theorem dX3_lay_24 : decode cX3_lay 24 = .ok (.aload_n 0, 1) := by decide +kernel
theorem dX3_lay_25 : decode cX3_lay 25 = .ok (.iconst 1, 1) := by decide +kernel
theorem dX3_lay_26 : decode cX3_lay 26 = .ok (.putfield 40, 3) := by decide +kernel
theorem dX3_lay_29 : decode cX3_lay 29 = .ok (.return_, 1) := by decide +kernel
theorem dX3_bringBack_0 : decode cX3_bringBack 0 = .ok (.aload_n 1, 1) := by decide +kernel
theorem dX3_bringBack_1 : decode cX3_bringBack 1 = .ok (.aload_n 0, 1) := by decide +kernel
theorem dX3_bringBack_2 : decode cX3_bringBack 2 = .ok (.getfield 10, 3) := by decide +kernel
theorem dX3_bringBack_5 : decode cX3_bringBack 5 = .ok (.invokevirtual 30, 3) := by decide +kernel
theorem dX3_bringBack_8 : decode cX3_bringBack 8 = .ok (.aload_n 2, 1) := by decide +kernel
theorem dX3_bringBack_9 : decode cX3_bringBack 9 = .ok (.aload_n 0, 1) := by decide +kernel
theorem dX3_bringBack_10 : decode cX3_bringBack 10 = .ok (.getfield 19, 3) := by decide +kernel
theorem dX3_bringBack_13 : decode cX3_bringBack 13 = .ok (.invokevirtual 34, 3) := by decide +kernel
theorem dX3_bringBack_16 : decode cX3_bringBack 16 = .ok (.aload_n 3, 1) := by decide +kernel
theorem dX3_bringBack_17 : decode cX3_bringBack 17 = .ok (.aload_n 0, 1) := by decide +kernel
theorem dX3_bringBack_18 : decode cX3_bringBack 18 = .ok (.getfield 26, 3) := by decide +kernel
theorem dX3_bringBack_21 : decode cX3_bringBack 21 = .ok (.invokevirtual 37, 3) := by decide +kernel
theorem dX3_bringBack_24 : decode cX3_bringBack 24 = .ok (.return_, 1) := by decide +kernel
theorem dX4_init_0 : decode cX4_init 0 = .ok (.aload_n 0, 1) := by decide +kernel
theorem dX4_init_1 : decode cX4_init 1 = .ok (.invokespecial 3, 3) := by decide +kernel
theorem dX4_init_4 : decode cX4_init 4 = .ok (.aload_n 0, 1) := by decide +kernel
theorem dX4_init_5 : decode cX4_init 5 = .ok (.bipush 18, 2) := by decide +kernel
theorem dX4_init_7 : decode cX4_init 7 = .ok (.newarray .int, 2) := by decide +kernel
theorem dX4_init_9 : decode cX4_init 9 = .ok (.putfield 9, 3) := by decide +kernel
theorem dX4_init_12 : decode cX4_init 12 = .ok (.return_, 1) := by decide +kernel
theorem dX4_learn_0 : decode cX4_learn 0 = .ok (.aload_n 0, 1) := by decide +kernel
theorem dX4_learn_1 : decode cX4_learn 1 = .ok (.getfield 15, 3) := by decide +kernel
theorem dX4_learn_4 : decode cX4_learn 4 = .ok (.iconst 1, 1) := by decide +kernel
theorem dX4_learn_5 : decode cX4_learn 5 = .ok (.if_icmp .ne 11, 3) := by decide +kernel
theorem dX4_learn_8 : decode cX4_learn 8 = .ok (.iconst 3, 1) := by decide +kernel
theorem dX4_learn_9 : decode cX4_learn 9 = .ok (.iload_n 2, 1) := by decide +kernel
theorem dX4_learn_10 : decode cX4_learn 10 = .ok (.invokestatic 19, 3) := by decide +kernel
theorem dX4_learn_13 : decode cX4_learn 13 = .ok (.goto 4, 3) := by decide +kernel
theorem dX4_learn_16 : decode cX4_learn 16 = .ok (.iload_n 2, 1) := by decide +kernel
theorem dX4_learn_17 : decode cX4_learn 17 = .ok (.istore_n 3, 1) := by decide +kernel
theorem dX4_learn_18 : decode cX4_learn 18 = .ok (.aload_n 0, 1) := by decide +kernel
theorem dX4_learn_19 : decode cX4_learn 19 = .ok (.getfield 15, 3) := by decide +kernel
theorem dX4_learn_22 : decode cX4_learn 22 = .ok (.iconst 2, 1) := by decide +kernel
theorem dX4_learn_23 : decode cX4_learn 23 = .ok (.if_icmp .ne 7, 3) := by decide +kernel
theorem dX4_learn_26 : decode cX4_learn 26 = .ok (.iconst 2, 1) := by decide +kernel
theorem dX4_learn_27 : decode cX4_learn 27 = .ok (.goto 4, 3) := by decide +kernel
theorem dX4_learn_30 : decode cX4_learn 30 = .ok (.iconst 1, 1) := by decide +kernel
theorem dX4_learn_31 : decode cX4_learn 31 = .ok (.istore 4, 2) := by decide +kernel
theorem dX4_learn_33 : decode cX4_learn 33 = .ok (.aload_n 0, 1) := by decide +kernel
theorem dX4_learn_34 : decode cX4_learn 34 = .ok (.iconst 0, 1) := by decide +kernel
theorem dX4_learn_35 : decode cX4_learn 35 = .ok (.putfield 25, 3) := by decide +kernel
theorem dX4_learn_38 : decode cX4_learn 38 = .ok (.iconst 0, 1) := by decide +kernel
theorem dX4_learn_39 : decode cX4_learn 39 = .ok (.istore 5, 2) := by decide +kernel
theorem dX4_learn_41 : decode cX4_learn 41 = .ok (.iload 5, 2) := by decide +kernel
theorem dX4_learn_43 : decode cX4_learn 43 = .ok (.iload 4, 2) := by decide +kernel
theorem dX4_learn_45 : decode cX4_learn 45 = .ok (.if_icmp .ge 70, 3) := by decide +kernel
theorem dX4_learn_48 : decode cX4_learn 48 = .ok (.iconst 0, 1) := by decide +kernel
theorem dX4_learn_49 : decode cX4_learn 49 = .ok (.istore 6, 2) := by decide +kernel
theorem dX4_learn_51 : decode cX4_learn 51 = .ok (.iload 6, 2) := by decide +kernel
theorem dX4_learn_53 : decode cX4_learn 53 = .ok (.iload_n 3, 1) := by decide +kernel
theorem dX4_learn_54 : decode cX4_learn 54 = .ok (.if_icmp .ge 55, 3) := by decide +kernel
theorem dX4_learn_57 : decode cX4_learn 57 = .ok (.iload 6, 2) := by decide +kernel
theorem dX4_learn_59 : decode cX4_learn 59 = .ok (.aload_n 1, 1) := by decide +kernel
theorem dX4_learn_60 : decode cX4_learn 60 = .ok (.arraylength, 1) := by decide +kernel
theorem dX4_learn_61 : decode cX4_learn 61 = .ok (.if_icmp .ge 48, 3) := by decide +kernel
theorem dX4_learn_64 : decode cX4_learn 64 = .ok (.aload_n 0, 1) := by decide +kernel
theorem dX4_learn_65 : decode cX4_learn 65 = .ok (.getfield 25, 3) := by decide +kernel
theorem dX4_learn_68 : decode cX4_learn 68 = .ok (.ifCond .lt 35, 3) := by decide +kernel
theorem dX4_learn_71 : decode cX4_learn 71 = .ok (.aload_n 0, 1) := by decide +kernel
theorem dX4_learn_72 : decode cX4_learn 72 = .ok (.getfield 25, 3) := by decide +kernel
theorem dX4_learn_75 : decode cX4_learn 75 = .ok (.bipush 18, 2) := by decide +kernel
theorem dX4_learn_77 : decode cX4_learn 77 = .ok (.if_icmp .ge 26, 3) := by decide +kernel
theorem dX4_learn_80 : decode cX4_learn 80 = .ok (.aload_n 0, 1) := by decide +kernel
theorem dX4_learn_81 : decode cX4_learn 81 = .ok (.getfield 9, 3) := by decide +kernel
theorem dX4_learn_84 : decode cX4_learn 84 = .ok (.aload_n 0, 1) := by decide +kernel
theorem dX4_learn_85 : decode cX4_learn 85 = .ok (.getfield 25, 3) := by decide +kernel
theorem dX4_learn_88 : decode cX4_learn 88 = .ok (.aload_n 1, 1) := by decide +kernel
theorem dX4_learn_89 : decode cX4_learn 89 = .ok (.iload 6, 2) := by decide +kernel
theorem dX4_learn_91 : decode cX4_learn 91 = .ok (.iaload, 1) := by decide +kernel
theorem dX4_learn_92 : decode cX4_learn 92 = .ok (.iastore, 1) := by decide +kernel
theorem dX4_learn_93 : decode cX4_learn 93 = .ok (.aload_n 0, 1) := by decide +kernel
theorem dX4_learn_94 : decode cX4_learn 94 = .ok (.dup, 1) := by decide +kernel
theorem dX4_learn_95 : decode cX4_learn 95 = .ok (.getfield 25, 3) := by decide +kernel
theorem dX4_learn_98 : decode cX4_learn 98 = .ok (.iconst 1, 1) := by decide +kernel
theorem dX4_learn_99 : decode cX4_learn 99 = .ok (.iadd, 1) := by decide +kernel
theorem dX4_learn_100 : decode cX4_learn 100 = .ok (.putfield 25, 3) := by decide +kernel
theorem dX4_learn_103 : decode cX4_learn 103 = .ok (.iinc 6 1, 3) := by decide +kernel
theorem dX4_learn_106 : decode cX4_learn 106 = .ok (.goto (-55), 3) := by decide +kernel
theorem dX4_learn_109 : decode cX4_learn 109 = .ok (.iinc 5 1, 3) := by decide +kernel
theorem dX4_learn_112 : decode cX4_learn 112 = .ok (.goto (-71), 3) := by decide +kernel
theorem dX4_learn_115 : decode cX4_learn 115 = .ok (.return_, 1) := by decide +kernel
theorem dX4_strikesOn_0 : decode cX4_strikesOn 0 = .ok (.iconst 0, 1) := by decide +kernel
theorem dX4_strikesOn_1 : decode cX4_strikesOn 1 = .ok (.istore_n 2, 1) := by decide +kernel
theorem dX4_strikesOn_2 : decode cX4_strikesOn 2 = .ok (.iconst 0, 1) := by decide +kernel
theorem dX4_strikesOn_3 : decode cX4_strikesOn 3 = .ok (.istore_n 3, 1) := by decide +kernel
theorem dX4_strikesOn_4 : decode cX4_strikesOn 4 = .ok (.iload_n 3, 1) := by decide +kernel
theorem dX4_strikesOn_5 : decode cX4_strikesOn 5 = .ok (.aload_n 0, 1) := by decide +kernel
theorem dX4_strikesOn_6 : decode cX4_strikesOn 6 = .ok (.getfield 25, 3) := by decide +kernel
theorem dX4_strikesOn_9 : decode cX4_strikesOn 9 = .ok (.if_icmp .ge 28, 3) := by decide +kernel
theorem dX4_strikesOn_12 : decode cX4_strikesOn 12 = .ok (.iload_n 3, 1) := by decide +kernel
theorem dX4_strikesOn_13 : decode cX4_strikesOn 13 = .ok (.bipush 18, 2) := by decide +kernel
theorem dX4_strikesOn_15 : decode cX4_strikesOn 15 = .ok (.if_icmp .ge 22, 3) := by decide +kernel
theorem dX4_strikesOn_18 : decode cX4_strikesOn 18 = .ok (.aload_n 0, 1) := by decide +kernel
theorem dX4_strikesOn_19 : decode cX4_strikesOn 19 = .ok (.getfield 9, 3) := by decide +kernel
theorem dX4_strikesOn_22 : decode cX4_strikesOn 22 = .ok (.iload_n 3, 1) := by decide +kernel
theorem dX4_strikesOn_23 : decode cX4_strikesOn 23 = .ok (.iaload, 1) := by decide +kernel
theorem dX4_strikesOn_24 : decode cX4_strikesOn 24 = .ok (.iload_n 1, 1) := by decide +kernel
theorem dX4_strikesOn_25 : decode cX4_strikesOn 25 = .ok (.if_icmp .ne 6, 3) := by decide +kernel
theorem dX4_strikesOn_28 : decode cX4_strikesOn 28 = .ok (.iinc 2 1, 3) := by decide +kernel
theorem dX4_strikesOn_31 : decode cX4_strikesOn 31 = .ok (.iinc 3 1, 3) := by decide +kernel
theorem dX4_strikesOn_34 : decode cX4_strikesOn 34 = .ok (.goto (-30), 3) := by decide +kernel
theorem dX4_strikesOn_37 : decode cX4_strikesOn 37 = .ok (.iload_n 2, 1) := by decide +kernel
theorem dX4_strikesOn_38 : decode cX4_strikesOn 38 = .ok (.ireturn, 1) := by decide +kernel
theorem dX4_playsFor_0 : decode cX4_playsFor 0 = .ok (.aload_n 0, 1) := by decide +kernel
theorem dX4_playsFor_1 : decode cX4_playsFor 1 = .ok (.getfield 15, 3) := by decide +kernel
theorem dX4_playsFor_4 : decode cX4_playsFor 4 = .ok (.iconst 3, 1) := by decide +kernel
theorem dX4_playsFor_5 : decode cX4_playsFor 5 = .ok (.if_icmp .ne 10, 3) := by decide +kernel
theorem dX4_playsFor_8 : decode cX4_playsFor 8 = .ok (.aload_n 0, 1) := by decide +kernel
theorem dX4_playsFor_9 : decode cX4_playsFor 9 = .ok (.getfield 28, 3) := by decide +kernel
theorem dX4_playsFor_12 : decode cX4_playsFor 12 = .ok (.goto 11, 3) := by decide +kernel
theorem dX4_playsFor_15 : decode cX4_playsFor 15 = .ok (.aload_n 0, 1) := by decide +kernel
theorem dX4_playsFor_16 : decode cX4_playsFor 16 = .ok (.getfield 28, 3) := by decide +kernel
theorem dX4_playsFor_19 : decode cX4_playsFor 19 = .ok (.iload_n 1, 1) := by decide +kernel
theorem dX4_playsFor_20 : decode cX4_playsFor 20 = .ok (.invokestatic 19, 3) := by decide +kernel
theorem dX4_playsFor_23 : decode cX4_playsFor 23 = .ok (.ireturn, 1) := by decide +kernel
theorem dX4_daresBefore_0 : decode cX4_daresBefore 0 = .ok (.aload_n 0, 1) := by decide +kernel
theorem dX4_daresBefore_1 : decode cX4_daresBefore 1 = .ok (.getfield 15, 3) := by decide +kernel
theorem dX4_daresBefore_4 : decode cX4_daresBefore 4 = .ok (.iconst 2, 1) := by decide +kernel
theorem dX4_daresBefore_5 : decode cX4_daresBefore 5 = .ok (.if_icmp .eq 14, 3) := by decide +kernel
theorem dX4_daresBefore_8 : decode cX4_daresBefore 8 = .ok (.aload_n 0, 1) := by decide +kernel
theorem dX4_daresBefore_9 : decode cX4_daresBefore 9 = .ok (.getfield 31, 3) := by decide +kernel
theorem dX4_daresBefore_12 : decode cX4_daresBefore 12 = .ok (.iload_n 1, 1) := by decide +kernel
theorem dX4_daresBefore_13 : decode cX4_daresBefore 13 = .ok (.iadd, 1) := by decide +kernel
theorem dX4_daresBefore_14 : decode cX4_daresBefore 14 = .ok (.bipush 9, 2) := by decide +kernel
theorem dX4_daresBefore_16 : decode cX4_daresBefore 16 = .ok (.if_icmp .gt 7, 3) := by decide +kernel
theorem dX4_daresBefore_19 : decode cX4_daresBefore 19 = .ok (.iconst 1, 1) := by decide +kernel
theorem dX4_daresBefore_20 : decode cX4_daresBefore 20 = .ok (.goto 4, 3) := by decide +kernel
theorem dX4_daresBefore_23 : decode cX4_daresBefore 23 = .ok (.iconst 0, 1) := by decide +kernel
theorem dX4_daresBefore_24 : decode cX4_daresBefore 24 = .ok (.ireturn, 1) := by decide +kernel
theorem dX5_init_0 : decode cX5_init 0 = .ok (.aload_n 0, 1) := by decide +kernel
theorem dX5_init_1 : decode cX5_init 1 = .ok (.invokespecial 3, 3) := by decide +kernel
theorem dX5_init_4 : decode cX5_init 4 = .ok (.aload_n 0, 1) := by decide +kernel
theorem dX5_init_5 : decode cX5_init 5 = .ok (.aload_n 1, 1) := by decide +kernel
theorem dX5_init_6 : decode cX5_init 6 = .ok (.putfield 9, 3) := by decide +kernel
theorem dX5_init_9 : decode cX5_init 9 = .ok (.return_, 1) := by decide +kernel
theorem dX5_readStation_0 : decode cX5_readStation 0 = .ok (.aload_n 1, 1) := by decide +kernel
theorem dX5_readStation_1 : decode cX5_readStation 1 = .ok (.invokevirtual 15, 3) := by decide +kernel
theorem dX5_readStation_4 : decode cX5_readStation 4 = .ok (.aload_n 0, 1) := by decide +kernel
theorem dX5_readStation_5 : decode cX5_readStation 5 = .ok (.iconst 0, 1) := by decide +kernel
theorem dX5_readStation_6 : decode cX5_readStation 6 = .ok (.putfield 20, 3) := by decide +kernel
theorem dX5_readStation_9 : decode cX5_readStation 9 = .ok (.aload_n 0, 1) := by decide +kernel
theorem dX5_readStation_10 : decode cX5_readStation 10 = .ok (.getfield 9, 3) := by decide +kernel
theorem dX5_readStation_13 : decode cX5_readStation 13 = .ok (.invokevirtual 24, 3) := by decide +kernel
theorem dX5_readStation_16 : decode cX5_readStation 16 = .ok (.iconst 0, 1) := by decide +kernel
theorem dX5_readStation_17 : decode cX5_readStation 17 = .ok (.istore_n 2, 1) := by decide +kernel
theorem dX5_readStation_18 : decode cX5_readStation 18 = .ok (.iload_n 2, 1) := by decide +kernel
theorem dX5_readStation_19 : decode cX5_readStation 19 = .ok (.sipush 1000, 3) := by decide +kernel
theorem dX5_readStation_22 : decode cX5_readStation 22 = .ok (.if_icmp .gt 34, 3) := by decide +kernel
theorem dX5_readStation_25 : decode cX5_readStation 25 = .ok (.aload_n 0, 1) := by decide +kernel
theorem dX5_readStation_26 : decode cX5_readStation 26 = .ok (.getfield 9, 3) := by decide +kernel
theorem dX5_readStation_29 : decode cX5_readStation 29 = .ok (.getfield 29, 3) := by decide +kernel
theorem dX5_readStation_32 : decode cX5_readStation 32 = .ok (.bipush 101, 2) := by decide +kernel
theorem dX5_readStation_34 : decode cX5_readStation 34 = .ok (.if_icmp .eq 22, 3) := by decide +kernel
theorem dX5_readStation_37 : decode cX5_readStation 37 = .ok (.aload_n 0, 1) := by decide +kernel
theorem dX5_readStation_38 : decode cX5_readStation 38 = .ok (.aload_n 1, 1) := by decide +kernel
theorem dX5_readStation_39 : decode cX5_readStation 39 = .ok (.invokevirtual 32, 3) := by decide +kernel
theorem dX5_readStation_42 : decode cX5_readStation 42 = .ok (.ifCond .ne 8, 3) := by decide +kernel
theorem dX5_readStation_45 : decode cX5_readStation 45 = .ok (.aload_n 0, 1) := by decide +kernel
theorem dX5_readStation_46 : decode cX5_readStation 46 = .ok (.getfield 20, 3) := by decide +kernel
theorem dX5_readStation_49 : decode cX5_readStation 49 = .ok (.ireturn, 1) := by decide +kernel
theorem dX5_readStation_50 : decode cX5_readStation 50 = .ok (.iinc 2 1, 3) := by decide +kernel
theorem dX5_readStation_53 : decode cX5_readStation 53 = .ok (.goto (-35), 3) := by decide +kernel
theorem dX5_readStation_56 : decode cX5_readStation 56 = .ok (.iconst 0, 1) := by decide +kernel
theorem dX5_readStation_57 : decode cX5_readStation 57 = .ok (.ireturn, 1) := by decide +kernel
theorem dX5_readWeek_0 : decode cX5_readWeek 0 = .ok (.aload_n 1, 1) := by decide +kernel
theorem dX5_readWeek_1 : decode cX5_readWeek 1 = .ok (.iconst 0, 1) := by decide +kernel
theorem dX5_readWeek_2 : decode cX5_readWeek 2 = .ok (.putfield 36, 3) := by decide +kernel
theorem dX5_readWeek_5 : decode cX5_readWeek 5 = .ok (.aload_n 0, 1) := by decide +kernel
theorem dX5_readWeek_6 : decode cX5_readWeek 6 = .ok (.iconst 0, 1) := by decide +kernel
theorem dX5_readWeek_7 : decode cX5_readWeek 7 = .ok (.putfield 20, 3) := by decide +kernel
theorem dX5_readWeek_10 : decode cX5_readWeek 10 = .ok (.aload_n 0, 1) := by decide +kernel
theorem dX5_readWeek_11 : decode cX5_readWeek 11 = .ok (.getfield 9, 3) := by decide +kernel
theorem dX5_readWeek_14 : decode cX5_readWeek 14 = .ok (.invokevirtual 24, 3) := by decide +kernel
theorem dX5_readWeek_17 : decode cX5_readWeek 17 = .ok (.iconst 0, 1) := by decide +kernel
theorem dX5_readWeek_18 : decode cX5_readWeek 18 = .ok (.istore_n 2, 1) := by decide +kernel
theorem dX5_readWeek_19 : decode cX5_readWeek 19 = .ok (.iload_n 2, 1) := by decide +kernel
theorem dX5_readWeek_20 : decode cX5_readWeek 20 = .ok (.sipush 1000, 3) := by decide +kernel
theorem dX5_readWeek_23 : decode cX5_readWeek 23 = .ok (.if_icmp .gt 34, 3) := by decide +kernel
theorem dX5_readWeek_26 : decode cX5_readWeek 26 = .ok (.aload_n 0, 1) := by decide +kernel
theorem dX5_readWeek_27 : decode cX5_readWeek 27 = .ok (.getfield 9, 3) := by decide +kernel
theorem dX5_readWeek_30 : decode cX5_readWeek 30 = .ok (.getfield 29, 3) := by decide +kernel
theorem dX5_readWeek_33 : decode cX5_readWeek 33 = .ok (.bipush 101, 2) := by decide +kernel
theorem dX5_readWeek_35 : decode cX5_readWeek 35 = .ok (.if_icmp .eq 22, 3) := by decide +kernel
theorem dX5_readWeek_38 : decode cX5_readWeek 38 = .ok (.aload_n 0, 1) := by decide +kernel
theorem dX5_readWeek_39 : decode cX5_readWeek 39 = .ok (.aload_n 1, 1) := by decide +kernel
theorem dX5_readWeek_40 : decode cX5_readWeek 40 = .ok (.invokevirtual 41, 3) := by decide +kernel
theorem dX5_readWeek_43 : decode cX5_readWeek 43 = .ok (.ifCond .ne 8, 3) := by decide +kernel
theorem dX5_readWeek_46 : decode cX5_readWeek 46 = .ok (.aload_n 0, 1) := by decide +kernel
theorem dX5_readWeek_47 : decode cX5_readWeek 47 = .ok (.getfield 20, 3) := by decide +kernel
theorem dX5_readWeek_50 : decode cX5_readWeek 50 = .ok (.ireturn, 1) := by decide +kernel
theorem dX5_readWeek_51 : decode cX5_readWeek 51 = .ok (.iinc 2 1, 3) := by decide +kernel
theorem dX5_readWeek_54 : decode cX5_readWeek 54 = .ok (.goto (-35), 3) := by decide +kernel
theorem dX5_readWeek_57 : decode cX5_readWeek 57 = .ok (.iconst 0, 1) := by decide +kernel
theorem dX5_readWeek_58 : decode cX5_readWeek 58 = .ok (.ireturn, 1) := by decide +kernel
theorem dX5_wrong_0 : decode cX5_wrong 0 = .ok (.aload_n 0, 1) := by decide +kernel
theorem dX5_wrong_1 : decode cX5_wrong 1 = .ok (.iload_n 1, 1) := by decide +kernel
theorem dX5_wrong_2 : decode cX5_wrong 2 = .ok (.bipush 16, 2) := by decide +kernel
theorem dX5_wrong_4 : decode cX5_wrong 4 = .ok (.aload_n 0, 1) := by decide +kernel
theorem dX5_wrong_5 : decode cX5_wrong 5 = .ok (.getfield 9, 3) := by decide +kernel
theorem dX5_wrong_8 : decode cX5_wrong 8 = .ok (.getfield 45, 3) := by decide +kernel
theorem dX5_wrong_11 : decode cX5_wrong 11 = .ok (.imul, 1) := by decide +kernel
theorem dX5_wrong_12 : decode cX5_wrong 12 = .ok (.iadd, 1) := by decide +kernel
theorem dX5_wrong_13 : decode cX5_wrong 13 = .ok (.putfield 20, 3) := by decide +kernel
theorem dX5_wrong_16 : decode cX5_wrong 16 = .ok (.iconst 0, 1) := by decide +kernel
theorem dX5_wrong_17 : decode cX5_wrong 17 = .ok (.ireturn, 1) := by decide +kernel
theorem dX5_take_0 : decode cX5_take 0 = .ok (.aload_n 0, 1) := by decide +kernel
theorem dX5_take_1 : decode cX5_take 1 = .ok (.getfield 9, 3) := by decide +kernel
theorem dX5_take_4 : decode cX5_take 4 = .ok (.getfield 29, 3) := by decide +kernel
theorem dX5_take_7 : decode cX5_take 7 = .ok (.iload_n 1, 1) := by decide +kernel
theorem dX5_take_8 : decode cX5_take 8 = .ok (.if_icmp .eq 9, 3) := by decide +kernel
theorem dX5_take_11 : decode cX5_take 11 = .ok (.aload_n 0, 1) := by decide +kernel
theorem dX5_take_12 : decode cX5_take 12 = .ok (.iconst 1, 1) := by decide +kernel
theorem dX5_take_13 : decode cX5_take 13 = .ok (.invokevirtual 48, 3) := by decide +kernel
theorem dX5_take_16 : decode cX5_take 16 = .ok (.ireturn, 1) := by decide +kernel
theorem dX5_take_17 : decode cX5_take 17 = .ok (.aload_n 0, 1) := by decide +kernel
theorem dX5_take_18 : decode cX5_take 18 = .ok (.getfield 9, 3) := by decide +kernel
theorem dX5_take_21 : decode cX5_take 21 = .ok (.invokevirtual 52, 3) := by decide +kernel
theorem dX5_take_24 : decode cX5_take 24 = .ok (.iconst 1, 1) := by decide +kernel
theorem dX5_take_25 : decode cX5_take 25 = .ok (.ireturn, 1) := by decide +kernel
theorem dX5_takeNumber_0 : decode cX5_takeNumber 0 = .ok (.aload_n 0, 1) := by decide +kernel
theorem dX5_takeNumber_1 : decode cX5_takeNumber 1 = .ok (.getfield 9, 3) := by decide +kernel
theorem dX5_takeNumber_4 : decode cX5_takeNumber 4 = .ok (.getfield 29, 3) := by decide +kernel
theorem dX5_takeNumber_7 : decode cX5_takeNumber 7 = .ok (.bipush 100, 2) := by decide +kernel
theorem dX5_takeNumber_9 : decode cX5_takeNumber 9 = .ok (.if_icmp .eq 9, 3) := by decide +kernel
theorem dX5_takeNumber_12 : decode cX5_takeNumber 12 = .ok (.aload_n 0, 1) := by decide +kernel
theorem dX5_takeNumber_13 : decode cX5_takeNumber 13 = .ok (.iconst 1, 1) := by decide +kernel
theorem dX5_takeNumber_14 : decode cX5_takeNumber 14 = .ok (.invokevirtual 48, 3) := by decide +kernel
theorem dX5_takeNumber_17 : decode cX5_takeNumber 17 = .ok (.ireturn, 1) := by decide +kernel
theorem dX5_takeNumber_18 : decode cX5_takeNumber 18 = .ok (.aload_n 0, 1) := by decide +kernel
theorem dX5_takeNumber_19 : decode cX5_takeNumber 19 = .ok (.getfield 9, 3) := by decide +kernel
theorem dX5_takeNumber_22 : decode cX5_takeNumber 22 = .ok (.getfield 55, 3) := by decide +kernel
theorem dX5_takeNumber_25 : decode cX5_takeNumber 25 = .ok (.iload_n 1, 1) := by decide +kernel
theorem dX5_takeNumber_26 : decode cX5_takeNumber 26 = .ok (.if_icmp .lt 14, 3) := by decide +kernel
theorem dX5_takeNumber_29 : decode cX5_takeNumber 29 = .ok (.aload_n 0, 1) := by decide +kernel
theorem dX5_takeNumber_30 : decode cX5_takeNumber 30 = .ok (.getfield 9, 3) := by decide +kernel
theorem dX5_takeNumber_33 : decode cX5_takeNumber 33 = .ok (.getfield 55, 3) := by decide +kernel
theorem dX5_takeNumber_36 : decode cX5_takeNumber 36 = .ok (.iload_n 2, 1) := by decide +kernel
theorem dX5_takeNumber_37 : decode cX5_takeNumber 37 = .ok (.if_icmp .le 9, 3) := by decide +kernel
theorem dX5_takeNumber_40 : decode cX5_takeNumber 40 = .ok (.aload_n 0, 1) := by decide +kernel
theorem dX5_takeNumber_41 : decode cX5_takeNumber 41 = .ok (.iconst 4, 1) := by decide +kernel
theorem dX5_takeNumber_42 : decode cX5_takeNumber 42 = .ok (.invokevirtual 48, 3) := by decide +kernel
theorem dX5_takeNumber_45 : decode cX5_takeNumber 45 = .ok (.ireturn, 1) := by decide +kernel
theorem dX5_takeNumber_46 : decode cX5_takeNumber 46 = .ok (.aload_n 0, 1) := by decide +kernel
theorem dX5_takeNumber_47 : decode cX5_takeNumber 47 = .ok (.aload_n 0, 1) := by decide +kernel
theorem dX5_takeNumber_48 : decode cX5_takeNumber 48 = .ok (.getfield 9, 3) := by decide +kernel
theorem dX5_takeNumber_51 : decode cX5_takeNumber 51 = .ok (.getfield 55, 3) := by decide +kernel
theorem dX5_takeNumber_54 : decode cX5_takeNumber 54 = .ok (.putfield 58, 3) := by decide +kernel
theorem dX5_takeNumber_57 : decode cX5_takeNumber 57 = .ok (.aload_n 0, 1) := by decide +kernel
theorem dX5_takeNumber_58 : decode cX5_takeNumber 58 = .ok (.getfield 9, 3) := by decide +kernel
theorem dX5_takeNumber_61 : decode cX5_takeNumber 61 = .ok (.invokevirtual 52, 3) := by decide +kernel
theorem dX5_takeNumber_64 : decode cX5_takeNumber 64 = .ok (.iconst 1, 1) := by decide +kernel
theorem dX5_takeNumber_65 : decode cX5_takeNumber 65 = .ok (.ireturn, 1) := by decide +kernel
theorem dX5_takeValue_0 : decode cX5_takeValue 0 = .ok (.aload_n 0, 1) := by decide +kernel
theorem dX5_takeValue_1 : decode cX5_takeValue 1 = .ok (.iload_n 1, 1) := by decide +kernel
theorem dX5_takeValue_2 : decode cX5_takeValue 2 = .ok (.invokevirtual 61, 3) := by decide +kernel
theorem dX5_takeValue_5 : decode cX5_takeValue 5 = .ok (.ifCond .eq 16, 3) := by decide +kernel
theorem dX5_takeValue_8 : decode cX5_takeValue 8 = .ok (.aload_n 0, 1) := by decide +kernel
theorem dX5_takeValue_9 : decode cX5_takeValue 9 = .ok (.iload_n 2, 1) := by decide +kernel
theorem dX5_takeValue_10 : decode cX5_takeValue 10 = .ok (.iload_n 3, 1) := by decide +kernel
theorem dX5_takeValue_11 : decode cX5_takeValue 11 = .ok (.invokevirtual 64, 3) := by decide +kernel
theorem dX5_takeValue_14 : decode cX5_takeValue 14 = .ok (.ifCond .eq 7, 3) := by decide +kernel
theorem dX5_takeValue_17 : decode cX5_takeValue 17 = .ok (.iconst 1, 1) := by decide +kernel
theorem dX5_takeValue_18 : decode cX5_takeValue 18 = .ok (.goto 4, 3) := by decide +kernel
theorem dX5_takeValue_21 : decode cX5_takeValue 21 = .ok (.iconst 0, 1) := by decide +kernel
theorem dX5_takeValue_22 : decode cX5_takeValue 22 = .ok (.ireturn, 1) := by decide +kernel
theorem dX5_isName_0 : decode cX5_isName 0 = .ok (.aload_n 0, 1) := by decide +kernel
theorem dX5_isName_1 : decode cX5_isName 1 = .ok (.getfield 9, 3) := by decide +kernel
theorem dX5_isName_4 : decode cX5_isName 4 = .ok (.getfield 29, 3) := by decide +kernel
theorem dX5_isName_7 : decode cX5_isName 7 = .ok (.bipush 23, 2) := by decide +kernel
theorem dX5_isName_9 : decode cX5_isName 9 = .ok (.if_icmp .lt 19, 3) := by decide +kernel
theorem dX5_isName_12 : decode cX5_isName 12 = .ok (.aload_n 0, 1) := by decide +kernel
theorem dX5_isName_13 : decode cX5_isName 13 = .ok (.getfield 9, 3) := by decide +kernel
theorem dX5_isName_16 : decode cX5_isName 16 = .ok (.getfield 29, 3) := by decide +kernel
theorem dX5_isName_19 : decode cX5_isName 19 = .ok (.bipush 29, 2) := by decide +kernel
theorem dX5_isName_21 : decode cX5_isName 21 = .ok (.if_icmp .gt 7, 3) := by decide +kernel
theorem dX5_isName_24 : decode cX5_isName 24 = .ok (.iconst 1, 1) := by decide +kernel
theorem dX5_isName_25 : decode cX5_isName 25 = .ok (.goto 4, 3) := by decide +kernel
theorem dX5_isName_28 : decode cX5_isName 28 = .ok (.iconst 0, 1) := by decide +kernel
theorem dX5_isName_29 : decode cX5_isName 29 = .ok (.ireturn, 1) := by decide +kernel
theorem dX5_mayBeNewName_0 : decode cX5_mayBeNewName 0 = .ok (.aload_n 0, 1) := by decide +kernel
theorem dX5_mayBeNewName_1 : decode cX5_mayBeNewName 1 = .ok (.invokevirtual 68, 3) := by decide +kernel
theorem dX5_mayBeNewName_4 : decode cX5_mayBeNewName 4 = .ok (.ifCond .ne 9, 3) := by decide +kernel
theorem dX5_mayBeNewName_7 : decode cX5_mayBeNewName 7 = .ok (.aload_n 0, 1) := by decide +kernel
theorem dX5_mayBeNewName_8 : decode cX5_mayBeNewName 8 = .ok (.iconst 1, 1) := by decide +kernel
theorem dX5_mayBeNewName_9 : decode cX5_mayBeNewName 9 = .ok (.invokevirtual 48, 3) := by decide +kernel
theorem dX5_mayBeNewName_12 : decode cX5_mayBeNewName 12 = .ok (.ireturn, 1) := by decide +kernel
theorem dX5_mayBeNewName_13 : decode cX5_mayBeNewName 13 = .ok (.aload_n 1, 1) := by decide +kernel
theorem dX5_mayBeNewName_14 : decode cX5_mayBeNewName 14 = .ok (.aload_n 0, 1) := by decide +kernel
theorem dX5_mayBeNewName_15 : decode cX5_mayBeNewName 15 = .ok (.getfield 9, 3) := by decide +kernel
theorem dX5_mayBeNewName_18 : decode cX5_mayBeNewName 18 = .ok (.getfield 72, 3) := by decide +kernel
theorem dX5_mayBeNewName_21 : decode cX5_mayBeNewName 21 = .ok (.invokevirtual 76, 3) := by decide +kernel
theorem dX5_mayBeNewName_24 : decode cX5_mayBeNewName 24 = .ok (.ifCond .eq 11, 3) := by decide +kernel
theorem dX5_mayBeNewName_27 : decode cX5_mayBeNewName 27 = .ok (.aload_n 0, 1) := by decide +kernel
theorem dX5_mayBeNewName_28 : decode cX5_mayBeNewName 28 = .ok (.iconst 3, 1) := by decide +kernel
theorem dX5_mayBeNewName_29 : decode cX5_mayBeNewName 29 = .ok (.invokevirtual 48, 3) := by decide +kernel
theorem dX5_mayBeNewName_32 : decode cX5_mayBeNewName 32 = .ok (.goto 4, 3) := by decide +kernel
theorem dX5_mayBeNewName_35 : decode cX5_mayBeNewName 35 = .ok (.iconst 1, 1) := by decide +kernel
theorem dX5_mayBeNewName_36 : decode cX5_mayBeNewName 36 = .ok (.ireturn, 1) := by decide +kernel
theorem dX5_weekLine_0 : decode cX5_weekLine 0 = .ok (.aload_n 0, 1) := by decide +kernel
theorem dX5_weekLine_1 : decode cX5_weekLine 1 = .ok (.getfield 9, 3) := by decide +kernel
theorem dX5_weekLine_4 : decode cX5_weekLine 4 = .ok (.getfield 29, 3) := by decide +kernel
theorem dX5_weekLine_7 : decode cX5_weekLine 7 = .ok (.istore_n 2, 1) := by decide +kernel
theorem dX5_weekLine_8 : decode cX5_weekLine 8 = .ok (.iload_n 2, 1) := by decide +kernel
theorem dX5_weekLine_9 : decode cX5_weekLine 9 = .ok (.bipush 14, 2) := by decide +kernel
theorem dX5_weekLine_11 : decode cX5_weekLine 11 = .ok (.if_icmp .eq 27, 3) := by decide +kernel
theorem dX5_weekLine_14 : decode cX5_weekLine 14 = .ok (.iload_n 2, 1) := by decide +kernel
theorem dX5_weekLine_15 : decode cX5_weekLine 15 = .ok (.bipush 15, 2) := by decide +kernel
theorem dX5_weekLine_17 : decode cX5_weekLine 17 = .ok (.if_icmp .eq 21, 3) := by decide +kernel
theorem dX5_weekLine_20 : decode cX5_weekLine 20 = .ok (.iload_n 2, 1) := by decide +kernel
theorem dX5_weekLine_21 : decode cX5_weekLine 21 = .ok (.bipush 8, 2) := by decide +kernel
theorem dX5_weekLine_23 : decode cX5_weekLine 23 = .ok (.if_icmp .eq 15, 3) := by decide +kernel
theorem dX5_weekLine_26 : decode cX5_weekLine 26 = .ok (.iload_n 2, 1) := by decide +kernel
theorem dX5_weekLine_27 : decode cX5_weekLine 27 = .ok (.bipush 9, 2) := by decide +kernel
theorem dX5_weekLine_29 : decode cX5_weekLine 29 = .ok (.if_icmp .eq 9, 3) := by decide +kernel
theorem dX5_weekLine_32 : decode cX5_weekLine 32 = .ok (.aload_n 0, 1) := by decide +kernel
theorem dX5_weekLine_33 : decode cX5_weekLine 33 = .ok (.iconst 1, 1) := by decide +kernel
theorem dX5_weekLine_34 : decode cX5_weekLine 34 = .ok (.invokevirtual 48, 3) := by decide +kernel
theorem dX5_weekLine_37 : decode cX5_weekLine 37 = .ok (.ireturn, 1) := by decide +kernel
theorem dX5_weekLine_38 : decode cX5_weekLine 38 = .ok (.aload_n 1, 1) := by decide +kernel
theorem dX5_weekLine_39 : decode cX5_weekLine 39 = .ok (.getfield 36, 3) := by decide +kernel
theorem dX5_weekLine_42 : decode cX5_weekLine 42 = .ok (.bipush 40, 2) := by decide +kernel
theorem dX5_weekLine_44 : decode cX5_weekLine 44 = .ok (.if_icmp .lt 9, 3) := by decide +kernel
theorem dX5_weekLine_47 : decode cX5_weekLine 47 = .ok (.aload_n 0, 1) := by decide +kernel
theorem dX5_weekLine_48 : decode cX5_weekLine 48 = .ok (.iconst 5, 1) := by decide +kernel
theorem dX5_weekLine_49 : decode cX5_weekLine 49 = .ok (.invokevirtual 48, 3) := by decide +kernel
theorem dX5_weekLine_52 : decode cX5_weekLine 52 = .ok (.ireturn, 1) := by decide +kernel
theorem dX5_weekLine_53 : decode cX5_weekLine 53 = .ok (.iconst 0, 1) := by decide +kernel
theorem dX5_weekLine_54 : decode cX5_weekLine 54 = .ok (.istore_n 3, 1) := by decide +kernel
theorem dX5_weekLine_55 : decode cX5_weekLine 55 = .ok (.iconst 0, 1) := by decide +kernel
theorem dX5_weekLine_56 : decode cX5_weekLine 56 = .ok (.istore 4, 2) := by decide +kernel
theorem dX5_weekLine_58 : decode cX5_weekLine 58 = .ok (.aload_n 0, 1) := by decide +kernel
theorem dX5_weekLine_59 : decode cX5_weekLine 59 = .ok (.getfield 9, 3) := by decide +kernel
theorem dX5_weekLine_62 : decode cX5_weekLine 62 = .ok (.invokevirtual 52, 3) := by decide +kernel
theorem dX5_weekLine_65 : decode cX5_weekLine 65 = .ok (.iload_n 2, 1) := by decide +kernel
theorem dX5_weekLine_66 : decode cX5_weekLine 66 = .ok (.bipush 8, 2) := by decide +kernel
theorem dX5_weekLine_68 : decode cX5_weekLine 68 = .ok (.if_icmp .ne 23, 3) := by decide +kernel
theorem dX5_weekLine_71 : decode cX5_weekLine 71 = .ok (.aload_n 0, 1) := by decide +kernel
theorem dX5_weekLine_72 : decode cX5_weekLine 72 = .ok (.iconst 1, 1) := by decide +kernel
theorem dX5_weekLine_73 : decode cX5_weekLine 73 = .ok (.bipush 30, 2) := by decide +kernel
theorem dX5_weekLine_75 : decode cX5_weekLine 75 = .ok (.invokevirtual 64, 3) := by decide +kernel
theorem dX5_weekLine_78 : decode cX5_weekLine 78 = .ok (.ifCond .ne 5, 3) := by decide +kernel
theorem dX5_weekLine_81 : decode cX5_weekLine 81 = .ok (.iconst 0, 1) := by decide +kernel
theorem dX5_weekLine_82 : decode cX5_weekLine 82 = .ok (.ireturn, 1) := by decide +kernel
theorem dX5_weekLine_83 : decode cX5_weekLine 83 = .ok (.aload_n 0, 1) := by decide +kernel
theorem dX5_weekLine_84 : decode cX5_weekLine 84 = .ok (.getfield 58, 3) := by decide +kernel
theorem dX5_weekLine_87 : decode cX5_weekLine 87 = .ok (.istore_n 3, 1) := by decide +kernel
theorem dX5_weekLine_88 : decode cX5_weekLine 88 = .ok (.goto 48, 3) := by decide +kernel
theorem dX5_weekLine_91 : decode cX5_weekLine 91 = .ok (.iload_n 2, 1) := by decide +kernel
theorem dX5_weekLine_92 : decode cX5_weekLine 92 = .ok (.bipush 9, 2) := by decide +kernel
theorem dX5_weekLine_94 : decode cX5_weekLine 94 = .ok (.if_icmp .ne 42, 3) := by decide +kernel
theorem dX5_weekLine_97 : decode cX5_weekLine 97 = .ok (.aload_n 0, 1) := by decide +kernel
theorem dX5_weekLine_98 : decode cX5_weekLine 98 = .ok (.iconst 0, 1) := by decide +kernel
theorem dX5_weekLine_99 : decode cX5_weekLine 99 = .ok (.bipush 59, 2) := by decide +kernel
theorem dX5_weekLine_101 : decode cX5_weekLine 101 = .ok (.invokevirtual 64, 3) := by decide +kernel
theorem dX5_weekLine_104 : decode cX5_weekLine 104 = .ok (.ifCond .ne 5, 3) := by decide +kernel
theorem dX5_weekLine_107 : decode cX5_weekLine 107 = .ok (.iconst 0, 1) := by decide +kernel
theorem dX5_weekLine_108 : decode cX5_weekLine 108 = .ok (.ireturn, 1) := by decide +kernel
theorem dX5_weekLine_109 : decode cX5_weekLine 109 = .ok (.aload_n 0, 1) := by decide +kernel
theorem dX5_weekLine_110 : decode cX5_weekLine 110 = .ok (.getfield 58, 3) := by decide +kernel
theorem dX5_weekLine_113 : decode cX5_weekLine 113 = .ok (.istore_n 3, 1) := by decide +kernel
theorem dX5_weekLine_114 : decode cX5_weekLine 114 = .ok (.aload_n 0, 1) := by decide +kernel
theorem dX5_weekLine_115 : decode cX5_weekLine 115 = .ok (.bipush 10, 2) := by decide +kernel
theorem dX5_weekLine_117 : decode cX5_weekLine 117 = .ok (.iload_n 3, 1) := by decide +kernel
theorem dX5_weekLine_118 : decode cX5_weekLine 118 = .ok (.iconst 1, 1) := by decide +kernel
theorem dX5_weekLine_119 : decode cX5_weekLine 119 = .ok (.iadd, 1) := by decide +kernel
theorem dX5_weekLine_120 : decode cX5_weekLine 120 = .ok (.bipush 60, 2) := by decide +kernel
theorem dX5_weekLine_122 : decode cX5_weekLine 122 = .ok (.invokevirtual 80, 3) := by decide +kernel
theorem dX5_weekLine_125 : decode cX5_weekLine 125 = .ok (.ifCond .ne 5, 3) := by decide +kernel
theorem dX5_weekLine_128 : decode cX5_weekLine 128 = .ok (.iconst 0, 1) := by decide +kernel
theorem dX5_weekLine_129 : decode cX5_weekLine 129 = .ok (.ireturn, 1) := by decide +kernel
theorem dX5_weekLine_130 : decode cX5_weekLine 130 = .ok (.aload_n 0, 1) := by decide +kernel
theorem dX5_weekLine_131 : decode cX5_weekLine 131 = .ok (.getfield 58, 3) := by decide +kernel
theorem dX5_weekLine_134 : decode cX5_weekLine 134 = .ok (.istore 4, 2) := by decide +kernel
theorem dX5_weekLine_136 : decode cX5_weekLine 136 = .ok (.aload_n 1, 1) := by decide +kernel
theorem dX5_weekLine_137 : decode cX5_weekLine 137 = .ok (.iload_n 2, 1) := by decide +kernel
theorem dX5_weekLine_138 : decode cX5_weekLine 138 = .ok (.iload_n 3, 1) := by decide +kernel
theorem dX5_weekLine_139 : decode cX5_weekLine 139 = .ok (.iload 4, 2) := by decide +kernel
theorem dX5_weekLine_141 : decode cX5_weekLine 141 = .ok (.invokevirtual 84, 3) := by decide +kernel
theorem dX5_weekLine_144 : decode cX5_weekLine 144 = .ok (.aload_n 0, 1) := by decide +kernel
theorem dX5_weekLine_145 : decode cX5_weekLine 145 = .ok (.bipush 59, 2) := by decide +kernel
theorem dX5_weekLine_147 : decode cX5_weekLine 147 = .ok (.invokevirtual 61, 3) := by decide +kernel
theorem dX5_weekLine_150 : decode cX5_weekLine 150 = .ok (.ireturn, 1) := by decide +kernel
theorem dX5_stationLine_0 : decode cX5_stationLine 0 = .ok (.aload_n 0, 1) := by decide +kernel
theorem dX5_stationLine_1 : decode cX5_stationLine 1 = .ok (.getfield 9, 3) := by decide +kernel
theorem dX5_stationLine_4 : decode cX5_stationLine 4 = .ok (.getfield 29, 3) := by decide +kernel
theorem dX5_stationLine_7 : decode cX5_stationLine 7 = .ok (.tableswitch 311 0 13 #[69, 92, 311, 311, 311, 311, 311, 115, 146, 177, 311, 208, 239, 275], 69) := by decide +kernel
theorem dX5_stationLine_76 : decode cX5_stationLine 76 = .ok (.aload_n 0, 1) := by decide +kernel
theorem dX5_stationLine_77 : decode cX5_stationLine 77 = .ok (.aload_n 1, 1) := by decide +kernel
theorem dX5_stationLine_78 : decode cX5_stationLine 78 = .ok (.invokevirtual 88, 3) := by decide +kernel
theorem dX5_stationLine_81 : decode cX5_stationLine 81 = .ok (.ifCond .eq 16, 3) := by decide +kernel
theorem dX5_stationLine_84 : decode cX5_stationLine 84 = .ok (.aload_n 0, 1) := by decide +kernel
theorem dX5_stationLine_85 : decode cX5_stationLine 85 = .ok (.bipush 59, 2) := by decide +kernel
theorem dX5_stationLine_87 : decode cX5_stationLine 87 = .ok (.invokevirtual 61, 3) := by decide +kernel
theorem dX5_stationLine_90 : decode cX5_stationLine 90 = .ok (.ifCond .eq 7, 3) := by decide +kernel
theorem dX5_stationLine_93 : decode cX5_stationLine 93 = .ok (.iconst 1, 1) := by decide +kernel
theorem dX5_stationLine_94 : decode cX5_stationLine 94 = .ok (.goto 4, 3) := by decide +kernel
theorem dX5_stationLine_97 : decode cX5_stationLine 97 = .ok (.iconst 0, 1) := by decide +kernel
theorem dX5_stationLine_98 : decode cX5_stationLine 98 = .ok (.ireturn, 1) := by decide +kernel
theorem dX5_stationLine_99 : decode cX5_stationLine 99 = .ok (.aload_n 0, 1) := by decide +kernel
theorem dX5_stationLine_100 : decode cX5_stationLine 100 = .ok (.aload_n 1, 1) := by decide +kernel
theorem dX5_stationLine_101 : decode cX5_stationLine 101 = .ok (.invokevirtual 91, 3) := by decide +kernel
theorem dX5_stationLine_104 : decode cX5_stationLine 104 = .ok (.ifCond .eq 16, 3) := by decide +kernel
theorem dX5_stationLine_107 : decode cX5_stationLine 107 = .ok (.aload_n 0, 1) := by decide +kernel
theorem dX5_stationLine_108 : decode cX5_stationLine 108 = .ok (.bipush 59, 2) := by decide +kernel
theorem dX5_stationLine_110 : decode cX5_stationLine 110 = .ok (.invokevirtual 61, 3) := by decide +kernel
theorem dX5_stationLine_113 : decode cX5_stationLine 113 = .ok (.ifCond .eq 7, 3) := by decide +kernel
theorem dX5_stationLine_116 : decode cX5_stationLine 116 = .ok (.iconst 1, 1) := by decide +kernel
theorem dX5_stationLine_117 : decode cX5_stationLine 117 = .ok (.goto 4, 3) := by decide +kernel
theorem dX5_stationLine_120 : decode cX5_stationLine 120 = .ok (.iconst 0, 1) := by decide +kernel
theorem dX5_stationLine_121 : decode cX5_stationLine 121 = .ok (.ireturn, 1) := by decide +kernel
theorem dX5_stationLine_122 : decode cX5_stationLine 122 = .ok (.aload_n 0, 1) := by decide +kernel
theorem dX5_stationLine_123 : decode cX5_stationLine 123 = .ok (.aload_n 1, 1) := by decide +kernel
theorem dX5_stationLine_124 : decode cX5_stationLine 124 = .ok (.invokevirtual 94, 3) := by decide +kernel
theorem dX5_stationLine_127 : decode cX5_stationLine 127 = .ok (.ifCond .eq 24, 3) := by decide +kernel
theorem dX5_stationLine_130 : decode cX5_stationLine 130 = .ok (.aload_n 0, 1) := by decide +kernel
theorem dX5_stationLine_131 : decode cX5_stationLine 131 = .ok (.aload_n 1, 1) := by decide +kernel
theorem dX5_stationLine_132 : decode cX5_stationLine 132 = .ok (.invokevirtual 97, 3) := by decide +kernel
theorem dX5_stationLine_135 : decode cX5_stationLine 135 = .ok (.ifCond .eq 16, 3) := by decide +kernel
theorem dX5_stationLine_138 : decode cX5_stationLine 138 = .ok (.aload_n 0, 1) := by decide +kernel
theorem dX5_stationLine_139 : decode cX5_stationLine 139 = .ok (.bipush 59, 2) := by decide +kernel
theorem dX5_stationLine_141 : decode cX5_stationLine 141 = .ok (.invokevirtual 61, 3) := by decide +kernel
theorem dX5_stationLine_144 : decode cX5_stationLine 144 = .ok (.ifCond .eq 7, 3) := by decide +kernel
theorem dX5_stationLine_147 : decode cX5_stationLine 147 = .ok (.iconst 1, 1) := by decide +kernel
theorem dX5_stationLine_148 : decode cX5_stationLine 148 = .ok (.goto 4, 3) := by decide +kernel
theorem dX5_stationLine_151 : decode cX5_stationLine 151 = .ok (.iconst 0, 1) := by decide +kernel
theorem dX5_stationLine_152 : decode cX5_stationLine 152 = .ok (.ireturn, 1) := by decide +kernel
theorem dX5_stationLine_153 : decode cX5_stationLine 153 = .ok (.aload_n 0, 1) := by decide +kernel
theorem dX5_stationLine_154 : decode cX5_stationLine 154 = .ok (.aload_n 1, 1) := by decide +kernel
theorem dX5_stationLine_155 : decode cX5_stationLine 155 = .ok (.invokevirtual 94, 3) := by decide +kernel
theorem dX5_stationLine_158 : decode cX5_stationLine 158 = .ok (.ifCond .eq 24, 3) := by decide +kernel
theorem dX5_stationLine_161 : decode cX5_stationLine 161 = .ok (.aload_n 0, 1) := by decide +kernel
theorem dX5_stationLine_162 : decode cX5_stationLine 162 = .ok (.aload_n 1, 1) := by decide +kernel
theorem dX5_stationLine_163 : decode cX5_stationLine 163 = .ok (.invokevirtual 100, 3) := by decide +kernel
theorem dX5_stationLine_166 : decode cX5_stationLine 166 = .ok (.ifCond .eq 16, 3) := by decide +kernel
theorem dX5_stationLine_169 : decode cX5_stationLine 169 = .ok (.aload_n 0, 1) := by decide +kernel
theorem dX5_stationLine_170 : decode cX5_stationLine 170 = .ok (.bipush 59, 2) := by decide +kernel
theorem dX5_stationLine_172 : decode cX5_stationLine 172 = .ok (.invokevirtual 61, 3) := by decide +kernel
theorem dX5_stationLine_175 : decode cX5_stationLine 175 = .ok (.ifCond .eq 7, 3) := by decide +kernel
theorem dX5_stationLine_178 : decode cX5_stationLine 178 = .ok (.iconst 1, 1) := by decide +kernel
theorem dX5_stationLine_179 : decode cX5_stationLine 179 = .ok (.goto 4, 3) := by decide +kernel
theorem dX5_stationLine_182 : decode cX5_stationLine 182 = .ok (.iconst 0, 1) := by decide +kernel
theorem dX5_stationLine_183 : decode cX5_stationLine 183 = .ok (.ireturn, 1) := by decide +kernel
theorem dX5_stationLine_184 : decode cX5_stationLine 184 = .ok (.aload_n 0, 1) := by decide +kernel
theorem dX5_stationLine_185 : decode cX5_stationLine 185 = .ok (.aload_n 1, 1) := by decide +kernel
theorem dX5_stationLine_186 : decode cX5_stationLine 186 = .ok (.invokevirtual 94, 3) := by decide +kernel
theorem dX5_stationLine_189 : decode cX5_stationLine 189 = .ok (.ifCond .eq 24, 3) := by decide +kernel
theorem dX5_stationLine_192 : decode cX5_stationLine 192 = .ok (.aload_n 0, 1) := by decide +kernel
theorem dX5_stationLine_193 : decode cX5_stationLine 193 = .ok (.aload_n 1, 1) := by decide +kernel
theorem dX5_stationLine_194 : decode cX5_stationLine 194 = .ok (.invokevirtual 103, 3) := by decide +kernel
theorem dX5_stationLine_197 : decode cX5_stationLine 197 = .ok (.ifCond .eq 16, 3) := by decide +kernel
theorem dX5_stationLine_200 : decode cX5_stationLine 200 = .ok (.aload_n 0, 1) := by decide +kernel
theorem dX5_stationLine_201 : decode cX5_stationLine 201 = .ok (.bipush 59, 2) := by decide +kernel
theorem dX5_stationLine_203 : decode cX5_stationLine 203 = .ok (.invokevirtual 61, 3) := by decide +kernel
theorem dX5_stationLine_206 : decode cX5_stationLine 206 = .ok (.ifCond .eq 7, 3) := by decide +kernel
theorem dX5_stationLine_209 : decode cX5_stationLine 209 = .ok (.iconst 1, 1) := by decide +kernel
theorem dX5_stationLine_210 : decode cX5_stationLine 210 = .ok (.goto 4, 3) := by decide +kernel
theorem dX5_stationLine_213 : decode cX5_stationLine 213 = .ok (.iconst 0, 1) := by decide +kernel
theorem dX5_stationLine_214 : decode cX5_stationLine 214 = .ok (.ireturn, 1) := by decide +kernel
theorem dX5_stationLine_215 : decode cX5_stationLine 215 = .ok (.aload_n 0, 1) := by decide +kernel
theorem dX5_stationLine_216 : decode cX5_stationLine 216 = .ok (.aload_n 1, 1) := by decide +kernel
theorem dX5_stationLine_217 : decode cX5_stationLine 217 = .ok (.invokevirtual 94, 3) := by decide +kernel
theorem dX5_stationLine_220 : decode cX5_stationLine 220 = .ok (.ifCond .eq 24, 3) := by decide +kernel
theorem dX5_stationLine_223 : decode cX5_stationLine 223 = .ok (.aload_n 0, 1) := by decide +kernel
theorem dX5_stationLine_224 : decode cX5_stationLine 224 = .ok (.aload_n 1, 1) := by decide +kernel
theorem dX5_stationLine_225 : decode cX5_stationLine 225 = .ok (.invokevirtual 106, 3) := by decide +kernel
theorem dX5_stationLine_228 : decode cX5_stationLine 228 = .ok (.ifCond .eq 16, 3) := by decide +kernel
theorem dX5_stationLine_231 : decode cX5_stationLine 231 = .ok (.aload_n 0, 1) := by decide +kernel
theorem dX5_stationLine_232 : decode cX5_stationLine 232 = .ok (.bipush 59, 2) := by decide +kernel
theorem dX5_stationLine_234 : decode cX5_stationLine 234 = .ok (.invokevirtual 61, 3) := by decide +kernel
theorem dX5_stationLine_237 : decode cX5_stationLine 237 = .ok (.ifCond .eq 7, 3) := by decide +kernel
theorem dX5_stationLine_240 : decode cX5_stationLine 240 = .ok (.iconst 1, 1) := by decide +kernel
theorem dX5_stationLine_241 : decode cX5_stationLine 241 = .ok (.goto 4, 3) := by decide +kernel
theorem dX5_stationLine_244 : decode cX5_stationLine 244 = .ok (.iconst 0, 1) := by decide +kernel
theorem dX5_stationLine_245 : decode cX5_stationLine 245 = .ok (.ireturn, 1) := by decide +kernel
theorem dX5_stationLine_246 : decode cX5_stationLine 246 = .ok (.aload_n 0, 1) := by decide +kernel
theorem dX5_stationLine_247 : decode cX5_stationLine 247 = .ok (.aload_n 1, 1) := by decide +kernel
theorem dX5_stationLine_248 : decode cX5_stationLine 248 = .ok (.invokevirtual 94, 3) := by decide +kernel
theorem dX5_stationLine_251 : decode cX5_stationLine 251 = .ok (.ifCond .eq 29, 3) := by decide +kernel
theorem dX5_stationLine_254 : decode cX5_stationLine 254 = .ok (.aload_n 0, 1) := by decide +kernel
theorem dX5_stationLine_255 : decode cX5_stationLine 255 = .ok (.aload_n 1, 1) := by decide +kernel
theorem dX5_stationLine_256 : decode cX5_stationLine 256 = .ok (.getfield 109, 3) := by decide +kernel
theorem dX5_stationLine_259 : decode cX5_stationLine 259 = .ok (.iconst 0, 1) := by decide +kernel
theorem dX5_stationLine_260 : decode cX5_stationLine 260 = .ok (.iconst 0, 1) := by decide +kernel
theorem dX5_stationLine_261 : decode cX5_stationLine 261 = .ok (.invokevirtual 113, 3) := by decide +kernel
theorem dX5_stationLine_264 : decode cX5_stationLine 264 = .ok (.ifCond .eq 16, 3) := by decide +kernel
theorem dX5_stationLine_267 : decode cX5_stationLine 267 = .ok (.aload_n 0, 1) := by decide +kernel
theorem dX5_stationLine_268 : decode cX5_stationLine 268 = .ok (.bipush 59, 2) := by decide +kernel
theorem dX5_stationLine_270 : decode cX5_stationLine 270 = .ok (.invokevirtual 61, 3) := by decide +kernel
theorem dX5_stationLine_273 : decode cX5_stationLine 273 = .ok (.ifCond .eq 7, 3) := by decide +kernel
theorem dX5_stationLine_276 : decode cX5_stationLine 276 = .ok (.iconst 1, 1) := by decide +kernel
theorem dX5_stationLine_277 : decode cX5_stationLine 277 = .ok (.goto 4, 3) := by decide +kernel
theorem dX5_stationLine_280 : decode cX5_stationLine 280 = .ok (.iconst 0, 1) := by decide +kernel
theorem dX5_stationLine_281 : decode cX5_stationLine 281 = .ok (.ireturn, 1) := by decide +kernel
theorem dX5_stationLine_282 : decode cX5_stationLine 282 = .ok (.aload_n 0, 1) := by decide +kernel
theorem dX5_stationLine_283 : decode cX5_stationLine 283 = .ok (.aload_n 1, 1) := by decide +kernel
theorem dX5_stationLine_284 : decode cX5_stationLine 284 = .ok (.invokevirtual 94, 3) := by decide +kernel
theorem dX5_stationLine_287 : decode cX5_stationLine 287 = .ok (.ifCond .eq 29, 3) := by decide +kernel
theorem dX5_stationLine_290 : decode cX5_stationLine 290 = .ok (.aload_n 0, 1) := by decide +kernel
theorem dX5_stationLine_291 : decode cX5_stationLine 291 = .ok (.aload_n 1, 1) := by decide +kernel
theorem dX5_stationLine_292 : decode cX5_stationLine 292 = .ok (.getfield 117, 3) := by decide +kernel
theorem dX5_stationLine_295 : decode cX5_stationLine 295 = .ok (.iconst 0, 1) := by decide +kernel
theorem dX5_stationLine_296 : decode cX5_stationLine 296 = .ok (.iconst 0, 1) := by decide +kernel
theorem dX5_stationLine_297 : decode cX5_stationLine 297 = .ok (.invokevirtual 113, 3) := by decide +kernel
theorem dX5_stationLine_300 : decode cX5_stationLine 300 = .ok (.ifCond .eq 16, 3) := by decide +kernel
theorem dX5_stationLine_303 : decode cX5_stationLine 303 = .ok (.aload_n 0, 1) := by decide +kernel
theorem dX5_stationLine_304 : decode cX5_stationLine 304 = .ok (.bipush 59, 2) := by decide +kernel
theorem dX5_stationLine_306 : decode cX5_stationLine 306 = .ok (.invokevirtual 61, 3) := by decide +kernel
theorem dX5_stationLine_309 : decode cX5_stationLine 309 = .ok (.ifCond .eq 7, 3) := by decide +kernel
theorem dX5_stationLine_312 : decode cX5_stationLine 312 = .ok (.iconst 1, 1) := by decide +kernel
theorem dX5_stationLine_313 : decode cX5_stationLine 313 = .ok (.goto 4, 3) := by decide +kernel
theorem dX5_stationLine_316 : decode cX5_stationLine 316 = .ok (.iconst 0, 1) := by decide +kernel
theorem dX5_stationLine_317 : decode cX5_stationLine 317 = .ok (.ireturn, 1) := by decide +kernel
theorem dX5_stationLine_318 : decode cX5_stationLine 318 = .ok (.aload_n 0, 1) := by decide +kernel
theorem dX5_stationLine_319 : decode cX5_stationLine 319 = .ok (.iconst 1, 1) := by decide +kernel
theorem dX5_stationLine_320 : decode cX5_stationLine 320 = .ok (.invokevirtual 48, 3) := by decide +kernel
theorem dX5_stationLine_323 : decode cX5_stationLine 323 = .ok (.ireturn, 1) := by decide +kernel
theorem dX5_toldFirst_0 : decode cX5_toldFirst 0 = .ok (.iconst 1, 1) := by decide +kernel
theorem dX5_toldFirst_1 : decode cX5_toldFirst 1 = .ok (.aload_n 0, 1) := by decide +kernel
theorem dX5_toldFirst_2 : decode cX5_toldFirst 2 = .ok (.getfield 9, 3) := by decide +kernel
theorem dX5_toldFirst_5 : decode cX5_toldFirst 5 = .ok (.getfield 29, 3) := by decide +kernel
theorem dX5_toldFirst_8 : decode cX5_toldFirst 8 = .ok (.ishl, 1) := by decide +kernel
theorem dX5_toldFirst_9 : decode cX5_toldFirst 9 = .ok (.istore_n 2, 1) := by decide +kernel
theorem dX5_toldFirst_10 : decode cX5_toldFirst 10 = .ok (.aload_n 1, 1) := by decide +kernel
theorem dX5_toldFirst_11 : decode cX5_toldFirst 11 = .ok (.getfield 120, 3) := by decide +kernel
theorem dX5_toldFirst_14 : decode cX5_toldFirst 14 = .ok (.iload_n 2, 1) := by decide +kernel
theorem dX5_toldFirst_15 : decode cX5_toldFirst 15 = .ok (.iand, 1) := by decide +kernel
theorem dX5_toldFirst_16 : decode cX5_toldFirst 16 = .ok (.ifCond .eq 9, 3) := by decide +kernel
theorem dX5_toldFirst_19 : decode cX5_toldFirst 19 = .ok (.aload_n 0, 1) := by decide +kernel
theorem dX5_toldFirst_20 : decode cX5_toldFirst 20 = .ok (.iconst 3, 1) := by decide +kernel
theorem dX5_toldFirst_21 : decode cX5_toldFirst 21 = .ok (.invokevirtual 48, 3) := by decide +kernel
theorem dX5_toldFirst_24 : decode cX5_toldFirst 24 = .ok (.ireturn, 1) := by decide +kernel
theorem dX5_toldFirst_25 : decode cX5_toldFirst 25 = .ok (.aload_n 1, 1) := by decide +kernel
theorem dX5_toldFirst_26 : decode cX5_toldFirst 26 = .ok (.dup, 1) := by decide +kernel
theorem dX5_toldFirst_27 : decode cX5_toldFirst 27 = .ok (.getfield 120, 3) := by decide +kernel
theorem dX5_toldFirst_30 : decode cX5_toldFirst 30 = .ok (.iload_n 2, 1) := by decide +kernel
theorem dX5_toldFirst_31 : decode cX5_toldFirst 31 = .ok (.ior, 1) := by decide +kernel
theorem dX5_toldFirst_32 : decode cX5_toldFirst 32 = .ok (.putfield 120, 3) := by decide +kernel
theorem dX5_toldFirst_35 : decode cX5_toldFirst 35 = .ok (.aload_n 0, 1) := by decide +kernel
theorem dX5_toldFirst_36 : decode cX5_toldFirst 36 = .ok (.getfield 9, 3) := by decide +kernel
theorem dX5_toldFirst_39 : decode cX5_toldFirst 39 = .ok (.invokevirtual 52, 3) := by decide +kernel
theorem dX5_toldFirst_42 : decode cX5_toldFirst 42 = .ok (.iconst 1, 1) := by decide +kernel
theorem dX5_toldFirst_43 : decode cX5_toldFirst 43 = .ok (.ireturn, 1) := by decide +kernel
theorem dX5_waitsTold_0 : decode cX5_waitsTold 0 = .ok (.aload_n 0, 1) := by decide +kernel
theorem dX5_waitsTold_1 : decode cX5_waitsTold 1 = .ok (.iconst 0, 1) := by decide +kernel
theorem dX5_waitsTold_2 : decode cX5_waitsTold 2 = .ok (.bipush 59, 2) := by decide +kernel
theorem dX5_waitsTold_4 : decode cX5_waitsTold 4 = .ok (.invokevirtual 64, 3) := by decide +kernel
theorem dX5_waitsTold_7 : decode cX5_waitsTold 7 = .ok (.istore_n 2, 1) := by decide +kernel
theorem dX5_waitsTold_8 : decode cX5_waitsTold 8 = .ok (.aload_n 1, 1) := by decide +kernel
theorem dX5_waitsTold_9 : decode cX5_waitsTold 9 = .ok (.aload_n 0, 1) := by decide +kernel
theorem dX5_waitsTold_10 : decode cX5_waitsTold 10 = .ok (.getfield 58, 3) := by decide +kernel
theorem dX5_waitsTold_13 : decode cX5_waitsTold 13 = .ok (.putfield 123, 3) := by decide +kernel
theorem dX5_waitsTold_16 : decode cX5_waitsTold 16 = .ok (.iload_n 2, 1) := by decide +kernel
theorem dX5_waitsTold_17 : decode cX5_waitsTold 17 = .ok (.ireturn, 1) := by decide +kernel
theorem dX5_eachTold_0 : decode cX5_eachTold 0 = .ok (.aload_n 0, 1) := by decide +kernel
theorem dX5_eachTold_1 : decode cX5_eachTold 1 = .ok (.iconst 1, 1) := by decide +kernel
theorem dX5_eachTold_2 : decode cX5_eachTold 2 = .ok (.bipush 30, 2) := by decide +kernel
theorem dX5_eachTold_4 : decode cX5_eachTold 4 = .ok (.invokevirtual 64, 3) := by decide +kernel
theorem dX5_eachTold_7 : decode cX5_eachTold 7 = .ok (.istore_n 2, 1) := by decide +kernel
theorem dX5_eachTold_8 : decode cX5_eachTold 8 = .ok (.aload_n 1, 1) := by decide +kernel
theorem dX5_eachTold_9 : decode cX5_eachTold 9 = .ok (.aload_n 0, 1) := by decide +kernel
theorem dX5_eachTold_10 : decode cX5_eachTold 10 = .ok (.getfield 58, 3) := by decide +kernel
theorem dX5_eachTold_13 : decode cX5_eachTold 13 = .ok (.putfield 126, 3) := by decide +kernel
theorem dX5_eachTold_16 : decode cX5_eachTold 16 = .ok (.iload_n 2, 1) := by decide +kernel
theorem dX5_eachTold_17 : decode cX5_eachTold 17 = .ok (.ireturn, 1) := by decide +kernel
theorem dX5_hoursTold_0 : decode cX5_hoursTold 0 = .ok (.aload_n 0, 1) := by decide +kernel
theorem dX5_hoursTold_1 : decode cX5_hoursTold 1 = .ok (.iconst 0, 1) := by decide +kernel
theorem dX5_hoursTold_2 : decode cX5_hoursTold 2 = .ok (.bipush 59, 2) := by decide +kernel
theorem dX5_hoursTold_4 : decode cX5_hoursTold 4 = .ok (.invokevirtual 64, 3) := by decide +kernel
theorem dX5_hoursTold_7 : decode cX5_hoursTold 7 = .ok (.ifCond .ne 5, 3) := by decide +kernel
theorem dX5_hoursTold_10 : decode cX5_hoursTold 10 = .ok (.iconst 0, 1) := by decide +kernel
theorem dX5_hoursTold_11 : decode cX5_hoursTold 11 = .ok (.ireturn, 1) := by decide +kernel
theorem dX5_hoursTold_12 : decode cX5_hoursTold 12 = .ok (.aload_n 1, 1) := by decide +kernel
theorem dX5_hoursTold_13 : decode cX5_hoursTold 13 = .ok (.aload_n 0, 1) := by decide +kernel
theorem dX5_hoursTold_14 : decode cX5_hoursTold 14 = .ok (.getfield 58, 3) := by decide +kernel
theorem dX5_hoursTold_17 : decode cX5_hoursTold 17 = .ok (.putfield 129, 3) := by decide +kernel
theorem dX5_hoursTold_20 : decode cX5_hoursTold 20 = .ok (.aload_n 0, 1) := by decide +kernel
theorem dX5_hoursTold_21 : decode cX5_hoursTold 21 = .ok (.bipush 10, 2) := by decide +kernel
theorem dX5_hoursTold_23 : decode cX5_hoursTold 23 = .ok (.aload_n 1, 1) := by decide +kernel
theorem dX5_hoursTold_24 : decode cX5_hoursTold 24 = .ok (.getfield 129, 3) := by decide +kernel
theorem dX5_hoursTold_27 : decode cX5_hoursTold 27 = .ok (.iconst 1, 1) := by decide +kernel
theorem dX5_hoursTold_28 : decode cX5_hoursTold 28 = .ok (.iadd, 1) := by decide +kernel
theorem dX5_hoursTold_29 : decode cX5_hoursTold 29 = .ok (.bipush 60, 2) := by decide +kernel
theorem dX5_hoursTold_31 : decode cX5_hoursTold 31 = .ok (.invokevirtual 80, 3) := by decide +kernel
theorem dX5_hoursTold_34 : decode cX5_hoursTold 34 = .ok (.istore_n 2, 1) := by decide +kernel
theorem dX5_hoursTold_35 : decode cX5_hoursTold 35 = .ok (.aload_n 1, 1) := by decide +kernel
theorem dX5_hoursTold_36 : decode cX5_hoursTold 36 = .ok (.aload_n 0, 1) := by decide +kernel
theorem dX5_hoursTold_37 : decode cX5_hoursTold 37 = .ok (.getfield 58, 3) := by decide +kernel
theorem dX5_hoursTold_40 : decode cX5_hoursTold 40 = .ok (.putfield 132, 3) := by decide +kernel
theorem dX5_hoursTold_43 : decode cX5_hoursTold 43 = .ok (.iload_n 2, 1) := by decide +kernel
theorem dX5_hoursTold_44 : decode cX5_hoursTold 44 = .ok (.ireturn, 1) := by decide +kernel
theorem dX5_priceTold_0 : decode cX5_priceTold 0 = .ok (.aload_n 0, 1) := by decide +kernel
theorem dX5_priceTold_1 : decode cX5_priceTold 1 = .ok (.iconst 0, 1) := by decide +kernel
theorem dX5_priceTold_2 : decode cX5_priceTold 2 = .ok (.sipush 999, 3) := by decide +kernel
theorem dX5_priceTold_5 : decode cX5_priceTold 5 = .ok (.invokevirtual 64, 3) := by decide +kernel
theorem dX5_priceTold_8 : decode cX5_priceTold 8 = .ok (.istore_n 2, 1) := by decide +kernel
theorem dX5_priceTold_9 : decode cX5_priceTold 9 = .ok (.aload_n 1, 1) := by decide +kernel
theorem dX5_priceTold_10 : decode cX5_priceTold 10 = .ok (.aload_n 0, 1) := by decide +kernel
theorem dX5_priceTold_11 : decode cX5_priceTold 11 = .ok (.getfield 58, 3) := by decide +kernel
theorem dX5_priceTold_14 : decode cX5_priceTold 14 = .ok (.putfield 135, 3) := by decide +kernel
theorem dX5_priceTold_17 : decode cX5_priceTold 17 = .ok (.iload_n 2, 1) := by decide +kernel
theorem dX5_priceTold_18 : decode cX5_priceTold 18 = .ok (.ireturn, 1) := by decide +kernel
theorem dX5_tuneLine_0 : decode cX5_tuneLine 0 = .ok (.aload_n 1, 1) := by decide +kernel
theorem dX5_tuneLine_1 : decode cX5_tuneLine 1 = .ok (.getfield 138, 3) := by decide +kernel
theorem dX5_tuneLine_4 : decode cX5_tuneLine 4 = .ok (.istore_n 2, 1) := by decide +kernel
theorem dX5_tuneLine_5 : decode cX5_tuneLine 5 = .ok (.iload_n 2, 1) := by decide +kernel
theorem dX5_tuneLine_6 : decode cX5_tuneLine 6 = .ok (.ifCond .lt 8, 3) := by decide +kernel
theorem dX5_tuneLine_9 : decode cX5_tuneLine 9 = .ok (.iload_n 2, 1) := by decide +kernel
theorem dX5_tuneLine_10 : decode cX5_tuneLine 10 = .ok (.iconst 5, 1) := by decide +kernel
theorem dX5_tuneLine_11 : decode cX5_tuneLine 11 = .ok (.if_icmp .lt 9, 3) := by decide +kernel
theorem dX5_tuneLine_14 : decode cX5_tuneLine 14 = .ok (.aload_n 0, 1) := by decide +kernel
theorem dX5_tuneLine_15 : decode cX5_tuneLine 15 = .ok (.iconst 5, 1) := by decide +kernel
theorem dX5_tuneLine_16 : decode cX5_tuneLine 16 = .ok (.invokevirtual 48, 3) := by decide +kernel
theorem dX5_tuneLine_19 : decode cX5_tuneLine 19 = .ok (.ireturn, 1) := by decide +kernel
theorem dX5_tuneLine_20 : decode cX5_tuneLine 20 = .ok (.aload_n 0, 1) := by decide +kernel
theorem dX5_tuneLine_21 : decode cX5_tuneLine 21 = .ok (.getfield 9, 3) := by decide +kernel
theorem dX5_tuneLine_24 : decode cX5_tuneLine 24 = .ok (.invokevirtual 52, 3) := by decide +kernel
theorem dX5_tuneLine_27 : decode cX5_tuneLine 27 = .ok (.aload_n 0, 1) := by decide +kernel
theorem dX5_tuneLine_28 : decode cX5_tuneLine 28 = .ok (.aload_n 1, 1) := by decide +kernel
theorem dX5_tuneLine_29 : decode cX5_tuneLine 29 = .ok (.invokevirtual 141, 3) := by decide +kernel
theorem dX5_tuneLine_32 : decode cX5_tuneLine 32 = .ok (.ifCond .ne 5, 3) := by decide +kernel
theorem dX5_tuneLine_35 : decode cX5_tuneLine 35 = .ok (.iconst 0, 1) := by decide +kernel
theorem dX5_tuneLine_36 : decode cX5_tuneLine 36 = .ok (.ireturn, 1) := by decide +kernel
theorem dX5_tuneLine_37 : decode cX5_tuneLine 37 = .ok (.aload_n 1, 1) := by decide +kernel
theorem dX5_tuneLine_38 : decode cX5_tuneLine 38 = .ok (.getfield 144, 3) := by decide +kernel
theorem dX5_tuneLine_41 : decode cX5_tuneLine 41 = .ok (.iload_n 2, 1) := by decide +kernel
theorem dX5_tuneLine_42 : decode cX5_tuneLine 42 = .ok (.aload_n 0, 1) := by decide +kernel
theorem dX5_tuneLine_43 : decode cX5_tuneLine 43 = .ok (.getfield 9, 3) := by decide +kernel
theorem dX5_tuneLine_46 : decode cX5_tuneLine 46 = .ok (.getfield 72, 3) := by decide +kernel
theorem dX5_tuneLine_49 : decode cX5_tuneLine 49 = .ok (.lastore, 1) := by decide +kernel
theorem dX5_tuneLine_50 : decode cX5_tuneLine 50 = .ok (.aload_n 1, 1) := by decide +kernel
theorem dX5_tuneLine_51 : decode cX5_tuneLine 51 = .ok (.getfield 148, 3) := by decide +kernel
theorem dX5_tuneLine_54 : decode cX5_tuneLine 54 = .ok (.iload_n 2, 1) := by decide +kernel
theorem dX5_tuneLine_55 : decode cX5_tuneLine 55 = .ok (.iconst 0, 1) := by decide +kernel
theorem dX5_tuneLine_56 : decode cX5_tuneLine 56 = .ok (.iastore, 1) := by decide +kernel
theorem dX5_tuneLine_57 : decode cX5_tuneLine 57 = .ok (.aload_n 1, 1) := by decide +kernel
theorem dX5_tuneLine_58 : decode cX5_tuneLine 58 = .ok (.dup, 1) := by decide +kernel
theorem dX5_tuneLine_59 : decode cX5_tuneLine 59 = .ok (.getfield 138, 3) := by decide +kernel
theorem dX5_tuneLine_62 : decode cX5_tuneLine 62 = .ok (.iconst 1, 1) := by decide +kernel
theorem dX5_tuneLine_63 : decode cX5_tuneLine 63 = .ok (.iadd, 1) := by decide +kernel
theorem dX5_tuneLine_64 : decode cX5_tuneLine 64 = .ok (.putfield 138, 3) := by decide +kernel
theorem dX5_tuneLine_67 : decode cX5_tuneLine 67 = .ok (.aload_n 0, 1) := by decide +kernel
theorem dX5_tuneLine_68 : decode cX5_tuneLine 68 = .ok (.getfield 9, 3) := by decide +kernel
theorem dX5_tuneLine_71 : decode cX5_tuneLine 71 = .ok (.invokevirtual 52, 3) := by decide +kernel
theorem dX5_tuneLine_74 : decode cX5_tuneLine 74 = .ok (.aload_n 0, 1) := by decide +kernel
theorem dX5_tuneLine_75 : decode cX5_tuneLine 75 = .ok (.aload_n 1, 1) := by decide +kernel
theorem dX5_tuneLine_76 : decode cX5_tuneLine 76 = .ok (.iload_n 2, 1) := by decide +kernel
theorem dX5_tuneLine_77 : decode cX5_tuneLine 77 = .ok (.invokevirtual 152, 3) := by decide +kernel
theorem dX5_tuneLine_80 : decode cX5_tuneLine 80 = .ok (.ifCond .ne 5, 3) := by decide +kernel
theorem dX5_tuneLine_83 : decode cX5_tuneLine 83 = .ok (.iconst 0, 1) := by decide +kernel
theorem dX5_tuneLine_84 : decode cX5_tuneLine 84 = .ok (.ireturn, 1) := by decide +kernel
theorem dX5_tuneLine_85 : decode cX5_tuneLine 85 = .ok (.iconst 0, 1) := by decide +kernel
theorem dX5_tuneLine_86 : decode cX5_tuneLine 86 = .ok (.istore_n 3, 1) := by decide +kernel
theorem dX5_tuneLine_87 : decode cX5_tuneLine 87 = .ok (.iload_n 3, 1) := by decide +kernel
theorem dX5_tuneLine_88 : decode cX5_tuneLine 88 = .ok (.bipush 9, 2) := by decide +kernel
theorem dX5_tuneLine_90 : decode cX5_tuneLine 90 = .ok (.if_icmp .gt 32, 3) := by decide +kernel
theorem dX5_tuneLine_93 : decode cX5_tuneLine 93 = .ok (.aload_n 0, 1) := by decide +kernel
theorem dX5_tuneLine_94 : decode cX5_tuneLine 94 = .ok (.getfield 9, 3) := by decide +kernel
theorem dX5_tuneLine_97 : decode cX5_tuneLine 97 = .ok (.getfield 29, 3) := by decide +kernel
theorem dX5_tuneLine_100 : decode cX5_tuneLine 100 = .ok (.bipush 100, 2) := by decide +kernel
theorem dX5_tuneLine_102 : decode cX5_tuneLine 102 = .ok (.if_icmp .ne 20, 3) := by decide +kernel
theorem dX5_tuneLine_105 : decode cX5_tuneLine 105 = .ok (.aload_n 0, 1) := by decide +kernel
theorem dX5_tuneLine_106 : decode cX5_tuneLine 106 = .ok (.aload_n 1, 1) := by decide +kernel
theorem dX5_tuneLine_107 : decode cX5_tuneLine 107 = .ok (.iload_n 2, 1) := by decide +kernel
theorem dX5_tuneLine_108 : decode cX5_tuneLine 108 = .ok (.invokevirtual 152, 3) := by decide +kernel
theorem dX5_tuneLine_111 : decode cX5_tuneLine 111 = .ok (.ifCond .ne 5, 3) := by decide +kernel
theorem dX5_tuneLine_114 : decode cX5_tuneLine 114 = .ok (.iconst 0, 1) := by decide +kernel
theorem dX5_tuneLine_115 : decode cX5_tuneLine 115 = .ok (.ireturn, 1) := by decide +kernel
theorem dX5_tuneLine_116 : decode cX5_tuneLine 116 = .ok (.iinc 3 1, 3) := by decide +kernel
theorem dX5_tuneLine_119 : decode cX5_tuneLine 119 = .ok (.goto (-32), 3) := by decide +kernel
theorem dX5_tuneLine_122 : decode cX5_tuneLine 122 = .ok (.iconst 1, 1) := by decide +kernel
theorem dX5_tuneLine_123 : decode cX5_tuneLine 123 = .ok (.ireturn, 1) := by decide +kernel
theorem dX5_takeKey_0 : decode cX5_takeKey 0 = .ok (.aload_n 1, 1) := by decide +kernel
theorem dX5_takeKey_1 : decode cX5_takeKey 1 = .ok (.getfield 148, 3) := by decide +kernel
theorem dX5_takeKey_4 : decode cX5_takeKey 4 = .ok (.iload_n 2, 1) := by decide +kernel
theorem dX5_takeKey_5 : decode cX5_takeKey 5 = .ok (.iaload, 1) := by decide +kernel
theorem dX5_takeKey_6 : decode cX5_takeKey 6 = .ok (.istore_n 3, 1) := by decide +kernel
theorem dX5_takeKey_7 : decode cX5_takeKey 7 = .ok (.aload_n 0, 1) := by decide +kernel
theorem dX5_takeKey_8 : decode cX5_takeKey 8 = .ok (.getfield 9, 3) := by decide +kernel
theorem dX5_takeKey_11 : decode cX5_takeKey 11 = .ok (.getfield 29, 3) := by decide +kernel
theorem dX5_takeKey_14 : decode cX5_takeKey 14 = .ok (.bipush 100, 2) := by decide +kernel
theorem dX5_takeKey_16 : decode cX5_takeKey 16 = .ok (.if_icmp .ne 31, 3) := by decide +kernel
theorem dX5_takeKey_19 : decode cX5_takeKey 19 = .ok (.aload_n 0, 1) := by decide +kernel
theorem dX5_takeKey_20 : decode cX5_takeKey 20 = .ok (.getfield 9, 3) := by decide +kernel
theorem dX5_takeKey_23 : decode cX5_takeKey 23 = .ok (.getfield 55, 3) := by decide +kernel
theorem dX5_takeKey_26 : decode cX5_takeKey 26 = .ok (.bipush 12, 2) := by decide +kernel
theorem dX5_takeKey_28 : decode cX5_takeKey 28 = .ok (.if_icmp .ge 19, 3) := by decide +kernel
theorem dX5_takeKey_31 : decode cX5_takeKey 31 = .ok (.iload_n 3, 1) := by decide +kernel
theorem dX5_takeKey_32 : decode cX5_takeKey 32 = .ok (.ifCond .lt 9, 3) := by decide +kernel
theorem dX5_takeKey_35 : decode cX5_takeKey 35 = .ok (.iload_n 3, 1) := by decide +kernel
theorem dX5_takeKey_36 : decode cX5_takeKey 36 = .ok (.bipush 9, 2) := by decide +kernel
theorem dX5_takeKey_38 : decode cX5_takeKey 38 = .ok (.if_icmp .lt 9, 3) := by decide +kernel
theorem dX5_takeKey_41 : decode cX5_takeKey 41 = .ok (.aload_n 0, 1) := by decide +kernel
theorem dX5_takeKey_42 : decode cX5_takeKey 42 = .ok (.iconst 5, 1) := by decide +kernel
theorem dX5_takeKey_43 : decode cX5_takeKey 43 = .ok (.invokevirtual 48, 3) := by decide +kernel
theorem dX5_takeKey_46 : decode cX5_takeKey 46 = .ok (.ireturn, 1) := by decide +kernel
theorem dX5_takeKey_47 : decode cX5_takeKey 47 = .ok (.aload_n 0, 1) := by decide +kernel
theorem dX5_takeKey_48 : decode cX5_takeKey 48 = .ok (.iconst 0, 1) := by decide +kernel
theorem dX5_takeKey_49 : decode cX5_takeKey 49 = .ok (.bipush 11, 2) := by decide +kernel
theorem dX5_takeKey_51 : decode cX5_takeKey 51 = .ok (.invokevirtual 64, 3) := by decide +kernel
theorem dX5_takeKey_54 : decode cX5_takeKey 54 = .ok (.ifCond .ne 5, 3) := by decide +kernel
theorem dX5_takeKey_57 : decode cX5_takeKey 57 = .ok (.iconst 0, 1) := by decide +kernel
theorem dX5_takeKey_58 : decode cX5_takeKey 58 = .ok (.ireturn, 1) := by decide +kernel
theorem dX5_takeKey_59 : decode cX5_takeKey 59 = .ok (.aload_n 1, 1) := by decide +kernel
theorem dX5_takeKey_60 : decode cX5_takeKey 60 = .ok (.getfield 156, 3) := by decide +kernel
theorem dX5_takeKey_63 : decode cX5_takeKey 63 = .ok (.iload_n 2, 1) := by decide +kernel
theorem dX5_takeKey_64 : decode cX5_takeKey 64 = .ok (.aaload, 1) := by decide +kernel
theorem dX5_takeKey_65 : decode cX5_takeKey 65 = .ok (.iload_n 3, 1) := by decide +kernel
theorem dX5_takeKey_66 : decode cX5_takeKey 66 = .ok (.aload_n 0, 1) := by decide +kernel
theorem dX5_takeKey_67 : decode cX5_takeKey 67 = .ok (.getfield 58, 3) := by decide +kernel
theorem dX5_takeKey_70 : decode cX5_takeKey 70 = .ok (.iastore, 1) := by decide +kernel
theorem dX5_takeKey_71 : decode cX5_takeKey 71 = .ok (.aload_n 1, 1) := by decide +kernel
theorem dX5_takeKey_72 : decode cX5_takeKey 72 = .ok (.getfield 148, 3) := by decide +kernel
theorem dX5_takeKey_75 : decode cX5_takeKey 75 = .ok (.iload_n 2, 1) := by decide +kernel
theorem dX5_takeKey_76 : decode cX5_takeKey 76 = .ok (.iload_n 3, 1) := by decide +kernel
theorem dX5_takeKey_77 : decode cX5_takeKey 77 = .ok (.iconst 1, 1) := by decide +kernel
theorem dX5_takeKey_78 : decode cX5_takeKey 78 = .ok (.iadd, 1) := by decide +kernel
theorem dX5_takeKey_79 : decode cX5_takeKey 79 = .ok (.iastore, 1) := by decide +kernel
theorem dX5_takeKey_80 : decode cX5_takeKey 80 = .ok (.iconst 1, 1) := by decide +kernel
theorem dX5_takeKey_81 : decode cX5_takeKey 81 = .ok (.ireturn, 1) := by decide +kernel
theorem dX5_passerLine_0 : decode cX5_passerLine 0 = .ok (.aload_n 1, 1) := by decide +kernel
theorem dX5_passerLine_1 : decode cX5_passerLine 1 = .ok (.getfield 160, 3) := by decide +kernel
theorem dX5_passerLine_4 : decode cX5_passerLine 4 = .ok (.ifCond .lt 12, 3) := by decide +kernel
theorem dX5_passerLine_7 : decode cX5_passerLine 7 = .ok (.aload_n 1, 1) := by decide +kernel
theorem dX5_passerLine_8 : decode cX5_passerLine 8 = .ok (.getfield 160, 3) := by decide +kernel
theorem dX5_passerLine_11 : decode cX5_passerLine 11 = .ok (.bipush 7, 2) := by decide +kernel
theorem dX5_passerLine_13 : decode cX5_passerLine 13 = .ok (.if_icmp .lt 9, 3) := by decide +kernel
theorem dX5_passerLine_16 : decode cX5_passerLine 16 = .ok (.aload_n 0, 1) := by decide +kernel
theorem dX5_passerLine_17 : decode cX5_passerLine 17 = .ok (.iconst 5, 1) := by decide +kernel
theorem dX5_passerLine_18 : decode cX5_passerLine 18 = .ok (.invokevirtual 48, 3) := by decide +kernel
theorem dX5_passerLine_21 : decode cX5_passerLine 21 = .ok (.ireturn, 1) := by decide +kernel
theorem dX5_passerLine_22 : decode cX5_passerLine 22 = .ok (.aload_n 0, 1) := by decide +kernel
theorem dX5_passerLine_23 : decode cX5_passerLine 23 = .ok (.getfield 9, 3) := by decide +kernel
theorem dX5_passerLine_26 : decode cX5_passerLine 26 = .ok (.invokevirtual 52, 3) := by decide +kernel
theorem dX5_passerLine_29 : decode cX5_passerLine 29 = .ok (.aload_n 0, 1) := by decide +kernel
theorem dX5_passerLine_30 : decode cX5_passerLine 30 = .ok (.aload_n 1, 1) := by decide +kernel
theorem dX5_passerLine_31 : decode cX5_passerLine 31 = .ok (.invokevirtual 141, 3) := by decide +kernel
theorem dX5_passerLine_34 : decode cX5_passerLine 34 = .ok (.ifCond .ne 5, 3) := by decide +kernel
theorem dX5_passerLine_37 : decode cX5_passerLine 37 = .ok (.iconst 0, 1) := by decide +kernel
theorem dX5_passerLine_38 : decode cX5_passerLine 38 = .ok (.ireturn, 1) := by decide +kernel
theorem dX5_passerLine_39 : decode cX5_passerLine 39 = .ok (.aload_n 1, 1) := by decide +kernel
theorem dX5_passerLine_40 : decode cX5_passerLine 40 = .ok (.getfield 163, 3) := by decide +kernel
theorem dX5_passerLine_43 : decode cX5_passerLine 43 = .ok (.aload_n 1, 1) := by decide +kernel
theorem dX5_passerLine_44 : decode cX5_passerLine 44 = .ok (.getfield 160, 3) := by decide +kernel
theorem dX5_passerLine_47 : decode cX5_passerLine 47 = .ok (.aaload, 1) := by decide +kernel
theorem dX5_passerLine_48 : decode cX5_passerLine 48 = .ok (.astore_n 2, 1) := by decide +kernel
theorem dX5_passerLine_49 : decode cX5_passerLine 49 = .ok (.aload_n 2, 1) := by decide +kernel
theorem dX5_passerLine_50 : decode cX5_passerLine 50 = .ok (.aload_n 0, 1) := by decide +kernel
theorem dX5_passerLine_51 : decode cX5_passerLine 51 = .ok (.getfield 9, 3) := by decide +kernel
theorem dX5_passerLine_54 : decode cX5_passerLine 54 = .ok (.getfield 72, 3) := by decide +kernel
theorem dX5_passerLine_57 : decode cX5_passerLine 57 = .ok (.putfield 167, 3) := by decide +kernel
theorem dX5_passerLine_60 : decode cX5_passerLine 60 = .ok (.aload_n 1, 1) := by decide +kernel
theorem dX5_passerLine_61 : decode cX5_passerLine 61 = .ok (.dup, 1) := by decide +kernel
theorem dX5_passerLine_62 : decode cX5_passerLine 62 = .ok (.getfield 160, 3) := by decide +kernel
theorem dX5_passerLine_65 : decode cX5_passerLine 65 = .ok (.iconst 1, 1) := by decide +kernel
theorem dX5_passerLine_66 : decode cX5_passerLine 66 = .ok (.iadd, 1) := by decide +kernel
theorem dX5_passerLine_67 : decode cX5_passerLine 67 = .ok (.putfield 160, 3) := by decide +kernel
theorem dX5_passerLine_70 : decode cX5_passerLine 70 = .ok (.aload_n 0, 1) := by decide +kernel
theorem dX5_passerLine_71 : decode cX5_passerLine 71 = .ok (.getfield 9, 3) := by decide +kernel
theorem dX5_passerLine_74 : decode cX5_passerLine 74 = .ok (.invokevirtual 52, 3) := by decide +kernel
theorem dX5_passerLine_77 : decode cX5_passerLine 77 = .ok (.aload_n 0, 1) := by decide +kernel
theorem dX5_passerLine_78 : decode cX5_passerLine 78 = .ok (.aload_n 2, 1) := by decide +kernel
theorem dX5_passerLine_79 : decode cX5_passerLine 79 = .ok (.invokevirtual 172, 3) := by decide +kernel
theorem dX5_passerLine_82 : decode cX5_passerLine 82 = .ok (.ifCond .eq 20, 3) := by decide +kernel
theorem dX5_passerLine_85 : decode cX5_passerLine 85 = .ok (.aload_n 0, 1) := by decide +kernel
theorem dX5_passerLine_86 : decode cX5_passerLine 86 = .ok (.iconst 2, 1) := by decide +kernel
theorem dX5_passerLine_87 : decode cX5_passerLine 87 = .ok (.invokevirtual 61, 3) := by decide +kernel
theorem dX5_passerLine_90 : decode cX5_passerLine 90 = .ok (.ifCond .eq 12, 3) := by decide +kernel
theorem dX5_passerLine_93 : decode cX5_passerLine 93 = .ok (.aload_n 0, 1) := by decide +kernel
theorem dX5_passerLine_94 : decode cX5_passerLine 94 = .ok (.aload_n 1, 1) := by decide +kernel
theorem dX5_passerLine_95 : decode cX5_passerLine 95 = .ok (.aload_n 2, 1) := by decide +kernel
theorem dX5_passerLine_96 : decode cX5_passerLine 96 = .ok (.invokevirtual 176, 3) := by decide +kernel
theorem dX5_passerLine_99 : decode cX5_passerLine 99 = .ok (.ifCond .ne 5, 3) := by decide +kernel
theorem dX5_passerLine_102 : decode cX5_passerLine 102 = .ok (.iconst 0, 1) := by decide +kernel
theorem dX5_passerLine_103 : decode cX5_passerLine 103 = .ok (.ireturn, 1) := by decide +kernel
theorem dX5_passerLine_104 : decode cX5_passerLine 104 = .ok (.aload_n 0, 1) := by decide +kernel
theorem dX5_passerLine_105 : decode cX5_passerLine 105 = .ok (.iconst 3, 1) := by decide +kernel
theorem dX5_passerLine_106 : decode cX5_passerLine 106 = .ok (.iconst 0, 1) := by decide +kernel
theorem dX5_passerLine_107 : decode cX5_passerLine 107 = .ok (.bipush 9, 2) := by decide +kernel
theorem dX5_passerLine_109 : decode cX5_passerLine 109 = .ok (.invokevirtual 80, 3) := by decide +kernel
theorem dX5_passerLine_112 : decode cX5_passerLine 112 = .ok (.ifCond .ne 5, 3) := by decide +kernel
theorem dX5_passerLine_115 : decode cX5_passerLine 115 = .ok (.iconst 0, 1) := by decide +kernel
theorem dX5_passerLine_116 : decode cX5_passerLine 116 = .ok (.ireturn, 1) := by decide +kernel
theorem dX5_passerLine_117 : decode cX5_passerLine 117 = .ok (.aload_n 2, 1) := by decide +kernel
theorem dX5_passerLine_118 : decode cX5_passerLine 118 = .ok (.aload_n 0, 1) := by decide +kernel
theorem dX5_passerLine_119 : decode cX5_passerLine 119 = .ok (.getfield 58, 3) := by decide +kernel
theorem dX5_passerLine_122 : decode cX5_passerLine 122 = .ok (.putfield 180, 3) := by decide +kernel
theorem dX5_passerLine_125 : decode cX5_passerLine 125 = .ok (.aload_n 0, 1) := by decide +kernel
theorem dX5_passerLine_126 : decode cX5_passerLine 126 = .ok (.iconst 4, 1) := by decide +kernel
theorem dX5_passerLine_127 : decode cX5_passerLine 127 = .ok (.iconst 0, 1) := by decide +kernel
theorem dX5_passerLine_128 : decode cX5_passerLine 128 = .ok (.bipush 9, 2) := by decide +kernel
theorem dX5_passerLine_130 : decode cX5_passerLine 130 = .ok (.invokevirtual 80, 3) := by decide +kernel
theorem dX5_passerLine_133 : decode cX5_passerLine 133 = .ok (.ifCond .ne 5, 3) := by decide +kernel
theorem dX5_passerLine_136 : decode cX5_passerLine 136 = .ok (.iconst 0, 1) := by decide +kernel
theorem dX5_passerLine_137 : decode cX5_passerLine 137 = .ok (.ireturn, 1) := by decide +kernel
theorem dX5_passerLine_138 : decode cX5_passerLine 138 = .ok (.aload_n 2, 1) := by decide +kernel
theorem dX5_passerLine_139 : decode cX5_passerLine 139 = .ok (.aload_n 0, 1) := by decide +kernel
theorem dX5_passerLine_140 : decode cX5_passerLine 140 = .ok (.getfield 58, 3) := by decide +kernel
theorem dX5_passerLine_143 : decode cX5_passerLine 143 = .ok (.putfield 183, 3) := by decide +kernel
theorem dX5_passerLine_146 : decode cX5_passerLine 146 = .ok (.aload_n 0, 1) := by decide +kernel
theorem dX5_passerLine_147 : decode cX5_passerLine 147 = .ok (.iconst 5, 1) := by decide +kernel
theorem dX5_passerLine_148 : decode cX5_passerLine 148 = .ok (.iconst 1, 1) := by decide +kernel
theorem dX5_passerLine_149 : decode cX5_passerLine 149 = .ok (.bipush 30, 2) := by decide +kernel
theorem dX5_passerLine_151 : decode cX5_passerLine 151 = .ok (.invokevirtual 80, 3) := by decide +kernel
theorem dX5_passerLine_154 : decode cX5_passerLine 154 = .ok (.ifCond .ne 5, 3) := by decide +kernel
theorem dX5_passerLine_157 : decode cX5_passerLine 157 = .ok (.iconst 0, 1) := by decide +kernel
theorem dX5_passerLine_158 : decode cX5_passerLine 158 = .ok (.ireturn, 1) := by decide +kernel
theorem dX5_passerLine_159 : decode cX5_passerLine 159 = .ok (.aload_n 2, 1) := by decide +kernel
theorem dX5_passerLine_160 : decode cX5_passerLine 160 = .ok (.aload_n 0, 1) := by decide +kernel
theorem dX5_passerLine_161 : decode cX5_passerLine 161 = .ok (.getfield 58, 3) := by decide +kernel
theorem dX5_passerLine_164 : decode cX5_passerLine 164 = .ok (.putfield 186, 3) := by decide +kernel
theorem dX5_passerLine_167 : decode cX5_passerLine 167 = .ok (.aload_n 0, 1) := by decide +kernel
theorem dX5_passerLine_168 : decode cX5_passerLine 168 = .ok (.bipush 6, 2) := by decide +kernel
theorem dX5_passerLine_170 : decode cX5_passerLine 170 = .ok (.iconst 0, 1) := by decide +kernel
theorem dX5_passerLine_171 : decode cX5_passerLine 171 = .ok (.bipush 59, 2) := by decide +kernel
theorem dX5_passerLine_173 : decode cX5_passerLine 173 = .ok (.invokevirtual 80, 3) := by decide +kernel
theorem dX5_passerLine_176 : decode cX5_passerLine 176 = .ok (.ifCond .ne 5, 3) := by decide +kernel
theorem dX5_passerLine_179 : decode cX5_passerLine 179 = .ok (.iconst 0, 1) := by decide +kernel
theorem dX5_passerLine_180 : decode cX5_passerLine 180 = .ok (.ireturn, 1) := by decide +kernel
theorem dX5_passerLine_181 : decode cX5_passerLine 181 = .ok (.aload_n 2, 1) := by decide +kernel
theorem dX5_passerLine_182 : decode cX5_passerLine 182 = .ok (.aload_n 0, 1) := by decide +kernel
theorem dX5_passerLine_183 : decode cX5_passerLine 183 = .ok (.getfield 58, 3) := by decide +kernel
theorem dX5_passerLine_186 : decode cX5_passerLine 186 = .ok (.putfield 189, 3) := by decide +kernel
theorem dX5_passerLine_189 : decode cX5_passerLine 189 = .ok (.iconst 1, 1) := by decide +kernel
theorem dX5_passerLine_190 : decode cX5_passerLine 190 = .ok (.ireturn, 1) := by decide +kernel
theorem dX5_takeKind_0 : decode cX5_takeKind 0 = .ok (.aload_n 0, 1) := by decide +kernel
theorem dX5_takeKind_1 : decode cX5_takeKind 1 = .ok (.getfield 9, 3) := by decide +kernel
theorem dX5_takeKind_4 : decode cX5_takeKind 4 = .ok (.getfield 29, 3) := by decide +kernel
theorem dX5_takeKind_7 : decode cX5_takeKind 7 = .ok (.bipush 16, 2) := by decide +kernel
theorem dX5_takeKind_9 : decode cX5_takeKind 9 = .ok (.if_icmp .lt 15, 3) := by decide +kernel
theorem dX5_takeKind_12 : decode cX5_takeKind 12 = .ok (.aload_n 0, 1) := by decide +kernel
theorem dX5_takeKind_13 : decode cX5_takeKind 13 = .ok (.getfield 9, 3) := by decide +kernel
theorem dX5_takeKind_16 : decode cX5_takeKind 16 = .ok (.getfield 29, 3) := by decide +kernel
theorem dX5_takeKind_19 : decode cX5_takeKind 19 = .ok (.bipush 19, 2) := by decide +kernel
theorem dX5_takeKind_21 : decode cX5_takeKind 21 = .ok (.if_icmp .le 9, 3) := by decide +kernel
theorem dX5_takeKind_24 : decode cX5_takeKind 24 = .ok (.aload_n 0, 1) := by decide +kernel
theorem dX5_takeKind_25 : decode cX5_takeKind 25 = .ok (.iconst 1, 1) := by decide +kernel
theorem dX5_takeKind_26 : decode cX5_takeKind 26 = .ok (.invokevirtual 48, 3) := by decide +kernel
theorem dX5_takeKind_29 : decode cX5_takeKind 29 = .ok (.ireturn, 1) := by decide +kernel
theorem dX5_takeKind_30 : decode cX5_takeKind 30 = .ok (.aload_n 1, 1) := by decide +kernel
theorem dX5_takeKind_31 : decode cX5_takeKind 31 = .ok (.iconst 0, 1) := by decide +kernel
theorem dX5_takeKind_32 : decode cX5_takeKind 32 = .ok (.aload_n 0, 1) := by decide +kernel
theorem dX5_takeKind_33 : decode cX5_takeKind 33 = .ok (.getfield 9, 3) := by decide +kernel
theorem dX5_takeKind_36 : decode cX5_takeKind 36 = .ok (.getfield 29, 3) := by decide +kernel
theorem dX5_takeKind_39 : decode cX5_takeKind 39 = .ok (.iadd, 1) := by decide +kernel
theorem dX5_takeKind_40 : decode cX5_takeKind 40 = .ok (.bipush 16, 2) := by decide +kernel
theorem dX5_takeKind_42 : decode cX5_takeKind 42 = .ok (.isub, 1) := by decide +kernel
theorem dX5_takeKind_43 : decode cX5_takeKind 43 = .ok (.putfield 192, 3) := by decide +kernel
theorem dX5_takeKind_46 : decode cX5_takeKind 46 = .ok (.aload_n 0, 1) := by decide +kernel
theorem dX5_takeKind_47 : decode cX5_takeKind 47 = .ok (.getfield 9, 3) := by decide +kernel
theorem dX5_takeKind_50 : decode cX5_takeKind 50 = .ok (.invokevirtual 52, 3) := by decide +kernel
theorem dX5_takeKind_53 : decode cX5_takeKind 53 = .ok (.iconst 1, 1) := by decide +kernel
theorem dX5_takeKind_54 : decode cX5_takeKind 54 = .ok (.ireturn, 1) := by decide +kernel
theorem dX5_takeTune_0 : decode cX5_takeTune 0 = .ok (.aload_n 0, 1) := by decide +kernel
theorem dX5_takeTune_1 : decode cX5_takeTune 1 = .ok (.invokevirtual 68, 3) := by decide +kernel
theorem dX5_takeTune_4 : decode cX5_takeTune 4 = .ok (.ifCond .ne 9, 3) := by decide +kernel
theorem dX5_takeTune_7 : decode cX5_takeTune 7 = .ok (.aload_n 0, 1) := by decide +kernel
theorem dX5_takeTune_8 : decode cX5_takeTune 8 = .ok (.iconst 1, 1) := by decide +kernel
theorem dX5_takeTune_9 : decode cX5_takeTune 9 = .ok (.invokevirtual 48, 3) := by decide +kernel
theorem dX5_takeTune_12 : decode cX5_takeTune 12 = .ok (.ireturn, 1) := by decide +kernel
theorem dX5_takeTune_13 : decode cX5_takeTune 13 = .ok (.aload_n 1, 1) := by decide +kernel
theorem dX5_takeTune_14 : decode cX5_takeTune 14 = .ok (.aload_n 0, 1) := by decide +kernel
theorem dX5_takeTune_15 : decode cX5_takeTune 15 = .ok (.getfield 9, 3) := by decide +kernel
theorem dX5_takeTune_18 : decode cX5_takeTune 18 = .ok (.getfield 72, 3) := by decide +kernel
theorem dX5_takeTune_21 : decode cX5_takeTune 21 = .ok (.invokevirtual 195, 3) := by decide +kernel
theorem dX5_takeTune_24 : decode cX5_takeTune 24 = .ok (.istore_n 3, 1) := by decide +kernel
theorem dX5_takeTune_25 : decode cX5_takeTune 25 = .ok (.iload_n 3, 1) := by decide +kernel
theorem dX5_takeTune_26 : decode cX5_takeTune 26 = .ok (.ifCond .lt 8, 3) := by decide +kernel
theorem dX5_takeTune_29 : decode cX5_takeTune 29 = .ok (.iload_n 3, 1) := by decide +kernel
theorem dX5_takeTune_30 : decode cX5_takeTune 30 = .ok (.iconst 5, 1) := by decide +kernel
theorem dX5_takeTune_31 : decode cX5_takeTune 31 = .ok (.if_icmp .lt 9, 3) := by decide +kernel
theorem dX5_takeTune_34 : decode cX5_takeTune 34 = .ok (.aload_n 0, 1) := by decide +kernel
theorem dX5_takeTune_35 : decode cX5_takeTune 35 = .ok (.iconst 2, 1) := by decide +kernel
theorem dX5_takeTune_36 : decode cX5_takeTune 36 = .ok (.invokevirtual 48, 3) := by decide +kernel
theorem dX5_takeTune_39 : decode cX5_takeTune 39 = .ok (.ireturn, 1) := by decide +kernel
theorem dX5_takeTune_40 : decode cX5_takeTune 40 = .ok (.aload_n 2, 1) := by decide +kernel
theorem dX5_takeTune_41 : decode cX5_takeTune 41 = .ok (.iload_n 3, 1) := by decide +kernel
theorem dX5_takeTune_42 : decode cX5_takeTune 42 = .ok (.putfield 199, 3) := by decide +kernel
theorem dX5_takeTune_45 : decode cX5_takeTune 45 = .ok (.aload_n 2, 1) := by decide +kernel
theorem dX5_takeTune_46 : decode cX5_takeTune 46 = .ok (.aload_n 1, 1) := by decide +kernel
theorem dX5_takeTune_47 : decode cX5_takeTune 47 = .ok (.getfield 156, 3) := by decide +kernel
theorem dX5_takeTune_50 : decode cX5_takeTune 50 = .ok (.iload_n 3, 1) := by decide +kernel
theorem dX5_takeTune_51 : decode cX5_takeTune 51 = .ok (.aaload, 1) := by decide +kernel
theorem dX5_takeTune_52 : decode cX5_takeTune 52 = .ok (.aload_n 1, 1) := by decide +kernel
theorem dX5_takeTune_53 : decode cX5_takeTune 53 = .ok (.getfield 148, 3) := by decide +kernel
theorem dX5_takeTune_56 : decode cX5_takeTune 56 = .ok (.iload_n 3, 1) := by decide +kernel
theorem dX5_takeTune_57 : decode cX5_takeTune 57 = .ok (.iaload, 1) := by decide +kernel
theorem dX5_takeTune_58 : decode cX5_takeTune 58 = .ok (.invokevirtual 202, 3) := by decide +kernel
theorem dX5_takeTune_61 : decode cX5_takeTune 61 = .ok (.aload_n 0, 1) := by decide +kernel
theorem dX5_takeTune_62 : decode cX5_takeTune 62 = .ok (.getfield 9, 3) := by decide +kernel
theorem dX5_takeTune_65 : decode cX5_takeTune 65 = .ok (.invokevirtual 52, 3) := by decide +kernel
theorem dX5_takeTune_68 : decode cX5_takeTune 68 = .ok (.iconst 1, 1) := by decide +kernel
theorem dX5_takeTune_69 : decode cX5_takeTune 69 = .ok (.ireturn, 1) := by decide +kernel
theorem dX5_expression_0 : decode cX5_expression 0 = .ok (.iload_n 3, 1) := by decide +kernel
theorem dX5_expression_1 : decode cX5_expression 1 = .ok (.iconst 3, 1) := by decide +kernel
theorem dX5_expression_2 : decode cX5_expression 2 = .ok (.if_icmp .ge 15, 3) := by decide +kernel
theorem dX5_expression_5 : decode cX5_expression 5 = .ok (.aload_n 0, 1) := by decide +kernel
theorem dX5_expression_6 : decode cX5_expression 6 = .ok (.aload_n 1, 1) := by decide +kernel
theorem dX5_expression_7 : decode cX5_expression 7 = .ok (.iload_n 2, 1) := by decide +kernel
theorem dX5_expression_8 : decode cX5_expression 8 = .ok (.iload_n 3, 1) := by decide +kernel
theorem dX5_expression_9 : decode cX5_expression 9 = .ok (.iconst 1, 1) := by decide +kernel
theorem dX5_expression_10 : decode cX5_expression 10 = .ok (.iadd, 1) := by decide +kernel
theorem dX5_expression_11 : decode cX5_expression 11 = .ok (.invokevirtual 113, 3) := by decide +kernel
theorem dX5_expression_14 : decode cX5_expression 14 = .ok (.goto 9, 3) := by decide +kernel
theorem dX5_expression_17 : decode cX5_expression 17 = .ok (.aload_n 0, 1) := by decide +kernel
theorem dX5_expression_18 : decode cX5_expression 18 = .ok (.aload_n 1, 1) := by decide +kernel
theorem dX5_expression_19 : decode cX5_expression 19 = .ok (.iload_n 2, 1) := by decide +kernel
theorem dX5_expression_20 : decode cX5_expression 20 = .ok (.invokevirtual 206, 3) := by decide +kernel
theorem dX5_expression_23 : decode cX5_expression 23 = .ok (.istore 4, 2) := by decide +kernel
theorem dX5_expression_25 : decode cX5_expression 25 = .ok (.iload_n 3, 1) := by decide +kernel
theorem dX5_expression_26 : decode cX5_expression 26 = .ok (.iconst 1, 1) := by decide +kernel
theorem dX5_expression_27 : decode cX5_expression 27 = .ok (.if_icmp .ne 7, 3) := by decide +kernel
theorem dX5_expression_30 : decode cX5_expression 30 = .ok (.iconst 1, 1) := by decide +kernel
theorem dX5_expression_31 : decode cX5_expression 31 = .ok (.goto 6, 3) := by decide +kernel
theorem dX5_expression_34 : decode cX5_expression 34 = .ok (.sipush 1000, 3) := by decide +kernel
theorem dX5_expression_37 : decode cX5_expression 37 = .ok (.istore 5, 2) := by decide +kernel
theorem dX5_expression_39 : decode cX5_expression 39 = .ok (.iconst 0, 1) := by decide +kernel
theorem dX5_expression_40 : decode cX5_expression 40 = .ok (.istore 6, 2) := by decide +kernel
theorem dX5_expression_42 : decode cX5_expression 42 = .ok (.iload 6, 2) := by decide +kernel
theorem dX5_expression_44 : decode cX5_expression 44 = .ok (.iload 5, 2) := by decide +kernel
theorem dX5_expression_46 : decode cX5_expression 46 = .ok (.if_icmp .ge 72, 3) := by decide +kernel
theorem dX5_expression_49 : decode cX5_expression 49 = .ok (.iload 4, 2) := by decide +kernel
theorem dX5_expression_51 : decode cX5_expression 51 = .ok (.ifCond .eq 67, 3) := by decide +kernel
theorem dX5_expression_54 : decode cX5_expression 54 = .ok (.aload_n 0, 1) := by decide +kernel
theorem dX5_expression_55 : decode cX5_expression 55 = .ok (.getfield 9, 3) := by decide +kernel
theorem dX5_expression_58 : decode cX5_expression 58 = .ok (.getfield 29, 3) := by decide +kernel
theorem dX5_expression_61 : decode cX5_expression 61 = .ok (.iload_n 3, 1) := by decide +kernel
theorem dX5_expression_62 : decode cX5_expression 62 = .ok (.invokestatic 210, 3) := by decide +kernel
theorem dX5_expression_65 : decode cX5_expression 65 = .ok (.istore 7, 2) := by decide +kernel
theorem dX5_expression_67 : decode cX5_expression 67 = .ok (.iload 7, 2) := by decide +kernel
theorem dX5_expression_69 : decode cX5_expression 69 = .ok (.ifCond .ne 5, 3) := by decide +kernel
theorem dX5_expression_72 : decode cX5_expression 72 = .ok (.iconst 1, 1) := by decide +kernel
theorem dX5_expression_73 : decode cX5_expression 73 = .ok (.ireturn, 1) := by decide +kernel
theorem dX5_expression_74 : decode cX5_expression 74 = .ok (.aload_n 0, 1) := by decide +kernel
theorem dX5_expression_75 : decode cX5_expression 75 = .ok (.getfield 9, 3) := by decide +kernel
theorem dX5_expression_78 : decode cX5_expression 78 = .ok (.invokevirtual 52, 3) := by decide +kernel
theorem dX5_expression_81 : decode cX5_expression 81 = .ok (.iload_n 3, 1) := by decide +kernel
theorem dX5_expression_82 : decode cX5_expression 82 = .ok (.iconst 3, 1) := by decide +kernel
theorem dX5_expression_83 : decode cX5_expression 83 = .ok (.if_icmp .ge 15, 3) := by decide +kernel
theorem dX5_expression_86 : decode cX5_expression 86 = .ok (.aload_n 0, 1) := by decide +kernel
theorem dX5_expression_87 : decode cX5_expression 87 = .ok (.aload_n 1, 1) := by decide +kernel
theorem dX5_expression_88 : decode cX5_expression 88 = .ok (.iload_n 2, 1) := by decide +kernel
theorem dX5_expression_89 : decode cX5_expression 89 = .ok (.iload_n 3, 1) := by decide +kernel
theorem dX5_expression_90 : decode cX5_expression 90 = .ok (.iconst 1, 1) := by decide +kernel
theorem dX5_expression_91 : decode cX5_expression 91 = .ok (.iadd, 1) := by decide +kernel
theorem dX5_expression_92 : decode cX5_expression 92 = .ok (.invokevirtual 113, 3) := by decide +kernel
theorem dX5_expression_95 : decode cX5_expression 95 = .ok (.goto 9, 3) := by decide +kernel
theorem dX5_expression_98 : decode cX5_expression 98 = .ok (.aload_n 0, 1) := by decide +kernel
theorem dX5_expression_99 : decode cX5_expression 99 = .ok (.aload_n 1, 1) := by decide +kernel
theorem dX5_expression_100 : decode cX5_expression 100 = .ok (.iload_n 2, 1) := by decide +kernel
theorem dX5_expression_101 : decode cX5_expression 101 = .ok (.invokevirtual 206, 3) := by decide +kernel
theorem dX5_expression_104 : decode cX5_expression 104 = .ok (.istore 4, 2) := by decide +kernel
theorem dX5_expression_106 : decode cX5_expression 106 = .ok (.aload_n 1, 1) := by decide +kernel
theorem dX5_expression_107 : decode cX5_expression 107 = .ok (.iload 7, 2) := by decide +kernel
theorem dX5_expression_109 : decode cX5_expression 109 = .ok (.invokevirtual 214, 3) := by decide +kernel
theorem dX5_expression_112 : decode cX5_expression 112 = .ok (.iinc 6 1, 3) := by decide +kernel
theorem dX5_expression_115 : decode cX5_expression 115 = .ok (.goto (-73), 3) := by decide +kernel
theorem dX5_expression_118 : decode cX5_expression 118 = .ok (.iload 4, 2) := by decide +kernel
theorem dX5_expression_120 : decode cX5_expression 120 = .ok (.ireturn, 1) := by decide +kernel
theorem dX5_stepOf_0 : decode cX5_stepOf 0 = .ok (.iload_n 1, 1) := by decide +kernel
theorem dX5_stepOf_1 : decode cX5_stepOf 1 = .ok (.tableswitch 99 0 2 #[27, 51, 75], 27) := by decide +kernel
theorem dX5_stepOf_28 : decode cX5_stepOf 28 = .ok (.iload_n 0, 1) := by decide +kernel
theorem dX5_stepOf_29 : decode cX5_stepOf 29 = .ok (.bipush 21, 2) := by decide +kernel
theorem dX5_stepOf_31 : decode cX5_stepOf 31 = .ok (.if_icmp .ne 8, 3) := by decide +kernel
theorem dX5_stepOf_34 : decode cX5_stepOf 34 = .ok (.bipush (-12), 2) := by decide +kernel
theorem dX5_stepOf_36 : decode cX5_stepOf 36 = .ok (.goto 15, 3) := by decide +kernel
theorem dX5_stepOf_39 : decode cX5_stepOf 39 = .ok (.iload_n 0, 1) := by decide +kernel
theorem dX5_stepOf_40 : decode cX5_stepOf 40 = .ok (.bipush 22, 2) := by decide +kernel
theorem dX5_stepOf_42 : decode cX5_stepOf 42 = .ok (.if_icmp .ne 8, 3) := by decide +kernel
theorem dX5_stepOf_45 : decode cX5_stepOf 45 = .ok (.bipush (-13), 2) := by decide +kernel
theorem dX5_stepOf_47 : decode cX5_stepOf 47 = .ok (.goto 4, 3) := by decide +kernel
theorem dX5_stepOf_50 : decode cX5_stepOf 50 = .ok (.iconst 0, 1) := by decide +kernel
theorem dX5_stepOf_51 : decode cX5_stepOf 51 = .ok (.ireturn, 1) := by decide +kernel
theorem dX5_stepOf_52 : decode cX5_stepOf 52 = .ok (.iload_n 0, 1) := by decide +kernel
theorem dX5_stepOf_53 : decode cX5_stepOf 53 = .ok (.bipush 60, 2) := by decide +kernel
theorem dX5_stepOf_55 : decode cX5_stepOf 55 = .ok (.if_icmp .ne 8, 3) := by decide +kernel
theorem dX5_stepOf_58 : decode cX5_stepOf 58 = .ok (.bipush (-14), 2) := by decide +kernel
theorem dX5_stepOf_60 : decode cX5_stepOf 60 = .ok (.goto 15, 3) := by decide +kernel
theorem dX5_stepOf_63 : decode cX5_stepOf 63 = .ok (.iload_n 0, 1) := by decide +kernel
theorem dX5_stepOf_64 : decode cX5_stepOf 64 = .ok (.bipush 61, 2) := by decide +kernel
theorem dX5_stepOf_66 : decode cX5_stepOf 66 = .ok (.if_icmp .ne 8, 3) := by decide +kernel
theorem dX5_stepOf_69 : decode cX5_stepOf 69 = .ok (.bipush (-15), 2) := by decide +kernel
theorem dX5_stepOf_71 : decode cX5_stepOf 71 = .ok (.goto 4, 3) := by decide +kernel
theorem dX5_stepOf_74 : decode cX5_stepOf 74 = .ok (.iconst 0, 1) := by decide +kernel
theorem dX5_stepOf_75 : decode cX5_stepOf 75 = .ok (.ireturn, 1) := by decide +kernel
theorem dX5_stepOf_76 : decode cX5_stepOf 76 = .ok (.iload_n 0, 1) := by decide +kernel
theorem dX5_stepOf_77 : decode cX5_stepOf 77 = .ok (.bipush 43, 2) := by decide +kernel
theorem dX5_stepOf_79 : decode cX5_stepOf 79 = .ok (.if_icmp .ne 8, 3) := by decide +kernel
theorem dX5_stepOf_82 : decode cX5_stepOf 82 = .ok (.bipush (-16), 2) := by decide +kernel
theorem dX5_stepOf_84 : decode cX5_stepOf 84 = .ok (.goto 15, 3) := by decide +kernel
theorem dX5_stepOf_87 : decode cX5_stepOf 87 = .ok (.iload_n 0, 1) := by decide +kernel
theorem dX5_stepOf_88 : decode cX5_stepOf 88 = .ok (.bipush 45, 2) := by decide +kernel
theorem dX5_stepOf_90 : decode cX5_stepOf 90 = .ok (.if_icmp .ne 8, 3) := by decide +kernel
theorem dX5_stepOf_93 : decode cX5_stepOf 93 = .ok (.bipush (-17), 2) := by decide +kernel
theorem dX5_stepOf_95 : decode cX5_stepOf 95 = .ok (.goto 4, 3) := by decide +kernel
theorem dX5_stepOf_98 : decode cX5_stepOf 98 = .ok (.iconst 0, 1) := by decide +kernel
theorem dX5_stepOf_99 : decode cX5_stepOf 99 = .ok (.ireturn, 1) := by decide +kernel
theorem dX5_stepOf_100 : decode cX5_stepOf 100 = .ok (.iload_n 0, 1) := by decide +kernel
theorem dX5_stepOf_101 : decode cX5_stepOf 101 = .ok (.bipush 42, 2) := by decide +kernel
theorem dX5_stepOf_103 : decode cX5_stepOf 103 = .ok (.if_icmp .ne 8, 3) := by decide +kernel
theorem dX5_stepOf_106 : decode cX5_stepOf 106 = .ok (.bipush (-18), 2) := by decide +kernel
theorem dX5_stepOf_108 : decode cX5_stepOf 108 = .ok (.goto 4, 3) := by decide +kernel
theorem dX5_stepOf_111 : decode cX5_stepOf 111 = .ok (.iconst 0, 1) := by decide +kernel
theorem dX5_stepOf_112 : decode cX5_stepOf 112 = .ok (.ireturn, 1) := by decide +kernel
theorem dX5_part_0 : decode cX5_part 0 = .ok (.aload_n 0, 1) := by decide +kernel
theorem dX5_part_1 : decode cX5_part 1 = .ok (.getfield 9, 3) := by decide +kernel
theorem dX5_part_4 : decode cX5_part 4 = .ok (.getfield 29, 3) := by decide +kernel
theorem dX5_part_7 : decode cX5_part 7 = .ok (.istore_n 3, 1) := by decide +kernel
theorem dX5_part_8 : decode cX5_part 8 = .ok (.aload_n 0, 1) := by decide +kernel
theorem dX5_part_9 : decode cX5_part 9 = .ok (.getfield 9, 3) := by decide +kernel
theorem dX5_part_12 : decode cX5_part 12 = .ok (.getfield 55, 3) := by decide +kernel
theorem dX5_part_15 : decode cX5_part 15 = .ok (.istore 4, 2) := by decide +kernel
theorem dX5_part_17 : decode cX5_part 17 = .ok (.iload_n 3, 1) := by decide +kernel
theorem dX5_part_18 : decode cX5_part 18 = .ok (.bipush 100, 2) := by decide +kernel
theorem dX5_part_20 : decode cX5_part 20 = .ok (.if_icmp .eq 29, 3) := by decide +kernel
theorem dX5_part_23 : decode cX5_part 23 = .ok (.iload_n 3, 1) := by decide +kernel
theorem dX5_part_24 : decode cX5_part 24 = .ok (.bipush 20, 2) := by decide +kernel
theorem dX5_part_26 : decode cX5_part 26 = .ok (.if_icmp .eq 23, 3) := by decide +kernel
theorem dX5_part_29 : decode cX5_part 29 = .ok (.iload_n 3, 1) := by decide +kernel
theorem dX5_part_30 : decode cX5_part 30 = .ok (.bipush 40, 2) := by decide +kernel
theorem dX5_part_32 : decode cX5_part 32 = .ok (.if_icmp .eq 17, 3) := by decide +kernel
theorem dX5_part_35 : decode cX5_part 35 = .ok (.aload_n 1, 1) := by decide +kernel
theorem dX5_part_36 : decode cX5_part 36 = .ok (.iload_n 3, 1) := by decide +kernel
theorem dX5_part_37 : decode cX5_part 37 = .ok (.invokevirtual 219, 3) := by decide +kernel
theorem dX5_part_40 : decode cX5_part 40 = .ok (.ifCond .ne 9, 3) := by decide +kernel
theorem dX5_part_43 : decode cX5_part 43 = .ok (.aload_n 0, 1) := by decide +kernel
theorem dX5_part_44 : decode cX5_part 44 = .ok (.iconst 1, 1) := by decide +kernel
theorem dX5_part_45 : decode cX5_part 45 = .ok (.invokevirtual 48, 3) := by decide +kernel
theorem dX5_part_48 : decode cX5_part 48 = .ok (.ireturn, 1) := by decide +kernel
theorem dX5_part_49 : decode cX5_part 49 = .ok (.iload_n 2, 1) := by decide +kernel
theorem dX5_part_50 : decode cX5_part 50 = .ok (.iconst 5, 1) := by decide +kernel
theorem dX5_part_51 : decode cX5_part 51 = .ok (.if_icmp .lt 9, 3) := by decide +kernel
theorem dX5_part_54 : decode cX5_part 54 = .ok (.aload_n 0, 1) := by decide +kernel
theorem dX5_part_55 : decode cX5_part 55 = .ok (.iconst 5, 1) := by decide +kernel
theorem dX5_part_56 : decode cX5_part 56 = .ok (.invokevirtual 48, 3) := by decide +kernel
theorem dX5_part_59 : decode cX5_part 59 = .ok (.ireturn, 1) := by decide +kernel
theorem dX5_part_60 : decode cX5_part 60 = .ok (.aload_n 0, 1) := by decide +kernel
theorem dX5_part_61 : decode cX5_part 61 = .ok (.getfield 9, 3) := by decide +kernel
theorem dX5_part_64 : decode cX5_part 64 = .ok (.invokevirtual 52, 3) := by decide +kernel
theorem dX5_part_67 : decode cX5_part 67 = .ok (.iload_n 3, 1) := by decide +kernel
theorem dX5_part_68 : decode cX5_part 68 = .ok (.bipush 40, 2) := by decide +kernel
theorem dX5_part_70 : decode cX5_part 70 = .ok (.if_icmp .ne 30, 3) := by decide +kernel
theorem dX5_part_73 : decode cX5_part 73 = .ok (.aload_n 0, 1) := by decide +kernel
theorem dX5_part_74 : decode cX5_part 74 = .ok (.aload_n 1, 1) := by decide +kernel
theorem dX5_part_75 : decode cX5_part 75 = .ok (.iload_n 2, 1) := by decide +kernel
theorem dX5_part_76 : decode cX5_part 76 = .ok (.iconst 1, 1) := by decide +kernel
theorem dX5_part_77 : decode cX5_part 77 = .ok (.iadd, 1) := by decide +kernel
theorem dX5_part_78 : decode cX5_part 78 = .ok (.iconst 0, 1) := by decide +kernel
theorem dX5_part_79 : decode cX5_part 79 = .ok (.invokevirtual 113, 3) := by decide +kernel
theorem dX5_part_82 : decode cX5_part 82 = .ok (.ifCond .eq 16, 3) := by decide +kernel
theorem dX5_part_85 : decode cX5_part 85 = .ok (.aload_n 0, 1) := by decide +kernel
theorem dX5_part_86 : decode cX5_part 86 = .ok (.bipush 41, 2) := by decide +kernel
theorem dX5_part_88 : decode cX5_part 88 = .ok (.invokevirtual 61, 3) := by decide +kernel
theorem dX5_part_91 : decode cX5_part 91 = .ok (.ifCond .eq 7, 3) := by decide +kernel
theorem dX5_part_94 : decode cX5_part 94 = .ok (.iconst 1, 1) := by decide +kernel
theorem dX5_part_95 : decode cX5_part 95 = .ok (.goto 4, 3) := by decide +kernel
theorem dX5_part_98 : decode cX5_part 98 = .ok (.iconst 0, 1) := by decide +kernel
theorem dX5_part_99 : decode cX5_part 99 = .ok (.ireturn, 1) := by decide +kernel
theorem dX5_part_100 : decode cX5_part 100 = .ok (.iload_n 3, 1) := by decide +kernel
theorem dX5_part_101 : decode cX5_part 101 = .ok (.bipush 20, 2) := by decide +kernel
theorem dX5_part_103 : decode cX5_part 103 = .ok (.if_icmp .ne 22, 3) := by decide +kernel
theorem dX5_part_106 : decode cX5_part 106 = .ok (.aload_n 0, 1) := by decide +kernel
theorem dX5_part_107 : decode cX5_part 107 = .ok (.aload_n 1, 1) := by decide +kernel
theorem dX5_part_108 : decode cX5_part 108 = .ok (.iload_n 2, 1) := by decide +kernel
theorem dX5_part_109 : decode cX5_part 109 = .ok (.iconst 1, 1) := by decide +kernel
theorem dX5_part_110 : decode cX5_part 110 = .ok (.iadd, 1) := by decide +kernel
theorem dX5_part_111 : decode cX5_part 111 = .ok (.invokevirtual 206, 3) := by decide +kernel
theorem dX5_part_114 : decode cX5_part 114 = .ok (.istore 5, 2) := by decide +kernel
theorem dX5_part_116 : decode cX5_part 116 = .ok (.aload_n 1, 1) := by decide +kernel
theorem dX5_part_117 : decode cX5_part 117 = .ok (.bipush (-11), 2) := by decide +kernel
theorem dX5_part_119 : decode cX5_part 119 = .ok (.invokevirtual 214, 3) := by decide +kernel
theorem dX5_part_122 : decode cX5_part 122 = .ok (.iload 5, 2) := by decide +kernel
theorem dX5_part_124 : decode cX5_part 124 = .ok (.ireturn, 1) := by decide +kernel
theorem dX5_part_125 : decode cX5_part 125 = .ok (.aload_n 1, 1) := by decide +kernel
theorem dX5_part_126 : decode cX5_part 126 = .ok (.iload_n 3, 1) := by decide +kernel
theorem dX5_part_127 : decode cX5_part 127 = .ok (.bipush 100, 2) := by decide +kernel
theorem dX5_part_129 : decode cX5_part 129 = .ok (.if_icmp .ne 8, 3) := by decide +kernel
theorem dX5_part_132 : decode cX5_part 132 = .ok (.iload 4, 2) := by decide +kernel
theorem dX5_part_134 : decode cX5_part 134 = .ok (.goto 9, 3) := by decide +kernel
theorem dX5_part_137 : decode cX5_part 137 = .ok (.iconst (-1), 1) := by decide +kernel
theorem dX5_part_138 : decode cX5_part 138 = .ok (.iload_n 3, 1) := by decide +kernel
theorem dX5_part_139 : decode cX5_part 139 = .ok (.bipush 23, 2) := by decide +kernel
theorem dX5_part_141 : decode cX5_part 141 = .ok (.isub, 1) := by decide +kernel
theorem dX5_part_142 : decode cX5_part 142 = .ok (.isub, 1) := by decide +kernel
theorem dX5_part_143 : decode cX5_part 143 = .ok (.invokevirtual 214, 3) := by decide +kernel
theorem dX5_part_146 : decode cX5_part 146 = .ok (.iconst 1, 1) := by decide +kernel
theorem dX5_part_147 : decode cX5_part 147 = .ok (.ireturn, 1) := by decide +kernel
theorem dX6_init_0 : decode cX6_init 0 = .ok (.aload_n 0, 1) := by decide +kernel
theorem dX6_init_1 : decode cX6_init 1 = .ok (.invokespecial 3, 3) := by decide +kernel
theorem dX6_init_4 : decode cX6_init 4 = .ok (.aload_n 0, 1) := by decide +kernel
theorem dX6_init_5 : decode cX6_init 5 = .ok (.bipush 12, 2) := by decide +kernel
theorem dX6_init_7 : decode cX6_init 7 = .ok (.newarray .int, 2) := by decide +kernel
theorem dX6_init_9 : decode cX6_init 9 = .ok (.putfield 9, 3) := by decide +kernel
theorem dX6_init_12 : decode cX6_init 12 = .ok (.aload_n 0, 1) := by decide +kernel
theorem dX6_init_13 : decode cX6_init 13 = .ok (.bipush 30, 2) := by decide +kernel
theorem dX6_init_15 : decode cX6_init 15 = .ok (.putfield 15, 3) := by decide +kernel
theorem dX6_init_18 : decode cX6_init 18 = .ok (.aload_n 0, 1) := by decide +kernel
theorem dX6_init_19 : decode cX6_init 19 = .ok (.bipush 60, 2) := by decide +kernel
theorem dX6_init_21 : decode cX6_init 21 = .ok (.putfield 19, 3) := by decide +kernel
theorem dX6_init_24 : decode cX6_init 24 = .ok (.return_, 1) := by decide +kernel
theorem dX6_copyFrom_0 : decode cX6_copyFrom 0 = .ok (.iconst 0, 1) := by decide +kernel
theorem dX6_copyFrom_1 : decode cX6_copyFrom 1 = .ok (.istore_n 2, 1) := by decide +kernel
theorem dX6_copyFrom_2 : decode cX6_copyFrom 2 = .ok (.iload_n 2, 1) := by decide +kernel
theorem dX6_copyFrom_3 : decode cX6_copyFrom 3 = .ok (.bipush 12, 2) := by decide +kernel
theorem dX6_copyFrom_5 : decode cX6_copyFrom 5 = .ok (.if_icmp .ge 21, 3) := by decide +kernel
theorem dX6_copyFrom_8 : decode cX6_copyFrom 8 = .ok (.aload_n 0, 1) := by decide +kernel
theorem dX6_copyFrom_9 : decode cX6_copyFrom 9 = .ok (.getfield 9, 3) := by decide +kernel
theorem dX6_copyFrom_12 : decode cX6_copyFrom 12 = .ok (.iload_n 2, 1) := by decide +kernel
theorem dX6_copyFrom_13 : decode cX6_copyFrom 13 = .ok (.aload_n 1, 1) := by decide +kernel
theorem dX6_copyFrom_14 : decode cX6_copyFrom 14 = .ok (.getfield 9, 3) := by decide +kernel
theorem dX6_copyFrom_17 : decode cX6_copyFrom 17 = .ok (.iload_n 2, 1) := by decide +kernel
theorem dX6_copyFrom_18 : decode cX6_copyFrom 18 = .ok (.iaload, 1) := by decide +kernel
theorem dX6_copyFrom_19 : decode cX6_copyFrom 19 = .ok (.iastore, 1) := by decide +kernel
theorem dX6_copyFrom_20 : decode cX6_copyFrom 20 = .ok (.iinc 2 1, 3) := by decide +kernel
theorem dX6_copyFrom_23 : decode cX6_copyFrom 23 = .ok (.goto (-21), 3) := by decide +kernel
theorem dX6_copyFrom_26 : decode cX6_copyFrom 26 = .ok (.aload_n 0, 1) := by decide +kernel
theorem dX6_copyFrom_27 : decode cX6_copyFrom 27 = .ok (.aload_n 1, 1) := by decide +kernel
theorem dX6_copyFrom_28 : decode cX6_copyFrom 28 = .ok (.getfield 22, 3) := by decide +kernel
theorem dX6_copyFrom_31 : decode cX6_copyFrom 31 = .ok (.putfield 22, 3) := by decide +kernel
theorem dX6_copyFrom_34 : decode cX6_copyFrom 34 = .ok (.aload_n 0, 1) := by decide +kernel
theorem dX6_copyFrom_35 : decode cX6_copyFrom 35 = .ok (.aload_n 1, 1) := by decide +kernel
theorem dX6_copyFrom_36 : decode cX6_copyFrom 36 = .ok (.getfield 15, 3) := by decide +kernel
theorem dX6_copyFrom_39 : decode cX6_copyFrom 39 = .ok (.putfield 15, 3) := by decide +kernel
theorem dX6_copyFrom_42 : decode cX6_copyFrom 42 = .ok (.aload_n 0, 1) := by decide +kernel
theorem dX6_copyFrom_43 : decode cX6_copyFrom 43 = .ok (.aload_n 1, 1) := by decide +kernel
theorem dX6_copyFrom_44 : decode cX6_copyFrom 44 = .ok (.getfield 25, 3) := by decide +kernel
theorem dX6_copyFrom_47 : decode cX6_copyFrom 47 = .ok (.putfield 25, 3) := by decide +kernel
theorem dX6_copyFrom_50 : decode cX6_copyFrom 50 = .ok (.aload_n 0, 1) := by decide +kernel
theorem dX6_copyFrom_51 : decode cX6_copyFrom 51 = .ok (.aload_n 1, 1) := by decide +kernel
theorem dX6_copyFrom_52 : decode cX6_copyFrom 52 = .ok (.getfield 19, 3) := by decide +kernel
theorem dX6_copyFrom_55 : decode cX6_copyFrom 55 = .ok (.putfield 19, 3) := by decide +kernel
theorem dX6_copyFrom_58 : decode cX6_copyFrom 58 = .ok (.aload_n 0, 1) := by decide +kernel
theorem dX6_copyFrom_59 : decode cX6_copyFrom 59 = .ok (.aload_n 1, 1) := by decide +kernel
theorem dX6_copyFrom_60 : decode cX6_copyFrom 60 = .ok (.getfield 28, 3) := by decide +kernel
theorem dX6_copyFrom_63 : decode cX6_copyFrom 63 = .ok (.putfield 28, 3) := by decide +kernel
theorem dX6_copyFrom_66 : decode cX6_copyFrom 66 = .ok (.return_, 1) := by decide +kernel
theorem dX6_begin_0 : decode cX6_begin 0 = .ok (.iconst 0, 1) := by decide +kernel
theorem dX6_begin_1 : decode cX6_begin 1 = .ok (.istore_n 2, 1) := by decide +kernel
theorem dX6_begin_2 : decode cX6_begin 2 = .ok (.iload_n 2, 1) := by decide +kernel
theorem dX6_begin_3 : decode cX6_begin 3 = .ok (.bipush 12, 2) := by decide +kernel
theorem dX6_begin_5 : decode cX6_begin 5 = .ok (.if_icmp .ge 16, 3) := by decide +kernel
theorem dX6_begin_8 : decode cX6_begin 8 = .ok (.aload_n 0, 1) := by decide +kernel
theorem dX6_begin_9 : decode cX6_begin 9 = .ok (.getfield 9, 3) := by decide +kernel
theorem dX6_begin_12 : decode cX6_begin 12 = .ok (.iload_n 2, 1) := by decide +kernel
theorem dX6_begin_13 : decode cX6_begin 13 = .ok (.iconst 0, 1) := by decide +kernel
theorem dX6_begin_14 : decode cX6_begin 14 = .ok (.iastore, 1) := by decide +kernel
theorem dX6_begin_15 : decode cX6_begin 15 = .ok (.iinc 2 1, 3) := by decide +kernel
theorem dX6_begin_18 : decode cX6_begin 18 = .ok (.goto (-16), 3) := by decide +kernel
theorem dX6_begin_21 : decode cX6_begin 21 = .ok (.aload_n 0, 1) := by decide +kernel
theorem dX6_begin_22 : decode cX6_begin 22 = .ok (.iconst 0, 1) := by decide +kernel
theorem dX6_begin_23 : decode cX6_begin 23 = .ok (.putfield 22, 3) := by decide +kernel
theorem dX6_begin_26 : decode cX6_begin 26 = .ok (.aload_n 0, 1) := by decide +kernel
theorem dX6_begin_27 : decode cX6_begin 27 = .ok (.aload_n 1, 1) := by decide +kernel
theorem dX6_begin_28 : decode cX6_begin 28 = .ok (.getfield 31, 3) := by decide +kernel
theorem dX6_begin_31 : decode cX6_begin 31 = .ok (.putfield 15, 3) := by decide +kernel
theorem dX6_begin_34 : decode cX6_begin 34 = .ok (.aload_n 0, 1) := by decide +kernel
theorem dX6_begin_35 : decode cX6_begin 35 = .ok (.aload_n 1, 1) := by decide +kernel
theorem dX6_begin_36 : decode cX6_begin 36 = .ok (.getfield 34, 3) := by decide +kernel
theorem dX6_begin_39 : decode cX6_begin 39 = .ok (.putfield 25, 3) := by decide +kernel
theorem dX6_begin_42 : decode cX6_begin 42 = .ok (.aload_n 0, 1) := by decide +kernel
theorem dX6_begin_43 : decode cX6_begin 43 = .ok (.aload_n 1, 1) := by decide +kernel
theorem dX6_begin_44 : decode cX6_begin 44 = .ok (.getfield 35, 3) := by decide +kernel
theorem dX6_begin_47 : decode cX6_begin 47 = .ok (.putfield 19, 3) := by decide +kernel
theorem dX6_begin_50 : decode cX6_begin 50 = .ok (.aload_n 0, 1) := by decide +kernel
theorem dX6_begin_51 : decode cX6_begin 51 = .ok (.iconst 0, 1) := by decide +kernel
theorem dX6_begin_52 : decode cX6_begin 52 = .ok (.putfield 28, 3) := by decide +kernel
theorem dX6_begin_55 : decode cX6_begin 55 = .ok (.return_, 1) := by decide +kernel
theorem dX6_tuneUp_0 : decode cX6_tuneUp 0 = .ok (.iconst 0, 1) := by decide +kernel
theorem dX6_tuneUp_1 : decode cX6_tuneUp 1 = .ok (.istore_n 2, 1) := by decide +kernel
theorem dX6_tuneUp_2 : decode cX6_tuneUp 2 = .ok (.iconst 0, 1) := by decide +kernel
theorem dX6_tuneUp_3 : decode cX6_tuneUp 3 = .ok (.istore_n 3, 1) := by decide +kernel
theorem dX6_tuneUp_4 : decode cX6_tuneUp 4 = .ok (.iload_n 3, 1) := by decide +kernel
theorem dX6_tuneUp_5 : decode cX6_tuneUp 5 = .ok (.bipush 12, 2) := by decide +kernel
theorem dX6_tuneUp_7 : decode cX6_tuneUp 7 = .ok (.if_icmp .ge 36, 3) := by decide +kernel
theorem dX6_tuneUp_10 : decode cX6_tuneUp 10 = .ok (.aload_n 0, 1) := by decide +kernel
theorem dX6_tuneUp_11 : decode cX6_tuneUp 11 = .ok (.getfield 9, 3) := by decide +kernel
theorem dX6_tuneUp_14 : decode cX6_tuneUp 14 = .ok (.iload_n 3, 1) := by decide +kernel
theorem dX6_tuneUp_15 : decode cX6_tuneUp 15 = .ok (.iaload, 1) := by decide +kernel
theorem dX6_tuneUp_16 : decode cX6_tuneUp 16 = .ok (.bipush 9, 2) := by decide +kernel
theorem dX6_tuneUp_18 : decode cX6_tuneUp 18 = .ok (.if_icmp .ge 19, 3) := by decide +kernel
theorem dX6_tuneUp_21 : decode cX6_tuneUp 21 = .ok (.iload_n 2, 1) := by decide +kernel
theorem dX6_tuneUp_22 : decode cX6_tuneUp 22 = .ok (.aload_n 0, 1) := by decide +kernel
theorem dX6_tuneUp_23 : decode cX6_tuneUp 23 = .ok (.getfield 9, 3) := by decide +kernel
theorem dX6_tuneUp_26 : decode cX6_tuneUp 26 = .ok (.iload_n 3, 1) := by decide +kernel
theorem dX6_tuneUp_27 : decode cX6_tuneUp 27 = .ok (.iaload, 1) := by decide +kernel
theorem dX6_tuneUp_28 : decode cX6_tuneUp 28 = .ok (.iadd, 1) := by decide +kernel
theorem dX6_tuneUp_29 : decode cX6_tuneUp 29 = .ok (.istore_n 2, 1) := by decide +kernel
theorem dX6_tuneUp_30 : decode cX6_tuneUp 30 = .ok (.aload_n 0, 1) := by decide +kernel
theorem dX6_tuneUp_31 : decode cX6_tuneUp 31 = .ok (.getfield 9, 3) := by decide +kernel
theorem dX6_tuneUp_34 : decode cX6_tuneUp 34 = .ok (.iload_n 3, 1) := by decide +kernel
theorem dX6_tuneUp_35 : decode cX6_tuneUp 35 = .ok (.iconst 0, 1) := by decide +kernel
theorem dX6_tuneUp_36 : decode cX6_tuneUp 36 = .ok (.iastore, 1) := by decide +kernel
theorem dX6_tuneUp_37 : decode cX6_tuneUp 37 = .ok (.iinc 3 1, 3) := by decide +kernel
theorem dX6_tuneUp_40 : decode cX6_tuneUp 40 = .ok (.goto (-36), 3) := by decide +kernel
theorem dX6_tuneUp_43 : decode cX6_tuneUp 43 = .ok (.aload_n 0, 1) := by decide +kernel
theorem dX6_tuneUp_44 : decode cX6_tuneUp 44 = .ok (.dup, 1) := by decide +kernel
theorem dX6_tuneUp_45 : decode cX6_tuneUp 45 = .ok (.getfield 28, 3) := by decide +kernel
theorem dX6_tuneUp_48 : decode cX6_tuneUp 48 = .ok (.iload_n 1, 1) := by decide +kernel
theorem dX6_tuneUp_49 : decode cX6_tuneUp 49 = .ok (.iadd, 1) := by decide +kernel
theorem dX6_tuneUp_50 : decode cX6_tuneUp 50 = .ok (.putfield 28, 3) := by decide +kernel
theorem dX6_tuneUp_53 : decode cX6_tuneUp 53 = .ok (.iload_n 2, 1) := by decide +kernel
theorem dX6_tuneUp_54 : decode cX6_tuneUp 54 = .ok (.ireturn, 1) := by decide +kernel
theorem dX6_goneKeys_0 : decode cX6_goneKeys 0 = .ok (.iconst 0, 1) := by decide +kernel
theorem dX6_goneKeys_1 : decode cX6_goneKeys 1 = .ok (.istore_n 1, 1) := by decide +kernel
theorem dX6_goneKeys_2 : decode cX6_goneKeys 2 = .ok (.iconst 0, 1) := by decide +kernel
theorem dX6_goneKeys_3 : decode cX6_goneKeys 3 = .ok (.istore_n 2, 1) := by decide +kernel
theorem dX6_goneKeys_4 : decode cX6_goneKeys 4 = .ok (.iload_n 2, 1) := by decide +kernel
theorem dX6_goneKeys_5 : decode cX6_goneKeys 5 = .ok (.bipush 12, 2) := by decide +kernel
theorem dX6_goneKeys_7 : decode cX6_goneKeys 7 = .ok (.if_icmp .ge 26, 3) := by decide +kernel
theorem dX6_goneKeys_10 : decode cX6_goneKeys 10 = .ok (.aload_n 0, 1) := by decide +kernel
theorem dX6_goneKeys_11 : decode cX6_goneKeys 11 = .ok (.getfield 9, 3) := by decide +kernel
theorem dX6_goneKeys_14 : decode cX6_goneKeys 14 = .ok (.iload_n 2, 1) := by decide +kernel
theorem dX6_goneKeys_15 : decode cX6_goneKeys 15 = .ok (.iaload, 1) := by decide +kernel
theorem dX6_goneKeys_16 : decode cX6_goneKeys 16 = .ok (.bipush 9, 2) := by decide +kernel
theorem dX6_goneKeys_18 : decode cX6_goneKeys 18 = .ok (.if_icmp .lt 9, 3) := by decide +kernel
theorem dX6_goneKeys_21 : decode cX6_goneKeys 21 = .ok (.iload_n 1, 1) := by decide +kernel
theorem dX6_goneKeys_22 : decode cX6_goneKeys 22 = .ok (.iconst 1, 1) := by decide +kernel
theorem dX6_goneKeys_23 : decode cX6_goneKeys 23 = .ok (.iload_n 2, 1) := by decide +kernel
theorem dX6_goneKeys_24 : decode cX6_goneKeys 24 = .ok (.ishl, 1) := by decide +kernel
theorem dX6_goneKeys_25 : decode cX6_goneKeys 25 = .ok (.ior, 1) := by decide +kernel
theorem dX6_goneKeys_26 : decode cX6_goneKeys 26 = .ok (.istore_n 1, 1) := by decide +kernel
theorem dX6_goneKeys_27 : decode cX6_goneKeys 27 = .ok (.iinc 2 1, 3) := by decide +kernel
theorem dX6_goneKeys_30 : decode cX6_goneKeys 30 = .ok (.goto (-26), 3) := by decide +kernel
theorem dX6_goneKeys_33 : decode cX6_goneKeys 33 = .ok (.iload_n 1, 1) := by decide +kernel
theorem dX6_goneKeys_34 : decode cX6_goneKeys 34 = .ok (.ireturn, 1) := by decide +kernel
theorem dX6_keysAbove_0 : decode cX6_keysAbove 0 = .ok (.iconst 0, 1) := by decide +kernel
theorem dX6_keysAbove_1 : decode cX6_keysAbove 1 = .ok (.istore_n 2, 1) := by decide +kernel
theorem dX6_keysAbove_2 : decode cX6_keysAbove 2 = .ok (.iconst 0, 1) := by decide +kernel
theorem dX6_keysAbove_3 : decode cX6_keysAbove 3 = .ok (.istore_n 3, 1) := by decide +kernel
theorem dX6_keysAbove_4 : decode cX6_keysAbove 4 = .ok (.iload_n 3, 1) := by decide +kernel
theorem dX6_keysAbove_5 : decode cX6_keysAbove 5 = .ok (.bipush 12, 2) := by decide +kernel
theorem dX6_keysAbove_7 : decode cX6_keysAbove 7 = .ok (.if_icmp .ge 22, 3) := by decide +kernel
theorem dX6_keysAbove_10 : decode cX6_keysAbove 10 = .ok (.aload_n 0, 1) := by decide +kernel
theorem dX6_keysAbove_11 : decode cX6_keysAbove 11 = .ok (.getfield 9, 3) := by decide +kernel
theorem dX6_keysAbove_14 : decode cX6_keysAbove 14 = .ok (.iload_n 3, 1) := by decide +kernel
theorem dX6_keysAbove_15 : decode cX6_keysAbove 15 = .ok (.iaload, 1) := by decide +kernel
theorem dX6_keysAbove_16 : decode cX6_keysAbove 16 = .ok (.iload_n 1, 1) := by decide +kernel
theorem dX6_keysAbove_17 : decode cX6_keysAbove 17 = .ok (.if_icmp .le 6, 3) := by decide +kernel
theorem dX6_keysAbove_20 : decode cX6_keysAbove 20 = .ok (.iinc 2 1, 3) := by decide +kernel
theorem dX6_keysAbove_23 : decode cX6_keysAbove 23 = .ok (.iinc 3 1, 3) := by decide +kernel
theorem dX6_keysAbove_26 : decode cX6_keysAbove 26 = .ok (.goto (-22), 3) := by decide +kernel
theorem dX6_keysAbove_29 : decode cX6_keysAbove 29 = .ok (.iload_n 2, 1) := by decide +kernel
theorem dX6_keysAbove_30 : decode cX6_keysAbove 30 = .ok (.ireturn, 1) := by decide +kernel
theorem dX7_init_0 : decode cX7_init 0 = .ok (.aload_n 0, 1) := by decide +kernel
theorem dX7_init_1 : decode cX7_init 1 = .ok (.invokespecial 3, 3) := by decide +kernel
theorem dX7_init_4 : decode cX7_init 4 = .ok (.aload_n 0, 1) := by decide +kernel
theorem dX7_init_5 : decode cX7_init 5 = .ok (.iconst 5, 1) := by decide +kernel
theorem dX7_init_6 : decode cX7_init 6 = .ok (.newarray .long, 2) := by decide +kernel
theorem dX7_init_8 : decode cX7_init 8 = .ok (.putfield 9, 3) := by decide +kernel
theorem dX7_init_11 : decode cX7_init 11 = .ok (.aload_n 0, 1) := by decide +kernel
theorem dX7_init_12 : decode cX7_init 12 = .ok (.iconst 5, 1) := by decide +kernel
theorem dX7_init_13 : decode cX7_init 13 = .ok (.newarray .int, 2) := by decide +kernel
theorem dX7_init_15 : decode cX7_init 15 = .ok (.putfield 15, 3) := by decide +kernel
theorem dX7_init_18 : decode cX7_init 18 = .ok (.aload_n 0, 1) := by decide +kernel
theorem dX7_init_19 : decode cX7_init 19 = .ok (.iconst 5, 1) := by decide +kernel
theorem dX7_init_20 : decode cX7_init 20 = .ok (.bipush 9, 2) := by decide +kernel
theorem dX7_init_22 : decode cX7_init 22 = .ok (.multianewarray 19 2, 4) := by decide +kernel
theorem dX7_init_26 : decode cX7_init 26 = .ok (.putfield 21, 3) := by decide +kernel
theorem dX7_init_29 : decode cX7_init 29 = .ok (.aload_n 0, 1) := by decide +kernel
theorem dX7_init_30 : decode cX7_init 30 = .ok (.bipush 7, 2) := by decide +kernel
theorem dX7_init_32 : decode cX7_init 32 = .ok (.anewarray 24, 3) := by decide +kernel
theorem dX7_init_35 : decode cX7_init 35 = .ok (.putfield 26, 3) := by decide +kernel
theorem dX7_init_38 : decode cX7_init 38 = .ok (.aload_n 0, 1) := by decide +kernel
theorem dX7_init_39 : decode cX7_init 39 = .ok (.new 30, 3) := by decide +kernel
theorem dX7_init_42 : decode cX7_init 42 = .ok (.dup, 1) := by decide +kernel
theorem dX7_init_43 : decode cX7_init 43 = .ok (.iconst 1, 1) := by decide +kernel
theorem dX7_init_44 : decode cX7_init 44 = .ok (.invokespecial 32, 3) := by decide +kernel
theorem dX7_init_47 : decode cX7_init 47 = .ok (.putfield 35, 3) := by decide +kernel
theorem dX7_init_50 : decode cX7_init 50 = .ok (.aload_n 0, 1) := by decide +kernel
theorem dX7_init_51 : decode cX7_init 51 = .ok (.new 30, 3) := by decide +kernel
theorem dX7_init_54 : decode cX7_init 54 = .ok (.dup, 1) := by decide +kernel
theorem dX7_init_55 : decode cX7_init 55 = .ok (.iconst 0, 1) := by decide +kernel
theorem dX7_init_56 : decode cX7_init 56 = .ok (.invokespecial 32, 3) := by decide +kernel
theorem dX7_init_59 : decode cX7_init 59 = .ok (.putfield 39, 3) := by decide +kernel
theorem dX7_init_62 : decode cX7_init 62 = .ok (.aload_n 0, 1) := by decide +kernel
theorem dX7_init_63 : decode cX7_init 63 = .ok (.iconst 5, 1) := by decide +kernel
theorem dX7_init_64 : decode cX7_init 64 = .ok (.putfield 42, 3) := by decide +kernel
theorem dX7_init_67 : decode cX7_init 67 = .ok (.aload_n 0, 1) := by decide +kernel
theorem dX7_init_68 : decode cX7_init 68 = .ok (.bipush 30, 2) := by decide +kernel
theorem dX7_init_70 : decode cX7_init 70 = .ok (.putfield 46, 3) := by decide +kernel
theorem dX7_init_73 : decode cX7_init 73 = .ok (.aload_n 0, 1) := by decide +kernel
theorem dX7_init_74 : decode cX7_init 74 = .ok (.bipush 60, 2) := by decide +kernel
theorem dX7_init_76 : decode cX7_init 76 = .ok (.putfield 49, 3) := by decide +kernel
theorem dX7_init_79 : decode cX7_init 79 = .ok (.aload_n 0, 1) := by decide +kernel
theorem dX7_init_80 : decode cX7_init 80 = .ok (.bipush 60, 2) := by decide +kernel
theorem dX7_init_82 : decode cX7_init 82 = .ok (.putfield 52, 3) := by decide +kernel
theorem dX7_init_85 : decode cX7_init 85 = .ok (.iconst 0, 1) := by decide +kernel
theorem dX7_init_86 : decode cX7_init 86 = .ok (.istore_n 1, 1) := by decide +kernel
theorem dX7_init_87 : decode cX7_init 87 = .ok (.iload_n 1, 1) := by decide +kernel
theorem dX7_init_88 : decode cX7_init 88 = .ok (.bipush 7, 2) := by decide +kernel
theorem dX7_init_90 : decode cX7_init 90 = .ok (.if_icmp .ge 22, 3) := by decide +kernel
theorem dX7_init_93 : decode cX7_init 93 = .ok (.aload_n 0, 1) := by decide +kernel
theorem dX7_init_94 : decode cX7_init 94 = .ok (.getfield 26, 3) := by decide +kernel
theorem dX7_init_97 : decode cX7_init 97 = .ok (.iload_n 1, 1) := by decide +kernel
theorem dX7_init_98 : decode cX7_init 98 = .ok (.new 24, 3) := by decide +kernel
theorem dX7_init_101 : decode cX7_init 101 = .ok (.dup, 1) := by decide +kernel
theorem dX7_init_102 : decode cX7_init 102 = .ok (.invokespecial 55, 3) := by decide +kernel
theorem dX7_init_105 : decode cX7_init 105 = .ok (.aastore, 1) := by decide +kernel
theorem dX7_init_106 : decode cX7_init 106 = .ok (.iinc 1 1, 3) := by decide +kernel
theorem dX7_init_109 : decode cX7_init 109 = .ok (.goto (-22), 3) := by decide +kernel
theorem dX7_init_112 : decode cX7_init 112 = .ok (.return_, 1) := by decide +kernel
theorem dX7_clear_0 : decode cX7_clear 0 = .ok (.aload_n 0, 1) := by decide +kernel
theorem dX7_clear_1 : decode cX7_clear 1 = .ok (.iconst 0, 1) := by decide +kernel
theorem dX7_clear_2 : decode cX7_clear 2 = .ok (.putfield 56, 3) := by decide +kernel
theorem dX7_clear_5 : decode cX7_clear 5 = .ok (.aload_n 0, 1) := by decide +kernel
theorem dX7_clear_6 : decode cX7_clear 6 = .ok (.iconst 0, 1) := by decide +kernel
theorem dX7_clear_7 : decode cX7_clear 7 = .ok (.putfield 59, 3) := by decide +kernel
theorem dX7_clear_10 : decode cX7_clear 10 = .ok (.aload_n 0, 1) := by decide +kernel
theorem dX7_clear_11 : decode cX7_clear 11 = .ok (.getfield 35, 3) := by decide +kernel
theorem dX7_clear_14 : decode cX7_clear 14 = .ok (.iconst 0, 1) := by decide +kernel
theorem dX7_clear_15 : decode cX7_clear 15 = .ok (.putfield 62, 3) := by decide +kernel
theorem dX7_clear_18 : decode cX7_clear 18 = .ok (.aload_n 0, 1) := by decide +kernel
theorem dX7_clear_19 : decode cX7_clear 19 = .ok (.getfield 39, 3) := by decide +kernel
theorem dX7_clear_22 : decode cX7_clear 22 = .ok (.iconst 0, 1) := by decide +kernel
theorem dX7_clear_23 : decode cX7_clear 23 = .ok (.putfield 62, 3) := by decide +kernel
theorem dX7_clear_26 : decode cX7_clear 26 = .ok (.aload_n 0, 1) := by decide +kernel
theorem dX7_clear_27 : decode cX7_clear 27 = .ok (.iconst 5, 1) := by decide +kernel
theorem dX7_clear_28 : decode cX7_clear 28 = .ok (.putfield 42, 3) := by decide +kernel
theorem dX7_clear_31 : decode cX7_clear 31 = .ok (.aload_n 0, 1) := by decide +kernel
theorem dX7_clear_32 : decode cX7_clear 32 = .ok (.bipush 30, 2) := by decide +kernel
theorem dX7_clear_34 : decode cX7_clear 34 = .ok (.putfield 46, 3) := by decide +kernel
theorem dX7_clear_37 : decode cX7_clear 37 = .ok (.aload_n 0, 1) := by decide +kernel
theorem dX7_clear_38 : decode cX7_clear 38 = .ok (.iconst 0, 1) := by decide +kernel
theorem dX7_clear_39 : decode cX7_clear 39 = .ok (.putfield 65, 3) := by decide +kernel
theorem dX7_clear_42 : decode cX7_clear 42 = .ok (.aload_n 0, 1) := by decide +kernel
theorem dX7_clear_43 : decode cX7_clear 43 = .ok (.bipush 60, 2) := by decide +kernel
theorem dX7_clear_45 : decode cX7_clear 45 = .ok (.putfield 49, 3) := by decide +kernel
theorem dX7_clear_48 : decode cX7_clear 48 = .ok (.aload_n 0, 1) := by decide +kernel
theorem dX7_clear_49 : decode cX7_clear 49 = .ok (.bipush 60, 2) := by decide +kernel
theorem dX7_clear_51 : decode cX7_clear 51 = .ok (.putfield 52, 3) := by decide +kernel
theorem dX7_clear_54 : decode cX7_clear 54 = .ok (.aload_n 0, 1) := by decide +kernel
theorem dX7_clear_55 : decode cX7_clear 55 = .ok (.iconst 0, 1) := by decide +kernel
theorem dX7_clear_56 : decode cX7_clear 56 = .ok (.putfield 68, 3) := by decide +kernel
theorem dX7_clear_59 : decode cX7_clear 59 = .ok (.return_, 1) := by decide +kernel
theorem dX7_tuneNamed_0 : decode cX7_tuneNamed 0 = .ok (.iconst 0, 1) := by decide +kernel
theorem dX7_tuneNamed_1 : decode cX7_tuneNamed 1 = .ok (.istore_n 3, 1) := by decide +kernel
theorem dX7_tuneNamed_2 : decode cX7_tuneNamed 2 = .ok (.iload_n 3, 1) := by decide +kernel
theorem dX7_tuneNamed_3 : decode cX7_tuneNamed 3 = .ok (.aload_n 0, 1) := by decide +kernel
theorem dX7_tuneNamed_4 : decode cX7_tuneNamed 4 = .ok (.getfield 56, 3) := by decide +kernel
theorem dX7_tuneNamed_7 : decode cX7_tuneNamed 7 = .ok (.if_icmp .ge 27, 3) := by decide +kernel
theorem dX7_tuneNamed_10 : decode cX7_tuneNamed 10 = .ok (.iload_n 3, 1) := by decide +kernel
theorem dX7_tuneNamed_11 : decode cX7_tuneNamed 11 = .ok (.iconst 5, 1) := by decide +kernel
theorem dX7_tuneNamed_12 : decode cX7_tuneNamed 12 = .ok (.if_icmp .ge 22, 3) := by decide +kernel
theorem dX7_tuneNamed_15 : decode cX7_tuneNamed 15 = .ok (.aload_n 0, 1) := by decide +kernel
theorem dX7_tuneNamed_16 : decode cX7_tuneNamed 16 = .ok (.getfield 9, 3) := by decide +kernel
theorem dX7_tuneNamed_19 : decode cX7_tuneNamed 19 = .ok (.iload_n 3, 1) := by decide +kernel
theorem dX7_tuneNamed_20 : decode cX7_tuneNamed 20 = .ok (.laload, 1) := by decide +kernel
theorem dX7_tuneNamed_21 : decode cX7_tuneNamed 21 = .ok (.lload_n 1, 1) := by decide +kernel
theorem dX7_tuneNamed_22 : decode cX7_tuneNamed 22 = .ok (.lcmp, 1) := by decide +kernel
theorem dX7_tuneNamed_23 : decode cX7_tuneNamed 23 = .ok (.ifCond .ne 5, 3) := by decide +kernel
theorem dX7_tuneNamed_26 : decode cX7_tuneNamed 26 = .ok (.iload_n 3, 1) := by decide +kernel
theorem dX7_tuneNamed_27 : decode cX7_tuneNamed 27 = .ok (.ireturn, 1) := by decide +kernel
theorem dX7_tuneNamed_28 : decode cX7_tuneNamed 28 = .ok (.iinc 3 1, 3) := by decide +kernel
theorem dX7_tuneNamed_31 : decode cX7_tuneNamed 31 = .ok (.goto (-29), 3) := by decide +kernel
theorem dX7_tuneNamed_34 : decode cX7_tuneNamed 34 = .ok (.iconst (-1), 1) := by decide +kernel
theorem dX7_tuneNamed_35 : decode cX7_tuneNamed 35 = .ok (.ireturn, 1) := by decide +kernel
theorem dX7_hasName_0 : decode cX7_hasName 0 = .ok (.iconst 0, 1) := by decide +kernel
theorem dX7_hasName_1 : decode cX7_hasName 1 = .ok (.istore_n 3, 1) := by decide +kernel
theorem dX7_hasName_2 : decode cX7_hasName 2 = .ok (.iload_n 3, 1) := by decide +kernel
theorem dX7_hasName_3 : decode cX7_hasName 3 = .ok (.aload_n 0, 1) := by decide +kernel
theorem dX7_hasName_4 : decode cX7_hasName 4 = .ok (.getfield 59, 3) := by decide +kernel
theorem dX7_hasName_7 : decode cX7_hasName 7 = .ok (.if_icmp .ge 31, 3) := by decide +kernel
theorem dX7_hasName_10 : decode cX7_hasName 10 = .ok (.iload_n 3, 1) := by decide +kernel
theorem dX7_hasName_11 : decode cX7_hasName 11 = .ok (.bipush 7, 2) := by decide +kernel
theorem dX7_hasName_13 : decode cX7_hasName 13 = .ok (.if_icmp .ge 25, 3) := by decide +kernel
theorem dX7_hasName_16 : decode cX7_hasName 16 = .ok (.aload_n 0, 1) := by decide +kernel
theorem dX7_hasName_17 : decode cX7_hasName 17 = .ok (.getfield 26, 3) := by decide +kernel
theorem dX7_hasName_20 : decode cX7_hasName 20 = .ok (.iload_n 3, 1) := by decide +kernel
theorem dX7_hasName_21 : decode cX7_hasName 21 = .ok (.aaload, 1) := by decide +kernel
theorem dX7_hasName_22 : decode cX7_hasName 22 = .ok (.getfield 71, 3) := by decide +kernel
theorem dX7_hasName_25 : decode cX7_hasName 25 = .ok (.lload_n 1, 1) := by decide +kernel
theorem dX7_hasName_26 : decode cX7_hasName 26 = .ok (.lcmp, 1) := by decide +kernel
theorem dX7_hasName_27 : decode cX7_hasName 27 = .ok (.ifCond .ne 5, 3) := by decide +kernel
theorem dX7_hasName_30 : decode cX7_hasName 30 = .ok (.iconst 1, 1) := by decide +kernel
theorem dX7_hasName_31 : decode cX7_hasName 31 = .ok (.ireturn, 1) := by decide +kernel
theorem dX7_hasName_32 : decode cX7_hasName 32 = .ok (.iinc 3 1, 3) := by decide +kernel
theorem dX7_hasName_35 : decode cX7_hasName 35 = .ok (.goto (-33), 3) := by decide +kernel
theorem dX7_hasName_38 : decode cX7_hasName 38 = .ok (.aload_n 0, 1) := by decide +kernel
theorem dX7_hasName_39 : decode cX7_hasName 39 = .ok (.lload_n 1, 1) := by decide +kernel
theorem dX7_hasName_40 : decode cX7_hasName 40 = .ok (.invokevirtual 75, 3) := by decide +kernel
theorem dX7_hasName_43 : decode cX7_hasName 43 = .ok (.iconst (-1), 1) := by decide +kernel
theorem dX7_hasName_44 : decode cX7_hasName 44 = .ok (.if_icmp .eq 7, 3) := by decide +kernel
theorem dX7_hasName_47 : decode cX7_hasName 47 = .ok (.iconst 1, 1) := by decide +kernel
theorem dX7_hasName_48 : decode cX7_hasName 48 = .ok (.goto 4, 3) := by decide +kernel
theorem dX7_hasName_51 : decode cX7_hasName 51 = .ok (.iconst 0, 1) := by decide +kernel
theorem dX7_hasName_52 : decode cX7_hasName 52 = .ok (.ireturn, 1) := by decide +kernel
theorem dX7_joyBy_0 : decode cX7_joyBy 0 = .ok (.aload_n 0, 1) := by decide +kernel
theorem dX7_joyBy_1 : decode cX7_joyBy 1 = .ok (.getfield 35, 3) := by decide +kernel
theorem dX7_joyBy_4 : decode cX7_joyBy 4 = .ok (.getfield 62, 3) := by decide +kernel
theorem dX7_joyBy_7 : decode cX7_joyBy 7 = .ok (.ifCond .le 14, 3) := by decide +kernel
theorem dX7_joyBy_10 : decode cX7_joyBy 10 = .ok (.aload_n 0, 1) := by decide +kernel
theorem dX7_joyBy_11 : decode cX7_joyBy 11 = .ok (.getfield 35, 3) := by decide +kernel
theorem dX7_joyBy_14 : decode cX7_joyBy 14 = .ok (.aload_n 1, 1) := by decide +kernel
theorem dX7_joyBy_15 : decode cX7_joyBy 15 = .ok (.invokevirtual 79, 3) := by decide +kernel
theorem dX7_joyBy_18 : decode cX7_joyBy 18 = .ok (.goto 14, 3) := by decide +kernel
theorem dX7_joyBy_21 : decode cX7_joyBy 21 = .ok (.aload_n 1, 1) := by decide +kernel
theorem dX7_joyBy_22 : decode cX7_joyBy 22 = .ok (.iconst 0, 1) := by decide +kernel
theorem dX7_joyBy_23 : decode cX7_joyBy 23 = .ok (.iaload, 1) := by decide +kernel
theorem dX7_joyBy_24 : decode cX7_joyBy 24 = .ok (.aload_n 1, 1) := by decide +kernel
theorem dX7_joyBy_25 : decode cX7_joyBy 25 = .ok (.iconst 1, 1) := by decide +kernel
theorem dX7_joyBy_26 : decode cX7_joyBy 26 = .ok (.iaload, 1) := by decide +kernel
theorem dX7_joyBy_27 : decode cX7_joyBy 27 = .ok (.isub, 1) := by decide +kernel
theorem dX7_joyBy_28 : decode cX7_joyBy 28 = .ok (.aload_n 1, 1) := by decide +kernel
theorem dX7_joyBy_29 : decode cX7_joyBy 29 = .ok (.iconst 3, 1) := by decide +kernel
theorem dX7_joyBy_30 : decode cX7_joyBy 30 = .ok (.iaload, 1) := by decide +kernel
theorem dX7_joyBy_31 : decode cX7_joyBy 31 = .ok (.isub, 1) := by decide +kernel
theorem dX7_joyBy_32 : decode cX7_joyBy 32 = .ok (.istore_n 2, 1) := by decide +kernel
theorem dX7_joyBy_33 : decode cX7_joyBy 33 = .ok (.bipush (-99), 2) := by decide +kernel
theorem dX7_joyBy_35 : decode cX7_joyBy 35 = .ok (.bipush 99, 2) := by decide +kernel
theorem dX7_joyBy_37 : decode cX7_joyBy 37 = .ok (.iload_n 2, 1) := by decide +kernel
theorem dX7_joyBy_38 : decode cX7_joyBy 38 = .ok (.invokestatic 83, 3) := by decide +kernel
theorem dX7_joyBy_41 : decode cX7_joyBy 41 = .ok (.invokestatic 89, 3) := by decide +kernel
theorem dX7_joyBy_44 : decode cX7_joyBy 44 = .ok (.ireturn, 1) := by decide +kernel
theorem dX7_wearBy_0 : decode cX7_wearBy 0 = .ok (.aload_n 0, 1) := by decide +kernel
theorem dX7_wearBy_1 : decode cX7_wearBy 1 = .ok (.getfield 39, 3) := by decide +kernel
theorem dX7_wearBy_4 : decode cX7_wearBy 4 = .ok (.getfield 62, 3) := by decide +kernel
theorem dX7_wearBy_7 : decode cX7_wearBy 7 = .ok (.ifCond .le 14, 3) := by decide +kernel
theorem dX7_wearBy_10 : decode cX7_wearBy 10 = .ok (.aload_n 0, 1) := by decide +kernel
theorem dX7_wearBy_11 : decode cX7_wearBy 11 = .ok (.getfield 39, 3) := by decide +kernel
theorem dX7_wearBy_14 : decode cX7_wearBy 14 = .ok (.aload_n 1, 1) := by decide +kernel
theorem dX7_wearBy_15 : decode cX7_wearBy 15 = .ok (.invokevirtual 79, 3) := by decide +kernel
theorem dX7_wearBy_18 : decode cX7_wearBy 18 = .ok (.goto 4, 3) := by decide +kernel
theorem dX7_wearBy_21 : decode cX7_wearBy 21 = .ok (.iconst 1, 1) := by decide +kernel
theorem dX7_wearBy_22 : decode cX7_wearBy 22 = .ok (.istore_n 2, 1) := by decide +kernel
theorem dX7_wearBy_23 : decode cX7_wearBy 23 = .ok (.iconst 0, 1) := by decide +kernel
theorem dX7_wearBy_24 : decode cX7_wearBy 24 = .ok (.bipush 9, 2) := by decide +kernel
theorem dX7_wearBy_26 : decode cX7_wearBy 26 = .ok (.iload_n 2, 1) := by decide +kernel
theorem dX7_wearBy_27 : decode cX7_wearBy 27 = .ok (.invokestatic 83, 3) := by decide +kernel
theorem dX7_wearBy_30 : decode cX7_wearBy 30 = .ok (.invokestatic 89, 3) := by decide +kernel
theorem dX7_wearBy_33 : decode cX7_wearBy 33 = .ok (.ireturn, 1) := by decide +kernel
theorem dX8_init_0 : decode cX8_init 0 = .ok (.aload_n 0, 1) := by decide +kernel
theorem dX8_init_1 : decode cX8_init 1 = .ok (.invokespecial 3, 3) := by decide +kernel
theorem dX8_init_4 : decode cX8_init 4 = .ok (.aload_n 0, 1) := by decide +kernel
theorem dX8_init_5 : decode cX8_init 5 = .ok (.bipush 12, 2) := by decide +kernel
theorem dX8_init_7 : decode cX8_init 7 = .ok (.newarray .int, 2) := by decide +kernel
theorem dX8_init_9 : decode cX8_init 9 = .ok (.putfield 9, 3) := by decide +kernel
theorem dX8_init_12 : decode cX8_init 12 = .ok (.aload_n 0, 1) := by decide +kernel
theorem dX8_init_13 : decode cX8_init 13 = .ok (.bipush 120, 2) := by decide +kernel
theorem dX8_init_15 : decode cX8_init 15 = .ok (.newarray .int, 2) := by decide +kernel
theorem dX8_init_17 : decode cX8_init 17 = .ok (.putfield 15, 3) := by decide +kernel
theorem dX8_init_20 : decode cX8_init 20 = .ok (.return_, 1) := by decide +kernel
theorem dX8_search_0 : decode cX8_search 0 = .ok (.iconst 0, 1) := by decide +kernel
theorem dX8_search_1 : decode cX8_search 1 = .ok (.bipush 7, 2) := by decide +kernel
theorem dX8_search_3 : decode cX8_search 3 = .ok (.aload_n 1, 1) := by decide +kernel
theorem dX8_search_4 : decode cX8_search 4 = .ok (.getfield 18, 3) := by decide +kernel
theorem dX8_search_7 : decode cX8_search 7 = .ok (.invokestatic 24, 3) := by decide +kernel
theorem dX8_search_10 : decode cX8_search 10 = .ok (.invokestatic 30, 3) := by decide +kernel
theorem dX8_search_13 : decode cX8_search 13 = .ok (.istore 4, 2) := by decide +kernel
theorem dX8_search_15 : decode cX8_search 15 = .ok (.iconst 1, 1) := by decide +kernel
theorem dX8_search_16 : decode cX8_search 16 = .ok (.iload 4, 2) := by decide +kernel
theorem dX8_search_18 : decode cX8_search 18 = .ok (.ishl, 1) := by decide +kernel
theorem dX8_search_19 : decode cX8_search 19 = .ok (.istore 5, 2) := by decide +kernel
theorem dX8_search_21 : decode cX8_search 21 = .ok (.aload_n 0, 1) := by decide +kernel
theorem dX8_search_22 : decode cX8_search 22 = .ok (.iconst 0, 1) := by decide +kernel
theorem dX8_search_23 : decode cX8_search 23 = .ok (.putfield 33, 3) := by decide +kernel
theorem dX8_search_26 : decode cX8_search 26 = .ok (.aload_n 0, 1) := by decide +kernel
theorem dX8_search_27 : decode cX8_search 27 = .ok (.iload 5, 2) := by decide +kernel
theorem dX8_search_29 : decode cX8_search 29 = .ok (.iconst 1, 1) := by decide +kernel
theorem dX8_search_30 : decode cX8_search 30 = .ok (.isub, 1) := by decide +kernel
theorem dX8_search_31 : decode cX8_search 31 = .ok (.putfield 36, 3) := by decide +kernel
theorem dX8_search_34 : decode cX8_search 34 = .ok (.aload_n 0, 1) := by decide +kernel
theorem dX8_search_35 : decode cX8_search 35 = .ok (.iconst 0, 1) := by decide +kernel
theorem dX8_search_36 : decode cX8_search 36 = .ok (.putfield 39, 3) := by decide +kernel
theorem dX8_search_39 : decode cX8_search 39 = .ok (.iconst 0, 1) := by decide +kernel
theorem dX8_search_40 : decode cX8_search 40 = .ok (.istore 6, 2) := by decide +kernel
theorem dX8_search_42 : decode cX8_search 42 = .ok (.iload 6, 2) := by decide +kernel
theorem dX8_search_44 : decode cX8_search 44 = .ok (.bipush 120, 2) := by decide +kernel
theorem dX8_search_46 : decode cX8_search 46 = .ok (.if_icmp .ge 17, 3) := by decide +kernel
theorem dX8_search_49 : decode cX8_search 49 = .ok (.aload_n 0, 1) := by decide +kernel
theorem dX8_search_50 : decode cX8_search 50 = .ok (.getfield 15, 3) := by decide +kernel
theorem dX8_search_53 : decode cX8_search 53 = .ok (.iload 6, 2) := by decide +kernel
theorem dX8_search_55 : decode cX8_search 55 = .ok (.iconst 0, 1) := by decide +kernel
theorem dX8_search_56 : decode cX8_search 56 = .ok (.iastore, 1) := by decide +kernel
theorem dX8_search_57 : decode cX8_search 57 = .ok (.iinc 6 1, 3) := by decide +kernel
theorem dX8_search_60 : decode cX8_search 60 = .ok (.goto (-18), 3) := by decide +kernel
theorem dX8_search_63 : decode cX8_search 63 = .ok (.iconst 0, 1) := by decide +kernel
theorem dX8_search_64 : decode cX8_search 64 = .ok (.istore 6, 2) := by decide +kernel
theorem dX8_search_66 : decode cX8_search 66 = .ok (.iload 6, 2) := by decide +kernel
theorem dX8_search_68 : decode cX8_search 68 = .ok (.iload 5, 2) := by decide +kernel
theorem dX8_search_70 : decode cX8_search 70 = .ok (.if_icmp .ge 66, 3) := by decide +kernel
theorem dX8_search_73 : decode cX8_search 73 = .ok (.aload_n 0, 1) := by decide +kernel
theorem dX8_search_74 : decode cX8_search 74 = .ok (.iload 6, 2) := by decide +kernel
theorem dX8_search_76 : decode cX8_search 76 = .ok (.iload 4, 2) := by decide +kernel
theorem dX8_search_78 : decode cX8_search 78 = .ok (.aload_n 1, 1) := by decide +kernel
theorem dX8_search_79 : decode cX8_search 79 = .ok (.aload_n 2, 1) := by decide +kernel
theorem dX8_search_80 : decode cX8_search 80 = .ok (.invokevirtual 42, 3) := by decide +kernel
theorem dX8_search_83 : decode cX8_search 83 = .ok (.aload_n 3, 1) := by decide +kernel
theorem dX8_search_84 : decode cX8_search 84 = .ok (.aload_n 0, 1) := by decide +kernel
theorem dX8_search_85 : decode cX8_search 85 = .ok (.getfield 9, 3) := by decide +kernel
theorem dX8_search_88 : decode cX8_search 88 = .ok (.invokevirtual 46, 3) := by decide +kernel
theorem dX8_search_91 : decode cX8_search 91 = .ok (.ifCond .eq 39, 3) := by decide +kernel
theorem dX8_search_94 : decode cX8_search 94 = .ok (.aload_n 0, 1) := by decide +kernel
theorem dX8_search_95 : decode cX8_search 95 = .ok (.dup, 1) := by decide +kernel
theorem dX8_search_96 : decode cX8_search 96 = .ok (.getfield 33, 3) := by decide +kernel
theorem dX8_search_99 : decode cX8_search 99 = .ok (.iconst 1, 1) := by decide +kernel
theorem dX8_search_100 : decode cX8_search 100 = .ok (.iadd, 1) := by decide +kernel
theorem dX8_search_101 : decode cX8_search 101 = .ok (.putfield 33, 3) := by decide +kernel
theorem dX8_search_104 : decode cX8_search 104 = .ok (.aload_n 0, 1) := by decide +kernel
theorem dX8_search_105 : decode cX8_search 105 = .ok (.dup, 1) := by decide +kernel
theorem dX8_search_106 : decode cX8_search 106 = .ok (.getfield 36, 3) := by decide +kernel
theorem dX8_search_109 : decode cX8_search 109 = .ok (.iload 6, 2) := by decide +kernel
theorem dX8_search_111 : decode cX8_search 111 = .ok (.iand, 1) := by decide +kernel
theorem dX8_search_112 : decode cX8_search 112 = .ok (.putfield 36, 3) := by decide +kernel
theorem dX8_search_115 : decode cX8_search 115 = .ok (.aload_n 0, 1) := by decide +kernel
theorem dX8_search_116 : decode cX8_search 116 = .ok (.dup, 1) := by decide +kernel
theorem dX8_search_117 : decode cX8_search 117 = .ok (.getfield 39, 3) := by decide +kernel
theorem dX8_search_120 : decode cX8_search 120 = .ok (.iload 6, 2) := by decide +kernel
theorem dX8_search_122 : decode cX8_search 122 = .ok (.ior, 1) := by decide +kernel
theorem dX8_search_123 : decode cX8_search 123 = .ok (.putfield 39, 3) := by decide +kernel
theorem dX8_search_126 : decode cX8_search 126 = .ok (.aload_n 0, 1) := by decide +kernel
theorem dX8_search_127 : decode cX8_search 127 = .ok (.invokevirtual 52, 3) := by decide +kernel
theorem dX8_search_130 : decode cX8_search 130 = .ok (.iinc 6 1, 3) := by decide +kernel
theorem dX8_search_133 : decode cX8_search 133 = .ok (.goto (-67), 3) := by decide +kernel
theorem dX8_search_136 : decode cX8_search 136 = .ok (.return_, 1) := by decide +kernel
theorem dX8_mostAlike_0 : decode cX8_mostAlike 0 = .ok (.iconst 0, 1) := by decide +kernel
theorem dX8_mostAlike_1 : decode cX8_mostAlike 1 = .ok (.istore_n 2, 1) := by decide +kernel
theorem dX8_mostAlike_2 : decode cX8_mostAlike 2 = .ok (.iconst 0, 1) := by decide +kernel
theorem dX8_mostAlike_3 : decode cX8_mostAlike 3 = .ok (.istore_n 3, 1) := by decide +kernel
theorem dX8_mostAlike_4 : decode cX8_mostAlike 4 = .ok (.iload_n 3, 1) := by decide +kernel
theorem dX8_mostAlike_5 : decode cX8_mostAlike 5 = .ok (.bipush 10, 2) := by decide +kernel
theorem dX8_mostAlike_7 : decode cX8_mostAlike 7 = .ok (.if_icmp .ge 41, 3) := by decide +kernel
theorem dX8_mostAlike_10 : decode cX8_mostAlike 10 = .ok (.iload_n 1, 1) := by decide +kernel
theorem dX8_mostAlike_11 : decode cX8_mostAlike 11 = .ok (.bipush 10, 2) := by decide +kernel
theorem dX8_mostAlike_13 : decode cX8_mostAlike 13 = .ok (.imul, 1) := by decide +kernel
theorem dX8_mostAlike_14 : decode cX8_mostAlike 14 = .ok (.iload_n 3, 1) := by decide +kernel
theorem dX8_mostAlike_15 : decode cX8_mostAlike 15 = .ok (.iadd, 1) := by decide +kernel
theorem dX8_mostAlike_16 : decode cX8_mostAlike 16 = .ok (.istore 4, 2) := by decide +kernel
theorem dX8_mostAlike_18 : decode cX8_mostAlike 18 = .ok (.iload 4, 2) := by decide +kernel
