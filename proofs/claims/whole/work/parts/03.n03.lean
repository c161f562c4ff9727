theorem dX8_mostAlike_20 : decode cX8_mostAlike 20 = .ok (.ifCond .lt 22, 3) := by decide +kernel
theorem dX8_mostAlike_23 : decode cX8_mostAlike 23 = .ok (.iload 4, 2) := by decide +kernel
theorem dX8_mostAlike_25 : decode cX8_mostAlike 25 = .ok (.bipush 120, 2) := by decide +kernel
theorem dX8_mostAlike_27 : decode cX8_mostAlike 27 = .ok (.if_icmp .ge 15, 3) := by decide +kernel
theorem dX8_mostAlike_30 : decode cX8_mostAlike 30 = .ok (.iload_n 2, 1) := by decide +kernel
theorem dX8_mostAlike_31 : decode cX8_mostAlike 31 = .ok (.aload_n 0, 1) := by decide +kernel
theorem dX8_mostAlike_32 : decode cX8_mostAlike 32 = .ok (.getfield 15, 3) := by decide +kernel
theorem dX8_mostAlike_35 : decode cX8_mostAlike 35 = .ok (.iload 4, 2) := by decide +kernel
theorem dX8_mostAlike_37 : decode cX8_mostAlike 37 = .ok (.iaload, 1) := by decide +kernel
theorem dX8_mostAlike_38 : decode cX8_mostAlike 38 = .ok (.invokestatic 30, 3) := by decide +kernel
theorem dX8_mostAlike_41 : decode cX8_mostAlike 41 = .ok (.istore_n 2, 1) := by decide +kernel
theorem dX8_mostAlike_42 : decode cX8_mostAlike 42 = .ok (.iinc 3 1, 3) := by decide +kernel
theorem dX8_mostAlike_45 : decode cX8_mostAlike 45 = .ok (.goto (-41), 3) := by decide +kernel
theorem dX8_mostAlike_48 : decode cX8_mostAlike 48 = .ok (.iload_n 2, 1) := by decide +kernel
theorem dX8_mostAlike_49 : decode cX8_mostAlike 49 = .ok (.ireturn, 1) := by decide +kernel
theorem dX8_playOnNew_0 : decode cX8_playOnNew 0 = .ok (.iconst 0, 1) := by decide +kernel
theorem dX8_playOnNew_1 : decode cX8_playOnNew 1 = .ok (.istore 5, 2) := by decide +kernel
theorem dX8_playOnNew_3 : decode cX8_playOnNew 3 = .ok (.iload 5, 2) := by decide +kernel
theorem dX8_playOnNew_5 : decode cX8_playOnNew 5 = .ok (.bipush 12, 2) := by decide +kernel
theorem dX8_playOnNew_7 : decode cX8_playOnNew 7 = .ok (.if_icmp .ge 17, 3) := by decide +kernel
theorem dX8_playOnNew_10 : decode cX8_playOnNew 10 = .ok (.aload_n 0, 1) := by decide +kernel
theorem dX8_playOnNew_11 : decode cX8_playOnNew 11 = .ok (.getfield 9, 3) := by decide +kernel
theorem dX8_playOnNew_14 : decode cX8_playOnNew 14 = .ok (.iload 5, 2) := by decide +kernel
theorem dX8_playOnNew_16 : decode cX8_playOnNew 16 = .ok (.iconst 0, 1) := by decide +kernel
theorem dX8_playOnNew_17 : decode cX8_playOnNew 17 = .ok (.iastore, 1) := by decide +kernel
theorem dX8_playOnNew_18 : decode cX8_playOnNew 18 = .ok (.iinc 5 1, 3) := by decide +kernel
theorem dX8_playOnNew_21 : decode cX8_playOnNew 21 = .ok (.goto (-18), 3) := by decide +kernel
theorem dX8_playOnNew_24 : decode cX8_playOnNew 24 = .ok (.iconst 0, 1) := by decide +kernel
theorem dX8_playOnNew_25 : decode cX8_playOnNew 25 = .ok (.istore 5, 2) := by decide +kernel
theorem dX8_playOnNew_27 : decode cX8_playOnNew 27 = .ok (.iload 5, 2) := by decide +kernel
theorem dX8_playOnNew_29 : decode cX8_playOnNew 29 = .ok (.iload_n 2, 1) := by decide +kernel
theorem dX8_playOnNew_30 : decode cX8_playOnNew 30 = .ok (.if_icmp .ge 43, 3) := by decide +kernel
theorem dX8_playOnNew_33 : decode cX8_playOnNew 33 = .ok (.iload 5, 2) := by decide +kernel
theorem dX8_playOnNew_35 : decode cX8_playOnNew 35 = .ok (.bipush 7, 2) := by decide +kernel
theorem dX8_playOnNew_37 : decode cX8_playOnNew 37 = .ok (.if_icmp .ge 36, 3) := by decide +kernel
theorem dX8_playOnNew_40 : decode cX8_playOnNew 40 = .ok (.iload_n 1, 1) := by decide +kernel
theorem dX8_playOnNew_41 : decode cX8_playOnNew 41 = .ok (.iload 5, 2) := by decide +kernel
theorem dX8_playOnNew_43 : decode cX8_playOnNew 43 = .ok (.ishr, 1) := by decide +kernel
theorem dX8_playOnNew_44 : decode cX8_playOnNew 44 = .ok (.iconst 1, 1) := by decide +kernel
theorem dX8_playOnNew_45 : decode cX8_playOnNew 45 = .ok (.iand, 1) := by decide +kernel
theorem dX8_playOnNew_46 : decode cX8_playOnNew 46 = .ok (.ifCond .eq 21, 3) := by decide +kernel
theorem dX8_playOnNew_49 : decode cX8_playOnNew 49 = .ok (.aload 4, 2) := by decide +kernel
theorem dX8_playOnNew_51 : decode cX8_playOnNew 51 = .ok (.aload_n 3, 1) := by decide +kernel
theorem dX8_playOnNew_52 : decode cX8_playOnNew 52 = .ok (.getfield 55, 3) := by decide +kernel
theorem dX8_playOnNew_55 : decode cX8_playOnNew 55 = .ok (.iload 5, 2) := by decide +kernel
theorem dX8_playOnNew_57 : decode cX8_playOnNew 57 = .ok (.aaload, 1) := by decide +kernel
theorem dX8_playOnNew_58 : decode cX8_playOnNew 58 = .ok (.iload 5, 2) := by decide +kernel
theorem dX8_playOnNew_60 : decode cX8_playOnNew 60 = .ok (.aload_n 0, 1) := by decide +kernel
theorem dX8_playOnNew_61 : decode cX8_playOnNew 61 = .ok (.getfield 9, 3) := by decide +kernel
theorem dX8_playOnNew_64 : decode cX8_playOnNew 64 = .ok (.invokevirtual 59, 3) := by decide +kernel
theorem dX8_playOnNew_67 : decode cX8_playOnNew 67 = .ok (.iinc 5 1, 3) := by decide +kernel
theorem dX8_playOnNew_70 : decode cX8_playOnNew 70 = .ok (.goto (-43), 3) := by decide +kernel
theorem dX8_playOnNew_73 : decode cX8_playOnNew 73 = .ok (.return_, 1) := by decide +kernel
theorem dX8_tallyWear_0 : decode cX8_tallyWear 0 = .ok (.iconst 0, 1) := by decide +kernel
theorem dX8_tallyWear_1 : decode cX8_tallyWear 1 = .ok (.istore_n 1, 1) := by decide +kernel
theorem dX8_tallyWear_2 : decode cX8_tallyWear 2 = .ok (.iload_n 1, 1) := by decide +kernel
theorem dX8_tallyWear_3 : decode cX8_tallyWear 3 = .ok (.bipush 12, 2) := by decide +kernel
theorem dX8_tallyWear_5 : decode cX8_tallyWear 5 = .ok (.if_icmp .ge 41, 3) := by decide +kernel
theorem dX8_tallyWear_8 : decode cX8_tallyWear 8 = .ok (.iload_n 1, 1) := by decide +kernel
theorem dX8_tallyWear_9 : decode cX8_tallyWear 9 = .ok (.bipush 10, 2) := by decide +kernel
theorem dX8_tallyWear_11 : decode cX8_tallyWear 11 = .ok (.imul, 1) := by decide +kernel
theorem dX8_tallyWear_12 : decode cX8_tallyWear 12 = .ok (.aload_n 0, 1) := by decide +kernel
theorem dX8_tallyWear_13 : decode cX8_tallyWear 13 = .ok (.getfield 9, 3) := by decide +kernel
theorem dX8_tallyWear_16 : decode cX8_tallyWear 16 = .ok (.iload_n 1, 1) := by decide +kernel
theorem dX8_tallyWear_17 : decode cX8_tallyWear 17 = .ok (.iaload, 1) := by decide +kernel
theorem dX8_tallyWear_18 : decode cX8_tallyWear 18 = .ok (.iadd, 1) := by decide +kernel
theorem dX8_tallyWear_19 : decode cX8_tallyWear 19 = .ok (.istore_n 2, 1) := by decide +kernel
theorem dX8_tallyWear_20 : decode cX8_tallyWear 20 = .ok (.iload_n 2, 1) := by decide +kernel
theorem dX8_tallyWear_21 : decode cX8_tallyWear 21 = .ok (.ifCond .lt 19, 3) := by decide +kernel
theorem dX8_tallyWear_24 : decode cX8_tallyWear 24 = .ok (.iload_n 2, 1) := by decide +kernel
theorem dX8_tallyWear_25 : decode cX8_tallyWear 25 = .ok (.bipush 120, 2) := by decide +kernel
theorem dX8_tallyWear_27 : decode cX8_tallyWear 27 = .ok (.if_icmp .ge 13, 3) := by decide +kernel
theorem dX8_tallyWear_30 : decode cX8_tallyWear 30 = .ok (.aload_n 0, 1) := by decide +kernel
theorem dX8_tallyWear_31 : decode cX8_tallyWear 31 = .ok (.getfield 15, 3) := by decide +kernel
theorem dX8_tallyWear_34 : decode cX8_tallyWear 34 = .ok (.iload_n 2, 1) := by decide +kernel
theorem dX8_tallyWear_35 : decode cX8_tallyWear 35 = .ok (.dup2, 1) := by decide +kernel
theorem dX8_tallyWear_36 : decode cX8_tallyWear 36 = .ok (.iaload, 1) := by decide +kernel
theorem dX8_tallyWear_37 : decode cX8_tallyWear 37 = .ok (.iconst 1, 1) := by decide +kernel
theorem dX8_tallyWear_38 : decode cX8_tallyWear 38 = .ok (.iadd, 1) := by decide +kernel
theorem dX8_tallyWear_39 : decode cX8_tallyWear 39 = .ok (.iastore, 1) := by decide +kernel
theorem dX8_tallyWear_40 : decode cX8_tallyWear 40 = .ok (.iinc 1 1, 3) := by decide +kernel
theorem dX8_tallyWear_43 : decode cX8_tallyWear 43 = .ok (.goto (-41), 3) := by decide +kernel
theorem dX8_tallyWear_46 : decode cX8_tallyWear 46 = .ok (.return_, 1) := by decide +kernel
theorem dX9_init_0 : decode cX9_init 0 = .ok (.aload_n 0, 1) := by decide +kernel
theorem dX9_init_1 : decode cX9_init 1 = .ok (.invokespecial 3, 3) := by decide +kernel
theorem dX9_init_4 : decode cX9_init 4 = .ok (.aload_n 0, 1) := by decide +kernel
theorem dX9_init_5 : decode cX9_init 5 = .ok (.sipush 1000, 3) := by decide +kernel
theorem dX9_init_8 : decode cX9_init 8 = .ok (.newarray .byte, 2) := by decide +kernel
theorem dX9_init_10 : decode cX9_init 10 = .ok (.putfield 9, 3) := by decide +kernel
theorem dX9_init_13 : decode cX9_init 13 = .ok (.return_, 1) := by decide +kernel
theorem dX9_add_0 : decode cX9_add 0 = .ok (.aload_n 0, 1) := by decide +kernel
theorem dX9_add_1 : decode cX9_add 1 = .ok (.getfield 15, 3) := by decide +kernel
theorem dX9_add_4 : decode cX9_add 4 = .ok (.ifCond .lt 52, 3) := by decide +kernel
theorem dX9_add_7 : decode cX9_add 7 = .ok (.aload_n 0, 1) := by decide +kernel
theorem dX9_add_8 : decode cX9_add 8 = .ok (.getfield 15, 3) := by decide +kernel
theorem dX9_add_11 : decode cX9_add 11 = .ok (.sipush 1000, 3) := by decide +kernel
theorem dX9_add_14 : decode cX9_add 14 = .ok (.if_icmp .ge 42, 3) := by decide +kernel
theorem dX9_add_17 : decode cX9_add 17 = .ok (.iload_n 1, 1) := by decide +kernel
theorem dX9_add_18 : decode cX9_add 18 = .ok (.bipush 10, 2) := by decide +kernel
theorem dX9_add_20 : decode cX9_add 20 = .ok (.if_icmp .eq 15, 3) := by decide +kernel
theorem dX9_add_23 : decode cX9_add 23 = .ok (.iload_n 1, 1) := by decide +kernel
theorem dX9_add_24 : decode cX9_add 24 = .ok (.bipush 32, 2) := by decide +kernel
theorem dX9_add_26 : decode cX9_add 26 = .ok (.if_icmp .lt 30, 3) := by decide +kernel
theorem dX9_add_29 : decode cX9_add 29 = .ok (.iload_n 1, 1) := by decide +kernel
theorem dX9_add_30 : decode cX9_add 30 = .ok (.bipush 126, 2) := by decide +kernel
theorem dX9_add_32 : decode cX9_add 32 = .ok (.if_icmp .gt 24, 3) := by decide +kernel
theorem dX9_add_35 : decode cX9_add 35 = .ok (.aload_n 0, 1) := by decide +kernel
theorem dX9_add_36 : decode cX9_add 36 = .ok (.getfield 9, 3) := by decide +kernel
theorem dX9_add_39 : decode cX9_add 39 = .ok (.aload_n 0, 1) := by decide +kernel
theorem dX9_add_40 : decode cX9_add 40 = .ok (.getfield 15, 3) := by decide +kernel
theorem dX9_add_43 : decode cX9_add 43 = .ok (.iload_n 1, 1) := by decide +kernel
theorem dX9_add_44 : decode cX9_add 44 = .ok (.i2b, 1) := by decide +kernel
theorem dX9_add_45 : decode cX9_add 45 = .ok (.bastore, 1) := by decide +kernel
theorem dX9_add_46 : decode cX9_add 46 = .ok (.aload_n 0, 1) := by decide +kernel
theorem dX9_add_47 : decode cX9_add 47 = .ok (.dup, 1) := by decide +kernel
theorem dX9_add_48 : decode cX9_add 48 = .ok (.getfield 15, 3) := by decide +kernel
theorem dX9_add_51 : decode cX9_add 51 = .ok (.iconst 1, 1) := by decide +kernel
theorem dX9_add_52 : decode cX9_add 52 = .ok (.iadd, 1) := by decide +kernel
theorem dX9_add_53 : decode cX9_add 53 = .ok (.putfield 15, 3) := by decide +kernel
theorem dX9_add_56 : decode cX9_add 56 = .ok (.return_, 1) := by decide +kernel
theorem dX9_rewind_0 : decode cX9_rewind 0 = .ok (.aload_n 0, 1) := by decide +kernel
theorem dX9_rewind_1 : decode cX9_rewind 1 = .ok (.iconst 0, 1) := by decide +kernel
theorem dX9_rewind_2 : decode cX9_rewind 2 = .ok (.putfield 19, 3) := by decide +kernel
theorem dX9_rewind_5 : decode cX9_rewind 5 = .ok (.aload_n 0, 1) := by decide +kernel
theorem dX9_rewind_6 : decode cX9_rewind 6 = .ok (.invokevirtual 22, 3) := by decide +kernel
theorem dX9_rewind_9 : decode cX9_rewind 9 = .ok (.return_, 1) := by decide +kernel
theorem dX9_advance_0 : decode cX9_advance 0 = .ok (.aload_n 0, 1) := by decide +kernel
theorem dX9_advance_1 : decode cX9_advance 1 = .ok (.getfield 19, 3) := by decide +kernel
theorem dX9_advance_4 : decode cX9_advance 4 = .ok (.aload_n 0, 1) := by decide +kernel
theorem dX9_advance_5 : decode cX9_advance 5 = .ok (.getfield 15, 3) := by decide +kernel
theorem dX9_advance_8 : decode cX9_advance 8 = .ok (.if_icmp .ge 42, 3) := by decide +kernel
theorem dX9_advance_11 : decode cX9_advance 11 = .ok (.aload_n 0, 1) := by decide +kernel
theorem dX9_advance_12 : decode cX9_advance 12 = .ok (.aload_n 0, 1) := by decide +kernel
theorem dX9_advance_13 : decode cX9_advance 13 = .ok (.getfield 19, 3) := by decide +kernel
theorem dX9_advance_16 : decode cX9_advance 16 = .ok (.invokevirtual 25, 3) := by decide +kernel
theorem dX9_advance_19 : decode cX9_advance 19 = .ok (.bipush 10, 2) := by decide +kernel
theorem dX9_advance_21 : decode cX9_advance 21 = .ok (.if_icmp .eq 16, 3) := by decide +kernel
theorem dX9_advance_24 : decode cX9_advance 24 = .ok (.aload_n 0, 1) := by decide +kernel
theorem dX9_advance_25 : decode cX9_advance 25 = .ok (.aload_n 0, 1) := by decide +kernel
theorem dX9_advance_26 : decode cX9_advance 26 = .ok (.getfield 19, 3) := by decide +kernel
theorem dX9_advance_29 : decode cX9_advance 29 = .ok (.invokevirtual 25, 3) := by decide +kernel
theorem dX9_advance_32 : decode cX9_advance 32 = .ok (.bipush 32, 2) := by decide +kernel
theorem dX9_advance_34 : decode cX9_advance 34 = .ok (.if_icmp .ne 16, 3) := by decide +kernel
theorem dX9_advance_37 : decode cX9_advance 37 = .ok (.aload_n 0, 1) := by decide +kernel
theorem dX9_advance_38 : decode cX9_advance 38 = .ok (.dup, 1) := by decide +kernel
theorem dX9_advance_39 : decode cX9_advance 39 = .ok (.getfield 19, 3) := by decide +kernel
theorem dX9_advance_42 : decode cX9_advance 42 = .ok (.iconst 1, 1) := by decide +kernel
theorem dX9_advance_43 : decode cX9_advance 43 = .ok (.iadd, 1) := by decide +kernel
theorem dX9_advance_44 : decode cX9_advance 44 = .ok (.putfield 19, 3) := by decide +kernel
theorem dX9_advance_47 : decode cX9_advance 47 = .ok (.goto (-47), 3) := by decide +kernel
theorem dX9_advance_50 : decode cX9_advance 50 = .ok (.aload_n 0, 1) := by decide +kernel
theorem dX9_advance_51 : decode cX9_advance 51 = .ok (.aload_n 0, 1) := by decide +kernel
theorem dX9_advance_52 : decode cX9_advance 52 = .ok (.getfield 19, 3) := by decide +kernel
theorem dX9_advance_55 : decode cX9_advance 55 = .ok (.putfield 29, 3) := by decide +kernel
theorem dX9_advance_58 : decode cX9_advance 58 = .ok (.aload_n 0, 1) := by decide +kernel
theorem dX9_advance_59 : decode cX9_advance 59 = .ok (.getfield 29, 3) := by decide +kernel
theorem dX9_advance_62 : decode cX9_advance 62 = .ok (.aload_n 0, 1) := by decide +kernel
theorem dX9_advance_63 : decode cX9_advance 63 = .ok (.getfield 15, 3) := by decide +kernel
theorem dX9_advance_66 : decode cX9_advance 66 = .ok (.if_icmp .lt 10, 3) := by decide +kernel
theorem dX9_advance_69 : decode cX9_advance 69 = .ok (.aload_n 0, 1) := by decide +kernel
theorem dX9_advance_70 : decode cX9_advance 70 = .ok (.bipush 101, 2) := by decide +kernel
theorem dX9_advance_72 : decode cX9_advance 72 = .ok (.putfield 32, 3) := by decide +kernel
theorem dX9_advance_75 : decode cX9_advance 75 = .ok (.return_, 1) := by decide +kernel
theorem dX9_advance_76 : decode cX9_advance 76 = .ok (.aload_n 0, 1) := by decide +kernel
theorem dX9_advance_77 : decode cX9_advance 77 = .ok (.lconst 0, 1) := by decide +kernel
theorem dX9_advance_78 : decode cX9_advance 78 = .ok (.putfield 35, 3) := by decide +kernel
theorem dX9_advance_81 : decode cX9_advance 81 = .ok (.aload_n 0, 1) := by decide +kernel
theorem dX9_advance_82 : decode cX9_advance 82 = .ok (.getfield 19, 3) := by decide +kernel
theorem dX9_advance_85 : decode cX9_advance 85 = .ok (.aload_n 0, 1) := by decide +kernel
theorem dX9_advance_86 : decode cX9_advance 86 = .ok (.getfield 15, 3) := by decide +kernel
theorem dX9_advance_89 : decode cX9_advance 89 = .ok (.if_icmp .ge 69, 3) := by decide +kernel
theorem dX9_advance_92 : decode cX9_advance 92 = .ok (.aload_n 0, 1) := by decide +kernel
theorem dX9_advance_93 : decode cX9_advance 93 = .ok (.aload_n 0, 1) := by decide +kernel
theorem dX9_advance_94 : decode cX9_advance 94 = .ok (.getfield 19, 3) := by decide +kernel
theorem dX9_advance_97 : decode cX9_advance 97 = .ok (.invokevirtual 25, 3) := by decide +kernel
theorem dX9_advance_100 : decode cX9_advance 100 = .ok (.bipush 97, 2) := by decide +kernel
theorem dX9_advance_102 : decode cX9_advance 102 = .ok (.if_icmp .lt 56, 3) := by decide +kernel
theorem dX9_advance_105 : decode cX9_advance 105 = .ok (.aload_n 0, 1) := by decide +kernel
theorem dX9_advance_106 : decode cX9_advance 106 = .ok (.aload_n 0, 1) := by decide +kernel
theorem dX9_advance_107 : decode cX9_advance 107 = .ok (.getfield 19, 3) := by decide +kernel
theorem dX9_advance_110 : decode cX9_advance 110 = .ok (.invokevirtual 25, 3) := by decide +kernel
theorem dX9_advance_113 : decode cX9_advance 113 = .ok (.bipush 122, 2) := by decide +kernel
theorem dX9_advance_115 : decode cX9_advance 115 = .ok (.if_icmp .gt 43, 3) := by decide +kernel
theorem dX9_advance_118 : decode cX9_advance 118 = .ok (.aload_n 0, 1) := by decide +kernel
theorem dX9_advance_119 : decode cX9_advance 119 = .ok (.aload_n 0, 1) := by decide +kernel
theorem dX9_advance_120 : decode cX9_advance 120 = .ok (.getfield 35, 3) := by decide +kernel
theorem dX9_advance_123 : decode cX9_advance 123 = .ok (.ldc2_w 39, 3) := by decide +kernel
theorem dX9_advance_126 : decode cX9_advance 126 = .ok (.lmul, 1) := by decide +kernel
theorem dX9_advance_127 : decode cX9_advance 127 = .ok (.aload_n 0, 1) := by decide +kernel
theorem dX9_advance_128 : decode cX9_advance 128 = .ok (.aload_n 0, 1) := by decide +kernel
theorem dX9_advance_129 : decode cX9_advance 129 = .ok (.getfield 19, 3) := by decide +kernel
theorem dX9_advance_132 : decode cX9_advance 132 = .ok (.invokevirtual 25, 3) := by decide +kernel
theorem dX9_advance_135 : decode cX9_advance 135 = .ok (.bipush 97, 2) := by decide +kernel
theorem dX9_advance_137 : decode cX9_advance 137 = .ok (.isub, 1) := by decide +kernel
theorem dX9_advance_138 : decode cX9_advance 138 = .ok (.iconst 1, 1) := by decide +kernel
theorem dX9_advance_139 : decode cX9_advance 139 = .ok (.iadd, 1) := by decide +kernel
theorem dX9_advance_140 : decode cX9_advance 140 = .ok (.i2l, 1) := by decide +kernel
theorem dX9_advance_141 : decode cX9_advance 141 = .ok (.ladd, 1) := by decide +kernel
theorem dX9_advance_142 : decode cX9_advance 142 = .ok (.putfield 35, 3) := by decide +kernel
theorem dX9_advance_145 : decode cX9_advance 145 = .ok (.aload_n 0, 1) := by decide +kernel
theorem dX9_advance_146 : decode cX9_advance 146 = .ok (.dup, 1) := by decide +kernel
theorem dX9_advance_147 : decode cX9_advance 147 = .ok (.getfield 19, 3) := by decide +kernel
theorem dX9_advance_150 : decode cX9_advance 150 = .ok (.iconst 1, 1) := by decide +kernel
theorem dX9_advance_151 : decode cX9_advance 151 = .ok (.iadd, 1) := by decide +kernel
theorem dX9_advance_152 : decode cX9_advance 152 = .ok (.putfield 19, 3) := by decide +kernel
theorem dX9_advance_155 : decode cX9_advance 155 = .ok (.goto (-74), 3) := by decide +kernel
theorem dX9_advance_158 : decode cX9_advance 158 = .ok (.aload_n 0, 1) := by decide +kernel
theorem dX9_advance_159 : decode cX9_advance 159 = .ok (.getfield 19, 3) := by decide +kernel
theorem dX9_advance_162 : decode cX9_advance 162 = .ok (.aload_n 0, 1) := by decide +kernel
theorem dX9_advance_163 : decode cX9_advance 163 = .ok (.getfield 29, 3) := by decide +kernel
theorem dX9_advance_166 : decode cX9_advance 166 = .ok (.if_icmp .le 34, 3) := by decide +kernel
theorem dX9_advance_169 : decode cX9_advance 169 = .ok (.aload_n 0, 1) := by decide +kernel
theorem dX9_advance_170 : decode cX9_advance 170 = .ok (.aload_n 0, 1) := by decide +kernel
theorem dX9_advance_171 : decode cX9_advance 171 = .ok (.getfield 19, 3) := by decide +kernel
theorem dX9_advance_174 : decode cX9_advance 174 = .ok (.aload_n 0, 1) := by decide +kernel
theorem dX9_advance_175 : decode cX9_advance 175 = .ok (.getfield 29, 3) := by decide +kernel
theorem dX9_advance_178 : decode cX9_advance 178 = .ok (.isub, 1) := by decide +kernel
theorem dX9_advance_179 : decode cX9_advance 179 = .ok (.bipush 8, 2) := by decide +kernel
theorem dX9_advance_181 : decode cX9_advance 181 = .ok (.if_icmp .le 8, 3) := by decide +kernel
theorem dX9_advance_184 : decode cX9_advance 184 = .ok (.bipush 102, 2) := by decide +kernel
theorem dX9_advance_186 : decode cX9_advance 186 = .ok (.goto 10, 3) := by decide +kernel
theorem dX9_advance_189 : decode cX9_advance 189 = .ok (.aload_n 0, 1) := by decide +kernel
theorem dX9_advance_190 : decode cX9_advance 190 = .ok (.getfield 35, 3) := by decide +kernel
theorem dX9_advance_193 : decode cX9_advance 193 = .ok (.invokestatic 41, 3) := by decide +kernel
theorem dX9_advance_196 : decode cX9_advance 196 = .ok (.putfield 32, 3) := by decide +kernel
theorem dX9_advance_199 : decode cX9_advance 199 = .ok (.return_, 1) := by decide +kernel
theorem dX9_advance_200 : decode cX9_advance 200 = .ok (.aload_n 0, 1) := by decide +kernel
theorem dX9_advance_201 : decode cX9_advance 201 = .ok (.iconst 0, 1) := by decide +kernel
theorem dX9_advance_202 : decode cX9_advance 202 = .ok (.putfield 45, 3) := by decide +kernel
theorem dX9_advance_205 : decode cX9_advance 205 = .ok (.aload_n 0, 1) := by decide +kernel
theorem dX9_advance_206 : decode cX9_advance 206 = .ok (.getfield 19, 3) := by decide +kernel
theorem dX9_advance_209 : decode cX9_advance 209 = .ok (.aload_n 0, 1) := by decide +kernel
theorem dX9_advance_210 : decode cX9_advance 210 = .ok (.getfield 15, 3) := by decide +kernel
theorem dX9_advance_213 : decode cX9_advance 213 = .ok (.if_icmp .ge 65, 3) := by decide +kernel
theorem dX9_advance_216 : decode cX9_advance 216 = .ok (.aload_n 0, 1) := by decide +kernel
theorem dX9_advance_217 : decode cX9_advance 217 = .ok (.aload_n 0, 1) := by decide +kernel
theorem dX9_advance_218 : decode cX9_advance 218 = .ok (.getfield 19, 3) := by decide +kernel
theorem dX9_advance_221 : decode cX9_advance 221 = .ok (.invokevirtual 25, 3) := by decide +kernel
theorem dX9_advance_224 : decode cX9_advance 224 = .ok (.bipush 48, 2) := by decide +kernel
theorem dX9_advance_226 : decode cX9_advance 226 = .ok (.if_icmp .lt 52, 3) := by decide +kernel
theorem dX9_advance_229 : decode cX9_advance 229 = .ok (.aload_n 0, 1) := by decide +kernel
theorem dX9_advance_230 : decode cX9_advance 230 = .ok (.aload_n 0, 1) := by decide +kernel
theorem dX9_advance_231 : decode cX9_advance 231 = .ok (.getfield 19, 3) := by decide +kernel
theorem dX9_advance_234 : decode cX9_advance 234 = .ok (.invokevirtual 25, 3) := by decide +kernel
theorem dX9_advance_237 : decode cX9_advance 237 = .ok (.bipush 57, 2) := by decide +kernel
theorem dX9_advance_239 : decode cX9_advance 239 = .ok (.if_icmp .gt 39, 3) := by decide +kernel
theorem dX9_advance_242 : decode cX9_advance 242 = .ok (.aload_n 0, 1) := by decide +kernel
theorem dX9_advance_243 : decode cX9_advance 243 = .ok (.aload_n 0, 1) := by decide +kernel
theorem dX9_advance_244 : decode cX9_advance 244 = .ok (.getfield 45, 3) := by decide +kernel
theorem dX9_advance_247 : decode cX9_advance 247 = .ok (.bipush 10, 2) := by decide +kernel
theorem dX9_advance_249 : decode cX9_advance 249 = .ok (.imul, 1) := by decide +kernel
theorem dX9_advance_250 : decode cX9_advance 250 = .ok (.aload_n 0, 1) := by decide +kernel
theorem dX9_advance_251 : decode cX9_advance 251 = .ok (.aload_n 0, 1) := by decide +kernel
theorem dX9_advance_252 : decode cX9_advance 252 = .ok (.getfield 19, 3) := by decide +kernel
theorem dX9_advance_255 : decode cX9_advance 255 = .ok (.invokevirtual 25, 3) := by decide +kernel
theorem dX9_advance_258 : decode cX9_advance 258 = .ok (.iadd, 1) := by decide +kernel
theorem dX9_advance_259 : decode cX9_advance 259 = .ok (.bipush 48, 2) := by decide +kernel
theorem dX9_advance_261 : decode cX9_advance 261 = .ok (.isub, 1) := by decide +kernel
theorem dX9_advance_262 : decode cX9_advance 262 = .ok (.putfield 45, 3) := by decide +kernel
theorem dX9_advance_265 : decode cX9_advance 265 = .ok (.aload_n 0, 1) := by decide +kernel
theorem dX9_advance_266 : decode cX9_advance 266 = .ok (.dup, 1) := by decide +kernel
theorem dX9_advance_267 : decode cX9_advance 267 = .ok (.getfield 19, 3) := by decide +kernel
theorem dX9_advance_270 : decode cX9_advance 270 = .ok (.iconst 1, 1) := by decide +kernel
theorem dX9_advance_271 : decode cX9_advance 271 = .ok (.iadd, 1) := by decide +kernel
theorem dX9_advance_272 : decode cX9_advance 272 = .ok (.putfield 19, 3) := by decide +kernel
theorem dX9_advance_275 : decode cX9_advance 275 = .ok (.goto (-70), 3) := by decide +kernel
theorem dX9_advance_278 : decode cX9_advance 278 = .ok (.aload_n 0, 1) := by decide +kernel
theorem dX9_advance_279 : decode cX9_advance 279 = .ok (.getfield 19, 3) := by decide +kernel
theorem dX9_advance_282 : decode cX9_advance 282 = .ok (.aload_n 0, 1) := by decide +kernel
theorem dX9_advance_283 : decode cX9_advance 283 = .ok (.getfield 29, 3) := by decide +kernel
theorem dX9_advance_286 : decode cX9_advance 286 = .ok (.if_icmp .le 28, 3) := by decide +kernel
theorem dX9_advance_289 : decode cX9_advance 289 = .ok (.aload_n 0, 1) := by decide +kernel
theorem dX9_advance_290 : decode cX9_advance 290 = .ok (.aload_n 0, 1) := by decide +kernel
theorem dX9_advance_291 : decode cX9_advance 291 = .ok (.getfield 19, 3) := by decide +kernel
theorem dX9_advance_294 : decode cX9_advance 294 = .ok (.aload_n 0, 1) := by decide +kernel
theorem dX9_advance_295 : decode cX9_advance 295 = .ok (.getfield 29, 3) := by decide +kernel
theorem dX9_advance_298 : decode cX9_advance 298 = .ok (.isub, 1) := by decide +kernel
theorem dX9_advance_299 : decode cX9_advance 299 = .ok (.iconst 4, 1) := by decide +kernel
theorem dX9_advance_300 : decode cX9_advance 300 = .ok (.if_icmp .le 8, 3) := by decide +kernel
theorem dX9_advance_303 : decode cX9_advance 303 = .ok (.bipush 102, 2) := by decide +kernel
theorem dX9_advance_305 : decode cX9_advance 305 = .ok (.goto 5, 3) := by decide +kernel
theorem dX9_advance_308 : decode cX9_advance 308 = .ok (.bipush 100, 2) := by decide +kernel
theorem dX9_advance_310 : decode cX9_advance 310 = .ok (.putfield 32, 3) := by decide +kernel
theorem dX9_advance_313 : decode cX9_advance 313 = .ok (.return_, 1) := by decide +kernel
theorem dX9_advance_314 : decode cX9_advance 314 = .ok (.aload_n 0, 1) := by decide +kernel
theorem dX9_advance_315 : decode cX9_advance 315 = .ok (.ldc 48, 2) := by decide +kernel
theorem dX9_advance_317 : decode cX9_advance 317 = .ok (.aload_n 0, 1) := by decide +kernel
theorem dX9_advance_318 : decode cX9_advance 318 = .ok (.aload_n 0, 1) := by decide +kernel
theorem dX9_advance_319 : decode cX9_advance 319 = .ok (.getfield 29, 3) := by decide +kernel
theorem dX9_advance_322 : decode cX9_advance 322 = .ok (.invokevirtual 25, 3) := by decide +kernel
theorem dX9_advance_325 : decode cX9_advance 325 = .ok (.i2c, 1) := by decide +kernel
theorem dX9_advance_326 : decode cX9_advance 326 = .ok (.invokevirtual 50, 3) := by decide +kernel
theorem dX9_advance_329 : decode cX9_advance 329 = .ok (.ifCond .lt 14, 3) := by decide +kernel
theorem dX9_advance_332 : decode cX9_advance 332 = .ok (.aload_n 0, 1) := by decide +kernel
theorem dX9_advance_333 : decode cX9_advance 333 = .ok (.aload_n 0, 1) := by decide +kernel
theorem dX9_advance_334 : decode cX9_advance 334 = .ok (.getfield 29, 3) := by decide +kernel
theorem dX9_advance_337 : decode cX9_advance 337 = .ok (.invokevirtual 25, 3) := by decide +kernel
theorem dX9_advance_340 : decode cX9_advance 340 = .ok (.goto 5, 3) := by decide +kernel
theorem dX9_advance_343 : decode cX9_advance 343 = .ok (.bipush 102, 2) := by decide +kernel
theorem dX9_advance_345 : decode cX9_advance 345 = .ok (.putfield 32, 3) := by decide +kernel
theorem dX9_advance_348 : decode cX9_advance 348 = .ok (.aload_n 0, 1) := by decide +kernel
theorem dX9_advance_349 : decode cX9_advance 349 = .ok (.dup, 1) := by decide +kernel
theorem dX9_advance_350 : decode cX9_advance 350 = .ok (.getfield 19, 3) := by decide +kernel
theorem dX9_advance_353 : decode cX9_advance 353 = .ok (.iconst 1, 1) := by decide +kernel
theorem dX9_advance_354 : decode cX9_advance 354 = .ok (.iadd, 1) := by decide +kernel
theorem dX9_advance_355 : decode cX9_advance 355 = .ok (.putfield 19, 3) := by decide +kernel
theorem dX9_advance_358 : decode cX9_advance 358 = .ok (.return_, 1) := by decide +kernel
theorem dX9_signAt_0 : decode cX9_signAt 0 = .ok (.iload_n 1, 1) := by decide +kernel
theorem dX9_signAt_1 : decode cX9_signAt 1 = .ok (.ifCond .lt 27, 3) := by decide +kernel
theorem dX9_signAt_4 : decode cX9_signAt 4 = .ok (.iload_n 1, 1) := by decide +kernel
theorem dX9_signAt_5 : decode cX9_signAt 5 = .ok (.aload_n 0, 1) := by decide +kernel
theorem dX9_signAt_6 : decode cX9_signAt 6 = .ok (.getfield 15, 3) := by decide +kernel
theorem dX9_signAt_9 : decode cX9_signAt 9 = .ok (.if_icmp .ge 19, 3) := by decide +kernel
theorem dX9_signAt_12 : decode cX9_signAt 12 = .ok (.iload_n 1, 1) := by decide +kernel
theorem dX9_signAt_13 : decode cX9_signAt 13 = .ok (.sipush 1000, 3) := by decide +kernel
theorem dX9_signAt_16 : decode cX9_signAt 16 = .ok (.if_icmp .ge 12, 3) := by decide +kernel
theorem dX9_signAt_19 : decode cX9_signAt 19 = .ok (.aload_n 0, 1) := by decide +kernel
theorem dX9_signAt_20 : decode cX9_signAt 20 = .ok (.getfield 9, 3) := by decide +kernel
theorem dX9_signAt_23 : decode cX9_signAt 23 = .ok (.iload_n 1, 1) := by decide +kernel
theorem dX9_signAt_24 : decode cX9_signAt 24 = .ok (.baload, 1) := by decide +kernel
theorem dX9_signAt_25 : decode cX9_signAt 25 = .ok (.goto 4, 3) := by decide +kernel
theorem dX9_signAt_28 : decode cX9_signAt 28 = .ok (.iconst 0, 1) := by decide +kernel
theorem dX9_signAt_29 : decode cX9_signAt 29 = .ok (.ireturn, 1) := by decide +kernel
theorem dX9_wordNumber_0 : decode cX9_wordNumber 0 = .ok (.lconst 0, 1) := by decide +kernel
theorem dX9_wordNumber_1 : decode cX9_wordNumber 1 = .ok (.lstore_n 2, 1) := by decide +kernel
theorem dX9_wordNumber_2 : decode cX9_wordNumber 2 = .ok (.iconst 0, 1) := by decide +kernel
theorem dX9_wordNumber_3 : decode cX9_wordNumber 3 = .ok (.istore 4, 2) := by decide +kernel
theorem dX9_wordNumber_5 : decode cX9_wordNumber 5 = .ok (.iconst 0, 1) := by decide +kernel
theorem dX9_wordNumber_6 : decode cX9_wordNumber 6 = .ok (.istore 5, 2) := by decide +kernel
theorem dX9_wordNumber_8 : decode cX9_wordNumber 8 = .ok (.iload 5, 2) := by decide +kernel
theorem dX9_wordNumber_10 : decode cX9_wordNumber 10 = .ok (.ldc 55, 2) := by decide +kernel
theorem dX9_wordNumber_12 : decode cX9_wordNumber 12 = .ok (.invokevirtual 57, 3) := by decide +kernel
theorem dX9_wordNumber_15 : decode cX9_wordNumber 15 = .ok (.if_icmp .ge 57, 3) := by decide +kernel
theorem dX9_wordNumber_18 : decode cX9_wordNumber 18 = .ok (.ldc 55, 2) := by decide +kernel
theorem dX9_wordNumber_20 : decode cX9_wordNumber 20 = .ok (.iload 5, 2) := by decide +kernel
theorem dX9_wordNumber_22 : decode cX9_wordNumber 22 = .ok (.invokevirtual 60, 3) := by decide +kernel
theorem dX9_wordNumber_25 : decode cX9_wordNumber 25 = .ok (.istore 6, 2) := by decide +kernel
theorem dX9_wordNumber_27 : decode cX9_wordNumber 27 = .ok (.iload 6, 2) := by decide +kernel
theorem dX9_wordNumber_29 : decode cX9_wordNumber 29 = .ok (.bipush 32, 2) := by decide +kernel
theorem dX9_wordNumber_31 : decode cX9_wordNumber 31 = .ok (.if_icmp .eq 21, 3) := by decide +kernel
theorem dX9_wordNumber_34 : decode cX9_wordNumber 34 = .ok (.lload_n 2, 1) := by decide +kernel
theorem dX9_wordNumber_35 : decode cX9_wordNumber 35 = .ok (.ldc2_w 39, 3) := by decide +kernel
theorem dX9_wordNumber_38 : decode cX9_wordNumber 38 = .ok (.lmul, 1) := by decide +kernel
theorem dX9_wordNumber_39 : decode cX9_wordNumber 39 = .ok (.iload 6, 2) := by decide +kernel
theorem dX9_wordNumber_41 : decode cX9_wordNumber 41 = .ok (.bipush 97, 2) := by decide +kernel
theorem dX9_wordNumber_43 : decode cX9_wordNumber 43 = .ok (.isub, 1) := by decide +kernel
theorem dX9_wordNumber_44 : decode cX9_wordNumber 44 = .ok (.iconst 1, 1) := by decide +kernel
theorem dX9_wordNumber_45 : decode cX9_wordNumber 45 = .ok (.iadd, 1) := by decide +kernel
theorem dX9_wordNumber_46 : decode cX9_wordNumber 46 = .ok (.i2l, 1) := by decide +kernel
theorem dX9_wordNumber_47 : decode cX9_wordNumber 47 = .ok (.ladd, 1) := by decide +kernel
theorem dX9_wordNumber_48 : decode cX9_wordNumber 48 = .ok (.lstore_n 2, 1) := by decide +kernel
theorem dX9_wordNumber_49 : decode cX9_wordNumber 49 = .ok (.goto 17, 3) := by decide +kernel
theorem dX9_wordNumber_52 : decode cX9_wordNumber 52 = .ok (.lload_n 2, 1) := by decide +kernel
theorem dX9_wordNumber_53 : decode cX9_wordNumber 53 = .ok (.lload_n 0, 1) := by decide +kernel
theorem dX9_wordNumber_54 : decode cX9_wordNumber 54 = .ok (.lcmp, 1) := by decide +kernel
theorem dX9_wordNumber_55 : decode cX9_wordNumber 55 = .ok (.ifCond .ne 6, 3) := by decide +kernel
theorem dX9_wordNumber_58 : decode cX9_wordNumber 58 = .ok (.iload 4, 2) := by decide +kernel
theorem dX9_wordNumber_60 : decode cX9_wordNumber 60 = .ok (.ireturn, 1) := by decide +kernel
theorem dX9_wordNumber_61 : decode cX9_wordNumber 61 = .ok (.lconst 0, 1) := by decide +kernel
theorem dX9_wordNumber_62 : decode cX9_wordNumber 62 = .ok (.lstore_n 2, 1) := by decide +kernel
theorem dX9_wordNumber_63 : decode cX9_wordNumber 63 = .ok (.iinc 4 1, 3) := by decide +kernel
theorem dX9_wordNumber_66 : decode cX9_wordNumber 66 = .ok (.iinc 5 1, 3) := by decide +kernel
theorem dX9_wordNumber_69 : decode cX9_wordNumber 69 = .ok (.goto (-61), 3) := by decide +kernel
theorem dX9_wordNumber_72 : decode cX9_wordNumber 72 = .ok (.bipush 29, 2) := by decide +kernel
theorem dX9_wordNumber_74 : decode cX9_wordNumber 74 = .ok (.ireturn, 1) := by decide +kernel
theorem dX10_init_0 : decode cX10_init 0 = .ok (.aload_n 0, 1) := by decide +kernel
theorem dX10_init_1 : decode cX10_init 1 = .ok (.invokespecial 3, 3) := by decide +kernel
theorem dX10_init_4 : decode cX10_init 4 = .ok (.aload_n 0, 1) := by decide +kernel
theorem dX10_init_5 : decode cX10_init 5 = .ok (.bipush 40, 2) := by decide +kernel
theorem dX10_init_7 : decode cX10_init 7 = .ok (.newarray .int, 2) := by decide +kernel
theorem dX10_init_9 : decode cX10_init 9 = .ok (.putfield 9, 3) := by decide +kernel
theorem dX10_init_12 : decode cX10_init 12 = .ok (.aload_n 0, 1) := by decide +kernel
theorem dX10_init_13 : decode cX10_init 13 = .ok (.bipush 40, 2) := by decide +kernel
theorem dX10_init_15 : decode cX10_init 15 = .ok (.newarray .int, 2) := by decide +kernel
theorem dX10_init_17 : decode cX10_init 17 = .ok (.putfield 15, 3) := by decide +kernel
theorem dX10_init_20 : decode cX10_init 20 = .ok (.aload_n 0, 1) := by decide +kernel
theorem dX10_init_21 : decode cX10_init 21 = .ok (.bipush 40, 2) := by decide +kernel
theorem dX10_init_23 : decode cX10_init 23 = .ok (.newarray .int, 2) := by decide +kernel
theorem dX10_init_25 : decode cX10_init 25 = .ok (.putfield 18, 3) := by decide +kernel
theorem dX10_init_28 : decode cX10_init 28 = .ok (.return_, 1) := by decide +kernel
theorem dX10_add_0 : decode cX10_add 0 = .ok (.aload_n 0, 1) := by decide +kernel
theorem dX10_add_1 : decode cX10_add 1 = .ok (.getfield 21, 3) := by decide +kernel
theorem dX10_add_4 : decode cX10_add 4 = .ok (.ifCond .lt 52, 3) := by decide +kernel
theorem dX10_add_7 : decode cX10_add 7 = .ok (.aload_n 0, 1) := by decide +kernel
theorem dX10_add_8 : decode cX10_add 8 = .ok (.getfield 21, 3) := by decide +kernel
theorem dX10_add_11 : decode cX10_add 11 = .ok (.bipush 40, 2) := by decide +kernel
theorem dX10_add_13 : decode cX10_add 13 = .ok (.if_icmp .ge 43, 3) := by decide +kernel
theorem dX10_add_16 : decode cX10_add 16 = .ok (.aload_n 0, 1) := by decide +kernel
theorem dX10_add_17 : decode cX10_add 17 = .ok (.getfield 9, 3) := by decide +kernel
theorem dX10_add_20 : decode cX10_add 20 = .ok (.aload_n 0, 1) := by decide +kernel
theorem dX10_add_21 : decode cX10_add 21 = .ok (.getfield 21, 3) := by decide +kernel
theorem dX10_add_24 : decode cX10_add 24 = .ok (.iload_n 1, 1) := by decide +kernel
theorem dX10_add_25 : decode cX10_add 25 = .ok (.iastore, 1) := by decide +kernel
theorem dX10_add_26 : decode cX10_add 26 = .ok (.aload_n 0, 1) := by decide +kernel
theorem dX10_add_27 : decode cX10_add 27 = .ok (.getfield 15, 3) := by decide +kernel
theorem dX10_add_30 : decode cX10_add 30 = .ok (.aload_n 0, 1) := by decide +kernel
theorem dX10_add_31 : decode cX10_add 31 = .ok (.getfield 21, 3) := by decide +kernel
theorem dX10_add_34 : decode cX10_add 34 = .ok (.iload_n 2, 1) := by decide +kernel
theorem dX10_add_35 : decode cX10_add 35 = .ok (.iastore, 1) := by decide +kernel
theorem dX10_add_36 : decode cX10_add 36 = .ok (.aload_n 0, 1) := by decide +kernel
theorem dX10_add_37 : decode cX10_add 37 = .ok (.getfield 18, 3) := by decide +kernel
theorem dX10_add_40 : decode cX10_add 40 = .ok (.aload_n 0, 1) := by decide +kernel
theorem dX10_add_41 : decode cX10_add 41 = .ok (.getfield 21, 3) := by decide +kernel
theorem dX10_add_44 : decode cX10_add 44 = .ok (.iload_n 3, 1) := by decide +kernel
theorem dX10_add_45 : decode cX10_add 45 = .ok (.iastore, 1) := by decide +kernel
theorem dX10_add_46 : decode cX10_add 46 = .ok (.aload_n 0, 1) := by decide +kernel
theorem dX10_add_47 : decode cX10_add 47 = .ok (.dup, 1) := by decide +kernel
theorem dX10_add_48 : decode cX10_add 48 = .ok (.getfield 21, 3) := by decide +kernel
theorem dX10_add_51 : decode cX10_add 51 = .ok (.iconst 1, 1) := by decide +kernel
theorem dX10_add_52 : decode cX10_add 52 = .ok (.iadd, 1) := by decide +kernel
theorem dX10_add_53 : decode cX10_add 53 = .ok (.putfield 21, 3) := by decide +kernel
theorem dX10_add_56 : decode cX10_add 56 = .ok (.return_, 1) := by decide +kernel
theorem dX10_copyFrom_0 : decode cX10_copyFrom 0 = .ok (.aload_n 0, 1) := by decide +kernel
theorem dX10_copyFrom_1 : decode cX10_copyFrom 1 = .ok (.aload_n 1, 1) := by decide +kernel
theorem dX10_copyFrom_2 : decode cX10_copyFrom 2 = .ok (.getfield 21, 3) := by decide +kernel
theorem dX10_copyFrom_5 : decode cX10_copyFrom 5 = .ok (.putfield 21, 3) := by decide +kernel
theorem dX10_copyFrom_8 : decode cX10_copyFrom 8 = .ok (.iconst 0, 1) := by decide +kernel
theorem dX10_copyFrom_9 : decode cX10_copyFrom 9 = .ok (.istore_n 2, 1) := by decide +kernel
theorem dX10_copyFrom_10 : decode cX10_copyFrom 10 = .ok (.iload_n 2, 1) := by decide +kernel
theorem dX10_copyFrom_11 : decode cX10_copyFrom 11 = .ok (.aload_n 0, 1) := by decide +kernel
theorem dX10_copyFrom_12 : decode cX10_copyFrom 12 = .ok (.getfield 21, 3) := by decide +kernel
theorem dX10_copyFrom_15 : decode cX10_copyFrom 15 = .ok (.if_icmp .ge 51, 3) := by decide +kernel
theorem dX10_copyFrom_18 : decode cX10_copyFrom 18 = .ok (.iload_n 2, 1) := by decide +kernel
theorem dX10_copyFrom_19 : decode cX10_copyFrom 19 = .ok (.bipush 40, 2) := by decide +kernel
theorem dX10_copyFrom_21 : decode cX10_copyFrom 21 = .ok (.if_icmp .ge 45, 3) := by decide +kernel
theorem dX10_copyFrom_24 : decode cX10_copyFrom 24 = .ok (.aload_n 0, 1) := by decide +kernel
theorem dX10_copyFrom_25 : decode cX10_copyFrom 25 = .ok (.getfield 9, 3) := by decide +kernel
theorem dX10_copyFrom_28 : decode cX10_copyFrom 28 = .ok (.iload_n 2, 1) := by decide +kernel
theorem dX10_copyFrom_29 : decode cX10_copyFrom 29 = .ok (.aload_n 1, 1) := by decide +kernel
theorem dX10_copyFrom_30 : decode cX10_copyFrom 30 = .ok (.getfield 9, 3) := by decide +kernel
theorem dX10_copyFrom_33 : decode cX10_copyFrom 33 = .ok (.iload_n 2, 1) := by decide +kernel
theorem dX10_copyFrom_34 : decode cX10_copyFrom 34 = .ok (.iaload, 1) := by decide +kernel
theorem dX10_copyFrom_35 : decode cX10_copyFrom 35 = .ok (.iastore, 1) := by decide +kernel
theorem dX10_copyFrom_36 : decode cX10_copyFrom 36 = .ok (.aload_n 0, 1) := by decide +kernel
theorem dX10_copyFrom_37 : decode cX10_copyFrom 37 = .ok (.getfield 15, 3) := by decide +kernel
theorem dX10_copyFrom_40 : decode cX10_copyFrom 40 = .ok (.iload_n 2, 1) := by decide +kernel
theorem dX10_copyFrom_41 : decode cX10_copyFrom 41 = .ok (.aload_n 1, 1) := by decide +kernel
theorem dX10_copyFrom_42 : decode cX10_copyFrom 42 = .ok (.getfield 15, 3) := by decide +kernel
theorem dX10_copyFrom_45 : decode cX10_copyFrom 45 = .ok (.iload_n 2, 1) := by decide +kernel
theorem dX10_copyFrom_46 : decode cX10_copyFrom 46 = .ok (.iaload, 1) := by decide +kernel
theorem dX10_copyFrom_47 : decode cX10_copyFrom 47 = .ok (.iastore, 1) := by decide +kernel
theorem dX10_copyFrom_48 : decode cX10_copyFrom 48 = .ok (.aload_n 0, 1) := by decide +kernel
theorem dX10_copyFrom_49 : decode cX10_copyFrom 49 = .ok (.getfield 18, 3) := by decide +kernel
theorem dX10_copyFrom_52 : decode cX10_copyFrom 52 = .ok (.iload_n 2, 1) := by decide +kernel
theorem dX10_copyFrom_53 : decode cX10_copyFrom 53 = .ok (.aload_n 1, 1) := by decide +kernel
theorem dX10_copyFrom_54 : decode cX10_copyFrom 54 = .ok (.getfield 18, 3) := by decide +kernel
theorem dX10_copyFrom_57 : decode cX10_copyFrom 57 = .ok (.iload_n 2, 1) := by decide +kernel
theorem dX10_copyFrom_58 : decode cX10_copyFrom 58 = .ok (.iaload, 1) := by decide +kernel
theorem dX10_copyFrom_59 : decode cX10_copyFrom 59 = .ok (.iastore, 1) := by decide +kernel
theorem dX10_copyFrom_60 : decode cX10_copyFrom 60 = .ok (.iinc 2 1, 3) := by decide +kernel
theorem dX10_copyFrom_63 : decode cX10_copyFrom 63 = .ok (.goto (-53), 3) := by decide +kernel
theorem dX10_copyFrom_66 : decode cX10_copyFrom 66 = .ok (.return_, 1) := by decide +kernel
theorem dX11_init_0 : decode cX11_init 0 = .ok (.aload_n 0, 1) := by decide +kernel
theorem dX11_init_1 : decode cX11_init 1 = .ok (.invokespecial 3, 3) := by decide +kernel
theorem dX11_init_4 : decode cX11_init 4 = .ok (.aload_n 0, 1) := by decide +kernel
theorem dX11_init_5 : decode cX11_init 5 = .ok (.new 9, 3) := by decide +kernel
theorem dX11_init_8 : decode cX11_init 8 = .ok (.dup, 1) := by decide +kernel
theorem dX11_init_9 : decode cX11_init 9 = .ok (.invokespecial 11, 3) := by decide +kernel
theorem dX11_init_12 : decode cX11_init 12 = .ok (.putfield 12, 3) := by decide +kernel
theorem dX11_init_15 : decode cX11_init 15 = .ok (.aload_n 0, 1) := by decide +kernel
theorem dX11_init_16 : decode cX11_init 16 = .ok (.new 16, 3) := by decide +kernel
theorem dX11_init_19 : decode cX11_init 19 = .ok (.dup, 1) := by decide +kernel
theorem dX11_init_20 : decode cX11_init 20 = .ok (.aload_n 0, 1) := by decide +kernel
theorem dX11_init_21 : decode cX11_init 21 = .ok (.getfield 12, 3) := by decide +kernel
theorem dX11_init_24 : decode cX11_init 24 = .ok (.invokespecial 18, 3) := by decide +kernel
theorem dX11_init_27 : decode cX11_init 27 = .ok (.putfield 21, 3) := by decide +kernel
theorem dX11_init_30 : decode cX11_init 30 = .ok (.aload_n 0, 1) := by decide +kernel
theorem dX11_init_31 : decode cX11_init 31 = .ok (.new 25, 3) := by decide +kernel
theorem dX11_init_34 : decode cX11_init 34 = .ok (.dup, 1) := by decide +kernel
theorem dX11_init_35 : decode cX11_init 35 = .ok (.invokespecial 27, 3) := by decide +kernel
theorem dX11_init_38 : decode cX11_init 38 = .ok (.putfield 28, 3) := by decide +kernel
theorem dX11_init_41 : decode cX11_init 41 = .ok (.aload_n 0, 1) := by decide +kernel
theorem dX11_init_42 : decode cX11_init 42 = .ok (.new 25, 3) := by decide +kernel
theorem dX11_init_45 : decode cX11_init 45 = .ok (.dup, 1) := by decide +kernel
theorem dX11_init_46 : decode cX11_init 46 = .ok (.invokespecial 27, 3) := by decide +kernel
theorem dX11_init_49 : decode cX11_init 49 = .ok (.putfield 32, 3) := by decide +kernel
theorem dX11_init_52 : decode cX11_init 52 = .ok (.aload_n 0, 1) := by decide +kernel
theorem dX11_init_53 : decode cX11_init 53 = .ok (.new 35, 3) := by decide +kernel
theorem dX11_init_56 : decode cX11_init 56 = .ok (.dup, 1) := by decide +kernel
theorem dX11_init_57 : decode cX11_init 57 = .ok (.invokespecial 37, 3) := by decide +kernel
theorem dX11_init_60 : decode cX11_init 60 = .ok (.putfield 38, 3) := by decide +kernel
theorem dX11_init_63 : decode cX11_init 63 = .ok (.aload_n 0, 1) := by decide +kernel
theorem dX11_init_64 : decode cX11_init 64 = .ok (.new 35, 3) := by decide +kernel
theorem dX11_init_67 : decode cX11_init 67 = .ok (.dup, 1) := by decide +kernel
theorem dX11_init_68 : decode cX11_init 68 = .ok (.invokespecial 37, 3) := by decide +kernel
theorem dX11_init_71 : decode cX11_init 71 = .ok (.putfield 42, 3) := by decide +kernel
theorem dX11_init_74 : decode cX11_init 74 = .ok (.aload_n 0, 1) := by decide +kernel
theorem dX11_init_75 : decode cX11_init 75 = .ok (.new 45, 3) := by decide +kernel
theorem dX11_init_78 : decode cX11_init 78 = .ok (.dup, 1) := by decide +kernel
theorem dX11_init_79 : decode cX11_init 79 = .ok (.invokespecial 47, 3) := by decide +kernel
theorem dX11_init_82 : decode cX11_init 82 = .ok (.putfield 48, 3) := by decide +kernel
theorem dX11_init_85 : decode cX11_init 85 = .ok (.aload_n 0, 1) := by decide +kernel
theorem dX11_init_86 : decode cX11_init 86 = .ok (.new 45, 3) := by decide +kernel
theorem dX11_init_89 : decode cX11_init 89 = .ok (.dup, 1) := by decide +kernel
theorem dX11_init_90 : decode cX11_init 90 = .ok (.invokespecial 47, 3) := by decide +kernel
theorem dX11_init_93 : decode cX11_init 93 = .ok (.putfield 52, 3) := by decide +kernel
theorem dX11_init_96 : decode cX11_init 96 = .ok (.aload_n 0, 1) := by decide +kernel
theorem dX11_init_97 : decode cX11_init 97 = .ok (.new 55, 3) := by decide +kernel
theorem dX11_init_100 : decode cX11_init 100 = .ok (.dup, 1) := by decide +kernel
theorem dX11_init_101 : decode cX11_init 101 = .ok (.invokespecial 57, 3) := by decide +kernel
theorem dX11_init_104 : decode cX11_init 104 = .ok (.putfield 58, 3) := by decide +kernel
theorem dX11_init_107 : decode cX11_init 107 = .ok (.aload_n 0, 1) := by decide +kernel
theorem dX11_init_108 : decode cX11_init 108 = .ok (.new 62, 3) := by decide +kernel
theorem dX11_init_111 : decode cX11_init 111 = .ok (.dup, 1) := by decide +kernel
theorem dX11_init_112 : decode cX11_init 112 = .ok (.invokespecial 64, 3) := by decide +kernel
theorem dX11_init_115 : decode cX11_init 115 = .ok (.putfield 65, 3) := by decide +kernel
theorem dX11_init_118 : decode cX11_init 118 = .ok (.aload_n 0, 1) := by decide +kernel
theorem dX11_init_119 : decode cX11_init 119 = .ok (.new 69, 3) := by decide +kernel
theorem dX11_init_122 : decode cX11_init 122 = .ok (.dup, 1) := by decide +kernel
theorem dX11_init_123 : decode cX11_init 123 = .ok (.aload_n 0, 1) := by decide +kernel
theorem dX11_init_124 : decode cX11_init 124 = .ok (.getfield 28, 3) := by decide +kernel
theorem dX11_init_127 : decode cX11_init 127 = .ok (.invokespecial 71, 3) := by decide +kernel
theorem dX11_init_130 : decode cX11_init 130 = .ok (.putfield 74, 3) := by decide +kernel
theorem dX11_init_133 : decode cX11_init 133 = .ok (.aload_n 0, 1) := by decide +kernel
theorem dX11_init_134 : decode cX11_init 134 = .ok (.iconst 4, 1) := by decide +kernel
theorem dX11_init_135 : decode cX11_init 135 = .ok (.anewarray 78, 3) := by decide +kernel
theorem dX11_init_138 : decode cX11_init 138 = .ok (.putfield 80, 3) := by decide +kernel
theorem dX11_init_141 : decode cX11_init 141 = .ok (.iconst 0, 1) := by decide +kernel
theorem dX11_init_142 : decode cX11_init 142 = .ok (.istore_n 1, 1) := by decide +kernel
theorem dX11_init_143 : decode cX11_init 143 = .ok (.iload_n 1, 1) := by decide +kernel
theorem dX11_init_144 : decode cX11_init 144 = .ok (.iconst 4, 1) := by decide +kernel
theorem dX11_init_145 : decode cX11_init 145 = .ok (.if_icmp .ge 22, 3) := by decide +kernel
theorem dX11_init_148 : decode cX11_init 148 = .ok (.aload_n 0, 1) := by decide +kernel
theorem dX11_init_149 : decode cX11_init 149 = .ok (.getfield 80, 3) := by decide +kernel
theorem dX11_init_152 : decode cX11_init 152 = .ok (.iload_n 1, 1) := by decide +kernel
theorem dX11_init_153 : decode cX11_init 153 = .ok (.new 78, 3) := by decide +kernel
theorem dX11_init_156 : decode cX11_init 156 = .ok (.dup, 1) := by decide +kernel
theorem dX11_init_157 : decode cX11_init 157 = .ok (.invokespecial 84, 3) := by decide +kernel
theorem dX11_init_160 : decode cX11_init 160 = .ok (.aastore, 1) := by decide +kernel
theorem dX11_init_161 : decode cX11_init 161 = .ok (.iinc 1 1, 3) := by decide +kernel
theorem dX11_init_164 : decode cX11_init 164 = .ok (.goto (-21), 3) := by decide +kernel
theorem dX11_init_167 : decode cX11_init 167 = .ok (.aload_n 0, 1) := by decide +kernel
theorem dX11_init_168 : decode cX11_init 168 = .ok (.bipush 16, 2) := by decide +kernel
theorem dX11_init_170 : decode cX11_init 170 = .ok (.anewarray 35, 3) := by decide +kernel
theorem dX11_init_173 : decode cX11_init 173 = .ok (.putfield 85, 3) := by decide +kernel
theorem dX11_init_176 : decode cX11_init 176 = .ok (.iconst 0, 1) := by decide +kernel
theorem dX11_init_177 : decode cX11_init 177 = .ok (.istore_n 1, 1) := by decide +kernel
theorem dX11_init_178 : decode cX11_init 178 = .ok (.iload_n 1, 1) := by decide +kernel
theorem dX11_init_179 : decode cX11_init 179 = .ok (.bipush 16, 2) := by decide +kernel
theorem dX11_init_181 : decode cX11_init 181 = .ok (.if_icmp .ge 22, 3) := by decide +kernel
theorem dX11_init_184 : decode cX11_init 184 = .ok (.aload_n 0, 1) := by decide +kernel
theorem dX11_init_185 : decode cX11_init 185 = .ok (.getfield 85, 3) := by decide +kernel
theorem dX11_init_188 : decode cX11_init 188 = .ok (.iload_n 1, 1) := by decide +kernel
theorem dX11_init_189 : decode cX11_init 189 = .ok (.new 35, 3) := by decide +kernel
theorem dX11_init_192 : decode cX11_init 192 = .ok (.dup, 1) := by decide +kernel
theorem dX11_init_193 : decode cX11_init 193 = .ok (.invokespecial 37, 3) := by decide +kernel
theorem dX11_init_196 : decode cX11_init 196 = .ok (.aastore, 1) := by decide +kernel
theorem dX11_init_197 : decode cX11_init 197 = .ok (.iinc 1 1, 3) := by decide +kernel
theorem dX11_init_200 : decode cX11_init 200 = .ok (.goto (-22), 3) := by decide +kernel
theorem dX11_init_203 : decode cX11_init 203 = .ok (.aload_n 0, 1) := by decide +kernel
theorem dX11_init_204 : decode cX11_init 204 = .ok (.iconst 3, 1) := by decide +kernel
theorem dX11_init_205 : decode cX11_init 205 = .ok (.newarray .int, 2) := by decide +kernel
theorem dX11_init_207 : decode cX11_init 207 = .ok (.putfield 89, 3) := by decide +kernel
theorem dX11_init_210 : decode cX11_init 210 = .ok (.return_, 1) := by decide +kernel
theorem dX11_feed_0 : decode cX11_feed 0 = .ok (.aload_n 0, 1) := by decide +kernel
theorem dX11_feed_1 : decode cX11_feed 1 = .ok (.lload_n 1, 1) := by decide +kernel
theorem dX11_feed_2 : decode cX11_feed 2 = .ok (.invokevirtual 93, 3) := by decide +kernel
theorem dX11_feed_5 : decode cX11_feed 5 = .ok (.aload_n 0, 1) := by decide +kernel
theorem dX11_feed_6 : decode cX11_feed 6 = .ok (.lload_n 3, 1) := by decide +kernel
theorem dX11_feed_7 : decode cX11_feed 7 = .ok (.invokevirtual 93, 3) := by decide +kernel
theorem dX11_feed_10 : decode cX11_feed 10 = .ok (.aload_n 0, 1) := by decide +kernel
theorem dX11_feed_11 : decode cX11_feed 11 = .ok (.lload 5, 2) := by decide +kernel
theorem dX11_feed_13 : decode cX11_feed 13 = .ok (.invokevirtual 93, 3) := by decide +kernel
theorem dX11_feed_16 : decode cX11_feed 16 = .ok (.aload_n 0, 1) := by decide +kernel
theorem dX11_feed_17 : decode cX11_feed 17 = .ok (.getfield 12, 3) := by decide +kernel
theorem dX11_feed_20 : decode cX11_feed 20 = .ok (.getfield 97, 3) := by decide +kernel
theorem dX11_feed_23 : decode cX11_feed 23 = .ok (.ireturn, 1) := by decide +kernel
theorem dX11_station_0 : decode cX11_station 0 = .ok (.aload_n 0, 1) := by decide +kernel
theorem dX11_station_1 : decode cX11_station 1 = .ok (.getfield 21, 3) := by decide +kernel
theorem dX11_station_4 : decode cX11_station 4 = .ok (.aload_n 0, 1) := by decide +kernel
theorem dX11_station_5 : decode cX11_station 5 = .ok (.getfield 32, 3) := by decide +kernel
theorem dX11_station_8 : decode cX11_station 8 = .ok (.invokevirtual 101, 3) := by decide +kernel
theorem dX11_station_11 : decode cX11_station 11 = .ok (.istore_n 1, 1) := by decide +kernel
theorem dX11_station_12 : decode cX11_station 12 = .ok (.aload_n 0, 1) := by decide +kernel
theorem dX11_station_13 : decode cX11_station 13 = .ok (.getfield 12, 3) := by decide +kernel
theorem dX11_station_16 : decode cX11_station 16 = .ok (.iconst 0, 1) := by decide +kernel
theorem dX11_station_17 : decode cX11_station 17 = .ok (.putfield 97, 3) := by decide +kernel
theorem dX11_station_20 : decode cX11_station 20 = .ok (.iload_n 1, 1) := by decide +kernel
theorem dX11_station_21 : decode cX11_station 21 = .ok (.ifCond .ne 25, 3) := by decide +kernel
theorem dX11_station_24 : decode cX11_station 24 = .ok (.aload_n 0, 1) := by decide +kernel
theorem dX11_station_25 : decode cX11_station 25 = .ok (.getfield 28, 3) := by decide +kernel
theorem dX11_station_28 : decode cX11_station 28 = .ok (.astore_n 2, 1) := by decide +kernel
theorem dX11_station_29 : decode cX11_station 29 = .ok (.aload_n 0, 1) := by decide +kernel
theorem dX11_station_30 : decode cX11_station 30 = .ok (.aload_n 0, 1) := by decide +kernel
theorem dX11_station_31 : decode cX11_station 31 = .ok (.getfield 32, 3) := by decide +kernel
theorem dX11_station_34 : decode cX11_station 34 = .ok (.putfield 28, 3) := by decide +kernel
theorem dX11_station_37 : decode cX11_station 37 = .ok (.aload_n 0, 1) := by decide +kernel
theorem dX11_station_38 : decode cX11_station 38 = .ok (.aload_n 2, 1) := by decide +kernel
theorem dX11_station_39 : decode cX11_station 39 = .ok (.putfield 32, 3) := by decide +kernel
theorem dX11_station_42 : decode cX11_station 42 = .ok (.aload_n 0, 1) := by decide +kernel
theorem dX11_station_43 : decode cX11_station 43 = .ok (.invokevirtual 105, 3) := by decide +kernel
theorem dX11_station_46 : decode cX11_station 46 = .ok (.iload_n 1, 1) := by decide +kernel
theorem dX11_station_47 : decode cX11_station 47 = .ok (.ireturn, 1) := by decide +kernel
theorem dX11_week_0 : decode cX11_week 0 = .ok (.aload_n 0, 1) := by decide +kernel
theorem dX11_week_1 : decode cX11_week 1 = .ok (.getfield 21, 3) := by decide +kernel
theorem dX11_week_4 : decode cX11_week 4 = .ok (.aload_n 0, 1) := by decide +kernel
theorem dX11_week_5 : decode cX11_week 5 = .ok (.getfield 52, 3) := by decide +kernel
theorem dX11_week_8 : decode cX11_week 8 = .ok (.invokevirtual 108, 3) := by decide +kernel
theorem dX11_week_11 : decode cX11_week 11 = .ok (.istore_n 1, 1) := by decide +kernel
theorem dX11_week_12 : decode cX11_week 12 = .ok (.aload_n 0, 1) := by decide +kernel
theorem dX11_week_13 : decode cX11_week 13 = .ok (.getfield 12, 3) := by decide +kernel
theorem dX11_week_16 : decode cX11_week 16 = .ok (.iconst 0, 1) := by decide +kernel
theorem dX11_week_17 : decode cX11_week 17 = .ok (.putfield 97, 3) := by decide +kernel
theorem dX11_week_20 : decode cX11_week 20 = .ok (.iload_n 1, 1) := by decide +kernel
theorem dX11_week_21 : decode cX11_week 21 = .ok (.ifCond .ne 14, 3) := by decide +kernel
theorem dX11_week_24 : decode cX11_week 24 = .ok (.aload_n 0, 1) := by decide +kernel
theorem dX11_week_25 : decode cX11_week 25 = .ok (.getfield 48, 3) := by decide +kernel
theorem dX11_week_28 : decode cX11_week 28 = .ok (.aload_n 0, 1) := by decide +kernel
theorem dX11_week_29 : decode cX11_week 29 = .ok (.getfield 52, 3) := by decide +kernel
theorem dX11_week_32 : decode cX11_week 32 = .ok (.invokevirtual 112, 3) := by decide +kernel
theorem dX11_week_35 : decode cX11_week 35 = .ok (.iload_n 1, 1) := by decide +kernel
theorem dX11_week_36 : decode cX11_week 36 = .ok (.ireturn, 1) := by decide +kernel
theorem dX11_passer_0 : decode cX11_passer 0 = .ok (.aload_n 0, 1) := by decide +kernel
theorem dX11_passer_1 : decode cX11_passer 1 = .ok (.iload_n 1, 1) := by decide +kernel
theorem dX11_passer_2 : decode cX11_passer 2 = .ok (.invokevirtual 116, 3) := by decide +kernel
theorem dX11_passer_5 : decode cX11_passer 5 = .ok (.ifCond .ne 5, 3) := by decide +kernel
theorem dX11_passer_8 : decode cX11_passer 8 = .ok (.iconst (-1), 1) := by decide +kernel
theorem dX11_passer_9 : decode cX11_passer 9 = .ok (.ireturn, 1) := by decide +kernel
theorem dX11_passer_10 : decode cX11_passer 10 = .ok (.aload_n 0, 1) := by decide +kernel
theorem dX11_passer_11 : decode cX11_passer 11 = .ok (.getfield 28, 3) := by decide +kernel
theorem dX11_passer_14 : decode cX11_passer 14 = .ok (.getfield 120, 3) := by decide +kernel
theorem dX11_passer_17 : decode cX11_passer 17 = .ok (.iload_n 1, 1) := by decide +kernel
theorem dX11_passer_18 : decode cX11_passer 18 = .ok (.aaload, 1) := by decide +kernel
theorem dX11_passer_19 : decode cX11_passer 19 = .ok (.astore_n 3, 1) := by decide +kernel
theorem dX11_passer_20 : decode cX11_passer 20 = .ok (.iload_n 2, 1) := by decide +kernel
theorem dX11_passer_21 : decode cX11_passer 21 = .ok (.tableswitch 76 0 5 #[39, 44, 49, 54, 59, 71], 39) := by decide +kernel
theorem dX11_passer_60 : decode cX11_passer 60 = .ok (.aload_n 3, 1) := by decide +kernel
theorem dX11_passer_61 : decode cX11_passer 61 = .ok (.getfield 124, 3) := by decide +kernel
theorem dX11_passer_64 : decode cX11_passer 64 = .ok (.ireturn, 1) := by decide +kernel
theorem dX11_passer_65 : decode cX11_passer 65 = .ok (.aload_n 3, 1) := by decide +kernel
theorem dX11_passer_66 : decode cX11_passer 66 = .ok (.getfield 129, 3) := by decide +kernel
theorem dX11_passer_69 : decode cX11_passer 69 = .ok (.ireturn, 1) := by decide +kernel
theorem dX11_passer_70 : decode cX11_passer 70 = .ok (.aload_n 3, 1) := by decide +kernel
theorem dX11_passer_71 : decode cX11_passer 71 = .ok (.getfield 132, 3) := by decide +kernel
theorem dX11_passer_74 : decode cX11_passer 74 = .ok (.ireturn, 1) := by decide +kernel
theorem dX11_passer_75 : decode cX11_passer 75 = .ok (.aload_n 3, 1) := by decide +kernel
theorem dX11_passer_76 : decode cX11_passer 76 = .ok (.getfield 135, 3) := by decide +kernel
theorem dX11_passer_79 : decode cX11_passer 79 = .ok (.ireturn, 1) := by decide +kernel
theorem dX11_passer_80 : decode cX11_passer 80 = .ok (.aload_n 3, 1) := by decide +kernel
theorem dX11_passer_81 : decode cX11_passer 81 = .ok (.aload_n 0, 1) := by decide +kernel
theorem dX11_passer_82 : decode cX11_passer 82 = .ok (.getfield 38, 3) := by decide +kernel
theorem dX11_passer_85 : decode cX11_passer 85 = .ok (.getfield 138, 3) := by decide +kernel
theorem dX11_passer_88 : decode cX11_passer 88 = .ok (.invokevirtual 141, 3) := by decide +kernel
theorem dX11_passer_91 : decode cX11_passer 91 = .ok (.ireturn, 1) := by decide +kernel
theorem dX11_passer_92 : decode cX11_passer 92 = .ok (.aload_n 3, 1) := by decide +kernel
theorem dX11_passer_93 : decode cX11_passer 93 = .ok (.getfield 145, 3) := by decide +kernel
theorem dX11_passer_96 : decode cX11_passer 96 = .ok (.ireturn, 1) := by decide +kernel
theorem dX11_passer_97 : decode cX11_passer 97 = .ok (.iconst (-1), 1) := by decide +kernel
theorem dX11_passer_98 : decode cX11_passer 98 = .ok (.ireturn, 1) := by decide +kernel
theorem dX11_tune_0 : decode cX11_tune 0 = .ok (.iload_n 1, 1) := by decide +kernel
theorem dX11_tune_1 : decode cX11_tune 1 = .ok (.ifCond .lt 29, 3) := by decide +kernel
theorem dX11_tune_4 : decode cX11_tune 4 = .ok (.iload_n 1, 1) := by decide +kernel
theorem dX11_tune_5 : decode cX11_tune 5 = .ok (.aload_n 0, 1) := by decide +kernel
theorem dX11_tune_6 : decode cX11_tune 6 = .ok (.getfield 28, 3) := by decide +kernel
theorem dX11_tune_9 : decode cX11_tune 9 = .ok (.getfield 148, 3) := by decide +kernel
theorem dX11_tune_12 : decode cX11_tune 12 = .ok (.if_icmp .ge 18, 3) := by decide +kernel
theorem dX11_tune_15 : decode cX11_tune 15 = .ok (.iload_n 1, 1) := by decide +kernel
theorem dX11_tune_16 : decode cX11_tune 16 = .ok (.iconst 5, 1) := by decide +kernel
theorem dX11_tune_17 : decode cX11_tune 17 = .ok (.if_icmp .ge 13, 3) := by decide +kernel
theorem dX11_tune_20 : decode cX11_tune 20 = .ok (.iload_n 2, 1) := by decide +kernel
theorem dX11_tune_21 : decode cX11_tune 21 = .ok (.ifCond .lt 9, 3) := by decide +kernel
theorem dX11_tune_24 : decode cX11_tune 24 = .ok (.iload_n 2, 1) := by decide +kernel
theorem dX11_tune_25 : decode cX11_tune 25 = .ok (.bipush 9, 2) := by decide +kernel
theorem dX11_tune_27 : decode cX11_tune 27 = .ok (.if_icmp .lt 5, 3) := by decide +kernel
theorem dX11_tune_30 : decode cX11_tune 30 = .ok (.iconst (-1), 1) := by decide +kernel
theorem dX11_tune_31 : decode cX11_tune 31 = .ok (.ireturn, 1) := by decide +kernel
theorem dX11_tune_32 : decode cX11_tune 32 = .ok (.iload_n 2, 1) := by decide +kernel
theorem dX11_tune_33 : decode cX11_tune 33 = .ok (.aload_n 0, 1) := by decide +kernel
theorem dX11_tune_34 : decode cX11_tune 34 = .ok (.getfield 28, 3) := by decide +kernel
theorem dX11_tune_37 : decode cX11_tune 37 = .ok (.getfield 151, 3) := by decide +kernel
theorem dX11_tune_40 : decode cX11_tune 40 = .ok (.iload_n 1, 1) := by decide +kernel
theorem dX11_tune_41 : decode cX11_tune 41 = .ok (.iaload, 1) := by decide +kernel
theorem dX11_tune_42 : decode cX11_tune 42 = .ok (.if_icmp .ge 17, 3) := by decide +kernel
theorem dX11_tune_45 : decode cX11_tune 45 = .ok (.aload_n 0, 1) := by decide +kernel
theorem dX11_tune_46 : decode cX11_tune 46 = .ok (.getfield 28, 3) := by decide +kernel
theorem dX11_tune_49 : decode cX11_tune 49 = .ok (.getfield 154, 3) := by decide +kernel
theorem dX11_tune_52 : decode cX11_tune 52 = .ok (.iload_n 1, 1) := by decide +kernel
theorem dX11_tune_53 : decode cX11_tune 53 = .ok (.aaload, 1) := by decide +kernel
theorem dX11_tune_54 : decode cX11_tune 54 = .ok (.iload_n 2, 1) := by decide +kernel
theorem dX11_tune_55 : decode cX11_tune 55 = .ok (.iaload, 1) := by decide +kernel
theorem dX11_tune_56 : decode cX11_tune 56 = .ok (.goto 4, 3) := by decide +kernel
theorem dX11_tune_59 : decode cX11_tune 59 = .ok (.iconst (-1), 1) := by decide +kernel
theorem dX11_tune_60 : decode cX11_tune 60 = .ok (.ireturn, 1) := by decide +kernel
theorem dX11_key_0 : decode cX11_key 0 = .ok (.iload_n 1, 1) := by decide +kernel
theorem dX11_key_1 : decode cX11_key 1 = .ok (.invokestatic 158, 3) := by decide +kernel
theorem dX11_key_4 : decode cX11_key 4 = .ok (.ifCond .eq 15, 3) := by decide +kernel
theorem dX11_key_7 : decode cX11_key 7 = .ok (.aload_n 0, 1) := by decide +kernel
theorem dX11_key_8 : decode cX11_key 8 = .ok (.getfield 38, 3) := by decide +kernel
theorem dX11_key_11 : decode cX11_key 11 = .ok (.getfield 161, 3) := by decide +kernel
theorem dX11_key_14 : decode cX11_key 14 = .ok (.iload_n 1, 1) := by decide +kernel
theorem dX11_key_15 : decode cX11_key 15 = .ok (.iaload, 1) := by decide +kernel
theorem dX11_key_16 : decode cX11_key 16 = .ok (.goto 4, 3) := by decide +kernel
theorem dX11_key_19 : decode cX11_key 19 = .ok (.iconst (-1), 1) := by decide +kernel
theorem dX11_key_20 : decode cX11_key 20 = .ok (.ireturn, 1) := by decide +kernel
theorem dX11_begins_0 : decode cX11_begins 0 = .ok (.aload_n 0, 1) := by decide +kernel
theorem dX11_begins_1 : decode cX11_begins 1 = .ok (.iload_n 1, 1) := by decide +kernel
theorem dX11_begins_2 : decode cX11_begins 2 = .ok (.invokevirtual 116, 3) := by decide +kernel
theorem dX11_begins_5 : decode cX11_begins 5 = .ok (.ifCond .ne 5, 3) := by decide +kernel
theorem dX11_begins_8 : decode cX11_begins 8 = .ok (.iconst (-1), 1) := by decide +kernel
theorem dX11_begins_9 : decode cX11_begins 9 = .ok (.ireturn, 1) := by decide +kernel
theorem dX11_begins_10 : decode cX11_begins 10 = .ok (.aload_n 0, 1) := by decide +kernel
theorem dX11_begins_11 : decode cX11_begins 11 = .ok (.iconst 0, 1) := by decide +kernel
theorem dX11_begins_12 : decode cX11_begins 12 = .ok (.invokevirtual 164, 3) := by decide +kernel
theorem dX11_begins_15 : decode cX11_begins 15 = .ok (.pop, 1) := by decide +kernel
theorem dX11_begins_16 : decode cX11_begins 16 = .ok (.aload_n 0, 1) := by decide +kernel
theorem dX11_begins_17 : decode cX11_begins 17 = .ok (.getfield 74, 3) := by decide +kernel
theorem dX11_begins_20 : decode cX11_begins 20 = .ok (.getfield 167, 3) := by decide +kernel
theorem dX11_begins_23 : decode cX11_begins 23 = .ok (.iload_n 1, 1) := by decide +kernel
theorem dX11_begins_24 : decode cX11_begins 24 = .ok (.iaload, 1) := by decide +kernel
theorem dX11_begins_25 : decode cX11_begins 25 = .ok (.ireturn, 1) := by decide +kernel
theorem dX11_ends_0 : decode cX11_ends 0 = .ok (.aload_n 0, 1) := by decide +kernel
theorem dX11_ends_1 : decode cX11_ends 1 = .ok (.iload_n 1, 1) := by decide +kernel
theorem dX11_ends_2 : decode cX11_ends 2 = .ok (.invokevirtual 116, 3) := by decide +kernel
theorem dX11_ends_5 : decode cX11_ends 5 = .ok (.ifCond .ne 5, 3) := by decide +kernel
theorem dX11_ends_8 : decode cX11_ends 8 = .ok (.iconst (-1), 1) := by decide +kernel
theorem dX11_ends_9 : decode cX11_ends 9 = .ok (.ireturn, 1) := by decide +kernel
theorem dX11_ends_10 : decode cX11_ends 10 = .ok (.aload_n 0, 1) := by decide +kernel
theorem dX11_ends_11 : decode cX11_ends 11 = .ok (.iconst 0, 1) := by decide +kernel
theorem dX11_ends_12 : decode cX11_ends 12 = .ok (.invokevirtual 164, 3) := by decide +kernel
theorem dX11_ends_15 : decode cX11_ends 15 = .ok (.pop, 1) := by decide +kernel
theorem dX11_ends_16 : decode cX11_ends 16 = .ok (.aload_n 0, 1) := by decide +kernel
theorem dX11_ends_17 : decode cX11_ends 17 = .ok (.getfield 74, 3) := by decide +kernel
theorem dX11_ends_20 : decode cX11_ends 20 = .ok (.getfield 170, 3) := by decide +kernel
theorem dX11_ends_23 : decode cX11_ends 23 = .ok (.iload_n 1, 1) := by decide +kernel
theorem dX11_ends_24 : decode cX11_ends 24 = .ok (.iaload, 1) := by decide +kernel
theorem dX11_ends_25 : decode cX11_ends 25 = .ok (.ireturn, 1) := by decide +kernel
theorem dX11_now_0 : decode cX11_now 0 = .ok (.iload_n 1, 1) := by decide +kernel
theorem dX11_now_1 : decode cX11_now 1 = .ok (.ifCond .lt 9, 3) := by decide +kernel
theorem dX11_now_4 : decode cX11_now 4 = .ok (.iload_n 1, 1) := by decide +kernel
theorem dX11_now_5 : decode cX11_now 5 = .ok (.bipush 60, 2) := by decide +kernel
theorem dX11_now_7 : decode cX11_now 7 = .ok (.if_icmp .lt 5, 3) := by decide +kernel
theorem dX11_now_10 : decode cX11_now 10 = .ok (.iconst (-1), 1) := by decide +kernel
theorem dX11_now_11 : decode cX11_now 11 = .ok (.ireturn, 1) := by decide +kernel
theorem dX11_now_12 : decode cX11_now 12 = .ok (.aload_n 0, 1) := by decide +kernel
theorem dX11_now_13 : decode cX11_now 13 = .ok (.iconst 0, 1) := by decide +kernel
theorem dX11_now_14 : decode cX11_now 14 = .ok (.invokevirtual 164, 3) := by decide +kernel
theorem dX11_now_17 : decode cX11_now 17 = .ok (.pop, 1) := by decide +kernel
theorem dX11_now_18 : decode cX11_now 18 = .ok (.iconst 0, 1) := by decide +kernel
theorem dX11_now_19 : decode cX11_now 19 = .ok (.istore_n 2, 1) := by decide +kernel
theorem dX11_now_20 : decode cX11_now 20 = .ok (.iload_n 2, 1) := by decide +kernel
theorem dX11_now_21 : decode cX11_now 21 = .ok (.aload_n 0, 1) := by decide +kernel
theorem dX11_now_22 : decode cX11_now 22 = .ok (.getfield 28, 3) := by decide +kernel
theorem dX11_now_25 : decode cX11_now 25 = .ok (.getfield 173, 3) := by decide +kernel
theorem dX11_now_28 : decode cX11_now 28 = .ok (.if_icmp .ge 56, 3) := by decide +kernel
theorem dX11_now_31 : decode cX11_now 31 = .ok (.iload_n 2, 1) := by decide +kernel
theorem dX11_now_32 : decode cX11_now 32 = .ok (.bipush 7, 2) := by decide +kernel
theorem dX11_now_34 : decode cX11_now 34 = .ok (.if_icmp .ge 50, 3) := by decide +kernel
theorem dX11_now_37 : decode cX11_now 37 = .ok (.aload_n 0, 1) := by decide +kernel
theorem dX11_now_38 : decode cX11_now 38 = .ok (.getfield 74, 3) := by decide +kernel
theorem dX11_now_41 : decode cX11_now 41 = .ok (.getfield 167, 3) := by decide +kernel
theorem dX11_now_44 : decode cX11_now 44 = .ok (.iload_n 2, 1) := by decide +kernel
theorem dX11_now_45 : decode cX11_now 45 = .ok (.iaload, 1) := by decide +kernel
theorem dX11_now_46 : decode cX11_now 46 = .ok (.iconst (-1), 1) := by decide +kernel
theorem dX11_now_47 : decode cX11_now 47 = .ok (.if_icmp .eq 31, 3) := by decide +kernel
theorem dX11_now_50 : decode cX11_now 50 = .ok (.aload_n 0, 1) := by decide +kernel
theorem dX11_now_51 : decode cX11_now 51 = .ok (.getfield 74, 3) := by decide +kernel
theorem dX11_now_54 : decode cX11_now 54 = .ok (.getfield 167, 3) := by decide +kernel
theorem dX11_now_57 : decode cX11_now 57 = .ok (.iload_n 2, 1) := by decide +kernel
theorem dX11_now_58 : decode cX11_now 58 = .ok (.iaload, 1) := by decide +kernel
theorem dX11_now_59 : decode cX11_now 59 = .ok (.iload_n 1, 1) := by decide +kernel
theorem dX11_now_60 : decode cX11_now 60 = .ok (.if_icmp .gt 18, 3) := by decide +kernel
theorem dX11_now_63 : decode cX11_now 63 = .ok (.iload_n 1, 1) := by decide +kernel
theorem dX11_now_64 : decode cX11_now 64 = .ok (.aload_n 0, 1) := by decide +kernel
theorem dX11_now_65 : decode cX11_now 65 = .ok (.getfield 74, 3) := by decide +kernel
theorem dX11_now_68 : decode cX11_now 68 = .ok (.getfield 170, 3) := by decide +kernel
theorem dX11_now_71 : decode cX11_now 71 = .ok (.iload_n 2, 1) := by decide +kernel
theorem dX11_now_72 : decode cX11_now 72 = .ok (.iaload, 1) := by decide +kernel
theorem dX11_now_73 : decode cX11_now 73 = .ok (.if_icmp .ge 5, 3) := by decide +kernel
theorem dX11_now_76 : decode cX11_now 76 = .ok (.iload_n 2, 1) := by decide +kernel
theorem dX11_now_77 : decode cX11_now 77 = .ok (.ireturn, 1) := by decide +kernel
theorem dX11_now_78 : decode cX11_now 78 = .ok (.iinc 2 1, 3) := by decide +kernel
theorem dX11_now_81 : decode cX11_now 81 = .ok (.goto (-61), 3) := by decide +kernel
theorem dX11_now_84 : decode cX11_now 84 = .ok (.iconst (-1), 1) := by decide +kernel
theorem dX11_now_85 : decode cX11_now 85 = .ok (.ireturn, 1) := by decide +kernel
theorem dX11_away_0 : decode cX11_away 0 = .ok (.aload_n 0, 1) := by decide +kernel
theorem dX11_away_1 : decode cX11_away 1 = .ok (.iconst 0, 1) := by decide +kernel
theorem dX11_away_2 : decode cX11_away 2 = .ok (.invokevirtual 164, 3) := by decide +kernel
theorem dX11_away_5 : decode cX11_away 5 = .ok (.pop, 1) := by decide +kernel
theorem dX11_away_6 : decode cX11_away 6 = .ok (.iconst 0, 1) := by decide +kernel
theorem dX11_away_7 : decode cX11_away 7 = .ok (.istore_n 1, 1) := by decide +kernel
theorem dX11_away_8 : decode cX11_away 8 = .ok (.iconst 0, 1) := by decide +kernel
theorem dX11_away_9 : decode cX11_away 9 = .ok (.istore_n 2, 1) := by decide +kernel
theorem dX11_away_10 : decode cX11_away 10 = .ok (.iload_n 2, 1) := by decide +kernel
theorem dX11_away_11 : decode cX11_away 11 = .ok (.aload_n 0, 1) := by decide +kernel
theorem dX11_away_12 : decode cX11_away 12 = .ok (.getfield 28, 3) := by decide +kernel
theorem dX11_away_15 : decode cX11_away 15 = .ok (.getfield 173, 3) := by decide +kernel
theorem dX11_away_18 : decode cX11_away 18 = .ok (.if_icmp .ge 34, 3) := by decide +kernel
theorem dX11_away_21 : decode cX11_away 21 = .ok (.iload_n 2, 1) := by decide +kernel
theorem dX11_away_22 : decode cX11_away 22 = .ok (.bipush 7, 2) := by decide +kernel
theorem dX11_away_24 : decode cX11_away 24 = .ok (.if_icmp .ge 28, 3) := by decide +kernel
theorem dX11_away_27 : decode cX11_away 27 = .ok (.aload_n 0, 1) := by decide +kernel
theorem dX11_away_28 : decode cX11_away 28 = .ok (.getfield 74, 3) := by decide +kernel
theorem dX11_away_31 : decode cX11_away 31 = .ok (.getfield 167, 3) := by decide +kernel
theorem dX11_away_34 : decode cX11_away 34 = .ok (.iload_n 2, 1) := by decide +kernel
theorem dX11_away_35 : decode cX11_away 35 = .ok (.iaload, 1) := by decide +kernel
theorem dX11_away_36 : decode cX11_away 36 = .ok (.iconst (-1), 1) := by decide +kernel
theorem dX11_away_37 : decode cX11_away 37 = .ok (.if_icmp .ne 9, 3) := by decide +kernel
theorem dX11_away_40 : decode cX11_away 40 = .ok (.iload_n 1, 1) := by decide +kernel
theorem dX11_away_41 : decode cX11_away 41 = .ok (.iconst 1, 1) := by decide +kernel
theorem dX11_away_42 : decode cX11_away 42 = .ok (.iload_n 2, 1) := by decide +kernel
theorem dX11_away_43 : decode cX11_away 43 = .ok (.ishl, 1) := by decide +kernel
theorem dX11_away_44 : decode cX11_away 44 = .ok (.ior, 1) := by decide +kernel
theorem dX11_away_45 : decode cX11_away 45 = .ok (.istore_n 1, 1) := by decide +kernel
theorem dX11_away_46 : decode cX11_away 46 = .ok (.iinc 2 1, 3) := by decide +kernel
theorem dX11_away_49 : decode cX11_away 49 = .ok (.goto (-39), 3) := by decide +kernel
theorem dX11_away_52 : decode cX11_away 52 = .ok (.iload_n 1, 1) := by decide +kernel
theorem dX11_away_53 : decode cX11_away 53 = .ok (.ireturn, 1) := by decide +kernel
theorem dX11_joy_0 : decode cX11_joy 0 = .ok (.aload_n 0, 1) := by decide +kernel
theorem dX11_joy_1 : decode cX11_joy 1 = .ok (.iconst 0, 1) := by decide +kernel
theorem dX11_joy_2 : decode cX11_joy 2 = .ok (.invokevirtual 164, 3) := by decide +kernel
theorem dX11_joy_5 : decode cX11_joy 5 = .ok (.ireturn, 1) := by decide +kernel
theorem dX11_day_0 : decode cX11_day 0 = .ok (.aload_n 0, 1) := by decide +kernel
theorem dX11_day_1 : decode cX11_day 1 = .ok (.invokevirtual 176, 3) := by decide +kernel
theorem dX11_day_4 : decode cX11_day 4 = .ok (.aload_n 0, 1) := by decide +kernel
theorem dX11_day_5 : decode cX11_day 5 = .ok (.getfield 74, 3) := by decide +kernel
theorem dX11_day_8 : decode cX11_day 8 = .ok (.aload_n 0, 1) := by decide +kernel
theorem dX11_day_9 : decode cX11_day 9 = .ok (.getfield 28, 3) := by decide +kernel
theorem dX11_day_12 : decode cX11_day 12 = .ok (.aload_n 0, 1) := by decide +kernel
theorem dX11_day_13 : decode cX11_day 13 = .ok (.getfield 38, 3) := by decide +kernel
theorem dX11_day_16 : decode cX11_day 16 = .ok (.getfield 138, 3) := by decide +kernel
theorem dX11_day_19 : decode cX11_day 19 = .ok (.invokevirtual 179, 3) := by decide +kernel
theorem dX11_day_22 : decode cX11_day 22 = .ok (.aload_n 0, 1) := by decide +kernel
theorem dX11_day_23 : decode cX11_day 23 = .ok (.getfield 74, 3) := by decide +kernel
theorem dX11_day_26 : decode cX11_day 26 = .ok (.aload_n 0, 1) := by decide +kernel
theorem dX11_day_27 : decode cX11_day 27 = .ok (.getfield 38, 3) := by decide +kernel
theorem dX11_day_30 : decode cX11_day 30 = .ok (.iconst 0, 1) := by decide +kernel
theorem dX11_day_31 : decode cX11_day 31 = .ok (.invokevirtual 183, 3) := by decide +kernel
theorem dX11_day_34 : decode cX11_day 34 = .ok (.aload_n 0, 1) := by decide +kernel
theorem dX11_day_35 : decode cX11_day 35 = .ok (.getfield 38, 3) := by decide +kernel
theorem dX11_day_38 : decode cX11_day 38 = .ok (.dup, 1) := by decide +kernel
theorem dX11_day_39 : decode cX11_day 39 = .ok (.getfield 187, 3) := by decide +kernel
theorem dX11_day_42 : decode cX11_day 42 = .ok (.iconst 1, 1) := by decide +kernel
theorem dX11_day_43 : decode cX11_day 43 = .ok (.iadd, 1) := by decide +kernel
theorem dX11_day_44 : decode cX11_day 44 = .ok (.putfield 187, 3) := by decide +kernel
theorem dX11_day_47 : decode cX11_day 47 = .ok (.aload_n 0, 1) := by decide +kernel
theorem dX11_day_48 : decode cX11_day 48 = .ok (.getfield 74, 3) := by decide +kernel
theorem dX11_day_51 : decode cX11_day 51 = .ok (.getfield 190, 3) := by decide +kernel
theorem dX11_day_54 : decode cX11_day 54 = .ok (.ireturn, 1) := by decide +kernel
theorem dX11_mend_0 : decode cX11_mend 0 = .ok (.aload_n 0, 1) := by decide +kernel
theorem dX11_mend_1 : decode cX11_mend 1 = .ok (.invokevirtual 176, 3) := by decide +kernel
theorem dX11_mend_4 : decode cX11_mend 4 = .ok (.aload_n 0, 1) := by decide +kernel
theorem dX11_mend_5 : decode cX11_mend 5 = .ok (.getfield 38, 3) := by decide +kernel
theorem dX11_mend_8 : decode cX11_mend 8 = .ok (.aload_n 0, 1) := by decide +kernel
theorem dX11_mend_9 : decode cX11_mend 9 = .ok (.getfield 28, 3) := by decide +kernel
theorem dX11_mend_12 : decode cX11_mend 12 = .ok (.getfield 193, 3) := by decide +kernel
theorem dX11_mend_15 : decode cX11_mend 15 = .ok (.invokevirtual 196, 3) := by decide +kernel
theorem dX11_mend_18 : decode cX11_mend 18 = .ok (.ireturn, 1) := by decide +kernel
theorem dX11_each_0 : decode cX11_each 0 = .ok (.iload_n 1, 1) := by decide +kernel
theorem dX11_each_1 : decode cX11_each 1 = .ok (.invokestatic 199, 3) := by decide +kernel
theorem dX11_each_4 : decode cX11_each 4 = .ok (.ifCond .ne 5, 3) := by decide +kernel
theorem dX11_each_7 : decode cX11_each 7 = .ok (.iconst 0, 1) := by decide +kernel
theorem dX11_each_8 : decode cX11_each 8 = .ok (.ireturn, 1) := by decide +kernel
theorem dX11_each_9 : decode cX11_each 9 = .ok (.aload_n 0, 1) := by decide +kernel
theorem dX11_each_10 : decode cX11_each 10 = .ok (.invokevirtual 176, 3) := by decide +kernel
theorem dX11_each_13 : decode cX11_each 13 = .ok (.aload_n 0, 1) := by decide +kernel
theorem dX11_each_14 : decode cX11_each 14 = .ok (.getfield 38, 3) := by decide +kernel
theorem dX11_each_17 : decode cX11_each 17 = .ok (.iload_n 1, 1) := by decide +kernel
theorem dX11_each_18 : decode cX11_each 18 = .ok (.putfield 138, 3) := by decide +kernel
theorem dX11_each_21 : decode cX11_each 21 = .ok (.iconst 1, 1) := by decide +kernel
theorem dX11_each_22 : decode cX11_each 22 = .ok (.ireturn, 1) := by decide +kernel
theorem dX11_open_0 : decode cX11_open 0 = .ok (.iload_n 1, 1) := by decide +kernel
theorem dX11_open_1 : decode cX11_open 1 = .ok (.ifCond .lt 20, 3) := by decide +kernel
theorem dX11_open_4 : decode cX11_open 4 = .ok (.iload_n 1, 1) := by decide +kernel
theorem dX11_open_5 : decode cX11_open 5 = .ok (.bipush 60, 2) := by decide +kernel
theorem dX11_open_7 : decode cX11_open 7 = .ok (.if_icmp .ge 14, 3) := by decide +kernel
theorem dX11_open_10 : decode cX11_open 10 = .ok (.iload_n 2, 1) := by decide +kernel
theorem dX11_open_11 : decode cX11_open 11 = .ok (.iload_n 1, 1) := by decide +kernel
theorem dX11_open_12 : decode cX11_open 12 = .ok (.if_icmp .le 9, 3) := by decide +kernel
theorem dX11_open_15 : decode cX11_open 15 = .ok (.iload_n 2, 1) := by decide +kernel
theorem dX11_open_16 : decode cX11_open 16 = .ok (.bipush 60, 2) := by decide +kernel
theorem dX11_open_18 : decode cX11_open 18 = .ok (.if_icmp .le 5, 3) := by decide +kernel
theorem dX11_open_21 : decode cX11_open 21 = .ok (.iconst 0, 1) := by decide +kernel
theorem dX11_open_22 : decode cX11_open 22 = .ok (.ireturn, 1) := by decide +kernel
theorem dX11_open_23 : decode cX11_open 23 = .ok (.aload_n 0, 1) := by decide +kernel
theorem dX11_open_24 : decode cX11_open 24 = .ok (.invokevirtual 176, 3) := by decide +kernel
theorem dX11_open_27 : decode cX11_open 27 = .ok (.aload_n 0, 1) := by decide +kernel
theorem dX11_open_28 : decode cX11_open 28 = .ok (.getfield 38, 3) := by decide +kernel
theorem dX11_open_31 : decode cX11_open 31 = .ok (.iload_n 1, 1) := by decide +kernel
theorem dX11_open_32 : decode cX11_open 32 = .ok (.putfield 202, 3) := by decide +kernel
theorem dX11_open_35 : decode cX11_open 35 = .ok (.aload_n 0, 1) := by decide +kernel
theorem dX11_open_36 : decode cX11_open 36 = .ok (.getfield 38, 3) := by decide +kernel
theorem dX11_open_39 : decode cX11_open 39 = .ok (.iload_n 2, 1) := by decide +kernel
theorem dX11_open_40 : decode cX11_open 40 = .ok (.putfield 205, 3) := by decide +kernel
theorem dX11_open_43 : decode cX11_open 43 = .ok (.iconst 1, 1) := by decide +kernel
theorem dX11_open_44 : decode cX11_open 44 = .ok (.ireturn, 1) := by decide +kernel
theorem dX11_undo_0 : decode cX11_undo 0 = .ok (.aload_n 0, 1) := by decide +kernel
theorem dX11_undo_1 : decode cX11_undo 1 = .ok (.getfield 208, 3) := by decide +kernel
theorem dX11_undo_4 : decode cX11_undo 4 = .ok (.ifCond .gt 5, 3) := by decide +kernel
theorem dX11_undo_7 : decode cX11_undo 7 = .ok (.iconst 0, 1) := by decide +kernel
theorem dX11_undo_8 : decode cX11_undo 8 = .ok (.ireturn, 1) := by decide +kernel
theorem dX11_undo_9 : decode cX11_undo 9 = .ok (.aload_n 0, 1) := by decide +kernel
theorem dX11_undo_10 : decode cX11_undo 10 = .ok (.aload_n 0, 1) := by decide +kernel
theorem dX11_undo_11 : decode cX11_undo 11 = .ok (.getfield 211, 3) := by decide +kernel
theorem dX11_undo_14 : decode cX11_undo 14 = .ok (.ifCond .le 21, 3) := by decide +kernel
theorem dX11_undo_17 : decode cX11_undo 17 = .ok (.aload_n 0, 1) := by decide +kernel
theorem dX11_undo_18 : decode cX11_undo 18 = .ok (.getfield 211, 3) := by decide +kernel
theorem dX11_undo_21 : decode cX11_undo 21 = .ok (.bipush 16, 2) := by decide +kernel
theorem dX11_undo_23 : decode cX11_undo 23 = .ok (.if_icmp .ge 12, 3) := by decide +kernel
theorem dX11_undo_26 : decode cX11_undo 26 = .ok (.aload_n 0, 1) := by decide +kernel
theorem dX11_undo_27 : decode cX11_undo 27 = .ok (.getfield 211, 3) := by decide +kernel
theorem dX11_undo_30 : decode cX11_undo 30 = .ok (.iconst 1, 1) := by decide +kernel
theorem dX11_undo_31 : decode cX11_undo 31 = .ok (.isub, 1) := by decide +kernel
theorem dX11_undo_32 : decode cX11_undo 32 = .ok (.goto 5, 3) := by decide +kernel
theorem dX11_undo_35 : decode cX11_undo 35 = .ok (.bipush 15, 2) := by decide +kernel
theorem dX11_undo_37 : decode cX11_undo 37 = .ok (.putfield 211, 3) := by decide +kernel
theorem dX11_undo_40 : decode cX11_undo 40 = .ok (.aload_n 0, 1) := by decide +kernel
theorem dX11_undo_41 : decode cX11_undo 41 = .ok (.dup, 1) := by decide +kernel
theorem dX11_undo_42 : decode cX11_undo 42 = .ok (.getfield 208, 3) := by decide +kernel
theorem dX11_undo_45 : decode cX11_undo 45 = .ok (.iconst 1, 1) := by decide +kernel
theorem dX11_undo_46 : decode cX11_undo 46 = .ok (.isub, 1) := by decide +kernel
theorem dX11_undo_47 : decode cX11_undo 47 = .ok (.putfield 208, 3) := by decide +kernel
theorem dX11_undo_50 : decode cX11_undo 50 = .ok (.aload_n 0, 1) := by decide +kernel
theorem dX11_undo_51 : decode cX11_undo 51 = .ok (.getfield 38, 3) := by decide +kernel
theorem dX11_undo_54 : decode cX11_undo 54 = .ok (.aload_n 0, 1) := by decide +kernel
theorem dX11_undo_55 : decode cX11_undo 55 = .ok (.getfield 85, 3) := by decide +kernel
theorem dX11_undo_58 : decode cX11_undo 58 = .ok (.aload_n 0, 1) := by decide +kernel
theorem dX11_undo_59 : decode cX11_undo 59 = .ok (.getfield 211, 3) := by decide +kernel
theorem dX11_undo_62 : decode cX11_undo 62 = .ok (.aaload, 1) := by decide +kernel
theorem dX11_undo_63 : decode cX11_undo 63 = .ok (.invokevirtual 214, 3) := by decide +kernel
theorem dX11_undo_66 : decode cX11_undo 66 = .ok (.iconst 1, 1) := by decide +kernel
theorem dX11_undo_67 : decode cX11_undo 67 = .ok (.ireturn, 1) := by decide +kernel
theorem dX11_judged_0 : decode cX11_judged 0 = .ok (.iload_n 1, 1) := by decide +kernel
theorem dX11_judged_1 : decode cX11_judged 1 = .ok (.ifCond .lt 8, 3) := by decide +kernel
theorem dX11_judged_4 : decode cX11_judged 4 = .ok (.iload_n 1, 1) := by decide +kernel
theorem dX11_judged_5 : decode cX11_judged 5 = .ok (.iconst 2, 1) := by decide +kernel
theorem dX11_judged_6 : decode cX11_judged 6 = .ok (.if_icmp .le 11, 3) := by decide +kernel
theorem dX11_judged_9 : decode cX11_judged 9 = .ok (.new 217, 3) := by decide +kernel
theorem dX11_judged_12 : decode cX11_judged 12 = .ok (.dup, 1) := by decide +kernel
theorem dX11_judged_13 : decode cX11_judged 13 = .ok (.invokespecial 219, 3) := by decide +kernel
theorem dX11_judged_16 : decode cX11_judged 16 = .ok (.athrow, 1) := by decide +kernel
theorem dX11_judged_17 : decode cX11_judged 17 = .ok (.aload_n 0, 1) := by decide +kernel
theorem dX11_judged_18 : decode cX11_judged 18 = .ok (.invokevirtual 220, 3) := by decide +kernel
theorem dX11_judged_21 : decode cX11_judged 21 = .ok (.aload_n 0, 1) := by decide +kernel
theorem dX11_judged_22 : decode cX11_judged 22 = .ok (.getfield 89, 3) := by decide +kernel
theorem dX11_judged_25 : decode cX11_judged 25 = .ok (.iload_n 1, 1) := by decide +kernel
theorem dX11_judged_26 : decode cX11_judged 26 = .ok (.iaload, 1) := by decide +kernel
theorem dX11_judged_27 : decode cX11_judged 27 = .ok (.ireturn, 1) := by decide +kernel
theorem dX11_best_0 : decode cX11_best 0 = .ok (.iload_n 1, 1) := by decide +kernel
theorem dX11_best_1 : decode cX11_best 1 = .ok (.ifCond .lt 8, 3) := by decide +kernel
theorem dX11_best_4 : decode cX11_best 4 = .ok (.iload_n 1, 1) := by decide +kernel
theorem dX11_best_5 : decode cX11_best 5 = .ok (.iconst 1, 1) := by decide +kernel
theorem dX11_best_6 : decode cX11_best 6 = .ok (.if_icmp .le 11, 3) := by decide +kernel
theorem dX11_best_9 : decode cX11_best 9 = .ok (.new 217, 3) := by decide +kernel
theorem dX11_best_12 : decode cX11_best 12 = .ok (.dup, 1) := by decide +kernel
theorem dX11_best_13 : decode cX11_best 13 = .ok (.invokespecial 219, 3) := by decide +kernel
theorem dX11_best_16 : decode cX11_best 16 = .ok (.athrow, 1) := by decide +kernel
theorem dX11_best_17 : decode cX11_best 17 = .ok (.aload_n 0, 1) := by decide +kernel
theorem dX11_best_18 : decode cX11_best 18 = .ok (.invokevirtual 223, 3) := by decide +kernel
theorem dX11_best_21 : decode cX11_best 21 = .ok (.aload_n 0, 1) := by decide +kernel
theorem dX11_best_22 : decode cX11_best 22 = .ok (.getfield 89, 3) := by decide +kernel
theorem dX11_best_25 : decode cX11_best 25 = .ok (.iload_n 1, 1) := by decide +kernel
theorem dX11_best_26 : decode cX11_best 26 = .ok (.iaload, 1) := by decide +kernel
theorem dX11_best_27 : decode cX11_best 27 = .ok (.ireturn, 1) := by decide +kernel
theorem dX11_hours_0 : decode cX11_hours 0 = .ok (.iload_n 1, 1) := by decide +kernel
theorem dX11_hours_1 : decode cX11_hours 1 = .ok (.iconst 1, 1) := by decide +kernel
theorem dX11_hours_2 : decode cX11_hours 2 = .ok (.if_icmp .lt 9, 3) := by decide +kernel
theorem dX11_hours_5 : decode cX11_hours 5 = .ok (.iload_n 1, 1) := by decide +kernel
theorem dX11_hours_6 : decode cX11_hours 6 = .ok (.bipush 60, 2) := by decide +kernel
theorem dX11_hours_8 : decode cX11_hours 8 = .ok (.if_icmp .le 5, 3) := by decide +kernel
theorem dX11_hours_11 : decode cX11_hours 11 = .ok (.iconst (-1), 1) := by decide +kernel
theorem dX11_hours_12 : decode cX11_hours 12 = .ok (.ireturn, 1) := by decide +kernel
theorem dX11_hours_13 : decode cX11_hours 13 = .ok (.aload_n 0, 1) := by decide +kernel
theorem dX11_hours_14 : decode cX11_hours 14 = .ok (.getfield 74, 3) := by decide +kernel
theorem dX11_hours_17 : decode cX11_hours 17 = .ok (.aload_n 0, 1) := by decide +kernel
theorem dX11_hours_18 : decode cX11_hours 18 = .ok (.getfield 28, 3) := by decide +kernel
theorem dX11_hours_21 : decode cX11_hours 21 = .ok (.aload_n 0, 1) := by decide +kernel
theorem dX11_hours_22 : decode cX11_hours 22 = .ok (.getfield 38, 3) := by decide +kernel
theorem dX11_hours_25 : decode cX11_hours 25 = .ok (.getfield 138, 3) := by decide +kernel
theorem dX11_hours_28 : decode cX11_hours 28 = .ok (.invokevirtual 179, 3) := by decide +kernel
theorem dX11_hours_31 : decode cX11_hours 31 = .ok (.iconst 0, 1) := by decide +kernel
theorem dX11_hours_32 : decode cX11_hours 32 = .ok (.istore_n 2, 1) := by decide +kernel
theorem dX11_hours_33 : decode cX11_hours 33 = .ok (.iconst (-1), 1) := by decide +kernel
theorem dX11_hours_34 : decode cX11_hours 34 = .ok (.istore_n 3, 1) := by decide +kernel
theorem dX11_hours_35 : decode cX11_hours 35 = .ok (.iconst 0, 1) := by decide +kernel
theorem dX11_hours_36 : decode cX11_hours 36 = .ok (.istore 4, 2) := by decide +kernel
theorem dX11_hours_38 : decode cX11_hours 38 = .ok (.iload 4, 2) := by decide +kernel
theorem dX11_hours_40 : decode cX11_hours 40 = .ok (.iload_n 1, 1) := by decide +kernel
theorem dX11_hours_41 : decode cX11_hours 41 = .ok (.iadd, 1) := by decide +kernel
theorem dX11_hours_42 : decode cX11_hours 42 = .ok (.bipush 60, 2) := by decide +kernel
theorem dX11_hours_44 : decode cX11_hours 44 = .ok (.if_icmp .gt 79, 3) := by decide +kernel
theorem dX11_hours_47 : decode cX11_hours 47 = .ok (.aload_n 0, 1) := by decide +kernel
theorem dX11_hours_48 : decode cX11_hours 48 = .ok (.getfield 42, 3) := by decide +kernel
theorem dX11_hours_51 : decode cX11_hours 51 = .ok (.aload_n 0, 1) := by decide +kernel
theorem dX11_hours_52 : decode cX11_hours 52 = .ok (.getfield 38, 3) := by decide +kernel
theorem dX11_hours_55 : decode cX11_hours 55 = .ok (.invokevirtual 214, 3) := by decide +kernel
theorem dX11_hours_58 : decode cX11_hours 58 = .ok (.aload_n 0, 1) := by decide +kernel
theorem dX11_hours_59 : decode cX11_hours 59 = .ok (.getfield 42, 3) := by decide +kernel
theorem dX11_hours_62 : decode cX11_hours 62 = .ok (.iload 4, 2) := by decide +kernel
theorem dX11_hours_64 : decode cX11_hours 64 = .ok (.putfield 202, 3) := by decide +kernel
theorem dX11_hours_67 : decode cX11_hours 67 = .ok (.aload_n 0, 1) := by decide +kernel
theorem dX11_hours_68 : decode cX11_hours 68 = .ok (.getfield 42, 3) := by decide +kernel
theorem dX11_hours_71 : decode cX11_hours 71 = .ok (.iload 4, 2) := by decide +kernel
theorem dX11_hours_73 : decode cX11_hours 73 = .ok (.iload_n 1, 1) := by decide +kernel
theorem dX11_hours_74 : decode cX11_hours 74 = .ok (.iadd, 1) := by decide +kernel
theorem dX11_hours_75 : decode cX11_hours 75 = .ok (.putfield 205, 3) := by decide +kernel
theorem dX11_hours_78 : decode cX11_hours 78 = .ok (.aload_n 0, 1) := by decide +kernel
theorem dX11_hours_79 : decode cX11_hours 79 = .ok (.getfield 74, 3) := by decide +kernel
theorem dX11_hours_82 : decode cX11_hours 82 = .ok (.aload_n 0, 1) := by decide +kernel
theorem dX11_hours_83 : decode cX11_hours 83 = .ok (.getfield 42, 3) := by decide +kernel
theorem dX11_hours_86 : decode cX11_hours 86 = .ok (.iconst 0, 1) := by decide +kernel
theorem dX11_hours_87 : decode cX11_hours 87 = .ok (.invokevirtual 183, 3) := by decide +kernel
theorem dX11_hours_90 : decode cX11_hours 90 = .ok (.iload_n 3, 1) := by decide +kernel
theorem dX11_hours_91 : decode cX11_hours 91 = .ok (.iconst (-1), 1) := by decide +kernel
theorem dX11_hours_92 : decode cX11_hours 92 = .ok (.if_icmp .eq 14, 3) := by decide +kernel
theorem dX11_hours_95 : decode cX11_hours 95 = .ok (.aload_n 0, 1) := by decide +kernel
theorem dX11_hours_96 : decode cX11_hours 96 = .ok (.getfield 74, 3) := by decide +kernel
theorem dX11_hours_99 : decode cX11_hours 99 = .ok (.getfield 190, 3) := by decide +kernel
theorem dX11_hours_102 : decode cX11_hours 102 = .ok (.iload_n 2, 1) := by decide +kernel
theorem dX11_hours_103 : decode cX11_hours 103 = .ok (.if_icmp .le 14, 3) := by decide +kernel
theorem dX11_hours_106 : decode cX11_hours 106 = .ok (.aload_n 0, 1) := by decide +kernel
theorem dX11_hours_107 : decode cX11_hours 107 = .ok (.getfield 74, 3) := by decide +kernel
theorem dX11_hours_110 : decode cX11_hours 110 = .ok (.getfield 190, 3) := by decide +kernel
theorem dX11_hours_113 : decode cX11_hours 113 = .ok (.istore_n 2, 1) := by decide +kernel
theorem dX11_hours_114 : decode cX11_hours 114 = .ok (.iload 4, 2) := by decide +kernel
theorem dX11_hours_116 : decode cX11_hours 116 = .ok (.istore_n 3, 1) := by decide +kernel
theorem dX11_hours_117 : decode cX11_hours 117 = .ok (.iinc 4 1, 3) := by decide +kernel
theorem dX11_hours_120 : decode cX11_hours 120 = .ok (.goto (-82), 3) := by decide +kernel
theorem dX11_hours_123 : decode cX11_hours 123 = .ok (.iload_n 3, 1) := by decide +kernel
theorem dX11_hours_124 : decode cX11_hours 124 = .ok (.ireturn, 1) := by decide +kernel
theorem dX11_when_0 : decode cX11_when 0 = .ok (.iload_n 1, 1) := by decide +kernel
theorem dX11_when_1 : decode cX11_when 1 = .ok (.iconst 1, 1) := by decide +kernel
theorem dX11_when_2 : decode cX11_when 2 = .ok (.if_icmp .lt 18, 3) := by decide +kernel
theorem dX11_when_5 : decode cX11_when 5 = .ok (.iload_n 1, 1) := by decide +kernel
theorem dX11_when_6 : decode cX11_when 6 = .ok (.bipush 9, 2) := by decide +kernel
theorem dX11_when_8 : decode cX11_when 8 = .ok (.if_icmp .gt 12, 3) := by decide +kernel
theorem dX11_when_11 : decode cX11_when 11 = .ok (.iload_n 2, 1) := by decide +kernel
theorem dX11_when_12 : decode cX11_when 12 = .ok (.ifCond .lt 8, 3) := by decide +kernel
theorem dX11_when_15 : decode cX11_when 15 = .ok (.iload_n 2, 1) := by decide +kernel
theorem dX11_when_16 : decode cX11_when 16 = .ok (.iconst 1, 1) := by decide +kernel
theorem dX11_when_17 : decode cX11_when 17 = .ok (.if_icmp .le 11, 3) := by decide +kernel
theorem dX11_when_20 : decode cX11_when 20 = .ok (.new 217, 3) := by decide +kernel
theorem dX11_when_23 : decode cX11_when 23 = .ok (.dup, 1) := by decide +kernel
theorem dX11_when_24 : decode cX11_when 24 = .ok (.invokespecial 219, 3) := by decide +kernel
theorem dX11_when_27 : decode cX11_when 27 = .ok (.athrow, 1) := by decide +kernel
theorem dX11_when_28 : decode cX11_when 28 = .ok (.aload_n 0, 1) := by decide +kernel
theorem dX11_when_29 : decode cX11_when 29 = .ok (.iload_n 1, 1) := by decide +kernel
theorem dX11_when_30 : decode cX11_when 30 = .ok (.invokevirtual 226, 3) := by decide +kernel
theorem dX11_when_33 : decode cX11_when 33 = .ok (.aload_n 0, 1) := by decide +kernel
theorem dX11_when_34 : decode cX11_when 34 = .ok (.getfield 89, 3) := by decide +kernel
theorem dX11_when_37 : decode cX11_when 37 = .ok (.iload_n 2, 1) := by decide +kernel
theorem dX11_when_38 : decode cX11_when 38 = .ok (.iaload, 1) := by decide +kernel
theorem dX11_when_39 : decode cX11_when 39 = .ok (.ireturn, 1) := by decide +kernel
theorem dX11_lasts_0 : decode cX11_lasts 0 = .ok (.iload_n 1, 1) := by decide +kernel
theorem dX11_lasts_1 : decode cX11_lasts 1 = .ok (.invokestatic 158, 3) := by decide +kernel
theorem dX11_lasts_4 : decode cX11_lasts 4 = .ok (.ifCond .ne 5, 3) := by decide +kernel
theorem dX11_lasts_7 : decode cX11_lasts 7 = .ok (.iconst (-1), 1) := by decide +kernel
theorem dX11_lasts_8 : decode cX11_lasts 8 = .ok (.ireturn, 1) := by decide +kernel
theorem dX11_lasts_9 : decode cX11_lasts 9 = .ok (.aload_n 0, 1) := by decide +kernel
theorem dX11_lasts_10 : decode cX11_lasts 10 = .ok (.getfield 42, 3) := by decide +kernel
theorem dX11_lasts_13 : decode cX11_lasts 13 = .ok (.aload_n 0, 1) := by decide +kernel
theorem dX11_lasts_14 : decode cX11_lasts 14 = .ok (.getfield 38, 3) := by decide +kernel
theorem dX11_lasts_17 : decode cX11_lasts 17 = .ok (.invokevirtual 214, 3) := by decide +kernel
theorem dX11_lasts_20 : decode cX11_lasts 20 = .ok (.aload_n 0, 1) := by decide +kernel
theorem dX11_lasts_21 : decode cX11_lasts 21 = .ok (.getfield 74, 3) := by decide +kernel
theorem dX11_lasts_24 : decode cX11_lasts 24 = .ok (.aload_n 0, 1) := by decide +kernel
theorem dX11_lasts_25 : decode cX11_lasts 25 = .ok (.getfield 28, 3) := by decide +kernel
theorem dX11_lasts_28 : decode cX11_lasts 28 = .ok (.aload_n 0, 1) := by decide +kernel
theorem dX11_lasts_29 : decode cX11_lasts 29 = .ok (.getfield 42, 3) := by decide +kernel
theorem dX11_lasts_32 : decode cX11_lasts 32 = .ok (.getfield 138, 3) := by decide +kernel
theorem dX11_lasts_35 : decode cX11_lasts 35 = .ok (.invokevirtual 179, 3) := by decide +kernel
theorem dX11_lasts_38 : decode cX11_lasts 38 = .ok (.iconst 0, 1) := by decide +kernel
theorem dX11_lasts_39 : decode cX11_lasts 39 = .ok (.istore_n 2, 1) := by decide +kernel
theorem dX11_lasts_40 : decode cX11_lasts 40 = .ok (.iload_n 2, 1) := by decide +kernel
theorem dX11_lasts_41 : decode cX11_lasts 41 = .ok (.bipush 60, 2) := by decide +kernel
theorem dX11_lasts_43 : decode cX11_lasts 43 = .ok (.if_icmp .gt 37, 3) := by decide +kernel
theorem dX11_lasts_46 : decode cX11_lasts 46 = .ok (.aload_n 0, 1) := by decide +kernel
theorem dX11_lasts_47 : decode cX11_lasts 47 = .ok (.getfield 42, 3) := by decide +kernel
theorem dX11_lasts_50 : decode cX11_lasts 50 = .ok (.getfield 161, 3) := by decide +kernel
theorem dX11_lasts_53 : decode cX11_lasts 53 = .ok (.iload_n 1, 1) := by decide +kernel
theorem dX11_lasts_54 : decode cX11_lasts 54 = .ok (.iaload, 1) := by decide +kernel
theorem dX11_lasts_55 : decode cX11_lasts 55 = .ok (.bipush 9, 2) := by decide +kernel
theorem dX11_lasts_57 : decode cX11_lasts 57 = .ok (.if_icmp .lt 5, 3) := by decide +kernel
theorem dX11_lasts_60 : decode cX11_lasts 60 = .ok (.iload_n 2, 1) := by decide +kernel
theorem dX11_lasts_61 : decode cX11_lasts 61 = .ok (.ireturn, 1) := by decide +kernel
theorem dX11_lasts_62 : decode cX11_lasts 62 = .ok (.aload_n 0, 1) := by decide +kernel
theorem dX11_lasts_63 : decode cX11_lasts 63 = .ok (.getfield 74, 3) := by decide +kernel
theorem dX11_lasts_66 : decode cX11_lasts 66 = .ok (.aload_n 0, 1) := by decide +kernel
theorem dX11_lasts_67 : decode cX11_lasts 67 = .ok (.getfield 42, 3) := by decide +kernel
theorem dX11_lasts_70 : decode cX11_lasts 70 = .ok (.iconst 0, 1) := by decide +kernel
theorem dX11_lasts_71 : decode cX11_lasts 71 = .ok (.invokevirtual 183, 3) := by decide +kernel
theorem dX11_lasts_74 : decode cX11_lasts 74 = .ok (.iinc 2 1, 3) := by decide +kernel
theorem dX11_lasts_77 : decode cX11_lasts 77 = .ok (.goto (-37), 3) := by decide +kernel
theorem dX11_lasts_80 : decode cX11_lasts 80 = .ok (.iconst (-1), 1) := by decide +kernel
theorem dX11_lasts_81 : decode cX11_lasts 81 = .ok (.ireturn, 1) := by decide +kernel
theorem dX11_without_0 : decode cX11_without 0 = .ok (.aload_n 0, 1) := by decide +kernel
theorem dX11_without_1 : decode cX11_without 1 = .ok (.iload_n 1, 1) := by decide +kernel
theorem dX11_without_2 : decode cX11_without 2 = .ok (.invokevirtual 116, 3) := by decide +kernel
theorem dX11_without_5 : decode cX11_without 5 = .ok (.ifCond .ne 11, 3) := by decide +kernel
theorem dX11_without_8 : decode cX11_without 8 = .ok (.new 217, 3) := by decide +kernel
theorem dX11_without_11 : decode cX11_without 11 = .ok (.dup, 1) := by decide +kernel
theorem dX11_without_12 : decode cX11_without 12 = .ok (.invokespecial 219, 3) := by decide +kernel
theorem dX11_without_15 : decode cX11_without 15 = .ok (.athrow, 1) := by decide +kernel
theorem dX11_without_16 : decode cX11_without 16 = .ok (.aload_n 0, 1) := by decide +kernel
theorem dX11_without_17 : decode cX11_without 17 = .ok (.iconst 0, 1) := by decide +kernel
theorem dX11_without_18 : decode cX11_without 18 = .ok (.invokevirtual 164, 3) := by decide +kernel
theorem dX11_without_21 : decode cX11_without 21 = .ok (.istore_n 2, 1) := by decide +kernel
theorem dX11_without_22 : decode cX11_without 22 = .ok (.aload_n 0, 1) := by decide +kernel
theorem dX11_without_23 : decode cX11_without 23 = .ok (.iconst 1, 1) := by decide +kernel
theorem dX11_without_24 : decode cX11_without 24 = .ok (.iload_n 1, 1) := by decide +kernel
theorem dX11_without_25 : decode cX11_without 25 = .ok (.ishl, 1) := by decide +kernel
theorem dX11_without_26 : decode cX11_without 26 = .ok (.invokevirtual 164, 3) := by decide +kernel
theorem dX11_without_29 : decode cX11_without 29 = .ok (.iload_n 2, 1) := by decide +kernel
theorem dX11_without_30 : decode cX11_without 30 = .ok (.isub, 1) := by decide +kernel
theorem dX11_without_31 : decode cX11_without 31 = .ok (.ireturn, 1) := by decide +kernel
theorem dX11_rarer_0 : decode cX11_rarer 0 = .ok (.iload_n 1, 1) := by decide +kernel
theorem dX11_rarer_1 : decode cX11_rarer 1 = .ok (.sipush (-9999), 3) := by decide +kernel
theorem dX11_rarer_4 : decode cX11_rarer 4 = .ok (.if_icmp .lt 10, 3) := by decide +kernel
theorem dX11_rarer_7 : decode cX11_rarer 7 = .ok (.iload_n 1, 1) := by decide +kernel
theorem dX11_rarer_8 : decode cX11_rarer 8 = .ok (.sipush 9999, 3) := by decide +kernel
theorem dX11_rarer_11 : decode cX11_rarer 11 = .ok (.if_icmp .le 5, 3) := by decide +kernel
theorem dX11_rarer_14 : decode cX11_rarer 14 = .ok (.iconst (-1), 1) := by decide +kernel
theorem dX11_rarer_15 : decode cX11_rarer 15 = .ok (.ireturn, 1) := by decide +kernel
theorem dX11_rarer_16 : decode cX11_rarer 16 = .ok (.aload_n 0, 1) := by decide +kernel
theorem dX11_rarer_17 : decode cX11_rarer 17 = .ok (.getfield 74, 3) := by decide +kernel
theorem dX11_rarer_20 : decode cX11_rarer 20 = .ok (.aload_n 0, 1) := by decide +kernel
theorem dX11_rarer_21 : decode cX11_rarer 21 = .ok (.getfield 28, 3) := by decide +kernel
theorem dX11_rarer_24 : decode cX11_rarer 24 = .ok (.aload_n 0, 1) := by decide +kernel
theorem dX11_rarer_25 : decode cX11_rarer 25 = .ok (.getfield 38, 3) := by decide +kernel
theorem dX11_rarer_28 : decode cX11_rarer 28 = .ok (.getfield 138, 3) := by decide +kernel
theorem dX11_rarer_31 : decode cX11_rarer 31 = .ok (.invokevirtual 179, 3) := by decide +kernel
theorem dX11_rarer_34 : decode cX11_rarer 34 = .ok (.iconst 1, 1) := by decide +kernel
theorem dX11_rarer_35 : decode cX11_rarer 35 = .ok (.iconst 0, 1) := by decide +kernel
theorem dX11_rarer_36 : decode cX11_rarer 36 = .ok (.bipush 7, 2) := by decide +kernel
theorem dX11_rarer_38 : decode cX11_rarer 38 = .ok (.aload_n 0, 1) := by decide +kernel
theorem dX11_rarer_39 : decode cX11_rarer 39 = .ok (.getfield 28, 3) := by decide +kernel
theorem dX11_rarer_42 : decode cX11_rarer 42 = .ok (.getfield 173, 3) := by decide +kernel
theorem dX11_rarer_45 : decode cX11_rarer 45 = .ok (.invokestatic 230, 3) := by decide +kernel
theorem dX11_rarer_48 : decode cX11_rarer 48 = .ok (.invokestatic 236, 3) := by decide +kernel
theorem dX11_rarer_51 : decode cX11_rarer 51 = .ok (.ishl, 1) := by decide +kernel
theorem dX11_rarer_52 : decode cX11_rarer 52 = .ok (.istore_n 2, 1) := by decide +kernel
theorem dX11_rarer_53 : decode cX11_rarer 53 = .ok (.iconst (-1), 1) := by decide +kernel
theorem dX11_rarer_54 : decode cX11_rarer 54 = .ok (.istore_n 3, 1) := by decide +kernel
theorem dX11_rarer_55 : decode cX11_rarer 55 = .ok (.iconst 0, 1) := by decide +kernel
theorem dX11_rarer_56 : decode cX11_rarer 56 = .ok (.istore 4, 2) := by decide +kernel
theorem dX11_rarer_58 : decode cX11_rarer 58 = .ok (.iload 4, 2) := by decide +kernel
theorem dX11_rarer_60 : decode cX11_rarer 60 = .ok (.iload_n 2, 1) := by decide +kernel
theorem dX11_rarer_61 : decode cX11_rarer 61 = .ok (.if_icmp .ge 67, 3) := by decide +kernel
theorem dX11_rarer_64 : decode cX11_rarer 64 = .ok (.iload_n 3, 1) := by decide +kernel
theorem dX11_rarer_65 : decode cX11_rarer 65 = .ok (.iconst (-1), 1) := by decide +kernel
theorem dX11_rarer_66 : decode cX11_rarer 66 = .ok (.if_icmp .eq 18, 3) := by decide +kernel
theorem dX11_rarer_69 : decode cX11_rarer 69 = .ok (.iload 4, 2) := by decide +kernel
theorem dX11_rarer_71 : decode cX11_rarer 71 = .ok (.invokestatic 239, 3) := by decide +kernel
theorem dX11_rarer_74 : decode cX11_rarer 74 = .ok (.iload_n 3, 1) := by decide +kernel
theorem dX11_rarer_75 : decode cX11_rarer 75 = .ok (.invokestatic 239, 3) := by decide +kernel
theorem dX11_rarer_78 : decode cX11_rarer 78 = .ok (.if_icmp .lt 6, 3) := by decide +kernel
theorem dX11_rarer_81 : decode cX11_rarer 81 = .ok (.goto 41, 3) := by decide +kernel
theorem dX11_rarer_84 : decode cX11_rarer 84 = .ok (.aload_n 0, 1) := by decide +kernel
theorem dX11_rarer_85 : decode cX11_rarer 85 = .ok (.getfield 42, 3) := by decide +kernel
theorem dX11_rarer_88 : decode cX11_rarer 88 = .ok (.aload_n 0, 1) := by decide +kernel
theorem dX11_rarer_89 : decode cX11_rarer 89 = .ok (.getfield 38, 3) := by decide +kernel
theorem dX11_rarer_92 : decode cX11_rarer 92 = .ok (.invokevirtual 214, 3) := by decide +kernel
theorem dX11_rarer_95 : decode cX11_rarer 95 = .ok (.aload_n 0, 1) := by decide +kernel
theorem dX11_rarer_96 : decode cX11_rarer 96 = .ok (.getfield 74, 3) := by decide +kernel
theorem dX11_rarer_99 : decode cX11_rarer 99 = .ok (.aload_n 0, 1) := by decide +kernel
theorem dX11_rarer_100 : decode cX11_rarer 100 = .ok (.getfield 42, 3) := by decide +kernel
theorem dX11_rarer_103 : decode cX11_rarer 103 = .ok (.iload 4, 2) := by decide +kernel
theorem dX11_rarer_105 : decode cX11_rarer 105 = .ok (.invokevirtual 183, 3) := by decide +kernel
theorem dX11_rarer_108 : decode cX11_rarer 108 = .ok (.aload_n 0, 1) := by decide +kernel
theorem dX11_rarer_109 : decode cX11_rarer 109 = .ok (.getfield 74, 3) := by decide +kernel
theorem dX11_rarer_112 : decode cX11_rarer 112 = .ok (.getfield 190, 3) := by decide +kernel
theorem dX11_rarer_115 : decode cX11_rarer 115 = .ok (.iload_n 1, 1) := by decide +kernel
theorem dX11_rarer_116 : decode cX11_rarer 116 = .ok (.if_icmp .lt 6, 3) := by decide +kernel
theorem dX11_rarer_119 : decode cX11_rarer 119 = .ok (.iload 4, 2) := by decide +kernel
theorem dX11_rarer_121 : decode cX11_rarer 121 = .ok (.istore_n 3, 1) := by decide +kernel
theorem dX11_rarer_122 : decode cX11_rarer 122 = .ok (.iinc 4 1, 3) := by decide +kernel
theorem dX11_rarer_125 : decode cX11_rarer 125 = .ok (.goto (-67), 3) := by decide +kernel
theorem dX11_rarer_128 : decode cX11_rarer 128 = .ok (.iload_n 3, 1) := by decide +kernel
theorem dX11_rarer_129 : decode cX11_rarer 129 = .ok (.ireturn, 1) := by decide +kernel
theorem dX11_dare_0 : decode cX11_dare 0 = .ok (.iload_n 1, 1) := by decide +kernel
theorem dX11_dare_1 : decode cX11_dare 1 = .ok (.ifCond .lt 9, 3) := by decide +kernel
theorem dX11_dare_4 : decode cX11_dare 4 = .ok (.iload_n 1, 1) := by decide +kernel
theorem dX11_dare_5 : decode cX11_dare 5 = .ok (.bipush 9, 2) := by decide +kernel
theorem dX11_dare_7 : decode cX11_dare 7 = .ok (.if_icmp .le 5, 3) := by decide +kernel
theorem dX11_dare_10 : decode cX11_dare 10 = .ok (.iconst (-1), 1) := by decide +kernel
theorem dX11_dare_11 : decode cX11_dare 11 = .ok (.ireturn, 1) := by decide +kernel
theorem dX11_dare_12 : decode cX11_dare 12 = .ok (.iconst 0, 1) := by decide +kernel
theorem dX11_dare_13 : decode cX11_dare 13 = .ok (.istore_n 2, 1) := by decide +kernel
theorem dX11_dare_14 : decode cX11_dare 14 = .ok (.iconst 0, 1) := by decide +kernel
theorem dX11_dare_15 : decode cX11_dare 15 = .ok (.istore_n 3, 1) := by decide +kernel
theorem dX11_dare_16 : decode cX11_dare 16 = .ok (.iload_n 3, 1) := by decide +kernel
theorem dX11_dare_17 : decode cX11_dare 17 = .ok (.aload_n 0, 1) := by decide +kernel
theorem dX11_dare_18 : decode cX11_dare 18 = .ok (.getfield 28, 3) := by decide +kernel
theorem dX11_dare_21 : decode cX11_dare 21 = .ok (.getfield 173, 3) := by decide +kernel
theorem dX11_dare_24 : decode cX11_dare 24 = .ok (.if_icmp .ge 37, 3) := by decide +kernel
theorem dX11_dare_27 : decode cX11_dare 27 = .ok (.iload_n 3, 1) := by decide +kernel
theorem dX11_dare_28 : decode cX11_dare 28 = .ok (.bipush 7, 2) := by decide +kernel
theorem dX11_dare_30 : decode cX11_dare 30 = .ok (.if_icmp .ge 31, 3) := by decide +kernel
theorem dX11_dare_33 : decode cX11_dare 33 = .ok (.aload_n 0, 1) := by decide +kernel
theorem dX11_dare_34 : decode cX11_dare 34 = .ok (.getfield 28, 3) := by decide +kernel
theorem dX11_dare_37 : decode cX11_dare 37 = .ok (.getfield 120, 3) := by decide +kernel
theorem dX11_dare_40 : decode cX11_dare 40 = .ok (.iload_n 3, 1) := by decide +kernel
theorem dX11_dare_41 : decode cX11_dare 41 = .ok (.aaload, 1) := by decide +kernel
theorem dX11_dare_42 : decode cX11_dare 42 = .ok (.iload_n 1, 1) := by decide +kernel
theorem dX11_dare_43 : decode cX11_dare 43 = .ok (.invokevirtual 244, 3) := by decide +kernel
theorem dX11_dare_46 : decode cX11_dare 46 = .ok (.ifCond .eq 9, 3) := by decide +kernel
theorem dX11_dare_49 : decode cX11_dare 49 = .ok (.iload_n 2, 1) := by decide +kernel
theorem dX11_dare_50 : decode cX11_dare 50 = .ok (.iconst 1, 1) := by decide +kernel
theorem dX11_dare_51 : decode cX11_dare 51 = .ok (.iload_n 3, 1) := by decide +kernel
theorem dX11_dare_52 : decode cX11_dare 52 = .ok (.ishl, 1) := by decide +kernel
theorem dX11_dare_53 : decode cX11_dare 53 = .ok (.ior, 1) := by decide +kernel
theorem dX11_dare_54 : decode cX11_dare 54 = .ok (.istore_n 2, 1) := by decide +kernel
theorem dX11_dare_55 : decode cX11_dare 55 = .ok (.iinc 3 1, 3) := by decide +kernel
theorem dX11_dare_58 : decode cX11_dare 58 = .ok (.goto (-42), 3) := by decide +kernel
theorem dX11_dare_61 : decode cX11_dare 61 = .ok (.iload_n 2, 1) := by decide +kernel
theorem dX11_dare_62 : decode cX11_dare 62 = .ok (.ireturn, 1) := by decide +kernel
theorem dX11_strikes_0 : decode cX11_strikes 0 = .ok (.aload_n 0, 1) := by decide +kernel
theorem dX11_strikes_1 : decode cX11_strikes 1 = .ok (.iload_n 1, 1) := by decide +kernel
theorem dX11_strikes_2 : decode cX11_strikes 2 = .ok (.invokevirtual 116, 3) := by decide +kernel
theorem dX11_strikes_5 : decode cX11_strikes 5 = .ok (.ifCond .eq 10, 3) := by decide +kernel
theorem dX11_strikes_8 : decode cX11_strikes 8 = .ok (.iload_n 2, 1) := by decide +kernel
theorem dX11_strikes_9 : decode cX11_strikes 9 = .ok (.invokestatic 158, 3) := by decide +kernel
theorem dX11_strikes_12 : decode cX11_strikes 12 = .ok (.ifCond .ne 5, 3) := by decide +kernel
theorem dX11_strikes_15 : decode cX11_strikes 15 = .ok (.iconst (-1), 1) := by decide +kernel
theorem dX11_strikes_16 : decode cX11_strikes 16 = .ok (.ireturn, 1) := by decide +kernel
theorem dX11_strikes_17 : decode cX11_strikes 17 = .ok (.aload_n 0, 1) := by decide +kernel
theorem dX11_strikes_18 : decode cX11_strikes 18 = .ok (.getfield 28, 3) := by decide +kernel
theorem dX11_strikes_21 : decode cX11_strikes 21 = .ok (.getfield 120, 3) := by decide +kernel
theorem dX11_strikes_24 : decode cX11_strikes 24 = .ok (.iload_n 1, 1) := by decide +kernel
theorem dX11_strikes_25 : decode cX11_strikes 25 = .ok (.aaload, 1) := by decide +kernel
theorem dX11_strikes_26 : decode cX11_strikes 26 = .ok (.iload_n 2, 1) := by decide +kernel
theorem dX11_strikes_27 : decode cX11_strikes 27 = .ok (.invokevirtual 247, 3) := by decide +kernel
theorem dX11_strikes_30 : decode cX11_strikes 30 = .ok (.ireturn, 1) := by decide +kernel
theorem dX11_find_0 : decode cX11_find 0 = .ok (.iload_n 1, 1) := by decide +kernel
theorem dX11_find_1 : decode cX11_find 1 = .ok (.invokestatic 158, 3) := by decide +kernel
theorem dX11_find_4 : decode cX11_find 4 = .ok (.ifCond .eq 29, 3) := by decide +kernel
theorem dX11_find_7 : decode cX11_find 7 = .ok (.iload_n 2, 1) := by decide +kernel
theorem dX11_find_8 : decode cX11_find 8 = .ok (.ifCond .lt 25, 3) := by decide +kernel
theorem dX11_find_11 : decode cX11_find 11 = .ok (.iload_n 2, 1) := by decide +kernel
theorem dX11_find_12 : decode cX11_find 12 = .ok (.bipush 9, 2) := by decide +kernel
theorem dX11_find_14 : decode cX11_find 14 = .ok (.if_icmp .gt 19, 3) := by decide +kernel
theorem dX11_find_17 : decode cX11_find 17 = .ok (.aload_n 0, 1) := by decide +kernel
theorem dX11_find_18 : decode cX11_find 18 = .ok (.getfield 58, 3) := by decide +kernel
theorem dX11_find_21 : decode cX11_find 21 = .ok (.iload_n 1, 1) := by decide +kernel
theorem dX11_find_22 : decode cX11_find 22 = .ok (.iload_n 2, 1) := by decide +kernel
theorem dX11_find_23 : decode cX11_find 23 = .ok (.invokevirtual 250, 3) := by decide +kernel
theorem dX11_find_26 : decode cX11_find 26 = .ok (.ifCond .eq 7, 3) := by decide +kernel
theorem dX11_find_29 : decode cX11_find 29 = .ok (.iconst 1, 1) := by decide +kernel
theorem dX11_find_30 : decode cX11_find 30 = .ok (.goto 4, 3) := by decide +kernel
theorem dX11_find_33 : decode cX11_find 33 = .ok (.iconst 0, 1) := by decide +kernel
theorem dX11_find_34 : decode cX11_find 34 = .ok (.ireturn, 1) := by decide +kernel
theorem dX11_sets_0 : decode cX11_sets 0 = .ok (.iload_n 1, 1) := by decide +kernel
theorem dX11_sets_1 : decode cX11_sets 1 = .ok (.ifCond .lt 8, 3) := by decide +kernel
theorem dX11_sets_4 : decode cX11_sets 4 = .ok (.iload_n 1, 1) := by decide +kernel
theorem dX11_sets_5 : decode cX11_sets 5 = .ok (.iconst 2, 1) := by decide +kernel
theorem dX11_sets_6 : decode cX11_sets 6 = .ok (.if_icmp .le 5, 3) := by decide +kernel
theorem dX11_sets_9 : decode cX11_sets 9 = .ok (.iconst (-1), 1) := by decide +kernel
theorem dX11_sets_10 : decode cX11_sets 10 = .ok (.ireturn, 1) := by decide +kernel
theorem dX11_sets_11 : decode cX11_sets 11 = .ok (.aload_n 0, 1) := by decide +kernel
theorem dX11_sets_12 : decode cX11_sets 12 = .ok (.getfield 74, 3) := by decide +kernel
theorem dX11_sets_15 : decode cX11_sets 15 = .ok (.aload_n 0, 1) := by decide +kernel
theorem dX11_sets_16 : decode cX11_sets 16 = .ok (.getfield 28, 3) := by decide +kernel
theorem dX11_sets_19 : decode cX11_sets 19 = .ok (.aload_n 0, 1) := by decide +kernel
theorem dX11_sets_20 : decode cX11_sets 20 = .ok (.getfield 38, 3) := by decide +kernel
theorem dX11_sets_23 : decode cX11_sets 23 = .ok (.getfield 138, 3) := by decide +kernel
theorem dX11_sets_26 : decode cX11_sets 26 = .ok (.invokevirtual 179, 3) := by decide +kernel
theorem dX11_sets_29 : decode cX11_sets 29 = .ok (.aload_n 0, 1) := by decide +kernel
theorem dX11_sets_30 : decode cX11_sets 30 = .ok (.getfield 65, 3) := by decide +kernel
theorem dX11_sets_33 : decode cX11_sets 33 = .ok (.aload_n 0, 1) := by decide +kernel
theorem dX11_sets_34 : decode cX11_sets 34 = .ok (.getfield 28, 3) := by decide +kernel
theorem dX11_sets_37 : decode cX11_sets 37 = .ok (.aload_n 0, 1) := by decide +kernel
theorem dX11_sets_38 : decode cX11_sets 38 = .ok (.getfield 74, 3) := by decide +kernel
theorem dX11_sets_41 : decode cX11_sets 41 = .ok (.aload_n 0, 1) := by decide +kernel
theorem dX11_sets_42 : decode cX11_sets 42 = .ok (.getfield 58, 3) := by decide +kernel
theorem dX11_sets_45 : decode cX11_sets 45 = .ok (.invokevirtual 254, 3) := by decide +kernel
theorem dX11_sets_48 : decode cX11_sets 48 = .ok (.iload_n 1, 1) := by decide +kernel
theorem dX11_sets_49 : decode cX11_sets 49 = .ok (.ifCond .ne 11, 3) := by decide +kernel
theorem dX11_sets_52 : decode cX11_sets 52 = .ok (.aload_n 0, 1) := by decide +kernel
theorem dX11_sets_53 : decode cX11_sets 53 = .ok (.getfield 65, 3) := by decide +kernel
theorem dX11_sets_56 : decode cX11_sets 56 = .ok (.getfield 258, 3) := by decide +kernel
theorem dX11_sets_59 : decode cX11_sets 59 = .ok (.ireturn, 1) := by decide +kernel
theorem dX11_sets_60 : decode cX11_sets 60 = .ok (.aload_n 0, 1) := by decide +kernel
theorem dX11_sets_61 : decode cX11_sets 61 = .ok (.getfield 65, 3) := by decide +kernel
theorem dX11_sets_64 : decode cX11_sets 64 = .ok (.getfield 258, 3) := by decide +kernel
theorem dX11_sets_67 : decode cX11_sets 67 = .ok (.ifCond .ne 5, 3) := by decide +kernel
theorem dX11_sets_70 : decode cX11_sets 70 = .ok (.iconst (-1), 1) := by decide +kernel
theorem dX11_sets_71 : decode cX11_sets 71 = .ok (.ireturn, 1) := by decide +kernel
theorem dX11_sets_72 : decode cX11_sets 72 = .ok (.iload_n 1, 1) := by decide +kernel
theorem dX11_sets_73 : decode cX11_sets 73 = .ok (.iconst 1, 1) := by decide +kernel
theorem dX11_sets_74 : decode cX11_sets 74 = .ok (.if_icmp .ne 13, 3) := by decide +kernel
theorem dX11_sets_77 : decode cX11_sets 77 = .ok (.aload_n 0, 1) := by decide +kernel
theorem dX11_sets_78 : decode cX11_sets 78 = .ok (.getfield 65, 3) := by decide +kernel
theorem dX11_sets_81 : decode cX11_sets 81 = .ok (.getfield 261, 3) := by decide +kernel
theorem dX11_sets_84 : decode cX11_sets 84 = .ok (.goto 10, 3) := by decide +kernel
theorem dX11_sets_87 : decode cX11_sets 87 = .ok (.aload_n 0, 1) := by decide +kernel
theorem dX11_sets_88 : decode cX11_sets 88 = .ok (.getfield 65, 3) := by decide +kernel
theorem dX11_sets_91 : decode cX11_sets 91 = .ok (.getfield 264, 3) := by decide +kernel
theorem dX11_sets_94 : decode cX11_sets 94 = .ok (.ireturn, 1) := by decide +kernel
theorem dX11_look_0 : decode cX11_look 0 = .ok (.aload_n 0, 1) := by decide +kernel
theorem dX11_look_1 : decode cX11_look 1 = .ok (.getfield 74, 3) := by decide +kernel
theorem dX11_look_4 : decode cX11_look 4 = .ok (.aload_n 0, 1) := by decide +kernel
theorem dX11_look_5 : decode cX11_look 5 = .ok (.getfield 28, 3) := by decide +kernel
theorem dX11_look_8 : decode cX11_look 8 = .ok (.aload_n 0, 1) := by decide +kernel
theorem dX11_look_9 : decode cX11_look 9 = .ok (.getfield 38, 3) := by decide +kernel
theorem dX11_look_12 : decode cX11_look 12 = .ok (.getfield 138, 3) := by decide +kernel
theorem dX11_look_15 : decode cX11_look 15 = .ok (.invokevirtual 179, 3) := by decide +kernel
theorem dX11_look_18 : decode cX11_look 18 = .ok (.aload_n 0, 1) := by decide +kernel
theorem dX11_look_19 : decode cX11_look 19 = .ok (.getfield 65, 3) := by decide +kernel
theorem dX11_look_22 : decode cX11_look 22 = .ok (.aload_n 0, 1) := by decide +kernel
theorem dX11_look_23 : decode cX11_look 23 = .ok (.getfield 28, 3) := by decide +kernel
theorem dX11_look_26 : decode cX11_look 26 = .ok (.aload_n 0, 1) := by decide +kernel
theorem dX11_look_27 : decode cX11_look 27 = .ok (.getfield 74, 3) := by decide +kernel
theorem dX11_look_30 : decode cX11_look 30 = .ok (.aload_n 0, 1) := by decide +kernel
theorem dX11_look_31 : decode cX11_look 31 = .ok (.getfield 58, 3) := by decide +kernel
theorem dX11_look_34 : decode cX11_look 34 = .ok (.invokevirtual 254, 3) := by decide +kernel
theorem dX11_look_37 : decode cX11_look 37 = .ok (.aload_n 0, 1) := by decide +kernel
theorem dX11_look_38 : decode cX11_look 38 = .ok (.getfield 65, 3) := by decide +kernel
theorem dX11_look_41 : decode cX11_look 41 = .ok (.getfield 258, 3) := by decide +kernel
theorem dX11_look_44 : decode cX11_look 44 = .ok (.istore_n 1, 1) := by decide +kernel
theorem dX11_look_45 : decode cX11_look 45 = .ok (.iconst (-1), 1) := by decide +kernel
theorem dX11_look_46 : decode cX11_look 46 = .ok (.istore_n 2, 1) := by decide +kernel
theorem dX11_look_47 : decode cX11_look 47 = .ok (.iconst 0, 1) := by decide +kernel
theorem dX11_look_48 : decode cX11_look 48 = .ok (.istore_n 3, 1) := by decide +kernel
theorem dX11_look_49 : decode cX11_look 49 = .ok (.iload_n 3, 1) := by decide +kernel
theorem dX11_look_50 : decode cX11_look 50 = .ok (.bipush 12, 2) := by decide +kernel
theorem dX11_look_52 : decode cX11_look 52 = .ok (.if_icmp .ge 43, 3) := by decide +kernel
theorem dX11_look_55 : decode cX11_look 55 = .ok (.aload_n 0, 1) := by decide +kernel
theorem dX11_look_56 : decode cX11_look 56 = .ok (.getfield 58, 3) := by decide +kernel
theorem dX11_look_59 : decode cX11_look 59 = .ok (.iload_n 3, 1) := by decide +kernel
theorem dX11_look_60 : decode cX11_look 60 = .ok (.invokevirtual 267, 3) := by decide +kernel
theorem dX11_look_63 : decode cX11_look 63 = .ok (.ifCond .ne 26, 3) := by decide +kernel
theorem dX11_look_66 : decode cX11_look 66 = .ok (.aload_n 0, 1) := by decide +kernel
theorem dX11_look_67 : decode cX11_look 67 = .ok (.getfield 65, 3) := by decide +kernel
theorem dX11_look_70 : decode cX11_look 70 = .ok (.iload_n 3, 1) := by decide +kernel
theorem dX11_look_71 : decode cX11_look 71 = .ok (.invokevirtual 270, 3) := by decide +kernel
theorem dX11_look_74 : decode cX11_look 74 = .ok (.iload_n 1, 1) := by decide +kernel
theorem dX11_look_75 : decode cX11_look 75 = .ok (.if_icmp .ge 14, 3) := by decide +kernel
theorem dX11_look_78 : decode cX11_look 78 = .ok (.aload_n 0, 1) := by decide +kernel
theorem dX11_look_79 : decode cX11_look 79 = .ok (.getfield 65, 3) := by decide +kernel
theorem dX11_look_82 : decode cX11_look 82 = .ok (.iload_n 3, 1) := by decide +kernel
theorem dX11_look_83 : decode cX11_look 83 = .ok (.invokevirtual 270, 3) := by decide +kernel
theorem dX11_look_86 : decode cX11_look 86 = .ok (.istore_n 1, 1) := by decide +kernel
theorem dX11_look_87 : decode cX11_look 87 = .ok (.iload_n 3, 1) := by decide +kernel
theorem dX11_look_88 : decode cX11_look 88 = .ok (.istore_n 2, 1) := by decide +kernel
theorem dX11_look_89 : decode cX11_look 89 = .ok (.iinc 3 1, 3) := by decide +kernel
theorem dX11_look_92 : decode cX11_look 92 = .ok (.goto (-43), 3) := by decide +kernel
theorem dX11_look_95 : decode cX11_look 95 = .ok (.iload_n 2, 1) := by decide +kernel
theorem dX11_look_96 : decode cX11_look 96 = .ok (.ireturn, 1) := by decide +kernel
theorem dX11_share_0 : decode cX11_share 0 = .ok (.aload_n 0, 1) := by decide +kernel
theorem dX11_share_1 : decode cX11_share 1 = .ok (.iload_n 1, 1) := by decide +kernel
theorem dX11_share_2 : decode cX11_share 2 = .ok (.invokevirtual 116, 3) := by decide +kernel
theorem dX11_share_5 : decode cX11_share 5 = .ok (.ifCond .ne 5, 3) := by decide +kernel
theorem dX11_share_8 : decode cX11_share 8 = .ok (.iconst (-1), 1) := by decide +kernel
theorem dX11_share_9 : decode cX11_share 9 = .ok (.ireturn, 1) := by decide +kernel
theorem dX11_share_10 : decode cX11_share 10 = .ok (.iconst 0, 1) := by decide +kernel
theorem dX11_share_11 : decode cX11_share 11 = .ok (.istore_n 2, 1) := by decide +kernel
theorem dX11_share_12 : decode cX11_share 12 = .ok (.iconst 0, 1) := by decide +kernel
theorem dX11_share_13 : decode cX11_share 13 = .ok (.istore_n 3, 1) := by decide +kernel
theorem dX11_share_14 : decode cX11_share 14 = .ok (.iload_n 3, 1) := by decide +kernel
theorem dX11_share_15 : decode cX11_share 15 = .ok (.aload_n 0, 1) := by decide +kernel
theorem dX11_share_16 : decode cX11_share 16 = .ok (.getfield 28, 3) := by decide +kernel
theorem dX11_share_19 : decode cX11_share 19 = .ok (.getfield 173, 3) := by decide +kernel
theorem dX11_share_22 : decode cX11_share 22 = .ok (.if_icmp .ge 30, 3) := by decide +kernel
theorem dX11_share_25 : decode cX11_share 25 = .ok (.iload_n 3, 1) := by decide +kernel
theorem dX11_share_26 : decode cX11_share 26 = .ok (.bipush 7, 2) := by decide +kernel
theorem dX11_share_28 : decode cX11_share 28 = .ok (.if_icmp .ge 24, 3) := by decide +kernel
theorem dX11_share_31 : decode cX11_share 31 = .ok (.iload_n 2, 1) := by decide +kernel
theorem dX11_share_32 : decode cX11_share 32 = .ok (.aload_n 0, 1) := by decide +kernel
theorem dX11_share_33 : decode cX11_share 33 = .ok (.getfield 28, 3) := by decide +kernel
theorem dX11_share_36 : decode cX11_share 36 = .ok (.getfield 120, 3) := by decide +kernel
theorem dX11_share_39 : decode cX11_share 39 = .ok (.iload_n 3, 1) := by decide +kernel
theorem dX11_share_40 : decode cX11_share 40 = .ok (.aaload, 1) := by decide +kernel
theorem dX11_share_41 : decode cX11_share 41 = .ok (.getfield 273, 3) := by decide +kernel
theorem dX11_share_44 : decode cX11_share 44 = .ok (.iadd, 1) := by decide +kernel
theorem dX11_share_45 : decode cX11_share 45 = .ok (.istore_n 2, 1) := by decide +kernel
theorem dX11_share_46 : decode cX11_share 46 = .ok (.iinc 3 1, 3) := by decide +kernel
theorem dX11_share_49 : decode cX11_share 49 = .ok (.goto (-35), 3) := by decide +kernel
theorem dX11_share_52 : decode cX11_share 52 = .ok (.iload_n 2, 1) := by decide +kernel
theorem dX11_share_53 : decode cX11_share 53 = .ok (.ifCond .le 32, 3) := by decide +kernel
theorem dX11_share_56 : decode cX11_share 56 = .ok (.aload_n 0, 1) := by decide +kernel
theorem dX11_share_57 : decode cX11_share 57 = .ok (.getfield 28, 3) := by decide +kernel
theorem dX11_share_60 : decode cX11_share 60 = .ok (.getfield 193, 3) := by decide +kernel
theorem dX11_share_63 : decode cX11_share 63 = .ok (.sipush 1000, 3) := by decide +kernel
theorem dX11_share_66 : decode cX11_share 66 = .ok (.imul, 1) := by decide +kernel
theorem dX11_share_67 : decode cX11_share 67 = .ok (.aload_n 0, 1) := by decide +kernel
theorem dX11_share_68 : decode cX11_share 68 = .ok (.getfield 28, 3) := by decide +kernel
theorem dX11_share_71 : decode cX11_share 71 = .ok (.getfield 120, 3) := by decide +kernel
theorem dX11_share_74 : decode cX11_share 74 = .ok (.iload_n 1, 1) := by decide +kernel
theorem dX11_share_75 : decode cX11_share 75 = .ok (.aaload, 1) := by decide +kernel
theorem dX11_share_76 : decode cX11_share 76 = .ok (.getfield 273, 3) := by decide +kernel
theorem dX11_share_79 : decode cX11_share 79 = .ok (.imul, 1) := by decide +kernel
theorem dX11_share_80 : decode cX11_share 80 = .ok (.iload_n 2, 1) := by decide +kernel
theorem dX11_share_81 : decode cX11_share 81 = .ok (.idiv, 1) := by decide +kernel
theorem dX11_share_82 : decode cX11_share 82 = .ok (.goto 4, 3) := by decide +kernel
theorem dX11_share_85 : decode cX11_share 85 = .ok (.iconst (-1), 1) := by decide +kernel
theorem dX11_share_86 : decode cX11_share 86 = .ok (.ireturn, 1) := by decide +kernel
theorem dX11_rests_0 : decode cX11_rests 0 = .ok (.iload_n 1, 1) := by decide +kernel
theorem dX11_rests_1 : decode cX11_rests 1 = .ok (.invokestatic 276, 3) := by decide +kernel
theorem dX11_rests_4 : decode cX11_rests 4 = .ok (.ifCond .eq 23, 3) := by decide +kernel
theorem dX11_rests_7 : decode cX11_rests 7 = .ok (.iload_n 2, 1) := by decide +kernel
theorem dX11_rests_8 : decode cX11_rests 8 = .ok (.invokestatic 276, 3) := by decide +kernel
theorem dX11_rests_11 : decode cX11_rests 11 = .ok (.ifCond .eq 16, 3) := by decide +kernel
theorem dX11_rests_14 : decode cX11_rests 14 = .ok (.iload_n 3, 1) := by decide +kernel
theorem dX11_rests_15 : decode cX11_rests 15 = .ok (.invokestatic 276, 3) := by decide +kernel
theorem dX11_rests_18 : decode cX11_rests 18 = .ok (.ifCond .eq 9, 3) := by decide +kernel
theorem dX11_rests_21 : decode cX11_rests 21 = .ok (.iload 4, 2) := by decide +kernel
theorem dX11_rests_23 : decode cX11_rests 23 = .ok (.iconst (-1), 1) := by decide +kernel
theorem dX11_rests_24 : decode cX11_rests 24 = .ok (.if_icmp .ge 11, 3) := by decide +kernel
theorem dX11_rests_27 : decode cX11_rests 27 = .ok (.new 217, 3) := by decide +kernel
theorem dX11_rests_30 : decode cX11_rests 30 = .ok (.dup, 1) := by decide +kernel
theorem dX11_rests_31 : decode cX11_rests 31 = .ok (.invokespecial 219, 3) := by decide +kernel
theorem dX11_rests_34 : decode cX11_rests 34 = .ok (.athrow, 1) := by decide +kernel
theorem dX11_rests_35 : decode cX11_rests 35 = .ok (.iconst 0, 1) := by decide +kernel
theorem dX11_rests_36 : decode cX11_rests 36 = .ok (.istore 5, 2) := by decide +kernel
theorem dX11_rests_38 : decode cX11_rests 38 = .ok (.iconst 0, 1) := by decide +kernel
theorem dX11_rests_39 : decode cX11_rests 39 = .ok (.istore 6, 2) := by decide +kernel
theorem dX11_rests_41 : decode cX11_rests 41 = .ok (.iload 6, 2) := by decide +kernel
theorem dX11_rests_43 : decode cX11_rests 43 = .ok (.iconst 4, 1) := by decide +kernel
theorem dX11_rests_44 : decode cX11_rests 44 = .ok (.if_icmp .ge 36, 3) := by decide +kernel
theorem dX11_rests_47 : decode cX11_rests 47 = .ok (.iload_n 1, 1) := by decide +kernel
theorem dX11_rests_48 : decode cX11_rests 48 = .ok (.iload_n 2, 1) := by decide +kernel
theorem dX11_rests_49 : decode cX11_rests 49 = .ok (.iload_n 3, 1) := by decide +kernel
theorem dX11_rests_50 : decode cX11_rests 50 = .ok (.iload 6, 2) := by decide +kernel
theorem dX11_rests_52 : decode cX11_rests 52 = .ok (.invokestatic 279, 3) := by decide +kernel
theorem dX11_rests_55 : decode cX11_rests 55 = .ok (.ifCond .ne 6, 3) := by decide +kernel
theorem dX11_rests_58 : decode cX11_rests 58 = .ok (.goto 16, 3) := by decide +kernel
theorem dX11_rests_61 : decode cX11_rests 61 = .ok (.iload 5, 2) := by decide +kernel
theorem dX11_rests_63 : decode cX11_rests 63 = .ok (.iload 4, 2) := by decide +kernel
theorem dX11_rests_65 : decode cX11_rests 65 = .ok (.if_icmp .ne 6, 3) := by decide +kernel
theorem dX11_rests_68 : decode cX11_rests 68 = .ok (.iload 6, 2) := by decide +kernel
theorem dX11_rests_70 : decode cX11_rests 70 = .ok (.ireturn, 1) := by decide +kernel
theorem dX11_rests_71 : decode cX11_rests 71 = .ok (.iinc 5 1, 3) := by decide +kernel
theorem dX11_rests_74 : decode cX11_rests 74 = .ok (.iinc 6 1, 3) := by decide +kernel
theorem dX11_rests_77 : decode cX11_rests 77 = .ok (.goto (-36), 3) := by decide +kernel
theorem dX11_rests_80 : decode cX11_rests 80 = .ok (.iload 4, 2) := by decide +kernel
theorem dX11_rests_82 : decode cX11_rests 82 = .ok (.iconst (-1), 1) := by decide +kernel
theorem dX11_rests_83 : decode cX11_rests 83 = .ok (.if_icmp .eq 11, 3) := by decide +kernel
theorem dX11_rests_86 : decode cX11_rests 86 = .ok (.new 217, 3) := by decide +kernel
theorem dX11_rests_89 : decode cX11_rests 89 = .ok (.dup, 1) := by decide +kernel
theorem dX11_rests_90 : decode cX11_rests 90 = .ok (.invokespecial 219, 3) := by decide +kernel
theorem dX11_rests_93 : decode cX11_rests 93 = .ok (.athrow, 1) := by decide +kernel
theorem dX11_rests_94 : decode cX11_rests 94 = .ok (.iload 5, 2) := by decide +kernel
theorem dX11_rests_96 : decode cX11_rests 96 = .ok (.ireturn, 1) := by decide +kernel
theorem dX11_rule_0 : decode cX11_rule 0 = .ok (.iload_n 1, 1) := by decide +kernel
theorem dX11_rule_1 : decode cX11_rule 1 = .ok (.iconst 1, 1) := by decide +kernel
theorem dX11_rule_2 : decode cX11_rule 2 = .ok (.if_icmp .lt 16, 3) := by decide +kernel
theorem dX11_rule_5 : decode cX11_rule 5 = .ok (.iload_n 1, 1) := by decide +kernel
theorem dX11_rule_6 : decode cX11_rule 6 = .ok (.bipush 30, 2) := by decide +kernel
theorem dX11_rule_8 : decode cX11_rule 8 = .ok (.if_icmp .gt 10, 3) := by decide +kernel
theorem dX11_rule_11 : decode cX11_rule 11 = .ok (.iload_n 2, 1) := by decide +kernel
theorem dX11_rule_12 : decode cX11_rule 12 = .ok (.invokestatic 199, 3) := by decide +kernel
theorem dX11_rule_15 : decode cX11_rule 15 = .ok (.ifCond .ne 11, 3) := by decide +kernel
theorem dX11_rule_18 : decode cX11_rule 18 = .ok (.new 217, 3) := by decide +kernel
theorem dX11_rule_21 : decode cX11_rule 21 = .ok (.dup, 1) := by decide +kernel
theorem dX11_rule_22 : decode cX11_rule 22 = .ok (.invokespecial 219, 3) := by decide +kernel
theorem dX11_rule_25 : decode cX11_rule 25 = .ok (.athrow, 1) := by decide +kernel
theorem dX11_rule_26 : decode cX11_rule 26 = .ok (.aload_n 0, 1) := by decide +kernel
theorem dX11_rule_27 : decode cX11_rule 27 = .ok (.getfield 42, 3) := by decide +kernel
theorem dX11_rule_30 : decode cX11_rule 30 = .ok (.aload_n 0, 1) := by decide +kernel
theorem dX11_rule_31 : decode cX11_rule 31 = .ok (.getfield 38, 3) := by decide +kernel
theorem dX11_rule_34 : decode cX11_rule 34 = .ok (.invokevirtual 214, 3) := by decide +kernel
theorem dX11_rule_37 : decode cX11_rule 37 = .ok (.aload_n 0, 1) := by decide +kernel
theorem dX11_rule_38 : decode cX11_rule 38 = .ok (.getfield 42, 3) := by decide +kernel
theorem dX11_rule_41 : decode cX11_rule 41 = .ok (.iload_n 2, 1) := by decide +kernel
theorem dX11_rule_42 : decode cX11_rule 42 = .ok (.putfield 138, 3) := by decide +kernel
theorem dX11_rule_45 : decode cX11_rule 45 = .ok (.aload_n 0, 1) := by decide +kernel
theorem dX11_rule_46 : decode cX11_rule 46 = .ok (.getfield 74, 3) := by decide +kernel
theorem dX11_rule_49 : decode cX11_rule 49 = .ok (.aload_n 0, 1) := by decide +kernel
theorem dX11_rule_50 : decode cX11_rule 50 = .ok (.getfield 28, 3) := by decide +kernel
theorem dX11_rule_53 : decode cX11_rule 53 = .ok (.iload_n 2, 1) := by decide +kernel
theorem dX11_rule_54 : decode cX11_rule 54 = .ok (.invokevirtual 179, 3) := by decide +kernel
theorem dX11_rule_57 : decode cX11_rule 57 = .ok (.iconst 0, 1) := by decide +kernel
theorem dX11_rule_58 : decode cX11_rule 58 = .ok (.istore_n 3, 1) := by decide +kernel
theorem dX11_rule_59 : decode cX11_rule 59 = .ok (.iconst 0, 1) := by decide +kernel
theorem dX11_rule_60 : decode cX11_rule 60 = .ok (.istore 4, 2) := by decide +kernel
theorem dX11_rule_62 : decode cX11_rule 62 = .ok (.iload 4, 2) := by decide +kernel
theorem dX11_rule_64 : decode cX11_rule 64 = .ok (.iload_n 1, 1) := by decide +kernel
theorem dX11_rule_65 : decode cX11_rule 65 = .ok (.if_icmp .ge 31, 3) := by decide +kernel
theorem dX11_rule_68 : decode cX11_rule 68 = .ok (.aload_n 0, 1) := by decide +kernel
theorem dX11_rule_69 : decode cX11_rule 69 = .ok (.getfield 74, 3) := by decide +kernel
theorem dX11_rule_72 : decode cX11_rule 72 = .ok (.aload_n 0, 1) := by decide +kernel
theorem dX11_rule_73 : decode cX11_rule 73 = .ok (.getfield 42, 3) := by decide +kernel
theorem dX11_rule_76 : decode cX11_rule 76 = .ok (.iconst 0, 1) := by decide +kernel
theorem dX11_rule_77 : decode cX11_rule 77 = .ok (.invokevirtual 183, 3) := by decide +kernel
theorem dX11_rule_80 : decode cX11_rule 80 = .ok (.iload_n 3, 1) := by decide +kernel
theorem dX11_rule_81 : decode cX11_rule 81 = .ok (.aload_n 0, 1) := by decide +kernel
theorem dX11_rule_82 : decode cX11_rule 82 = .ok (.getfield 74, 3) := by decide +kernel
theorem dX11_rule_85 : decode cX11_rule 85 = .ok (.getfield 190, 3) := by decide +kernel
theorem dX11_rule_88 : decode cX11_rule 88 = .ok (.iadd, 1) := by decide +kernel
theorem dX11_rule_89 : decode cX11_rule 89 = .ok (.istore_n 3, 1) := by decide +kernel
theorem dX11_rule_90 : decode cX11_rule 90 = .ok (.iinc 4 1, 3) := by decide +kernel
theorem dX11_rule_93 : decode cX11_rule 93 = .ok (.goto (-31), 3) := by decide +kernel
theorem dX11_rule_96 : decode cX11_rule 96 = .ok (.iload_n 3, 1) := by decide +kernel
theorem dX11_rule_97 : decode cX11_rule 97 = .ok (.ireturn, 1) := by decide +kernel
theorem dX11_months_0 : decode cX11_months 0 = .ok (.iload_n 1, 1) := by decide +kernel
theorem dX11_months_1 : decode cX11_months 1 = .ok (.ifCond .lt 30, 3) := by decide +kernel
theorem dX11_months_4 : decode cX11_months 4 = .ok (.iload_n 1, 1) := by decide +kernel
theorem dX11_months_5 : decode cX11_months 5 = .ok (.sipush 9999, 3) := by decide +kernel
theorem dX11_months_8 : decode cX11_months 8 = .ok (.if_icmp .gt 23, 3) := by decide +kernel
theorem dX11_months_11 : decode cX11_months 11 = .ok (.iload_n 2, 1) := by decide +kernel
theorem dX11_months_12 : decode cX11_months 12 = .ok (.iconst 1, 1) := by decide +kernel
theorem dX11_months_13 : decode cX11_months 13 = .ok (.if_icmp .lt 18, 3) := by decide +kernel
theorem dX11_months_16 : decode cX11_months 16 = .ok (.iload_n 2, 1) := by decide +kernel
theorem dX11_months_17 : decode cX11_months 17 = .ok (.bipush 60, 2) := by decide +kernel
theorem dX11_months_19 : decode cX11_months 19 = .ok (.if_icmp .gt 12, 3) := by decide +kernel
theorem dX11_months_22 : decode cX11_months 22 = .ok (.iload_n 3, 1) := by decide +kernel
theorem dX11_months_23 : decode cX11_months 23 = .ok (.ifCond .lt 8, 3) := by decide +kernel
theorem dX11_months_26 : decode cX11_months 26 = .ok (.iload_n 3, 1) := by decide +kernel
theorem dX11_months_27 : decode cX11_months 27 = .ok (.iconst 2, 1) := by decide +kernel
theorem dX11_months_28 : decode cX11_months 28 = .ok (.if_icmp .le 11, 3) := by decide +kernel
theorem dX11_months_31 : decode cX11_months 31 = .ok (.new 217, 3) := by decide +kernel
theorem dX11_months_34 : decode cX11_months 34 = .ok (.dup, 1) := by decide +kernel
theorem dX11_months_35 : decode cX11_months 35 = .ok (.invokespecial 219, 3) := by decide +kernel
theorem dX11_months_38 : decode cX11_months 38 = .ok (.athrow, 1) := by decide +kernel
theorem dX11_months_39 : decode cX11_months 39 = .ok (.aload_n 0, 1) := by decide +kernel
theorem dX11_months_40 : decode cX11_months 40 = .ok (.iload_n 1, 1) := by decide +kernel
theorem dX11_months_41 : decode cX11_months 41 = .ok (.iload_n 2, 1) := by decide +kernel
theorem dX11_months_42 : decode cX11_months 42 = .ok (.invokevirtual 283, 3) := by decide +kernel
theorem dX11_months_45 : decode cX11_months 45 = .ok (.aload_n 0, 1) := by decide +kernel
theorem dX11_months_46 : decode cX11_months 46 = .ok (.getfield 89, 3) := by decide +kernel
theorem dX11_months_49 : decode cX11_months 49 = .ok (.iload_n 3, 1) := by decide +kernel
theorem dX11_months_50 : decode cX11_months 50 = .ok (.iaload, 1) := by decide +kernel
theorem dX11_months_51 : decode cX11_months 51 = .ok (.ireturn, 1) := by decide +kernel
theorem dX11_mark_0 : decode cX11_mark 0 = .ok (.iload_n 1, 1) := by decide +kernel
theorem dX11_mark_1 : decode cX11_mark 1 = .ok (.ifCond .lt 8, 3) := by decide +kernel
theorem dX11_mark_4 : decode cX11_mark 4 = .ok (.iload_n 1, 1) := by decide +kernel
theorem dX11_mark_5 : decode cX11_mark 5 = .ok (.iconst 4, 1) := by decide +kernel
theorem dX11_mark_6 : decode cX11_mark 6 = .ok (.if_icmp .lt 5, 3) := by decide +kernel
theorem dX11_mark_9 : decode cX11_mark 9 = .ok (.iconst 0, 1) := by decide +kernel
theorem dX11_mark_10 : decode cX11_mark 10 = .ok (.ireturn, 1) := by decide +kernel
theorem dX11_mark_11 : decode cX11_mark 11 = .ok (.aload_n 0, 1) := by decide +kernel
theorem dX11_mark_12 : decode cX11_mark 12 = .ok (.getfield 80, 3) := by decide +kernel
theorem dX11_mark_15 : decode cX11_mark 15 = .ok (.iload_n 1, 1) := by decide +kernel
theorem dX11_mark_16 : decode cX11_mark 16 = .ok (.aaload, 1) := by decide +kernel
theorem dX11_mark_17 : decode cX11_mark 17 = .ok (.astore_n 3, 1) := by decide +kernel
theorem dX11_mark_18 : decode cX11_mark 18 = .ok (.iload_n 2, 1) := by decide +kernel
theorem dX11_mark_19 : decode cX11_mark 19 = .ok (.ifCond .ne 21, 3) := by decide +kernel
theorem dX11_mark_22 : decode cX11_mark 22 = .ok (.aload_n 3, 1) := by decide +kernel
theorem dX11_mark_23 : decode cX11_mark 23 = .ok (.aload_n 0, 1) := by decide +kernel
theorem dX11_mark_24 : decode cX11_mark 24 = .ok (.getfield 38, 3) := by decide +kernel
theorem dX11_mark_27 : decode cX11_mark 27 = .ok (.aload_n 0, 1) := by decide +kernel
theorem dX11_mark_28 : decode cX11_mark 28 = .ok (.getfield 48, 3) := by decide +kernel
theorem dX11_mark_31 : decode cX11_mark 31 = .ok (.aload_n 0, 1) := by decide +kernel
theorem dX11_mark_32 : decode cX11_mark 32 = .ok (.getfield 58, 3) := by decide +kernel
theorem dX11_mark_35 : decode cX11_mark 35 = .ok (.invokevirtual 287, 3) := by decide +kernel
theorem dX11_mark_38 : decode cX11_mark 38 = .ok (.iconst 1, 1) := by decide +kernel
theorem dX11_mark_39 : decode cX11_mark 39 = .ok (.ireturn, 1) := by decide +kernel
theorem dX11_mark_40 : decode cX11_mark 40 = .ok (.aload_n 3, 1) := by decide +kernel
theorem dX11_mark_41 : decode cX11_mark 41 = .ok (.getfield 291, 3) := by decide +kernel
theorem dX11_mark_44 : decode cX11_mark 44 = .ok (.ifCond .ne 5, 3) := by decide +kernel
theorem dX11_mark_47 : decode cX11_mark 47 = .ok (.iconst 0, 1) := by decide +kernel
theorem dX11_mark_48 : decode cX11_mark 48 = .ok (.ireturn, 1) := by decide +kernel
theorem dX11_mark_49 : decode cX11_mark 49 = .ok (.aload_n 3, 1) := by decide +kernel
theorem dX11_mark_50 : decode cX11_mark 50 = .ok (.aload_n 0, 1) := by decide +kernel
theorem dX11_mark_51 : decode cX11_mark 51 = .ok (.getfield 38, 3) := by decide +kernel
theorem dX11_mark_54 : decode cX11_mark 54 = .ok (.aload_n 0, 1) := by decide +kernel
theorem dX11_mark_55 : decode cX11_mark 55 = .ok (.getfield 48, 3) := by decide +kernel
theorem dX11_mark_58 : decode cX11_mark 58 = .ok (.aload_n 0, 1) := by decide +kernel
theorem dX11_mark_59 : decode cX11_mark 59 = .ok (.getfield 58, 3) := by decide +kernel
theorem dX11_mark_62 : decode cX11_mark 62 = .ok (.invokevirtual 295, 3) := by decide +kernel
theorem dX11_mark_65 : decode cX11_mark 65 = .ok (.aload_n 0, 1) := by decide +kernel
theorem dX11_mark_66 : decode cX11_mark 66 = .ok (.iconst 0, 1) := by decide +kernel
theorem dX11_mark_67 : decode cX11_mark 67 = .ok (.putfield 208, 3) := by decide +kernel
theorem dX11_mark_70 : decode cX11_mark 70 = .ok (.iconst 1, 1) := by decide +kernel
theorem dX11_mark_71 : decode cX11_mark 71 = .ok (.ireturn, 1) := by decide +kernel
theorem dX11_count_0 : decode cX11_count 0 = .ok (.iload_n 1, 1) := by decide +kernel
theorem dX11_count_1 : decode cX11_count 1 = .ok (.tableswitch 180 0 13 #[71, 79, 87, 95, 103, 111, 119, 127, 135, 143, 151, 159, 167, 172], 71) := by decide +kernel
theorem dX11_count_72 : decode cX11_count 72 = .ok (.aload_n 0, 1) := by decide +kernel
theorem dX11_count_73 : decode cX11_count 73 = .ok (.getfield 28, 3) := by decide +kernel
theorem dX11_count_76 : decode cX11_count 76 = .ok (.getfield 148, 3) := by decide +kernel
theorem dX11_count_79 : decode cX11_count 79 = .ok (.ireturn, 1) := by decide +kernel
theorem dX11_count_80 : decode cX11_count 80 = .ok (.aload_n 0, 1) := by decide +kernel
theorem dX11_count_81 : decode cX11_count 81 = .ok (.getfield 28, 3) := by decide +kernel
theorem dX11_count_84 : decode cX11_count 84 = .ok (.getfield 173, 3) := by decide +kernel
theorem dX11_count_87 : decode cX11_count 87 = .ok (.ireturn, 1) := by decide +kernel
theorem dX11_count_88 : decode cX11_count 88 = .ok (.aload_n 0, 1) := by decide +kernel
theorem dX11_count_89 : decode cX11_count 89 = .ok (.getfield 28, 3) := by decide +kernel
theorem dX11_count_92 : decode cX11_count 92 = .ok (.getfield 298, 3) := by decide +kernel
theorem dX11_count_95 : decode cX11_count 95 = .ok (.ireturn, 1) := by decide +kernel
theorem dX11_count_96 : decode cX11_count 96 = .ok (.aload_n 0, 1) := by decide +kernel
theorem dX11_count_97 : decode cX11_count 97 = .ok (.getfield 38, 3) := by decide +kernel
theorem dX11_count_100 : decode cX11_count 100 = .ok (.getfield 138, 3) := by decide +kernel
theorem dX11_count_103 : decode cX11_count 103 = .ok (.ireturn, 1) := by decide +kernel
theorem dX11_count_104 : decode cX11_count 104 = .ok (.aload_n 0, 1) := by decide +kernel
theorem dX11_count_105 : decode cX11_count 105 = .ok (.getfield 38, 3) := by decide +kernel
theorem dX11_count_108 : decode cX11_count 108 = .ok (.getfield 202, 3) := by decide +kernel
theorem dX11_count_111 : decode cX11_count 111 = .ok (.ireturn, 1) := by decide +kernel
theorem dX11_count_112 : decode cX11_count 112 = .ok (.aload_n 0, 1) := by decide +kernel
theorem dX11_count_113 : decode cX11_count 113 = .ok (.getfield 38, 3) := by decide +kernel
theorem dX11_count_116 : decode cX11_count 116 = .ok (.getfield 205, 3) := by decide +kernel
theorem dX11_count_119 : decode cX11_count 119 = .ok (.ireturn, 1) := by decide +kernel
theorem dX11_count_120 : decode cX11_count 120 = .ok (.aload_n 0, 1) := by decide +kernel
theorem dX11_count_121 : decode cX11_count 121 = .ok (.getfield 28, 3) := by decide +kernel
theorem dX11_count_124 : decode cX11_count 124 = .ok (.getfield 193, 3) := by decide +kernel
theorem dX11_count_127 : decode cX11_count 127 = .ok (.ireturn, 1) := by decide +kernel
theorem dX11_count_128 : decode cX11_count 128 = .ok (.aload_n 0, 1) := by decide +kernel
theorem dX11_count_129 : decode cX11_count 129 = .ok (.getfield 38, 3) := by decide +kernel
theorem dX11_count_132 : decode cX11_count 132 = .ok (.getfield 187, 3) := by decide +kernel
theorem dX11_count_135 : decode cX11_count 135 = .ok (.ireturn, 1) := by decide +kernel
theorem dX11_count_136 : decode cX11_count 136 = .ok (.aload_n 0, 1) := by decide +kernel
theorem dX11_count_137 : decode cX11_count 137 = .ok (.getfield 38, 3) := by decide +kernel
theorem dX11_count_140 : decode cX11_count 140 = .ok (.getfield 301, 3) := by decide +kernel
theorem dX11_count_143 : decode cX11_count 143 = .ok (.ireturn, 1) := by decide +kernel
theorem dX11_count_144 : decode cX11_count 144 = .ok (.aload_n 0, 1) := by decide +kernel
theorem dX11_count_145 : decode cX11_count 145 = .ok (.getfield 38, 3) := by decide +kernel
theorem dX11_count_148 : decode cX11_count 148 = .ok (.invokevirtual 304, 3) := by decide +kernel
theorem dX11_count_151 : decode cX11_count 151 = .ok (.ireturn, 1) := by decide +kernel
theorem dX11_count_152 : decode cX11_count 152 = .ok (.aload_n 0, 1) := by decide +kernel
theorem dX11_count_153 : decode cX11_count 153 = .ok (.getfield 48, 3) := by decide +kernel
theorem dX11_count_156 : decode cX11_count 156 = .ok (.getfield 308, 3) := by decide +kernel
theorem dX11_count_159 : decode cX11_count 159 = .ok (.ireturn, 1) := by decide +kernel
