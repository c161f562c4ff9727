theorem dX6_tuneUp_7 : decode cX6_tuneUp 7 = .ok (.if_icmp .ge 36, 3) := by decide +kernel
theorem dX6_tuneUp_10 : decode cX6_tuneUp 10 = .ok (.aload_n 0, 1) := by decide +kernel
theorem dX6_tuneUp_11 : decode cX6_tuneUp 11 = .ok (.getfield 9, 3) := by decide +kernel
theorem dX6_tuneUp_14 : decode cX6_tuneUp 14 = .ok (.iload_n 3, 1) := by decide +kernel
theorem dX6_tuneUp_15 : decode cX6_tuneUp 15 = .ok (.iaload, 1) := by decide +kernel
theorem dX6_tuneUp_16 : decode cX6_tuneUp 16 = .ok (.bipush 9, 2) := by decide +kernel
theorem dX6_tuneUp_18 : decode cX6_tuneUp 18 = .ok (.if_icmp .ge 19, 3) := by decide +kernel
theorem dX6_tuneUp_21 : decode cX6_tuneUp 21 = .ok (.iload_n 2, 1) := by decide +kernel
theorem dX6_tuneUp_22 : decode cX6_tuneUp 22 = .ok (.aload_n 0, 1) := by decide +kernel
theorem dX6_tuneUp_23 : decode cX6_tuneUp 23 = .ok (.getfield 9, 3) := by decide +kernel
theorem dX6_tuneUp_26 : decode cX6_tuneUp 26 = .ok (.iload_n 3, 1) := by decide +kernel
theorem dX6_tuneUp_27 : decode cX6_tuneUp 27 = .ok (.iaload, 1) := by decide +kernel
theorem dX6_tuneUp_28 : decode cX6_tuneUp 28 = .ok (.iadd, 1) := by decide +kernel
theorem dX6_tuneUp_29 : decode cX6_tuneUp 29 = .ok (.istore_n 2, 1) := by decide +kernel
theorem dX6_tuneUp_30 : decode cX6_tuneUp 30 = .ok (.aload_n 0, 1) := by decide +kernel
theorem dX6_tuneUp_31 : decode cX6_tuneUp 31 = .ok (.getfield 9, 3) := by decide +kernel
theorem dX6_tuneUp_34 : decode cX6_tuneUp 34 = .ok (.iload_n 3, 1) := by decide +kernel
theorem dX6_tuneUp_35 : decode cX6_tuneUp 35 = .ok (.iconst 0, 1) := by decide +kernel
theorem dX6_tuneUp_36 : decode cX6_tuneUp 36 = .ok (.iastore, 1) := by decide +kernel
theorem dX6_tuneUp_37 : decode cX6_tuneUp 37 = .ok (.iinc 3 1, 3) := by decide +kernel
theorem dX6_tuneUp_40 : decode cX6_tuneUp 40 = .ok (.goto (-36), 3) := by decide +kernel
theorem dX6_tuneUp_43 : decode cX6_tuneUp 43 = .ok (.aload_n 0, 1) := by decide +kernel
theorem dX6_tuneUp_44 : decode cX6_tuneUp 44 = .ok (.dup, 1) := by decide +kernel
theorem dX6_tuneUp_45 : decode cX6_tuneUp 45 = .ok (.getfield 28, 3) := by decide +kernel
theorem dX6_tuneUp_48 : decode cX6_tuneUp 48 = .ok (.iload_n 1, 1) := by decide +kernel
theorem dX6_tuneUp_49 : decode cX6_tuneUp 49 = .ok (.iadd, 1) := by decide +kernel
theorem dX6_tuneUp_50 : decode cX6_tuneUp 50 = .ok (.putfield 28, 3) := by decide +kernel
theorem dX6_tuneUp_53 : decode cX6_tuneUp 53 = .ok (.iload_n 2, 1) := by decide +kernel
theorem dX6_tuneUp_54 : decode cX6_tuneUp 54 = .ok (.ireturn, 1) := by decide +kernel
theorem dX6_goneKeys_0 : decode cX6_goneKeys 0 = .ok (.iconst 0, 1) := by decide +kernel
theorem dX6_goneKeys_1 : decode cX6_goneKeys 1 = .ok (.istore_n 1, 1) := by decide +kernel
theorem dX6_goneKeys_2 : decode cX6_goneKeys 2 = .ok (.iconst 0, 1) := by decide +kernel
theorem dX6_goneKeys_3 : decode cX6_goneKeys 3 = .ok (.istore_n 2, 1) := by decide +kernel
theorem dX6_goneKeys_4 : decode cX6_goneKeys 4 = .ok (.iload_n 2, 1) := by decide +kernel
theorem dX6_goneKeys_5 : decode cX6_goneKeys 5 = .ok (.bipush 12, 2) := by decide +kernel
theorem dX6_goneKeys_7 : decode cX6_goneKeys 7 = .ok (.if_icmp .ge 26, 3) := by decide +kernel
theorem dX6_goneKeys_10 : decode cX6_goneKeys 10 = .ok (.aload_n 0, 1) := by decide +kernel
theorem dX6_goneKeys_11 : decode cX6_goneKeys 11 = .ok (.getfield 9, 3) := by decide +kernel
theorem dX6_goneKeys_14 : decode cX6_goneKeys 14 = .ok (.iload_n 2, 1) := by decide +kernel
theorem dX6_goneKeys_15 : decode cX6_goneKeys 15 = .ok (.iaload, 1) := by decide +kernel
theorem dX6_goneKeys_16 : decode cX6_goneKeys 16 = .ok (.bipush 9, 2) := by decide +kernel
theorem dX6_goneKeys_18 : decode cX6_goneKeys 18 = .ok (.if_icmp .lt 9, 3) := by decide +kernel
theorem dX6_goneKeys_21 : decode cX6_goneKeys 21 = .ok (.iload_n 1, 1) := by decide +kernel
theorem dX6_goneKeys_22 : decode cX6_goneKeys 22 = .ok (.iconst 1, 1) := by decide +kernel
theorem dX6_goneKeys_23 : decode cX6_goneKeys 23 = .ok (.iload_n 2, 1) := by decide +kernel
theorem dX6_goneKeys_24 : decode cX6_goneKeys 24 = .ok (.ishl, 1) := by decide +kernel
theorem dX6_goneKeys_25 : decode cX6_goneKeys 25 = .ok (.ior, 1) := by decide +kernel
theorem dX6_goneKeys_26 : decode cX6_goneKeys 26 = .ok (.istore_n 1, 1) := by decide +kernel
theorem dX6_goneKeys_27 : decode cX6_goneKeys 27 = .ok (.iinc 2 1, 3) := by decide +kernel
theorem dX6_goneKeys_30 : decode cX6_goneKeys 30 = .ok (.goto (-26), 3) := by decide +kernel
theorem dX6_goneKeys_33 : decode cX6_goneKeys 33 = .ok (.iload_n 1, 1) := by decide +kernel
theorem dX6_goneKeys_34 : decode cX6_goneKeys 34 = .ok (.ireturn, 1) := by decide +kernel
theorem dX6_keysAbove_0 : decode cX6_keysAbove 0 = .ok (.iconst 0, 1) := by decide +kernel
theorem dX6_keysAbove_1 : decode cX6_keysAbove 1 = .ok (.istore_n 2, 1) := by decide +kernel
theorem dX6_keysAbove_2 : decode cX6_keysAbove 2 = .ok (.iconst 0, 1) := by decide +kernel
theorem dX6_keysAbove_3 : decode cX6_keysAbove 3 = .ok (.istore_n 3, 1) := by decide +kernel
theorem dX6_keysAbove_4 : decode cX6_keysAbove 4 = .ok (.iload_n 3, 1) := by decide +kernel
theorem dX6_keysAbove_5 : decode cX6_keysAbove 5 = .ok (.bipush 12, 2) := by decide +kernel
theorem dX6_keysAbove_7 : decode cX6_keysAbove 7 = .ok (.if_icmp .ge 22, 3) := by decide +kernel
theorem dX6_keysAbove_10 : decode cX6_keysAbove 10 = .ok (.aload_n 0, 1) := by decide +kernel
theorem dX6_keysAbove_11 : decode cX6_keysAbove 11 = .ok (.getfield 9, 3) := by decide +kernel
theorem dX6_keysAbove_14 : decode cX6_keysAbove 14 = .ok (.iload_n 3, 1) := by decide +kernel
theorem dX6_keysAbove_15 : decode cX6_keysAbove 15 = .ok (.iaload, 1) := by decide +kernel
theorem dX6_keysAbove_16 : decode cX6_keysAbove 16 = .ok (.iload_n 1, 1) := by decide +kernel
theorem dX6_keysAbove_17 : decode cX6_keysAbove 17 = .ok (.if_icmp .le 6, 3) := by decide +kernel
theorem dX6_keysAbove_20 : decode cX6_keysAbove 20 = .ok (.iinc 2 1, 3) := by decide +kernel
theorem dX6_keysAbove_23 : decode cX6_keysAbove 23 = .ok (.iinc 3 1, 3) := by decide +kernel
theorem dX6_keysAbove_26 : decode cX6_keysAbove 26 = .ok (.goto (-22), 3) := by decide +kernel
theorem dX6_keysAbove_29 : decode cX6_keysAbove 29 = .ok (.iload_n 2, 1) := by decide +kernel
theorem dX6_keysAbove_30 : decode cX6_keysAbove 30 = .ok (.ireturn, 1) := by decide +kernel
set_option maxRecDepth 20000 in
theorem ggX7_init_X2_init : GoodIn wsX7_init wsX2_init := goodIn_r _ [25, 26, 2, 3, 6, 27, 28, 29, 48, 49, 50, 51, 52] (by decide +kernel) (by decide +kernel)
set_option maxRecDepth 20000 in
theorem gX7_init_X2_init : GoodIn wsX7_init (wsX2_init) := ggX7_init_X2_init
set_option maxRecDepth 20000 in
theorem ggX7_init_X4_init : GoodIn wsX7_init wsX4_init := goodIn_r _ [31, 32, 2, 3, 6, 33, 53, 54, 55, 56, 57, 58, 59, 60, 61] (by decide +kernel) (by decide +kernel)
set_option maxRecDepth 20000 in
theorem gX7_init_X4_init_n55 : GoodIn wsX7_init (wsX4_init) := ggX7_init_X4_init
theorem dX7_init_0 : decode cX7_init 0 = .ok (.aload_n 0, 1) := by decide +kernel
theorem dX7_init_1 : decode cX7_init 1 = .ok (.invokespecial 3, 3) := by decide +kernel
theorem dX7_init_4 : decode cX7_init 4 = .ok (.aload_n 0, 1) := by decide +kernel
theorem dX7_init_5 : decode cX7_init 5 = .ok (.iconst 5, 1) := by decide +kernel
theorem dX7_init_6 : decode cX7_init 6 = .ok (.newarray .long, 2) := by decide +kernel
theorem dX7_init_8 : decode cX7_init 8 = .ok (.putfield 9, 3) := by decide +kernel
theorem dX7_init_11 : decode cX7_init 11 = .ok (.aload_n 0, 1) := by decide +kernel
theorem dX7_init_12 : decode cX7_init 12 = .ok (.iconst 5, 1) := by decide +kernel
theorem dX7_init_13 : decode cX7_init 13 = .ok (.newarray .int, 2) := by decide +kernel
theorem dX7_init_15 : decode cX7_init 15 = .ok (.putfield 15, 3) := by decide +kernel
theorem dX7_init_18 : decode cX7_init 18 = .ok (.aload_n 0, 1) := by decide +kernel
theorem dX7_init_19 : decode cX7_init 19 = .ok (.iconst 5, 1) := by decide +kernel
theorem dX7_init_20 : decode cX7_init 20 = .ok (.bipush 9, 2) := by decide +kernel
theorem dX7_init_22 : decode cX7_init 22 = .ok (.multianewarray 19 2, 4) := by decide +kernel
theorem dX7_init_26 : decode cX7_init 26 = .ok (.putfield 21, 3) := by decide +kernel
theorem dX7_init_29 : decode cX7_init 29 = .ok (.aload_n 0, 1) := by decide +kernel
theorem dX7_init_30 : decode cX7_init 30 = .ok (.bipush 7, 2) := by decide +kernel
theorem dX7_init_32 : decode cX7_init 32 = .ok (.anewarray 24, 3) := by decide +kernel
theorem dX7_init_35 : decode cX7_init 35 = .ok (.putfield 26, 3) := by decide +kernel
theorem dX7_init_38 : decode cX7_init 38 = .ok (.aload_n 0, 1) := by decide +kernel
theorem dX7_init_39 : decode cX7_init 39 = .ok (.new 30, 3) := by decide +kernel
theorem dX7_init_42 : decode cX7_init 42 = .ok (.dup, 1) := by decide +kernel
theorem dX7_init_43 : decode cX7_init 43 = .ok (.iconst 1, 1) := by decide +kernel
theorem dX7_init_44 : decode cX7_init 44 = .ok (.invokespecial 32, 3) := by decide +kernel
theorem dX7_init_47 : decode cX7_init 47 = .ok (.putfield 35, 3) := by decide +kernel
theorem dX7_init_50 : decode cX7_init 50 = .ok (.aload_n 0, 1) := by decide +kernel
theorem dX7_init_51 : decode cX7_init 51 = .ok (.new 30, 3) := by decide +kernel
theorem dX7_init_54 : decode cX7_init 54 = .ok (.dup, 1) := by decide +kernel
theorem dX7_init_55 : decode cX7_init 55 = .ok (.iconst 0, 1) := by decide +kernel
theorem dX7_init_56 : decode cX7_init 56 = .ok (.invokespecial 32, 3) := by decide +kernel
theorem dX7_init_59 : decode cX7_init 59 = .ok (.putfield 39, 3) := by decide +kernel
theorem dX7_init_62 : decode cX7_init 62 = .ok (.aload_n 0, 1) := by decide +kernel
theorem dX7_init_63 : decode cX7_init 63 = .ok (.iconst 5, 1) := by decide +kernel
theorem dX7_init_64 : decode cX7_init 64 = .ok (.putfield 42, 3) := by decide +kernel
theorem dX7_init_67 : decode cX7_init 67 = .ok (.aload_n 0, 1) := by decide +kernel
theorem dX7_init_68 : decode cX7_init 68 = .ok (.bipush 30, 2) := by decide +kernel
theorem dX7_init_70 : decode cX7_init 70 = .ok (.putfield 46, 3) := by decide +kernel
theorem dX7_init_73 : decode cX7_init 73 = .ok (.aload_n 0, 1) := by decide +kernel
theorem dX7_init_74 : decode cX7_init 74 = .ok (.bipush 60, 2) := by decide +kernel
theorem dX7_init_76 : decode cX7_init 76 = .ok (.putfield 49, 3) := by decide +kernel
theorem dX7_init_79 : decode cX7_init 79 = .ok (.aload_n 0, 1) := by decide +kernel
theorem dX7_init_80 : decode cX7_init 80 = .ok (.bipush 60, 2) := by decide +kernel
theorem dX7_init_82 : decode cX7_init 82 = .ok (.putfield 52, 3) := by decide +kernel
theorem dX7_init_85 : decode cX7_init 85 = .ok (.iconst 0, 1) := by decide +kernel
theorem dX7_init_86 : decode cX7_init 86 = .ok (.istore_n 1, 1) := by decide +kernel
theorem dX7_init_87 : decode cX7_init 87 = .ok (.iload_n 1, 1) := by decide +kernel
theorem dX7_init_88 : decode cX7_init 88 = .ok (.bipush 7, 2) := by decide +kernel
theorem dX7_init_90 : decode cX7_init 90 = .ok (.if_icmp .ge 22, 3) := by decide +kernel
theorem dX7_init_93 : decode cX7_init 93 = .ok (.aload_n 0, 1) := by decide +kernel
theorem dX7_init_94 : decode cX7_init 94 = .ok (.getfield 26, 3) := by decide +kernel
theorem dX7_init_97 : decode cX7_init 97 = .ok (.iload_n 1, 1) := by decide +kernel
theorem dX7_init_98 : decode cX7_init 98 = .ok (.new 24, 3) := by decide +kernel
theorem dX7_init_101 : decode cX7_init 101 = .ok (.dup, 1) := by decide +kernel
theorem dX7_init_102 : decode cX7_init 102 = .ok (.invokespecial 55, 3) := by decide +kernel
theorem dX7_init_105 : decode cX7_init 105 = .ok (.aastore, 1) := by decide +kernel
theorem dX7_init_106 : decode cX7_init 106 = .ok (.iinc 1 1, 3) := by decide +kernel
theorem dX7_init_109 : decode cX7_init 109 = .ok (.goto (-22), 3) := by decide +kernel
theorem dX7_init_112 : decode cX7_init 112 = .ok (.return_, 1) := by decide +kernel
theorem dX7_clear_0 : decode cX7_clear 0 = .ok (.aload_n 0, 1) := by decide +kernel
theorem dX7_clear_1 : decode cX7_clear 1 = .ok (.iconst 0, 1) := by decide +kernel
theorem dX7_clear_2 : decode cX7_clear 2 = .ok (.putfield 56, 3) := by decide +kernel
theorem dX7_clear_5 : decode cX7_clear 5 = .ok (.aload_n 0, 1) := by decide +kernel
theorem dX7_clear_6 : decode cX7_clear 6 = .ok (.iconst 0, 1) := by decide +kernel
theorem dX7_clear_7 : decode cX7_clear 7 = .ok (.putfield 59, 3) := by decide +kernel
theorem dX7_clear_10 : decode cX7_clear 10 = .ok (.aload_n 0, 1) := by decide +kernel
theorem dX7_clear_11 : decode cX7_clear 11 = .ok (.getfield 35, 3) := by decide +kernel
theorem dX7_clear_14 : decode cX7_clear 14 = .ok (.iconst 0, 1) := by decide +kernel
theorem dX7_clear_15 : decode cX7_clear 15 = .ok (.putfield 62, 3) := by decide +kernel
theorem dX7_clear_18 : decode cX7_clear 18 = .ok (.aload_n 0, 1) := by decide +kernel
theorem dX7_clear_19 : decode cX7_clear 19 = .ok (.getfield 39, 3) := by decide +kernel
theorem dX7_clear_22 : decode cX7_clear 22 = .ok (.iconst 0, 1) := by decide +kernel
theorem dX7_clear_23 : decode cX7_clear 23 = .ok (.putfield 62, 3) := by decide +kernel
theorem dX7_clear_26 : decode cX7_clear 26 = .ok (.aload_n 0, 1) := by decide +kernel
theorem dX7_clear_27 : decode cX7_clear 27 = .ok (.iconst 5, 1) := by decide +kernel
theorem dX7_clear_28 : decode cX7_clear 28 = .ok (.putfield 42, 3) := by decide +kernel
theorem dX7_clear_31 : decode cX7_clear 31 = .ok (.aload_n 0, 1) := by decide +kernel
theorem dX7_clear_32 : decode cX7_clear 32 = .ok (.bipush 30, 2) := by decide +kernel
theorem dX7_clear_34 : decode cX7_clear 34 = .ok (.putfield 46, 3) := by decide +kernel
theorem dX7_clear_37 : decode cX7_clear 37 = .ok (.aload_n 0, 1) := by decide +kernel
theorem dX7_clear_38 : decode cX7_clear 38 = .ok (.iconst 0, 1) := by decide +kernel
theorem dX7_clear_39 : decode cX7_clear 39 = .ok (.putfield 65, 3) := by decide +kernel
theorem dX7_clear_42 : decode cX7_clear 42 = .ok (.aload_n 0, 1) := by decide +kernel
theorem dX7_clear_43 : decode cX7_clear 43 = .ok (.bipush 60, 2) := by decide +kernel
theorem dX7_clear_45 : decode cX7_clear 45 = .ok (.putfield 49, 3) := by decide +kernel
theorem dX7_clear_48 : decode cX7_clear 48 = .ok (.aload_n 0, 1) := by decide +kernel
theorem dX7_clear_49 : decode cX7_clear 49 = .ok (.bipush 60, 2) := by decide +kernel
theorem dX7_clear_51 : decode cX7_clear 51 = .ok (.putfield 52, 3) := by decide +kernel
theorem dX7_clear_54 : decode cX7_clear 54 = .ok (.aload_n 0, 1) := by decide +kernel
theorem dX7_clear_55 : decode cX7_clear 55 = .ok (.iconst 0, 1) := by decide +kernel
theorem dX7_clear_56 : decode cX7_clear 56 = .ok (.putfield 68, 3) := by decide +kernel
theorem dX7_clear_59 : decode cX7_clear 59 = .ok (.return_, 1) := by decide +kernel
theorem dX7_tuneNamed_0 : decode cX7_tuneNamed 0 = .ok (.iconst 0, 1) := by decide +kernel
theorem dX7_tuneNamed_1 : decode cX7_tuneNamed 1 = .ok (.istore_n 3, 1) := by decide +kernel
theorem dX7_tuneNamed_2 : decode cX7_tuneNamed 2 = .ok (.iload_n 3, 1) := by decide +kernel
theorem dX7_tuneNamed_3 : decode cX7_tuneNamed 3 = .ok (.aload_n 0, 1) := by decide +kernel
theorem dX7_tuneNamed_4 : decode cX7_tuneNamed 4 = .ok (.getfield 56, 3) := by decide +kernel
theorem dX7_tuneNamed_7 : decode cX7_tuneNamed 7 = .ok (.if_icmp .ge 27, 3) := by decide +kernel
theorem dX7_tuneNamed_10 : decode cX7_tuneNamed 10 = .ok (.iload_n 3, 1) := by decide +kernel
theorem dX7_tuneNamed_11 : decode cX7_tuneNamed 11 = .ok (.iconst 5, 1) := by decide +kernel
theorem dX7_tuneNamed_12 : decode cX7_tuneNamed 12 = .ok (.if_icmp .ge 22, 3) := by decide +kernel
theorem dX7_tuneNamed_15 : decode cX7_tuneNamed 15 = .ok (.aload_n 0, 1) := by decide +kernel
theorem dX7_tuneNamed_16 : decode cX7_tuneNamed 16 = .ok (.getfield 9, 3) := by decide +kernel
theorem dX7_tuneNamed_19 : decode cX7_tuneNamed 19 = .ok (.iload_n 3, 1) := by decide +kernel
theorem dX7_tuneNamed_20 : decode cX7_tuneNamed 20 = .ok (.laload, 1) := by decide +kernel
theorem dX7_tuneNamed_21 : decode cX7_tuneNamed 21 = .ok (.lload_n 1, 1) := by decide +kernel
theorem dX7_tuneNamed_22 : decode cX7_tuneNamed 22 = .ok (.lcmp, 1) := by decide +kernel
theorem dX7_tuneNamed_23 : decode cX7_tuneNamed 23 = .ok (.ifCond .ne 5, 3) := by decide +kernel
theorem dX7_tuneNamed_26 : decode cX7_tuneNamed 26 = .ok (.iload_n 3, 1) := by decide +kernel
theorem dX7_tuneNamed_27 : decode cX7_tuneNamed 27 = .ok (.ireturn, 1) := by decide +kernel
theorem dX7_tuneNamed_28 : decode cX7_tuneNamed 28 = .ok (.iinc 3 1, 3) := by decide +kernel
theorem dX7_tuneNamed_31 : decode cX7_tuneNamed 31 = .ok (.goto (-29), 3) := by decide +kernel
theorem dX7_tuneNamed_34 : decode cX7_tuneNamed 34 = .ok (.iconst (-1), 1) := by decide +kernel
theorem dX7_tuneNamed_35 : decode cX7_tuneNamed 35 = .ok (.ireturn, 1) := by decide +kernel
set_option maxRecDepth 20000 in
theorem ggX7_hasName_X7_tuneNamed : GoodIn wsX7_hasName wsX7_tuneNamed := goodIn_r _ [7, 8, 9, 10, 11, 12, 13, 14, 15, 16, 17, 18, 19, 20, 21, 22, 23] (by decide +kernel) (by decide +kernel)
set_option maxRecDepth 20000 in
theorem gX7_hasName_X7_tuneNamed : GoodIn wsX7_hasName (wsV RX7 75 RX7 yX7_tuneNamed wsX7_tuneNamed) := goodIn_app (goodIn_of _ (by decide +kernel)) ggX7_hasName_X7_tuneNamed
theorem dX7_hasName_0 : decode cX7_hasName 0 = .ok (.iconst 0, 1) := by decide +kernel
theorem dX7_hasName_1 : decode cX7_hasName 1 = .ok (.istore_n 3, 1) := by decide +kernel
theorem dX7_hasName_2 : decode cX7_hasName 2 = .ok (.iload_n 3, 1) := by decide +kernel
theorem dX7_hasName_3 : decode cX7_hasName 3 = .ok (.aload_n 0, 1) := by decide +kernel
theorem dX7_hasName_4 : decode cX7_hasName 4 = .ok (.getfield 59, 3) := by decide +kernel
theorem dX7_hasName_7 : decode cX7_hasName 7 = .ok (.if_icmp .ge 31, 3) := by decide +kernel
theorem dX7_hasName_10 : decode cX7_hasName 10 = .ok (.iload_n 3, 1) := by decide +kernel
theorem dX7_hasName_11 : decode cX7_hasName 11 = .ok (.bipush 7, 2) := by decide +kernel
theorem dX7_hasName_13 : decode cX7_hasName 13 = .ok (.if_icmp .ge 25, 3) := by decide +kernel
theorem dX7_hasName_16 : decode cX7_hasName 16 = .ok (.aload_n 0, 1) := by decide +kernel
theorem dX7_hasName_17 : decode cX7_hasName 17 = .ok (.getfield 26, 3) := by decide +kernel
theorem dX7_hasName_20 : decode cX7_hasName 20 = .ok (.iload_n 3, 1) := by decide +kernel
theorem dX7_hasName_21 : decode cX7_hasName 21 = .ok (.aaload, 1) := by decide +kernel
theorem dX7_hasName_22 : decode cX7_hasName 22 = .ok (.getfield 71, 3) := by decide +kernel
theorem dX7_hasName_25 : decode cX7_hasName 25 = .ok (.lload_n 1, 1) := by decide +kernel
theorem dX7_hasName_26 : decode cX7_hasName 26 = .ok (.lcmp, 1) := by decide +kernel
theorem dX7_hasName_27 : decode cX7_hasName 27 = .ok (.ifCond .ne 5, 3) := by decide +kernel
theorem dX7_hasName_30 : decode cX7_hasName 30 = .ok (.iconst 1, 1) := by decide +kernel
theorem dX7_hasName_31 : decode cX7_hasName 31 = .ok (.ireturn, 1) := by decide +kernel
theorem dX7_hasName_32 : decode cX7_hasName 32 = .ok (.iinc 3 1, 3) := by decide +kernel
theorem dX7_hasName_35 : decode cX7_hasName 35 = .ok (.goto (-33), 3) := by decide +kernel
theorem dX7_hasName_38 : decode cX7_hasName 38 = .ok (.aload_n 0, 1) := by decide +kernel
theorem dX7_hasName_39 : decode cX7_hasName 39 = .ok (.lload_n 1, 1) := by decide +kernel
theorem dX7_hasName_40 : decode cX7_hasName 40 = .ok (.invokevirtual 75, 3) := by decide +kernel
theorem dX7_hasName_43 : decode cX7_hasName 43 = .ok (.iconst (-1), 1) := by decide +kernel
theorem dX7_hasName_44 : decode cX7_hasName 44 = .ok (.if_icmp .eq 7, 3) := by decide +kernel
theorem dX7_hasName_47 : decode cX7_hasName 47 = .ok (.iconst 1, 1) := by decide +kernel
theorem dX7_hasName_48 : decode cX7_hasName 48 = .ok (.goto 4, 3) := by decide +kernel
theorem dX7_hasName_51 : decode cX7_hasName 51 = .ok (.iconst 0, 1) := by decide +kernel
theorem dX7_hasName_52 : decode cX7_hasName 52 = .ok (.ireturn, 1) := by decide +kernel
set_option maxRecDepth 20000 in
theorem ggX7_joyBy_X2_valueBy : GoodIn wsX7_joyBy wsX2_valueBy := goodIn_r _ [13, 14, 15, 16, 17, 18, 19, 12, 20, 21, 22, 23, 24, 25, 26, 27, 28, 43, 44, 45, 46, 47] (by decide +kernel) (by decide +kernel)
set_option maxRecDepth 20000 in
theorem gX7_joyBy_X2_valueBy : GoodIn wsX7_joyBy (wsV RX7 79 RX2 yX2_valueBy wsX2_valueBy) := goodIn_app (goodIn_of _ (by decide +kernel)) ggX7_joyBy_X2_valueBy
theorem dX7_joyBy_0 : decode cX7_joyBy 0 = .ok (.aload_n 0, 1) := by decide +kernel
theorem dX7_joyBy_1 : decode cX7_joyBy 1 = .ok (.getfield 35, 3) := by decide +kernel
theorem dX7_joyBy_4 : decode cX7_joyBy 4 = .ok (.getfield 62, 3) := by decide +kernel
theorem dX7_joyBy_7 : decode cX7_joyBy 7 = .ok (.ifCond .le 14, 3) := by decide +kernel
theorem dX7_joyBy_10 : decode cX7_joyBy 10 = .ok (.aload_n 0, 1) := by decide +kernel
theorem dX7_joyBy_11 : decode cX7_joyBy 11 = .ok (.getfield 35, 3) := by decide +kernel
theorem dX7_joyBy_14 : decode cX7_joyBy 14 = .ok (.aload_n 1, 1) := by decide +kernel
theorem dX7_joyBy_15 : decode cX7_joyBy 15 = .ok (.invokevirtual 79, 3) := by decide +kernel
theorem dX7_joyBy_18 : decode cX7_joyBy 18 = .ok (.goto 14, 3) := by decide +kernel
theorem dX7_joyBy_21 : decode cX7_joyBy 21 = .ok (.aload_n 1, 1) := by decide +kernel
theorem dX7_joyBy_22 : decode cX7_joyBy 22 = .ok (.iconst 0, 1) := by decide +kernel
theorem dX7_joyBy_23 : decode cX7_joyBy 23 = .ok (.iaload, 1) := by decide +kernel
theorem dX7_joyBy_24 : decode cX7_joyBy 24 = .ok (.aload_n 1, 1) := by decide +kernel
theorem dX7_joyBy_25 : decode cX7_joyBy 25 = .ok (.iconst 1, 1) := by decide +kernel
theorem dX7_joyBy_26 : decode cX7_joyBy 26 = .ok (.iaload, 1) := by decide +kernel
theorem dX7_joyBy_27 : decode cX7_joyBy 27 = .ok (.isub, 1) := by decide +kernel
theorem dX7_joyBy_28 : decode cX7_joyBy 28 = .ok (.aload_n 1, 1) := by decide +kernel
theorem dX7_joyBy_29 : decode cX7_joyBy 29 = .ok (.iconst 3, 1) := by decide +kernel
theorem dX7_joyBy_30 : decode cX7_joyBy 30 = .ok (.iaload, 1) := by decide +kernel
theorem dX7_joyBy_31 : decode cX7_joyBy 31 = .ok (.isub, 1) := by decide +kernel
theorem dX7_joyBy_32 : decode cX7_joyBy 32 = .ok (.istore_n 2, 1) := by decide +kernel
theorem dX7_joyBy_33 : decode cX7_joyBy 33 = .ok (.bipush (-99), 2) := by decide +kernel
theorem dX7_joyBy_35 : decode cX7_joyBy 35 = .ok (.bipush 99, 2) := by decide +kernel
theorem dX7_joyBy_37 : decode cX7_joyBy 37 = .ok (.iload_n 2, 1) := by decide +kernel
theorem dX7_joyBy_38 : decode cX7_joyBy 38 = .ok (.invokestatic 83, 3) := by decide +kernel
theorem dX7_joyBy_41 : decode cX7_joyBy 41 = .ok (.invokestatic 89, 3) := by decide +kernel
theorem dX7_joyBy_44 : decode cX7_joyBy 44 = .ok (.ireturn, 1) := by decide +kernel
set_option maxRecDepth 20000 in
theorem ggX7_wearBy_X2_valueBy : GoodIn wsX7_wearBy wsX2_valueBy := goodIn_r _ [13, 14, 15, 16, 17, 18, 19, 12, 20, 21, 22, 23, 24, 25, 26, 27, 28, 43, 44, 45, 46, 47] (by decide +kernel) (by decide +kernel)
set_option maxRecDepth 20000 in
theorem gX7_wearBy_X2_valueBy : GoodIn wsX7_wearBy (wsV RX7 79 RX2 yX2_valueBy wsX2_valueBy) := goodIn_app (goodIn_of _ (by decide +kernel)) ggX7_wearBy_X2_valueBy
theorem dX7_wearBy_0 : decode cX7_wearBy 0 = .ok (.aload_n 0, 1) := by decide +kernel
theorem dX7_wearBy_1 : decode cX7_wearBy 1 = .ok (.getfield 39, 3) := by decide +kernel
theorem dX7_wearBy_4 : decode cX7_wearBy 4 = .ok (.getfield 62, 3) := by decide +kernel
theorem dX7_wearBy_7 : decode cX7_wearBy 7 = .ok (.ifCond .le 14, 3) := by decide +kernel
theorem dX7_wearBy_10 : decode cX7_wearBy 10 = .ok (.aload_n 0, 1) := by decide +kernel
theorem dX7_wearBy_11 : decode cX7_wearBy 11 = .ok (.getfield 39, 3) := by decide +kernel
theorem dX7_wearBy_14 : decode cX7_wearBy 14 = .ok (.aload_n 1, 1) := by decide +kernel
theorem dX7_wearBy_15 : decode cX7_wearBy 15 = .ok (.invokevirtual 79, 3) := by decide +kernel
theorem dX7_wearBy_18 : decode cX7_wearBy 18 = .ok (.goto 4, 3) := by decide +kernel
theorem dX7_wearBy_21 : decode cX7_wearBy 21 = .ok (.iconst 1, 1) := by decide +kernel
theorem dX7_wearBy_22 : decode cX7_wearBy 22 = .ok (.istore_n 2, 1) := by decide +kernel
theorem dX7_wearBy_23 : decode cX7_wearBy 23 = .ok (.iconst 0, 1) := by decide +kernel
theorem dX7_wearBy_24 : decode cX7_wearBy 24 = .ok (.bipush 9, 2) := by decide +kernel
theorem dX7_wearBy_26 : decode cX7_wearBy 26 = .ok (.iload_n 2, 1) := by decide +kernel
theorem dX7_wearBy_27 : decode cX7_wearBy 27 = .ok (.invokestatic 83, 3) := by decide +kernel
theorem dX7_wearBy_30 : decode cX7_wearBy 30 = .ok (.invokestatic 89, 3) := by decide +kernel
theorem dX7_wearBy_33 : decode cX7_wearBy 33 = .ok (.ireturn, 1) := by decide +kernel
theorem dX8_init_0 : decode cX8_init 0 = .ok (.aload_n 0, 1) := by decide +kernel
theorem dX8_init_1 : decode cX8_init 1 = .ok (.invokespecial 3, 3) := by decide +kernel
theorem dX8_init_4 : decode cX8_init 4 = .ok (.aload_n 0, 1) := by decide +kernel
theorem dX8_init_5 : decode cX8_init 5 = .ok (.bipush 12, 2) := by decide +kernel
theorem dX8_init_7 : decode cX8_init 7 = .ok (.newarray .int, 2) := by decide +kernel
theorem dX8_init_9 : decode cX8_init 9 = .ok (.putfield 9, 3) := by decide +kernel
theorem dX8_init_12 : decode cX8_init 12 = .ok (.aload_n 0, 1) := by decide +kernel
theorem dX8_init_13 : decode cX8_init 13 = .ok (.bipush 120, 2) := by decide +kernel
theorem dX8_init_15 : decode cX8_init 15 = .ok (.newarray .int, 2) := by decide +kernel
theorem dX8_init_17 : decode cX8_init 17 = .ok (.putfield 15, 3) := by decide +kernel
theorem dX8_init_20 : decode cX8_init 20 = .ok (.return_, 1) := by decide +kernel
set_option maxRecDepth 20000 in
theorem ggX8_search_X8_playOnNew : GoodIn wsX8_search wsX8_playOnNew := goodIn_r _ [17, 12, 18, 19, 20, 21, 22, 23, 50, 51, 52, 53, 54, 36, 37, 38, 39, 40, 41, 42, 43, 44, 45, 46, 47, 48, 49, 55, 56, 57, 58, 59, 60, 61, 62, 63, 64, 65, 66, 67, 68, 69, 70, 71, 72, 73, 74, 75, 76, 77, 78] (by decide +kernel) (by decide +kernel)
set_option maxRecDepth 20000 in
theorem gX8_search_X8_playOnNew : GoodIn wsX8_search (wsV RX8 42 RX8 yX8_playOnNew wsX8_playOnNew) := goodIn_app (goodIn_of _ (by decide +kernel)) ggX8_search_X8_playOnNew
set_option maxRecDepth 20000 in
theorem ggX8_search_X0_allSo : GoodIn wsX8_search wsX0_allSo := goodIn_r _ [28, 29, 30, 31, 79, 80, 81] (by decide +kernel) (by decide +kernel)
set_option maxRecDepth 20000 in
theorem gX8_search_X0_allSo : GoodIn wsX8_search (wsV RX8 46 RX0 yX0_allSo wsX0_allSo) := goodIn_app (goodIn_of _ (by decide +kernel)) ggX8_search_X0_allSo
set_option maxRecDepth 20000 in
theorem ggX8_search_X8_tallyWear : GoodIn wsX8_search wsX8_tallyWear := goodIn_r _ [35, 12, 11, 50, 51, 52, 53, 54] (by decide +kernel) (by decide +kernel)
set_option maxRecDepth 20000 in
theorem gX8_search_X8_tallyWear : GoodIn wsX8_search (wsV RX8 52 RX8 yX8_tallyWear wsX8_tallyWear) := goodIn_app (goodIn_of _ (by decide +kernel)) ggX8_search_X8_tallyWear
theorem dX8_search_0 : decode cX8_search 0 = .ok (.iconst 0, 1) := by decide +kernel
theorem dX8_search_1 : decode cX8_search 1 = .ok (.bipush 7, 2) := by decide +kernel
theorem dX8_search_3 : decode cX8_search 3 = .ok (.aload_n 1, 1) := by decide +kernel
theorem dX8_search_4 : decode cX8_search 4 = .ok (.getfield 18, 3) := by decide +kernel
theorem dX8_search_7 : decode cX8_search 7 = .ok (.invokestatic 24, 3) := by decide +kernel
theorem dX8_search_10 : decode cX8_search 10 = .ok (.invokestatic 30, 3) := by decide +kernel
theorem dX8_search_13 : decode cX8_search 13 = .ok (.istore 4, 2) := by decide +kernel
theorem dX8_search_15 : decode cX8_search 15 = .ok (.iconst 1, 1) := by decide +kernel
theorem dX8_search_16 : decode cX8_search 16 = .ok (.iload 4, 2) := by decide +kernel
theorem dX8_search_18 : decode cX8_search 18 = .ok (.ishl, 1) := by decide +kernel
theorem dX8_search_19 : decode cX8_search 19 = .ok (.istore 5, 2) := by decide +kernel
theorem dX8_search_21 : decode cX8_search 21 = .ok (.aload_n 0, 1) := by decide +kernel
theorem dX8_search_22 : decode cX8_search 22 = .ok (.iconst 0, 1) := by decide +kernel
theorem dX8_search_23 : decode cX8_search 23 = .ok (.putfield 33, 3) := by decide +kernel
theorem dX8_search_26 : decode cX8_search 26 = .ok (.aload_n 0, 1) := by decide +kernel
theorem dX8_search_27 : decode cX8_search 27 = .ok (.iload 5, 2) := by decide +kernel
theorem dX8_search_29 : decode cX8_search 29 = .ok (.iconst 1, 1) := by decide +kernel
theorem dX8_search_30 : decode cX8_search 30 = .ok (.isub, 1) := by decide +kernel
theorem dX8_search_31 : decode cX8_search 31 = .ok (.putfield 36, 3) := by decide +kernel
theorem dX8_search_34 : decode cX8_search 34 = .ok (.aload_n 0, 1) := by decide +kernel
theorem dX8_search_35 : decode cX8_search 35 = .ok (.iconst 0, 1) := by decide +kernel
theorem dX8_search_36 : decode cX8_search 36 = .ok (.putfield 39, 3) := by decide +kernel
theorem dX8_search_39 : decode cX8_search 39 = .ok (.iconst 0, 1) := by decide +kernel
theorem dX8_search_40 : decode cX8_search 40 = .ok (.istore 6, 2) := by decide +kernel
theorem dX8_search_42 : decode cX8_search 42 = .ok (.iload 6, 2) := by decide +kernel
theorem dX8_search_44 : decode cX8_search 44 = .ok (.bipush 120, 2) := by decide +kernel
theorem dX8_search_46 : decode cX8_search 46 = .ok (.if_icmp .ge 17, 3) := by decide +kernel
theorem dX8_search_49 : decode cX8_search 49 = .ok (.aload_n 0, 1) := by decide +kernel
theorem dX8_search_50 : decode cX8_search 50 = .ok (.getfield 15, 3) := by decide +kernel
theorem dX8_search_53 : decode cX8_search 53 = .ok (.iload 6, 2) := by decide +kernel
theorem dX8_search_55 : decode cX8_search 55 = .ok (.iconst 0, 1) := by decide +kernel
theorem dX8_search_56 : decode cX8_search 56 = .ok (.iastore, 1) := by decide +kernel
theorem dX8_search_57 : decode cX8_search 57 = .ok (.iinc 6 1, 3) := by decide +kernel
theorem dX8_search_60 : decode cX8_search 60 = .ok (.goto (-18), 3) := by decide +kernel
theorem dX8_search_63 : decode cX8_search 63 = .ok (.iconst 0, 1) := by decide +kernel
theorem dX8_search_64 : decode cX8_search 64 = .ok (.istore 6, 2) := by decide +kernel
theorem dX8_search_66 : decode cX8_search 66 = .ok (.iload 6, 2) := by decide +kernel
theorem dX8_search_68 : decode cX8_search 68 = .ok (.iload 5, 2) := by decide +kernel
theorem dX8_search_70 : decode cX8_search 70 = .ok (.if_icmp .ge 66, 3) := by decide +kernel
theorem dX8_search_73 : decode cX8_search 73 = .ok (.aload_n 0, 1) := by decide +kernel
theorem dX8_search_74 : decode cX8_search 74 = .ok (.iload 6, 2) := by decide +kernel
theorem dX8_search_76 : decode cX8_search 76 = .ok (.iload 4, 2) := by decide +kernel
theorem dX8_search_78 : decode cX8_search 78 = .ok (.aload_n 1, 1) := by decide +kernel
theorem dX8_search_79 : decode cX8_search 79 = .ok (.aload_n 2, 1) := by decide +kernel
theorem dX8_search_80 : decode cX8_search 80 = .ok (.invokevirtual 42, 3) := by decide +kernel
theorem dX8_search_83 : decode cX8_search 83 = .ok (.aload_n 3, 1) := by decide +kernel
theorem dX8_search_84 : decode cX8_search 84 = .ok (.aload_n 0, 1) := by decide +kernel
theorem dX8_search_85 : decode cX8_search 85 = .ok (.getfield 9, 3) := by decide +kernel
theorem dX8_search_88 : decode cX8_search 88 = .ok (.invokevirtual 46, 3) := by decide +kernel
theorem dX8_search_91 : decode cX8_search 91 = .ok (.ifCond .eq 39, 3) := by decide +kernel
theorem dX8_search_94 : decode cX8_search 94 = .ok (.aload_n 0, 1) := by decide +kernel
theorem dX8_search_95 : decode cX8_search 95 = .ok (.dup, 1) := by decide +kernel
theorem dX8_search_96 : decode cX8_search 96 = .ok (.getfield 33, 3) := by decide +kernel
theorem dX8_search_99 : decode cX8_search 99 = .ok (.iconst 1, 1) := by decide +kernel
theorem dX8_search_100 : decode cX8_search 100 = .ok (.iadd, 1) := by decide +kernel
theorem dX8_search_101 : decode cX8_search 101 = .ok (.putfield 33, 3) := by decide +kernel
theorem dX8_search_104 : decode cX8_search 104 = .ok (.aload_n 0, 1) := by decide +kernel
theorem dX8_search_105 : decode cX8_search 105 = .ok (.dup, 1) := by decide +kernel
theorem dX8_search_106 : decode cX8_search 106 = .ok (.getfield 36, 3) := by decide +kernel
theorem dX8_search_109 : decode cX8_search 109 = .ok (.iload 6, 2) := by decide +kernel
theorem dX8_search_111 : decode cX8_search 111 = .ok (.iand, 1) := by decide +kernel
theorem dX8_search_112 : decode cX8_search 112 = .ok (.putfield 36, 3) := by decide +kernel
theorem dX8_search_115 : decode cX8_search 115 = .ok (.aload_n 0, 1) := by decide +kernel
theorem dX8_search_116 : decode cX8_search 116 = .ok (.dup, 1) := by decide +kernel
theorem dX8_search_117 : decode cX8_search 117 = .ok (.getfield 39, 3) := by decide +kernel
theorem dX8_search_120 : decode cX8_search 120 = .ok (.iload 6, 2) := by decide +kernel
theorem dX8_search_122 : decode cX8_search 122 = .ok (.ior, 1) := by decide +kernel
theorem dX8_search_123 : decode cX8_search 123 = .ok (.putfield 39, 3) := by decide +kernel
theorem dX8_search_126 : decode cX8_search 126 = .ok (.aload_n 0, 1) := by decide +kernel
theorem dX8_search_127 : decode cX8_search 127 = .ok (.invokevirtual 52, 3) := by decide +kernel
theorem dX8_search_130 : decode cX8_search 130 = .ok (.iinc 6 1, 3) := by decide +kernel
theorem dX8_search_133 : decode cX8_search 133 = .ok (.goto (-67), 3) := by decide +kernel
theorem dX8_search_136 : decode cX8_search 136 = .ok (.return_, 1) := by decide +kernel
theorem dX8_mostAlike_0 : decode cX8_mostAlike 0 = .ok (.iconst 0, 1) := by decide +kernel
theorem dX8_mostAlike_1 : decode cX8_mostAlike 1 = .ok (.istore_n 2, 1) := by decide +kernel
theorem dX8_mostAlike_2 : decode cX8_mostAlike 2 = .ok (.iconst 0, 1) := by decide +kernel
theorem dX8_mostAlike_3 : decode cX8_mostAlike 3 = .ok (.istore_n 3, 1) := by decide +kernel
theorem dX8_mostAlike_4 : decode cX8_mostAlike 4 = .ok (.iload_n 3, 1) := by decide +kernel
theorem dX8_mostAlike_5 : decode cX8_mostAlike 5 = .ok (.bipush 10, 2) := by decide +kernel
theorem dX8_mostAlike_7 : decode cX8_mostAlike 7 = .ok (.if_icmp .ge 41, 3) := by decide +kernel
theorem dX8_mostAlike_10 : decode cX8_mostAlike 10 = .ok (.iload_n 1, 1) := by decide +kernel
theorem dX8_mostAlike_11 : decode cX8_mostAlike 11 = .ok (.bipush 10, 2) := by decide +kernel
theorem dX8_mostAlike_13 : decode cX8_mostAlike 13 = .ok (.imul, 1) := by decide +kernel
theorem dX8_mostAlike_14 : decode cX8_mostAlike 14 = .ok (.iload_n 3, 1) := by decide +kernel
theorem dX8_mostAlike_15 : decode cX8_mostAlike 15 = .ok (.iadd, 1) := by decide +kernel
theorem dX8_mostAlike_16 : decode cX8_mostAlike 16 = .ok (.istore 4, 2) := by decide +kernel
theorem dX8_mostAlike_18 : decode cX8_mostAlike 18 = .ok (.iload 4, 2) := by decide +kernel
theorem dX8_mostAlike_20 : decode cX8_mostAlike 20 = .ok (.ifCond .lt 22, 3) := by decide +kernel
theorem dX8_mostAlike_23 : decode cX8_mostAlike 23 = .ok (.iload 4, 2) := by decide +kernel
theorem dX8_mostAlike_25 : decode cX8_mostAlike 25 = .ok (.bipush 120, 2) := by decide +kernel
theorem dX8_mostAlike_27 : decode cX8_mostAlike 27 = .ok (.if_icmp .ge 15, 3) := by decide +kernel
theorem dX8_mostAlike_30 : decode cX8_mostAlike 30 = .ok (.iload_n 2, 1) := by decide +kernel
theorem dX8_mostAlike_31 : decode cX8_mostAlike 31 = .ok (.aload_n 0, 1) := by decide +kernel
theorem dX8_mostAlike_32 : decode cX8_mostAlike 32 = .ok (.getfield 15, 3) := by decide +kernel
theorem dX8_mostAlike_35 : decode cX8_mostAlike 35 = .ok (.iload 4, 2) := by decide +kernel
theorem dX8_mostAlike_37 : decode cX8_mostAlike 37 = .ok (.iaload, 1) := by decide +kernel
theorem dX8_mostAlike_38 : decode cX8_mostAlike 38 = .ok (.invokestatic 30, 3) := by decide +kernel
theorem dX8_mostAlike_41 : decode cX8_mostAlike 41 = .ok (.istore_n 2, 1) := by decide +kernel
theorem dX8_mostAlike_42 : decode cX8_mostAlike 42 = .ok (.iinc 3 1, 3) := by decide +kernel
theorem dX8_mostAlike_45 : decode cX8_mostAlike 45 = .ok (.goto (-41), 3) := by decide +kernel
theorem dX8_mostAlike_48 : decode cX8_mostAlike 48 = .ok (.iload_n 2, 1) := by decide +kernel
theorem dX8_mostAlike_49 : decode cX8_mostAlike 49 = .ok (.ireturn, 1) := by decide +kernel
set_option maxRecDepth 20000 in
theorem ggX8_playOnNew_X1_strikeAll : GoodIn wsX8_playOnNew wsX1_strikeAll := goodIn_r _ [6, 7, 27, 28, 29, 30, 31, 32, 33, 34, 35, 36, 37, 38, 39, 40, 41, 42, 43, 44, 45, 46, 47, 48, 49, 50] (by decide +kernel) (by decide +kernel)
set_option maxRecDepth 20000 in
theorem gX8_playOnNew_X1_strikeAll : GoodIn wsX8_playOnNew (wsV RX8 59 RX1 yX1_strikeAll wsX1_strikeAll) := goodIn_app (goodIn_of _ (by decide +kernel)) ggX8_playOnNew_X1_strikeAll
theorem dX8_playOnNew_0 : decode cX8_playOnNew 0 = .ok (.iconst 0, 1) := by decide +kernel
theorem dX8_playOnNew_1 : decode cX8_playOnNew 1 = .ok (.istore 5, 2) := by decide +kernel
theorem dX8_playOnNew_3 : decode cX8_playOnNew 3 = .ok (.iload 5, 2) := by decide +kernel
theorem dX8_playOnNew_5 : decode cX8_playOnNew 5 = .ok (.bipush 12, 2) := by decide +kernel
theorem dX8_playOnNew_7 : decode cX8_playOnNew 7 = .ok (.if_icmp .ge 17, 3) := by decide +kernel
theorem dX8_playOnNew_10 : decode cX8_playOnNew 10 = .ok (.aload_n 0, 1) := by decide +kernel
theorem dX8_playOnNew_11 : decode cX8_playOnNew 11 = .ok (.getfield 9, 3) := by decide +kernel
theorem dX8_playOnNew_14 : decode cX8_playOnNew 14 = .ok (.iload 5, 2) := by decide +kernel
theorem dX8_playOnNew_16 : decode cX8_playOnNew 16 = .ok (.iconst 0, 1) := by decide +kernel
theorem dX8_playOnNew_17 : decode cX8_playOnNew 17 = .ok (.iastore, 1) := by decide +kernel
theorem dX8_playOnNew_18 : decode cX8_playOnNew 18 = .ok (.iinc 5 1, 3) := by decide +kernel
theorem dX8_playOnNew_21 : decode cX8_playOnNew 21 = .ok (.goto (-18), 3) := by decide +kernel
theorem dX8_playOnNew_24 : decode cX8_playOnNew 24 = .ok (.iconst 0, 1) := by decide +kernel
theorem dX8_playOnNew_25 : decode cX8_playOnNew 25 = .ok (.istore 5, 2) := by decide +kernel
theorem dX8_playOnNew_27 : decode cX8_playOnNew 27 = .ok (.iload 5, 2) := by decide +kernel
theorem dX8_playOnNew_29 : decode cX8_playOnNew 29 = .ok (.iload_n 2, 1) := by decide +kernel
theorem dX8_playOnNew_30 : decode cX8_playOnNew 30 = .ok (.if_icmp .ge 43, 3) := by decide +kernel
theorem dX8_playOnNew_33 : decode cX8_playOnNew 33 = .ok (.iload 5, 2) := by decide +kernel
theorem dX8_playOnNew_35 : decode cX8_playOnNew 35 = .ok (.bipush 7, 2) := by decide +kernel
theorem dX8_playOnNew_37 : decode cX8_playOnNew 37 = .ok (.if_icmp .ge 36, 3) := by decide +kernel
theorem dX8_playOnNew_40 : decode cX8_playOnNew 40 = .ok (.iload_n 1, 1) := by decide +kernel
theorem dX8_playOnNew_41 : decode cX8_playOnNew 41 = .ok (.iload 5, 2) := by decide +kernel
theorem dX8_playOnNew_43 : decode cX8_playOnNew 43 = .ok (.ishr, 1) := by decide +kernel
theorem dX8_playOnNew_44 : decode cX8_playOnNew 44 = .ok (.iconst 1, 1) := by decide +kernel
theorem dX8_playOnNew_45 : decode cX8_playOnNew 45 = .ok (.iand, 1) := by decide +kernel
theorem dX8_playOnNew_46 : decode cX8_playOnNew 46 = .ok (.ifCond .eq 21, 3) := by decide +kernel
theorem dX8_playOnNew_49 : decode cX8_playOnNew 49 = .ok (.aload 4, 2) := by decide +kernel
theorem dX8_playOnNew_51 : decode cX8_playOnNew 51 = .ok (.aload_n 3, 1) := by decide +kernel
theorem dX8_playOnNew_52 : decode cX8_playOnNew 52 = .ok (.getfield 55, 3) := by decide +kernel
theorem dX8_playOnNew_55 : decode cX8_playOnNew 55 = .ok (.iload 5, 2) := by decide +kernel
theorem dX8_playOnNew_57 : decode cX8_playOnNew 57 = .ok (.aaload, 1) := by decide +kernel
theorem dX8_playOnNew_58 : decode cX8_playOnNew 58 = .ok (.iload 5, 2) := by decide +kernel
theorem dX8_playOnNew_60 : decode cX8_playOnNew 60 = .ok (.aload_n 0, 1) := by decide +kernel
theorem dX8_playOnNew_61 : decode cX8_playOnNew 61 = .ok (.getfield 9, 3) := by decide +kernel
theorem dX8_playOnNew_64 : decode cX8_playOnNew 64 = .ok (.invokevirtual 59, 3) := by decide +kernel
theorem dX8_playOnNew_67 : decode cX8_playOnNew 67 = .ok (.iinc 5 1, 3) := by decide +kernel
theorem dX8_playOnNew_70 : decode cX8_playOnNew 70 = .ok (.goto (-43), 3) := by decide +kernel
theorem dX8_playOnNew_73 : decode cX8_playOnNew 73 = .ok (.return_, 1) := by decide +kernel
theorem dX8_tallyWear_0 : decode cX8_tallyWear 0 = .ok (.iconst 0, 1) := by decide +kernel
theorem dX8_tallyWear_1 : decode cX8_tallyWear 1 = .ok (.istore_n 1, 1) := by decide +kernel
theorem dX8_tallyWear_2 : decode cX8_tallyWear 2 = .ok (.iload_n 1, 1) := by decide +kernel
theorem dX8_tallyWear_3 : decode cX8_tallyWear 3 = .ok (.bipush 12, 2) := by decide +kernel
theorem dX8_tallyWear_5 : decode cX8_tallyWear 5 = .ok (.if_icmp .ge 41, 3) := by decide +kernel
theorem dX8_tallyWear_8 : decode cX8_tallyWear 8 = .ok (.iload_n 1, 1) := by decide +kernel
theorem dX8_tallyWear_9 : decode cX8_tallyWear 9 = .ok (.bipush 10, 2) := by decide +kernel
theorem dX8_tallyWear_11 : decode cX8_tallyWear 11 = .ok (.imul, 1) := by decide +kernel
theorem dX8_tallyWear_12 : decode cX8_tallyWear 12 = .ok (.aload_n 0, 1) := by decide +kernel
theorem dX8_tallyWear_13 : decode cX8_tallyWear 13 = .ok (.getfield 9, 3) := by decide +kernel
theorem dX8_tallyWear_16 : decode cX8_tallyWear 16 = .ok (.iload_n 1, 1) := by decide +kernel
theorem dX8_tallyWear_17 : decode cX8_tallyWear 17 = .ok (.iaload, 1) := by decide +kernel
theorem dX8_tallyWear_18 : decode cX8_tallyWear 18 = .ok (.iadd, 1) := by decide +kernel
theorem dX8_tallyWear_19 : decode cX8_tallyWear 19 = .ok (.istore_n 2, 1) := by decide +kernel
theorem dX8_tallyWear_20 : decode cX8_tallyWear 20 = .ok (.iload_n 2, 1) := by decide +kernel
theorem dX8_tallyWear_21 : decode cX8_tallyWear 21 = .ok (.ifCond .lt 19, 3) := by decide +kernel
theorem dX8_tallyWear_24 : decode cX8_tallyWear 24 = .ok (.iload_n 2, 1) := by decide +kernel
theorem dX8_tallyWear_25 : decode cX8_tallyWear 25 = .ok (.bipush 120, 2) := by decide +kernel
theorem dX8_tallyWear_27 : decode cX8_tallyWear 27 = .ok (.if_icmp .ge 13, 3) := by decide +kernel
theorem dX8_tallyWear_30 : decode cX8_tallyWear 30 = .ok (.aload_n 0, 1) := by decide +kernel
theorem dX8_tallyWear_31 : decode cX8_tallyWear 31 = .ok (.getfield 15, 3) := by decide +kernel
theorem dX8_tallyWear_34 : decode cX8_tallyWear 34 = .ok (.iload_n 2, 1) := by decide +kernel
theorem dX8_tallyWear_35 : decode cX8_tallyWear 35 = .ok (.dup2, 1) := by decide +kernel
theorem dX8_tallyWear_36 : decode cX8_tallyWear 36 = .ok (.iaload, 1) := by decide +kernel
theorem dX8_tallyWear_37 : decode cX8_tallyWear 37 = .ok (.iconst 1, 1) := by decide +kernel
theorem dX8_tallyWear_38 : decode cX8_tallyWear 38 = .ok (.iadd, 1) := by decide +kernel
theorem dX8_tallyWear_39 : decode cX8_tallyWear 39 = .ok (.iastore, 1) := by decide +kernel
theorem dX8_tallyWear_40 : decode cX8_tallyWear 40 = .ok (.iinc 1 1, 3) := by decide +kernel
theorem dX8_tallyWear_43 : decode cX8_tallyWear 43 = .ok (.goto (-41), 3) := by decide +kernel
theorem dX8_tallyWear_46 : decode cX8_tallyWear 46 = .ok (.return_, 1) := by decide +kernel
theorem dX9_init_0 : decode cX9_init 0 = .ok (.aload_n 0, 1) := by decide +kernel
theorem dX9_init_1 : decode cX9_init 1 = .ok (.invokespecial 3, 3) := by decide +kernel
theorem dX9_init_4 : decode cX9_init 4 = .ok (.aload_n 0, 1) := by decide +kernel
theorem dX9_init_5 : decode cX9_init 5 = .ok (.sipush 1000, 3) := by decide +kernel
theorem dX9_init_8 : decode cX9_init 8 = .ok (.newarray .byte, 2) := by decide +kernel
theorem dX9_init_10 : decode cX9_init 10 = .ok (.putfield 9, 3) := by decide +kernel
theorem dX9_init_13 : decode cX9_init 13 = .ok (.return_, 1) := by decide +kernel
theorem dX9_add_0 : decode cX9_add 0 = .ok (.aload_n 0, 1) := by decide +kernel
theorem dX9_add_1 : decode cX9_add 1 = .ok (.getfield 15, 3) := by decide +kernel
theorem dX9_add_4 : decode cX9_add 4 = .ok (.ifCond .lt 52, 3) := by decide +kernel
theorem dX9_add_7 : decode cX9_add 7 = .ok (.aload_n 0, 1) := by decide +kernel
theorem dX9_add_8 : decode cX9_add 8 = .ok (.getfield 15, 3) := by decide +kernel
theorem dX9_add_11 : decode cX9_add 11 = .ok (.sipush 1000, 3) := by decide +kernel
theorem dX9_add_14 : decode cX9_add 14 = .ok (.if_icmp .ge 42, 3) := by decide +kernel
theorem dX9_add_17 : decode cX9_add 17 = .ok (.iload_n 1, 1) := by decide +kernel
theorem dX9_add_18 : decode cX9_add 18 = .ok (.bipush 10, 2) := by decide +kernel
theorem dX9_add_20 : decode cX9_add 20 = .ok (.if_icmp .eq 15, 3) := by decide +kernel
theorem dX9_add_23 : decode cX9_add 23 = .ok (.iload_n 1, 1) := by decide +kernel
theorem dX9_add_24 : decode cX9_add 24 = .ok (.bipush 32, 2) := by decide +kernel
theorem dX9_add_26 : decode cX9_add 26 = .ok (.if_icmp .lt 30, 3) := by decide +kernel
theorem dX9_add_29 : decode cX9_add 29 = .ok (.iload_n 1, 1) := by decide +kernel
theorem dX9_add_30 : decode cX9_add 30 = .ok (.bipush 126, 2) := by decide +kernel
theorem dX9_add_32 : decode cX9_add 32 = .ok (.if_icmp .gt 24, 3) := by decide +kernel
theorem dX9_add_35 : decode cX9_add 35 = .ok (.aload_n 0, 1) := by decide +kernel
theorem dX9_add_36 : decode cX9_add 36 = .ok (.getfield 9, 3) := by decide +kernel
theorem dX9_add_39 : decode cX9_add 39 = .ok (.aload_n 0, 1) := by decide +kernel
theorem dX9_add_40 : decode cX9_add 40 = .ok (.getfield 15, 3) := by decide +kernel
theorem dX9_add_43 : decode cX9_add 43 = .ok (.iload_n 1, 1) := by decide +kernel
theorem dX9_add_44 : decode cX9_add 44 = .ok (.i2b, 1) := by decide +kernel
theorem dX9_add_45 : decode cX9_add 45 = .ok (.bastore, 1) := by decide +kernel
theorem dX9_add_46 : decode cX9_add 46 = .ok (.aload_n 0, 1) := by decide +kernel
theorem dX9_add_47 : decode cX9_add 47 = .ok (.dup, 1) := by decide +kernel
theorem dX9_add_48 : decode cX9_add 48 = .ok (.getfield 15, 3) := by decide +kernel
theorem dX9_add_51 : decode cX9_add 51 = .ok (.iconst 1, 1) := by decide +kernel
theorem dX9_add_52 : decode cX9_add 52 = .ok (.iadd, 1) := by decide +kernel
theorem dX9_add_53 : decode cX9_add 53 = .ok (.putfield 15, 3) := by decide +kernel
theorem dX9_add_56 : decode cX9_add 56 = .ok (.return_, 1) := by decide +kernel
set_option maxRecDepth 20000 in
theorem ggX9_rewind_X9_advance : GoodIn wsX9_rewind wsX9_advance := goodIn_r _ [6, 1, 7, 8, 9, 10, 11, 12, 13, 14, 15, 5, 16, 17, 18, 19, 20, 21, 22, 23, 24, 25, 26, 27, 28, 29, 30, 31, 32, 33, 34, 35, 36, 37, 38, 39, 40, 41, 42, 43, 44, 45, 46, 47, 48, 49, 50, 51, 52, 53, 54, 55, 56, 57, 58, 59, 60, 61, 62, 63, 64, 65, 66, 67, 68, 69, 70, 71, 72, 73, 74, 75, 76, 77, 78, 79, 80, 81, 82, 83, 84, 85, 86, 87, 88, 89, 90, 91, 92, 93, 94, 95, 96, 97, 98, 99, 100, 101, 102, 103, 104, 105, 106, 107, 108, 109, 110, 111, 112, 113, 114, 115, 116, 117, 118, 119, 120, 121, 122, 123, 124, 125, 126, 127, 128, 129, 130, 131, 132, 133, 134, 135, 136, 137] (by decide +kernel) (by decide +kernel)
set_option maxRecDepth 20000 in
theorem gX9_rewind_X9_advance : GoodIn wsX9_rewind (wsV RX9 22 RX9 yX9_advance wsX9_advance) := goodIn_app (goodIn_of _ (by decide +kernel)) ggX9_rewind_X9_advance
theorem dX9_rewind_0 : decode cX9_rewind 0 = .ok (.aload_n 0, 1) := by decide +kernel
theorem dX9_rewind_1 : decode cX9_rewind 1 = .ok (.iconst 0, 1) := by decide +kernel
theorem dX9_rewind_2 : decode cX9_rewind 2 = .ok (.putfield 19, 3) := by decide +kernel
theorem dX9_rewind_5 : decode cX9_rewind 5 = .ok (.aload_n 0, 1) := by decide +kernel
theorem dX9_rewind_6 : decode cX9_rewind 6 = .ok (.invokevirtual 22, 3) := by decide +kernel
theorem dX9_rewind_9 : decode cX9_rewind 9 = .ok (.return_, 1) := by decide +kernel
set_option maxRecDepth 20000 in
theorem ggX9_advance_X9_signAt : GoodIn wsX9_advance wsX9_signAt := goodIn_r _ [12, 2, 13, 127, 128, 129, 130, 131, 132, 133] (by decide +kernel) (by decide +kernel)
set_option maxRecDepth 20000 in
theorem gX9_advance_X9_signAt : GoodIn wsX9_advance (wsV RX9 25 RX9 yX9_signAt wsX9_signAt) := goodIn_app (goodIn_of _ (by decide +kernel)) ggX9_advance_X9_signAt
set_option maxRecDepth 20000 in
theorem ggX9_advance_X9_wordNumber : GoodIn wsX9_advance wsX9_wordNumber := goodIn_r _ [16, 6, 17, 18, 19, 20, 21, 22, 23, 24, 25, 26, 27, 28, 29, 30, 31, 32, 33, 34, 35, 36, 37, 38, 39, 40, 41, 42, 43, 44, 45, 46, 47, 48, 49, 50, 51, 52, 53, 54, 55, 56, 57, 58, 59, 60, 61, 62, 63, 64, 65] (by decide +kernel) (by decide +kernel)
set_option maxRecDepth 20000 in
theorem gX9_advance_X9_wordNumber : GoodIn wsX9_advance (va_wsS RX9 41 yX9_wordNumber wsX9_wordNumber) := goodIn_app (goodIn_of _ (by decide +kernel)) ggX9_advance_X9_wordNumber
set_option maxRecDepth 20000 in
theorem ggX9_advance_J0_indexOf_0f7a4 : GoodIn wsX9_advance wsJ0_indexOf_0f7a4 := goodIn_r _ [69, 70, 71, 72, 20, 73, 22, 33, 34, 35, 36, 27, 28, 74, 18, 19, 21, 23, 24, 25, 26, 75, 76, 39, 77, 78, 79, 80, 81, 82, 83, 84, 85, 86, 87, 88, 89, 90, 91, 92, 51, 93, 94, 95, 96, 97, 98, 99, 100, 101, 102, 56, 57, 58, 103, 104, 105, 44, 106, 107, 47, 108, 109, 110, 111, 60, 61, 62, 63, 64, 65, 112, 113, 114, 115, 116, 117, 118, 119, 120, 121, 122, 123, 124, 125, 126] (by decide +kernel) (by decide +kernel)
set_option maxRecDepth 20000 in
theorem gX9_advance_J0_indexOf_0f7a4 : GoodIn wsX9_advance (wsV RX9 50 RJ0 yJ0_indexOf_0f7a4 wsJ0_indexOf_0f7a4) := goodIn_app (goodIn_of _ (by decide +kernel)) ggX9_advance_J0_indexOf_0f7a4
theorem dX9_advance_0 : decode cX9_advance 0 = .ok (.aload_n 0, 1) := by decide +kernel
theorem dX9_advance_1 : decode cX9_advance 1 = .ok (.getfield 19, 3) := by decide +kernel
theorem dX9_advance_4 : decode cX9_advance 4 = .ok (.aload_n 0, 1) := by decide +kernel
theorem dX9_advance_5 : decode cX9_advance 5 = .ok (.getfield 15, 3) := by decide +kernel
theorem dX9_advance_8 : decode cX9_advance 8 = .ok (.if_icmp .ge 42, 3) := by decide +kernel
theorem dX9_advance_11 : decode cX9_advance 11 = .ok (.aload_n 0, 1) := by decide +kernel
theorem dX9_advance_12 : decode cX9_advance 12 = .ok (.aload_n 0, 1) := by decide +kernel
theorem dX9_advance_13 : decode cX9_advance 13 = .ok (.getfield 19, 3) := by decide +kernel
theorem dX9_advance_16 : decode cX9_advance 16 = .ok (.invokevirtual 25, 3) := by decide +kernel
theorem dX9_advance_19 : decode cX9_advance 19 = .ok (.bipush 10, 2) := by decide +kernel
theorem dX9_advance_21 : decode cX9_advance 21 = .ok (.if_icmp .eq 16, 3) := by decide +kernel
theorem dX9_advance_24 : decode cX9_advance 24 = .ok (.aload_n 0, 1) := by decide +kernel
theorem dX9_advance_25 : decode cX9_advance 25 = .ok (.aload_n 0, 1) := by decide +kernel
theorem dX9_advance_26 : decode cX9_advance 26 = .ok (.getfield 19, 3) := by decide +kernel
theorem dX9_advance_29 : decode cX9_advance 29 = .ok (.invokevirtual 25, 3) := by decide +kernel
theorem dX9_advance_32 : decode cX9_advance 32 = .ok (.bipush 32, 2) := by decide +kernel
theorem dX9_advance_34 : decode cX9_advance 34 = .ok (.if_icmp .ne 16, 3) := by decide +kernel
theorem dX9_advance_37 : decode cX9_advance 37 = .ok (.aload_n 0, 1) := by decide +kernel
theorem dX9_advance_38 : decode cX9_advance 38 = .ok (.dup, 1) := by decide +kernel
theorem dX9_advance_39 : decode cX9_advance 39 = .ok (.getfield 19, 3) := by decide +kernel
theorem dX9_advance_42 : decode cX9_advance 42 = .ok (.iconst 1, 1) := by decide +kernel
theorem dX9_advance_43 : decode cX9_advance 43 = .ok (.iadd, 1) := by decide +kernel
theorem dX9_advance_44 : decode cX9_advance 44 = .ok (.putfield 19, 3) := by decide +kernel
theorem dX9_advance_47 : decode cX9_advance 47 = .ok (.goto (-47), 3) := by decide +kernel
theorem dX9_advance_50 : decode cX9_advance 50 = .ok (.aload_n 0, 1) := by decide +kernel
theorem dX9_advance_51 : decode cX9_advance 51 = .ok (.aload_n 0, 1) := by decide +kernel
theorem dX9_advance_52 : decode cX9_advance 52 = .ok (.getfield 19, 3) := by decide +kernel
theorem dX9_advance_55 : decode cX9_advance 55 = .ok (.putfield 29, 3) := by decide +kernel
theorem dX9_advance_58 : decode cX9_advance 58 = .ok (.aload_n 0, 1) := by decide +kernel
theorem dX9_advance_59 : decode cX9_advance 59 = .ok (.getfield 29, 3) := by decide +kernel
theorem dX9_advance_62 : decode cX9_advance 62 = .ok (.aload_n 0, 1) := by decide +kernel
theorem dX9_advance_63 : decode cX9_advance 63 = .ok (.getfield 15, 3) := by decide +kernel
theorem dX9_advance_66 : decode cX9_advance 66 = .ok (.if_icmp .lt 10, 3) := by decide +kernel
theorem dX9_advance_69 : decode cX9_advance 69 = .ok (.aload_n 0, 1) := by decide +kernel
theorem dX9_advance_70 : decode cX9_advance 70 = .ok (.bipush 101, 2) := by decide +kernel
theorem dX9_advance_72 : decode cX9_advance 72 = .ok (.putfield 32, 3) := by decide +kernel
theorem dX9_advance_75 : decode cX9_advance 75 = .ok (.return_, 1) := by decide +kernel
theorem dX9_advance_76 : decode cX9_advance 76 = .ok (.aload_n 0, 1) := by decide +kernel
theorem dX9_advance_77 : decode cX9_advance 77 = .ok (.lconst 0, 1) := by decide +kernel
theorem dX9_advance_78 : decode cX9_advance 78 = .ok (.putfield 35, 3) := by decide +kernel
theorem dX9_advance_81 : decode cX9_advance 81 = .ok (.aload_n 0, 1) := by decide +kernel
theorem dX9_advance_82 : decode cX9_advance 82 = .ok (.getfield 19, 3) := by decide +kernel
theorem dX9_advance_85 : decode cX9_advance 85 = .ok (.aload_n 0, 1) := by decide +kernel
theorem dX9_advance_86 : decode cX9_advance 86 = .ok (.getfield 15, 3) := by decide +kernel
theorem dX9_advance_89 : decode cX9_advance 89 = .ok (.if_icmp .ge 69, 3) := by decide +kernel
theorem dX9_advance_92 : decode cX9_advance 92 = .ok (.aload_n 0, 1) := by decide +kernel
theorem dX9_advance_93 : decode cX9_advance 93 = .ok (.aload_n 0, 1) := by decide +kernel
theorem dX9_advance_94 : decode cX9_advance 94 = .ok (.getfield 19, 3) := by decide +kernel
theorem dX9_advance_97 : decode cX9_advance 97 = .ok (.invokevirtual 25, 3) := by decide +kernel
theorem dX9_advance_100 : decode cX9_advance 100 = .ok (.bipush 97, 2) := by decide +kernel
theorem dX9_advance_102 : decode cX9_advance 102 = .ok (.if_icmp .lt 56, 3) := by decide +kernel
theorem dX9_advance_105 : decode cX9_advance 105 = .ok (.aload_n 0, 1) := by decide +kernel
theorem dX9_advance_106 : decode cX9_advance 106 = .ok (.aload_n 0, 1) := by decide +kernel
theorem dX9_advance_107 : decode cX9_advance 107 = .ok (.getfield 19, 3) := by decide +kernel
theorem dX9_advance_110 : decode cX9_advance 110 = .ok (.invokevirtual 25, 3) := by decide +kernel
theorem dX9_advance_113 : decode cX9_advance 113 = .ok (.bipush 122, 2) := by decide +kernel
theorem dX9_advance_115 : decode cX9_advance 115 = .ok (.if_icmp .gt 43, 3) := by decide +kernel
theorem dX9_advance_118 : decode cX9_advance 118 = .ok (.aload_n 0, 1) := by decide +kernel
theorem dX9_advance_119 : decode cX9_advance 119 = .ok (.aload_n 0, 1) := by decide +kernel
theorem dX9_advance_120 : decode cX9_advance 120 = .ok (.getfield 35, 3) := by decide +kernel
theorem dX9_advance_123 : decode cX9_advance 123 = .ok (.ldc2_w 39, 3) := by decide +kernel
theorem dX9_advance_126 : decode cX9_advance 126 = .ok (.lmul, 1) := by decide +kernel
theorem dX9_advance_127 : decode cX9_advance 127 = .ok (.aload_n 0, 1) := by decide +kernel
theorem dX9_advance_128 : decode cX9_advance 128 = .ok (.aload_n 0, 1) := by decide +kernel
theorem dX9_advance_129 : decode cX9_advance 129 = .ok (.getfield 19, 3) := by decide +kernel
theorem dX9_advance_132 : decode cX9_advance 132 = .ok (.invokevirtual 25, 3) := by decide +kernel
theorem dX9_advance_135 : decode cX9_advance 135 = .ok (.bipush 97, 2) := by decide +kernel
theorem dX9_advance_137 : decode cX9_advance 137 = .ok (.isub, 1) := by decide +kernel
theorem dX9_advance_138 : decode cX9_advance 138 = .ok (.iconst 1, 1) := by decide +kernel
theorem dX9_advance_139 : decode cX9_advance 139 = .ok (.iadd, 1) := by decide +kernel
theorem dX9_advance_140 : decode cX9_advance 140 = .ok (.i2l, 1) := by decide +kernel
theorem dX9_advance_141 : decode cX9_advance 141 = .ok (.ladd, 1) := by decide +kernel
theorem dX9_advance_142 : decode cX9_advance 142 = .ok (.putfield 35, 3) := by decide +kernel
theorem dX9_advance_145 : decode cX9_advance 145 = .ok (.aload_n 0, 1) := by decide +kernel
theorem dX9_advance_146 : decode cX9_advance 146 = .ok (.dup, 1) := by decide +kernel
theorem dX9_advance_147 : decode cX9_advance 147 = .ok (.getfield 19, 3) := by decide +kernel
theorem dX9_advance_150 : decode cX9_advance 150 = .ok (.iconst 1, 1) := by decide +kernel
theorem dX9_advance_151 : decode cX9_advance 151 = .ok (.iadd, 1) := by decide +kernel
theorem dX9_advance_152 : decode cX9_advance 152 = .ok (.putfield 19, 3) := by decide +kernel
theorem dX9_advance_155 : decode cX9_advance 155 = .ok (.goto (-74), 3) := by decide +kernel
theorem dX9_advance_158 : decode cX9_advance 158 = .ok (.aload_n 0, 1) := by decide +kernel
theorem dX9_advance_159 : decode cX9_advance 159 = .ok (.getfield 19, 3) := by decide +kernel
theorem dX9_advance_162 : decode cX9_advance 162 = .ok (.aload_n 0, 1) := by decide +kernel
theorem dX9_advance_163 : decode cX9_advance 163 = .ok (.getfield 29, 3) := by decide +kernel
theorem dX9_advance_166 : decode cX9_advance 166 = .ok (.if_icmp .le 34, 3) := by decide +kernel
theorem dX9_advance_169 : decode cX9_advance 169 = .ok (.aload_n 0, 1) := by decide +kernel
theorem dX9_advance_170 : decode cX9_advance 170 = .ok (.aload_n 0, 1) := by decide +kernel
theorem dX9_advance_171 : decode cX9_advance 171 = .ok (.getfield 19, 3) := by decide +kernel
theorem dX9_advance_174 : decode cX9_advance 174 = .ok (.aload_n 0, 1) := by decide +kernel
theorem dX9_advance_175 : decode cX9_advance 175 = .ok (.getfield 29, 3) := by decide +kernel
theorem dX9_advance_178 : decode cX9_advance 178 = .ok (.isub, 1) := by decide +kernel
theorem dX9_advance_179 : decode cX9_advance 179 = .ok (.bipush 8, 2) := by decide +kernel
theorem dX9_advance_181 : decode cX9_advance 181 = .ok (.if_icmp .le 8, 3) := by decide +kernel
theorem dX9_advance_184 : decode cX9_advance 184 = .ok (.bipush 102, 2) := by decide +kernel
theorem dX9_advance_186 : decode cX9_advance 186 = .ok (.goto 10, 3) := by decide +kernel
theorem dX9_advance_189 : decode cX9_advance 189 = .ok (.aload_n 0, 1) := by decide +kernel
theorem dX9_advance_190 : decode cX9_advance 190 = .ok (.getfield 35, 3) := by decide +kernel
theorem dX9_advance_193 : decode cX9_advance 193 = .ok (.invokestatic 41, 3) := by decide +kernel
theorem dX9_advance_196 : decode cX9_advance 196 = .ok (.putfield 32, 3) := by decide +kernel
theorem dX9_advance_199 : decode cX9_advance 199 = .ok (.return_, 1) := by decide +kernel
theorem dX9_advance_200 : decode cX9_advance 200 = .ok (.aload_n 0, 1) := by decide +kernel
theorem dX9_advance_201 : decode cX9_advance 201 = .ok (.iconst 0, 1) := by decide +kernel
theorem dX9_advance_202 : decode cX9_advance 202 = .ok (.putfield 45, 3) := by decide +kernel
theorem dX9_advance_205 : decode cX9_advance 205 = .ok (.aload_n 0, 1) := by decide +kernel
theorem dX9_advance_206 : decode cX9_advance 206 = .ok (.getfield 19, 3) := by decide +kernel
theorem dX9_advance_209 : decode cX9_advance 209 = .ok (.aload_n 0, 1) := by decide +kernel
theorem dX9_advance_210 : decode cX9_advance 210 = .ok (.getfield 15, 3) := by decide +kernel
theorem dX9_advance_213 : decode cX9_advance 213 = .ok (.if_icmp .ge 65, 3) := by decide +kernel
theorem dX9_advance_216 : decode cX9_advance 216 = .ok (.aload_n 0, 1) := by decide +kernel
theorem dX9_advance_217 : decode cX9_advance 217 = .ok (.aload_n 0, 1) := by decide +kernel
theorem dX9_advance_218 : decode cX9_advance 218 = .ok (.getfield 19, 3) := by decide +kernel
theorem dX9_advance_221 : decode cX9_advance 221 = .ok (.invokevirtual 25, 3) := by decide +kernel
theorem dX9_advance_224 : decode cX9_advance 224 = .ok (.bipush 48, 2) := by decide +kernel
theorem dX9_advance_226 : decode cX9_advance 226 = .ok (.if_icmp .lt 52, 3) := by decide +kernel
theorem dX9_advance_229 : decode cX9_advance 229 = .ok (.aload_n 0, 1) := by decide +kernel
theorem dX9_advance_230 : decode cX9_advance 230 = .ok (.aload_n 0, 1) := by decide +kernel
theorem dX9_advance_231 : decode cX9_advance 231 = .ok (.getfield 19, 3) := by decide +kernel
theorem dX9_advance_234 : decode cX9_advance 234 = .ok (.invokevirtual 25, 3) := by decide +kernel
theorem dX9_advance_237 : decode cX9_advance 237 = .ok (.bipush 57, 2) := by decide +kernel
theorem dX9_advance_239 : decode cX9_advance 239 = .ok (.if_icmp .gt 39, 3) := by decide +kernel
theorem dX9_advance_242 : decode cX9_advance 242 = .ok (.aload_n 0, 1) := by decide +kernel
theorem dX9_advance_243 : decode cX9_advance 243 = .ok (.aload_n 0, 1) := by decide +kernel
theorem dX9_advance_244 : decode cX9_advance 244 = .ok (.getfield 45, 3) := by decide +kernel
theorem dX9_advance_247 : decode cX9_advance 247 = .ok (.bipush 10, 2) := by decide +kernel
theorem dX9_advance_249 : decode cX9_advance 249 = .ok (.imul, 1) := by decide +kernel
theorem dX9_advance_250 : decode cX9_advance 250 = .ok (.aload_n 0, 1) := by decide +kernel
theorem dX9_advance_251 : decode cX9_advance 251 = .ok (.aload_n 0, 1) := by decide +kernel
theorem dX9_advance_252 : decode cX9_advance 252 = .ok (.getfield 19, 3) := by decide +kernel
theorem dX9_advance_255 : decode cX9_advance 255 = .ok (.invokevirtual 25, 3) := by decide +kernel
theorem dX9_advance_258 : decode cX9_advance 258 = .ok (.iadd, 1) := by decide +kernel
theorem dX9_advance_259 : decode cX9_advance 259 = .ok (.bipush 48, 2) := by decide +kernel
theorem dX9_advance_261 : decode cX9_advance 261 = .ok (.isub, 1) := by decide +kernel
theorem dX9_advance_262 : decode cX9_advance 262 = .ok (.putfield 45, 3) := by decide +kernel
theorem dX9_advance_265 : decode cX9_advance 265 = .ok (.aload_n 0, 1) := by decide +kernel
theorem dX9_advance_266 : decode cX9_advance 266 = .ok (.dup, 1) := by decide +kernel
theorem dX9_advance_267 : decode cX9_advance 267 = .ok (.getfield 19, 3) := by decide +kernel
theorem dX9_advance_270 : decode cX9_advance 270 = .ok (.iconst 1, 1) := by decide +kernel
theorem dX9_advance_271 : decode cX9_advance 271 = .ok (.iadd, 1) := by decide +kernel
theorem dX9_advance_272 : decode cX9_advance 272 = .ok (.putfield 19, 3) := by decide +kernel
theorem dX9_advance_275 : decode cX9_advance 275 = .ok (.goto (-70), 3) := by decide +kernel
theorem dX9_advance_278 : decode cX9_advance 278 = .ok (.aload_n 0, 1) := by decide +kernel
theorem dX9_advance_279 : decode cX9_advance 279 = .ok (.getfield 19, 3) := by decide +kernel
theorem dX9_advance_282 : decode cX9_advance 282 = .ok (.aload_n 0, 1) := by decide +kernel
theorem dX9_advance_283 : decode cX9_advance 283 = .ok (.getfield 29, 3) := by decide +kernel
theorem dX9_advance_286 : decode cX9_advance 286 = .ok (.if_icmp .le 28, 3) := by decide +kernel
theorem dX9_advance_289 : decode cX9_advance 289 = .ok (.aload_n 0, 1) := by decide +kernel
theorem dX9_advance_290 : decode cX9_advance 290 = .ok (.aload_n 0, 1) := by decide +kernel
theorem dX9_advance_291 : decode cX9_advance 291 = .ok (.getfield 19, 3) := by decide +kernel
theorem dX9_advance_294 : decode cX9_advance 294 = .ok (.aload_n 0, 1) := by decide +kernel
theorem dX9_advance_295 : decode cX9_advance 295 = .ok (.getfield 29, 3) := by decide +kernel
theorem dX9_advance_298 : decode cX9_advance 298 = .ok (.isub, 1) := by decide +kernel
theorem dX9_advance_299 : decode cX9_advance 299 = .ok (.iconst 4, 1) := by decide +kernel
theorem dX9_advance_300 : decode cX9_advance 300 = .ok (.if_icmp .le 8, 3) := by decide +kernel
theorem dX9_advance_303 : decode cX9_advance 303 = .ok (.bipush 102, 2) := by decide +kernel
theorem dX9_advance_305 : decode cX9_advance 305 = .ok (.goto 5, 3) := by decide +kernel
theorem dX9_advance_308 : decode cX9_advance 308 = .ok (.bipush 100, 2) := by decide +kernel
theorem dX9_advance_310 : decode cX9_advance 310 = .ok (.putfield 32, 3) := by decide +kernel
theorem dX9_advance_313 : decode cX9_advance 313 = .ok (.return_, 1) := by decide +kernel
theorem dX9_advance_314 : decode cX9_advance 314 = .ok (.aload_n 0, 1) := by decide +kernel
theorem dX9_advance_315 : decode cX9_advance 315 = .ok (.ldc 48, 2) := by decide +kernel
theorem dX9_advance_317 : decode cX9_advance 317 = .ok (.aload_n 0, 1) := by decide +kernel
theorem dX9_advance_318 : decode cX9_advance 318 = .ok (.aload_n 0, 1) := by decide +kernel
theorem dX9_advance_319 : decode cX9_advance 319 = .ok (.getfield 29, 3) := by decide +kernel
theorem dX9_advance_322 : decode cX9_advance 322 = .ok (.invokevirtual 25, 3) := by decide +kernel
theorem dX9_advance_325 : decode cX9_advance 325 = .ok (.i2c, 1) := by decide +kernel
theorem dX9_advance_326 : decode cX9_advance 326 = .ok (.invokevirtual 50, 3) := by decide +kernel
theorem dX9_advance_329 : decode cX9_advance 329 = .ok (.ifCond .lt 14, 3) := by decide +kernel
theorem dX9_advance_332 : decode cX9_advance 332 = .ok (.aload_n 0, 1) := by decide +kernel
theorem dX9_advance_333 : decode cX9_advance 333 = .ok (.aload_n 0, 1) := by decide +kernel
theorem dX9_advance_334 : decode cX9_advance 334 = .ok (.getfield 29, 3) := by decide +kernel
theorem dX9_advance_337 : decode cX9_advance 337 = .ok (.invokevirtual 25, 3) := by decide +kernel
theorem dX9_advance_340 : decode cX9_advance 340 = .ok (.goto 5, 3) := by decide +kernel
theorem dX9_advance_343 : decode cX9_advance 343 = .ok (.bipush 102, 2) := by decide +kernel
theorem dX9_advance_345 : decode cX9_advance 345 = .ok (.putfield 32, 3) := by decide +kernel
theorem dX9_advance_348 : decode cX9_advance 348 = .ok (.aload_n 0, 1) := by decide +kernel
theorem dX9_advance_349 : decode cX9_advance 349 = .ok (.dup, 1) := by decide +kernel
theorem dX9_advance_350 : decode cX9_advance 350 = .ok (.getfield 19, 3) := by decide +kernel
theorem dX9_advance_353 : decode cX9_advance 353 = .ok (.iconst 1, 1) := by decide +kernel
theorem dX9_advance_354 : decode cX9_advance 354 = .ok (.iadd, 1) := by decide +kernel
theorem dX9_advance_355 : decode cX9_advance 355 = .ok (.putfield 19, 3) := by decide +kernel
theorem dX9_advance_358 : decode cX9_advance 358 = .ok (.return_, 1) := by decide +kernel
theorem dX9_signAt_0 : decode cX9_signAt 0 = .ok (.iload_n 1, 1) := by decide +kernel
theorem dX9_signAt_1 : decode cX9_signAt 1 = .ok (.ifCond .lt 27, 3) := by decide +kernel
theorem dX9_signAt_4 : decode cX9_signAt 4 = .ok (.iload_n 1, 1) := by decide +kernel
theorem dX9_signAt_5 : decode cX9_signAt 5 = .ok (.aload_n 0, 1) := by decide +kernel
theorem dX9_signAt_6 : decode cX9_signAt 6 = .ok (.getfield 15, 3) := by decide +kernel
theorem dX9_signAt_9 : decode cX9_signAt 9 = .ok (.if_icmp .ge 19, 3) := by decide +kernel
theorem dX9_signAt_12 : decode cX9_signAt 12 = .ok (.iload_n 1, 1) := by decide +kernel
theorem dX9_signAt_13 : decode cX9_signAt 13 = .ok (.sipush 1000, 3) := by decide +kernel
theorem dX9_signAt_16 : decode cX9_signAt 16 = .ok (.if_icmp .ge 12, 3) := by decide +kernel
theorem dX9_signAt_19 : decode cX9_signAt 19 = .ok (.aload_n 0, 1) := by decide +kernel
theorem dX9_signAt_20 : decode cX9_signAt 20 = .ok (.getfield 9, 3) := by decide +kernel
theorem dX9_signAt_23 : decode cX9_signAt 23 = .ok (.iload_n 1, 1) := by decide +kernel
theorem dX9_signAt_24 : decode cX9_signAt 24 = .ok (.baload, 1) := by decide +kernel
theorem dX9_signAt_25 : decode cX9_signAt 25 = .ok (.goto 4, 3) := by decide +kernel
theorem dX9_signAt_28 : decode cX9_signAt 28 = .ok (.iconst 0, 1) := by decide +kernel
theorem dX9_signAt_29 : decode cX9_signAt 29 = .ok (.ireturn, 1) := by decide +kernel
set_option maxRecDepth 20000 in
theorem ggX9_wordNumber_J0_length_8abf5 : GoodIn wsX9_wordNumber wsJ0_length_8abf5 := goodIn_r _ [6, 7, 8, 9, 10, 5, 11, 12, 13] (by decide +kernel) (by decide +kernel)
set_option maxRecDepth 20000 in
theorem gX9_wordNumber_J0_length_8abf5 : GoodIn wsX9_wordNumber (wsV RX9 57 RJ0 yJ0_length_8abf5 wsJ0_length_8abf5) := goodIn_app (goodIn_of _ (by decide +kernel)) ggX9_wordNumber_J0_length_8abf5
set_option maxRecDepth 20000 in
theorem ggX9_wordNumber_J0_charAt_5068e : GoodIn wsX9_wordNumber wsJ0_charAt_5068e := goodIn_r _ [17, 7, 18, 19, 20, 5, 21, 12, 13, 22, 23, 24, 25, 26, 27, 28, 29, 30, 31, 32, 33, 34, 35, 36, 37, 38, 39, 40, 41, 42, 43, 44, 45, 46, 47, 48, 49, 50] (by decide +kernel) (by decide +kernel)
set_option maxRecDepth 20000 in
theorem gX9_wordNumber_J0_charAt_5068e : GoodIn wsX9_wordNumber (wsV RX9 60 RJ0 yJ0_charAt_5068e wsJ0_charAt_5068e) := goodIn_app (goodIn_of _ (by decide +kernel)) ggX9_wordNumber_J0_charAt_5068e
theorem dX9_wordNumber_0 : decode cX9_wordNumber 0 = .ok (.lconst 0, 1) := by decide +kernel
theorem dX9_wordNumber_1 : decode cX9_wordNumber 1 = .ok (.lstore_n 2, 1) := by decide +kernel
theorem dX9_wordNumber_2 : decode cX9_wordNumber 2 = .ok (.iconst 0, 1) := by decide +kernel
theorem dX9_wordNumber_3 : decode cX9_wordNumber 3 = .ok (.istore 4, 2) := by decide +kernel
theorem dX9_wordNumber_5 : decode cX9_wordNumber 5 = .ok (.iconst 0, 1) := by decide +kernel
theorem dX9_wordNumber_6 : decode cX9_wordNumber 6 = .ok (.istore 5, 2) := by decide +kernel
theorem dX9_wordNumber_8 : decode cX9_wordNumber 8 = .ok (.iload 5, 2) := by decide +kernel
theorem dX9_wordNumber_10 : decode cX9_wordNumber 10 = .ok (.ldc 55, 2) := by decide +kernel
theorem dX9_wordNumber_12 : decode cX9_wordNumber 12 = .ok (.invokevirtual 57, 3) := by decide +kernel
theorem dX9_wordNumber_15 : decode cX9_wordNumber 15 = .ok (.if_icmp .ge 57, 3) := by decide +kernel
theorem dX9_wordNumber_18 : decode cX9_wordNumber 18 = .ok (.ldc 55, 2) := by decide +kernel
theorem dX9_wordNumber_20 : decode cX9_wordNumber 20 = .ok (.iload 5, 2) := by decide +kernel
theorem dX9_wordNumber_22 : decode cX9_wordNumber 22 = .ok (.invokevirtual 60, 3) := by decide +kernel
theorem dX9_wordNumber_25 : decode cX9_wordNumber 25 = .ok (.istore 6, 2) := by decide +kernel
theorem dX9_wordNumber_27 : decode cX9_wordNumber 27 = .ok (.iload 6, 2) := by decide +kernel
theorem dX9_wordNumber_29 : decode cX9_wordNumber 29 = .ok (.bipush 32, 2) := by decide +kernel
theorem dX9_wordNumber_31 : decode cX9_wordNumber 31 = .ok (.if_icmp .eq 21, 3) := by decide +kernel
theorem dX9_wordNumber_34 : decode cX9_wordNumber 34 = .ok (.lload_n 2, 1) := by decide +kernel
theorem dX9_wordNumber_35 : decode cX9_wordNumber 35 = .ok (.ldc2_w 39, 3) := by decide +kernel
theorem dX9_wordNumber_38 : decode cX9_wordNumber 38 = .ok (.lmul, 1) := by decide +kernel
theorem dX9_wordNumber_39 : decode cX9_wordNumber 39 = .ok (.iload 6, 2) := by decide +kernel
theorem dX9_wordNumber_41 : decode cX9_wordNumber 41 = .ok (.bipush 97, 2) := by decide +kernel
theorem dX9_wordNumber_43 : decode cX9_wordNumber 43 = .ok (.isub, 1) := by decide +kernel
theorem dX9_wordNumber_44 : decode cX9_wordNumber 44 = .ok (.iconst 1, 1) := by decide +kernel
theorem dX9_wordNumber_45 : decode cX9_wordNumber 45 = .ok (.iadd, 1) := by decide +kernel
theorem dX9_wordNumber_46 : decode cX9_wordNumber 46 = .ok (.i2l, 1) := by decide +kernel
theorem dX9_wordNumber_47 : decode cX9_wordNumber 47 = .ok (.ladd, 1) := by decide +kernel
theorem dX9_wordNumber_48 : decode cX9_wordNumber 48 = .ok (.lstore_n 2, 1) := by decide +kernel
theorem dX9_wordNumber_49 : decode cX9_wordNumber 49 = .ok (.goto 17, 3) := by decide +kernel
theorem dX9_wordNumber_52 : decode cX9_wordNumber 52 = .ok (.lload_n 2, 1) := by decide +kernel
theorem dX9_wordNumber_53 : decode cX9_wordNumber 53 = .ok (.lload_n 0, 1) := by decide +kernel
theorem dX9_wordNumber_54 : decode cX9_wordNumber 54 = .ok (.lcmp, 1) := by decide +kernel
theorem dX9_wordNumber_55 : decode cX9_wordNumber 55 = .ok (.ifCond .ne 6, 3) := by decide +kernel
theorem dX9_wordNumber_58 : decode cX9_wordNumber 58 = .ok (.iload 4, 2) := by decide +kernel
theorem dX9_wordNumber_60 : decode cX9_wordNumber 60 = .ok (.ireturn, 1) := by decide +kernel
theorem dX9_wordNumber_61 : decode cX9_wordNumber 61 = .ok (.lconst 0, 1) := by decide +kernel
theorem dX9_wordNumber_62 : decode cX9_wordNumber 62 = .ok (.lstore_n 2, 1) := by decide +kernel
theorem dX9_wordNumber_63 : decode cX9_wordNumber 63 = .ok (.iinc 4 1, 3) := by decide +kernel
theorem dX9_wordNumber_66 : decode cX9_wordNumber 66 = .ok (.iinc 5 1, 3) := by decide +kernel
theorem dX9_wordNumber_69 : decode cX9_wordNumber 69 = .ok (.goto (-61), 3) := by decide +kernel
theorem dX9_wordNumber_72 : decode cX9_wordNumber 72 = .ok (.bipush 29, 2) := by decide +kernel
theorem dX9_wordNumber_74 : decode cX9_wordNumber 74 = .ok (.ireturn, 1) := by decide +kernel
theorem dX10_init_0 : decode cX10_init 0 = .ok (.aload_n 0, 1) := by decide +kernel
theorem dX10_init_1 : decode cX10_init 1 = .ok (.invokespecial 3, 3) := by decide +kernel
theorem dX10_init_4 : decode cX10_init 4 = .ok (.aload_n 0, 1) := by decide +kernel
theorem dX10_init_5 : decode cX10_init 5 = .ok (.bipush 40, 2) := by decide +kernel
theorem dX10_init_7 : decode cX10_init 7 = .ok (.newarray .int, 2) := by decide +kernel
theorem dX10_init_9 : decode cX10_init 9 = .ok (.putfield 9, 3) := by decide +kernel
theorem dX10_init_12 : decode cX10_init 12 = .ok (.aload_n 0, 1) := by decide +kernel
theorem dX10_init_13 : decode cX10_init 13 = .ok (.bipush 40, 2) := by decide +kernel
theorem dX10_init_15 : decode cX10_init 15 = .ok (.newarray .int, 2) := by decide +kernel
theorem dX10_init_17 : decode cX10_init 17 = .ok (.putfield 15, 3) := by decide +kernel
theorem dX10_init_20 : decode cX10_init 20 = .ok (.aload_n 0, 1) := by decide +kernel
theorem dX10_init_21 : decode cX10_init 21 = .ok (.bipush 40, 2) := by decide +kernel
theorem dX10_init_23 : decode cX10_init 23 = .ok (.newarray .int, 2) := by decide +kernel
theorem dX10_init_25 : decode cX10_init 25 = .ok (.putfield 18, 3) := by decide +kernel
theorem dX10_init_28 : decode cX10_init 28 = .ok (.return_, 1) := by decide +kernel
theorem dX10_add_0 : decode cX10_add 0 = .ok (.aload_n 0, 1) := by decide +kernel
theorem dX10_add_1 : decode cX10_add 1 = .ok (.getfield 21, 3) := by decide +kernel
theorem dX10_add_4 : decode cX10_add 4 = .ok (.ifCond .lt 52, 3) := by decide +kernel
theorem dX10_add_7 : decode cX10_add 7 = .ok (.aload_n 0, 1) := by decide +kernel
theorem dX10_add_8 : decode cX10_add 8 = .ok (.getfield 21, 3) := by decide +kernel
theorem dX10_add_11 : decode cX10_add 11 = .ok (.bipush 40, 2) := by decide +kernel
theorem dX10_add_13 : decode cX10_add 13 = .ok (.if_icmp .ge 43, 3) := by decide +kernel
theorem dX10_add_16 : decode cX10_add 16 = .ok (.aload_n 0, 1) := by decide +kernel
theorem dX10_add_17 : decode cX10_add 17 = .ok (.getfield 9, 3) := by decide +kernel
theorem dX10_add_20 : decode cX10_add 20 = .ok (.aload_n 0, 1) := by decide +kernel
theorem dX10_add_21 : decode cX10_add 21 = .ok (.getfield 21, 3) := by decide +kernel
theorem dX10_add_24 : decode cX10_add 24 = .ok (.iload_n 1, 1) := by decide +kernel
theorem dX10_add_25 : decode cX10_add 25 = .ok (.iastore, 1) := by decide +kernel
theorem dX10_add_26 : decode cX10_add 26 = .ok (.aload_n 0, 1) := by decide +kernel
theorem dX10_add_27 : decode cX10_add 27 = .ok (.getfield 15, 3) := by decide +kernel
theorem dX10_add_30 : decode cX10_add 30 = .ok (.aload_n 0, 1) := by decide +kernel
theorem dX10_add_31 : decode cX10_add 31 = .ok (.getfield 21, 3) := by decide +kernel
theorem dX10_add_34 : decode cX10_add 34 = .ok (.iload_n 2, 1) := by decide +kernel
theorem dX10_add_35 : decode cX10_add 35 = .ok (.iastore, 1) := by decide +kernel
theorem dX10_add_36 : decode cX10_add 36 = .ok (.aload_n 0, 1) := by decide +kernel
theorem dX10_add_37 : decode cX10_add 37 = .ok (.getfield 18, 3) := by decide +kernel
theorem dX10_add_40 : decode cX10_add 40 = .ok (.aload_n 0, 1) := by decide +kernel
theorem dX10_add_41 : decode cX10_add 41 = .ok (.getfield 21, 3) := by decide +kernel
theorem dX10_add_44 : decode cX10_add 44 = .ok (.iload_n 3, 1) := by decide +kernel
theorem dX10_add_45 : decode cX10_add 45 = .ok (.iastore, 1) := by decide +kernel
theorem dX10_add_46 : decode cX10_add 46 = .ok (.aload_n 0, 1) := by decide +kernel
theorem dX10_add_47 : decode cX10_add 47 = .ok (.dup, 1) := by decide +kernel
theorem dX10_add_48 : decode cX10_add 48 = .ok (.getfield 21, 3) := by decide +kernel
theorem dX10_add_51 : decode cX10_add 51 = .ok (.iconst 1, 1) := by decide +kernel
theorem dX10_add_52 : decode cX10_add 52 = .ok (.iadd, 1) := by decide +kernel
theorem dX10_add_53 : decode cX10_add 53 = .ok (.putfield 21, 3) := by decide +kernel
theorem dX10_add_56 : decode cX10_add 56 = .ok (.return_, 1) := by decide +kernel
theorem dX10_copyFrom_0 : decode cX10_copyFrom 0 = .ok (.aload_n 0, 1) := by decide +kernel
theorem dX10_copyFrom_1 : decode cX10_copyFrom 1 = .ok (.aload_n 1, 1) := by decide +kernel
theorem dX10_copyFrom_2 : decode cX10_copyFrom 2 = .ok (.getfield 21, 3) := by decide +kernel
theorem dX10_copyFrom_5 : decode cX10_copyFrom 5 = .ok (.putfield 21, 3) := by decide +kernel
theorem dX10_copyFrom_8 : decode cX10_copyFrom 8 = .ok (.iconst 0, 1) := by decide +kernel
theorem dX10_copyFrom_9 : decode cX10_copyFrom 9 = .ok (.istore_n 2, 1) := by decide +kernel
theorem dX10_copyFrom_10 : decode cX10_copyFrom 10 = .ok (.iload_n 2, 1) := by decide +kernel
theorem dX10_copyFrom_11 : decode cX10_copyFrom 11 = .ok (.aload_n 0, 1) := by decide +kernel
theorem dX10_copyFrom_12 : decode cX10_copyFrom 12 = .ok (.getfield 21, 3) := by decide +kernel
theorem dX10_copyFrom_15 : decode cX10_copyFrom 15 = .ok (.if_icmp .ge 51, 3) := by decide +kernel
theorem dX10_copyFrom_18 : decode cX10_copyFrom 18 = .ok (.iload_n 2, 1) := by decide +kernel
theorem dX10_copyFrom_19 : decode cX10_copyFrom 19 = .ok (.bipush 40, 2) := by decide +kernel
theorem dX10_copyFrom_21 : decode cX10_copyFrom 21 = .ok (.if_icmp .ge 45, 3) := by decide +kernel
theorem dX10_copyFrom_24 : decode cX10_copyFrom 24 = .ok (.aload_n 0, 1) := by decide +kernel
theorem dX10_copyFrom_25 : decode cX10_copyFrom 25 = .ok (.getfield 9, 3) := by decide +kernel
theorem dX10_copyFrom_28 : decode cX10_copyFrom 28 = .ok (.iload_n 2, 1) := by decide +kernel
theorem dX10_copyFrom_29 : decode cX10_copyFrom 29 = .ok (.aload_n 1, 1) := by decide +kernel
theorem dX10_copyFrom_30 : decode cX10_copyFrom 30 = .ok (.getfield 9, 3) := by decide +kernel
theorem dX10_copyFrom_33 : decode cX10_copyFrom 33 = .ok (.iload_n 2, 1) := by decide +kernel
theorem dX10_copyFrom_34 : decode cX10_copyFrom 34 = .ok (.iaload, 1) := by decide +kernel
theorem dX10_copyFrom_35 : decode cX10_copyFrom 35 = .ok (.iastore, 1) := by decide +kernel
theorem dX10_copyFrom_36 : decode cX10_copyFrom 36 = .ok (.aload_n 0, 1) := by decide +kernel
theorem dX10_copyFrom_37 : decode cX10_copyFrom 37 = .ok (.getfield 15, 3) := by decide +kernel
theorem dX10_copyFrom_40 : decode cX10_copyFrom 40 = .ok (.iload_n 2, 1) := by decide +kernel
theorem dX10_copyFrom_41 : decode cX10_copyFrom 41 = .ok (.aload_n 1, 1) := by decide +kernel
theorem dX10_copyFrom_42 : decode cX10_copyFrom 42 = .ok (.getfield 15, 3) := by decide +kernel
theorem dX10_copyFrom_45 : decode cX10_copyFrom 45 = .ok (.iload_n 2, 1) := by decide +kernel
theorem dX10_copyFrom_46 : decode cX10_copyFrom 46 = .ok (.iaload, 1) := by decide +kernel
theorem dX10_copyFrom_47 : decode cX10_copyFrom 47 = .ok (.iastore, 1) := by decide +kernel
theorem dX10_copyFrom_48 : decode cX10_copyFrom 48 = .ok (.aload_n 0, 1) := by decide +kernel
theorem dX10_copyFrom_49 : decode cX10_copyFrom 49 = .ok (.getfield 18, 3) := by decide +kernel
theorem dX10_copyFrom_52 : decode cX10_copyFrom 52 = .ok (.iload_n 2, 1) := by decide +kernel
theorem dX10_copyFrom_53 : decode cX10_copyFrom 53 = .ok (.aload_n 1, 1) := by decide +kernel
theorem dX10_copyFrom_54 : decode cX10_copyFrom 54 = .ok (.getfield 18, 3) := by decide +kernel
theorem dX10_copyFrom_57 : decode cX10_copyFrom 57 = .ok (.iload_n 2, 1) := by decide +kernel
theorem dX10_copyFrom_58 : decode cX10_copyFrom 58 = .ok (.iaload, 1) := by decide +kernel
theorem dX10_copyFrom_59 : decode cX10_copyFrom 59 = .ok (.iastore, 1) := by decide +kernel
theorem dX10_copyFrom_60 : decode cX10_copyFrom 60 = .ok (.iinc 2 1, 3) := by decide +kernel
theorem dX10_copyFrom_63 : decode cX10_copyFrom 63 = .ok (.goto (-53), 3) := by decide +kernel
theorem dX10_copyFrom_66 : decode cX10_copyFrom 66 = .ok (.return_, 1) := by decide +kernel
set_option maxRecDepth 20000 in
theorem ggX11_init_X9_init : GoodIn wsX11_init wsX9_init := goodIn_r _ [47, 48, 2, 3, 49, 50, 133, 134, 135, 136, 137, 138, 139] (by decide +kernel) (by decide +kernel)
set_option maxRecDepth 20000 in
theorem gX11_init_X9_init_n11 : GoodIn wsX11_init (wsX9_init) := ggX11_init_X9_init
set_option maxRecDepth 20000 in
theorem ggX11_init_X5_init : GoodIn wsX11_init wsX5_init := goodIn_r _ [53, 54, 2, 3, 55, 157, 158, 159] (by decide +kernel) (by decide +kernel)
set_option maxRecDepth 20000 in
theorem gX11_init_X5_init : GoodIn wsX11_init (wsX5_init) := ggX11_init_X5_init
set_option maxRecDepth 20000 in
theorem ggX11_init_X7_init : GoodIn wsX11_init wsX7_init := goodIn_r _ [58, 59, 2, 3, 60, 61, 44, 62, 63, 64, 65, 66, 67, 68, 69, 70, 71, 72, 73, 74, 75, 76, 77, 78, 79, 80, 81, 82, 83, 84, 85, 86, 87, 88, 160, 161, 162, 163, 164, 165, 166, 167, 168, 169, 170, 171, 172, 173, 211, 212, 213, 214, 215, 216, 217, 218, 219, 220, 221, 222, 223, 224] (by decide +kernel) (by decide +kernel)
set_option maxRecDepth 20000 in
theorem gX11_init_X7_init : GoodIn wsX11_init (wsX7_init) := ggX11_init_X7_init
set_option maxRecDepth 20000 in
theorem ggX11_init_X6_init : GoodIn wsX11_init wsX6_init := goodIn_r _ [90, 91, 2, 3, 44, 92, 93, 94, 174, 175, 176, 177, 178, 179] (by decide +kernel) (by decide +kernel)
set_option maxRecDepth 20000 in
theorem gX11_init_X6_init_n37 : GoodIn wsX11_init (wsX6_init) := ggX11_init_X6_init
set_option maxRecDepth 20000 in
theorem ggX11_init_X10_init : GoodIn wsX11_init wsX10_init := goodIn_r _ [96, 97, 2, 3, 44, 98, 99, 100, 180, 181, 182, 183] (by decide +kernel) (by decide +kernel)
set_option maxRecDepth 20000 in
theorem gX11_init_X10_init_n47 : GoodIn wsX11_init (wsX10_init) := ggX11_init_X10_init
set_option maxRecDepth 20000 in
theorem ggX11_init_X0_init : GoodIn wsX11_init wsX0_init := goodIn_r _ [102, 103, 2, 3, 44, 104, 105, 184, 185, 186] (by decide +kernel) (by decide +kernel)
set_option maxRecDepth 20000 in
theorem gX11_init_X0_init_n57 : GoodIn wsX11_init (wsX0_init) := ggX11_init_X0_init
set_option maxRecDepth 20000 in
theorem ggX11_init_X8_init : GoodIn wsX11_init wsX8_init := goodIn_r _ [107, 108, 2, 3, 44, 109, 110, 187, 188, 189, 190, 191] (by decide +kernel) (by decide +kernel)
set_option maxRecDepth 20000 in
theorem gX11_init_X8_init_n64 : GoodIn wsX11_init (wsX8_init) := ggX11_init_X8_init
set_option maxRecDepth 20000 in
theorem ggX11_init_X1_init : GoodIn wsX11_init wsX1_init := goodIn_r _ [113, 114, 2, 3, 44, 115, 116, 117, 118, 119, 120, 121, 122, 123, 192, 193, 194, 195, 196, 197, 198, 199, 200, 201, 202, 203, 204, 205, 206] (by decide +kernel) (by decide +kernel)
set_option maxRecDepth 20000 in
theorem gX11_init_X1_init : GoodIn wsX11_init (wsX1_init) := ggX11_init_X1_init
set_option maxRecDepth 20000 in
theorem ggX11_init_X3_init : GoodIn wsX11_init wsX3_init := goodIn_r _ [125, 126, 2, 3, 127, 18, 19, 128, 129, 23, 24, 130, 131, 28, 29, 132, 89, 90, 91, 44, 92, 93, 94, 95, 96, 97, 98, 99, 100, 101, 102, 103, 104, 105, 174, 175, 176, 177, 178, 179, 207, 208, 209, 210, 180, 181, 182, 183, 184, 185, 186] (by decide +kernel) (by decide +kernel)
set_option maxRecDepth 20000 in
theorem gX11_init_X3_init_n84 : GoodIn wsX11_init (wsX3_init) := ggX11_init_X3_init
theorem dX11_init_0 : decode cX11_init 0 = .ok (.aload_n 0, 1) := by decide +kernel
theorem dX11_init_1 : decode cX11_init 1 = .ok (.invokespecial 3, 3) := by decide +kernel
theorem dX11_init_4 : decode cX11_init 4 = .ok (.aload_n 0, 1) := by decide +kernel
theorem dX11_init_5 : decode cX11_init 5 = .ok (.new 9, 3) := by decide +kernel
theorem dX11_init_8 : decode cX11_init 8 = .ok (.dup, 1) := by decide +kernel
theorem dX11_init_9 : decode cX11_init 9 = .ok (.invokespecial 11, 3) := by decide +kernel
theorem dX11_init_12 : decode cX11_init 12 = .ok (.putfield 12, 3) := by decide +kernel
theorem dX11_init_15 : decode cX11_init 15 = .ok (.aload_n 0, 1) := by decide +kernel
theorem dX11_init_16 : decode cX11_init 16 = .ok (.new 16, 3) := by decide +kernel
theorem dX11_init_19 : decode cX11_init 19 = .ok (.dup, 1) := by decide +kernel
theorem dX11_init_20 : decode cX11_init 20 = .ok (.aload_n 0, 1) := by decide +kernel
theorem dX11_init_21 : decode cX11_init 21 = .ok (.getfield 12, 3) := by decide +kernel
theorem dX11_init_24 : decode cX11_init 24 = .ok (.invokespecial 18, 3) := by decide +kernel
theorem dX11_init_27 : decode cX11_init 27 = .ok (.putfield 21, 3) := by decide +kernel
theorem dX11_init_30 : decode cX11_init 30 = .ok (.aload_n 0, 1) := by decide +kernel
theorem dX11_init_31 : decode cX11_init 31 = .ok (.new 25, 3) := by decide +kernel
theorem dX11_init_34 : decode cX11_init 34 = .ok (.dup, 1) := by decide +kernel
theorem dX11_init_35 : decode cX11_init 35 = .ok (.invokespecial 27, 3) := by decide +kernel
theorem dX11_init_38 : decode cX11_init 38 = .ok (.putfield 28, 3) := by decide +kernel
theorem dX11_init_41 : decode cX11_init 41 = .ok (.aload_n 0, 1) := by decide +kernel
theorem dX11_init_42 : decode cX11_init 42 = .ok (.new 25, 3) := by decide +kernel
theorem dX11_init_45 : decode cX11_init 45 = .ok (.dup, 1) := by decide +kernel
theorem dX11_init_46 : decode cX11_init 46 = .ok (.invokespecial 27, 3) := by decide +kernel
theorem dX11_init_49 : decode cX11_init 49 = .ok (.putfield 32, 3) := by decide +kernel
theorem dX11_init_52 : decode cX11_init 52 = .ok (.aload_n 0, 1) := by decide +kernel
theorem dX11_init_53 : decode cX11_init 53 = .ok (.new 35, 3) := by decide +kernel
theorem dX11_init_56 : decode cX11_init 56 = .ok (.dup, 1) := by decide +kernel
theorem dX11_init_57 : decode cX11_init 57 = .ok (.invokespecial 37, 3) := by decide +kernel
theorem dX11_init_60 : decode cX11_init 60 = .ok (.putfield 38, 3) := by decide +kernel
theorem dX11_init_63 : decode cX11_init 63 = .ok (.aload_n 0, 1) := by decide +kernel
theorem dX11_init_64 : decode cX11_init 64 = .ok (.new 35, 3) := by decide +kernel
theorem dX11_init_67 : decode cX11_init 67 = .ok (.dup, 1) := by decide +kernel
theorem dX11_init_68 : decode cX11_init 68 = .ok (.invokespecial 37, 3) := by decide +kernel
theorem dX11_init_71 : decode cX11_init 71 = .ok (.putfield 42, 3) := by decide +kernel
theorem dX11_init_74 : decode cX11_init 74 = .ok (.aload_n 0, 1) := by decide +kernel
theorem dX11_init_75 : decode cX11_init 75 = .ok (.new 45, 3) := by decide +kernel
theorem dX11_init_78 : decode cX11_init 78 = .ok (.dup, 1) := by decide +kernel
theorem dX11_init_79 : decode cX11_init 79 = .ok (.invokespecial 47, 3) := by decide +kernel
theorem dX11_init_82 : decode cX11_init 82 = .ok (.putfield 48, 3) := by decide +kernel
theorem dX11_init_85 : decode cX11_init 85 = .ok (.aload_n 0, 1) := by decide +kernel
theorem dX11_init_86 : decode cX11_init 86 = .ok (.new 45, 3) := by decide +kernel
theorem dX11_init_89 : decode cX11_init 89 = .ok (.dup, 1) := by decide +kernel
theorem dX11_init_90 : decode cX11_init 90 = .ok (.invokespecial 47, 3) := by decide +kernel
theorem dX11_init_93 : decode cX11_init 93 = .ok (.putfield 52, 3) := by decide +kernel
theorem dX11_init_96 : decode cX11_init 96 = .ok (.aload_n 0, 1) := by decide +kernel
theorem dX11_init_97 : decode cX11_init 97 = .ok (.new 55, 3) := by decide +kernel
theorem dX11_init_100 : decode cX11_init 100 = .ok (.dup, 1) := by decide +kernel
theorem dX11_init_101 : decode cX11_init 101 = .ok (.invokespecial 57, 3) := by decide +kernel
theorem dX11_init_104 : decode cX11_init 104 = .ok (.putfield 58, 3) := by decide +kernel
theorem dX11_init_107 : decode cX11_init 107 = .ok (.aload_n 0, 1) := by decide +kernel
theorem dX11_init_108 : decode cX11_init 108 = .ok (.new 62, 3) := by decide +kernel
theorem dX11_init_111 : decode cX11_init 111 = .ok (.dup, 1) := by decide +kernel
theorem dX11_init_112 : decode cX11_init 112 = .ok (.invokespecial 64, 3) := by decide +kernel
theorem dX11_init_115 : decode cX11_init 115 = .ok (.putfield 65, 3) := by decide +kernel
theorem dX11_init_118 : decode cX11_init 118 = .ok (.aload_n 0, 1) := by decide +kernel
theorem dX11_init_119 : decode cX11_init 119 = .ok (.new 69, 3) := by decide +kernel
theorem dX11_init_122 : decode cX11_init 122 = .ok (.dup, 1) := by decide +kernel
theorem dX11_init_123 : decode cX11_init 123 = .ok (.aload_n 0, 1) := by decide +kernel
theorem dX11_init_124 : decode cX11_init 124 = .ok (.getfield 28, 3) := by decide +kernel
theorem dX11_init_127 : decode cX11_init 127 = .ok (.invokespecial 71, 3) := by decide +kernel
theorem dX11_init_130 : decode cX11_init 130 = .ok (.putfield 74, 3) := by decide +kernel
theorem dX11_init_133 : decode cX11_init 133 = .ok (.aload_n 0, 1) := by decide +kernel
theorem dX11_init_134 : decode cX11_init 134 = .ok (.iconst 4, 1) := by decide +kernel
theorem dX11_init_135 : decode cX11_init 135 = .ok (.anewarray 78, 3) := by decide +kernel
theorem dX11_init_138 : decode cX11_init 138 = .ok (.putfield 80, 3) := by decide +kernel
theorem dX11_init_141 : decode cX11_init 141 = .ok (.iconst 0, 1) := by decide +kernel
theorem dX11_init_142 : decode cX11_init 142 = .ok (.istore_n 1, 1) := by decide +kernel
theorem dX11_init_143 : decode cX11_init 143 = .ok (.iload_n 1, 1) := by decide +kernel
theorem dX11_init_144 : decode cX11_init 144 = .ok (.iconst 4, 1) := by decide +kernel
theorem dX11_init_145 : decode cX11_init 145 = .ok (.if_icmp .ge 22, 3) := by decide +kernel
theorem dX11_init_148 : decode cX11_init 148 = .ok (.aload_n 0, 1) := by decide +kernel
theorem dX11_init_149 : decode cX11_init 149 = .ok (.getfield 80, 3) := by decide +kernel
theorem dX11_init_152 : decode cX11_init 152 = .ok (.iload_n 1, 1) := by decide +kernel
theorem dX11_init_153 : decode cX11_init 153 = .ok (.new 78, 3) := by decide +kernel
theorem dX11_init_156 : decode cX11_init 156 = .ok (.dup, 1) := by decide +kernel
theorem dX11_init_157 : decode cX11_init 157 = .ok (.invokespecial 84, 3) := by decide +kernel
theorem dX11_init_160 : decode cX11_init 160 = .ok (.aastore, 1) := by decide +kernel
theorem dX11_init_161 : decode cX11_init 161 = .ok (.iinc 1 1, 3) := by decide +kernel
theorem dX11_init_164 : decode cX11_init 164 = .ok (.goto (-21), 3) := by decide +kernel
theorem dX11_init_167 : decode cX11_init 167 = .ok (.aload_n 0, 1) := by decide +kernel
theorem dX11_init_168 : decode cX11_init 168 = .ok (.bipush 16, 2) := by decide +kernel
theorem dX11_init_170 : decode cX11_init 170 = .ok (.anewarray 35, 3) := by decide +kernel
theorem dX11_init_173 : decode cX11_init 173 = .ok (.putfield 85, 3) := by decide +kernel
theorem dX11_init_176 : decode cX11_init 176 = .ok (.iconst 0, 1) := by decide +kernel
theorem dX11_init_177 : decode cX11_init 177 = .ok (.istore_n 1, 1) := by decide +kernel
theorem dX11_init_178 : decode cX11_init 178 = .ok (.iload_n 1, 1) := by decide +kernel
theorem dX11_init_179 : decode cX11_init 179 = .ok (.bipush 16, 2) := by decide +kernel
theorem dX11_init_181 : decode cX11_init 181 = .ok (.if_icmp .ge 22, 3) := by decide +kernel
theorem dX11_init_184 : decode cX11_init 184 = .ok (.aload_n 0, 1) := by decide +kernel
theorem dX11_init_185 : decode cX11_init 185 = .ok (.getfield 85, 3) := by decide +kernel
theorem dX11_init_188 : decode cX11_init 188 = .ok (.iload_n 1, 1) := by decide +kernel
theorem dX11_init_189 : decode cX11_init 189 = .ok (.new 35, 3) := by decide +kernel
theorem dX11_init_192 : decode cX11_init 192 = .ok (.dup, 1) := by decide +kernel
theorem dX11_init_193 : decode cX11_init 193 = .ok (.invokespecial 37, 3) := by decide +kernel
theorem dX11_init_196 : decode cX11_init 196 = .ok (.aastore, 1) := by decide +kernel
theorem dX11_init_197 : decode cX11_init 197 = .ok (.iinc 1 1, 3) := by decide +kernel
theorem dX11_init_200 : decode cX11_init 200 = .ok (.goto (-22), 3) := by decide +kernel
theorem dX11_init_203 : decode cX11_init 203 = .ok (.aload_n 0, 1) := by decide +kernel
theorem dX11_init_204 : decode cX11_init 204 = .ok (.iconst 3, 1) := by decide +kernel
theorem dX11_init_205 : decode cX11_init 205 = .ok (.newarray .int, 2) := by decide +kernel
theorem dX11_init_207 : decode cX11_init 207 = .ok (.putfield 89, 3) := by decide +kernel
theorem dX11_init_210 : decode cX11_init 210 = .ok (.return_, 1) := by decide +kernel
set_option maxRecDepth 20000 in
theorem ggX11_feed_X11_feedBytes : GoodIn wsX11_feed wsX11_feedBytes := goodIn_r _ [6, 1, 7, 8, 9, 10, 11, 12, 13, 14, 15, 16, 17, 18, 19, 20, 21, 22, 23, 24, 25, 26, 27, 28, 29, 30, 31, 32, 33, 34, 35, 36, 37] (by decide +kernel) (by decide +kernel)
set_option maxRecDepth 20000 in
theorem gX11_feed_X11_feedBytes : GoodIn wsX11_feed (wsV RX11 93 RX11 yX11_feedBytes wsX11_feedBytes) := goodIn_app (goodIn_of _ (by decide +kernel)) ggX11_feed_X11_feedBytes
theorem dX11_feed_0 : decode cX11_feed 0 = .ok (.aload_n 0, 1) := by decide +kernel
theorem dX11_feed_1 : decode cX11_feed 1 = .ok (.lload_n 1, 1) := by decide +kernel
theorem dX11_feed_2 : decode cX11_feed 2 = .ok (.invokevirtual 93, 3) := by decide +kernel
theorem dX11_feed_5 : decode cX11_feed 5 = .ok (.aload_n 0, 1) := by decide +kernel
theorem dX11_feed_6 : decode cX11_feed 6 = .ok (.lload_n 3, 1) := by decide +kernel
theorem dX11_feed_7 : decode cX11_feed 7 = .ok (.invokevirtual 93, 3) := by decide +kernel
theorem dX11_feed_10 : decode cX11_feed 10 = .ok (.aload_n 0, 1) := by decide +kernel
theorem dX11_feed_11 : decode cX11_feed 11 = .ok (.lload 5, 2) := by decide +kernel
theorem dX11_feed_13 : decode cX11_feed 13 = .ok (.invokevirtual 93, 3) := by decide +kernel
theorem dX11_feed_16 : decode cX11_feed 16 = .ok (.aload_n 0, 1) := by decide +kernel
theorem dX11_feed_17 : decode cX11_feed 17 = .ok (.getfield 12, 3) := by decide +kernel
theorem dX11_feed_20 : decode cX11_feed 20 = .ok (.getfield 97, 3) := by decide +kernel
theorem dX11_feed_23 : decode cX11_feed 23 = .ok (.ireturn, 1) := by decide +kernel
set_option maxRecDepth 20000 in
theorem ggX11_station_X5_readStation : GoodIn wsX11_station wsX5_readStation := goodIn_r _ [9, 10, 11, 12, 13, 14, 15, 16, 17, 18, 19, 20, 21, 22, 23, 24, 25, 26, 27, 28, 29, 30, 31, 32, 33, 34, 35, 36, 37, 38, 39, 40, 41, 42, 43, 44, 45, 46, 47, 48, 49, 50, 51, 52, 53, 54, 55, 56, 57, 58, 59, 60, 61, 62, 63, 64, 65, 66, 67, 68, 69, 70, 71, 72, 73, 74, 75, 76, 77, 78, 79, 80, 81, 82, 83, 84, 85, 86, 87, 88, 89, 90, 91, 92, 93, 94, 95, 96, 97, 98, 99, 100, 101, 102, 103, 104, 105, 106, 107, 108, 109, 110, 111, 112, 113, 114, 115, 116, 117, 118, 119, 120, 121, 122, 123, 124, 125, 126, 127, 128, 129, 130, 131, 132, 133, 134, 135, 136, 137, 138, 139, 140, 141, 142, 143, 144, 145, 146, 147, 148, 149, 150, 151, 152, 153, 154, 155, 156, 157, 158, 159, 160, 161, 162, 163, 8, 164, 165, 166, 167, 168, 169, 170, 171, 172, 173, 174, 175, 176, 177, 178, 179, 180, 181, 182, 183, 184, 185, 186, 187, 188, 189, 190, 191, 192, 193, 194, 195, 196, 197, 198, 199, 200, 201, 202, 203, 204, 205, 206, 207, 208, 209, 210, 211, 212, 213, 214, 215, 216, 217, 218, 219, 220, 221, 222, 223, 224, 225, 226, 227, 228, 229, 230, 231, 232, 233, 234, 235, 236, 237, 238, 239, 240, 241, 242, 243, 244, 245, 246, 247, 248, 249, 250, 251, 252, 253, 254, 255, 256, 257, 258, 259, 260, 261, 262, 263, 264, 265, 266, 267, 268, 269, 270, 271, 272, 273, 319, 320, 321, 312, 313, 314, 315, 316, 317, 318, 322, 323, 324, 325, 326, 327, 328, 329, 330, 331, 332, 333, 334, 335, 336, 337, 338, 339, 340, 341, 342, 343, 344, 345, 346, 347, 348, 349] (by decide +kernel) (by decide +kernel)
set_option maxRecDepth 20000 in
theorem gX11_station_X5_readStation : GoodIn wsX11_station (wsV RX11 101 RX5 yX5_readStation wsX5_readStation) := goodIn_app (goodIn_of _ (by decide +kernel)) ggX11_station_X5_readStation
set_option maxRecDepth 20000 in
theorem ggX11_station_X11_beginStation : GoodIn wsX11_station wsX11_beginStation := goodIn_r _ [278, 279, 4, 280, 281, 282, 283, 284, 285, 286, 287, 288, 289, 290, 291, 292, 293, 294, 295, 296, 297, 298, 299, 300, 301, 302, 303, 304, 305, 306, 307, 308, 309, 310, 311, 350, 351, 352, 353, 354, 355, 356, 357, 358, 359, 360, 361, 362, 363, 364, 365, 366, 322, 323, 324, 325, 326, 327, 328, 329, 330, 331, 332, 333, 334, 335] (by decide +kernel) (by decide +kernel)
set_option maxRecDepth 20000 in
theorem gX11_station_X11_beginStation : GoodIn wsX11_station (wsV RX11 105 RX11 yX11_beginStation wsX11_beginStation) := goodIn_app (goodIn_of _ (by decide +kernel)) ggX11_station_X11_beginStation
theorem dX11_station_0 : decode cX11_station 0 = .ok (.aload_n 0, 1) := by decide +kernel
theorem dX11_station_1 : decode cX11_station 1 = .ok (.getfield 21, 3) := by decide +kernel
theorem dX11_station_4 : decode cX11_station 4 = .ok (.aload_n 0, 1) := by decide +kernel
theorem dX11_station_5 : decode cX11_station 5 = .ok (.getfield 32, 3) := by decide +kernel
theorem dX11_station_8 : decode cX11_station 8 = .ok (.invokevirtual 101, 3) := by decide +kernel
theorem dX11_station_11 : decode cX11_station 11 = .ok (.istore_n 1, 1) := by decide +kernel
theorem dX11_station_12 : decode cX11_station 12 = .ok (.aload_n 0, 1) := by decide +kernel
theorem dX11_station_13 : decode cX11_station 13 = .ok (.getfield 12, 3) := by decide +kernel
theorem dX11_station_16 : decode cX11_station 16 = .ok (.iconst 0, 1) := by decide +kernel
theorem dX11_station_17 : decode cX11_station 17 = .ok (.putfield 97, 3) := by decide +kernel
theorem dX11_station_20 : decode cX11_station 20 = .ok (.iload_n 1, 1) := by decide +kernel
theorem dX11_station_21 : decode cX11_station 21 = .ok (.ifCond .ne 25, 3) := by decide +kernel
theorem dX11_station_24 : decode cX11_station 24 = .ok (.aload_n 0, 1) := by decide +kernel
theorem dX11_station_25 : decode cX11_station 25 = .ok (.getfield 28, 3) := by decide +kernel
theorem dX11_station_28 : decode cX11_station 28 = .ok (.astore_n 2, 1) := by decide +kernel
theorem dX11_station_29 : decode cX11_station 29 = .ok (.aload_n 0, 1) := by decide +kernel
theorem dX11_station_30 : decode cX11_station 30 = .ok (.aload_n 0, 1) := by decide +kernel
theorem dX11_station_31 : decode cX11_station 31 = .ok (.getfield 32, 3) := by decide +kernel
theorem dX11_station_34 : decode cX11_station 34 = .ok (.putfield 28, 3) := by decide +kernel
theorem dX11_station_37 : decode cX11_station 37 = .ok (.aload_n 0, 1) := by decide +kernel
theorem dX11_station_38 : decode cX11_station 38 = .ok (.aload_n 2, 1) := by decide +kernel
theorem dX11_station_39 : decode cX11_station 39 = .ok (.putfield 32, 3) := by decide +kernel
theorem dX11_station_42 : decode cX11_station 42 = .ok (.aload_n 0, 1) := by decide +kernel
theorem dX11_station_43 : decode cX11_station 43 = .ok (.invokevirtual 105, 3) := by decide +kernel
