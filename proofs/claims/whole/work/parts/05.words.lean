def uw : List Cond := lw_tbl.filter goodWord
theorem uw_in {w : Cond} (h : w ∈ lw_tbl) (hg : goodWord w = true) : w ∈ uw := List.mem_filter.mpr ⟨h, hg⟩
theorem uw_good {w : Cond} (h : w ∈ uw) : (w.onTables && w.keeps) = true ∨ ∃ ty, w = .arrayClass ty := good_of_word (List.mem_filter.mp h).2
theorem tb_1 {w : Cond} (h : w ∈ tables_1_1) : w ∈ lw_tbl := List.mem_append_right _ (show w ∈ tables_1 from List.mem_append_left _ h)
theorem tb_2 {w : Cond} (h : w ∈ tables_1_2) : w ∈ lw_tbl := List.mem_append_right _ (show w ∈ tables_1 from List.mem_append_right _ (List.mem_append_left _ h))
theorem tb_3 {w : Cond} (h : w ∈ tables_1_3) : w ∈ lw_tbl := List.mem_append_right _ (show w ∈ tables_1 from List.mem_append_right _ (List.mem_append_right _ (List.mem_append_left _ h)))
theorem tb_4 {w : Cond} (h : w ∈ tables_1_4) : w ∈ lw_tbl := List.mem_append_right _ (show w ∈ tables_1 from List.mem_append_right _ (List.mem_append_right _ (List.mem_append_right _ (List.mem_append_left _ h))))
theorem tb_5 {w : Cond} (h : w ∈ tables_1_5) : w ∈ lw_tbl := List.mem_append_right _ (show w ∈ tables_1 from List.mem_append_right _ (List.mem_append_right _ (List.mem_append_right _ (List.mem_append_right _ (List.mem_append_left _ h)))))
theorem tb_6 {w : Cond} (h : w ∈ tables_1_6) : w ∈ lw_tbl := List.mem_append_right _ (show w ∈ tables_1 from List.mem_append_right _ (List.mem_append_right _ (List.mem_append_right _ (List.mem_append_right _ (List.mem_append_right _ (List.mem_append_left _ h))))))
theorem tb_7 {w : Cond} (h : w ∈ tables_1_7) : w ∈ lw_tbl := List.mem_append_right _ (show w ∈ tables_1 from List.mem_append_right _ (List.mem_append_right _ (List.mem_append_right _ (List.mem_append_right _ (List.mem_append_right _ (List.mem_append_right _ (List.mem_append_left _ h)))))))
theorem tb_8 {w : Cond} (h : w ∈ tables_1_8) : w ∈ lw_tbl := List.mem_append_right _ (show w ∈ tables_1 from List.mem_append_right _ (List.mem_append_right _ (List.mem_append_right _ (List.mem_append_right _ (List.mem_append_right _ (List.mem_append_right _ (List.mem_append_right _ (h))))))))
theorem uw1_0 : Cond.initialized RL ∈ uw := uw_in (tb_1 (List.mem_of_getElem? (i := 0) rfl)) rfl
theorem uw1_1 : Cond.initialized RX11 ∈ uw := uw_in (tb_1 (List.mem_of_getElem? (i := 1) rfl)) rfl
theorem uw1_2 : Cond.initialized RX9 ∈ uw := uw_in (tb_1 (List.mem_of_getElem? (i := 2) rfl)) rfl
theorem uw1_3 : Cond.initialized RX5 ∈ uw := uw_in (tb_1 (List.mem_of_getElem? (i := 3) rfl)) rfl
theorem uw1_4 : Cond.initialized RX7 ∈ uw := uw_in (tb_1 (List.mem_of_getElem? (i := 4) rfl)) rfl
theorem uw1_5 : Cond.initialized RX2 ∈ uw := uw_in (tb_1 (List.mem_of_getElem? (i := 5) rfl)) rfl
theorem uw1_6 : Cond.initialized RX4 ∈ uw := uw_in (tb_1 (List.mem_of_getElem? (i := 6) rfl)) rfl
theorem uw1_7 : Cond.initialized RX6 ∈ uw := uw_in (tb_1 (List.mem_of_getElem? (i := 7) rfl)) rfl
theorem uw1_8 : Cond.initialized RX10 ∈ uw := uw_in (tb_1 (List.mem_of_getElem? (i := 8) rfl)) rfl
theorem uw1_9 : Cond.initialized RX0 ∈ uw := uw_in (tb_1 (List.mem_of_getElem? (i := 9) rfl)) rfl
theorem uw1_10 : Cond.initialized RX8 ∈ uw := uw_in (tb_1 (List.mem_of_getElem? (i := 10) rfl)) rfl
theorem uw1_11 : Cond.initialized RX1 ∈ uw := uw_in (tb_1 (List.mem_of_getElem? (i := 11) rfl)) rfl
theorem uw1_12 : Cond.initialized RX3 ∈ uw := uw_in (tb_1 (List.mem_of_getElem? (i := 12) rfl)) rfl
theorem uw1_13 : Cond.initialized RX12 ∈ uw := uw_in (tb_1 (List.mem_of_getElem? (i := 13) rfl)) rfl
theorem uw1_14 : Cond.initialized RJ0 ∈ uw := uw_in (tb_1 (List.mem_of_getElem? (i := 14) rfl)) rfl
theorem uw1_15 : Cond.initialized RJ1 ∈ uw := uw_in (tb_1 (List.mem_of_getElem? (i := 15) rfl)) rfl
theorem uw1_16 : Cond.initialized RJ3 ∈ uw := uw_in (tb_1 (List.mem_of_getElem? (i := 16) rfl)) rfl
theorem uw1_17 : Cond.initialized RJ2 ∈ uw := uw_in (tb_1 (List.mem_of_getElem? (i := 17) rfl)) rfl
theorem uw1_18 : Cond.initialized RJ9 ∈ uw := uw_in (tb_1 (List.mem_of_getElem? (i := 18) rfl)) rfl
theorem uw1_19 : Cond.initialized RJ11 ∈ uw := uw_in (tb_1 (List.mem_of_getElem? (i := 19) rfl)) rfl
theorem uw1_20 : Cond.initialized "java/lang/Throwable" ∈ uw := uw_in (tb_1 (List.mem_of_getElem? (i := 20) rfl)) rfl
theorem uw1_21 : Cond.initialized "java/lang/Exception" ∈ uw := uw_in (tb_1 (List.mem_of_getElem? (i := 21) rfl)) rfl
theorem uw1_22 : Cond.initialized "java/lang/RuntimeException" ∈ uw := uw_in (tb_1 (List.mem_of_getElem? (i := 22) rfl)) rfl
theorem uw1_23 : Cond.initialized "java/util/NoSuchElementException" ∈ uw := uw_in (tb_1 (List.mem_of_getElem? (i := 23) rfl)) rfl
theorem uw1_24 : Cond.initialized RJ6 ∈ uw := uw_in (tb_1 (List.mem_of_getElem? (i := 24) rfl)) rfl
theorem uw1_25 : Cond.classLink RL 8 RX11 ∈ uw := uw_in (tb_1 (List.mem_of_getElem? (i := 25) rfl)) rfl
theorem uw1_26 : Cond.instantiable RX11 17 ∈ uw := uw_in (tb_1 (List.mem_of_getElem? (i := 26) rfl)) rfl
theorem uw1_27 : Cond.methodLink RL 36 yX11_init ∈ uw := uw_in (tb_1 (List.mem_of_getElem? (i := 27) rfl)) rfl
theorem uw1_28 : Cond.instanceMethod yX11_init ∈ uw := uw_in (tb_1 (List.mem_of_getElem? (i := 28) rfl)) rfl
theorem uw1_29 : Cond.code yX11_init cX11_init 2 none ∈ uw := uw_in (tb_1 (List.mem_of_getElem? (i := 29) rfl)) rfl
theorem uw1_30 : Cond.methodLink RX11 3 Lib.objectInit ∈ uw := uw_in (tb_1 (List.mem_of_getElem? (i := 30) rfl)) rfl
theorem uw1_31 : Cond.instanceMethod Lib.objectInit ∈ uw := uw_in (tb_1 (List.mem_of_getElem? (i := 31) rfl)) rfl
theorem uw1_32 : Cond.code Lib.objectInit object_method_1_code 1 none ∈ uw := uw_in (tb_1 (List.mem_of_getElem? (i := 32) rfl)) rfl
theorem uw1_33 : Cond.classLink RX11 9 RX9 ∈ uw := uw_in (tb_1 (List.mem_of_getElem? (i := 33) rfl)) rfl
theorem uw1_34 : Cond.instantiable RX9 7 ∈ uw := uw_in (tb_1 (List.mem_of_getElem? (i := 34) rfl)) rfl
theorem uw1_36 : Cond.instanceMethod yX9_init ∈ uw := uw_in (tb_1 (List.mem_of_getElem? (i := 36) rfl)) rfl
theorem uw1_37 : Cond.code yX9_init cX9_init 1 none ∈ uw := uw_in (tb_1 (List.mem_of_getElem? (i := 37) rfl)) rfl
theorem uw1_38 : Cond.methodLink RX9 3 Lib.objectInit ∈ uw := uw_in (tb_1 (List.mem_of_getElem? (i := 38) rfl)) rfl
theorem uw1_39 : Cond.fieldLink RX9 9 "StationPiano$Tape" "signs" "[B" ∈ uw := uw_in (tb_1 (List.mem_of_getElem? (i := 39) rfl)) rfl
theorem uw1_40 : Cond.fieldLink RX9 15 "StationPiano$Tape" "length" "I" ∈ uw := uw_in (tb_1 (List.mem_of_getElem? (i := 40) rfl)) rfl
theorem uw1_43 : Cond.fieldLink RX9 32 "StationPiano$Tape" "token" "I" ∈ uw := uw_in (tb_1 (List.mem_of_getElem? (i := 43) rfl)) rfl
theorem uw1_45 : Cond.fieldLink RX9 29 "StationPiano$Tape" "place" "I" ∈ uw := uw_in (tb_1 (List.mem_of_getElem? (i := 45) rfl)) rfl
theorem uw1_46 : Cond.fieldLink RX9 19 "StationPiano$Tape" "behind" "I" ∈ uw := uw_in (tb_1 (List.mem_of_getElem? (i := 46) rfl)) rfl
theorem uw1_47 : Cond.fieldLink RX9 45 "StationPiano$Tape" "number" "I" ∈ uw := uw_in (tb_1 (List.mem_of_getElem? (i := 47) rfl)) rfl
theorem uw1_49 : Cond.fieldLink RX9 35 "StationPiano$Tape" "letters" "J" ∈ uw := uw_in (tb_1 (List.mem_of_getElem? (i := 49) rfl)) rfl
theorem uw1_51 : Cond.laysFinal "StationPiano$Tape" "StationPiano$Tape" "signs" "[B" ∈ uw := uw_in (tb_1 (List.mem_of_getElem? (i := 51) rfl)) rfl
theorem uw1_53 : Cond.lays "StationPiano$Tape" "StationPiano$Tape" "length" "I" ∈ uw := uw_in (tb_1 (List.mem_of_getElem? (i := 53) rfl)) rfl
theorem uw1_55 : Cond.lays "StationPiano$Tape" "StationPiano$Tape" "token" "I" ∈ uw := uw_in (tb_1 (List.mem_of_getElem? (i := 55) rfl)) rfl
theorem uw1_57 : Cond.lays "StationPiano$Tape" "StationPiano$Tape" "place" "I" ∈ uw := uw_in (tb_1 (List.mem_of_getElem? (i := 57) rfl)) rfl
theorem uw1_59 : Cond.lays "StationPiano$Tape" "StationPiano$Tape" "behind" "I" ∈ uw := uw_in (tb_1 (List.mem_of_getElem? (i := 59) rfl)) rfl
theorem uw1_61 : Cond.lays "StationPiano$Tape" "StationPiano$Tape" "number" "I" ∈ uw := uw_in (tb_1 (List.mem_of_getElem? (i := 61) rfl)) rfl
theorem uw1_63 : Cond.lays "StationPiano$Tape" "StationPiano$Tape" "letters" "J" ∈ uw := uw_in (tb_1 (List.mem_of_getElem? (i := 63) rfl)) rfl
theorem uw1_66 : Cond.arrayClass .byte ∈ uw := uw_in (tb_1 (List.mem_of_getElem? (i := 66) rfl)) rfl
theorem uw1_67 : Cond.classLink RX11 16 RX5 ∈ uw := uw_in (tb_1 (List.mem_of_getElem? (i := 67) rfl)) rfl
theorem uw1_68 : Cond.instantiable RX5 3 ∈ uw := uw_in (tb_1 (List.mem_of_getElem? (i := 68) rfl)) rfl
theorem uw1_69 : Cond.methodLink RX11 18 yX5_init ∈ uw := uw_in (tb_1 (List.mem_of_getElem? (i := 69) rfl)) rfl
theorem uw1_70 : Cond.instanceMethod yX5_init ∈ uw := uw_in (tb_1 (List.mem_of_getElem? (i := 70) rfl)) rfl
theorem uw1_71 : Cond.code yX5_init cX5_init 2 none ∈ uw := uw_in (tb_1 (List.mem_of_getElem? (i := 71) rfl)) rfl
theorem uw1_72 : Cond.methodLink RX5 3 Lib.objectInit ∈ uw := uw_in (tb_1 (List.mem_of_getElem? (i := 72) rfl)) rfl
theorem uw1_73 : Cond.fieldLink RX5 9 "StationPiano$Reader" "tape" "LStationPiano$Tape;" ∈ uw := uw_in (tb_1 (List.mem_of_getElem? (i := 73) rfl)) rfl
theorem uw1_74 : Cond.fieldLink RX5 58 "StationPiano$Reader" "got" "I" ∈ uw := uw_in (tb_1 (List.mem_of_getElem? (i := 74) rfl)) rfl
theorem uw1_75 : Cond.fieldLink RX5 20 "StationPiano$Reader" "fault" "I" ∈ uw := uw_in (tb_1 (List.mem_of_getElem? (i := 75) rfl)) rfl
theorem uw1_76 : Cond.laysFinal "StationPiano$Reader" "StationPiano$Reader" "tape" "LStationPiano$Tape;" ∈ uw := uw_in (tb_1 (List.mem_of_getElem? (i := 76) rfl)) rfl
theorem uw1_78 : Cond.lays "StationPiano$Reader" "StationPiano$Reader" "got" "I" ∈ uw := uw_in (tb_1 (List.mem_of_getElem? (i := 78) rfl)) rfl
theorem uw1_80 : Cond.lays "StationPiano$Reader" "StationPiano$Reader" "fault" "I" ∈ uw := uw_in (tb_1 (List.mem_of_getElem? (i := 80) rfl)) rfl
theorem uw1_83 : Cond.classLink RX11 25 RX7 ∈ uw := uw_in (tb_1 (List.mem_of_getElem? (i := 83) rfl)) rfl
theorem uw1_84 : Cond.instantiable RX7 14 ∈ uw := uw_in (tb_1 (List.mem_of_getElem? (i := 84) rfl)) rfl
theorem uw1_85 : Cond.methodLink RX11 27 yX7_init ∈ uw := uw_in (tb_1 (List.mem_of_getElem? (i := 85) rfl)) rfl
theorem uw1_86 : Cond.instanceMethod yX7_init ∈ uw := uw_in (tb_1 (List.mem_of_getElem? (i := 86) rfl)) rfl
theorem uw1_87 : Cond.code yX7_init cX7_init 2 none ∈ uw := uw_in (tb_1 (List.mem_of_getElem? (i := 87) rfl)) rfl
theorem uw1_88 : Cond.methodLink RX7 3 Lib.objectInit ∈ uw := uw_in (tb_1 (List.mem_of_getElem? (i := 88) rfl)) rfl
theorem uw1_89 : Cond.classLink RX7 19 "[[I" ∈ uw := uw_in (tb_1 (List.mem_of_getElem? (i := 89) rfl)) rfl
theorem uw1_91 : Cond.classLink RX7 24 RX4 ∈ uw := uw_in (tb_1 (List.mem_of_getElem? (i := 91) rfl)) rfl
theorem uw1_93 : Cond.classLink RX7 30 RX2 ∈ uw := uw_in (tb_1 (List.mem_of_getElem? (i := 93) rfl)) rfl
theorem uw1_94 : Cond.instantiable RX2 5 ∈ uw := uw_in (tb_1 (List.mem_of_getElem? (i := 94) rfl)) rfl
theorem uw1_95 : Cond.methodLink RX7 32 yX2_init ∈ uw := uw_in (tb_1 (List.mem_of_getElem? (i := 95) rfl)) rfl
theorem uw1_96 : Cond.instanceMethod yX2_init ∈ uw := uw_in (tb_1 (List.mem_of_getElem? (i := 96) rfl)) rfl
theorem uw1_97 : Cond.code yX2_init cX2_init 2 none ∈ uw := uw_in (tb_1 (List.mem_of_getElem? (i := 97) rfl)) rfl
theorem uw1_98 : Cond.methodLink RX2 3 Lib.objectInit ∈ uw := uw_in (tb_1 (List.mem_of_getElem? (i := 98) rfl)) rfl
theorem uw1_99 : Cond.fieldLink RX2 9 "StationPiano$Law" "code" "[I" ∈ uw := uw_in (tb_1 (List.mem_of_getElem? (i := 99) rfl)) rfl
theorem uw1_100 : Cond.fieldLink RX2 15 "StationPiano$Law" "stack" "[I" ∈ uw := uw_in (tb_1 (List.mem_of_getElem? (i := 100) rfl)) rfl
theorem uw1_101 : Cond.fieldLink RX2 18 "StationPiano$Law" "ofJoys" "Z" ∈ uw := uw_in (tb_1 (List.mem_of_getElem? (i := 101) rfl)) rfl
theorem uw1_103 : Cond.fieldLink RX2 22 "StationPiano$Law" "length" "I" ∈ uw := uw_in (tb_1 (List.mem_of_getElem? (i := 103) rfl)) rfl
theorem uw1_104 : Cond.fieldLink RX2 26 "StationPiano$Law" "top" "I" ∈ uw := uw_in (tb_1 (List.mem_of_getElem? (i := 104) rfl)) rfl
theorem uw1_105 : Cond.laysFinal "StationPiano$Law" "StationPiano$Law" "code" "[I" ∈ uw := uw_in (tb_1 (List.mem_of_getElem? (i := 105) rfl)) rfl
theorem uw1_107 : Cond.laysFinal "StationPiano$Law" "StationPiano$Law" "stack" "[I" ∈ uw := uw_in (tb_1 (List.mem_of_getElem? (i := 107) rfl)) rfl
theorem uw1_109 : Cond.laysFinal "StationPiano$Law" "StationPiano$Law" "ofJoys" "Z" ∈ uw := uw_in (tb_1 (List.mem_of_getElem? (i := 109) rfl)) rfl
theorem uw1_111 : Cond.lays "StationPiano$Law" "StationPiano$Law" "length" "I" ∈ uw := uw_in (tb_1 (List.mem_of_getElem? (i := 111) rfl)) rfl
theorem uw1_113 : Cond.lays "StationPiano$Law" "StationPiano$Law" "top" "I" ∈ uw := uw_in (tb_1 (List.mem_of_getElem? (i := 113) rfl)) rfl
theorem uw1_116 : Cond.arrayClass .long ∈ uw := uw_in (tb_1 (List.mem_of_getElem? (i := 116) rfl)) rfl
theorem uw1_117 : Cond.arrayClass .int ∈ uw := uw_in (tb_1 (List.mem_of_getElem? (i := 117) rfl)) rfl
theorem uw1_118 : Cond.instantiable RX4 9 ∈ uw := uw_in (tb_1 (List.mem_of_getElem? (i := 118) rfl)) rfl
theorem uw1_120 : Cond.instanceMethod yX4_init ∈ uw := uw_in (tb_1 (List.mem_of_getElem? (i := 120) rfl)) rfl
theorem uw1_121 : Cond.code yX4_init cX4_init 1 none ∈ uw := uw_in (tb_1 (List.mem_of_getElem? (i := 121) rfl)) rfl
theorem uw1_122 : Cond.methodLink RX4 3 Lib.objectInit ∈ uw := uw_in (tb_1 (List.mem_of_getElem? (i := 122) rfl)) rfl
theorem uw1_123 : Cond.fieldLink RX4 9 "StationPiano$Passer" "struck" "[I" ∈ uw := uw_in (tb_1 (List.mem_of_getElem? (i := 123) rfl)) rfl
theorem uw1_125 : Cond.fieldLink RX4 25 "StationPiano$Passer" "struckCount" "I" ∈ uw := uw_in (tb_1 (List.mem_of_getElem? (i := 125) rfl)) rfl
theorem uw1_130 : Cond.fieldLink RX4 15 "StationPiano$Passer" "kind" "I" ∈ uw := uw_in (tb_1 (List.mem_of_getElem? (i := 130) rfl)) rfl
theorem uw1_139 : Cond.fieldLink RX4 31 "StationPiano$Passer" "shyness" "I" ∈ uw := uw_in (tb_1 (List.mem_of_getElem? (i := 139) rfl)) rfl
theorem uw1_142 : Cond.fieldLink RX4 28 "StationPiano$Passer" "stays" "I" ∈ uw := uw_in (tb_1 (List.mem_of_getElem? (i := 142) rfl)) rfl
theorem uw1_147 : Cond.laysFinal "StationPiano$Passer" "StationPiano$Passer" "struck" "[I" ∈ uw := uw_in (tb_1 (List.mem_of_getElem? (i := 147) rfl)) rfl
theorem uw1_149 : Cond.lays "StationPiano$Passer" "StationPiano$Passer" "struckCount" "I" ∈ uw := uw_in (tb_1 (List.mem_of_getElem? (i := 149) rfl)) rfl
theorem uw1_151 : Cond.lays "StationPiano$Passer" "StationPiano$Passer" "name" "J" ∈ uw := uw_in (tb_1 (List.mem_of_getElem? (i := 151) rfl)) rfl
theorem uw1_153 : Cond.lays "StationPiano$Passer" "StationPiano$Passer" "kind" "I" ∈ uw := uw_in (tb_1 (List.mem_of_getElem? (i := 153) rfl)) rfl
theorem uw1_155 : Cond.lays "StationPiano$Passer" "StationPiano$Passer" "tune" "I" ∈ uw := uw_in (tb_1 (List.mem_of_getElem? (i := 155) rfl)) rfl
theorem uw1_157 : Cond.lays "StationPiano$Passer" "StationPiano$Passer" "skill" "I" ∈ uw := uw_in (tb_1 (List.mem_of_getElem? (i := 157) rfl)) rfl
theorem uw1_159 : Cond.lays "StationPiano$Passer" "StationPiano$Passer" "shyness" "I" ∈ uw := uw_in (tb_1 (List.mem_of_getElem? (i := 159) rfl)) rfl
theorem uw1_161 : Cond.lays "StationPiano$Passer" "StationPiano$Passer" "stays" "I" ∈ uw := uw_in (tb_1 (List.mem_of_getElem? (i := 161) rfl)) rfl
theorem uw1_163 : Cond.lays "StationPiano$Passer" "StationPiano$Passer" "arrives" "I" ∈ uw := uw_in (tb_1 (List.mem_of_getElem? (i := 163) rfl)) rfl
theorem uw1_166 : Cond.fieldLink RX7 9 "StationPiano$Station" "tuneNames" "[J" ∈ uw := uw_in (tb_1 (List.mem_of_getElem? (i := 166) rfl)) rfl
theorem uw1_168 : Cond.fieldLink RX7 15 "StationPiano$Station" "tuneLengths" "[I" ∈ uw := uw_in (tb_1 (List.mem_of_getElem? (i := 168) rfl)) rfl
theorem uw1_171 : Cond.fieldLink RX7 21 "StationPiano$Station" "tuneKeys" "[[I" ∈ uw := uw_in (tb_1 (List.mem_of_getElem? (i := 171) rfl)) rfl
theorem uw1_174 : Cond.fieldLink RX7 26 "StationPiano$Station" "passers" "[LStationPiano$Passer;" ∈ uw := uw_in (tb_1 (List.mem_of_getElem? (i := 174) rfl)) rfl
theorem uw1_179 : Cond.fieldLink RX7 35 "StationPiano$Station" "joys" "LStationPiano$Law;" ∈ uw := uw_in (tb_1 (List.mem_of_getElem? (i := 179) rfl)) rfl
theorem uw1_181 : Cond.fieldLink RX7 39 "StationPiano$Station" "wears" "LStationPiano$Law;" ∈ uw := uw_in (tb_1 (List.mem_of_getElem? (i := 181) rfl)) rfl
theorem uw1_183 : Cond.fieldLink RX7 56 "StationPiano$Station" "tuneCount" "I" ∈ uw := uw_in (tb_1 (List.mem_of_getElem? (i := 183) rfl)) rfl
theorem uw1_187 : Cond.fieldLink RX7 59 "StationPiano$Station" "passerCount" "I" ∈ uw := uw_in (tb_1 (List.mem_of_getElem? (i := 187) rfl)) rfl
theorem uw1_191 : Cond.fieldLink RX7 42 "StationPiano$Station" "waits" "I" ∈ uw := uw_in (tb_1 (List.mem_of_getElem? (i := 191) rfl)) rfl
theorem uw1_195 : Cond.fieldLink RX7 46 "StationPiano$Station" "minutes" "I" ∈ uw := uw_in (tb_1 (List.mem_of_getElem? (i := 195) rfl)) rfl
theorem uw1_198 : Cond.fieldLink RX7 65 "StationPiano$Station" "from" "I" ∈ uw := uw_in (tb_1 (List.mem_of_getElem? (i := 198) rfl)) rfl
theorem uw1_201 : Cond.fieldLink RX7 49 "StationPiano$Station" "to" "I" ∈ uw := uw_in (tb_1 (List.mem_of_getElem? (i := 201) rfl)) rfl
theorem uw1_204 : Cond.fieldLink RX7 52 "StationPiano$Station" "price" "I" ∈ uw := uw_in (tb_1 (List.mem_of_getElem? (i := 204) rfl)) rfl
theorem uw1_207 : Cond.fieldLink RX7 68 "StationPiano$Station" "toldOnce" "I" ∈ uw := uw_in (tb_1 (List.mem_of_getElem? (i := 207) rfl)) rfl
theorem uw1_209 : Cond.laysFinal "StationPiano$Station" "StationPiano$Station" "tuneNames" "[J" ∈ uw := uw_in (tb_1 (List.mem_of_getElem? (i := 209) rfl)) rfl
theorem uw1_211 : Cond.laysFinal "StationPiano$Station" "StationPiano$Station" "tuneLengths" "[I" ∈ uw := uw_in (tb_1 (List.mem_of_getElem? (i := 211) rfl)) rfl
theorem uw1_213 : Cond.laysFinal "StationPiano$Station" "StationPiano$Station" "tuneKeys" "[[I" ∈ uw := uw_in (tb_1 (List.mem_of_getElem? (i := 213) rfl)) rfl
theorem uw1_215 : Cond.laysFinal "StationPiano$Station" "StationPiano$Station" "passers" "[LStationPiano$Passer;" ∈ uw := uw_in (tb_1 (List.mem_of_getElem? (i := 215) rfl)) rfl
theorem uw1_217 : Cond.laysFinal "StationPiano$Station" "StationPiano$Station" "joys" "LStationPiano$Law;" ∈ uw := uw_in (tb_1 (List.mem_of_getElem? (i := 217) rfl)) rfl
theorem uw1_219 : Cond.laysFinal "StationPiano$Station" "StationPiano$Station" "wears" "LStationPiano$Law;" ∈ uw := uw_in (tb_1 (List.mem_of_getElem? (i := 219) rfl)) rfl
theorem uw1_221 : Cond.lays "StationPiano$Station" "StationPiano$Station" "tuneCount" "I" ∈ uw := uw_in (tb_1 (List.mem_of_getElem? (i := 221) rfl)) rfl
theorem uw1_223 : Cond.lays "StationPiano$Station" "StationPiano$Station" "passerCount" "I" ∈ uw := uw_in (tb_1 (List.mem_of_getElem? (i := 223) rfl)) rfl
theorem uw1_225 : Cond.lays "StationPiano$Station" "StationPiano$Station" "waits" "I" ∈ uw := uw_in (tb_1 (List.mem_of_getElem? (i := 225) rfl)) rfl
theorem uw1_227 : Cond.lays "StationPiano$Station" "StationPiano$Station" "minutes" "I" ∈ uw := uw_in (tb_1 (List.mem_of_getElem? (i := 227) rfl)) rfl
theorem uw1_229 : Cond.lays "StationPiano$Station" "StationPiano$Station" "from" "I" ∈ uw := uw_in (tb_1 (List.mem_of_getElem? (i := 229) rfl)) rfl
theorem uw1_231 : Cond.lays "StationPiano$Station" "StationPiano$Station" "to" "I" ∈ uw := uw_in (tb_1 (List.mem_of_getElem? (i := 231) rfl)) rfl
theorem uw1_233 : Cond.lays "StationPiano$Station" "StationPiano$Station" "price" "I" ∈ uw := uw_in (tb_1 (List.mem_of_getElem? (i := 233) rfl)) rfl
theorem uw1_235 : Cond.lays "StationPiano$Station" "StationPiano$Station" "toldOnce" "I" ∈ uw := uw_in (tb_1 (List.mem_of_getElem? (i := 235) rfl)) rfl
theorem uw1_238 : Cond.classLink RX11 35 RX6 ∈ uw := uw_in (tb_1 (List.mem_of_getElem? (i := 238) rfl)) rfl
theorem uw1_239 : Cond.instantiable RX6 6 ∈ uw := uw_in (tb_1 (List.mem_of_getElem? (i := 239) rfl)) rfl
theorem uw2_1 : Cond.instanceMethod yX6_init ∈ uw := uw_in (tb_2 (List.mem_of_getElem? (i := 1) rfl)) rfl
theorem uw2_2 : Cond.code yX6_init cX6_init 1 none ∈ uw := uw_in (tb_2 (List.mem_of_getElem? (i := 2) rfl)) rfl
theorem uw2_3 : Cond.methodLink RX6 3 Lib.objectInit ∈ uw := uw_in (tb_2 (List.mem_of_getElem? (i := 3) rfl)) rfl
theorem uw2_4 : Cond.fieldLink RX6 9 "StationPiano$State" "wear" "[I" ∈ uw := uw_in (tb_2 (List.mem_of_getElem? (i := 4) rfl)) rfl
theorem uw2_7 : Cond.fieldLink RX6 22 "StationPiano$State" "day" "I" ∈ uw := uw_in (tb_2 (List.mem_of_getElem? (i := 7) rfl)) rfl
theorem uw2_9 : Cond.fieldLink RX6 15 "StationPiano$State" "minutes" "I" ∈ uw := uw_in (tb_2 (List.mem_of_getElem? (i := 9) rfl)) rfl
theorem uw2_11 : Cond.fieldLink RX6 25 "StationPiano$State" "from" "I" ∈ uw := uw_in (tb_2 (List.mem_of_getElem? (i := 11) rfl)) rfl
theorem uw2_14 : Cond.fieldLink RX6 19 "StationPiano$State" "to" "I" ∈ uw := uw_in (tb_2 (List.mem_of_getElem? (i := 14) rfl)) rfl
theorem uw2_17 : Cond.fieldLink RX6 28 "StationPiano$State" "paid" "I" ∈ uw := uw_in (tb_2 (List.mem_of_getElem? (i := 17) rfl)) rfl
theorem uw2_19 : Cond.laysFinal "StationPiano$State" "StationPiano$State" "wear" "[I" ∈ uw := uw_in (tb_2 (List.mem_of_getElem? (i := 19) rfl)) rfl
theorem uw2_21 : Cond.lays "StationPiano$State" "StationPiano$State" "day" "I" ∈ uw := uw_in (tb_2 (List.mem_of_getElem? (i := 21) rfl)) rfl
theorem uw2_23 : Cond.lays "StationPiano$State" "StationPiano$State" "minutes" "I" ∈ uw := uw_in (tb_2 (List.mem_of_getElem? (i := 23) rfl)) rfl
theorem uw2_25 : Cond.lays "StationPiano$State" "StationPiano$State" "from" "I" ∈ uw := uw_in (tb_2 (List.mem_of_getElem? (i := 25) rfl)) rfl
theorem uw2_27 : Cond.lays "StationPiano$State" "StationPiano$State" "to" "I" ∈ uw := uw_in (tb_2 (List.mem_of_getElem? (i := 27) rfl)) rfl
theorem uw2_29 : Cond.lays "StationPiano$State" "StationPiano$State" "paid" "I" ∈ uw := uw_in (tb_2 (List.mem_of_getElem? (i := 29) rfl)) rfl
theorem uw2_32 : Cond.classLink RX11 45 RX10 ∈ uw := uw_in (tb_2 (List.mem_of_getElem? (i := 32) rfl)) rfl
theorem uw2_33 : Cond.instantiable RX10 4 ∈ uw := uw_in (tb_2 (List.mem_of_getElem? (i := 33) rfl)) rfl
theorem uw2_35 : Cond.instanceMethod yX10_init ∈ uw := uw_in (tb_2 (List.mem_of_getElem? (i := 35) rfl)) rfl
theorem uw2_36 : Cond.code yX10_init cX10_init 1 none ∈ uw := uw_in (tb_2 (List.mem_of_getElem? (i := 36) rfl)) rfl
theorem uw2_37 : Cond.methodLink RX10 3 Lib.objectInit ∈ uw := uw_in (tb_2 (List.mem_of_getElem? (i := 37) rfl)) rfl
theorem uw2_38 : Cond.fieldLink RX10 9 "StationPiano$Week" "kinds" "[I" ∈ uw := uw_in (tb_2 (List.mem_of_getElem? (i := 38) rfl)) rfl
theorem uw2_40 : Cond.fieldLink RX10 15 "StationPiano$Week" "firsts" "[I" ∈ uw := uw_in (tb_2 (List.mem_of_getElem? (i := 40) rfl)) rfl
theorem uw2_42 : Cond.fieldLink RX10 18 "StationPiano$Week" "seconds" "[I" ∈ uw := uw_in (tb_2 (List.mem_of_getElem? (i := 42) rfl)) rfl
theorem uw2_44 : Cond.fieldLink RX10 21 "StationPiano$Week" "length" "I" ∈ uw := uw_in (tb_2 (List.mem_of_getElem? (i := 44) rfl)) rfl
theorem uw2_47 : Cond.laysFinal "StationPiano$Week" "StationPiano$Week" "kinds" "[I" ∈ uw := uw_in (tb_2 (List.mem_of_getElem? (i := 47) rfl)) rfl
theorem uw2_49 : Cond.laysFinal "StationPiano$Week" "StationPiano$Week" "firsts" "[I" ∈ uw := uw_in (tb_2 (List.mem_of_getElem? (i := 49) rfl)) rfl
theorem uw2_51 : Cond.laysFinal "StationPiano$Week" "StationPiano$Week" "seconds" "[I" ∈ uw := uw_in (tb_2 (List.mem_of_getElem? (i := 51) rfl)) rfl
theorem uw2_53 : Cond.lays "StationPiano$Week" "StationPiano$Week" "length" "I" ∈ uw := uw_in (tb_2 (List.mem_of_getElem? (i := 53) rfl)) rfl
theorem uw2_56 : Cond.classLink RX11 55 RX0 ∈ uw := uw_in (tb_2 (List.mem_of_getElem? (i := 56) rfl)) rfl
theorem uw2_57 : Cond.instantiable RX0 3 ∈ uw := uw_in (tb_2 (List.mem_of_getElem? (i := 57) rfl)) rfl
theorem uw2_59 : Cond.instanceMethod yX0_init ∈ uw := uw_in (tb_2 (List.mem_of_getElem? (i := 59) rfl)) rfl
theorem uw2_60 : Cond.code yX0_init cX0_init 1 none ∈ uw := uw_in (tb_2 (List.mem_of_getElem? (i := 60) rfl)) rfl
theorem uw2_61 : Cond.methodLink RX0 3 Lib.objectInit ∈ uw := uw_in (tb_2 (List.mem_of_getElem? (i := 61) rfl)) rfl
theorem uw2_62 : Cond.fieldLink RX0 9 "StationPiano$Clues" "keys" "[I" ∈ uw := uw_in (tb_2 (List.mem_of_getElem? (i := 62) rfl)) rfl
theorem uw2_63 : Cond.fieldLink RX0 15 "StationPiano$Clues" "wears" "[I" ∈ uw := uw_in (tb_2 (List.mem_of_getElem? (i := 63) rfl)) rfl
theorem uw2_64 : Cond.fieldLink RX0 18 "StationPiano$Clues" "length" "I" ∈ uw := uw_in (tb_2 (List.mem_of_getElem? (i := 64) rfl)) rfl
theorem uw2_66 : Cond.laysFinal "StationPiano$Clues" "StationPiano$Clues" "keys" "[I" ∈ uw := uw_in (tb_2 (List.mem_of_getElem? (i := 66) rfl)) rfl
theorem uw2_68 : Cond.laysFinal "StationPiano$Clues" "StationPiano$Clues" "wears" "[I" ∈ uw := uw_in (tb_2 (List.mem_of_getElem? (i := 68) rfl)) rfl
theorem uw2_70 : Cond.lays "StationPiano$Clues" "StationPiano$Clues" "length" "I" ∈ uw := uw_in (tb_2 (List.mem_of_getElem? (i := 70) rfl)) rfl
theorem uw2_73 : Cond.classLink RX11 62 RX8 ∈ uw := uw_in (tb_2 (List.mem_of_getElem? (i := 73) rfl)) rfl
theorem uw2_74 : Cond.instantiable RX8 5 ∈ uw := uw_in (tb_2 (List.mem_of_getElem? (i := 74) rfl)) rfl
theorem uw2_76 : Cond.instanceMethod yX8_init ∈ uw := uw_in (tb_2 (List.mem_of_getElem? (i := 76) rfl)) rfl
theorem uw2_77 : Cond.code yX8_init cX8_init 1 none ∈ uw := uw_in (tb_2 (List.mem_of_getElem? (i := 77) rfl)) rfl
theorem uw2_78 : Cond.methodLink RX8 3 Lib.objectInit ∈ uw := uw_in (tb_2 (List.mem_of_getElem? (i := 78) rfl)) rfl
theorem uw2_79 : Cond.fieldLink RX8 9 "StationPiano$Suspects" "wear" "[I" ∈ uw := uw_in (tb_2 (List.mem_of_getElem? (i := 79) rfl)) rfl
theorem uw2_80 : Cond.fieldLink RX8 15 "StationPiano$Suspects" "tally" "[I" ∈ uw := uw_in (tb_2 (List.mem_of_getElem? (i := 80) rfl)) rfl
theorem uw2_81 : Cond.fieldLink RX8 33 "StationPiano$Suspects" "setCount" "I" ∈ uw := uw_in (tb_2 (List.mem_of_getElem? (i := 81) rfl)) rfl
theorem uw2_83 : Cond.fieldLink RX8 36 "StationPiano$Suspects" "inAll" "I" ∈ uw := uw_in (tb_2 (List.mem_of_getElem? (i := 83) rfl)) rfl
theorem uw2_85 : Cond.fieldLink RX8 39 "StationPiano$Suspects" "inSome" "I" ∈ uw := uw_in (tb_2 (List.mem_of_getElem? (i := 85) rfl)) rfl
theorem uw2_87 : Cond.laysFinal "StationPiano$Suspects" "StationPiano$Suspects" "wear" "[I" ∈ uw := uw_in (tb_2 (List.mem_of_getElem? (i := 87) rfl)) rfl
theorem uw2_89 : Cond.laysFinal "StationPiano$Suspects" "StationPiano$Suspects" "tally" "[I" ∈ uw := uw_in (tb_2 (List.mem_of_getElem? (i := 89) rfl)) rfl
theorem uw2_91 : Cond.lays "StationPiano$Suspects" "StationPiano$Suspects" "setCount" "I" ∈ uw := uw_in (tb_2 (List.mem_of_getElem? (i := 91) rfl)) rfl
theorem uw2_93 : Cond.lays "StationPiano$Suspects" "StationPiano$Suspects" "inAll" "I" ∈ uw := uw_in (tb_2 (List.mem_of_getElem? (i := 93) rfl)) rfl
theorem uw2_95 : Cond.lays "StationPiano$Suspects" "StationPiano$Suspects" "inSome" "I" ∈ uw := uw_in (tb_2 (List.mem_of_getElem? (i := 95) rfl)) rfl
theorem uw2_98 : Cond.classLink RX11 69 RX1 ∈ uw := uw_in (tb_2 (List.mem_of_getElem? (i := 98) rfl)) rfl
theorem uw2_99 : Cond.instantiable RX1 15 ∈ uw := uw_in (tb_2 (List.mem_of_getElem? (i := 99) rfl)) rfl
theorem uw2_100 : Cond.methodLink RX11 71 yX1_init ∈ uw := uw_in (tb_2 (List.mem_of_getElem? (i := 100) rfl)) rfl
theorem uw2_101 : Cond.instanceMethod yX1_init ∈ uw := uw_in (tb_2 (List.mem_of_getElem? (i := 101) rfl)) rfl
theorem uw2_102 : Cond.code yX1_init cX1_init 2 none ∈ uw := uw_in (tb_2 (List.mem_of_getElem? (i := 102) rfl)) rfl
theorem uw2_103 : Cond.methodLink RX1 3 Lib.objectInit ∈ uw := uw_in (tb_2 (List.mem_of_getElem? (i := 103) rfl)) rfl
theorem uw2_104 : Cond.fieldLink RX1 9 "StationPiano$DayRun" "beginOf" "[I" ∈ uw := uw_in (tb_2 (List.mem_of_getElem? (i := 104) rfl)) rfl
theorem uw2_106 : Cond.fieldLink RX1 15 "StationPiano$DayRun" "endOf" "[I" ∈ uw := uw_in (tb_2 (List.mem_of_getElem? (i := 106) rfl)) rfl
theorem uw2_108 : Cond.fieldLink RX1 18 "StationPiano$DayRun" "arrives" "[I" ∈ uw := uw_in (tb_2 (List.mem_of_getElem? (i := 108) rfl)) rfl
theorem uw2_110 : Cond.fieldLink RX1 21 "StationPiano$DayRun" "playsFor" "[I" ∈ uw := uw_in (tb_2 (List.mem_of_getElem? (i := 110) rfl)) rfl
theorem uw2_111 : Cond.fieldLink RX1 24 "StationPiano$DayRun" "wearBehind" "[I" ∈ uw := uw_in (tb_2 (List.mem_of_getElem? (i := 111) rfl)) rfl
theorem uw2_112 : Cond.fieldLink RX1 27 "StationPiano$DayRun" "facts" "[I" ∈ uw := uw_in (tb_2 (List.mem_of_getElem? (i := 112) rfl)) rfl
theorem uw2_113 : Cond.fieldLink RX1 30 "StationPiano$DayRun" "begunOf" "[I" ∈ uw := uw_in (tb_2 (List.mem_of_getElem? (i := 113) rfl)) rfl
theorem uw2_114 : Cond.fieldLink RX1 33 "StationPiano$DayRun" "line" "[I" ∈ uw := uw_in (tb_2 (List.mem_of_getElem? (i := 114) rfl)) rfl
theorem uw2_115 : Cond.fieldLink RX1 82 "StationPiano$DayRun" "lineLength" "I" ∈ uw := uw_in (tb_2 (List.mem_of_getElem? (i := 115) rfl)) rfl
theorem uw2_116 : Cond.fieldLink RX1 85 "StationPiano$DayRun" "player" "I" ∈ uw := uw_in (tb_2 (List.mem_of_getElem? (i := 116) rfl)) rfl
theorem uw2_117 : Cond.fieldLink RX1 76 "StationPiano$DayRun" "joySum" "I" ∈ uw := uw_in (tb_2 (List.mem_of_getElem? (i := 117) rfl)) rfl
theorem uw2_119 : Cond.fieldLink RX1 79 "StationPiano$DayRun" "begun" "I" ∈ uw := uw_in (tb_2 (List.mem_of_getElem? (i := 119) rfl)) rfl
theorem uw2_121 : Cond.fieldLink RX1 149 "StationPiano$DayRun" "joyNow" "I" ∈ uw := uw_in (tb_2 (List.mem_of_getElem? (i := 121) rfl)) rfl
theorem uw2_122 : Cond.fieldLink RX1 118 "StationPiano$DayRun" "joyKnown" "Z" ∈ uw := uw_in (tb_2 (List.mem_of_getElem? (i := 122) rfl)) rfl
theorem uw2_123 : Cond.fieldLink RX1 36 "StationPiano$DayRun" "station" "LStationPiano$Station;" ∈ uw := uw_in (tb_2 (List.mem_of_getElem? (i := 123) rfl)) rfl
theorem uw2_124 : Cond.laysFinal "StationPiano$DayRun" "StationPiano$DayRun" "beginOf" "[I" ∈ uw := uw_in (tb_2 (List.mem_of_getElem? (i := 124) rfl)) rfl
theorem uw2_126 : Cond.laysFinal "StationPiano$DayRun" "StationPiano$DayRun" "endOf" "[I" ∈ uw := uw_in (tb_2 (List.mem_of_getElem? (i := 126) rfl)) rfl
theorem uw2_128 : Cond.laysFinal "StationPiano$DayRun" "StationPiano$DayRun" "arrives" "[I" ∈ uw := uw_in (tb_2 (List.mem_of_getElem? (i := 128) rfl)) rfl
theorem uw2_130 : Cond.laysFinal "StationPiano$DayRun" "StationPiano$DayRun" "playsFor" "[I" ∈ uw := uw_in (tb_2 (List.mem_of_getElem? (i := 130) rfl)) rfl
theorem uw2_132 : Cond.laysFinal "StationPiano$DayRun" "StationPiano$DayRun" "wearBehind" "[I" ∈ uw := uw_in (tb_2 (List.mem_of_getElem? (i := 132) rfl)) rfl
theorem uw2_134 : Cond.laysFinal "StationPiano$DayRun" "StationPiano$DayRun" "facts" "[I" ∈ uw := uw_in (tb_2 (List.mem_of_getElem? (i := 134) rfl)) rfl
theorem uw2_136 : Cond.laysFinal "StationPiano$DayRun" "StationPiano$DayRun" "begunOf" "[I" ∈ uw := uw_in (tb_2 (List.mem_of_getElem? (i := 136) rfl)) rfl
theorem uw2_138 : Cond.laysFinal "StationPiano$DayRun" "StationPiano$DayRun" "line" "[I" ∈ uw := uw_in (tb_2 (List.mem_of_getElem? (i := 138) rfl)) rfl
theorem uw2_140 : Cond.lays "StationPiano$DayRun" "StationPiano$DayRun" "lineLength" "I" ∈ uw := uw_in (tb_2 (List.mem_of_getElem? (i := 140) rfl)) rfl
theorem uw2_142 : Cond.lays "StationPiano$DayRun" "StationPiano$DayRun" "player" "I" ∈ uw := uw_in (tb_2 (List.mem_of_getElem? (i := 142) rfl)) rfl
theorem uw2_144 : Cond.lays "StationPiano$DayRun" "StationPiano$DayRun" "joySum" "I" ∈ uw := uw_in (tb_2 (List.mem_of_getElem? (i := 144) rfl)) rfl
theorem uw2_146 : Cond.lays "StationPiano$DayRun" "StationPiano$DayRun" "begun" "I" ∈ uw := uw_in (tb_2 (List.mem_of_getElem? (i := 146) rfl)) rfl
theorem uw2_148 : Cond.lays "StationPiano$DayRun" "StationPiano$DayRun" "joyNow" "I" ∈ uw := uw_in (tb_2 (List.mem_of_getElem? (i := 148) rfl)) rfl
theorem uw2_150 : Cond.lays "StationPiano$DayRun" "StationPiano$DayRun" "joyKnown" "Z" ∈ uw := uw_in (tb_2 (List.mem_of_getElem? (i := 150) rfl)) rfl
theorem uw2_152 : Cond.lays "StationPiano$DayRun" "StationPiano$DayRun" "station" "LStationPiano$Station;" ∈ uw := uw_in (tb_2 (List.mem_of_getElem? (i := 152) rfl)) rfl
theorem uw2_155 : Cond.classLink RX11 78 RX3 ∈ uw := uw_in (tb_2 (List.mem_of_getElem? (i := 155) rfl)) rfl
theorem uw2_157 : Cond.instantiable RX3 4 ∈ uw := uw_in (tb_2 (List.mem_of_getElem? (i := 157) rfl)) rfl
theorem uw2_159 : Cond.instanceMethod yX3_init ∈ uw := uw_in (tb_2 (List.mem_of_getElem? (i := 159) rfl)) rfl
theorem uw2_160 : Cond.code yX3_init cX3_init 1 none ∈ uw := uw_in (tb_2 (List.mem_of_getElem? (i := 160) rfl)) rfl
theorem uw2_161 : Cond.methodLink RX3 1 Lib.objectInit ∈ uw := uw_in (tb_2 (List.mem_of_getElem? (i := 161) rfl)) rfl
theorem uw2_162 : Cond.classLink RX3 7 RX6 ∈ uw := uw_in (tb_2 (List.mem_of_getElem? (i := 162) rfl)) rfl
theorem uw2_164 : Cond.classLink RX3 16 RX10 ∈ uw := uw_in (tb_2 (List.mem_of_getElem? (i := 164) rfl)) rfl
theorem uw2_166 : Cond.classLink RX3 23 RX0 ∈ uw := uw_in (tb_2 (List.mem_of_getElem? (i := 166) rfl)) rfl
theorem uw2_168 : Cond.fieldLink RX3 10 "StationPiano$Mark" "state" "LStationPiano$State;" ∈ uw := uw_in (tb_2 (List.mem_of_getElem? (i := 168) rfl)) rfl
theorem uw2_169 : Cond.fieldLink RX3 19 "StationPiano$Mark" "plan" "LStationPiano$Week;" ∈ uw := uw_in (tb_2 (List.mem_of_getElem? (i := 169) rfl)) rfl
theorem uw2_170 : Cond.fieldLink RX3 26 "StationPiano$Mark" "clues" "LStationPiano$Clues;" ∈ uw := uw_in (tb_2 (List.mem_of_getElem? (i := 170) rfl)) rfl
theorem uw2_171 : Cond.fieldLink RX3 40 "StationPiano$Mark" "laid" "Z" ∈ uw := uw_in (tb_2 (List.mem_of_getElem? (i := 171) rfl)) rfl
theorem uw2_173 : Cond.laysFinal "StationPiano$Mark" "StationPiano$Mark" "state" "LStationPiano$State;" ∈ uw := uw_in (tb_2 (List.mem_of_getElem? (i := 173) rfl)) rfl
theorem uw2_175 : Cond.laysFinal "StationPiano$Mark" "StationPiano$Mark" "plan" "LStationPiano$Week;" ∈ uw := uw_in (tb_2 (List.mem_of_getElem? (i := 175) rfl)) rfl
theorem uw2_177 : Cond.laysFinal "StationPiano$Mark" "StationPiano$Mark" "clues" "LStationPiano$Clues;" ∈ uw := uw_in (tb_2 (List.mem_of_getElem? (i := 177) rfl)) rfl
theorem uw2_179 : Cond.lays "StationPiano$Mark" "StationPiano$Mark" "laid" "Z" ∈ uw := uw_in (tb_2 (List.mem_of_getElem? (i := 179) rfl)) rfl
theorem uw2_183 : Cond.fieldLink RX11 12 "StationPiano" "tape" "LStationPiano$Tape;" ∈ uw := uw_in (tb_2 (List.mem_of_getElem? (i := 183) rfl)) rfl
theorem uw2_184 : Cond.fieldLink RX11 21 "StationPiano" "reader" "LStationPiano$Reader;" ∈ uw := uw_in (tb_2 (List.mem_of_getElem? (i := 184) rfl)) rfl
theorem uw2_185 : Cond.fieldLink RX11 28 "StationPiano" "station" "LStationPiano$Station;" ∈ uw := uw_in (tb_2 (List.mem_of_getElem? (i := 185) rfl)) rfl
theorem uw2_186 : Cond.fieldLink RX11 32 "StationPiano" "draft" "LStationPiano$Station;" ∈ uw := uw_in (tb_2 (List.mem_of_getElem? (i := 186) rfl)) rfl
theorem uw2_187 : Cond.fieldLink RX11 38 "StationPiano" "state" "LStationPiano$State;" ∈ uw := uw_in (tb_2 (List.mem_of_getElem? (i := 187) rfl)) rfl
theorem uw2_188 : Cond.fieldLink RX11 42 "StationPiano" "trial" "LStationPiano$State;" ∈ uw := uw_in (tb_2 (List.mem_of_getElem? (i := 188) rfl)) rfl
theorem uw2_189 : Cond.fieldLink RX11 48 "StationPiano" "plan" "LStationPiano$Week;" ∈ uw := uw_in (tb_2 (List.mem_of_getElem? (i := 189) rfl)) rfl
theorem uw2_190 : Cond.fieldLink RX11 52 "StationPiano" "draftPlan" "LStationPiano$Week;" ∈ uw := uw_in (tb_2 (List.mem_of_getElem? (i := 190) rfl)) rfl
theorem uw2_191 : Cond.fieldLink RX11 58 "StationPiano" "clues" "LStationPiano$Clues;" ∈ uw := uw_in (tb_2 (List.mem_of_getElem? (i := 191) rfl)) rfl
theorem uw2_192 : Cond.fieldLink RX11 65 "StationPiano" "suspects" "LStationPiano$Suspects;" ∈ uw := uw_in (tb_2 (List.mem_of_getElem? (i := 192) rfl)) rfl
theorem uw2_193 : Cond.fieldLink RX11 74 "StationPiano" "run" "LStationPiano$DayRun;" ∈ uw := uw_in (tb_2 (List.mem_of_getElem? (i := 193) rfl)) rfl
theorem uw2_194 : Cond.fieldLink RX11 80 "StationPiano" "marks" "[LStationPiano$Mark;" ∈ uw := uw_in (tb_2 (List.mem_of_getElem? (i := 194) rfl)) rfl
theorem uw2_195 : Cond.fieldLink RX11 85 "StationPiano" "past" "[LStationPiano$State;" ∈ uw := uw_in (tb_2 (List.mem_of_getElem? (i := 195) rfl)) rfl
theorem uw2_196 : Cond.fieldLink RX11 211 "StationPiano" "pastNext" "I" ∈ uw := uw_in (tb_2 (List.mem_of_getElem? (i := 196) rfl)) rfl
theorem uw2_197 : Cond.fieldLink RX11 208 "StationPiano" "pastCount" "I" ∈ uw := uw_in (tb_2 (List.mem_of_getElem? (i := 197) rfl)) rfl
theorem uw2_198 : Cond.fieldLink RX11 89 "StationPiano" "answers" "[I" ∈ uw := uw_in (tb_2 (List.mem_of_getElem? (i := 198) rfl)) rfl
theorem uw2_199 : Cond.fieldLink RX11 331 "StationPiano" "drawn" "J" ∈ uw := uw_in (tb_2 (List.mem_of_getElem? (i := 199) rfl)) rfl
theorem uw2_200 : Cond.laysFinal "StationPiano" "StationPiano" "tape" "LStationPiano$Tape;" ∈ uw := uw_in (tb_2 (List.mem_of_getElem? (i := 200) rfl)) rfl
theorem uw2_202 : Cond.laysFinal "StationPiano" "StationPiano" "reader" "LStationPiano$Reader;" ∈ uw := uw_in (tb_2 (List.mem_of_getElem? (i := 202) rfl)) rfl
theorem uw2_204 : Cond.lays "StationPiano" "StationPiano" "station" "LStationPiano$Station;" ∈ uw := uw_in (tb_2 (List.mem_of_getElem? (i := 204) rfl)) rfl
theorem uw2_206 : Cond.lays "StationPiano" "StationPiano" "draft" "LStationPiano$Station;" ∈ uw := uw_in (tb_2 (List.mem_of_getElem? (i := 206) rfl)) rfl
theorem uw2_208 : Cond.laysFinal "StationPiano" "StationPiano" "state" "LStationPiano$State;" ∈ uw := uw_in (tb_2 (List.mem_of_getElem? (i := 208) rfl)) rfl
theorem uw2_210 : Cond.laysFinal "StationPiano" "StationPiano" "trial" "LStationPiano$State;" ∈ uw := uw_in (tb_2 (List.mem_of_getElem? (i := 210) rfl)) rfl
theorem uw2_212 : Cond.laysFinal "StationPiano" "StationPiano" "plan" "LStationPiano$Week;" ∈ uw := uw_in (tb_2 (List.mem_of_getElem? (i := 212) rfl)) rfl
theorem uw2_214 : Cond.laysFinal "StationPiano" "StationPiano" "draftPlan" "LStationPiano$Week;" ∈ uw := uw_in (tb_2 (List.mem_of_getElem? (i := 214) rfl)) rfl
theorem uw2_216 : Cond.laysFinal "StationPiano" "StationPiano" "clues" "LStationPiano$Clues;" ∈ uw := uw_in (tb_2 (List.mem_of_getElem? (i := 216) rfl)) rfl
theorem uw2_218 : Cond.laysFinal "StationPiano" "StationPiano" "suspects" "LStationPiano$Suspects;" ∈ uw := uw_in (tb_2 (List.mem_of_getElem? (i := 218) rfl)) rfl
theorem uw2_220 : Cond.laysFinal "StationPiano" "StationPiano" "run" "LStationPiano$DayRun;" ∈ uw := uw_in (tb_2 (List.mem_of_getElem? (i := 220) rfl)) rfl
theorem uw2_222 : Cond.laysFinal "StationPiano" "StationPiano" "marks" "[LStationPiano$Mark;" ∈ uw := uw_in (tb_2 (List.mem_of_getElem? (i := 222) rfl)) rfl
theorem uw2_224 : Cond.laysFinal "StationPiano" "StationPiano" "past" "[LStationPiano$State;" ∈ uw := uw_in (tb_2 (List.mem_of_getElem? (i := 224) rfl)) rfl
theorem uw2_226 : Cond.lays "StationPiano" "StationPiano" "pastNext" "I" ∈ uw := uw_in (tb_2 (List.mem_of_getElem? (i := 226) rfl)) rfl
theorem uw2_228 : Cond.lays "StationPiano" "StationPiano" "pastCount" "I" ∈ uw := uw_in (tb_2 (List.mem_of_getElem? (i := 228) rfl)) rfl
theorem uw2_230 : Cond.laysFinal "StationPiano" "StationPiano" "answers" "[I" ∈ uw := uw_in (tb_2 (List.mem_of_getElem? (i := 230) rfl)) rfl
theorem uw2_232 : Cond.lays "StationPiano" "StationPiano" "drawn" "J" ∈ uw := uw_in (tb_2 (List.mem_of_getElem? (i := 232) rfl)) rfl
theorem uw2_235 : Cond.methodLink RL 42 yX11_feed ∈ uw := uw_in (tb_2 (List.mem_of_getElem? (i := 235) rfl)) rfl
theorem uw2_236 : Cond.instanceMethod yX11_feed ∈ uw := uw_in (tb_2 (List.mem_of_getElem? (i := 236) rfl)) rfl
theorem uw2_237 : Cond.selects RX11 yX11_feed yX11_feed ∈ uw := uw_in (tb_2 (List.mem_of_getElem? (i := 237) rfl)) rfl
theorem uw2_238 : Cond.code yX11_feed cX11_feed 7 (some .int) ∈ uw := uw_in (tb_2 (List.mem_of_getElem? (i := 238) rfl)) rfl
theorem uw2_239 : Cond.methodLink RX11 93 yX11_feedBytes ∈ uw := uw_in (tb_2 (List.mem_of_getElem? (i := 239) rfl)) rfl
theorem uw3_1 : Cond.instanceMethod yX11_feedBytes ∈ uw := uw_in (tb_3 (List.mem_of_getElem? (i := 1) rfl)) rfl
theorem uw3_2 : Cond.code yX11_feedBytes cX11_feedBytes 4 none ∈ uw := uw_in (tb_3 (List.mem_of_getElem? (i := 2) rfl)) rfl
theorem uw3_3 : Cond.methodLink RX11 310 yX9_add ∈ uw := uw_in (tb_3 (List.mem_of_getElem? (i := 3) rfl)) rfl
theorem uw3_4 : Cond.instanceMethod yX9_add ∈ uw := uw_in (tb_3 (List.mem_of_getElem? (i := 4) rfl)) rfl
theorem uw3_5 : Cond.selects RX9 yX9_add yX9_add ∈ uw := uw_in (tb_3 (List.mem_of_getElem? (i := 5) rfl)) rfl
theorem uw3_6 : Cond.code yX9_add cX9_add 2 none ∈ uw := uw_in (tb_3 (List.mem_of_getElem? (i := 6) rfl)) rfl
theorem uw3_7 : Cond.methodLink RL 47 yX11_station ∈ uw := uw_in (tb_3 (List.mem_of_getElem? (i := 7) rfl)) rfl
theorem uw3_8 : Cond.instanceMethod yX11_station ∈ uw := uw_in (tb_3 (List.mem_of_getElem? (i := 8) rfl)) rfl
theorem uw3_9 : Cond.selects RX11 yX11_station yX11_station ∈ uw := uw_in (tb_3 (List.mem_of_getElem? (i := 9) rfl)) rfl
theorem uw3_10 : Cond.code yX11_station cX11_station 3 (some .int) ∈ uw := uw_in (tb_3 (List.mem_of_getElem? (i := 10) rfl)) rfl
theorem uw3_11 : Cond.methodLink RX11 101 yX5_readStation ∈ uw := uw_in (tb_3 (List.mem_of_getElem? (i := 11) rfl)) rfl
theorem uw3_12 : Cond.instanceMethod yX5_readStation ∈ uw := uw_in (tb_3 (List.mem_of_getElem? (i := 12) rfl)) rfl
theorem uw3_13 : Cond.selects RX5 yX5_readStation yX5_readStation ∈ uw := uw_in (tb_3 (List.mem_of_getElem? (i := 13) rfl)) rfl
theorem uw3_14 : Cond.code yX5_readStation cX5_readStation 3 (some .int) ∈ uw := uw_in (tb_3 (List.mem_of_getElem? (i := 14) rfl)) rfl
theorem uw3_15 : Cond.methodLink RX5 15 yX7_clear ∈ uw := uw_in (tb_3 (List.mem_of_getElem? (i := 15) rfl)) rfl
theorem uw3_16 : Cond.instanceMethod yX7_clear ∈ uw := uw_in (tb_3 (List.mem_of_getElem? (i := 16) rfl)) rfl
theorem uw3_17 : Cond.selects RX7 yX7_clear yX7_clear ∈ uw := uw_in (tb_3 (List.mem_of_getElem? (i := 17) rfl)) rfl
theorem uw3_18 : Cond.code yX7_clear cX7_clear 1 none ∈ uw := uw_in (tb_3 (List.mem_of_getElem? (i := 18) rfl)) rfl
theorem uw3_19 : Cond.methodLink RX5 24 yX9_rewind ∈ uw := uw_in (tb_3 (List.mem_of_getElem? (i := 19) rfl)) rfl
theorem uw3_20 : Cond.instanceMethod yX9_rewind ∈ uw := uw_in (tb_3 (List.mem_of_getElem? (i := 20) rfl)) rfl
theorem uw3_21 : Cond.selects RX9 yX9_rewind yX9_rewind ∈ uw := uw_in (tb_3 (List.mem_of_getElem? (i := 21) rfl)) rfl
theorem uw3_22 : Cond.code yX9_rewind cX9_rewind 1 none ∈ uw := uw_in (tb_3 (List.mem_of_getElem? (i := 22) rfl)) rfl
theorem uw3_23 : Cond.methodLink RX9 22 yX9_advance ∈ uw := uw_in (tb_3 (List.mem_of_getElem? (i := 23) rfl)) rfl
theorem uw3_24 : Cond.instanceMethod yX9_advance ∈ uw := uw_in (tb_3 (List.mem_of_getElem? (i := 24) rfl)) rfl
theorem uw3_25 : Cond.selects RX9 yX9_advance yX9_advance ∈ uw := uw_in (tb_3 (List.mem_of_getElem? (i := 25) rfl)) rfl
theorem uw3_26 : Cond.code yX9_advance cX9_advance 1 none ∈ uw := uw_in (tb_3 (List.mem_of_getElem? (i := 26) rfl)) rfl
theorem uw3_27 : Cond.methodLink RX9 25 yX9_signAt ∈ uw := uw_in (tb_3 (List.mem_of_getElem? (i := 27) rfl)) rfl
theorem uw3_29 : Cond.instanceMethod yX9_signAt ∈ uw := uw_in (tb_3 (List.mem_of_getElem? (i := 29) rfl)) rfl
theorem uw3_30 : Cond.code yX9_signAt cX9_signAt 2 (some .int) ∈ uw := uw_in (tb_3 (List.mem_of_getElem? (i := 30) rfl)) rfl
theorem uw3_31 : Cond.constantLong RX9 39 (32) ∈ uw := uw_in (tb_3 (List.mem_of_getElem? (i := 31) rfl)) rfl
theorem uw3_32 : Cond.methodLink RX9 41 yX9_wordNumber ∈ uw := uw_in (tb_3 (List.mem_of_getElem? (i := 32) rfl)) rfl
theorem uw3_33 : Cond.static yX9_wordNumber ∈ uw := uw_in (tb_3 (List.mem_of_getElem? (i := 33) rfl)) rfl
theorem uw3_34 : Cond.code yX9_wordNumber cX9_wordNumber 7 (some .int) ∈ uw := uw_in (tb_3 (List.mem_of_getElem? (i := 34) rfl)) rfl
theorem uw3_36 : Cond.methodLink RX9 57 yJ0_length_8abf5 ∈ uw := uw_in (tb_3 (List.mem_of_getElem? (i := 36) rfl)) rfl
theorem uw3_37 : Cond.instanceMethod yJ0_length_8abf5 ∈ uw := uw_in (tb_3 (List.mem_of_getElem? (i := 37) rfl)) rfl
theorem uw3_38 : Cond.selects RJ0 yJ0_length_8abf5 yJ0_length_8abf5 ∈ uw := uw_in (tb_3 (List.mem_of_getElem? (i := 38) rfl)) rfl
theorem uw3_39 : Cond.code yJ0_length_8abf5 cJ0_length_8abf5 1 (some .int) ∈ uw := uw_in (tb_3 (List.mem_of_getElem? (i := 39) rfl)) rfl
theorem uw3_40 : Cond.methodLink RJ0 335 yJ0_coder_7d493 ∈ uw := uw_in (tb_3 (List.mem_of_getElem? (i := 40) rfl)) rfl
theorem uw3_41 : Cond.instanceMethod yJ0_coder_7d493 ∈ uw := uw_in (tb_3 (List.mem_of_getElem? (i := 41) rfl)) rfl
theorem uw3_42 : Cond.selects RJ0 yJ0_coder_7d493 yJ0_coder_7d493 ∈ uw := uw_in (tb_3 (List.mem_of_getElem? (i := 42) rfl)) rfl
theorem uw3_43 : Cond.code yJ0_coder_7d493 cJ0_coder_7d493 1 (some .byte) ∈ uw := uw_in (tb_3 (List.mem_of_getElem? (i := 43) rfl)) rfl
theorem uw3_44 : Cond.fieldLink RJ0 38 "java/lang/String" "COMPACT_STRINGS" "Z" ∈ uw := uw_in (tb_3 (List.mem_of_getElem? (i := 44) rfl)) rfl
theorem uw3_46 : Cond.methodLink RX9 60 yJ0_charAt_5068e ∈ uw := uw_in (tb_3 (List.mem_of_getElem? (i := 46) rfl)) rfl
theorem uw3_47 : Cond.instanceMethod yJ0_charAt_5068e ∈ uw := uw_in (tb_3 (List.mem_of_getElem? (i := 47) rfl)) rfl
theorem uw3_48 : Cond.selects RJ0 yJ0_charAt_5068e yJ0_charAt_5068e ∈ uw := uw_in (tb_3 (List.mem_of_getElem? (i := 48) rfl)) rfl
theorem uw3_49 : Cond.code yJ0_charAt_5068e cJ0_charAt_5068e 2 (some .char) ∈ uw := uw_in (tb_3 (List.mem_of_getElem? (i := 49) rfl)) rfl
theorem uw3_50 : Cond.methodLink RJ0 492 yJ0_isLatin1_aae02 ∈ uw := uw_in (tb_3 (List.mem_of_getElem? (i := 50) rfl)) rfl
theorem uw3_51 : Cond.instanceMethod yJ0_isLatin1_aae02 ∈ uw := uw_in (tb_3 (List.mem_of_getElem? (i := 51) rfl)) rfl
theorem uw3_52 : Cond.selects RJ0 yJ0_isLatin1_aae02 yJ0_isLatin1_aae02 ∈ uw := uw_in (tb_3 (List.mem_of_getElem? (i := 52) rfl)) rfl
theorem uw3_53 : Cond.code yJ0_isLatin1_aae02 cJ0_isLatin1_aae02 1 (some .boolean) ∈ uw := uw_in (tb_3 (List.mem_of_getElem? (i := 53) rfl)) rfl
theorem uw3_54 : Cond.methodLink RJ0 495 yJ1_charAt_3b067 ∈ uw := uw_in (tb_3 (List.mem_of_getElem? (i := 54) rfl)) rfl
theorem uw3_55 : Cond.static yJ1_charAt_3b067 ∈ uw := uw_in (tb_3 (List.mem_of_getElem? (i := 55) rfl)) rfl
theorem uw3_56 : Cond.code yJ1_charAt_3b067 cJ1_charAt_3b067 2 (some .char) ∈ uw := uw_in (tb_3 (List.mem_of_getElem? (i := 56) rfl)) rfl
theorem uw3_57 : Cond.methodLink RJ1 9 yJ0_checkIndex_df160 ∈ uw := uw_in (tb_3 (List.mem_of_getElem? (i := 57) rfl)) rfl
theorem uw3_58 : Cond.static yJ0_checkIndex_df160 ∈ uw := uw_in (tb_3 (List.mem_of_getElem? (i := 58) rfl)) rfl
theorem uw3_59 : Cond.code yJ0_checkIndex_df160 cJ0_checkIndex_df160 2 none ∈ uw := uw_in (tb_3 (List.mem_of_getElem? (i := 59) rfl)) rfl
theorem uw3_60 : Cond.fieldLink RJ0 1053 "jdk/internal/util/Preconditions" "SIOOBE_FORMATTER" "Ljava/util/function/BiFunction;" ∈ uw := uw_in (tb_3 (List.mem_of_getElem? (i := 60) rfl)) rfl
theorem uw3_62 : Cond.methodLink RJ0 1059 yJ3_checkIndex_8e157 ∈ uw := uw_in (tb_3 (List.mem_of_getElem? (i := 62) rfl)) rfl
theorem uw3_63 : Cond.static yJ3_checkIndex_8e157 ∈ uw := uw_in (tb_3 (List.mem_of_getElem? (i := 63) rfl)) rfl
theorem uw3_64 : Cond.code yJ3_checkIndex_8e157 cJ3_checkIndex_8e157 3 (some .int) ∈ uw := uw_in (tb_3 (List.mem_of_getElem? (i := 64) rfl)) rfl
theorem uw3_65 : Cond.methodLink RJ0 498 yJ2_charAt_3b067 ∈ uw := uw_in (tb_3 (List.mem_of_getElem? (i := 65) rfl)) rfl
theorem uw3_66 : Cond.static yJ2_charAt_3b067 ∈ uw := uw_in (tb_3 (List.mem_of_getElem? (i := 66) rfl)) rfl
theorem uw3_67 : Cond.code yJ2_charAt_3b067 cJ2_charAt_3b067 2 (some .char) ∈ uw := uw_in (tb_3 (List.mem_of_getElem? (i := 67) rfl)) rfl
theorem uw3_68 : Cond.methodLink RJ2 67 yJ2_checkIndex_2214a ∈ uw := uw_in (tb_3 (List.mem_of_getElem? (i := 68) rfl)) rfl
theorem uw3_69 : Cond.static yJ2_checkIndex_2214a ∈ uw := uw_in (tb_3 (List.mem_of_getElem? (i := 69) rfl)) rfl
theorem uw3_70 : Cond.code yJ2_checkIndex_2214a cJ2_checkIndex_2214a 2 none ∈ uw := uw_in (tb_3 (List.mem_of_getElem? (i := 70) rfl)) rfl
theorem uw3_71 : Cond.methodLink RJ2 48 yJ2_length_9d52b ∈ uw := uw_in (tb_3 (List.mem_of_getElem? (i := 71) rfl)) rfl
theorem uw3_72 : Cond.static yJ2_length_9d52b ∈ uw := uw_in (tb_3 (List.mem_of_getElem? (i := 72) rfl)) rfl
theorem uw3_73 : Cond.code yJ2_length_9d52b cJ2_length_9d52b 1 (some .int) ∈ uw := uw_in (tb_3 (List.mem_of_getElem? (i := 73) rfl)) rfl
theorem uw3_74 : Cond.methodLink RJ2 414 yJ0_checkIndex_df160 ∈ uw := uw_in (tb_3 (List.mem_of_getElem? (i := 74) rfl)) rfl
theorem uw3_75 : Cond.methodLink RJ2 71 yJ2_getChar_3b067 ∈ uw := uw_in (tb_3 (List.mem_of_getElem? (i := 75) rfl)) rfl
theorem uw3_76 : Cond.static yJ2_getChar_3b067 ∈ uw := uw_in (tb_3 (List.mem_of_getElem? (i := 76) rfl)) rfl
theorem uw3_77 : Cond.code yJ2_getChar_3b067 cJ2_getChar_3b067 2 (some .char) ∈ uw := uw_in (tb_3 (List.mem_of_getElem? (i := 77) rfl)) rfl
theorem uw3_78 : Cond.fieldLink RJ2 44 "java/lang/StringUTF16" "$assertionsDisabled" "Z" ∈ uw := uw_in (tb_3 (List.mem_of_getElem? (i := 78) rfl)) rfl
theorem uw3_80 : Cond.fieldLink RJ2 59 "java/lang/StringUTF16" "HI_BYTE_SHIFT" "I" ∈ uw := uw_in (tb_3 (List.mem_of_getElem? (i := 80) rfl)) rfl
theorem uw3_82 : Cond.fieldLink RJ2 63 "java/lang/StringUTF16" "LO_BYTE_SHIFT" "I" ∈ uw := uw_in (tb_3 (List.mem_of_getElem? (i := 82) rfl)) rfl
theorem uw3_85 : Cond.methodLink RX9 50 yJ0_indexOf_0f7a4 ∈ uw := uw_in (tb_3 (List.mem_of_getElem? (i := 85) rfl)) rfl
theorem uw3_86 : Cond.instanceMethod yJ0_indexOf_0f7a4 ∈ uw := uw_in (tb_3 (List.mem_of_getElem? (i := 86) rfl)) rfl
theorem uw3_87 : Cond.selects RJ0 yJ0_indexOf_0f7a4 yJ0_indexOf_0f7a4 ∈ uw := uw_in (tb_3 (List.mem_of_getElem? (i := 87) rfl)) rfl
theorem uw3_88 : Cond.code yJ0_indexOf_0f7a4 cJ0_indexOf_0f7a4 2 (some .int) ∈ uw := uw_in (tb_3 (List.mem_of_getElem? (i := 88) rfl)) rfl
theorem uw3_89 : Cond.methodLink RJ0 633 yJ0_indexOf_7cf53 ∈ uw := uw_in (tb_3 (List.mem_of_getElem? (i := 89) rfl)) rfl
theorem uw3_90 : Cond.instanceMethod yJ0_indexOf_7cf53 ∈ uw := uw_in (tb_3 (List.mem_of_getElem? (i := 90) rfl)) rfl
theorem uw3_91 : Cond.selects RJ0 yJ0_indexOf_7cf53 yJ0_indexOf_7cf53 ∈ uw := uw_in (tb_3 (List.mem_of_getElem? (i := 91) rfl)) rfl
theorem uw3_92 : Cond.code yJ0_indexOf_7cf53 cJ0_indexOf_7cf53 3 (some .int) ∈ uw := uw_in (tb_3 (List.mem_of_getElem? (i := 92) rfl)) rfl
theorem uw3_93 : Cond.methodLink RJ0 505 yJ0_length_8abf5 ∈ uw := uw_in (tb_3 (List.mem_of_getElem? (i := 93) rfl)) rfl
theorem uw3_94 : Cond.methodLink RJ0 637 yJ1_indexOf_4cfef ∈ uw := uw_in (tb_3 (List.mem_of_getElem? (i := 94) rfl)) rfl
theorem uw3_95 : Cond.static yJ1_indexOf_4cfef ∈ uw := uw_in (tb_3 (List.mem_of_getElem? (i := 95) rfl)) rfl
theorem uw3_96 : Cond.code yJ1_indexOf_4cfef cJ1_indexOf_4cfef 4 (some .int) ∈ uw := uw_in (tb_3 (List.mem_of_getElem? (i := 96) rfl)) rfl
theorem uw3_97 : Cond.methodLink RJ1 88 yJ1_canEncode_9a6ad ∈ uw := uw_in (tb_3 (List.mem_of_getElem? (i := 97) rfl)) rfl
theorem uw3_98 : Cond.static yJ1_canEncode_9a6ad ∈ uw := uw_in (tb_3 (List.mem_of_getElem? (i := 98) rfl)) rfl
theorem uw3_99 : Cond.code yJ1_canEncode_9a6ad cJ1_canEncode_9a6ad 1 (some .boolean) ∈ uw := uw_in (tb_3 (List.mem_of_getElem? (i := 99) rfl)) rfl
theorem uw3_100 : Cond.methodLink RJ1 92 Lib.Math.max.name ∈ uw := uw_in (tb_3 (List.mem_of_getElem? (i := 100) rfl)) rfl
theorem uw3_101 : Cond.static Lib.Math.max.name ∈ uw := uw_in (tb_3 (List.mem_of_getElem? (i := 101) rfl)) rfl
theorem uw3_102 : Cond.code Lib.Math.max.name Lib.Math.max.code 2 (some .int) ∈ uw := uw_in (tb_3 (List.mem_of_getElem? (i := 102) rfl)) rfl
theorem uw3_103 : Cond.methodLink RJ1 38 Lib.Math.min.name ∈ uw := uw_in (tb_3 (List.mem_of_getElem? (i := 103) rfl)) rfl
theorem uw3_104 : Cond.static Lib.Math.min.name ∈ uw := uw_in (tb_3 (List.mem_of_getElem? (i := 104) rfl)) rfl
theorem uw3_105 : Cond.code Lib.Math.min.name Lib.Math.min.code 2 (some .int) ∈ uw := uw_in (tb_3 (List.mem_of_getElem? (i := 105) rfl)) rfl
theorem uw3_106 : Cond.methodLink RJ1 95 yJ1_indexOfChar_4cfef ∈ uw := uw_in (tb_3 (List.mem_of_getElem? (i := 106) rfl)) rfl
theorem uw3_107 : Cond.static yJ1_indexOfChar_4cfef ∈ uw := uw_in (tb_3 (List.mem_of_getElem? (i := 107) rfl)) rfl
theorem uw3_108 : Cond.code yJ1_indexOfChar_4cfef cJ1_indexOfChar_4cfef 6 (some .int) ∈ uw := uw_in (tb_3 (List.mem_of_getElem? (i := 108) rfl)) rfl
theorem uw3_109 : Cond.methodLink RJ0 640 yJ2_indexOf_4cfef ∈ uw := uw_in (tb_3 (List.mem_of_getElem? (i := 109) rfl)) rfl
theorem uw3_110 : Cond.static yJ2_indexOf_4cfef ∈ uw := uw_in (tb_3 (List.mem_of_getElem? (i := 110) rfl)) rfl
theorem uw3_111 : Cond.code yJ2_indexOf_4cfef cJ2_indexOf_4cfef 4 (some .int) ∈ uw := uw_in (tb_3 (List.mem_of_getElem? (i := 111) rfl)) rfl
theorem uw3_112 : Cond.methodLink RJ2 224 Lib.Math.max.name ∈ uw := uw_in (tb_3 (List.mem_of_getElem? (i := 112) rfl)) rfl
theorem uw3_113 : Cond.methodLink RJ2 183 Lib.Math.min.name ∈ uw := uw_in (tb_3 (List.mem_of_getElem? (i := 113) rfl)) rfl
theorem uw3_114 : Cond.constant RJ2 227 (65536) ∈ uw := uw_in (tb_3 (List.mem_of_getElem? (i := 114) rfl)) rfl
theorem uw3_115 : Cond.methodLink RJ2 228 yJ2_indexOfChar_4cfef ∈ uw := uw_in (tb_3 (List.mem_of_getElem? (i := 115) rfl)) rfl
theorem uw3_116 : Cond.static yJ2_indexOfChar_4cfef ∈ uw := uw_in (tb_3 (List.mem_of_getElem? (i := 116) rfl)) rfl
theorem uw3_117 : Cond.code yJ2_indexOfChar_4cfef cJ2_indexOfChar_4cfef 4 (some .int) ∈ uw := uw_in (tb_3 (List.mem_of_getElem? (i := 117) rfl)) rfl
theorem uw3_118 : Cond.methodLink RJ2 96 yJ2_checkBoundsBeginEnd_d044e ∈ uw := uw_in (tb_3 (List.mem_of_getElem? (i := 118) rfl)) rfl
theorem uw3_119 : Cond.static yJ2_checkBoundsBeginEnd_d044e ∈ uw := uw_in (tb_3 (List.mem_of_getElem? (i := 119) rfl)) rfl
theorem uw3_120 : Cond.code yJ2_checkBoundsBeginEnd_d044e cJ2_checkBoundsBeginEnd_d044e 3 none ∈ uw := uw_in (tb_3 (List.mem_of_getElem? (i := 120) rfl)) rfl
theorem uw3_121 : Cond.methodLink RJ2 241 yJ0_checkBoundsBeginEnd_23922 ∈ uw := uw_in (tb_3 (List.mem_of_getElem? (i := 121) rfl)) rfl
theorem uw3_122 : Cond.static yJ0_checkBoundsBeginEnd_23922 ∈ uw := uw_in (tb_3 (List.mem_of_getElem? (i := 122) rfl)) rfl
theorem uw3_123 : Cond.code yJ0_checkBoundsBeginEnd_23922 cJ0_checkBoundsBeginEnd_23922 3 none ∈ uw := uw_in (tb_3 (List.mem_of_getElem? (i := 123) rfl)) rfl
theorem uw3_124 : Cond.methodLink RJ0 1062 yJ3_checkFromToIndex_8c36e ∈ uw := uw_in (tb_3 (List.mem_of_getElem? (i := 124) rfl)) rfl
theorem uw3_125 : Cond.static yJ3_checkFromToIndex_8c36e ∈ uw := uw_in (tb_3 (List.mem_of_getElem? (i := 125) rfl)) rfl
theorem uw3_126 : Cond.code yJ3_checkFromToIndex_8c36e cJ3_checkFromToIndex_8c36e 4 (some .int) ∈ uw := uw_in (tb_3 (List.mem_of_getElem? (i := 126) rfl)) rfl
theorem uw3_127 : Cond.methodLink RJ2 244 yJ2_indexOfCharUnsafe_4cfef ∈ uw := uw_in (tb_3 (List.mem_of_getElem? (i := 127) rfl)) rfl
theorem uw3_128 : Cond.static yJ2_indexOfCharUnsafe_4cfef ∈ uw := uw_in (tb_3 (List.mem_of_getElem? (i := 128) rfl)) rfl
theorem uw3_129 : Cond.code yJ2_indexOfCharUnsafe_4cfef cJ2_indexOfCharUnsafe_4cfef 5 (some .int) ∈ uw := uw_in (tb_3 (List.mem_of_getElem? (i := 129) rfl)) rfl
theorem uw3_130 : Cond.methodLink RJ2 232 yJ2_indexOfSupplementary_4cfef ∈ uw := uw_in (tb_3 (List.mem_of_getElem? (i := 130) rfl)) rfl
theorem uw3_131 : Cond.static yJ2_indexOfSupplementary_4cfef ∈ uw := uw_in (tb_3 (List.mem_of_getElem? (i := 131) rfl)) rfl
theorem uw3_132 : Cond.code yJ2_indexOfSupplementary_4cfef cJ2_indexOfSupplementary_4cfef 7 (some .int) ∈ uw := uw_in (tb_3 (List.mem_of_getElem? (i := 132) rfl)) rfl
theorem uw3_133 : Cond.methodLink RJ2 164 yJ11_isValidCodePoint_9a6ad ∈ uw := uw_in (tb_3 (List.mem_of_getElem? (i := 133) rfl)) rfl
theorem uw3_134 : Cond.static yJ11_isValidCodePoint_9a6ad ∈ uw := uw_in (tb_3 (List.mem_of_getElem? (i := 134) rfl)) rfl
theorem uw3_135 : Cond.code yJ11_isValidCodePoint_9a6ad cJ11_isValidCodePoint_9a6ad 2 (some .boolean) ∈ uw := uw_in (tb_3 (List.mem_of_getElem? (i := 135) rfl)) rfl
theorem uw3_136 : Cond.methodLink RJ2 157 yJ11_highSurrogate_5068e ∈ uw := uw_in (tb_3 (List.mem_of_getElem? (i := 136) rfl)) rfl
theorem uw3_137 : Cond.static yJ11_highSurrogate_5068e ∈ uw := uw_in (tb_3 (List.mem_of_getElem? (i := 137) rfl)) rfl
theorem uw3_138 : Cond.code yJ11_highSurrogate_5068e cJ11_highSurrogate_5068e 1 (some .char) ∈ uw := uw_in (tb_3 (List.mem_of_getElem? (i := 138) rfl)) rfl
theorem uw3_139 : Cond.constant RJ11 110 (55232) ∈ uw := uw_in (tb_3 (List.mem_of_getElem? (i := 139) rfl)) rfl
theorem uw3_140 : Cond.methodLink RJ2 161 yJ11_lowSurrogate_5068e ∈ uw := uw_in (tb_3 (List.mem_of_getElem? (i := 140) rfl)) rfl
theorem uw3_141 : Cond.static yJ11_lowSurrogate_5068e ∈ uw := uw_in (tb_3 (List.mem_of_getElem? (i := 141) rfl)) rfl
theorem uw3_142 : Cond.code yJ11_lowSurrogate_5068e cJ11_lowSurrogate_5068e 1 (some .char) ∈ uw := uw_in (tb_3 (List.mem_of_getElem? (i := 142) rfl)) rfl
theorem uw3_143 : Cond.constant RJ11 76 (56320) ∈ uw := uw_in (tb_3 (List.mem_of_getElem? (i := 143) rfl)) rfl
theorem uw3_144 : Cond.methodLink RX5 32 yX5_stationLine ∈ uw := uw_in (tb_3 (List.mem_of_getElem? (i := 144) rfl)) rfl
theorem uw3_146 : Cond.instanceMethod yX5_stationLine ∈ uw := uw_in (tb_3 (List.mem_of_getElem? (i := 146) rfl)) rfl
theorem uw3_147 : Cond.code yX5_stationLine cX5_stationLine 2 (some .boolean) ∈ uw := uw_in (tb_3 (List.mem_of_getElem? (i := 147) rfl)) rfl
theorem uw3_148 : Cond.methodLink RX5 88 yX5_tuneLine ∈ uw := uw_in (tb_3 (List.mem_of_getElem? (i := 148) rfl)) rfl
theorem uw3_150 : Cond.instanceMethod yX5_tuneLine ∈ uw := uw_in (tb_3 (List.mem_of_getElem? (i := 150) rfl)) rfl
theorem uw3_151 : Cond.code yX5_tuneLine cX5_tuneLine 4 (some .boolean) ∈ uw := uw_in (tb_3 (List.mem_of_getElem? (i := 151) rfl)) rfl
theorem uw3_152 : Cond.methodLink RX5 48 yX5_wrong ∈ uw := uw_in (tb_3 (List.mem_of_getElem? (i := 152) rfl)) rfl
theorem uw3_154 : Cond.instanceMethod yX5_wrong ∈ uw := uw_in (tb_3 (List.mem_of_getElem? (i := 154) rfl)) rfl
theorem uw3_155 : Cond.code yX5_wrong cX5_wrong 2 (some .boolean) ∈ uw := uw_in (tb_3 (List.mem_of_getElem? (i := 155) rfl)) rfl
theorem uw3_156 : Cond.methodLink RX5 52 yX9_advance ∈ uw := uw_in (tb_3 (List.mem_of_getElem? (i := 156) rfl)) rfl
theorem uw3_157 : Cond.methodLink RX5 141 yX5_mayBeNewName ∈ uw := uw_in (tb_3 (List.mem_of_getElem? (i := 157) rfl)) rfl
theorem uw3_159 : Cond.instanceMethod yX5_mayBeNewName ∈ uw := uw_in (tb_3 (List.mem_of_getElem? (i := 159) rfl)) rfl
theorem uw3_160 : Cond.code yX5_mayBeNewName cX5_mayBeNewName 2 (some .boolean) ∈ uw := uw_in (tb_3 (List.mem_of_getElem? (i := 160) rfl)) rfl
theorem uw3_161 : Cond.methodLink RX5 68 yX5_isName ∈ uw := uw_in (tb_3 (List.mem_of_getElem? (i := 161) rfl)) rfl
theorem uw3_163 : Cond.instanceMethod yX5_isName ∈ uw := uw_in (tb_3 (List.mem_of_getElem? (i := 163) rfl)) rfl
theorem uw3_164 : Cond.code yX5_isName cX5_isName 1 (some .boolean) ∈ uw := uw_in (tb_3 (List.mem_of_getElem? (i := 164) rfl)) rfl
theorem uw3_165 : Cond.methodLink RX5 76 yX7_hasName ∈ uw := uw_in (tb_3 (List.mem_of_getElem? (i := 165) rfl)) rfl
theorem uw3_166 : Cond.instanceMethod yX7_hasName ∈ uw := uw_in (tb_3 (List.mem_of_getElem? (i := 166) rfl)) rfl
theorem uw3_167 : Cond.selects RX7 yX7_hasName yX7_hasName ∈ uw := uw_in (tb_3 (List.mem_of_getElem? (i := 167) rfl)) rfl
theorem uw3_168 : Cond.code yX7_hasName cX7_hasName 4 (some .boolean) ∈ uw := uw_in (tb_3 (List.mem_of_getElem? (i := 168) rfl)) rfl
theorem uw3_169 : Cond.methodLink RX7 75 yX7_tuneNamed ∈ uw := uw_in (tb_3 (List.mem_of_getElem? (i := 169) rfl)) rfl
theorem uw3_170 : Cond.instanceMethod yX7_tuneNamed ∈ uw := uw_in (tb_3 (List.mem_of_getElem? (i := 170) rfl)) rfl
theorem uw3_171 : Cond.selects RX7 yX7_tuneNamed yX7_tuneNamed ∈ uw := uw_in (tb_3 (List.mem_of_getElem? (i := 171) rfl)) rfl
theorem uw3_172 : Cond.code yX7_tuneNamed cX7_tuneNamed 4 (some .int) ∈ uw := uw_in (tb_3 (List.mem_of_getElem? (i := 172) rfl)) rfl
theorem uw3_173 : Cond.methodLink RX5 152 yX5_takeKey ∈ uw := uw_in (tb_3 (List.mem_of_getElem? (i := 173) rfl)) rfl
theorem uw3_175 : Cond.instanceMethod yX5_takeKey ∈ uw := uw_in (tb_3 (List.mem_of_getElem? (i := 175) rfl)) rfl
theorem uw3_176 : Cond.code yX5_takeKey cX5_takeKey 4 (some .boolean) ∈ uw := uw_in (tb_3 (List.mem_of_getElem? (i := 176) rfl)) rfl
theorem uw3_177 : Cond.methodLink RX5 64 yX5_takeNumber ∈ uw := uw_in (tb_3 (List.mem_of_getElem? (i := 177) rfl)) rfl
theorem uw3_179 : Cond.instanceMethod yX5_takeNumber ∈ uw := uw_in (tb_3 (List.mem_of_getElem? (i := 179) rfl)) rfl
theorem uw3_180 : Cond.code yX5_takeNumber cX5_takeNumber 3 (some .boolean) ∈ uw := uw_in (tb_3 (List.mem_of_getElem? (i := 180) rfl)) rfl
theorem uw3_181 : Cond.methodLink RX5 61 yX5_take ∈ uw := uw_in (tb_3 (List.mem_of_getElem? (i := 181) rfl)) rfl
theorem uw3_183 : Cond.instanceMethod yX5_take ∈ uw := uw_in (tb_3 (List.mem_of_getElem? (i := 183) rfl)) rfl
theorem uw3_184 : Cond.code yX5_take cX5_take 2 (some .boolean) ∈ uw := uw_in (tb_3 (List.mem_of_getElem? (i := 184) rfl)) rfl
theorem uw3_185 : Cond.methodLink RX5 91 yX5_passerLine ∈ uw := uw_in (tb_3 (List.mem_of_getElem? (i := 185) rfl)) rfl
theorem uw3_187 : Cond.instanceMethod yX5_passerLine ∈ uw := uw_in (tb_3 (List.mem_of_getElem? (i := 187) rfl)) rfl
theorem uw3_188 : Cond.code yX5_passerLine cX5_passerLine 3 (some .boolean) ∈ uw := uw_in (tb_3 (List.mem_of_getElem? (i := 188) rfl)) rfl
theorem uw3_189 : Cond.methodLink RX5 172 yX5_takeKind ∈ uw := uw_in (tb_3 (List.mem_of_getElem? (i := 189) rfl)) rfl
theorem uw3_191 : Cond.instanceMethod yX5_takeKind ∈ uw := uw_in (tb_3 (List.mem_of_getElem? (i := 191) rfl)) rfl
theorem uw3_192 : Cond.code yX5_takeKind cX5_takeKind 2 (some .boolean) ∈ uw := uw_in (tb_3 (List.mem_of_getElem? (i := 192) rfl)) rfl
theorem uw3_193 : Cond.methodLink RX5 176 yX5_takeTune ∈ uw := uw_in (tb_3 (List.mem_of_getElem? (i := 193) rfl)) rfl
theorem uw3_195 : Cond.instanceMethod yX5_takeTune ∈ uw := uw_in (tb_3 (List.mem_of_getElem? (i := 195) rfl)) rfl
theorem uw3_196 : Cond.code yX5_takeTune cX5_takeTune 4 (some .boolean) ∈ uw := uw_in (tb_3 (List.mem_of_getElem? (i := 196) rfl)) rfl
theorem uw3_197 : Cond.methodLink RX5 195 yX7_tuneNamed ∈ uw := uw_in (tb_3 (List.mem_of_getElem? (i := 197) rfl)) rfl
theorem uw3_198 : Cond.methodLink RX5 202 yX4_learn ∈ uw := uw_in (tb_3 (List.mem_of_getElem? (i := 198) rfl)) rfl
theorem uw3_199 : Cond.instanceMethod yX4_learn ∈ uw := uw_in (tb_3 (List.mem_of_getElem? (i := 199) rfl)) rfl
theorem uw3_200 : Cond.selects RX4 yX4_learn yX4_learn ∈ uw := uw_in (tb_3 (List.mem_of_getElem? (i := 200) rfl)) rfl
theorem uw3_201 : Cond.code yX4_learn cX4_learn 7 none ∈ uw := uw_in (tb_3 (List.mem_of_getElem? (i := 201) rfl)) rfl
theorem uw3_202 : Cond.methodLink RX4 19 Lib.Math.min.name ∈ uw := uw_in (tb_3 (List.mem_of_getElem? (i := 202) rfl)) rfl
theorem uw3_203 : Cond.methodLink RX5 80 yX5_takeValue ∈ uw := uw_in (tb_3 (List.mem_of_getElem? (i := 203) rfl)) rfl
theorem uw3_205 : Cond.instanceMethod yX5_takeValue ∈ uw := uw_in (tb_3 (List.mem_of_getElem? (i := 205) rfl)) rfl
theorem uw3_206 : Cond.code yX5_takeValue cX5_takeValue 4 (some .boolean) ∈ uw := uw_in (tb_3 (List.mem_of_getElem? (i := 206) rfl)) rfl
theorem uw3_207 : Cond.methodLink RX5 94 yX5_toldFirst ∈ uw := uw_in (tb_3 (List.mem_of_getElem? (i := 207) rfl)) rfl
theorem uw3_209 : Cond.instanceMethod yX5_toldFirst ∈ uw := uw_in (tb_3 (List.mem_of_getElem? (i := 209) rfl)) rfl
theorem uw3_210 : Cond.code yX5_toldFirst cX5_toldFirst 3 (some .boolean) ∈ uw := uw_in (tb_3 (List.mem_of_getElem? (i := 210) rfl)) rfl
theorem uw3_211 : Cond.methodLink RX5 97 yX5_waitsTold ∈ uw := uw_in (tb_3 (List.mem_of_getElem? (i := 211) rfl)) rfl
theorem uw3_213 : Cond.instanceMethod yX5_waitsTold ∈ uw := uw_in (tb_3 (List.mem_of_getElem? (i := 213) rfl)) rfl
theorem uw3_214 : Cond.code yX5_waitsTold cX5_waitsTold 3 (some .boolean) ∈ uw := uw_in (tb_3 (List.mem_of_getElem? (i := 214) rfl)) rfl
theorem uw3_215 : Cond.methodLink RX5 100 yX5_eachTold ∈ uw := uw_in (tb_3 (List.mem_of_getElem? (i := 215) rfl)) rfl
theorem uw3_217 : Cond.instanceMethod yX5_eachTold ∈ uw := uw_in (tb_3 (List.mem_of_getElem? (i := 217) rfl)) rfl
theorem uw3_218 : Cond.code yX5_eachTold cX5_eachTold 3 (some .boolean) ∈ uw := uw_in (tb_3 (List.mem_of_getElem? (i := 218) rfl)) rfl
theorem uw3_219 : Cond.methodLink RX5 103 yX5_hoursTold ∈ uw := uw_in (tb_3 (List.mem_of_getElem? (i := 219) rfl)) rfl
theorem uw3_221 : Cond.instanceMethod yX5_hoursTold ∈ uw := uw_in (tb_3 (List.mem_of_getElem? (i := 221) rfl)) rfl
theorem uw3_222 : Cond.code yX5_hoursTold cX5_hoursTold 3 (some .boolean) ∈ uw := uw_in (tb_3 (List.mem_of_getElem? (i := 222) rfl)) rfl
theorem uw3_223 : Cond.methodLink RX5 106 yX5_priceTold ∈ uw := uw_in (tb_3 (List.mem_of_getElem? (i := 223) rfl)) rfl
theorem uw3_225 : Cond.instanceMethod yX5_priceTold ∈ uw := uw_in (tb_3 (List.mem_of_getElem? (i := 225) rfl)) rfl
theorem uw3_226 : Cond.code yX5_priceTold cX5_priceTold 3 (some .boolean) ∈ uw := uw_in (tb_3 (List.mem_of_getElem? (i := 226) rfl)) rfl
theorem uw3_227 : Cond.methodLink RX5 113 yX5_expression ∈ uw := uw_in (tb_3 (List.mem_of_getElem? (i := 227) rfl)) rfl
theorem uw3_229 : Cond.instanceMethod yX5_expression ∈ uw := uw_in (tb_3 (List.mem_of_getElem? (i := 229) rfl)) rfl
theorem uw3_230 : Cond.code yX5_expression cX5_expression 8 (some .boolean) ∈ uw := uw_in (tb_3 (List.mem_of_getElem? (i := 230) rfl)) rfl
theorem uw3_231 : Cond.methodLink RX5 206 yX5_part ∈ uw := uw_in (tb_3 (List.mem_of_getElem? (i := 231) rfl)) rfl
theorem uw3_233 : Cond.instanceMethod yX5_part ∈ uw := uw_in (tb_3 (List.mem_of_getElem? (i := 233) rfl)) rfl
theorem uw3_234 : Cond.code yX5_part cX5_part 6 (some .boolean) ∈ uw := uw_in (tb_3 (List.mem_of_getElem? (i := 234) rfl)) rfl
theorem uw3_235 : Cond.methodLink RX5 219 yX2_knows ∈ uw := uw_in (tb_3 (List.mem_of_getElem? (i := 235) rfl)) rfl
theorem uw3_236 : Cond.instanceMethod yX2_knows ∈ uw := uw_in (tb_3 (List.mem_of_getElem? (i := 236) rfl)) rfl
theorem uw3_237 : Cond.selects RX2 yX2_knows yX2_knows ∈ uw := uw_in (tb_3 (List.mem_of_getElem? (i := 237) rfl)) rfl
theorem uw3_238 : Cond.code yX2_knows cX2_knows 3 (some .boolean) ∈ uw := uw_in (tb_3 (List.mem_of_getElem? (i := 238) rfl)) rfl
theorem uw3_239 : Cond.methodLink RX5 214 yX2_add ∈ uw := uw_in (tb_3 (List.mem_of_getElem? (i := 239) rfl)) rfl
theorem uw4_0 : Cond.instanceMethod yX2_add ∈ uw := uw_in (tb_4 (List.mem_of_getElem? (i := 0) rfl)) rfl
theorem uw4_1 : Cond.selects RX2 yX2_add yX2_add ∈ uw := uw_in (tb_4 (List.mem_of_getElem? (i := 1) rfl)) rfl
theorem uw4_2 : Cond.code yX2_add cX2_add 2 none ∈ uw := uw_in (tb_4 (List.mem_of_getElem? (i := 2) rfl)) rfl
theorem uw4_3 : Cond.methodLink RX5 210 yX5_stepOf ∈ uw := uw_in (tb_4 (List.mem_of_getElem? (i := 3) rfl)) rfl
theorem uw4_4 : Cond.static yX5_stepOf ∈ uw := uw_in (tb_4 (List.mem_of_getElem? (i := 4) rfl)) rfl
theorem uw4_5 : Cond.code yX5_stepOf cX5_stepOf 2 (some .int) ∈ uw := uw_in (tb_4 (List.mem_of_getElem? (i := 5) rfl)) rfl
theorem uw4_6 : Cond.methodLink RX11 105 yX11_beginStation ∈ uw := uw_in (tb_4 (List.mem_of_getElem? (i := 6) rfl)) rfl
theorem uw4_8 : Cond.instanceMethod yX11_beginStation ∈ uw := uw_in (tb_4 (List.mem_of_getElem? (i := 8) rfl)) rfl
theorem uw4_9 : Cond.code yX11_beginStation cX11_beginStation 2 none ∈ uw := uw_in (tb_4 (List.mem_of_getElem? (i := 9) rfl)) rfl
theorem uw4_10 : Cond.methodLink RX11 312 yX6_begin ∈ uw := uw_in (tb_4 (List.mem_of_getElem? (i := 10) rfl)) rfl
theorem uw4_11 : Cond.instanceMethod yX6_begin ∈ uw := uw_in (tb_4 (List.mem_of_getElem? (i := 11) rfl)) rfl
theorem uw4_12 : Cond.selects RX6 yX6_begin yX6_begin ∈ uw := uw_in (tb_4 (List.mem_of_getElem? (i := 12) rfl)) rfl
theorem uw4_13 : Cond.code yX6_begin cX6_begin 3 none ∈ uw := uw_in (tb_4 (List.mem_of_getElem? (i := 13) rfl)) rfl
theorem uw4_14 : Cond.methodLink RL 52 yX11_week ∈ uw := uw_in (tb_4 (List.mem_of_getElem? (i := 14) rfl)) rfl
theorem uw4_15 : Cond.instanceMethod yX11_week ∈ uw := uw_in (tb_4 (List.mem_of_getElem? (i := 15) rfl)) rfl
theorem uw4_16 : Cond.selects RX11 yX11_week yX11_week ∈ uw := uw_in (tb_4 (List.mem_of_getElem? (i := 16) rfl)) rfl
theorem uw4_17 : Cond.code yX11_week cX11_week 2 (some .int) ∈ uw := uw_in (tb_4 (List.mem_of_getElem? (i := 17) rfl)) rfl
theorem uw4_18 : Cond.methodLink RX11 108 yX5_readWeek ∈ uw := uw_in (tb_4 (List.mem_of_getElem? (i := 18) rfl)) rfl
theorem uw4_19 : Cond.instanceMethod yX5_readWeek ∈ uw := uw_in (tb_4 (List.mem_of_getElem? (i := 19) rfl)) rfl
theorem uw4_20 : Cond.selects RX5 yX5_readWeek yX5_readWeek ∈ uw := uw_in (tb_4 (List.mem_of_getElem? (i := 20) rfl)) rfl
theorem uw4_21 : Cond.code yX5_readWeek cX5_readWeek 3 (some .int) ∈ uw := uw_in (tb_4 (List.mem_of_getElem? (i := 21) rfl)) rfl
theorem uw4_22 : Cond.methodLink RX5 41 yX5_weekLine ∈ uw := uw_in (tb_4 (List.mem_of_getElem? (i := 22) rfl)) rfl
theorem uw4_24 : Cond.instanceMethod yX5_weekLine ∈ uw := uw_in (tb_4 (List.mem_of_getElem? (i := 24) rfl)) rfl
theorem uw4_25 : Cond.code yX5_weekLine cX5_weekLine 5 (some .boolean) ∈ uw := uw_in (tb_4 (List.mem_of_getElem? (i := 25) rfl)) rfl
theorem uw4_26 : Cond.methodLink RX5 84 yX10_add ∈ uw := uw_in (tb_4 (List.mem_of_getElem? (i := 26) rfl)) rfl
theorem uw4_27 : Cond.instanceMethod yX10_add ∈ uw := uw_in (tb_4 (List.mem_of_getElem? (i := 27) rfl)) rfl
theorem uw4_28 : Cond.selects RX10 yX10_add yX10_add ∈ uw := uw_in (tb_4 (List.mem_of_getElem? (i := 28) rfl)) rfl
theorem uw4_29 : Cond.code yX10_add cX10_add 4 none ∈ uw := uw_in (tb_4 (List.mem_of_getElem? (i := 29) rfl)) rfl
theorem uw4_30 : Cond.methodLink RX11 112 yX10_copyFrom ∈ uw := uw_in (tb_4 (List.mem_of_getElem? (i := 30) rfl)) rfl
theorem uw4_31 : Cond.instanceMethod yX10_copyFrom ∈ uw := uw_in (tb_4 (List.mem_of_getElem? (i := 31) rfl)) rfl
theorem uw4_32 : Cond.selects RX10 yX10_copyFrom yX10_copyFrom ∈ uw := uw_in (tb_4 (List.mem_of_getElem? (i := 32) rfl)) rfl
theorem uw4_33 : Cond.code yX10_copyFrom cX10_copyFrom 3 none ∈ uw := uw_in (tb_4 (List.mem_of_getElem? (i := 33) rfl)) rfl
theorem uw4_34 : Cond.methodLink RL 56 yX11_passer ∈ uw := uw_in (tb_4 (List.mem_of_getElem? (i := 34) rfl)) rfl
theorem uw4_35 : Cond.instanceMethod yX11_passer ∈ uw := uw_in (tb_4 (List.mem_of_getElem? (i := 35) rfl)) rfl
theorem uw4_36 : Cond.selects RX11 yX11_passer yX11_passer ∈ uw := uw_in (tb_4 (List.mem_of_getElem? (i := 36) rfl)) rfl
theorem uw4_37 : Cond.code yX11_passer cX11_passer 4 (some .int) ∈ uw := uw_in (tb_4 (List.mem_of_getElem? (i := 37) rfl)) rfl
theorem uw4_38 : Cond.methodLink RX11 116 yX11_isPasser ∈ uw := uw_in (tb_4 (List.mem_of_getElem? (i := 38) rfl)) rfl
theorem uw4_40 : Cond.instanceMethod yX11_isPasser ∈ uw := uw_in (tb_4 (List.mem_of_getElem? (i := 40) rfl)) rfl
theorem uw4_41 : Cond.code yX11_isPasser cX11_isPasser 2 (some .boolean) ∈ uw := uw_in (tb_4 (List.mem_of_getElem? (i := 41) rfl)) rfl
theorem uw4_42 : Cond.methodLink RX11 141 yX4_playsFor ∈ uw := uw_in (tb_4 (List.mem_of_getElem? (i := 42) rfl)) rfl
theorem uw4_43 : Cond.instanceMethod yX4_playsFor ∈ uw := uw_in (tb_4 (List.mem_of_getElem? (i := 43) rfl)) rfl
theorem uw4_44 : Cond.selects RX4 yX4_playsFor yX4_playsFor ∈ uw := uw_in (tb_4 (List.mem_of_getElem? (i := 44) rfl)) rfl
theorem uw4_45 : Cond.code yX4_playsFor cX4_playsFor 2 (some .int) ∈ uw := uw_in (tb_4 (List.mem_of_getElem? (i := 45) rfl)) rfl
theorem uw4_46 : Cond.methodLink RL 60 yX11_tune ∈ uw := uw_in (tb_4 (List.mem_of_getElem? (i := 46) rfl)) rfl
theorem uw4_47 : Cond.instanceMethod yX11_tune ∈ uw := uw_in (tb_4 (List.mem_of_getElem? (i := 47) rfl)) rfl
theorem uw4_48 : Cond.selects RX11 yX11_tune yX11_tune ∈ uw := uw_in (tb_4 (List.mem_of_getElem? (i := 48) rfl)) rfl
theorem uw4_49 : Cond.code yX11_tune cX11_tune 3 (some .int) ∈ uw := uw_in (tb_4 (List.mem_of_getElem? (i := 49) rfl)) rfl
theorem uw4_50 : Cond.methodLink RL 64 yX11_key ∈ uw := uw_in (tb_4 (List.mem_of_getElem? (i := 50) rfl)) rfl
theorem uw4_51 : Cond.instanceMethod yX11_key ∈ uw := uw_in (tb_4 (List.mem_of_getElem? (i := 51) rfl)) rfl
theorem uw4_52 : Cond.selects RX11 yX11_key yX11_key ∈ uw := uw_in (tb_4 (List.mem_of_getElem? (i := 52) rfl)) rfl
theorem uw4_53 : Cond.code yX11_key cX11_key 2 (some .int) ∈ uw := uw_in (tb_4 (List.mem_of_getElem? (i := 53) rfl)) rfl
theorem uw4_54 : Cond.methodLink RX11 158 yX11_isKey ∈ uw := uw_in (tb_4 (List.mem_of_getElem? (i := 54) rfl)) rfl
theorem uw4_55 : Cond.static yX11_isKey ∈ uw := uw_in (tb_4 (List.mem_of_getElem? (i := 55) rfl)) rfl
theorem uw4_56 : Cond.code yX11_isKey cX11_isKey 1 (some .boolean) ∈ uw := uw_in (tb_4 (List.mem_of_getElem? (i := 56) rfl)) rfl
theorem uw4_57 : Cond.methodLink RL 68 yX11_begins ∈ uw := uw_in (tb_4 (List.mem_of_getElem? (i := 57) rfl)) rfl
theorem uw4_58 : Cond.instanceMethod yX11_begins ∈ uw := uw_in (tb_4 (List.mem_of_getElem? (i := 58) rfl)) rfl
theorem uw4_59 : Cond.selects RX11 yX11_begins yX11_begins ∈ uw := uw_in (tb_4 (List.mem_of_getElem? (i := 59) rfl)) rfl
theorem uw4_60 : Cond.code yX11_begins cX11_begins 2 (some .int) ∈ uw := uw_in (tb_4 (List.mem_of_getElem? (i := 60) rfl)) rfl
theorem uw4_61 : Cond.methodLink RX11 164 yX11_tryDay ∈ uw := uw_in (tb_4 (List.mem_of_getElem? (i := 61) rfl)) rfl
theorem uw4_63 : Cond.instanceMethod yX11_tryDay ∈ uw := uw_in (tb_4 (List.mem_of_getElem? (i := 63) rfl)) rfl
theorem uw4_64 : Cond.code yX11_tryDay cX11_tryDay 2 (some .int) ∈ uw := uw_in (tb_4 (List.mem_of_getElem? (i := 64) rfl)) rfl
theorem uw4_65 : Cond.methodLink RX11 214 yX6_copyFrom ∈ uw := uw_in (tb_4 (List.mem_of_getElem? (i := 65) rfl)) rfl
theorem uw4_66 : Cond.instanceMethod yX6_copyFrom ∈ uw := uw_in (tb_4 (List.mem_of_getElem? (i := 66) rfl)) rfl
theorem uw4_67 : Cond.selects RX6 yX6_copyFrom yX6_copyFrom ∈ uw := uw_in (tb_4 (List.mem_of_getElem? (i := 67) rfl)) rfl
theorem uw4_68 : Cond.code yX6_copyFrom cX6_copyFrom 3 none ∈ uw := uw_in (tb_4 (List.mem_of_getElem? (i := 68) rfl)) rfl
theorem uw4_69 : Cond.methodLink RX11 179 yX1_prepare ∈ uw := uw_in (tb_4 (List.mem_of_getElem? (i := 69) rfl)) rfl
theorem uw4_70 : Cond.instanceMethod yX1_prepare ∈ uw := uw_in (tb_4 (List.mem_of_getElem? (i := 70) rfl)) rfl
theorem uw4_71 : Cond.selects RX1 yX1_prepare yX1_prepare ∈ uw := uw_in (tb_4 (List.mem_of_getElem? (i := 71) rfl)) rfl
theorem uw4_72 : Cond.code yX1_prepare cX1_prepare 6 none ∈ uw := uw_in (tb_4 (List.mem_of_getElem? (i := 72) rfl)) rfl
theorem uw4_73 : Cond.methodLink RX1 54 yX4_playsFor ∈ uw := uw_in (tb_4 (List.mem_of_getElem? (i := 73) rfl)) rfl
theorem uw4_74 : Cond.methodLink RX1 60 yX7_wearBy ∈ uw := uw_in (tb_4 (List.mem_of_getElem? (i := 74) rfl)) rfl
theorem uw4_75 : Cond.instanceMethod yX7_wearBy ∈ uw := uw_in (tb_4 (List.mem_of_getElem? (i := 75) rfl)) rfl
theorem uw4_76 : Cond.selects RX7 yX7_wearBy yX7_wearBy ∈ uw := uw_in (tb_4 (List.mem_of_getElem? (i := 76) rfl)) rfl
theorem uw4_77 : Cond.code yX7_wearBy cX7_wearBy 3 (some .int) ∈ uw := uw_in (tb_4 (List.mem_of_getElem? (i := 77) rfl)) rfl
theorem uw4_78 : Cond.methodLink RX7 79 yX2_valueBy ∈ uw := uw_in (tb_4 (List.mem_of_getElem? (i := 78) rfl)) rfl
theorem uw4_79 : Cond.instanceMethod yX2_valueBy ∈ uw := uw_in (tb_4 (List.mem_of_getElem? (i := 79) rfl)) rfl
theorem uw4_80 : Cond.selects RX2 yX2_valueBy yX2_valueBy ∈ uw := uw_in (tb_4 (List.mem_of_getElem? (i := 80) rfl)) rfl
theorem uw4_81 : Cond.code yX2_valueBy cX2_valueBy 5 (some .int) ∈ uw := uw_in (tb_4 (List.mem_of_getElem? (i := 81) rfl)) rfl
theorem uw4_82 : Cond.methodLink RX2 29 yX2_push ∈ uw := uw_in (tb_4 (List.mem_of_getElem? (i := 82) rfl)) rfl
theorem uw4_84 : Cond.instanceMethod yX2_push ∈ uw := uw_in (tb_4 (List.mem_of_getElem? (i := 84) rfl)) rfl
theorem uw4_85 : Cond.code yX2_push cX2_push 2 none ∈ uw := uw_in (tb_4 (List.mem_of_getElem? (i := 85) rfl)) rfl
theorem uw4_86 : Cond.methodLink RX2 33 yX2_pop ∈ uw := uw_in (tb_4 (List.mem_of_getElem? (i := 86) rfl)) rfl
theorem uw4_88 : Cond.instanceMethod yX2_pop ∈ uw := uw_in (tb_4 (List.mem_of_getElem? (i := 88) rfl)) rfl
theorem uw4_89 : Cond.code yX2_pop cX2_pop 1 (some .int) ∈ uw := uw_in (tb_4 (List.mem_of_getElem? (i := 89) rfl)) rfl
theorem uw4_90 : Cond.methodLink RX2 37 yX2_joined ∈ uw := uw_in (tb_4 (List.mem_of_getElem? (i := 90) rfl)) rfl
theorem uw4_91 : Cond.static yX2_joined ∈ uw := uw_in (tb_4 (List.mem_of_getElem? (i := 91) rfl)) rfl
theorem uw4_92 : Cond.code yX2_joined cX2_joined 3 (some .int) ∈ uw := uw_in (tb_4 (List.mem_of_getElem? (i := 92) rfl)) rfl
theorem uw4_93 : Cond.methodLink RX7 83 Lib.Math.min.name ∈ uw := uw_in (tb_4 (List.mem_of_getElem? (i := 93) rfl)) rfl
theorem uw4_94 : Cond.methodLink RX7 89 Lib.Math.max.name ∈ uw := uw_in (tb_4 (List.mem_of_getElem? (i := 94) rfl)) rfl
theorem uw4_95 : Cond.methodLink RX1 64 Lib.Math.min.name ∈ uw := uw_in (tb_4 (List.mem_of_getElem? (i := 95) rfl)) rfl
theorem uw4_96 : Cond.methodLink RX11 183 yX1_pass ∈ uw := uw_in (tb_4 (List.mem_of_getElem? (i := 96) rfl)) rfl
theorem uw4_97 : Cond.instanceMethod yX1_pass ∈ uw := uw_in (tb_4 (List.mem_of_getElem? (i := 97) rfl)) rfl
theorem uw4_98 : Cond.selects RX1 yX1_pass yX1_pass ∈ uw := uw_in (tb_4 (List.mem_of_getElem? (i := 98) rfl)) rfl
theorem uw4_99 : Cond.code yX1_pass cX1_pass 5 none ∈ uw := uw_in (tb_4 (List.mem_of_getElem? (i := 99) rfl)) rfl
theorem uw4_100 : Cond.methodLink RX1 96 yX1_standInLine ∈ uw := uw_in (tb_4 (List.mem_of_getElem? (i := 100) rfl)) rfl
theorem uw4_102 : Cond.instanceMethod yX1_standInLine ∈ uw := uw_in (tb_4 (List.mem_of_getElem? (i := 102) rfl)) rfl
theorem uw4_103 : Cond.code yX1_standInLine cX1_standInLine 4 none ∈ uw := uw_in (tb_4 (List.mem_of_getElem? (i := 103) rfl)) rfl
theorem uw4_104 : Cond.methodLink RX1 100 yX1_endPlaying ∈ uw := uw_in (tb_4 (List.mem_of_getElem? (i := 104) rfl)) rfl
theorem uw4_106 : Cond.instanceMethod yX1_endPlaying ∈ uw := uw_in (tb_4 (List.mem_of_getElem? (i := 106) rfl)) rfl
theorem uw4_107 : Cond.code yX1_endPlaying cX1_endPlaying 3 none ∈ uw := uw_in (tb_4 (List.mem_of_getElem? (i := 107) rfl)) rfl
theorem uw4_108 : Cond.methodLink RX1 104 yX1_leaveLine ∈ uw := uw_in (tb_4 (List.mem_of_getElem? (i := 108) rfl)) rfl
theorem uw4_110 : Cond.instanceMethod yX1_leaveLine ∈ uw := uw_in (tb_4 (List.mem_of_getElem? (i := 110) rfl)) rfl
theorem uw4_111 : Cond.code yX1_leaveLine cX1_leaveLine 5 none ∈ uw := uw_in (tb_4 (List.mem_of_getElem? (i := 111) rfl)) rfl
theorem uw4_112 : Cond.methodLink RX1 111 yX1_beginPlaying ∈ uw := uw_in (tb_4 (List.mem_of_getElem? (i := 112) rfl)) rfl
theorem uw4_114 : Cond.instanceMethod yX1_beginPlaying ∈ uw := uw_in (tb_4 (List.mem_of_getElem? (i := 114) rfl)) rfl
theorem uw4_115 : Cond.code yX1_beginPlaying cX1_beginPlaying 5 none ∈ uw := uw_in (tb_4 (List.mem_of_getElem? (i := 115) rfl)) rfl
theorem uw4_116 : Cond.methodLink RX1 125 yX4_daresBefore ∈ uw := uw_in (tb_4 (List.mem_of_getElem? (i := 116) rfl)) rfl
theorem uw4_117 : Cond.instanceMethod yX4_daresBefore ∈ uw := uw_in (tb_4 (List.mem_of_getElem? (i := 117) rfl)) rfl
theorem uw4_118 : Cond.selects RX4 yX4_daresBefore yX4_daresBefore ∈ uw := uw_in (tb_4 (List.mem_of_getElem? (i := 118) rfl)) rfl
theorem uw4_119 : Cond.code yX4_daresBefore cX4_daresBefore 2 (some .boolean) ∈ uw := uw_in (tb_4 (List.mem_of_getElem? (i := 119) rfl)) rfl
theorem uw4_120 : Cond.methodLink RX1 129 yX1_leaveLineAt ∈ uw := uw_in (tb_4 (List.mem_of_getElem? (i := 120) rfl)) rfl
theorem uw4_122 : Cond.instanceMethod yX1_leaveLineAt ∈ uw := uw_in (tb_4 (List.mem_of_getElem? (i := 122) rfl)) rfl
theorem uw4_123 : Cond.code yX1_leaveLineAt cX1_leaveLineAt 3 none ∈ uw := uw_in (tb_4 (List.mem_of_getElem? (i := 123) rfl)) rfl
theorem uw4_124 : Cond.methodLink RX1 140 Lib.Math.max.name ∈ uw := uw_in (tb_4 (List.mem_of_getElem? (i := 124) rfl)) rfl
theorem uw4_125 : Cond.methodLink RX1 132 yX1_strikeAll ∈ uw := uw_in (tb_4 (List.mem_of_getElem? (i := 125) rfl)) rfl
theorem uw4_126 : Cond.instanceMethod yX1_strikeAll ∈ uw := uw_in (tb_4 (List.mem_of_getElem? (i := 126) rfl)) rfl
theorem uw4_127 : Cond.selects RX1 yX1_strikeAll yX1_strikeAll ∈ uw := uw_in (tb_4 (List.mem_of_getElem? (i := 127) rfl)) rfl
theorem uw4_128 : Cond.code yX1_strikeAll cX1_strikeAll 7 none ∈ uw := uw_in (tb_4 (List.mem_of_getElem? (i := 128) rfl)) rfl
theorem uw4_129 : Cond.methodLink RX1 136 yX1_learnFacts ∈ uw := uw_in (tb_4 (List.mem_of_getElem? (i := 129) rfl)) rfl
theorem uw4_131 : Cond.instanceMethod yX1_learnFacts ∈ uw := uw_in (tb_4 (List.mem_of_getElem? (i := 131) rfl)) rfl
theorem uw4_132 : Cond.code yX1_learnFacts cX1_learnFacts 6 none ∈ uw := uw_in (tb_4 (List.mem_of_getElem? (i := 132) rfl)) rfl
theorem uw4_133 : Cond.methodLink RX1 115 yX1_addJoy ∈ uw := uw_in (tb_4 (List.mem_of_getElem? (i := 133) rfl)) rfl
theorem uw4_135 : Cond.instanceMethod yX1_addJoy ∈ uw := uw_in (tb_4 (List.mem_of_getElem? (i := 135) rfl)) rfl
theorem uw4_136 : Cond.code yX1_addJoy cX1_addJoy 1 none ∈ uw := uw_in (tb_4 (List.mem_of_getElem? (i := 136) rfl)) rfl
theorem uw4_137 : Cond.methodLink RX1 146 yX7_joyBy ∈ uw := uw_in (tb_4 (List.mem_of_getElem? (i := 137) rfl)) rfl
theorem uw4_138 : Cond.instanceMethod yX7_joyBy ∈ uw := uw_in (tb_4 (List.mem_of_getElem? (i := 138) rfl)) rfl
theorem uw4_139 : Cond.selects RX7 yX7_joyBy yX7_joyBy ∈ uw := uw_in (tb_4 (List.mem_of_getElem? (i := 139) rfl)) rfl
theorem uw4_140 : Cond.code yX7_joyBy cX7_joyBy 3 (some .int) ∈ uw := uw_in (tb_4 (List.mem_of_getElem? (i := 140) rfl)) rfl
theorem uw4_141 : Cond.methodLink RL 72 yX11_ends ∈ uw := uw_in (tb_4 (List.mem_of_getElem? (i := 141) rfl)) rfl
theorem uw4_142 : Cond.instanceMethod yX11_ends ∈ uw := uw_in (tb_4 (List.mem_of_getElem? (i := 142) rfl)) rfl
theorem uw4_143 : Cond.selects RX11 yX11_ends yX11_ends ∈ uw := uw_in (tb_4 (List.mem_of_getElem? (i := 143) rfl)) rfl
theorem uw4_144 : Cond.code yX11_ends cX11_ends 2 (some .int) ∈ uw := uw_in (tb_4 (List.mem_of_getElem? (i := 144) rfl)) rfl
theorem uw4_145 : Cond.methodLink RL 76 yX11_now ∈ uw := uw_in (tb_4 (List.mem_of_getElem? (i := 145) rfl)) rfl
theorem uw4_146 : Cond.instanceMethod yX11_now ∈ uw := uw_in (tb_4 (List.mem_of_getElem? (i := 146) rfl)) rfl
theorem uw4_147 : Cond.selects RX11 yX11_now yX11_now ∈ uw := uw_in (tb_4 (List.mem_of_getElem? (i := 147) rfl)) rfl
theorem uw4_148 : Cond.code yX11_now cX11_now 3 (some .int) ∈ uw := uw_in (tb_4 (List.mem_of_getElem? (i := 148) rfl)) rfl
theorem uw4_149 : Cond.methodLink RL 80 yX11_away ∈ uw := uw_in (tb_4 (List.mem_of_getElem? (i := 149) rfl)) rfl
theorem uw4_150 : Cond.instanceMethod yX11_away ∈ uw := uw_in (tb_4 (List.mem_of_getElem? (i := 150) rfl)) rfl
theorem uw4_151 : Cond.selects RX11 yX11_away yX11_away ∈ uw := uw_in (tb_4 (List.mem_of_getElem? (i := 151) rfl)) rfl
theorem uw4_152 : Cond.code yX11_away cX11_away 3 (some .int) ∈ uw := uw_in (tb_4 (List.mem_of_getElem? (i := 152) rfl)) rfl
theorem uw4_153 : Cond.methodLink RL 84 yX11_joy ∈ uw := uw_in (tb_4 (List.mem_of_getElem? (i := 153) rfl)) rfl
theorem uw4_154 : Cond.instanceMethod yX11_joy ∈ uw := uw_in (tb_4 (List.mem_of_getElem? (i := 154) rfl)) rfl
theorem uw4_155 : Cond.selects RX11 yX11_joy yX11_joy ∈ uw := uw_in (tb_4 (List.mem_of_getElem? (i := 155) rfl)) rfl
theorem uw4_156 : Cond.code yX11_joy cX11_joy 1 (some .int) ∈ uw := uw_in (tb_4 (List.mem_of_getElem? (i := 156) rfl)) rfl
theorem uw4_157 : Cond.methodLink RL 88 yX11_day ∈ uw := uw_in (tb_4 (List.mem_of_getElem? (i := 157) rfl)) rfl
theorem uw4_158 : Cond.instanceMethod yX11_day ∈ uw := uw_in (tb_4 (List.mem_of_getElem? (i := 158) rfl)) rfl
theorem uw4_159 : Cond.selects RX11 yX11_day yX11_day ∈ uw := uw_in (tb_4 (List.mem_of_getElem? (i := 159) rfl)) rfl
theorem uw4_160 : Cond.code yX11_day cX11_day 1 (some .int) ∈ uw := uw_in (tb_4 (List.mem_of_getElem? (i := 160) rfl)) rfl
theorem uw4_161 : Cond.methodLink RX11 176 yX11_remember ∈ uw := uw_in (tb_4 (List.mem_of_getElem? (i := 161) rfl)) rfl
theorem uw4_163 : Cond.instanceMethod yX11_remember ∈ uw := uw_in (tb_4 (List.mem_of_getElem? (i := 163) rfl)) rfl
theorem uw4_164 : Cond.code yX11_remember cX11_remember 1 none ∈ uw := uw_in (tb_4 (List.mem_of_getElem? (i := 164) rfl)) rfl
theorem uw4_165 : Cond.methodLink RX11 230 Lib.Math.min.name ∈ uw := uw_in (tb_4 (List.mem_of_getElem? (i := 165) rfl)) rfl
theorem uw4_166 : Cond.methodLink RL 92 yX11_mend ∈ uw := uw_in (tb_4 (List.mem_of_getElem? (i := 166) rfl)) rfl
theorem uw4_167 : Cond.instanceMethod yX11_mend ∈ uw := uw_in (tb_4 (List.mem_of_getElem? (i := 167) rfl)) rfl
theorem uw4_168 : Cond.selects RX11 yX11_mend yX11_mend ∈ uw := uw_in (tb_4 (List.mem_of_getElem? (i := 168) rfl)) rfl
theorem uw4_169 : Cond.code yX11_mend cX11_mend 1 (some .int) ∈ uw := uw_in (tb_4 (List.mem_of_getElem? (i := 169) rfl)) rfl
theorem uw4_170 : Cond.methodLink RX11 196 yX6_tuneUp ∈ uw := uw_in (tb_4 (List.mem_of_getElem? (i := 170) rfl)) rfl
theorem uw4_171 : Cond.instanceMethod yX6_tuneUp ∈ uw := uw_in (tb_4 (List.mem_of_getElem? (i := 171) rfl)) rfl
theorem uw4_172 : Cond.selects RX6 yX6_tuneUp yX6_tuneUp ∈ uw := uw_in (tb_4 (List.mem_of_getElem? (i := 172) rfl)) rfl
theorem uw4_173 : Cond.code yX6_tuneUp cX6_tuneUp 4 (some .int) ∈ uw := uw_in (tb_4 (List.mem_of_getElem? (i := 173) rfl)) rfl
theorem uw4_174 : Cond.methodLink RL 96 yX11_each ∈ uw := uw_in (tb_4 (List.mem_of_getElem? (i := 174) rfl)) rfl
theorem uw4_175 : Cond.instanceMethod yX11_each ∈ uw := uw_in (tb_4 (List.mem_of_getElem? (i := 175) rfl)) rfl
theorem uw4_176 : Cond.selects RX11 yX11_each yX11_each ∈ uw := uw_in (tb_4 (List.mem_of_getElem? (i := 176) rfl)) rfl
theorem uw4_177 : Cond.code yX11_each cX11_each 2 (some .boolean) ∈ uw := uw_in (tb_4 (List.mem_of_getElem? (i := 177) rfl)) rfl
theorem uw4_178 : Cond.methodLink RX11 199 yX11_isEach ∈ uw := uw_in (tb_4 (List.mem_of_getElem? (i := 178) rfl)) rfl
theorem uw4_179 : Cond.static yX11_isEach ∈ uw := uw_in (tb_4 (List.mem_of_getElem? (i := 179) rfl)) rfl
theorem uw4_180 : Cond.code yX11_isEach cX11_isEach 1 (some .boolean) ∈ uw := uw_in (tb_4 (List.mem_of_getElem? (i := 180) rfl)) rfl
theorem uw4_181 : Cond.methodLink RL 101 yX11_open ∈ uw := uw_in (tb_4 (List.mem_of_getElem? (i := 181) rfl)) rfl
theorem uw4_182 : Cond.instanceMethod yX11_open ∈ uw := uw_in (tb_4 (List.mem_of_getElem? (i := 182) rfl)) rfl
theorem uw4_183 : Cond.selects RX11 yX11_open yX11_open ∈ uw := uw_in (tb_4 (List.mem_of_getElem? (i := 183) rfl)) rfl
theorem uw4_184 : Cond.code yX11_open cX11_open 3 (some .boolean) ∈ uw := uw_in (tb_4 (List.mem_of_getElem? (i := 184) rfl)) rfl
theorem uw4_185 : Cond.methodLink RL 106 yX11_undo ∈ uw := uw_in (tb_4 (List.mem_of_getElem? (i := 185) rfl)) rfl
theorem uw4_186 : Cond.instanceMethod yX11_undo ∈ uw := uw_in (tb_4 (List.mem_of_getElem? (i := 186) rfl)) rfl
theorem uw4_187 : Cond.selects RX11 yX11_undo yX11_undo ∈ uw := uw_in (tb_4 (List.mem_of_getElem? (i := 187) rfl)) rfl
theorem uw4_188 : Cond.code yX11_undo cX11_undo 1 (some .boolean) ∈ uw := uw_in (tb_4 (List.mem_of_getElem? (i := 188) rfl)) rfl
theorem uw4_189 : Cond.methodLink RL 123 yX11_hours ∈ uw := uw_in (tb_4 (List.mem_of_getElem? (i := 189) rfl)) rfl
theorem uw4_190 : Cond.instanceMethod yX11_hours ∈ uw := uw_in (tb_4 (List.mem_of_getElem? (i := 190) rfl)) rfl
theorem uw4_191 : Cond.selects RX11 yX11_hours yX11_hours ∈ uw := uw_in (tb_4 (List.mem_of_getElem? (i := 191) rfl)) rfl
theorem uw4_192 : Cond.code yX11_hours cX11_hours 5 (some .int) ∈ uw := uw_in (tb_4 (List.mem_of_getElem? (i := 192) rfl)) rfl
theorem uw4_193 : Cond.methodLink RL 131 yX11_lasts ∈ uw := uw_in (tb_4 (List.mem_of_getElem? (i := 193) rfl)) rfl
theorem uw4_194 : Cond.instanceMethod yX11_lasts ∈ uw := uw_in (tb_4 (List.mem_of_getElem? (i := 194) rfl)) rfl
theorem uw4_195 : Cond.selects RX11 yX11_lasts yX11_lasts ∈ uw := uw_in (tb_4 (List.mem_of_getElem? (i := 195) rfl)) rfl
theorem uw4_196 : Cond.code yX11_lasts cX11_lasts 3 (some .int) ∈ uw := uw_in (tb_4 (List.mem_of_getElem? (i := 196) rfl)) rfl
theorem uw4_197 : Cond.methodLink RL 138 yX11_rarer ∈ uw := uw_in (tb_4 (List.mem_of_getElem? (i := 197) rfl)) rfl
theorem uw4_198 : Cond.instanceMethod yX11_rarer ∈ uw := uw_in (tb_4 (List.mem_of_getElem? (i := 198) rfl)) rfl
theorem uw4_199 : Cond.selects RX11 yX11_rarer yX11_rarer ∈ uw := uw_in (tb_4 (List.mem_of_getElem? (i := 199) rfl)) rfl
theorem uw4_200 : Cond.code yX11_rarer cX11_rarer 5 (some .int) ∈ uw := uw_in (tb_4 (List.mem_of_getElem? (i := 200) rfl)) rfl
theorem uw4_201 : Cond.methodLink RX11 236 Lib.Math.max.name ∈ uw := uw_in (tb_4 (List.mem_of_getElem? (i := 201) rfl)) rfl
theorem uw4_202 : Cond.methodLink RX11 239 yJ6_bitCount_0f7a4 ∈ uw := uw_in (tb_4 (List.mem_of_getElem? (i := 202) rfl)) rfl
theorem uw4_203 : Cond.static yJ6_bitCount_0f7a4 ∈ uw := uw_in (tb_4 (List.mem_of_getElem? (i := 203) rfl)) rfl
theorem uw4_204 : Cond.code yJ6_bitCount_0f7a4 cJ6_bitCount_0f7a4 1 (some .int) ∈ uw := uw_in (tb_4 (List.mem_of_getElem? (i := 204) rfl)) rfl
theorem uw4_205 : Cond.constant RJ6 265 (1431655765) ∈ uw := uw_in (tb_4 (List.mem_of_getElem? (i := 205) rfl)) rfl
theorem uw4_206 : Cond.constant RJ6 266 (858993459) ∈ uw := uw_in (tb_4 (List.mem_of_getElem? (i := 206) rfl)) rfl
theorem uw4_207 : Cond.constant RJ6 267 (252645135) ∈ uw := uw_in (tb_4 (List.mem_of_getElem? (i := 207) rfl)) rfl
theorem uw4_208 : Cond.methodLink RL 142 yX11_dare ∈ uw := uw_in (tb_4 (List.mem_of_getElem? (i := 208) rfl)) rfl
theorem uw4_209 : Cond.instanceMethod yX11_dare ∈ uw := uw_in (tb_4 (List.mem_of_getElem? (i := 209) rfl)) rfl
theorem uw4_210 : Cond.selects RX11 yX11_dare yX11_dare ∈ uw := uw_in (tb_4 (List.mem_of_getElem? (i := 210) rfl)) rfl
theorem uw4_211 : Cond.code yX11_dare cX11_dare 4 (some .int) ∈ uw := uw_in (tb_4 (List.mem_of_getElem? (i := 211) rfl)) rfl
theorem uw4_212 : Cond.methodLink RX11 244 yX4_daresBefore ∈ uw := uw_in (tb_4 (List.mem_of_getElem? (i := 212) rfl)) rfl
theorem uw4_213 : Cond.methodLink RL 146 yX11_strikes ∈ uw := uw_in (tb_4 (List.mem_of_getElem? (i := 213) rfl)) rfl
theorem uw4_214 : Cond.instanceMethod yX11_strikes ∈ uw := uw_in (tb_4 (List.mem_of_getElem? (i := 214) rfl)) rfl
theorem uw4_215 : Cond.selects RX11 yX11_strikes yX11_strikes ∈ uw := uw_in (tb_4 (List.mem_of_getElem? (i := 215) rfl)) rfl
theorem uw4_216 : Cond.code yX11_strikes cX11_strikes 3 (some .int) ∈ uw := uw_in (tb_4 (List.mem_of_getElem? (i := 216) rfl)) rfl
theorem uw4_217 : Cond.methodLink RX11 247 yX4_strikesOn ∈ uw := uw_in (tb_4 (List.mem_of_getElem? (i := 217) rfl)) rfl
theorem uw4_218 : Cond.instanceMethod yX4_strikesOn ∈ uw := uw_in (tb_4 (List.mem_of_getElem? (i := 218) rfl)) rfl
theorem uw4_219 : Cond.selects RX4 yX4_strikesOn yX4_strikesOn ∈ uw := uw_in (tb_4 (List.mem_of_getElem? (i := 219) rfl)) rfl
theorem uw4_220 : Cond.code yX4_strikesOn cX4_strikesOn 4 (some .int) ∈ uw := uw_in (tb_4 (List.mem_of_getElem? (i := 220) rfl)) rfl
theorem uw4_221 : Cond.methodLink RL 150 yX11_find ∈ uw := uw_in (tb_4 (List.mem_of_getElem? (i := 221) rfl)) rfl
theorem uw4_222 : Cond.instanceMethod yX11_find ∈ uw := uw_in (tb_4 (List.mem_of_getElem? (i := 222) rfl)) rfl
theorem uw4_223 : Cond.selects RX11 yX11_find yX11_find ∈ uw := uw_in (tb_4 (List.mem_of_getElem? (i := 223) rfl)) rfl
theorem uw4_224 : Cond.code yX11_find cX11_find 3 (some .boolean) ∈ uw := uw_in (tb_4 (List.mem_of_getElem? (i := 224) rfl)) rfl
theorem uw4_225 : Cond.methodLink RX11 250 yX0_add ∈ uw := uw_in (tb_4 (List.mem_of_getElem? (i := 225) rfl)) rfl
theorem uw4_226 : Cond.instanceMethod yX0_add ∈ uw := uw_in (tb_4 (List.mem_of_getElem? (i := 226) rfl)) rfl
theorem uw4_227 : Cond.selects RX0 yX0_add yX0_add ∈ uw := uw_in (tb_4 (List.mem_of_getElem? (i := 227) rfl)) rfl
theorem uw4_228 : Cond.code yX0_add cX0_add 3 (some .boolean) ∈ uw := uw_in (tb_4 (List.mem_of_getElem? (i := 228) rfl)) rfl
theorem uw4_229 : Cond.methodLink RL 154 yX11_sets ∈ uw := uw_in (tb_4 (List.mem_of_getElem? (i := 229) rfl)) rfl
theorem uw4_230 : Cond.instanceMethod yX11_sets ∈ uw := uw_in (tb_4 (List.mem_of_getElem? (i := 230) rfl)) rfl
theorem uw4_231 : Cond.selects RX11 yX11_sets yX11_sets ∈ uw := uw_in (tb_4 (List.mem_of_getElem? (i := 231) rfl)) rfl
theorem uw4_232 : Cond.code yX11_sets cX11_sets 2 (some .int) ∈ uw := uw_in (tb_4 (List.mem_of_getElem? (i := 232) rfl)) rfl
theorem uw4_233 : Cond.methodLink RX11 254 yX8_search ∈ uw := uw_in (tb_4 (List.mem_of_getElem? (i := 233) rfl)) rfl
theorem uw4_234 : Cond.instanceMethod yX8_search ∈ uw := uw_in (tb_4 (List.mem_of_getElem? (i := 234) rfl)) rfl
theorem uw4_235 : Cond.selects RX8 yX8_search yX8_search ∈ uw := uw_in (tb_4 (List.mem_of_getElem? (i := 235) rfl)) rfl
theorem uw4_236 : Cond.code yX8_search cX8_search 7 none ∈ uw := uw_in (tb_4 (List.mem_of_getElem? (i := 236) rfl)) rfl
theorem uw4_237 : Cond.methodLink RX8 24 Lib.Math.min.name ∈ uw := uw_in (tb_4 (List.mem_of_getElem? (i := 237) rfl)) rfl
theorem uw4_238 : Cond.methodLink RX8 30 Lib.Math.max.name ∈ uw := uw_in (tb_4 (List.mem_of_getElem? (i := 238) rfl)) rfl
theorem uw4_239 : Cond.methodLink RX8 42 yX8_playOnNew ∈ uw := uw_in (tb_4 (List.mem_of_getElem? (i := 239) rfl)) rfl
theorem uw5_1 : Cond.instanceMethod yX8_playOnNew ∈ uw := uw_in (tb_5 (List.mem_of_getElem? (i := 1) rfl)) rfl
theorem uw5_2 : Cond.code yX8_playOnNew cX8_playOnNew 6 none ∈ uw := uw_in (tb_5 (List.mem_of_getElem? (i := 2) rfl)) rfl
theorem uw5_3 : Cond.methodLink RX8 59 yX1_strikeAll ∈ uw := uw_in (tb_5 (List.mem_of_getElem? (i := 3) rfl)) rfl
theorem uw5_4 : Cond.methodLink RX8 46 yX0_allSo ∈ uw := uw_in (tb_5 (List.mem_of_getElem? (i := 4) rfl)) rfl
theorem uw5_5 : Cond.instanceMethod yX0_allSo ∈ uw := uw_in (tb_5 (List.mem_of_getElem? (i := 5) rfl)) rfl
theorem uw5_6 : Cond.selects RX0 yX0_allSo yX0_allSo ∈ uw := uw_in (tb_5 (List.mem_of_getElem? (i := 6) rfl)) rfl
theorem uw5_7 : Cond.code yX0_allSo cX0_allSo 4 (some .boolean) ∈ uw := uw_in (tb_5 (List.mem_of_getElem? (i := 7) rfl)) rfl
theorem uw5_8 : Cond.methodLink RX8 52 yX8_tallyWear ∈ uw := uw_in (tb_5 (List.mem_of_getElem? (i := 8) rfl)) rfl
theorem uw5_10 : Cond.instanceMethod yX8_tallyWear ∈ uw := uw_in (tb_5 (List.mem_of_getElem? (i := 10) rfl)) rfl
theorem uw5_11 : Cond.code yX8_tallyWear cX8_tallyWear 3 none ∈ uw := uw_in (tb_5 (List.mem_of_getElem? (i := 11) rfl)) rfl
theorem uw5_12 : Cond.methodLink RL 158 yX11_look ∈ uw := uw_in (tb_5 (List.mem_of_getElem? (i := 12) rfl)) rfl
theorem uw5_13 : Cond.instanceMethod yX11_look ∈ uw := uw_in (tb_5 (List.mem_of_getElem? (i := 13) rfl)) rfl
theorem uw5_14 : Cond.selects RX11 yX11_look yX11_look ∈ uw := uw_in (tb_5 (List.mem_of_getElem? (i := 14) rfl)) rfl
theorem uw5_15 : Cond.code yX11_look cX11_look 4 (some .int) ∈ uw := uw_in (tb_5 (List.mem_of_getElem? (i := 15) rfl)) rfl
theorem uw5_16 : Cond.methodLink RX11 267 yX0_has ∈ uw := uw_in (tb_5 (List.mem_of_getElem? (i := 16) rfl)) rfl
theorem uw5_17 : Cond.instanceMethod yX0_has ∈ uw := uw_in (tb_5 (List.mem_of_getElem? (i := 17) rfl)) rfl
theorem uw5_18 : Cond.selects RX0 yX0_has yX0_has ∈ uw := uw_in (tb_5 (List.mem_of_getElem? (i := 18) rfl)) rfl
theorem uw5_19 : Cond.code yX0_has cX0_has 3 (some .boolean) ∈ uw := uw_in (tb_5 (List.mem_of_getElem? (i := 19) rfl)) rfl
theorem uw5_20 : Cond.methodLink RX11 270 yX8_mostAlike ∈ uw := uw_in (tb_5 (List.mem_of_getElem? (i := 20) rfl)) rfl
theorem uw5_21 : Cond.instanceMethod yX8_mostAlike ∈ uw := uw_in (tb_5 (List.mem_of_getElem? (i := 21) rfl)) rfl
theorem uw5_22 : Cond.selects RX8 yX8_mostAlike yX8_mostAlike ∈ uw := uw_in (tb_5 (List.mem_of_getElem? (i := 22) rfl)) rfl
theorem uw5_23 : Cond.code yX8_mostAlike cX8_mostAlike 5 (some .int) ∈ uw := uw_in (tb_5 (List.mem_of_getElem? (i := 23) rfl)) rfl
theorem uw5_24 : Cond.methodLink RL 162 yX11_share ∈ uw := uw_in (tb_5 (List.mem_of_getElem? (i := 24) rfl)) rfl
theorem uw5_25 : Cond.instanceMethod yX11_share ∈ uw := uw_in (tb_5 (List.mem_of_getElem? (i := 25) rfl)) rfl
theorem uw5_26 : Cond.selects RX11 yX11_share yX11_share ∈ uw := uw_in (tb_5 (List.mem_of_getElem? (i := 26) rfl)) rfl
theorem uw5_27 : Cond.code yX11_share cX11_share 4 (some .int) ∈ uw := uw_in (tb_5 (List.mem_of_getElem? (i := 27) rfl)) rfl
theorem uw5_28 : Cond.methodLink RL 177 yX11_mark ∈ uw := uw_in (tb_5 (List.mem_of_getElem? (i := 28) rfl)) rfl
theorem uw5_29 : Cond.instanceMethod yX11_mark ∈ uw := uw_in (tb_5 (List.mem_of_getElem? (i := 29) rfl)) rfl
theorem uw5_30 : Cond.selects RX11 yX11_mark yX11_mark ∈ uw := uw_in (tb_5 (List.mem_of_getElem? (i := 30) rfl)) rfl
theorem uw5_31 : Cond.code yX11_mark cX11_mark 4 (some .boolean) ∈ uw := uw_in (tb_5 (List.mem_of_getElem? (i := 31) rfl)) rfl
theorem uw5_32 : Cond.methodLink RX11 287 yX3_lay ∈ uw := uw_in (tb_5 (List.mem_of_getElem? (i := 32) rfl)) rfl
theorem uw5_33 : Cond.instanceMethod yX3_lay ∈ uw := uw_in (tb_5 (List.mem_of_getElem? (i := 33) rfl)) rfl
theorem uw5_34 : Cond.selects RX3 yX3_lay yX3_lay ∈ uw := uw_in (tb_5 (List.mem_of_getElem? (i := 34) rfl)) rfl
theorem uw5_35 : Cond.code yX3_lay cX3_lay 4 none ∈ uw := uw_in (tb_5 (List.mem_of_getElem? (i := 35) rfl)) rfl
theorem uw5_36 : Cond.methodLink RX3 30 yX6_copyFrom ∈ uw := uw_in (tb_5 (List.mem_of_getElem? (i := 36) rfl)) rfl
theorem uw5_37 : Cond.methodLink RX3 34 yX10_copyFrom ∈ uw := uw_in (tb_5 (List.mem_of_getElem? (i := 37) rfl)) rfl
theorem uw5_38 : Cond.methodLink RX3 37 yX0_copyFrom ∈ uw := uw_in (tb_5 (List.mem_of_getElem? (i := 38) rfl)) rfl
theorem uw5_39 : Cond.instanceMethod yX0_copyFrom ∈ uw := uw_in (tb_5 (List.mem_of_getElem? (i := 39) rfl)) rfl
theorem uw5_40 : Cond.selects RX0 yX0_copyFrom yX0_copyFrom ∈ uw := uw_in (tb_5 (List.mem_of_getElem? (i := 40) rfl)) rfl
theorem uw5_41 : Cond.code yX0_copyFrom cX0_copyFrom 3 none ∈ uw := uw_in (tb_5 (List.mem_of_getElem? (i := 41) rfl)) rfl
theorem uw5_42 : Cond.methodLink RX11 295 yX3_bringBack ∈ uw := uw_in (tb_5 (List.mem_of_getElem? (i := 42) rfl)) rfl
theorem uw5_43 : Cond.instanceMethod yX3_bringBack ∈ uw := uw_in (tb_5 (List.mem_of_getElem? (i := 43) rfl)) rfl
theorem uw5_44 : Cond.selects RX3 yX3_bringBack yX3_bringBack ∈ uw := uw_in (tb_5 (List.mem_of_getElem? (i := 44) rfl)) rfl
theorem uw5_45 : Cond.code yX3_bringBack cX3_bringBack 4 none ∈ uw := uw_in (tb_5 (List.mem_of_getElem? (i := 45) rfl)) rfl
theorem uw5_46 : Cond.methodLink RL 182 yX11_count ∈ uw := uw_in (tb_5 (List.mem_of_getElem? (i := 46) rfl)) rfl
theorem uw5_47 : Cond.instanceMethod yX11_count ∈ uw := uw_in (tb_5 (List.mem_of_getElem? (i := 47) rfl)) rfl
theorem uw5_48 : Cond.selects RX11 yX11_count yX11_count ∈ uw := uw_in (tb_5 (List.mem_of_getElem? (i := 48) rfl)) rfl
theorem uw5_49 : Cond.code yX11_count cX11_count 2 (some .int) ∈ uw := uw_in (tb_5 (List.mem_of_getElem? (i := 49) rfl)) rfl
theorem uw5_50 : Cond.methodLink RX11 304 yX6_goneKeys ∈ uw := uw_in (tb_5 (List.mem_of_getElem? (i := 50) rfl)) rfl
theorem uw5_51 : Cond.instanceMethod yX6_goneKeys ∈ uw := uw_in (tb_5 (List.mem_of_getElem? (i := 51) rfl)) rfl
theorem uw5_52 : Cond.selects RX6 yX6_goneKeys yX6_goneKeys ∈ uw := uw_in (tb_5 (List.mem_of_getElem? (i := 52) rfl)) rfl
theorem uw5_53 : Cond.code yX6_goneKeys cX6_goneKeys 3 (some .int) ∈ uw := uw_in (tb_5 (List.mem_of_getElem? (i := 53) rfl)) rfl
theorem uw5_54 : Cond.methodLink RL 111 yL_judged ∈ uw := uw_in (tb_5 (List.mem_of_getElem? (i := 54) rfl)) rfl
theorem uw5_55 : Cond.static yL_judged ∈ uw := uw_in (tb_5 (List.mem_of_getElem? (i := 55) rfl)) rfl
theorem uw5_56 : Cond.codeWith yL_judged cL_judged 4 (some .int) [(0, 9, 12, 13)] ∈ uw := uw_in (tb_5 (List.mem_of_getElem? (i := 56) rfl)) rfl
theorem uw5_57 : Cond.classLink RL 13 "java/util/NoSuchElementException" ∈ uw := uw_in (tb_5 (List.mem_of_getElem? (i := 57) rfl)) rfl
theorem uw5_58 : Cond.methodLink RL 7 yX11_judged ∈ uw := uw_in (tb_5 (List.mem_of_getElem? (i := 58) rfl)) rfl
theorem uw5_59 : Cond.instanceMethod yX11_judged ∈ uw := uw_in (tb_5 (List.mem_of_getElem? (i := 59) rfl)) rfl
theorem uw5_60 : Cond.selects RX11 yX11_judged yX11_judged ∈ uw := uw_in (tb_5 (List.mem_of_getElem? (i := 60) rfl)) rfl
theorem uw5_61 : Cond.code yX11_judged cX11_judged 2 (some .int) ∈ uw := uw_in (tb_5 (List.mem_of_getElem? (i := 61) rfl)) rfl
theorem uw5_62 : Cond.classLink RX11 217 "java/util/NoSuchElementException" ∈ uw := uw_in (tb_5 (List.mem_of_getElem? (i := 62) rfl)) rfl
theorem uw5_63 : Cond.instantiable "java/util/NoSuchElementException" 6 ∈ uw := uw_in (tb_5 (List.mem_of_getElem? (i := 63) rfl)) rfl
theorem uw5_71 : Cond.selects "java/util/NoSuchElementException" ⟨"java/lang/Throwable", "fillInStackTrace", "(I)Ljava/lang/Throwable;"⟩ ⟨"java/lang/Throwable", "fillInStackTrace", "(I)Ljava/lang/Throwable;"⟩ ∈ uw := uw_in (tb_5 (List.mem_of_getElem? (i := 71) rfl)) rfl
theorem uw5_72 : Cond.selects "java/util/NoSuchElementException" ⟨"java/lang/Throwable", "fillInStackTrace", "()Ljava/lang/Throwable;"⟩ ⟨"java/lang/Throwable", "fillInStackTrace", "()Ljava/lang/Throwable;"⟩ ∈ uw := uw_in (tb_5 (List.mem_of_getElem? (i := 72) rfl)) rfl
theorem uw5_73 : Cond.lays "java/util/NoSuchElementException" "java/lang/Throwable" "cause" "Ljava/lang/Throwable;" ∈ uw := uw_in (tb_5 (List.mem_of_getElem? (i := 73) rfl)) rfl
theorem uw5_74 : Cond.lays "java/lang/Throwable" "java/lang/Throwable" "cause" "Ljava/lang/Throwable;" ∈ uw := uw_in (tb_5 (List.mem_of_getElem? (i := 74) rfl)) rfl
theorem uw5_75 : Cond.lays "java/util/NoSuchElementException" "java/lang/Throwable" "stackTrace" "[Ljava/lang/StackTraceElement;" ∈ uw := uw_in (tb_5 (List.mem_of_getElem? (i := 75) rfl)) rfl
theorem uw5_76 : Cond.lays "java/lang/Throwable" "java/lang/Throwable" "stackTrace" "[Ljava/lang/StackTraceElement;" ∈ uw := uw_in (tb_5 (List.mem_of_getElem? (i := 76) rfl)) rfl
theorem uw5_77 : Cond.lays "java/util/NoSuchElementException" "java/lang/Throwable" "suppressedExceptions" "Ljava/util/List;" ∈ uw := uw_in (tb_5 (List.mem_of_getElem? (i := 77) rfl)) rfl
theorem uw5_78 : Cond.lays "java/lang/Throwable" "java/lang/Throwable" "suppressedExceptions" "Ljava/util/List;" ∈ uw := uw_in (tb_5 (List.mem_of_getElem? (i := 78) rfl)) rfl
theorem uw5_79 : Cond.lays "java/util/NoSuchElementException" "java/lang/Throwable" "detailMessage" "Ljava/lang/String;" ∈ uw := uw_in (tb_5 (List.mem_of_getElem? (i := 79) rfl)) rfl
theorem uw5_80 : Cond.lays "java/lang/Throwable" "java/lang/Throwable" "detailMessage" "Ljava/lang/String;" ∈ uw := uw_in (tb_5 (List.mem_of_getElem? (i := 80) rfl)) rfl
theorem uw5_81 : Cond.lays "java/util/NoSuchElementException" "java/lang/Throwable" "backtrace" "Ljava/lang/Object;" ∈ uw := uw_in (tb_5 (List.mem_of_getElem? (i := 81) rfl)) rfl
theorem uw5_82 : Cond.lays "java/lang/Throwable" "java/lang/Throwable" "backtrace" "Ljava/lang/Object;" ∈ uw := uw_in (tb_5 (List.mem_of_getElem? (i := 82) rfl)) rfl
theorem uw5_83 : Cond.fieldLink "java/lang/Throwable" 198 "java/lang/Throwable" "backtrace" "Ljava/lang/Object;" ∈ uw := uw_in (tb_5 (List.mem_of_getElem? (i := 83) rfl)) rfl
theorem uw5_85 : Cond.instanceMethod ⟨"java/lang/Throwable", "<init>", "()V"⟩ ∈ uw := uw_in (tb_5 (List.mem_of_getElem? (i := 85) rfl)) rfl
theorem uw5_86 : Cond.code ⟨"java/lang/Throwable", "<init>", "()V"⟩ prog_26_method_1_code 1 none ∈ uw := uw_in (tb_5 (List.mem_of_getElem? (i := 86) rfl)) rfl
theorem uw5_87 : Cond.methodLink "java/lang/Throwable" 1 Lib.objectInit ∈ uw := uw_in (tb_5 (List.mem_of_getElem? (i := 87) rfl)) rfl
theorem uw5_88 : Cond.fieldLink "java/lang/Throwable" 13 "java/lang/Throwable" "UNASSIGNED_STACK" "[Ljava/lang/StackTraceElement;" ∈ uw := uw_in (tb_5 (List.mem_of_getElem? (i := 88) rfl)) rfl
theorem uw5_90 : Cond.fieldLink "java/lang/Throwable" 20 "java/lang/Throwable" "SUPPRESSED_SENTINEL" "Ljava/util/List;" ∈ uw := uw_in (tb_5 (List.mem_of_getElem? (i := 90) rfl)) rfl
theorem uw5_92 : Cond.methodLink "java/lang/Throwable" 27 ⟨"java/lang/Throwable", "fillInStackTrace", "()Ljava/lang/Throwable;"⟩ ∈ uw := uw_in (tb_5 (List.mem_of_getElem? (i := 92) rfl)) rfl
theorem uw5_93 : Cond.instanceMethod ⟨"java/lang/Throwable", "fillInStackTrace", "()Ljava/lang/Throwable;"⟩ ∈ uw := uw_in (tb_5 (List.mem_of_getElem? (i := 93) rfl)) rfl
theorem uw5_96 : Cond.methodLink "java/lang/Throwable" 202 ⟨"java/lang/Throwable", "fillInStackTrace", "(I)Ljava/lang/Throwable;"⟩ ∈ uw := uw_in (tb_5 (List.mem_of_getElem? (i := 96) rfl)) rfl
theorem uw5_98 : Cond.instanceMethod ⟨"java/lang/Throwable", "fillInStackTrace", "(I)Ljava/lang/Throwable;"⟩ ∈ uw := uw_in (tb_5 (List.mem_of_getElem? (i := 98) rfl)) rfl
theorem uw5_99 : Cond.instantiable "java/lang/Throwable" 6 ∈ uw := uw_in (tb_5 (List.mem_of_getElem? (i := 99) rfl)) rfl
theorem uw5_101 : Cond.methodLink RX11 219 ⟨"java/util/NoSuchElementException", "<init>", "()V"⟩ ∈ uw := uw_in (tb_5 (List.mem_of_getElem? (i := 101) rfl)) rfl
theorem uw5_102 : Cond.instanceMethod ⟨"java/util/NoSuchElementException", "<init>", "()V"⟩ ∈ uw := uw_in (tb_5 (List.mem_of_getElem? (i := 102) rfl)) rfl
theorem uw5_103 : Cond.code ⟨"java/util/NoSuchElementException", "<init>", "()V"⟩ prog_29_method_1_code 1 none ∈ uw := uw_in (tb_5 (List.mem_of_getElem? (i := 103) rfl)) rfl
theorem uw5_104 : Cond.methodLink "java/util/NoSuchElementException" 1 ⟨"java/lang/RuntimeException", "<init>", "()V"⟩ ∈ uw := uw_in (tb_5 (List.mem_of_getElem? (i := 104) rfl)) rfl
theorem uw5_105 : Cond.instanceMethod ⟨"java/lang/RuntimeException", "<init>", "()V"⟩ ∈ uw := uw_in (tb_5 (List.mem_of_getElem? (i := 105) rfl)) rfl
theorem uw5_106 : Cond.code ⟨"java/lang/RuntimeException", "<init>", "()V"⟩ prog_22_method_1_code 1 none ∈ uw := uw_in (tb_5 (List.mem_of_getElem? (i := 106) rfl)) rfl
theorem uw5_107 : Cond.methodLink "java/lang/RuntimeException" 1 ⟨"java/lang/Exception", "<init>", "()V"⟩ ∈ uw := uw_in (tb_5 (List.mem_of_getElem? (i := 107) rfl)) rfl
theorem uw5_108 : Cond.instanceMethod ⟨"java/lang/Exception", "<init>", "()V"⟩ ∈ uw := uw_in (tb_5 (List.mem_of_getElem? (i := 108) rfl)) rfl
theorem uw5_109 : Cond.code ⟨"java/lang/Exception", "<init>", "()V"⟩ prog_19_method_1_code 1 none ∈ uw := uw_in (tb_5 (List.mem_of_getElem? (i := 109) rfl)) rfl
theorem uw5_110 : Cond.methodLink "java/lang/Exception" 1 ⟨"java/lang/Throwable", "<init>", "()V"⟩ ∈ uw := uw_in (tb_5 (List.mem_of_getElem? (i := 110) rfl)) rfl
theorem uw5_112 : Cond.fieldLink "java/lang/Throwable" 7 "java/lang/Throwable" "cause" "Ljava/lang/Throwable;" ∈ uw := uw_in (tb_5 (List.mem_of_getElem? (i := 112) rfl)) rfl
theorem uw5_113 : Cond.fieldLink "java/lang/Throwable" 17 "java/lang/Throwable" "stackTrace" "[Ljava/lang/StackTraceElement;" ∈ uw := uw_in (tb_5 (List.mem_of_getElem? (i := 113) rfl)) rfl
theorem uw5_114 : Cond.fieldLink "java/lang/Throwable" 24 "java/lang/Throwable" "suppressedExceptions" "Ljava/util/List;" ∈ uw := uw_in (tb_5 (List.mem_of_getElem? (i := 114) rfl)) rfl
theorem uw5_119 : Cond.lays "java/util/NoSuchElementException" "java/lang/Throwable" "depth" "I" ∈ uw := uw_in (tb_5 (List.mem_of_getElem? (i := 119) rfl)) rfl
theorem uw5_123 : Cond.methodLink RX11 220 yX11_judgeWeek ∈ uw := uw_in (tb_5 (List.mem_of_getElem? (i := 123) rfl)) rfl
theorem uw5_125 : Cond.instanceMethod yX11_judgeWeek ∈ uw := uw_in (tb_5 (List.mem_of_getElem? (i := 125) rfl)) rfl
theorem uw5_126 : Cond.code yX11_judgeWeek cX11_judgeWeek 4 none ∈ uw := uw_in (tb_5 (List.mem_of_getElem? (i := 126) rfl)) rfl
theorem uw5_127 : Cond.methodLink RL 120 yL_best ∈ uw := uw_in (tb_5 (List.mem_of_getElem? (i := 127) rfl)) rfl
theorem uw5_128 : Cond.static yL_best ∈ uw := uw_in (tb_5 (List.mem_of_getElem? (i := 128) rfl)) rfl
theorem uw5_129 : Cond.codeWith yL_best cL_best 4 (some .int) [(0, 9, 12, 13)] ∈ uw := uw_in (tb_5 (List.mem_of_getElem? (i := 129) rfl)) rfl
theorem uw5_130 : Cond.methodLink RL 15 yX11_best ∈ uw := uw_in (tb_5 (List.mem_of_getElem? (i := 130) rfl)) rfl
theorem uw5_131 : Cond.instanceMethod yX11_best ∈ uw := uw_in (tb_5 (List.mem_of_getElem? (i := 131) rfl)) rfl
theorem uw5_132 : Cond.selects RX11 yX11_best yX11_best ∈ uw := uw_in (tb_5 (List.mem_of_getElem? (i := 132) rfl)) rfl
theorem uw5_133 : Cond.code yX11_best cX11_best 2 (some .int) ∈ uw := uw_in (tb_5 (List.mem_of_getElem? (i := 133) rfl)) rfl
theorem uw5_134 : Cond.methodLink RX11 223 yX11_searchEach ∈ uw := uw_in (tb_5 (List.mem_of_getElem? (i := 134) rfl)) rfl
theorem uw5_136 : Cond.instanceMethod yX11_searchEach ∈ uw := uw_in (tb_5 (List.mem_of_getElem? (i := 136) rfl)) rfl
theorem uw5_137 : Cond.code yX11_searchEach cX11_searchEach 2 none ∈ uw := uw_in (tb_5 (List.mem_of_getElem? (i := 137) rfl)) rfl
theorem uw5_138 : Cond.methodLink RL 127 yL_when ∈ uw := uw_in (tb_5 (List.mem_of_getElem? (i := 138) rfl)) rfl
theorem uw5_139 : Cond.static yL_when ∈ uw := uw_in (tb_5 (List.mem_of_getElem? (i := 139) rfl)) rfl
theorem uw5_140 : Cond.codeWith yL_when cL_when 5 (some .int) [(0, 10, 13, 13)] ∈ uw := uw_in (tb_5 (List.mem_of_getElem? (i := 140) rfl)) rfl
theorem uw5_141 : Cond.methodLink RL 18 yX11_when ∈ uw := uw_in (tb_5 (List.mem_of_getElem? (i := 141) rfl)) rfl
theorem uw5_142 : Cond.instanceMethod yX11_when ∈ uw := uw_in (tb_5 (List.mem_of_getElem? (i := 142) rfl)) rfl
theorem uw5_143 : Cond.selects RX11 yX11_when yX11_when ∈ uw := uw_in (tb_5 (List.mem_of_getElem? (i := 143) rfl)) rfl
theorem uw5_144 : Cond.code yX11_when cX11_when 3 (some .int) ∈ uw := uw_in (tb_5 (List.mem_of_getElem? (i := 144) rfl)) rfl
theorem uw5_145 : Cond.methodLink RX11 226 yX11_searchMending ∈ uw := uw_in (tb_5 (List.mem_of_getElem? (i := 145) rfl)) rfl
theorem uw5_147 : Cond.instanceMethod yX11_searchMending ∈ uw := uw_in (tb_5 (List.mem_of_getElem? (i := 147) rfl)) rfl
theorem uw5_148 : Cond.code yX11_searchMending cX11_searchMending 4 none ∈ uw := uw_in (tb_5 (List.mem_of_getElem? (i := 148) rfl)) rfl
theorem uw5_149 : Cond.methodLink RX11 324 yX11_joyMendedAhead ∈ uw := uw_in (tb_5 (List.mem_of_getElem? (i := 149) rfl)) rfl
theorem uw5_151 : Cond.instanceMethod yX11_joyMendedAhead ∈ uw := uw_in (tb_5 (List.mem_of_getElem? (i := 151) rfl)) rfl
theorem uw5_152 : Cond.code yX11_joyMendedAhead cX11_joyMendedAhead 5 (some .int) ∈ uw := uw_in (tb_5 (List.mem_of_getElem? (i := 152) rfl)) rfl
theorem uw5_153 : Cond.methodLink RL 135 yL_without ∈ uw := uw_in (tb_5 (List.mem_of_getElem? (i := 153) rfl)) rfl
theorem uw5_154 : Cond.static yL_without ∈ uw := uw_in (tb_5 (List.mem_of_getElem? (i := 154) rfl)) rfl
theorem uw5_155 : Cond.codeWith yL_without cL_without 4 (some .int) [(0, 9, 12, 13)] ∈ uw := uw_in (tb_5 (List.mem_of_getElem? (i := 155) rfl)) rfl
theorem uw5_156 : Cond.methodLink RL 22 yX11_without ∈ uw := uw_in (tb_5 (List.mem_of_getElem? (i := 156) rfl)) rfl
theorem uw5_157 : Cond.instanceMethod yX11_without ∈ uw := uw_in (tb_5 (List.mem_of_getElem? (i := 157) rfl)) rfl
theorem uw5_158 : Cond.selects RX11 yX11_without yX11_without ∈ uw := uw_in (tb_5 (List.mem_of_getElem? (i := 158) rfl)) rfl
theorem uw5_159 : Cond.code yX11_without cX11_without 3 (some .int) ∈ uw := uw_in (tb_5 (List.mem_of_getElem? (i := 159) rfl)) rfl
theorem uw5_160 : Cond.methodLink RL 166 yL_rests ∈ uw := uw_in (tb_5 (List.mem_of_getElem? (i := 160) rfl)) rfl
theorem uw5_161 : Cond.static yL_rests ∈ uw := uw_in (tb_5 (List.mem_of_getElem? (i := 161) rfl)) rfl
theorem uw5_162 : Cond.codeWith yL_rests cL_rests 7 (some .int) [(0, 14, 17, 13)] ∈ uw := uw_in (tb_5 (List.mem_of_getElem? (i := 162) rfl)) rfl
theorem uw5_163 : Cond.methodLink RL 25 yX11_rests ∈ uw := uw_in (tb_5 (List.mem_of_getElem? (i := 163) rfl)) rfl
theorem uw5_164 : Cond.instanceMethod yX11_rests ∈ uw := uw_in (tb_5 (List.mem_of_getElem? (i := 164) rfl)) rfl
theorem uw5_165 : Cond.selects RX11 yX11_rests yX11_rests ∈ uw := uw_in (tb_5 (List.mem_of_getElem? (i := 165) rfl)) rfl
theorem uw5_166 : Cond.code yX11_rests cX11_rests 7 (some .int) ∈ uw := uw_in (tb_5 (List.mem_of_getElem? (i := 166) rfl)) rfl
theorem uw5_167 : Cond.methodLink RX11 276 yX11_isDigit ∈ uw := uw_in (tb_5 (List.mem_of_getElem? (i := 167) rfl)) rfl
theorem uw5_168 : Cond.static yX11_isDigit ∈ uw := uw_in (tb_5 (List.mem_of_getElem? (i := 168) rfl)) rfl
theorem uw5_169 : Cond.code yX11_isDigit cX11_isDigit 1 (some .boolean) ∈ uw := uw_in (tb_5 (List.mem_of_getElem? (i := 169) rfl)) rfl
theorem uw5_170 : Cond.methodLink RX11 279 yX11_isRest ∈ uw := uw_in (tb_5 (List.mem_of_getElem? (i := 170) rfl)) rfl
theorem uw5_171 : Cond.static yX11_isRest ∈ uw := uw_in (tb_5 (List.mem_of_getElem? (i := 171) rfl)) rfl
theorem uw5_172 : Cond.code yX11_isRest cX11_isRest 6 (some .boolean) ∈ uw := uw_in (tb_5 (List.mem_of_getElem? (i := 172) rfl)) rfl
theorem uw5_173 : Cond.methodLink RX11 327 yX11_gain ∈ uw := uw_in (tb_5 (List.mem_of_getElem? (i := 173) rfl)) rfl
theorem uw5_174 : Cond.static yX11_gain ∈ uw := uw_in (tb_5 (List.mem_of_getElem? (i := 174) rfl)) rfl
theorem uw5_175 : Cond.code yX11_gain cX11_gain 5 (some .int) ∈ uw := uw_in (tb_5 (List.mem_of_getElem? (i := 175) rfl)) rfl
theorem uw5_176 : Cond.methodLink RL 170 yL_rule ∈ uw := uw_in (tb_5 (List.mem_of_getElem? (i := 176) rfl)) rfl
theorem uw5_177 : Cond.static yL_rule ∈ uw := uw_in (tb_5 (List.mem_of_getElem? (i := 177) rfl)) rfl
theorem uw5_178 : Cond.codeWith yL_rule cL_rule 5 (some .int) [(0, 10, 13, 13)] ∈ uw := uw_in (tb_5 (List.mem_of_getElem? (i := 178) rfl)) rfl
theorem uw5_179 : Cond.methodLink RL 29 yX11_rule ∈ uw := uw_in (tb_5 (List.mem_of_getElem? (i := 179) rfl)) rfl
theorem uw5_180 : Cond.instanceMethod yX11_rule ∈ uw := uw_in (tb_5 (List.mem_of_getElem? (i := 180) rfl)) rfl
theorem uw5_181 : Cond.selects RX11 yX11_rule yX11_rule ∈ uw := uw_in (tb_5 (List.mem_of_getElem? (i := 181) rfl)) rfl
theorem uw5_182 : Cond.code yX11_rule cX11_rule 5 (some .int) ∈ uw := uw_in (tb_5 (List.mem_of_getElem? (i := 182) rfl)) rfl
theorem uw5_183 : Cond.methodLink RL 173 yL_months ∈ uw := uw_in (tb_5 (List.mem_of_getElem? (i := 183) rfl)) rfl
theorem uw5_184 : Cond.static yL_months ∈ uw := uw_in (tb_5 (List.mem_of_getElem? (i := 184) rfl)) rfl
theorem uw5_185 : Cond.codeWith yL_months cL_months 6 (some .int) [(0, 12, 15, 13)] ∈ uw := uw_in (tb_5 (List.mem_of_getElem? (i := 185) rfl)) rfl
theorem uw5_186 : Cond.methodLink RL 32 yX11_months ∈ uw := uw_in (tb_5 (List.mem_of_getElem? (i := 186) rfl)) rfl
theorem uw5_187 : Cond.instanceMethod yX11_months ∈ uw := uw_in (tb_5 (List.mem_of_getElem? (i := 187) rfl)) rfl
theorem uw5_188 : Cond.selects RX11 yX11_months yX11_months ∈ uw := uw_in (tb_5 (List.mem_of_getElem? (i := 188) rfl)) rfl
theorem uw5_189 : Cond.code yX11_months cX11_months 4 (some .int) ∈ uw := uw_in (tb_5 (List.mem_of_getElem? (i := 189) rfl)) rfl
theorem uw5_190 : Cond.methodLink RX11 283 yX11_drawMonths ∈ uw := uw_in (tb_5 (List.mem_of_getElem? (i := 190) rfl)) rfl
theorem uw5_192 : Cond.instanceMethod yX11_drawMonths ∈ uw := uw_in (tb_5 (List.mem_of_getElem? (i := 192) rfl)) rfl
theorem uw5_193 : Cond.code yX11_drawMonths cX11_drawMonths 7 none ∈ uw := uw_in (tb_5 (List.mem_of_getElem? (i := 193) rfl)) rfl
theorem uw5_194 : Cond.methodLink RX11 337 yX11_draw ∈ uw := uw_in (tb_5 (List.mem_of_getElem? (i := 194) rfl)) rfl
theorem uw5_196 : Cond.instanceMethod yX11_draw ∈ uw := uw_in (tb_5 (List.mem_of_getElem? (i := 196) rfl)) rfl
theorem uw5_197 : Cond.code yX11_draw cX11_draw 2 (some .int) ∈ uw := uw_in (tb_5 (List.mem_of_getElem? (i := 197) rfl)) rfl
theorem uw5_198 : Cond.constantLong RX11 346 (1103515245) ∈ uw := uw_in (tb_5 (List.mem_of_getElem? (i := 198) rfl)) rfl
theorem uw5_199 : Cond.constantLong RX11 348 (12345) ∈ uw := uw_in (tb_5 (List.mem_of_getElem? (i := 199) rfl)) rfl
theorem uw5_200 : Cond.constantLong RX11 350 (2147483647) ∈ uw := uw_in (tb_5 (List.mem_of_getElem? (i := 200) rfl)) rfl
theorem uw5_201 : Cond.constantLong RX11 352 (65536) ∈ uw := uw_in (tb_5 (List.mem_of_getElem? (i := 201) rfl)) rfl
theorem uw5_202 : Cond.methodLink RX11 343 yX6_keysAbove ∈ uw := uw_in (tb_5 (List.mem_of_getElem? (i := 202) rfl)) rfl
theorem uw5_203 : Cond.instanceMethod yX6_keysAbove ∈ uw := uw_in (tb_5 (List.mem_of_getElem? (i := 203) rfl)) rfl
theorem uw5_204 : Cond.selects RX6 yX6_keysAbove yX6_keysAbove ∈ uw := uw_in (tb_5 (List.mem_of_getElem? (i := 204) rfl)) rfl
theorem uw5_205 : Cond.code yX6_keysAbove cX6_keysAbove 4 (some .int) ∈ uw := uw_in (tb_5 (List.mem_of_getElem? (i := 205) rfl)) rfl
theorem uw5_206 : Cond.classLink RL 37 RX12 ∈ uw := uw_in (tb_5 (List.mem_of_getElem? (i := 206) rfl)) rfl
theorem uw5_207 : Cond.instantiable RX12 67 ∈ uw := uw_in (tb_5 (List.mem_of_getElem? (i := 207) rfl)) rfl
theorem uw5_208 : Cond.methodLink RL 39 yX12_init ∈ uw := uw_in (tb_5 (List.mem_of_getElem? (i := 208) rfl)) rfl
theorem uw5_209 : Cond.instanceMethod yX12_init ∈ uw := uw_in (tb_5 (List.mem_of_getElem? (i := 209) rfl)) rfl
theorem uw5_210 : Cond.code yX12_init cX12_init 1 none ∈ uw := uw_in (tb_5 (List.mem_of_getElem? (i := 210) rfl)) rfl
theorem uw5_211 : Cond.methodLink RX12 1 Lib.objectInit ∈ uw := uw_in (tb_5 (List.mem_of_getElem? (i := 211) rfl)) rfl
theorem uw5_212 : Cond.methodLink RX12 153 yX12_usual ∈ uw := uw_in (tb_5 (List.mem_of_getElem? (i := 212) rfl)) rfl
theorem uw5_214 : Cond.instanceMethod yX12_usual ∈ uw := uw_in (tb_5 (List.mem_of_getElem? (i := 214) rfl)) rfl
theorem uw5_215 : Cond.code yX12_usual cX12_usual 2 none ∈ uw := uw_in (tb_5 (List.mem_of_getElem? (i := 215) rfl)) rfl
theorem uw5_216 : Cond.methodLink RX12 157 yX12_fresh ∈ uw := uw_in (tb_5 (List.mem_of_getElem? (i := 216) rfl)) rfl
theorem uw5_218 : Cond.instanceMethod yX12_fresh ∈ uw := uw_in (tb_5 (List.mem_of_getElem? (i := 218) rfl)) rfl
theorem uw5_219 : Cond.code yX12_fresh cX12_fresh 2 none ∈ uw := uw_in (tb_5 (List.mem_of_getElem? (i := 219) rfl)) rfl
theorem uw5_220 : Cond.fieldLink RX12 160 "StationPianoModel" "thrown" "I" ∈ uw := uw_in (tb_5 (List.mem_of_getElem? (i := 220) rfl)) rfl
theorem uw5_221 : Cond.fieldLink RX12 166 "StationPianoModel" "taped" "I" ∈ uw := uw_in (tb_5 (List.mem_of_getElem? (i := 221) rfl)) rfl
theorem uw5_222 : Cond.fieldLink RX12 7 "StationPianoModel" "tape" "[I" ∈ uw := uw_in (tb_5 (List.mem_of_getElem? (i := 222) rfl)) rfl
theorem uw5_223 : Cond.fieldLink RX12 169 "StationPianoModel" "size" "I" ∈ uw := uw_in (tb_5 (List.mem_of_getElem? (i := 223) rfl)) rfl
theorem uw5_224 : Cond.fieldLink RX12 172 "StationPianoModel" "place" "I" ∈ uw := uw_in (tb_5 (List.mem_of_getElem? (i := 224) rfl)) rfl
theorem uw5_225 : Cond.fieldLink RX12 175 "StationPianoModel" "begin" "I" ∈ uw := uw_in (tb_5 (List.mem_of_getElem? (i := 225) rfl)) rfl
theorem uw5_226 : Cond.fieldLink RX12 185 "StationPianoModel" "token" "I" ∈ uw := uw_in (tb_5 (List.mem_of_getElem? (i := 226) rfl)) rfl
theorem uw5_227 : Cond.fieldLink RX12 178 "StationPianoModel" "word" "J" ∈ uw := uw_in (tb_5 (List.mem_of_getElem? (i := 227) rfl)) rfl
theorem uw5_228 : Cond.fieldLink RX12 182 "StationPianoModel" "told" "I" ∈ uw := uw_in (tb_5 (List.mem_of_getElem? (i := 228) rfl)) rfl
theorem uw5_229 : Cond.fieldLink RX12 196 "StationPianoModel" "wrong" "I" ∈ uw := uw_in (tb_5 (List.mem_of_getElem? (i := 229) rfl)) rfl
theorem uw5_230 : Cond.fieldLink RX12 13 "StationPianoModel" "station" "[I" ∈ uw := uw_in (tb_5 (List.mem_of_getElem? (i := 230) rfl)) rfl
theorem uw5_231 : Cond.fieldLink RX12 16 "StationPianoModel" "tuneName" "[J" ∈ uw := uw_in (tb_5 (List.mem_of_getElem? (i := 231) rfl)) rfl
theorem uw5_232 : Cond.fieldLink RX12 20 "StationPianoModel" "passerName" "[J" ∈ uw := uw_in (tb_5 (List.mem_of_getElem? (i := 232) rfl)) rfl
theorem uw5_233 : Cond.fieldLink RX12 23 "StationPianoModel" "tuneKeys" "[I" ∈ uw := uw_in (tb_5 (List.mem_of_getElem? (i := 233) rfl)) rfl
theorem uw5_234 : Cond.fieldLink RX12 26 "StationPianoModel" "tuneMany" "[I" ∈ uw := uw_in (tb_5 (List.mem_of_getElem? (i := 234) rfl)) rfl
theorem uw5_235 : Cond.fieldLink RX12 29 "StationPianoModel" "kind" "[I" ∈ uw := uw_in (tb_5 (List.mem_of_getElem? (i := 235) rfl)) rfl
theorem uw5_236 : Cond.fieldLink RX12 32 "StationPianoModel" "playsTune" "[I" ∈ uw := uw_in (tb_5 (List.mem_of_getElem? (i := 236) rfl)) rfl
theorem uw5_237 : Cond.fieldLink RX12 35 "StationPianoModel" "skill" "[I" ∈ uw := uw_in (tb_5 (List.mem_of_getElem? (i := 237) rfl)) rfl
theorem uw5_238 : Cond.fieldLink RX12 38 "StationPianoModel" "shy" "[I" ∈ uw := uw_in (tb_5 (List.mem_of_getElem? (i := 238) rfl)) rfl
theorem uw5_239 : Cond.fieldLink RX12 41 "StationPianoModel" "stays" "[I" ∈ uw := uw_in (tb_5 (List.mem_of_getElem? (i := 239) rfl)) rfl
theorem uw6_0 : Cond.fieldLink RX12 44 "StationPianoModel" "comes" "[I" ∈ uw := uw_in (tb_6 (List.mem_of_getElem? (i := 0) rfl)) rfl
theorem uw6_1 : Cond.fieldLink RX12 47 "StationPianoModel" "lineFrom" "[I" ∈ uw := uw_in (tb_6 (List.mem_of_getElem? (i := 1) rfl)) rfl
theorem uw6_2 : Cond.fieldLink RX12 50 "StationPianoModel" "lineTo" "[I" ∈ uw := uw_in (tb_6 (List.mem_of_getElem? (i := 2) rfl)) rfl
theorem uw6_3 : Cond.fieldLink RX12 53 "StationPianoModel" "codes" "[I" ∈ uw := uw_in (tb_6 (List.mem_of_getElem? (i := 3) rfl)) rfl
theorem uw6_4 : Cond.fieldLink RX12 199 "StationPianoModel" "code" "I" ∈ uw := uw_in (tb_6 (List.mem_of_getElem? (i := 4) rfl)) rfl
theorem uw6_5 : Cond.fieldLink RX12 204 "StationPianoModel" "lawLine" "I" ∈ uw := uw_in (tb_6 (List.mem_of_getElem? (i := 5) rfl)) rfl
theorem uw6_6 : Cond.fieldLink RX12 329 "StationPianoModel" "toldLines" "I" ∈ uw := uw_in (tb_6 (List.mem_of_getElem? (i := 6) rfl)) rfl
theorem uw6_7 : Cond.fieldLink RX12 56 "StationPianoModel" "opened" "[I" ∈ uw := uw_in (tb_6 (List.mem_of_getElem? (i := 7) rfl)) rfl
theorem uw6_8 : Cond.fieldLink RX12 59 "StationPianoModel" "compared" "[Z" ∈ uw := uw_in (tb_6 (List.mem_of_getElem? (i := 8) rfl)) rfl
theorem uw6_9 : Cond.fieldLink RX12 63 "StationPianoModel" "kept" "[I" ∈ uw := uw_in (tb_6 (List.mem_of_getElem? (i := 9) rfl)) rfl
theorem uw6_10 : Cond.fieldLink RX12 66 "StationPianoModel" "keptBy" "[I" ∈ uw := uw_in (tb_6 (List.mem_of_getElem? (i := 10) rfl)) rfl
theorem uw6_11 : Cond.fieldLink RX12 69 "StationPianoModel" "ahead" "[I" ∈ uw := uw_in (tb_6 (List.mem_of_getElem? (i := 11) rfl)) rfl
theorem uw6_12 : Cond.fieldLink RX12 72 "StationPianoModel" "against" "[I" ∈ uw := uw_in (tb_6 (List.mem_of_getElem? (i := 12) rfl)) rfl
theorem uw6_13 : Cond.fieldLink RX12 75 "StationPianoModel" "sum" "[I" ∈ uw := uw_in (tb_6 (List.mem_of_getElem? (i := 13) rfl)) rfl
theorem uw6_14 : Cond.fieldLink RX12 78 "StationPianoModel" "sumBy" "[I" ∈ uw := uw_in (tb_6 (List.mem_of_getElem? (i := 14) rfl)) rfl
theorem uw6_15 : Cond.fieldLink RX12 81 "StationPianoModel" "term" "[I" ∈ uw := uw_in (tb_6 (List.mem_of_getElem? (i := 15) rfl)) rfl
theorem uw6_16 : Cond.fieldLink RX12 84 "StationPianoModel" "termBy" "[I" ∈ uw := uw_in (tb_6 (List.mem_of_getElem? (i := 16) rfl)) rfl
theorem uw6_17 : Cond.fieldLink RX12 87 "StationPianoModel" "byNot" "[I" ∈ uw := uw_in (tb_6 (List.mem_of_getElem? (i := 17) rfl)) rfl
theorem uw6_18 : Cond.fieldLink RX12 90 "StationPianoModel" "valueOf" "[I" ∈ uw := uw_in (tb_6 (List.mem_of_getElem? (i := 18) rfl)) rfl
theorem uw6_19 : Cond.fieldLink RX12 297 "StationPianoModel" "given" "I" ∈ uw := uw_in (tb_6 (List.mem_of_getElem? (i := 19) rfl)) rfl
theorem uw6_20 : Cond.fieldLink RX12 317 "StationPianoModel" "fresh" "J" ∈ uw := uw_in (tb_6 (List.mem_of_getElem? (i := 20) rfl)) rfl
theorem uw6_21 : Cond.fieldLink RX12 335 "StationPianoModel" "begun" "I" ∈ uw := uw_in (tb_6 (List.mem_of_getElem? (i := 21) rfl)) rfl
theorem uw6_22 : Cond.fieldLink RX12 93 "StationPianoModel" "lines" "[I" ∈ uw := uw_in (tb_6 (List.mem_of_getElem? (i := 22) rfl)) rfl
theorem uw6_23 : Cond.fieldLink RX12 96 "StationPianoModel" "lineWhat" "[I" ∈ uw := uw_in (tb_6 (List.mem_of_getElem? (i := 23) rfl)) rfl
theorem uw6_24 : Cond.fieldLink RX12 99 "StationPianoModel" "lineN" "[I" ∈ uw := uw_in (tb_6 (List.mem_of_getElem? (i := 24) rfl)) rfl
theorem uw6_25 : Cond.fieldLink RX12 102 "StationPianoModel" "lineTill" "[I" ∈ uw := uw_in (tb_6 (List.mem_of_getElem? (i := 25) rfl)) rfl
theorem uw6_26 : Cond.fieldLink RX12 105 "StationPianoModel" "founds" "[I" ∈ uw := uw_in (tb_6 (List.mem_of_getElem? (i := 26) rfl)) rfl
theorem uw6_27 : Cond.fieldLink RX12 108 "StationPianoModel" "foundKey" "[I" ∈ uw := uw_in (tb_6 (List.mem_of_getElem? (i := 27) rfl)) rfl
theorem uw6_28 : Cond.fieldLink RX12 111 "StationPianoModel" "foundWear" "[I" ∈ uw := uw_in (tb_6 (List.mem_of_getElem? (i := 28) rfl)) rfl
theorem uw6_29 : Cond.fieldLink RX12 114 "StationPianoModel" "s" "[I" ∈ uw := uw_in (tb_6 (List.mem_of_getElem? (i := 29) rfl)) rfl
theorem uw6_30 : Cond.fieldLink RX12 117 "StationPianoModel" "aside" "[I" ∈ uw := uw_in (tb_6 (List.mem_of_getElem? (i := 30) rfl)) rfl
theorem uw6_31 : Cond.fieldLink RX12 120 "StationPianoModel" "before" "[I" ∈ uw := uw_in (tb_6 (List.mem_of_getElem? (i := 31) rfl)) rfl
theorem uw6_32 : Cond.fieldLink RX12 123 "StationPianoModel" "marked" "[I" ∈ uw := uw_in (tb_6 (List.mem_of_getElem? (i := 32) rfl)) rfl
theorem uw6_33 : Cond.fieldLink RX12 126 "StationPianoModel" "undone" "[I" ∈ uw := uw_in (tb_6 (List.mem_of_getElem? (i := 33) rfl)) rfl
theorem uw6_34 : Cond.fieldLink RX12 129 "StationPianoModel" "isLaid" "[Z" ∈ uw := uw_in (tb_6 (List.mem_of_getElem? (i := 34) rfl)) rfl
theorem uw6_35 : Cond.fieldLink RX12 372 "StationPianoModel" "done" "I" ∈ uw := uw_in (tb_6 (List.mem_of_getElem? (i := 35) rfl)) rfl
theorem uw6_36 : Cond.fieldLink RX12 132 "StationPianoModel" "cameAt" "[I" ∈ uw := uw_in (tb_6 (List.mem_of_getElem? (i := 36) rfl)) rfl
theorem uw6_37 : Cond.fieldLink RX12 135 "StationPianoModel" "where" "[I" ∈ uw := uw_in (tb_6 (List.mem_of_getElem? (i := 37) rfl)) rfl
theorem uw6_38 : Cond.fieldLink RX12 138 "StationPianoModel" "beganAt" "[I" ∈ uw := uw_in (tb_6 (List.mem_of_getElem? (i := 38) rfl)) rfl
theorem uw6_39 : Cond.fieldLink RX12 141 "StationPianoModel" "endedAt" "[I" ∈ uw := uw_in (tb_6 (List.mem_of_getElem? (i := 39) rfl)) rfl
theorem uw6_40 : Cond.fieldLink RX12 144 "StationPianoModel" "playsAt" "[I" ∈ uw := uw_in (tb_6 (List.mem_of_getElem? (i := 40) rfl)) rfl
theorem uw6_41 : Cond.fieldLink RX12 147 "StationPianoModel" "sameAhead" "[I" ∈ uw := uw_in (tb_6 (List.mem_of_getElem? (i := 41) rfl)) rfl
theorem uw6_42 : Cond.fieldLink RX12 422 "StationPianoModel" "absent" "I" ∈ uw := uw_in (tb_6 (List.mem_of_getElem? (i := 42) rfl)) rfl
theorem uw6_43 : Cond.fieldLink RX12 434 "StationPianoModel" "joySum" "I" ∈ uw := uw_in (tb_6 (List.mem_of_getElem? (i := 43) rfl)) rfl
theorem uw6_44 : Cond.fieldLink RX12 416 "StationPianoModel" "beginnings" "I" ∈ uw := uw_in (tb_6 (List.mem_of_getElem? (i := 44) rfl)) rfl
theorem uw6_45 : Cond.fieldLink RX12 150 "StationPianoModel" "alike" "[I" ∈ uw := uw_in (tb_6 (List.mem_of_getElem? (i := 45) rfl)) rfl
theorem uw6_46 : Cond.fieldLink RX12 508 "StationPianoModel" "g" "J" ∈ uw := uw_in (tb_6 (List.mem_of_getElem? (i := 46) rfl)) rfl
theorem uw6_47 : Cond.lays "StationPianoModel" "StationPianoModel" "thrown" "I" ∈ uw := uw_in (tb_6 (List.mem_of_getElem? (i := 47) rfl)) rfl
theorem uw6_49 : Cond.lays "StationPianoModel" "StationPianoModel" "taped" "I" ∈ uw := uw_in (tb_6 (List.mem_of_getElem? (i := 49) rfl)) rfl
theorem uw6_51 : Cond.laysFinal "StationPianoModel" "StationPianoModel" "tape" "[I" ∈ uw := uw_in (tb_6 (List.mem_of_getElem? (i := 51) rfl)) rfl
theorem uw6_53 : Cond.lays "StationPianoModel" "StationPianoModel" "size" "I" ∈ uw := uw_in (tb_6 (List.mem_of_getElem? (i := 53) rfl)) rfl
theorem uw6_55 : Cond.lays "StationPianoModel" "StationPianoModel" "place" "I" ∈ uw := uw_in (tb_6 (List.mem_of_getElem? (i := 55) rfl)) rfl
theorem uw6_57 : Cond.lays "StationPianoModel" "StationPianoModel" "begin" "I" ∈ uw := uw_in (tb_6 (List.mem_of_getElem? (i := 57) rfl)) rfl
theorem uw6_59 : Cond.lays "StationPianoModel" "StationPianoModel" "token" "I" ∈ uw := uw_in (tb_6 (List.mem_of_getElem? (i := 59) rfl)) rfl
theorem uw6_61 : Cond.lays "StationPianoModel" "StationPianoModel" "word" "J" ∈ uw := uw_in (tb_6 (List.mem_of_getElem? (i := 61) rfl)) rfl
theorem uw6_63 : Cond.lays "StationPianoModel" "StationPianoModel" "told" "I" ∈ uw := uw_in (tb_6 (List.mem_of_getElem? (i := 63) rfl)) rfl
theorem uw6_65 : Cond.lays "StationPianoModel" "StationPianoModel" "wrong" "I" ∈ uw := uw_in (tb_6 (List.mem_of_getElem? (i := 65) rfl)) rfl
theorem uw6_67 : Cond.laysFinal "StationPianoModel" "StationPianoModel" "station" "[I" ∈ uw := uw_in (tb_6 (List.mem_of_getElem? (i := 67) rfl)) rfl
theorem uw6_69 : Cond.laysFinal "StationPianoModel" "StationPianoModel" "tuneName" "[J" ∈ uw := uw_in (tb_6 (List.mem_of_getElem? (i := 69) rfl)) rfl
theorem uw6_71 : Cond.laysFinal "StationPianoModel" "StationPianoModel" "passerName" "[J" ∈ uw := uw_in (tb_6 (List.mem_of_getElem? (i := 71) rfl)) rfl
theorem uw6_73 : Cond.laysFinal "StationPianoModel" "StationPianoModel" "tuneKeys" "[I" ∈ uw := uw_in (tb_6 (List.mem_of_getElem? (i := 73) rfl)) rfl
theorem uw6_75 : Cond.laysFinal "StationPianoModel" "StationPianoModel" "tuneMany" "[I" ∈ uw := uw_in (tb_6 (List.mem_of_getElem? (i := 75) rfl)) rfl
theorem uw6_77 : Cond.laysFinal "StationPianoModel" "StationPianoModel" "kind" "[I" ∈ uw := uw_in (tb_6 (List.mem_of_getElem? (i := 77) rfl)) rfl
theorem uw6_79 : Cond.laysFinal "StationPianoModel" "StationPianoModel" "playsTune" "[I" ∈ uw := uw_in (tb_6 (List.mem_of_getElem? (i := 79) rfl)) rfl
theorem uw6_81 : Cond.laysFinal "StationPianoModel" "StationPianoModel" "skill" "[I" ∈ uw := uw_in (tb_6 (List.mem_of_getElem? (i := 81) rfl)) rfl
theorem uw6_83 : Cond.laysFinal "StationPianoModel" "StationPianoModel" "shy" "[I" ∈ uw := uw_in (tb_6 (List.mem_of_getElem? (i := 83) rfl)) rfl
theorem uw6_85 : Cond.laysFinal "StationPianoModel" "StationPianoModel" "stays" "[I" ∈ uw := uw_in (tb_6 (List.mem_of_getElem? (i := 85) rfl)) rfl
theorem uw6_87 : Cond.laysFinal "StationPianoModel" "StationPianoModel" "comes" "[I" ∈ uw := uw_in (tb_6 (List.mem_of_getElem? (i := 87) rfl)) rfl
theorem uw6_89 : Cond.laysFinal "StationPianoModel" "StationPianoModel" "lineFrom" "[I" ∈ uw := uw_in (tb_6 (List.mem_of_getElem? (i := 89) rfl)) rfl
theorem uw6_91 : Cond.laysFinal "StationPianoModel" "StationPianoModel" "lineTo" "[I" ∈ uw := uw_in (tb_6 (List.mem_of_getElem? (i := 91) rfl)) rfl
theorem uw6_93 : Cond.laysFinal "StationPianoModel" "StationPianoModel" "codes" "[I" ∈ uw := uw_in (tb_6 (List.mem_of_getElem? (i := 93) rfl)) rfl
theorem uw6_95 : Cond.lays "StationPianoModel" "StationPianoModel" "code" "I" ∈ uw := uw_in (tb_6 (List.mem_of_getElem? (i := 95) rfl)) rfl
theorem uw6_97 : Cond.lays "StationPianoModel" "StationPianoModel" "lawLine" "I" ∈ uw := uw_in (tb_6 (List.mem_of_getElem? (i := 97) rfl)) rfl
theorem uw6_99 : Cond.lays "StationPianoModel" "StationPianoModel" "toldLines" "I" ∈ uw := uw_in (tb_6 (List.mem_of_getElem? (i := 99) rfl)) rfl
theorem uw6_101 : Cond.laysFinal "StationPianoModel" "StationPianoModel" "opened" "[I" ∈ uw := uw_in (tb_6 (List.mem_of_getElem? (i := 101) rfl)) rfl
theorem uw6_103 : Cond.laysFinal "StationPianoModel" "StationPianoModel" "compared" "[Z" ∈ uw := uw_in (tb_6 (List.mem_of_getElem? (i := 103) rfl)) rfl
theorem uw6_105 : Cond.laysFinal "StationPianoModel" "StationPianoModel" "kept" "[I" ∈ uw := uw_in (tb_6 (List.mem_of_getElem? (i := 105) rfl)) rfl
theorem uw6_107 : Cond.laysFinal "StationPianoModel" "StationPianoModel" "keptBy" "[I" ∈ uw := uw_in (tb_6 (List.mem_of_getElem? (i := 107) rfl)) rfl
theorem uw6_109 : Cond.laysFinal "StationPianoModel" "StationPianoModel" "ahead" "[I" ∈ uw := uw_in (tb_6 (List.mem_of_getElem? (i := 109) rfl)) rfl
theorem uw6_111 : Cond.laysFinal "StationPianoModel" "StationPianoModel" "against" "[I" ∈ uw := uw_in (tb_6 (List.mem_of_getElem? (i := 111) rfl)) rfl
theorem uw6_113 : Cond.laysFinal "StationPianoModel" "StationPianoModel" "sum" "[I" ∈ uw := uw_in (tb_6 (List.mem_of_getElem? (i := 113) rfl)) rfl
theorem uw6_115 : Cond.laysFinal "StationPianoModel" "StationPianoModel" "sumBy" "[I" ∈ uw := uw_in (tb_6 (List.mem_of_getElem? (i := 115) rfl)) rfl
theorem uw6_117 : Cond.laysFinal "StationPianoModel" "StationPianoModel" "term" "[I" ∈ uw := uw_in (tb_6 (List.mem_of_getElem? (i := 117) rfl)) rfl
theorem uw6_119 : Cond.laysFinal "StationPianoModel" "StationPianoModel" "termBy" "[I" ∈ uw := uw_in (tb_6 (List.mem_of_getElem? (i := 119) rfl)) rfl
theorem uw6_121 : Cond.laysFinal "StationPianoModel" "StationPianoModel" "byNot" "[I" ∈ uw := uw_in (tb_6 (List.mem_of_getElem? (i := 121) rfl)) rfl
theorem uw6_123 : Cond.laysFinal "StationPianoModel" "StationPianoModel" "valueOf" "[I" ∈ uw := uw_in (tb_6 (List.mem_of_getElem? (i := 123) rfl)) rfl
theorem uw6_125 : Cond.lays "StationPianoModel" "StationPianoModel" "given" "I" ∈ uw := uw_in (tb_6 (List.mem_of_getElem? (i := 125) rfl)) rfl
theorem uw6_127 : Cond.lays "StationPianoModel" "StationPianoModel" "fresh" "J" ∈ uw := uw_in (tb_6 (List.mem_of_getElem? (i := 127) rfl)) rfl
theorem uw6_129 : Cond.lays "StationPianoModel" "StationPianoModel" "begun" "I" ∈ uw := uw_in (tb_6 (List.mem_of_getElem? (i := 129) rfl)) rfl
theorem uw6_131 : Cond.laysFinal "StationPianoModel" "StationPianoModel" "lines" "[I" ∈ uw := uw_in (tb_6 (List.mem_of_getElem? (i := 131) rfl)) rfl
theorem uw6_133 : Cond.laysFinal "StationPianoModel" "StationPianoModel" "lineWhat" "[I" ∈ uw := uw_in (tb_6 (List.mem_of_getElem? (i := 133) rfl)) rfl
theorem uw6_135 : Cond.laysFinal "StationPianoModel" "StationPianoModel" "lineN" "[I" ∈ uw := uw_in (tb_6 (List.mem_of_getElem? (i := 135) rfl)) rfl
theorem uw6_137 : Cond.laysFinal "StationPianoModel" "StationPianoModel" "lineTill" "[I" ∈ uw := uw_in (tb_6 (List.mem_of_getElem? (i := 137) rfl)) rfl
theorem uw6_139 : Cond.laysFinal "StationPianoModel" "StationPianoModel" "founds" "[I" ∈ uw := uw_in (tb_6 (List.mem_of_getElem? (i := 139) rfl)) rfl
theorem uw6_141 : Cond.laysFinal "StationPianoModel" "StationPianoModel" "foundKey" "[I" ∈ uw := uw_in (tb_6 (List.mem_of_getElem? (i := 141) rfl)) rfl
theorem uw6_143 : Cond.laysFinal "StationPianoModel" "StationPianoModel" "foundWear" "[I" ∈ uw := uw_in (tb_6 (List.mem_of_getElem? (i := 143) rfl)) rfl
theorem uw6_145 : Cond.laysFinal "StationPianoModel" "StationPianoModel" "s" "[I" ∈ uw := uw_in (tb_6 (List.mem_of_getElem? (i := 145) rfl)) rfl
theorem uw6_147 : Cond.laysFinal "StationPianoModel" "StationPianoModel" "aside" "[I" ∈ uw := uw_in (tb_6 (List.mem_of_getElem? (i := 147) rfl)) rfl
theorem uw6_149 : Cond.laysFinal "StationPianoModel" "StationPianoModel" "before" "[I" ∈ uw := uw_in (tb_6 (List.mem_of_getElem? (i := 149) rfl)) rfl
theorem uw6_151 : Cond.laysFinal "StationPianoModel" "StationPianoModel" "marked" "[I" ∈ uw := uw_in (tb_6 (List.mem_of_getElem? (i := 151) rfl)) rfl
theorem uw6_153 : Cond.laysFinal "StationPianoModel" "StationPianoModel" "undone" "[I" ∈ uw := uw_in (tb_6 (List.mem_of_getElem? (i := 153) rfl)) rfl
theorem uw6_155 : Cond.laysFinal "StationPianoModel" "StationPianoModel" "isLaid" "[Z" ∈ uw := uw_in (tb_6 (List.mem_of_getElem? (i := 155) rfl)) rfl
theorem uw6_157 : Cond.lays "StationPianoModel" "StationPianoModel" "done" "I" ∈ uw := uw_in (tb_6 (List.mem_of_getElem? (i := 157) rfl)) rfl
theorem uw6_159 : Cond.laysFinal "StationPianoModel" "StationPianoModel" "cameAt" "[I" ∈ uw := uw_in (tb_6 (List.mem_of_getElem? (i := 159) rfl)) rfl
theorem uw6_161 : Cond.laysFinal "StationPianoModel" "StationPianoModel" "where" "[I" ∈ uw := uw_in (tb_6 (List.mem_of_getElem? (i := 161) rfl)) rfl
theorem uw6_163 : Cond.laysFinal "StationPianoModel" "StationPianoModel" "beganAt" "[I" ∈ uw := uw_in (tb_6 (List.mem_of_getElem? (i := 163) rfl)) rfl
theorem uw6_165 : Cond.laysFinal "StationPianoModel" "StationPianoModel" "endedAt" "[I" ∈ uw := uw_in (tb_6 (List.mem_of_getElem? (i := 165) rfl)) rfl
theorem uw6_167 : Cond.laysFinal "StationPianoModel" "StationPianoModel" "playsAt" "[I" ∈ uw := uw_in (tb_6 (List.mem_of_getElem? (i := 167) rfl)) rfl
theorem uw6_169 : Cond.laysFinal "StationPianoModel" "StationPianoModel" "sameAhead" "[I" ∈ uw := uw_in (tb_6 (List.mem_of_getElem? (i := 169) rfl)) rfl
theorem uw6_171 : Cond.lays "StationPianoModel" "StationPianoModel" "absent" "I" ∈ uw := uw_in (tb_6 (List.mem_of_getElem? (i := 171) rfl)) rfl
theorem uw6_173 : Cond.lays "StationPianoModel" "StationPianoModel" "joySum" "I" ∈ uw := uw_in (tb_6 (List.mem_of_getElem? (i := 173) rfl)) rfl
theorem uw6_175 : Cond.lays "StationPianoModel" "StationPianoModel" "beginnings" "I" ∈ uw := uw_in (tb_6 (List.mem_of_getElem? (i := 175) rfl)) rfl
theorem uw6_177 : Cond.laysFinal "StationPianoModel" "StationPianoModel" "alike" "[I" ∈ uw := uw_in (tb_6 (List.mem_of_getElem? (i := 177) rfl)) rfl
theorem uw6_179 : Cond.lays "StationPianoModel" "StationPianoModel" "g" "J" ∈ uw := uw_in (tb_6 (List.mem_of_getElem? (i := 179) rfl)) rfl
theorem uw6_182 : Cond.arrayClass .boolean ∈ uw := uw_in (tb_6 (List.mem_of_getElem? (i := 182) rfl)) rfl
theorem uw6_183 : Cond.methodLink RL 117 yX12_thrown ∈ uw := uw_in (tb_6 (List.mem_of_getElem? (i := 183) rfl)) rfl
theorem uw6_184 : Cond.instanceMethod yX12_thrown ∈ uw := uw_in (tb_6 (List.mem_of_getElem? (i := 184) rfl)) rfl
theorem uw6_185 : Cond.selects RX12 yX12_thrown yX12_thrown ∈ uw := uw_in (tb_6 (List.mem_of_getElem? (i := 185) rfl)) rfl
theorem uw6_186 : Cond.code yX12_thrown cX12_thrown 1 (some .int) ∈ uw := uw_in (tb_6 (List.mem_of_getElem? (i := 186) rfl)) rfl
theorem uw6_187 : Cond.methodLink RL 46 yX12_feed ∈ uw := uw_in (tb_6 (List.mem_of_getElem? (i := 187) rfl)) rfl
theorem uw6_188 : Cond.instanceMethod yX12_feed ∈ uw := uw_in (tb_6 (List.mem_of_getElem? (i := 188) rfl)) rfl
theorem uw6_189 : Cond.selects RX12 yX12_feed yX12_feed ∈ uw := uw_in (tb_6 (List.mem_of_getElem? (i := 189) rfl)) rfl
theorem uw6_190 : Cond.code yX12_feed cX12_feed 11 (some .int) ∈ uw := uw_in (tb_6 (List.mem_of_getElem? (i := 190) rfl)) rfl
theorem uw6_191 : Cond.constantLong RX12 164 (255) ∈ uw := uw_in (tb_6 (List.mem_of_getElem? (i := 191) rfl)) rfl
theorem uw6_192 : Cond.methodLink RL 51 yX12_station ∈ uw := uw_in (tb_6 (List.mem_of_getElem? (i := 192) rfl)) rfl
theorem uw6_193 : Cond.instanceMethod yX12_station ∈ uw := uw_in (tb_6 (List.mem_of_getElem? (i := 193) rfl)) rfl
theorem uw6_194 : Cond.selects RX12 yX12_station yX12_station ∈ uw := uw_in (tb_6 (List.mem_of_getElem? (i := 194) rfl)) rfl
theorem uw6_195 : Cond.code yX12_station cX12_station 2 (some .int) ∈ uw := uw_in (tb_6 (List.mem_of_getElem? (i := 195) rfl)) rfl
theorem uw6_196 : Cond.methodLink RX12 366 yX12_readsAll ∈ uw := uw_in (tb_6 (List.mem_of_getElem? (i := 196) rfl)) rfl
theorem uw6_198 : Cond.instanceMethod yX12_readsAll ∈ uw := uw_in (tb_6 (List.mem_of_getElem? (i := 198) rfl)) rfl
theorem uw6_199 : Cond.code yX12_readsAll cX12_readsAll 2 (some .boolean) ∈ uw := uw_in (tb_6 (List.mem_of_getElem? (i := 199) rfl)) rfl
theorem uw6_200 : Cond.methodLink RX12 344 yX12_begins0 ∈ uw := uw_in (tb_6 (List.mem_of_getElem? (i := 200) rfl)) rfl
theorem uw6_202 : Cond.instanceMethod yX12_begins0 ∈ uw := uw_in (tb_6 (List.mem_of_getElem? (i := 202) rfl)) rfl
theorem uw6_203 : Cond.code yX12_begins0 cX12_begins0 1 none ∈ uw := uw_in (tb_6 (List.mem_of_getElem? (i := 203) rfl)) rfl
theorem uw6_204 : Cond.methodLink RX12 237 yX12_nextToken ∈ uw := uw_in (tb_6 (List.mem_of_getElem? (i := 204) rfl)) rfl
theorem uw6_206 : Cond.instanceMethod yX12_nextToken ∈ uw := uw_in (tb_6 (List.mem_of_getElem? (i := 206) rfl)) rfl
theorem uw6_207 : Cond.code yX12_nextToken cX12_nextToken 2 none ∈ uw := uw_in (tb_6 (List.mem_of_getElem? (i := 207) rfl)) rfl
theorem uw6_208 : Cond.methodLink RX12 188 yX12_signAt ∈ uw := uw_in (tb_6 (List.mem_of_getElem? (i := 208) rfl)) rfl
theorem uw6_210 : Cond.instanceMethod yX12_signAt ∈ uw := uw_in (tb_6 (List.mem_of_getElem? (i := 210) rfl)) rfl
theorem uw6_211 : Cond.code yX12_signAt cX12_signAt 2 (some .int) ∈ uw := uw_in (tb_6 (List.mem_of_getElem? (i := 211) rfl)) rfl
theorem uw6_212 : Cond.constantLong RX12 192 (27) ∈ uw := uw_in (tb_6 (List.mem_of_getElem? (i := 212) rfl)) rfl
theorem uw6_213 : Cond.constantLong RX12 194 (96) ∈ uw := uw_in (tb_6 (List.mem_of_getElem? (i := 213) rfl)) rfl
theorem uw6_214 : Cond.constantLong RX12 253 (409352) ∈ uw := uw_in (tb_6 (List.mem_of_getElem? (i := 214) rfl)) rfl
theorem uw6_215 : Cond.methodLink RX12 223 yX12_isWord ∈ uw := uw_in (tb_6 (List.mem_of_getElem? (i := 215) rfl)) rfl
theorem uw6_217 : Cond.instanceMethod yX12_isWord ∈ uw := uw_in (tb_6 (List.mem_of_getElem? (i := 217) rfl)) rfl
theorem uw6_218 : Cond.code yX12_isWord cX12_isWord 3 (some .boolean) ∈ uw := uw_in (tb_6 (List.mem_of_getElem? (i := 218) rfl)) rfl
theorem uw6_219 : Cond.methodLink RX12 347 yX12_readsTune ∈ uw := uw_in (tb_6 (List.mem_of_getElem? (i := 219) rfl)) rfl
theorem uw6_221 : Cond.instanceMethod yX12_readsTune ∈ uw := uw_in (tb_6 (List.mem_of_getElem? (i := 221) rfl)) rfl
theorem uw6_222 : Cond.code yX12_readsTune cX12_readsTune 2 (some .boolean) ∈ uw := uw_in (tb_6 (List.mem_of_getElem? (i := 222) rfl)) rfl
theorem uw6_223 : Cond.methodLink RX12 231 yX12_fails ∈ uw := uw_in (tb_6 (List.mem_of_getElem? (i := 223) rfl)) rfl
theorem uw6_225 : Cond.instanceMethod yX12_fails ∈ uw := uw_in (tb_6 (List.mem_of_getElem? (i := 225) rfl)) rfl
theorem uw6_226 : Cond.code yX12_fails cX12_fails 2 (some .boolean) ∈ uw := uw_in (tb_6 (List.mem_of_getElem? (i := 226) rfl)) rfl
theorem uw6_227 : Cond.methodLink RX12 319 yX12_needsNew ∈ uw := uw_in (tb_6 (List.mem_of_getElem? (i := 227) rfl)) rfl
theorem uw6_229 : Cond.instanceMethod yX12_needsNew ∈ uw := uw_in (tb_6 (List.mem_of_getElem? (i := 229) rfl)) rfl
theorem uw6_230 : Cond.code yX12_needsNew cX12_needsNew 1 (some .boolean) ∈ uw := uw_in (tb_6 (List.mem_of_getElem? (i := 230) rfl)) rfl
theorem uw6_231 : Cond.methodLink RX12 307 yX12_isKept ∈ uw := uw_in (tb_6 (List.mem_of_getElem? (i := 231) rfl)) rfl
theorem uw6_233 : Cond.instanceMethod yX12_isKept ∈ uw := uw_in (tb_6 (List.mem_of_getElem? (i := 233) rfl)) rfl
theorem uw6_234 : Cond.code yX12_isKept cX12_isKept 1 (some .boolean) ∈ uw := uw_in (tb_6 (List.mem_of_getElem? (i := 234) rfl)) rfl
theorem uw6_235 : Cond.constantLong RX12 255 (230501934) ∈ uw := uw_in (tb_6 (List.mem_of_getElem? (i := 235) rfl)) rfl
theorem uw6_236 : Cond.constantLong RX12 257 (8740675) ∈ uw := uw_in (tb_6 (List.mem_of_getElem? (i := 236) rfl)) rfl
theorem uw6_237 : Cond.constantLong RX12 259 (10320789) ∈ uw := uw_in (tb_6 (List.mem_of_getElem? (i := 237) rfl)) rfl
theorem uw6_238 : Cond.constantLong RX12 261 (14092) ∈ uw := uw_in (tb_6 (List.mem_of_getElem? (i := 238) rfl)) rfl
theorem uw6_239 : Cond.constantLong RX12 263 (10492462) ∈ uw := uw_in (tb_6 (List.mem_of_getElem? (i := 239) rfl)) rfl
theorem uw7_0 : Cond.constantLong RX12 265 (1899199) ∈ uw := uw_in (tb_7 (List.mem_of_getElem? (i := 0) rfl)) rfl
theorem uw7_1 : Cond.constantLong RX12 267 (12249946) ∈ uw := uw_in (tb_7 (List.mem_of_getElem? (i := 1) rfl)) rfl
theorem uw7_2 : Cond.constantLong RX12 269 (99233) ∈ uw := uw_in (tb_7 (List.mem_of_getElem? (i := 2) rfl)) rfl
theorem uw7_3 : Cond.constantLong RX12 271 (307058) ∈ uw := uw_in (tb_7 (List.mem_of_getElem? (i := 3) rfl)) rfl
theorem uw7_4 : Cond.constantLong RX12 273 (555) ∈ uw := uw_in (tb_7 (List.mem_of_getElem? (i := 4) rfl)) rfl
theorem uw7_5 : Cond.constantLong RX12 275 (8863997) ∈ uw := uw_in (tb_7 (List.mem_of_getElem? (i := 5) rfl)) rfl
theorem uw7_6 : Cond.constantLong RX12 277 (208459) ∈ uw := uw_in (tb_7 (List.mem_of_getElem? (i := 6) rfl)) rfl
theorem uw7_7 : Cond.constantLong RX12 279 (12322792) ∈ uw := uw_in (tb_7 (List.mem_of_getElem? (i := 7) rfl)) rfl
theorem uw7_8 : Cond.constantLong RX12 281 (2968) ∈ uw := uw_in (tb_7 (List.mem_of_getElem? (i := 8) rfl)) rfl
theorem uw7_9 : Cond.constantLong RX12 283 (259906) ∈ uw := uw_in (tb_7 (List.mem_of_getElem? (i := 9) rfl)) rfl
theorem uw7_10 : Cond.constantLong RX12 285 (8740238) ∈ uw := uw_in (tb_7 (List.mem_of_getElem? (i := 10) rfl)) rfl
theorem uw7_11 : Cond.constantLong RX12 287 (91157229) ∈ uw := uw_in (tb_7 (List.mem_of_getElem? (i := 11) rfl)) rfl
theorem uw7_12 : Cond.constantLong RX12 289 (2495756) ∈ uw := uw_in (tb_7 (List.mem_of_getElem? (i := 12) rfl)) rfl
theorem uw7_13 : Cond.constantLong RX12 291 (72640629) ∈ uw := uw_in (tb_7 (List.mem_of_getElem? (i := 13) rfl)) rfl
theorem uw7_14 : Cond.constantLong RX12 221 (10631) ∈ uw := uw_in (tb_7 (List.mem_of_getElem? (i := 14) rfl)) rfl
theorem uw7_15 : Cond.constantLong RX12 240 (1111) ∈ uw := uw_in (tb_7 (List.mem_of_getElem? (i := 15) rfl)) rfl
theorem uw7_16 : Cond.constantLong RX12 242 (423) ∈ uw := uw_in (tb_7 (List.mem_of_getElem? (i := 16) rfl)) rfl
theorem uw7_17 : Cond.methodLink RX12 311 yX12_tuneNamed ∈ uw := uw_in (tb_7 (List.mem_of_getElem? (i := 17) rfl)) rfl
theorem uw7_19 : Cond.instanceMethod yX12_tuneNamed ∈ uw := uw_in (tb_7 (List.mem_of_getElem? (i := 19) rfl)) rfl
theorem uw7_20 : Cond.code yX12_tuneNamed cX12_tuneNamed 2 (some .int) ∈ uw := uw_in (tb_7 (List.mem_of_getElem? (i := 20) rfl)) rfl
theorem uw7_21 : Cond.methodLink RX12 314 yX12_passerNamed ∈ uw := uw_in (tb_7 (List.mem_of_getElem? (i := 21) rfl)) rfl
theorem uw7_23 : Cond.instanceMethod yX12_passerNamed ∈ uw := uw_in (tb_7 (List.mem_of_getElem? (i := 23) rfl)) rfl
theorem uw7_24 : Cond.code yX12_passerNamed cX12_passerNamed 2 (some .int) ∈ uw := uw_in (tb_7 (List.mem_of_getElem? (i := 24) rfl)) rfl
theorem uw7_25 : Cond.methodLink RX12 227 yX12_isSign ∈ uw := uw_in (tb_7 (List.mem_of_getElem? (i := 25) rfl)) rfl
theorem uw7_27 : Cond.instanceMethod yX12_isSign ∈ uw := uw_in (tb_7 (List.mem_of_getElem? (i := 27) rfl)) rfl
theorem uw7_28 : Cond.code yX12_isSign cX12_isSign 2 (some .boolean) ∈ uw := uw_in (tb_7 (List.mem_of_getElem? (i := 28) rfl)) rfl
theorem uw7_29 : Cond.methodLink RX12 322 yX12_closes ∈ uw := uw_in (tb_7 (List.mem_of_getElem? (i := 29) rfl)) rfl
theorem uw7_31 : Cond.instanceMethod yX12_closes ∈ uw := uw_in (tb_7 (List.mem_of_getElem? (i := 31) rfl)) rfl
theorem uw7_32 : Cond.code yX12_closes cX12_closes 1 (some .boolean) ∈ uw := uw_in (tb_7 (List.mem_of_getElem? (i := 32) rfl)) rfl
theorem uw7_33 : Cond.methodLink RX12 350 yX12_readsPasser ∈ uw := uw_in (tb_7 (List.mem_of_getElem? (i := 33) rfl)) rfl
theorem uw7_35 : Cond.instanceMethod yX12_readsPasser ∈ uw := uw_in (tb_7 (List.mem_of_getElem? (i := 35) rfl)) rfl
theorem uw7_36 : Cond.code yX12_readsPasser cX12_readsPasser 4 (some .boolean) ∈ uw := uw_in (tb_7 (List.mem_of_getElem? (i := 36) rfl)) rfl
theorem uw7_37 : Cond.methodLink RX12 300 yX12_needsWord ∈ uw := uw_in (tb_7 (List.mem_of_getElem? (i := 37) rfl)) rfl
theorem uw7_39 : Cond.instanceMethod yX12_needsWord ∈ uw := uw_in (tb_7 (List.mem_of_getElem? (i := 39) rfl)) rfl
theorem uw7_40 : Cond.code yX12_needsWord cX12_needsWord 3 (some .boolean) ∈ uw := uw_in (tb_7 (List.mem_of_getElem? (i := 40) rfl)) rfl
theorem uw7_41 : Cond.methodLink RX12 325 yX12_needsBoth ∈ uw := uw_in (tb_7 (List.mem_of_getElem? (i := 41) rfl)) rfl
theorem uw7_43 : Cond.instanceMethod yX12_needsBoth ∈ uw := uw_in (tb_7 (List.mem_of_getElem? (i := 43) rfl)) rfl
theorem uw7_44 : Cond.code yX12_needsBoth cX12_needsBoth 5 (some .boolean) ∈ uw := uw_in (tb_7 (List.mem_of_getElem? (i := 44) rfl)) rfl
theorem uw7_45 : Cond.methodLink RX12 303 yX12_needsNumber ∈ uw := uw_in (tb_7 (List.mem_of_getElem? (i := 45) rfl)) rfl
theorem uw7_47 : Cond.instanceMethod yX12_needsNumber ∈ uw := uw_in (tb_7 (List.mem_of_getElem? (i := 47) rfl)) rfl
theorem uw7_48 : Cond.code yX12_needsNumber cX12_needsNumber 3 (some .boolean) ∈ uw := uw_in (tb_7 (List.mem_of_getElem? (i := 48) rfl)) rfl
theorem uw7_49 : Cond.methodLink RX12 293 yX12_within ∈ uw := uw_in (tb_7 (List.mem_of_getElem? (i := 49) rfl)) rfl
theorem uw7_50 : Cond.static yX12_within ∈ uw := uw_in (tb_7 (List.mem_of_getElem? (i := 50) rfl)) rfl
theorem uw7_51 : Cond.code yX12_within cX12_within 3 (some .boolean) ∈ uw := uw_in (tb_7 (List.mem_of_getElem? (i := 51) rfl)) rfl
theorem uw7_52 : Cond.methodLink RX12 353 yX12_readsOne ∈ uw := uw_in (tb_7 (List.mem_of_getElem? (i := 52) rfl)) rfl
theorem uw7_54 : Cond.instanceMethod yX12_readsOne ∈ uw := uw_in (tb_7 (List.mem_of_getElem? (i := 54) rfl)) rfl
theorem uw7_55 : Cond.code yX12_readsOne cX12_readsOne 4 (some .boolean) ∈ uw := uw_in (tb_7 (List.mem_of_getElem? (i := 55) rfl)) rfl
theorem uw7_56 : Cond.methodLink RX12 332 yX12_isTwice ∈ uw := uw_in (tb_7 (List.mem_of_getElem? (i := 56) rfl)) rfl
theorem uw7_58 : Cond.instanceMethod yX12_isTwice ∈ uw := uw_in (tb_7 (List.mem_of_getElem? (i := 58) rfl)) rfl
theorem uw7_59 : Cond.code yX12_isTwice cX12_isTwice 2 (some .boolean) ∈ uw := uw_in (tb_7 (List.mem_of_getElem? (i := 59) rfl)) rfl
theorem uw7_60 : Cond.methodLink RX12 356 yX12_readsOpen ∈ uw := uw_in (tb_7 (List.mem_of_getElem? (i := 60) rfl)) rfl
theorem uw7_62 : Cond.instanceMethod yX12_readsOpen ∈ uw := uw_in (tb_7 (List.mem_of_getElem? (i := 62) rfl)) rfl
theorem uw7_63 : Cond.code yX12_readsOpen cX12_readsOpen 1 (some .boolean) ∈ uw := uw_in (tb_7 (List.mem_of_getElem? (i := 63) rfl)) rfl
theorem uw7_64 : Cond.methodLink RX12 338 yX12_needsSpan ∈ uw := uw_in (tb_7 (List.mem_of_getElem? (i := 64) rfl)) rfl
theorem uw7_66 : Cond.instanceMethod yX12_needsSpan ∈ uw := uw_in (tb_7 (List.mem_of_getElem? (i := 66) rfl)) rfl
theorem uw7_67 : Cond.code yX12_needsSpan cX12_needsSpan 1 (some .boolean) ∈ uw := uw_in (tb_7 (List.mem_of_getElem? (i := 67) rfl)) rfl
theorem uw7_68 : Cond.methodLink RX12 359 yX12_readsLaw ∈ uw := uw_in (tb_7 (List.mem_of_getElem? (i := 68) rfl)) rfl
theorem uw7_70 : Cond.instanceMethod yX12_readsLaw ∈ uw := uw_in (tb_7 (List.mem_of_getElem? (i := 70) rfl)) rfl
theorem uw7_71 : Cond.code yX12_readsLaw cX12_readsLaw 2 (some .boolean) ∈ uw := uw_in (tb_7 (List.mem_of_getElem? (i := 71) rfl)) rfl
theorem uw7_72 : Cond.methodLink RX12 341 yX12_reads ∈ uw := uw_in (tb_7 (List.mem_of_getElem? (i := 72) rfl)) rfl
theorem uw7_74 : Cond.instanceMethod yX12_reads ∈ uw := uw_in (tb_7 (List.mem_of_getElem? (i := 74) rfl)) rfl
theorem uw7_75 : Cond.code yX12_reads cX12_reads 6 (some .boolean) ∈ uw := uw_in (tb_7 (List.mem_of_getElem? (i := 75) rfl)) rfl
theorem uw7_76 : Cond.methodLink RX12 217 yX12_fact ∈ uw := uw_in (tb_7 (List.mem_of_getElem? (i := 76) rfl)) rfl
theorem uw7_78 : Cond.instanceMethod yX12_fact ∈ uw := uw_in (tb_7 (List.mem_of_getElem? (i := 78) rfl)) rfl
theorem uw7_79 : Cond.code yX12_fact cX12_fact 1 (some .int) ∈ uw := uw_in (tb_7 (List.mem_of_getElem? (i := 79) rfl)) rfl
theorem uw7_80 : Cond.constantLong RX12 202 (21470) ∈ uw := uw_in (tb_7 (List.mem_of_getElem? (i := 80) rfl)) rfl
theorem uw7_81 : Cond.constantLong RX12 207 (464144) ∈ uw := uw_in (tb_7 (List.mem_of_getElem? (i := 81) rfl)) rfl
theorem uw7_82 : Cond.constantLong RX12 209 (226024039) ∈ uw := uw_in (tb_7 (List.mem_of_getElem? (i := 82) rfl)) rfl
theorem uw7_83 : Cond.constantLong RX12 211 (375062) ∈ uw := uw_in (tb_7 (List.mem_of_getElem? (i := 83) rfl)) rfl
theorem uw7_84 : Cond.constantLong RX12 213 (427333) ∈ uw := uw_in (tb_7 (List.mem_of_getElem? (i := 84) rfl)) rfl
theorem uw7_85 : Cond.constantLong RX12 215 (247516) ∈ uw := uw_in (tb_7 (List.mem_of_getElem? (i := 85) rfl)) rfl
theorem uw7_86 : Cond.methodLink RX12 234 yX12_puts ∈ uw := uw_in (tb_7 (List.mem_of_getElem? (i := 86) rfl)) rfl
theorem uw7_88 : Cond.instanceMethod yX12_puts ∈ uw := uw_in (tb_7 (List.mem_of_getElem? (i := 88) rfl)) rfl
theorem uw7_89 : Cond.code yX12_puts cX12_puts 2 none ∈ uw := uw_in (tb_7 (List.mem_of_getElem? (i := 89) rfl)) rfl
theorem uw7_90 : Cond.methodLink RX12 369 yX12_lays ∈ uw := uw_in (tb_7 (List.mem_of_getElem? (i := 90) rfl)) rfl
theorem uw7_92 : Cond.instanceMethod yX12_lays ∈ uw := uw_in (tb_7 (List.mem_of_getElem? (i := 92) rfl)) rfl
theorem uw7_93 : Cond.code yX12_lays cX12_lays 2 none ∈ uw := uw_in (tb_7 (List.mem_of_getElem? (i := 93) rfl)) rfl
theorem uw7_94 : Cond.methodLink RX12 362 yX12_shifts ∈ uw := uw_in (tb_7 (List.mem_of_getElem? (i := 94) rfl)) rfl
theorem uw7_95 : Cond.static yX12_shifts ∈ uw := uw_in (tb_7 (List.mem_of_getElem? (i := 95) rfl)) rfl
theorem uw7_96 : Cond.code yX12_shifts cX12_shifts 3 none ∈ uw := uw_in (tb_7 (List.mem_of_getElem? (i := 96) rfl)) rfl
theorem uw7_97 : Cond.methodLink RL 55 yX12_week ∈ uw := uw_in (tb_7 (List.mem_of_getElem? (i := 97) rfl)) rfl
theorem uw7_98 : Cond.instanceMethod yX12_week ∈ uw := uw_in (tb_7 (List.mem_of_getElem? (i := 98) rfl)) rfl
theorem uw7_99 : Cond.selects RX12 yX12_week yX12_week ∈ uw := uw_in (tb_7 (List.mem_of_getElem? (i := 99) rfl)) rfl
theorem uw7_100 : Cond.code yX12_week cX12_week 1 (some .int) ∈ uw := uw_in (tb_7 (List.mem_of_getElem? (i := 100) rfl)) rfl
theorem uw7_101 : Cond.methodLink RX12 375 yX12_readsLine ∈ uw := uw_in (tb_7 (List.mem_of_getElem? (i := 101) rfl)) rfl
theorem uw7_103 : Cond.instanceMethod yX12_readsLine ∈ uw := uw_in (tb_7 (List.mem_of_getElem? (i := 103) rfl)) rfl
theorem uw7_104 : Cond.code yX12_readsLine cX12_readsLine 3 (some .boolean) ∈ uw := uw_in (tb_7 (List.mem_of_getElem? (i := 104) rfl)) rfl
theorem uw7_105 : Cond.methodLink RX12 378 yX12_laysLines ∈ uw := uw_in (tb_7 (List.mem_of_getElem? (i := 105) rfl)) rfl
theorem uw7_107 : Cond.instanceMethod yX12_laysLines ∈ uw := uw_in (tb_7 (List.mem_of_getElem? (i := 107) rfl)) rfl
theorem uw7_108 : Cond.code yX12_laysLines cX12_laysLines 4 none ∈ uw := uw_in (tb_7 (List.mem_of_getElem? (i := 108) rfl)) rfl
theorem uw7_109 : Cond.methodLink RL 59 yX12_passer ∈ uw := uw_in (tb_7 (List.mem_of_getElem? (i := 109) rfl)) rfl
theorem uw7_110 : Cond.instanceMethod yX12_passer ∈ uw := uw_in (tb_7 (List.mem_of_getElem? (i := 110) rfl)) rfl
theorem uw7_111 : Cond.selects RX12 yX12_passer yX12_passer ∈ uw := uw_in (tb_7 (List.mem_of_getElem? (i := 111) rfl)) rfl
theorem uw7_112 : Cond.code yX12_passer cX12_passer 3 (some .int) ∈ uw := uw_in (tb_7 (List.mem_of_getElem? (i := 112) rfl)) rfl
theorem uw7_113 : Cond.methodLink RX12 456 yX12_isPasser ∈ uw := uw_in (tb_7 (List.mem_of_getElem? (i := 113) rfl)) rfl
theorem uw7_115 : Cond.instanceMethod yX12_isPasser ∈ uw := uw_in (tb_7 (List.mem_of_getElem? (i := 115) rfl)) rfl
theorem uw7_116 : Cond.code yX12_isPasser cX12_isPasser 2 (some .boolean) ∈ uw := uw_in (tb_7 (List.mem_of_getElem? (i := 116) rfl)) rfl
theorem uw7_117 : Cond.methodLink RX12 397 yX12_minutesOf ∈ uw := uw_in (tb_7 (List.mem_of_getElem? (i := 117) rfl)) rfl
theorem uw7_119 : Cond.instanceMethod yX12_minutesOf ∈ uw := uw_in (tb_7 (List.mem_of_getElem? (i := 119) rfl)) rfl
theorem uw7_120 : Cond.code yX12_minutesOf cX12_minutesOf 2 (some .int) ∈ uw := uw_in (tb_7 (List.mem_of_getElem? (i := 120) rfl)) rfl
theorem uw7_121 : Cond.methodLink RX12 382 Lib.Math.min.name ∈ uw := uw_in (tb_7 (List.mem_of_getElem? (i := 121) rfl)) rfl
theorem uw7_122 : Cond.methodLink RL 63 yX12_tune ∈ uw := uw_in (tb_7 (List.mem_of_getElem? (i := 122) rfl)) rfl
theorem uw7_123 : Cond.instanceMethod yX12_tune ∈ uw := uw_in (tb_7 (List.mem_of_getElem? (i := 123) rfl)) rfl
theorem uw7_124 : Cond.selects RX12 yX12_tune yX12_tune ∈ uw := uw_in (tb_7 (List.mem_of_getElem? (i := 124) rfl)) rfl
theorem uw7_125 : Cond.code yX12_tune cX12_tune 3 (some .int) ∈ uw := uw_in (tb_7 (List.mem_of_getElem? (i := 125) rfl)) rfl
theorem uw7_126 : Cond.methodLink RL 67 yX12_key ∈ uw := uw_in (tb_7 (List.mem_of_getElem? (i := 126) rfl)) rfl
theorem uw7_127 : Cond.instanceMethod yX12_key ∈ uw := uw_in (tb_7 (List.mem_of_getElem? (i := 127) rfl)) rfl
theorem uw7_128 : Cond.selects RX12 yX12_key yX12_key ∈ uw := uw_in (tb_7 (List.mem_of_getElem? (i := 128) rfl)) rfl
theorem uw7_129 : Cond.code yX12_key cX12_key 2 (some .int) ∈ uw := uw_in (tb_7 (List.mem_of_getElem? (i := 129) rfl)) rfl
theorem uw7_130 : Cond.methodLink RX12 459 yX12_isKey ∈ uw := uw_in (tb_7 (List.mem_of_getElem? (i := 130) rfl)) rfl
theorem uw7_132 : Cond.instanceMethod yX12_isKey ∈ uw := uw_in (tb_7 (List.mem_of_getElem? (i := 132) rfl)) rfl
theorem uw7_133 : Cond.code yX12_isKey cX12_isKey 2 (some .boolean) ∈ uw := uw_in (tb_7 (List.mem_of_getElem? (i := 133) rfl)) rfl
theorem uw7_134 : Cond.methodLink RL 71 yX12_begins ∈ uw := uw_in (tb_7 (List.mem_of_getElem? (i := 134) rfl)) rfl
theorem uw7_135 : Cond.instanceMethod yX12_begins ∈ uw := uw_in (tb_7 (List.mem_of_getElem? (i := 135) rfl)) rfl
theorem uw7_136 : Cond.selects RX12 yX12_begins yX12_begins ∈ uw := uw_in (tb_7 (List.mem_of_getElem? (i := 136) rfl)) rfl
theorem uw7_137 : Cond.code yX12_begins cX12_begins 2 (some .int) ∈ uw := uw_in (tb_7 (List.mem_of_getElem? (i := 137) rfl)) rfl
theorem uw7_138 : Cond.methodLink RX12 453 yX12_tries ∈ uw := uw_in (tb_7 (List.mem_of_getElem? (i := 138) rfl)) rfl
theorem uw7_140 : Cond.instanceMethod yX12_tries ∈ uw := uw_in (tb_7 (List.mem_of_getElem? (i := 140) rfl)) rfl
theorem uw7_141 : Cond.code yX12_tries cX12_tries 2 (some .int) ∈ uw := uw_in (tb_7 (List.mem_of_getElem? (i := 141) rfl)) rfl
theorem uw7_142 : Cond.methodLink RX12 446 yX12_copies ∈ uw := uw_in (tb_7 (List.mem_of_getElem? (i := 142) rfl)) rfl
theorem uw7_143 : Cond.static yX12_copies ∈ uw := uw_in (tb_7 (List.mem_of_getElem? (i := 143) rfl)) rfl
theorem uw7_144 : Cond.code yX12_copies cX12_copies 5 none ∈ uw := uw_in (tb_7 (List.mem_of_getElem? (i := 144) rfl)) rfl
theorem uw7_145 : Cond.methodLink RX12 450 yX12_passes ∈ uw := uw_in (tb_7 (List.mem_of_getElem? (i := 145) rfl)) rfl
theorem uw7_147 : Cond.instanceMethod yX12_passes ∈ uw := uw_in (tb_7 (List.mem_of_getElem? (i := 147) rfl)) rfl
theorem uw7_148 : Cond.code yX12_passes cX12_passes 2 (some .int) ∈ uw := uw_in (tb_7 (List.mem_of_getElem? (i := 148) rfl)) rfl
theorem uw7_149 : Cond.methodLink RX12 443 yX12_passesDay ∈ uw := uw_in (tb_7 (List.mem_of_getElem? (i := 149) rfl)) rfl
theorem uw7_151 : Cond.instanceMethod yX12_passesDay ∈ uw := uw_in (tb_7 (List.mem_of_getElem? (i := 151) rfl)) rfl
theorem uw7_152 : Cond.code yX12_passesDay cX12_passesDay 3 (some .int) ∈ uw := uw_in (tb_7 (List.mem_of_getElem? (i := 152) rfl)) rfl
theorem uw7_153 : Cond.methodLink RX12 440 yX12_passesMinute ∈ uw := uw_in (tb_7 (List.mem_of_getElem? (i := 153) rfl)) rfl
theorem uw7_155 : Cond.instanceMethod yX12_passesMinute ∈ uw := uw_in (tb_7 (List.mem_of_getElem? (i := 155) rfl)) rfl
theorem uw7_156 : Cond.code yX12_passesMinute cX12_passesMinute 5 (some .int) ∈ uw := uw_in (tb_7 (List.mem_of_getElem? (i := 156) rfl)) rfl
theorem uw7_157 : Cond.methodLink RX12 425 yX12_isOpenAt ∈ uw := uw_in (tb_7 (List.mem_of_getElem? (i := 157) rfl)) rfl
theorem uw7_159 : Cond.instanceMethod yX12_isOpenAt ∈ uw := uw_in (tb_7 (List.mem_of_getElem? (i := 159) rfl)) rfl
theorem uw7_160 : Cond.code yX12_isOpenAt cX12_isOpenAt 2 (some .boolean) ∈ uw := uw_in (tb_7 (List.mem_of_getElem? (i := 160) rfl)) rfl
theorem uw7_161 : Cond.methodLink RX12 428 yX12_firstDaring ∈ uw := uw_in (tb_7 (List.mem_of_getElem? (i := 161) rfl)) rfl
theorem uw7_163 : Cond.instanceMethod yX12_firstDaring ∈ uw := uw_in (tb_7 (List.mem_of_getElem? (i := 163) rfl)) rfl
theorem uw7_164 : Cond.code yX12_firstDaring cX12_firstDaring 4 (some .int) ∈ uw := uw_in (tb_7 (List.mem_of_getElem? (i := 164) rfl)) rfl
theorem uw7_165 : Cond.methodLink RX12 407 yX12_standing ∈ uw := uw_in (tb_7 (List.mem_of_getElem? (i := 165) rfl)) rfl
theorem uw7_167 : Cond.instanceMethod yX12_standing ∈ uw := uw_in (tb_7 (List.mem_of_getElem? (i := 167) rfl)) rfl
theorem uw7_168 : Cond.code yX12_standing cX12_standing 3 (some .int) ∈ uw := uw_in (tb_7 (List.mem_of_getElem? (i := 168) rfl)) rfl
theorem uw7_169 : Cond.methodLink RX12 410 yX12_wouldDare ∈ uw := uw_in (tb_7 (List.mem_of_getElem? (i := 169) rfl)) rfl
theorem uw7_171 : Cond.instanceMethod yX12_wouldDare ∈ uw := uw_in (tb_7 (List.mem_of_getElem? (i := 171) rfl)) rfl
theorem uw7_172 : Cond.code yX12_wouldDare cX12_wouldDare 3 (some .boolean) ∈ uw := uw_in (tb_7 (List.mem_of_getElem? (i := 172) rfl)) rfl
theorem uw7_173 : Cond.methodLink RX12 431 yX12_beginsAt ∈ uw := uw_in (tb_7 (List.mem_of_getElem? (i := 173) rfl)) rfl
theorem uw7_175 : Cond.instanceMethod yX12_beginsAt ∈ uw := uw_in (tb_7 (List.mem_of_getElem? (i := 175) rfl)) rfl
theorem uw7_176 : Cond.code yX12_beginsAt cX12_beginsAt 4 none ∈ uw := uw_in (tb_7 (List.mem_of_getElem? (i := 176) rfl)) rfl
theorem uw7_177 : Cond.methodLink RX12 391 yX12_allStrikes ∈ uw := uw_in (tb_7 (List.mem_of_getElem? (i := 177) rfl)) rfl
theorem uw7_179 : Cond.instanceMethod yX12_allStrikes ∈ uw := uw_in (tb_7 (List.mem_of_getElem? (i := 179) rfl)) rfl
theorem uw7_180 : Cond.code yX12_allStrikes cX12_allStrikes 2 (some .int) ∈ uw := uw_in (tb_7 (List.mem_of_getElem? (i := 180) rfl)) rfl
theorem uw7_181 : Cond.methodLink RX12 388 yX12_rowOf ∈ uw := uw_in (tb_7 (List.mem_of_getElem? (i := 181) rfl)) rfl
theorem uw7_183 : Cond.instanceMethod yX12_rowOf ∈ uw := uw_in (tb_7 (List.mem_of_getElem? (i := 183) rfl)) rfl
theorem uw7_184 : Cond.code yX12_rowOf cX12_rowOf 3 (some .int) ∈ uw := uw_in (tb_7 (List.mem_of_getElem? (i := 184) rfl)) rfl
theorem uw7_185 : Cond.methodLink RX12 394 yX12_keyAt ∈ uw := uw_in (tb_7 (List.mem_of_getElem? (i := 185) rfl)) rfl
theorem uw7_187 : Cond.instanceMethod yX12_keyAt ∈ uw := uw_in (tb_7 (List.mem_of_getElem? (i := 187) rfl)) rfl
theorem uw7_188 : Cond.code yX12_keyAt cX12_keyAt 3 (some .int) ∈ uw := uw_in (tb_7 (List.mem_of_getElem? (i := 188) rfl)) rfl
theorem uw7_189 : Cond.methodLink RX12 413 yX12_wornBy ∈ uw := uw_in (tb_7 (List.mem_of_getElem? (i := 189) rfl)) rfl
theorem uw7_191 : Cond.instanceMethod yX12_wornBy ∈ uw := uw_in (tb_7 (List.mem_of_getElem? (i := 191) rfl)) rfl
theorem uw7_192 : Cond.code yX12_wornBy cX12_wornBy 4 (some .int) ∈ uw := uw_in (tb_7 (List.mem_of_getElem? (i := 192) rfl)) rfl
theorem uw7_193 : Cond.methodLink RX12 400 yX12_worked ∈ uw := uw_in (tb_7 (List.mem_of_getElem? (i := 193) rfl)) rfl
theorem uw7_195 : Cond.instanceMethod yX12_worked ∈ uw := uw_in (tb_7 (List.mem_of_getElem? (i := 195) rfl)) rfl
theorem uw7_196 : Cond.code yX12_worked cX12_worked 6 (some .int) ∈ uw := uw_in (tb_7 (List.mem_of_getElem? (i := 196) rfl)) rfl
theorem uw7_197 : Cond.methodLink RX12 247 yX12_opens ∈ uw := uw_in (tb_7 (List.mem_of_getElem? (i := 197) rfl)) rfl
theorem uw7_199 : Cond.instanceMethod yX12_opens ∈ uw := uw_in (tb_7 (List.mem_of_getElem? (i := 199) rfl)) rfl
theorem uw7_200 : Cond.code yX12_opens cX12_opens 2 none ∈ uw := uw_in (tb_7 (List.mem_of_getElem? (i := 200) rfl)) rfl
theorem uw7_201 : Cond.methodLink RX12 244 yX12_sums ∈ uw := uw_in (tb_7 (List.mem_of_getElem? (i := 201) rfl)) rfl
theorem uw7_203 : Cond.instanceMethod yX12_sums ∈ uw := uw_in (tb_7 (List.mem_of_getElem? (i := 203) rfl)) rfl
theorem uw7_204 : Cond.code yX12_sums cX12_sums 2 none ∈ uw := uw_in (tb_7 (List.mem_of_getElem? (i := 204) rfl)) rfl
theorem uw7_205 : Cond.methodLink RX12 250 yX12_tests ∈ uw := uw_in (tb_7 (List.mem_of_getElem? (i := 205) rfl)) rfl
theorem uw7_207 : Cond.instanceMethod yX12_tests ∈ uw := uw_in (tb_7 (List.mem_of_getElem? (i := 207) rfl)) rfl
theorem uw7_208 : Cond.code yX12_tests cX12_tests 3 none ∈ uw := uw_in (tb_7 (List.mem_of_getElem? (i := 208) rfl)) rfl
theorem uw7_209 : Cond.methodLink RX12 403 yX12_between ∈ uw := uw_in (tb_7 (List.mem_of_getElem? (i := 209) rfl)) rfl
theorem uw7_210 : Cond.static yX12_between ∈ uw := uw_in (tb_7 (List.mem_of_getElem? (i := 210) rfl)) rfl
theorem uw7_211 : Cond.code yX12_between cX12_between 3 (some .int) ∈ uw := uw_in (tb_7 (List.mem_of_getElem? (i := 211) rfl)) rfl
theorem uw7_212 : Cond.methodLink RX12 437 yX12_joyOf ∈ uw := uw_in (tb_7 (List.mem_of_getElem? (i := 212) rfl)) rfl
theorem uw7_214 : Cond.instanceMethod yX12_joyOf ∈ uw := uw_in (tb_7 (List.mem_of_getElem? (i := 214) rfl)) rfl
theorem uw7_215 : Cond.code yX12_joyOf cX12_joyOf 4 (some .int) ∈ uw := uw_in (tb_7 (List.mem_of_getElem? (i := 215) rfl)) rfl
theorem uw7_216 : Cond.methodLink RX12 419 yX12_wornFor ∈ uw := uw_in (tb_7 (List.mem_of_getElem? (i := 216) rfl)) rfl
theorem uw7_218 : Cond.instanceMethod yX12_wornFor ∈ uw := uw_in (tb_7 (List.mem_of_getElem? (i := 218) rfl)) rfl
theorem uw7_219 : Cond.code yX12_wornFor cX12_wornFor 4 (some .int) ∈ uw := uw_in (tb_7 (List.mem_of_getElem? (i := 219) rfl)) rfl
theorem uw7_220 : Cond.methodLink RL 75 yX12_ends ∈ uw := uw_in (tb_7 (List.mem_of_getElem? (i := 220) rfl)) rfl
theorem uw7_221 : Cond.instanceMethod yX12_ends ∈ uw := uw_in (tb_7 (List.mem_of_getElem? (i := 221) rfl)) rfl
theorem uw7_222 : Cond.selects RX12 yX12_ends yX12_ends ∈ uw := uw_in (tb_7 (List.mem_of_getElem? (i := 222) rfl)) rfl
theorem uw7_223 : Cond.code yX12_ends cX12_ends 2 (some .int) ∈ uw := uw_in (tb_7 (List.mem_of_getElem? (i := 223) rfl)) rfl
theorem uw7_224 : Cond.methodLink RL 79 yX12_now ∈ uw := uw_in (tb_7 (List.mem_of_getElem? (i := 224) rfl)) rfl
theorem uw7_225 : Cond.instanceMethod yX12_now ∈ uw := uw_in (tb_7 (List.mem_of_getElem? (i := 225) rfl)) rfl
theorem uw7_226 : Cond.selects RX12 yX12_now yX12_now ∈ uw := uw_in (tb_7 (List.mem_of_getElem? (i := 226) rfl)) rfl
theorem uw7_227 : Cond.code yX12_now cX12_now 2 (some .int) ∈ uw := uw_in (tb_7 (List.mem_of_getElem? (i := 227) rfl)) rfl
theorem uw7_228 : Cond.methodLink RL 83 yX12_away ∈ uw := uw_in (tb_7 (List.mem_of_getElem? (i := 228) rfl)) rfl
theorem uw7_229 : Cond.instanceMethod yX12_away ∈ uw := uw_in (tb_7 (List.mem_of_getElem? (i := 229) rfl)) rfl
theorem uw7_230 : Cond.selects RX12 yX12_away yX12_away ∈ uw := uw_in (tb_7 (List.mem_of_getElem? (i := 230) rfl)) rfl
theorem uw7_231 : Cond.code yX12_away cX12_away 3 (some .int) ∈ uw := uw_in (tb_7 (List.mem_of_getElem? (i := 231) rfl)) rfl
theorem uw7_232 : Cond.methodLink RL 87 yX12_joy ∈ uw := uw_in (tb_7 (List.mem_of_getElem? (i := 232) rfl)) rfl
theorem uw7_233 : Cond.instanceMethod yX12_joy ∈ uw := uw_in (tb_7 (List.mem_of_getElem? (i := 233) rfl)) rfl
theorem uw7_234 : Cond.selects RX12 yX12_joy yX12_joy ∈ uw := uw_in (tb_7 (List.mem_of_getElem? (i := 234) rfl)) rfl
theorem uw7_235 : Cond.code yX12_joy cX12_joy 1 (some .int) ∈ uw := uw_in (tb_7 (List.mem_of_getElem? (i := 235) rfl)) rfl
theorem uw7_236 : Cond.methodLink RL 91 yX12_day ∈ uw := uw_in (tb_7 (List.mem_of_getElem? (i := 236) rfl)) rfl
theorem uw7_237 : Cond.instanceMethod yX12_day ∈ uw := uw_in (tb_7 (List.mem_of_getElem? (i := 237) rfl)) rfl
theorem uw7_238 : Cond.selects RX12 yX12_day yX12_day ∈ uw := uw_in (tb_7 (List.mem_of_getElem? (i := 238) rfl)) rfl
theorem uw7_239 : Cond.code yX12_day cX12_day 1 (some .int) ∈ uw := uw_in (tb_7 (List.mem_of_getElem? (i := 239) rfl)) rfl
theorem uw8_0 : Cond.methodLink RX12 462 yX12_keeps ∈ uw := uw_in (tb_8 (List.mem_of_getElem? (i := 0) rfl)) rfl
theorem uw8_2 : Cond.instanceMethod yX12_keeps ∈ uw := uw_in (tb_8 (List.mem_of_getElem? (i := 2) rfl)) rfl
theorem uw8_3 : Cond.code yX12_keeps cX12_keeps 2 none ∈ uw := uw_in (tb_8 (List.mem_of_getElem? (i := 3) rfl)) rfl
theorem uw8_4 : Cond.methodLink RL 95 yX12_mend ∈ uw := uw_in (tb_8 (List.mem_of_getElem? (i := 4) rfl)) rfl
theorem uw8_5 : Cond.instanceMethod yX12_mend ∈ uw := uw_in (tb_8 (List.mem_of_getElem? (i := 5) rfl)) rfl
theorem uw8_6 : Cond.selects RX12 yX12_mend yX12_mend ∈ uw := uw_in (tb_8 (List.mem_of_getElem? (i := 6) rfl)) rfl
theorem uw8_7 : Cond.code yX12_mend cX12_mend 1 (some .int) ∈ uw := uw_in (tb_8 (List.mem_of_getElem? (i := 7) rfl)) rfl
theorem uw8_8 : Cond.methodLink RX12 465 yX12_mends ∈ uw := uw_in (tb_8 (List.mem_of_getElem? (i := 8) rfl)) rfl
theorem uw8_10 : Cond.instanceMethod yX12_mends ∈ uw := uw_in (tb_8 (List.mem_of_getElem? (i := 10) rfl)) rfl
theorem uw8_11 : Cond.code yX12_mends cX12_mends 3 (some .int) ∈ uw := uw_in (tb_8 (List.mem_of_getElem? (i := 11) rfl)) rfl
theorem uw8_12 : Cond.methodLink RL 100 yX12_each ∈ uw := uw_in (tb_8 (List.mem_of_getElem? (i := 12) rfl)) rfl
theorem uw8_13 : Cond.instanceMethod yX12_each ∈ uw := uw_in (tb_8 (List.mem_of_getElem? (i := 13) rfl)) rfl
theorem uw8_14 : Cond.selects RX12 yX12_each yX12_each ∈ uw := uw_in (tb_8 (List.mem_of_getElem? (i := 14) rfl)) rfl
theorem uw8_15 : Cond.code yX12_each cX12_each 2 (some .boolean) ∈ uw := uw_in (tb_8 (List.mem_of_getElem? (i := 15) rfl)) rfl
theorem uw8_16 : Cond.methodLink RL 105 yX12_open ∈ uw := uw_in (tb_8 (List.mem_of_getElem? (i := 16) rfl)) rfl
theorem uw8_17 : Cond.instanceMethod yX12_open ∈ uw := uw_in (tb_8 (List.mem_of_getElem? (i := 17) rfl)) rfl
theorem uw8_18 : Cond.selects RX12 yX12_open yX12_open ∈ uw := uw_in (tb_8 (List.mem_of_getElem? (i := 18) rfl)) rfl
theorem uw8_19 : Cond.code yX12_open cX12_open 3 (some .boolean) ∈ uw := uw_in (tb_8 (List.mem_of_getElem? (i := 19) rfl)) rfl
theorem uw8_20 : Cond.methodLink RL 110 yX12_undo ∈ uw := uw_in (tb_8 (List.mem_of_getElem? (i := 20) rfl)) rfl
theorem uw8_21 : Cond.instanceMethod yX12_undo ∈ uw := uw_in (tb_8 (List.mem_of_getElem? (i := 21) rfl)) rfl
theorem uw8_22 : Cond.selects RX12 yX12_undo yX12_undo ∈ uw := uw_in (tb_8 (List.mem_of_getElem? (i := 22) rfl)) rfl
theorem uw8_23 : Cond.code yX12_undo cX12_undo 1 (some .boolean) ∈ uw := uw_in (tb_8 (List.mem_of_getElem? (i := 23) rfl)) rfl
theorem uw8_24 : Cond.methodLink RL 116 yX12_judged ∈ uw := uw_in (tb_8 (List.mem_of_getElem? (i := 24) rfl)) rfl
theorem uw8_25 : Cond.instanceMethod yX12_judged ∈ uw := uw_in (tb_8 (List.mem_of_getElem? (i := 25) rfl)) rfl
theorem uw8_26 : Cond.selects RX12 yX12_judged yX12_judged ∈ uw := uw_in (tb_8 (List.mem_of_getElem? (i := 26) rfl)) rfl
theorem uw8_27 : Cond.code yX12_judged cX12_judged 5 (some .int) ∈ uw := uw_in (tb_8 (List.mem_of_getElem? (i := 27) rfl)) rfl
theorem uw8_28 : Cond.methodLink RX12 468 yX12_goes ∈ uw := uw_in (tb_8 (List.mem_of_getElem? (i := 28) rfl)) rfl
theorem uw8_30 : Cond.instanceMethod yX12_goes ∈ uw := uw_in (tb_8 (List.mem_of_getElem? (i := 30) rfl)) rfl
theorem uw8_31 : Cond.code yX12_goes cX12_goes 2 (some .int) ∈ uw := uw_in (tb_8 (List.mem_of_getElem? (i := 31) rfl)) rfl
theorem uw8_32 : Cond.methodLink RX12 471 yX12_goneKeys ∈ uw := uw_in (tb_8 (List.mem_of_getElem? (i := 32) rfl)) rfl
theorem uw8_34 : Cond.instanceMethod yX12_goneKeys ∈ uw := uw_in (tb_8 (List.mem_of_getElem? (i := 34) rfl)) rfl
theorem uw8_35 : Cond.code yX12_goneKeys cX12_goneKeys 3 (some .int) ∈ uw := uw_in (tb_8 (List.mem_of_getElem? (i := 35) rfl)) rfl
theorem uw8_36 : Cond.methodLink RL 122 yX12_best ∈ uw := uw_in (tb_8 (List.mem_of_getElem? (i := 36) rfl)) rfl
theorem uw8_37 : Cond.instanceMethod yX12_best ∈ uw := uw_in (tb_8 (List.mem_of_getElem? (i := 37) rfl)) rfl
theorem uw8_38 : Cond.selects RX12 yX12_best yX12_best ∈ uw := uw_in (tb_8 (List.mem_of_getElem? (i := 38) rfl)) rfl
theorem uw8_39 : Cond.code yX12_best cX12_best 7 (some .int) ∈ uw := uw_in (tb_8 (List.mem_of_getElem? (i := 39) rfl)) rfl
theorem uw8_40 : Cond.methodLink RL 126 yX12_hours ∈ uw := uw_in (tb_8 (List.mem_of_getElem? (i := 40) rfl)) rfl
theorem uw8_41 : Cond.instanceMethod yX12_hours ∈ uw := uw_in (tb_8 (List.mem_of_getElem? (i := 41) rfl)) rfl
theorem uw8_42 : Cond.selects RX12 yX12_hours yX12_hours ∈ uw := uw_in (tb_8 (List.mem_of_getElem? (i := 42) rfl)) rfl
theorem uw8_43 : Cond.code yX12_hours cX12_hours 8 (some .int) ∈ uw := uw_in (tb_8 (List.mem_of_getElem? (i := 43) rfl)) rfl
theorem uw8_44 : Cond.methodLink RL 130 yX12_when ∈ uw := uw_in (tb_8 (List.mem_of_getElem? (i := 44) rfl)) rfl
theorem uw8_45 : Cond.instanceMethod yX12_when ∈ uw := uw_in (tb_8 (List.mem_of_getElem? (i := 45) rfl)) rfl
theorem uw8_46 : Cond.selects RX12 yX12_when yX12_when ∈ uw := uw_in (tb_8 (List.mem_of_getElem? (i := 46) rfl)) rfl
theorem uw8_47 : Cond.code yX12_when cX12_when 7 (some .int) ∈ uw := uw_in (tb_8 (List.mem_of_getElem? (i := 47) rfl)) rfl
theorem uw8_48 : Cond.methodLink RX12 474 yX12_daysBring ∈ uw := uw_in (tb_8 (List.mem_of_getElem? (i := 48) rfl)) rfl
theorem uw8_50 : Cond.instanceMethod yX12_daysBring ∈ uw := uw_in (tb_8 (List.mem_of_getElem? (i := 50) rfl)) rfl
theorem uw8_51 : Cond.code yX12_daysBring cX12_daysBring 5 (some .int) ∈ uw := uw_in (tb_8 (List.mem_of_getElem? (i := 51) rfl)) rfl
theorem uw8_52 : Cond.methodLink RL 172 yX12_rule ∈ uw := uw_in (tb_8 (List.mem_of_getElem? (i := 52) rfl)) rfl
theorem uw8_53 : Cond.instanceMethod yX12_rule ∈ uw := uw_in (tb_8 (List.mem_of_getElem? (i := 53) rfl)) rfl
theorem uw8_54 : Cond.selects RX12 yX12_rule yX12_rule ∈ uw := uw_in (tb_8 (List.mem_of_getElem? (i := 54) rfl)) rfl
theorem uw8_55 : Cond.code yX12_rule cX12_rule 5 (some .int) ∈ uw := uw_in (tb_8 (List.mem_of_getElem? (i := 55) rfl)) rfl
theorem uw8_56 : Cond.methodLink RL 134 yX12_lasts ∈ uw := uw_in (tb_8 (List.mem_of_getElem? (i := 56) rfl)) rfl
theorem uw8_57 : Cond.instanceMethod yX12_lasts ∈ uw := uw_in (tb_8 (List.mem_of_getElem? (i := 57) rfl)) rfl
theorem uw8_58 : Cond.selects RX12 yX12_lasts yX12_lasts ∈ uw := uw_in (tb_8 (List.mem_of_getElem? (i := 58) rfl)) rfl
theorem uw8_59 : Cond.code yX12_lasts cX12_lasts 3 (some .int) ∈ uw := uw_in (tb_8 (List.mem_of_getElem? (i := 59) rfl)) rfl
theorem uw8_60 : Cond.methodLink RL 137 yX12_without ∈ uw := uw_in (tb_8 (List.mem_of_getElem? (i := 60) rfl)) rfl
theorem uw8_61 : Cond.instanceMethod yX12_without ∈ uw := uw_in (tb_8 (List.mem_of_getElem? (i := 61) rfl)) rfl
theorem uw8_62 : Cond.selects RX12 yX12_without yX12_without ∈ uw := uw_in (tb_8 (List.mem_of_getElem? (i := 62) rfl)) rfl
theorem uw8_63 : Cond.code yX12_without cX12_without 2 (some .int) ∈ uw := uw_in (tb_8 (List.mem_of_getElem? (i := 63) rfl)) rfl
theorem uw8_64 : Cond.methodLink RX12 477 yX12_triesWithout ∈ uw := uw_in (tb_8 (List.mem_of_getElem? (i := 64) rfl)) rfl
theorem uw8_66 : Cond.instanceMethod yX12_triesWithout ∈ uw := uw_in (tb_8 (List.mem_of_getElem? (i := 66) rfl)) rfl
theorem uw8_67 : Cond.code yX12_triesWithout cX12_triesWithout 3 (some .int) ∈ uw := uw_in (tb_8 (List.mem_of_getElem? (i := 67) rfl)) rfl
theorem uw8_68 : Cond.methodLink RL 141 yX12_rarer ∈ uw := uw_in (tb_8 (List.mem_of_getElem? (i := 68) rfl)) rfl
theorem uw8_69 : Cond.instanceMethod yX12_rarer ∈ uw := uw_in (tb_8 (List.mem_of_getElem? (i := 69) rfl)) rfl
theorem uw8_70 : Cond.selects RX12 yX12_rarer yX12_rarer ∈ uw := uw_in (tb_8 (List.mem_of_getElem? (i := 70) rfl)) rfl
theorem uw8_71 : Cond.code yX12_rarer cX12_rarer 4 (some .int) ∈ uw := uw_in (tb_8 (List.mem_of_getElem? (i := 71) rfl)) rfl
theorem uw8_72 : Cond.methodLink RX12 480 yX12_bits ∈ uw := uw_in (tb_8 (List.mem_of_getElem? (i := 72) rfl)) rfl
theorem uw8_73 : Cond.static yX12_bits ∈ uw := uw_in (tb_8 (List.mem_of_getElem? (i := 73) rfl)) rfl
theorem uw8_74 : Cond.code yX12_bits cX12_bits 3 (some .int) ∈ uw := uw_in (tb_8 (List.mem_of_getElem? (i := 74) rfl)) rfl
theorem uw8_75 : Cond.methodLink RL 145 yX12_dare ∈ uw := uw_in (tb_8 (List.mem_of_getElem? (i := 75) rfl)) rfl
theorem uw8_76 : Cond.instanceMethod yX12_dare ∈ uw := uw_in (tb_8 (List.mem_of_getElem? (i := 76) rfl)) rfl
theorem uw8_77 : Cond.selects RX12 yX12_dare yX12_dare ∈ uw := uw_in (tb_8 (List.mem_of_getElem? (i := 77) rfl)) rfl
theorem uw8_78 : Cond.code yX12_dare cX12_dare 4 (some .int) ∈ uw := uw_in (tb_8 (List.mem_of_getElem? (i := 78) rfl)) rfl
theorem uw8_79 : Cond.methodLink RL 149 yX12_strikes ∈ uw := uw_in (tb_8 (List.mem_of_getElem? (i := 79) rfl)) rfl
theorem uw8_80 : Cond.instanceMethod yX12_strikes ∈ uw := uw_in (tb_8 (List.mem_of_getElem? (i := 80) rfl)) rfl
theorem uw8_81 : Cond.selects RX12 yX12_strikes yX12_strikes ∈ uw := uw_in (tb_8 (List.mem_of_getElem? (i := 81) rfl)) rfl
theorem uw8_82 : Cond.code yX12_strikes cX12_strikes 3 (some .int) ∈ uw := uw_in (tb_8 (List.mem_of_getElem? (i := 82) rfl)) rfl
theorem uw8_83 : Cond.methodLink RX12 483 yX12_strikesOf ∈ uw := uw_in (tb_8 (List.mem_of_getElem? (i := 83) rfl)) rfl
theorem uw8_85 : Cond.instanceMethod yX12_strikesOf ∈ uw := uw_in (tb_8 (List.mem_of_getElem? (i := 85) rfl)) rfl
theorem uw8_86 : Cond.code yX12_strikesOf cX12_strikesOf 5 (some .int) ∈ uw := uw_in (tb_8 (List.mem_of_getElem? (i := 86) rfl)) rfl
theorem uw8_87 : Cond.methodLink RL 153 yX12_find ∈ uw := uw_in (tb_8 (List.mem_of_getElem? (i := 87) rfl)) rfl
theorem uw8_88 : Cond.instanceMethod yX12_find ∈ uw := uw_in (tb_8 (List.mem_of_getElem? (i := 88) rfl)) rfl
theorem uw8_89 : Cond.selects RX12 yX12_find yX12_find ∈ uw := uw_in (tb_8 (List.mem_of_getElem? (i := 89) rfl)) rfl
theorem uw8_90 : Cond.code yX12_find cX12_find 3 (some .boolean) ∈ uw := uw_in (tb_8 (List.mem_of_getElem? (i := 90) rfl)) rfl
theorem uw8_91 : Cond.methodLink RL 157 yX12_sets ∈ uw := uw_in (tb_8 (List.mem_of_getElem? (i := 91) rfl)) rfl
theorem uw8_92 : Cond.instanceMethod yX12_sets ∈ uw := uw_in (tb_8 (List.mem_of_getElem? (i := 92) rfl)) rfl
theorem uw8_93 : Cond.selects RX12 yX12_sets yX12_sets ∈ uw := uw_in (tb_8 (List.mem_of_getElem? (i := 93) rfl)) rfl
theorem uw8_94 : Cond.code yX12_sets cX12_sets 6 (some .int) ∈ uw := uw_in (tb_8 (List.mem_of_getElem? (i := 94) rfl)) rfl
theorem uw8_95 : Cond.methodLink RX12 489 yX12_isAsFound ∈ uw := uw_in (tb_8 (List.mem_of_getElem? (i := 95) rfl)) rfl
theorem uw8_97 : Cond.instanceMethod yX12_isAsFound ∈ uw := uw_in (tb_8 (List.mem_of_getElem? (i := 97) rfl)) rfl
theorem uw8_98 : Cond.code yX12_isAsFound cX12_isAsFound 3 (some .boolean) ∈ uw := uw_in (tb_8 (List.mem_of_getElem? (i := 98) rfl)) rfl
theorem uw8_99 : Cond.methodLink RX12 486 yX12_wearBy ∈ uw := uw_in (tb_8 (List.mem_of_getElem? (i := 99) rfl)) rfl
theorem uw8_101 : Cond.instanceMethod yX12_wearBy ∈ uw := uw_in (tb_8 (List.mem_of_getElem? (i := 101) rfl)) rfl
theorem uw8_102 : Cond.code yX12_wearBy cX12_wearBy 7 (some .int) ∈ uw := uw_in (tb_8 (List.mem_of_getElem? (i := 102) rfl)) rfl
theorem uw8_103 : Cond.methodLink RL 161 yX12_look ∈ uw := uw_in (tb_8 (List.mem_of_getElem? (i := 103) rfl)) rfl
theorem uw8_104 : Cond.instanceMethod yX12_look ∈ uw := uw_in (tb_8 (List.mem_of_getElem? (i := 104) rfl)) rfl
theorem uw8_105 : Cond.selects RX12 yX12_look yX12_look ∈ uw := uw_in (tb_8 (List.mem_of_getElem? (i := 105) rfl)) rfl
theorem uw8_106 : Cond.code yX12_look cX12_look 5 (some .int) ∈ uw := uw_in (tb_8 (List.mem_of_getElem? (i := 106) rfl)) rfl
theorem uw8_107 : Cond.methodLink RX12 495 yX12_sets ∈ uw := uw_in (tb_8 (List.mem_of_getElem? (i := 107) rfl)) rfl
theorem uw8_108 : Cond.methodLink RX12 498 yX12_isFound ∈ uw := uw_in (tb_8 (List.mem_of_getElem? (i := 108) rfl)) rfl
theorem uw8_110 : Cond.instanceMethod yX12_isFound ∈ uw := uw_in (tb_8 (List.mem_of_getElem? (i := 110) rfl)) rfl
theorem uw8_111 : Cond.code yX12_isFound cX12_isFound 3 (some .boolean) ∈ uw := uw_in (tb_8 (List.mem_of_getElem? (i := 111) rfl)) rfl
theorem uw8_112 : Cond.methodLink RX12 501 yX12_mostAlike ∈ uw := uw_in (tb_8 (List.mem_of_getElem? (i := 112) rfl)) rfl
theorem uw8_114 : Cond.instanceMethod yX12_mostAlike ∈ uw := uw_in (tb_8 (List.mem_of_getElem? (i := 114) rfl)) rfl
theorem uw8_115 : Cond.code yX12_mostAlike cX12_mostAlike 5 (some .int) ∈ uw := uw_in (tb_8 (List.mem_of_getElem? (i := 115) rfl)) rfl
theorem uw8_116 : Cond.methodLink RX12 492 Lib.Math.max.name ∈ uw := uw_in (tb_8 (List.mem_of_getElem? (i := 116) rfl)) rfl
theorem uw8_117 : Cond.methodLink RL 165 yX12_share ∈ uw := uw_in (tb_8 (List.mem_of_getElem? (i := 117) rfl)) rfl
theorem uw8_118 : Cond.instanceMethod yX12_share ∈ uw := uw_in (tb_8 (List.mem_of_getElem? (i := 118) rfl)) rfl
theorem uw8_119 : Cond.selects RX12 yX12_share yX12_share ∈ uw := uw_in (tb_8 (List.mem_of_getElem? (i := 119) rfl)) rfl
theorem uw8_120 : Cond.code yX12_share cX12_share 4 (some .int) ∈ uw := uw_in (tb_8 (List.mem_of_getElem? (i := 120) rfl)) rfl
theorem uw8_121 : Cond.methodLink RL 169 yX12_rests ∈ uw := uw_in (tb_8 (List.mem_of_getElem? (i := 121) rfl)) rfl
theorem uw8_122 : Cond.instanceMethod yX12_rests ∈ uw := uw_in (tb_8 (List.mem_of_getElem? (i := 122) rfl)) rfl
theorem uw8_123 : Cond.selects RX12 yX12_rests yX12_rests ∈ uw := uw_in (tb_8 (List.mem_of_getElem? (i := 123) rfl)) rfl
theorem uw8_124 : Cond.code yX12_rests cX12_rests 9 (some .int) ∈ uw := uw_in (tb_8 (List.mem_of_getElem? (i := 124) rfl)) rfl
theorem uw8_125 : Cond.methodLink RX12 504 yX12_getsBy ∈ uw := uw_in (tb_8 (List.mem_of_getElem? (i := 125) rfl)) rfl
theorem uw8_126 : Cond.static yX12_getsBy ∈ uw := uw_in (tb_8 (List.mem_of_getElem? (i := 126) rfl)) rfl
theorem uw8_127 : Cond.code yX12_getsBy cX12_getsBy 5 (some .int) ∈ uw := uw_in (tb_8 (List.mem_of_getElem? (i := 127) rfl)) rfl
theorem uw8_128 : Cond.methodLink RL 176 yX12_months ∈ uw := uw_in (tb_8 (List.mem_of_getElem? (i := 128) rfl)) rfl
theorem uw8_129 : Cond.instanceMethod yX12_months ∈ uw := uw_in (tb_8 (List.mem_of_getElem? (i := 129) rfl)) rfl
theorem uw8_130 : Cond.selects RX12 yX12_months yX12_months ∈ uw := uw_in (tb_8 (List.mem_of_getElem? (i := 130) rfl)) rfl
theorem uw8_131 : Cond.code yX12_months cX12_months 8 (some .int) ∈ uw := uw_in (tb_8 (List.mem_of_getElem? (i := 131) rfl)) rfl
theorem uw8_132 : Cond.methodLink RX12 519 yX12_draws ∈ uw := uw_in (tb_8 (List.mem_of_getElem? (i := 132) rfl)) rfl
theorem uw8_134 : Cond.instanceMethod yX12_draws ∈ uw := uw_in (tb_8 (List.mem_of_getElem? (i := 134) rfl)) rfl
theorem uw8_135 : Cond.code yX12_draws cX12_draws 2 (some .int) ∈ uw := uw_in (tb_8 (List.mem_of_getElem? (i := 135) rfl)) rfl
theorem uw8_136 : Cond.constantLong RX12 511 (1103515245) ∈ uw := uw_in (tb_8 (List.mem_of_getElem? (i := 136) rfl)) rfl
theorem uw8_137 : Cond.constantLong RX12 513 (12345) ∈ uw := uw_in (tb_8 (List.mem_of_getElem? (i := 137) rfl)) rfl
theorem uw8_138 : Cond.constantLong RX12 515 (2147483648) ∈ uw := uw_in (tb_8 (List.mem_of_getElem? (i := 138) rfl)) rfl
theorem uw8_139 : Cond.constantLong RX12 517 (65536) ∈ uw := uw_in (tb_8 (List.mem_of_getElem? (i := 139) rfl)) rfl
theorem uw8_140 : Cond.methodLink RX12 522 yX12_badKeys ∈ uw := uw_in (tb_8 (List.mem_of_getElem? (i := 140) rfl)) rfl
theorem uw8_142 : Cond.instanceMethod yX12_badKeys ∈ uw := uw_in (tb_8 (List.mem_of_getElem? (i := 142) rfl)) rfl
theorem uw8_143 : Cond.code yX12_badKeys cX12_badKeys 3 (some .int) ∈ uw := uw_in (tb_8 (List.mem_of_getElem? (i := 143) rfl)) rfl
theorem uw8_144 : Cond.methodLink RL 181 yX12_mark ∈ uw := uw_in (tb_8 (List.mem_of_getElem? (i := 144) rfl)) rfl
theorem uw8_145 : Cond.instanceMethod yX12_mark ∈ uw := uw_in (tb_8 (List.mem_of_getElem? (i := 145) rfl)) rfl
theorem uw8_146 : Cond.selects RX12 yX12_mark yX12_mark ∈ uw := uw_in (tb_8 (List.mem_of_getElem? (i := 146) rfl)) rfl
theorem uw8_147 : Cond.code yX12_mark cX12_mark 5 (some .boolean) ∈ uw := uw_in (tb_8 (List.mem_of_getElem? (i := 147) rfl)) rfl
theorem uw8_148 : Cond.methodLink RX12 525 yX12_laysFound ∈ uw := uw_in (tb_8 (List.mem_of_getElem? (i := 148) rfl)) rfl
theorem uw8_150 : Cond.instanceMethod yX12_laysFound ∈ uw := uw_in (tb_8 (List.mem_of_getElem? (i := 150) rfl)) rfl
theorem uw8_151 : Cond.code yX12_laysFound cX12_laysFound 4 none ∈ uw := uw_in (tb_8 (List.mem_of_getElem? (i := 151) rfl)) rfl
theorem uw8_152 : Cond.methodLink RL 185 yX12_count ∈ uw := uw_in (tb_8 (List.mem_of_getElem? (i := 152) rfl)) rfl
theorem uw8_153 : Cond.instanceMethod yX12_count ∈ uw := uw_in (tb_8 (List.mem_of_getElem? (i := 153) rfl)) rfl
theorem uw8_154 : Cond.selects RX12 yX12_count yX12_count ∈ uw := uw_in (tb_8 (List.mem_of_getElem? (i := 154) rfl)) rfl
theorem uw8_155 : Cond.code yX12_count cX12_count 2 (some .int) ∈ uw := uw_in (tb_8 (List.mem_of_getElem? (i := 155) rfl)) rfl
theorem uw8_156 : Cond.constantLong RL 40 (4294967295) ∈ uw := uw_in (tb_8 (List.mem_of_getElem? (i := 156) rfl)) rfl
theorem uw8_174 : Cond.fieldLink RJ0 9 "java/lang/String" "value" "[B" ∈ uw := uw_in (tb_8 (List.mem_of_getElem? (i := 174) rfl)) rfl
theorem uw8_175 : Cond.fieldLink RJ0 15 "java/lang/String" "coder" "B" ∈ uw := uw_in (tb_8 (List.mem_of_getElem? (i := 175) rfl)) rfl
theorem pv_1 {q : MethodName × Nat} (h : q ∈ lw_privs_1) : Cond.selects q.1.cls q.1 q.1 ∈ lw_tbl := List.mem_append_left _ (List.mem_map.mpr ⟨q, (show q ∈ lw_privs from List.mem_append_left _ h), rfl⟩)
theorem us1_0 : Cond.selects RX11 yX11_feedBytes yX11_feedBytes ∈ uw := uw_in (pv_1 (q := (yX11_feedBytes, 17)) (List.mem_of_getElem? (i := 0) rfl)) rfl
theorem us1_1 : Cond.selects RX9 yX9_signAt yX9_signAt ∈ uw := uw_in (pv_1 (q := (yX9_signAt, 7)) (List.mem_of_getElem? (i := 1) rfl)) rfl
theorem us1_2 : Cond.selects RX5 yX5_stationLine yX5_stationLine ∈ uw := uw_in (pv_1 (q := (yX5_stationLine, 3)) (List.mem_of_getElem? (i := 2) rfl)) rfl
theorem us1_3 : Cond.selects RX5 yX5_tuneLine yX5_tuneLine ∈ uw := uw_in (pv_1 (q := (yX5_tuneLine, 3)) (List.mem_of_getElem? (i := 3) rfl)) rfl
theorem us1_4 : Cond.selects RX5 yX5_wrong yX5_wrong ∈ uw := uw_in (pv_1 (q := (yX5_wrong, 3)) (List.mem_of_getElem? (i := 4) rfl)) rfl
theorem us1_5 : Cond.selects RX5 yX5_mayBeNewName yX5_mayBeNewName ∈ uw := uw_in (pv_1 (q := (yX5_mayBeNewName, 3)) (List.mem_of_getElem? (i := 5) rfl)) rfl
theorem us1_6 : Cond.selects RX5 yX5_isName yX5_isName ∈ uw := uw_in (pv_1 (q := (yX5_isName, 3)) (List.mem_of_getElem? (i := 6) rfl)) rfl
theorem us1_7 : Cond.selects RX5 yX5_takeKey yX5_takeKey ∈ uw := uw_in (pv_1 (q := (yX5_takeKey, 3)) (List.mem_of_getElem? (i := 7) rfl)) rfl
theorem us1_8 : Cond.selects RX5 yX5_takeNumber yX5_takeNumber ∈ uw := uw_in (pv_1 (q := (yX5_takeNumber, 3)) (List.mem_of_getElem? (i := 8) rfl)) rfl
theorem us1_9 : Cond.selects RX5 yX5_take yX5_take ∈ uw := uw_in (pv_1 (q := (yX5_take, 3)) (List.mem_of_getElem? (i := 9) rfl)) rfl
theorem us1_10 : Cond.selects RX5 yX5_passerLine yX5_passerLine ∈ uw := uw_in (pv_1 (q := (yX5_passerLine, 3)) (List.mem_of_getElem? (i := 10) rfl)) rfl
theorem us1_11 : Cond.selects RX5 yX5_takeKind yX5_takeKind ∈ uw := uw_in (pv_1 (q := (yX5_takeKind, 3)) (List.mem_of_getElem? (i := 11) rfl)) rfl
theorem us1_12 : Cond.selects RX5 yX5_takeTune yX5_takeTune ∈ uw := uw_in (pv_1 (q := (yX5_takeTune, 3)) (List.mem_of_getElem? (i := 12) rfl)) rfl
theorem us1_13 : Cond.selects RX5 yX5_takeValue yX5_takeValue ∈ uw := uw_in (pv_1 (q := (yX5_takeValue, 3)) (List.mem_of_getElem? (i := 13) rfl)) rfl
theorem us1_14 : Cond.selects RX5 yX5_toldFirst yX5_toldFirst ∈ uw := uw_in (pv_1 (q := (yX5_toldFirst, 3)) (List.mem_of_getElem? (i := 14) rfl)) rfl
theorem us1_15 : Cond.selects RX5 yX5_waitsTold yX5_waitsTold ∈ uw := uw_in (pv_1 (q := (yX5_waitsTold, 3)) (List.mem_of_getElem? (i := 15) rfl)) rfl
theorem pv_2 {q : MethodName × Nat} (h : q ∈ lw_privs_2) : Cond.selects q.1.cls q.1 q.1 ∈ lw_tbl := List.mem_append_left _ (List.mem_map.mpr ⟨q, (show q ∈ lw_privs from List.mem_append_right _ (List.mem_append_left _ h)), rfl⟩)
theorem us2_0 : Cond.selects RX5 yX5_eachTold yX5_eachTold ∈ uw := uw_in (pv_2 (q := (yX5_eachTold, 3)) (List.mem_of_getElem? (i := 0) rfl)) rfl
theorem us2_1 : Cond.selects RX5 yX5_hoursTold yX5_hoursTold ∈ uw := uw_in (pv_2 (q := (yX5_hoursTold, 3)) (List.mem_of_getElem? (i := 1) rfl)) rfl
theorem us2_2 : Cond.selects RX5 yX5_priceTold yX5_priceTold ∈ uw := uw_in (pv_2 (q := (yX5_priceTold, 3)) (List.mem_of_getElem? (i := 2) rfl)) rfl
theorem us2_3 : Cond.selects RX5 yX5_expression yX5_expression ∈ uw := uw_in (pv_2 (q := (yX5_expression, 3)) (List.mem_of_getElem? (i := 3) rfl)) rfl
theorem us2_4 : Cond.selects RX5 yX5_part yX5_part ∈ uw := uw_in (pv_2 (q := (yX5_part, 3)) (List.mem_of_getElem? (i := 4) rfl)) rfl
theorem us2_5 : Cond.selects RX11 yX11_beginStation yX11_beginStation ∈ uw := uw_in (pv_2 (q := (yX11_beginStation, 17)) (List.mem_of_getElem? (i := 5) rfl)) rfl
theorem us2_6 : Cond.selects RX5 yX5_weekLine yX5_weekLine ∈ uw := uw_in (pv_2 (q := (yX5_weekLine, 3)) (List.mem_of_getElem? (i := 6) rfl)) rfl
theorem us2_7 : Cond.selects RX11 yX11_isPasser yX11_isPasser ∈ uw := uw_in (pv_2 (q := (yX11_isPasser, 17)) (List.mem_of_getElem? (i := 7) rfl)) rfl
theorem us2_8 : Cond.selects RX11 yX11_tryDay yX11_tryDay ∈ uw := uw_in (pv_2 (q := (yX11_tryDay, 17)) (List.mem_of_getElem? (i := 8) rfl)) rfl
theorem us2_9 : Cond.selects RX2 yX2_push yX2_push ∈ uw := uw_in (pv_2 (q := (yX2_push, 5)) (List.mem_of_getElem? (i := 9) rfl)) rfl
theorem us2_10 : Cond.selects RX2 yX2_pop yX2_pop ∈ uw := uw_in (pv_2 (q := (yX2_pop, 5)) (List.mem_of_getElem? (i := 10) rfl)) rfl
theorem us2_11 : Cond.selects RX1 yX1_standInLine yX1_standInLine ∈ uw := uw_in (pv_2 (q := (yX1_standInLine, 15)) (List.mem_of_getElem? (i := 11) rfl)) rfl
theorem us2_12 : Cond.selects RX1 yX1_endPlaying yX1_endPlaying ∈ uw := uw_in (pv_2 (q := (yX1_endPlaying, 15)) (List.mem_of_getElem? (i := 12) rfl)) rfl
theorem us2_13 : Cond.selects RX1 yX1_leaveLine yX1_leaveLine ∈ uw := uw_in (pv_2 (q := (yX1_leaveLine, 15)) (List.mem_of_getElem? (i := 13) rfl)) rfl
theorem us2_14 : Cond.selects RX1 yX1_beginPlaying yX1_beginPlaying ∈ uw := uw_in (pv_2 (q := (yX1_beginPlaying, 15)) (List.mem_of_getElem? (i := 14) rfl)) rfl
theorem us2_15 : Cond.selects RX1 yX1_leaveLineAt yX1_leaveLineAt ∈ uw := uw_in (pv_2 (q := (yX1_leaveLineAt, 15)) (List.mem_of_getElem? (i := 15) rfl)) rfl
theorem pv_3 {q : MethodName × Nat} (h : q ∈ lw_privs_3) : Cond.selects q.1.cls q.1 q.1 ∈ lw_tbl := List.mem_append_left _ (List.mem_map.mpr ⟨q, (show q ∈ lw_privs from List.mem_append_right _ (List.mem_append_right _ (List.mem_append_left _ h))), rfl⟩)
theorem us3_0 : Cond.selects RX1 yX1_learnFacts yX1_learnFacts ∈ uw := uw_in (pv_3 (q := (yX1_learnFacts, 15)) (List.mem_of_getElem? (i := 0) rfl)) rfl
theorem us3_1 : Cond.selects RX1 yX1_addJoy yX1_addJoy ∈ uw := uw_in (pv_3 (q := (yX1_addJoy, 15)) (List.mem_of_getElem? (i := 1) rfl)) rfl
theorem us3_2 : Cond.selects RX11 yX11_remember yX11_remember ∈ uw := uw_in (pv_3 (q := (yX11_remember, 17)) (List.mem_of_getElem? (i := 2) rfl)) rfl
theorem us3_3 : Cond.selects RX8 yX8_playOnNew yX8_playOnNew ∈ uw := uw_in (pv_3 (q := (yX8_playOnNew, 5)) (List.mem_of_getElem? (i := 3) rfl)) rfl
theorem us3_4 : Cond.selects RX8 yX8_tallyWear yX8_tallyWear ∈ uw := uw_in (pv_3 (q := (yX8_tallyWear, 5)) (List.mem_of_getElem? (i := 4) rfl)) rfl
theorem us3_6 : Cond.selects RX11 yX11_judgeWeek yX11_judgeWeek ∈ uw := uw_in (pv_3 (q := (yX11_judgeWeek, 17)) (List.mem_of_getElem? (i := 6) rfl)) rfl
theorem us3_7 : Cond.selects RX11 yX11_searchEach yX11_searchEach ∈ uw := uw_in (pv_3 (q := (yX11_searchEach, 17)) (List.mem_of_getElem? (i := 7) rfl)) rfl
theorem us3_8 : Cond.selects RX11 yX11_searchMending yX11_searchMending ∈ uw := uw_in (pv_3 (q := (yX11_searchMending, 17)) (List.mem_of_getElem? (i := 8) rfl)) rfl
theorem us3_9 : Cond.selects RX11 yX11_joyMendedAhead yX11_joyMendedAhead ∈ uw := uw_in (pv_3 (q := (yX11_joyMendedAhead, 17)) (List.mem_of_getElem? (i := 9) rfl)) rfl
theorem us3_10 : Cond.selects RX11 yX11_drawMonths yX11_drawMonths ∈ uw := uw_in (pv_3 (q := (yX11_drawMonths, 17)) (List.mem_of_getElem? (i := 10) rfl)) rfl
theorem us3_11 : Cond.selects RX11 yX11_draw yX11_draw ∈ uw := uw_in (pv_3 (q := (yX11_draw, 17)) (List.mem_of_getElem? (i := 11) rfl)) rfl
theorem us3_12 : Cond.selects RX12 yX12_usual yX12_usual ∈ uw := uw_in (pv_3 (q := (yX12_usual, 67)) (List.mem_of_getElem? (i := 12) rfl)) rfl
theorem us3_13 : Cond.selects RX12 yX12_fresh yX12_fresh ∈ uw := uw_in (pv_3 (q := (yX12_fresh, 67)) (List.mem_of_getElem? (i := 13) rfl)) rfl
theorem us3_14 : Cond.selects RX12 yX12_readsAll yX12_readsAll ∈ uw := uw_in (pv_3 (q := (yX12_readsAll, 67)) (List.mem_of_getElem? (i := 14) rfl)) rfl
theorem us3_15 : Cond.selects RX12 yX12_begins0 yX12_begins0 ∈ uw := uw_in (pv_3 (q := (yX12_begins0, 67)) (List.mem_of_getElem? (i := 15) rfl)) rfl
theorem pv_4 {q : MethodName × Nat} (h : q ∈ lw_privs_4) : Cond.selects q.1.cls q.1 q.1 ∈ lw_tbl := List.mem_append_left _ (List.mem_map.mpr ⟨q, (show q ∈ lw_privs from List.mem_append_right _ (List.mem_append_right _ (List.mem_append_right _ (List.mem_append_left _ h)))), rfl⟩)
theorem us4_0 : Cond.selects RX12 yX12_nextToken yX12_nextToken ∈ uw := uw_in (pv_4 (q := (yX12_nextToken, 67)) (List.mem_of_getElem? (i := 0) rfl)) rfl
theorem us4_1 : Cond.selects RX12 yX12_signAt yX12_signAt ∈ uw := uw_in (pv_4 (q := (yX12_signAt, 67)) (List.mem_of_getElem? (i := 1) rfl)) rfl
theorem us4_2 : Cond.selects RX12 yX12_isWord yX12_isWord ∈ uw := uw_in (pv_4 (q := (yX12_isWord, 67)) (List.mem_of_getElem? (i := 2) rfl)) rfl
theorem us4_3 : Cond.selects RX12 yX12_readsTune yX12_readsTune ∈ uw := uw_in (pv_4 (q := (yX12_readsTune, 67)) (List.mem_of_getElem? (i := 3) rfl)) rfl
theorem us4_4 : Cond.selects RX12 yX12_fails yX12_fails ∈ uw := uw_in (pv_4 (q := (yX12_fails, 67)) (List.mem_of_getElem? (i := 4) rfl)) rfl
theorem us4_5 : Cond.selects RX12 yX12_needsNew yX12_needsNew ∈ uw := uw_in (pv_4 (q := (yX12_needsNew, 67)) (List.mem_of_getElem? (i := 5) rfl)) rfl
theorem us4_6 : Cond.selects RX12 yX12_isKept yX12_isKept ∈ uw := uw_in (pv_4 (q := (yX12_isKept, 67)) (List.mem_of_getElem? (i := 6) rfl)) rfl
theorem us4_7 : Cond.selects RX12 yX12_tuneNamed yX12_tuneNamed ∈ uw := uw_in (pv_4 (q := (yX12_tuneNamed, 67)) (List.mem_of_getElem? (i := 7) rfl)) rfl
theorem us4_8 : Cond.selects RX12 yX12_passerNamed yX12_passerNamed ∈ uw := uw_in (pv_4 (q := (yX12_passerNamed, 67)) (List.mem_of_getElem? (i := 8) rfl)) rfl
theorem us4_9 : Cond.selects RX12 yX12_isSign yX12_isSign ∈ uw := uw_in (pv_4 (q := (yX12_isSign, 67)) (List.mem_of_getElem? (i := 9) rfl)) rfl
theorem us4_10 : Cond.selects RX12 yX12_closes yX12_closes ∈ uw := uw_in (pv_4 (q := (yX12_closes, 67)) (List.mem_of_getElem? (i := 10) rfl)) rfl
theorem us4_11 : Cond.selects RX12 yX12_readsPasser yX12_readsPasser ∈ uw := uw_in (pv_4 (q := (yX12_readsPasser, 67)) (List.mem_of_getElem? (i := 11) rfl)) rfl
theorem us4_12 : Cond.selects RX12 yX12_needsWord yX12_needsWord ∈ uw := uw_in (pv_4 (q := (yX12_needsWord, 67)) (List.mem_of_getElem? (i := 12) rfl)) rfl
theorem us4_13 : Cond.selects RX12 yX12_needsBoth yX12_needsBoth ∈ uw := uw_in (pv_4 (q := (yX12_needsBoth, 67)) (List.mem_of_getElem? (i := 13) rfl)) rfl
theorem us4_14 : Cond.selects RX12 yX12_needsNumber yX12_needsNumber ∈ uw := uw_in (pv_4 (q := (yX12_needsNumber, 67)) (List.mem_of_getElem? (i := 14) rfl)) rfl
theorem us4_15 : Cond.selects RX12 yX12_readsOne yX12_readsOne ∈ uw := uw_in (pv_4 (q := (yX12_readsOne, 67)) (List.mem_of_getElem? (i := 15) rfl)) rfl
theorem pv_5 {q : MethodName × Nat} (h : q ∈ lw_privs_5) : Cond.selects q.1.cls q.1 q.1 ∈ lw_tbl := List.mem_append_left _ (List.mem_map.mpr ⟨q, (show q ∈ lw_privs from List.mem_append_right _ (List.mem_append_right _ (List.mem_append_right _ (List.mem_append_right _ (List.mem_append_left _ h))))), rfl⟩)
theorem us5_0 : Cond.selects RX12 yX12_isTwice yX12_isTwice ∈ uw := uw_in (pv_5 (q := (yX12_isTwice, 67)) (List.mem_of_getElem? (i := 0) rfl)) rfl
theorem us5_1 : Cond.selects RX12 yX12_readsOpen yX12_readsOpen ∈ uw := uw_in (pv_5 (q := (yX12_readsOpen, 67)) (List.mem_of_getElem? (i := 1) rfl)) rfl
theorem us5_2 : Cond.selects RX12 yX12_needsSpan yX12_needsSpan ∈ uw := uw_in (pv_5 (q := (yX12_needsSpan, 67)) (List.mem_of_getElem? (i := 2) rfl)) rfl
theorem us5_3 : Cond.selects RX12 yX12_readsLaw yX12_readsLaw ∈ uw := uw_in (pv_5 (q := (yX12_readsLaw, 67)) (List.mem_of_getElem? (i := 3) rfl)) rfl
theorem us5_4 : Cond.selects RX12 yX12_reads yX12_reads ∈ uw := uw_in (pv_5 (q := (yX12_reads, 67)) (List.mem_of_getElem? (i := 4) rfl)) rfl
theorem us5_5 : Cond.selects RX12 yX12_fact yX12_fact ∈ uw := uw_in (pv_5 (q := (yX12_fact, 67)) (List.mem_of_getElem? (i := 5) rfl)) rfl
theorem us5_6 : Cond.selects RX12 yX12_puts yX12_puts ∈ uw := uw_in (pv_5 (q := (yX12_puts, 67)) (List.mem_of_getElem? (i := 6) rfl)) rfl
theorem us5_7 : Cond.selects RX12 yX12_lays yX12_lays ∈ uw := uw_in (pv_5 (q := (yX12_lays, 67)) (List.mem_of_getElem? (i := 7) rfl)) rfl
theorem us5_8 : Cond.selects RX12 yX12_readsLine yX12_readsLine ∈ uw := uw_in (pv_5 (q := (yX12_readsLine, 67)) (List.mem_of_getElem? (i := 8) rfl)) rfl
theorem us5_9 : Cond.selects RX12 yX12_laysLines yX12_laysLines ∈ uw := uw_in (pv_5 (q := (yX12_laysLines, 67)) (List.mem_of_getElem? (i := 9) rfl)) rfl
theorem us5_10 : Cond.selects RX12 yX12_isPasser yX12_isPasser ∈ uw := uw_in (pv_5 (q := (yX12_isPasser, 67)) (List.mem_of_getElem? (i := 10) rfl)) rfl
theorem us5_11 : Cond.selects RX12 yX12_minutesOf yX12_minutesOf ∈ uw := uw_in (pv_5 (q := (yX12_minutesOf, 67)) (List.mem_of_getElem? (i := 11) rfl)) rfl
theorem us5_12 : Cond.selects RX12 yX12_isKey yX12_isKey ∈ uw := uw_in (pv_5 (q := (yX12_isKey, 67)) (List.mem_of_getElem? (i := 12) rfl)) rfl
theorem us5_13 : Cond.selects RX12 yX12_tries yX12_tries ∈ uw := uw_in (pv_5 (q := (yX12_tries, 67)) (List.mem_of_getElem? (i := 13) rfl)) rfl
theorem us5_14 : Cond.selects RX12 yX12_passes yX12_passes ∈ uw := uw_in (pv_5 (q := (yX12_passes, 67)) (List.mem_of_getElem? (i := 14) rfl)) rfl
theorem us5_15 : Cond.selects RX12 yX12_passesDay yX12_passesDay ∈ uw := uw_in (pv_5 (q := (yX12_passesDay, 67)) (List.mem_of_getElem? (i := 15) rfl)) rfl
theorem pv_6 {q : MethodName × Nat} (h : q ∈ lw_privs_6) : Cond.selects q.1.cls q.1 q.1 ∈ lw_tbl := List.mem_append_left _ (List.mem_map.mpr ⟨q, (show q ∈ lw_privs from List.mem_append_right _ (List.mem_append_right _ (List.mem_append_right _ (List.mem_append_right _ (List.mem_append_right _ (List.mem_append_left _ h)))))), rfl⟩)
theorem us6_0 : Cond.selects RX12 yX12_passesMinute yX12_passesMinute ∈ uw := uw_in (pv_6 (q := (yX12_passesMinute, 67)) (List.mem_of_getElem? (i := 0) rfl)) rfl
theorem us6_1 : Cond.selects RX12 yX12_isOpenAt yX12_isOpenAt ∈ uw := uw_in (pv_6 (q := (yX12_isOpenAt, 67)) (List.mem_of_getElem? (i := 1) rfl)) rfl
theorem us6_2 : Cond.selects RX12 yX12_firstDaring yX12_firstDaring ∈ uw := uw_in (pv_6 (q := (yX12_firstDaring, 67)) (List.mem_of_getElem? (i := 2) rfl)) rfl
theorem us6_3 : Cond.selects RX12 yX12_standing yX12_standing ∈ uw := uw_in (pv_6 (q := (yX12_standing, 67)) (List.mem_of_getElem? (i := 3) rfl)) rfl
theorem us6_4 : Cond.selects RX12 yX12_wouldDare yX12_wouldDare ∈ uw := uw_in (pv_6 (q := (yX12_wouldDare, 67)) (List.mem_of_getElem? (i := 4) rfl)) rfl
theorem us6_5 : Cond.selects RX12 yX12_beginsAt yX12_beginsAt ∈ uw := uw_in (pv_6 (q := (yX12_beginsAt, 67)) (List.mem_of_getElem? (i := 5) rfl)) rfl
theorem us6_6 : Cond.selects RX12 yX12_allStrikes yX12_allStrikes ∈ uw := uw_in (pv_6 (q := (yX12_allStrikes, 67)) (List.mem_of_getElem? (i := 6) rfl)) rfl
theorem us6_7 : Cond.selects RX12 yX12_rowOf yX12_rowOf ∈ uw := uw_in (pv_6 (q := (yX12_rowOf, 67)) (List.mem_of_getElem? (i := 7) rfl)) rfl
theorem us6_8 : Cond.selects RX12 yX12_keyAt yX12_keyAt ∈ uw := uw_in (pv_6 (q := (yX12_keyAt, 67)) (List.mem_of_getElem? (i := 8) rfl)) rfl
theorem us6_9 : Cond.selects RX12 yX12_wornBy yX12_wornBy ∈ uw := uw_in (pv_6 (q := (yX12_wornBy, 67)) (List.mem_of_getElem? (i := 9) rfl)) rfl
theorem us6_10 : Cond.selects RX12 yX12_worked yX12_worked ∈ uw := uw_in (pv_6 (q := (yX12_worked, 67)) (List.mem_of_getElem? (i := 10) rfl)) rfl
theorem us6_11 : Cond.selects RX12 yX12_opens yX12_opens ∈ uw := uw_in (pv_6 (q := (yX12_opens, 67)) (List.mem_of_getElem? (i := 11) rfl)) rfl
theorem us6_12 : Cond.selects RX12 yX12_sums yX12_sums ∈ uw := uw_in (pv_6 (q := (yX12_sums, 67)) (List.mem_of_getElem? (i := 12) rfl)) rfl
theorem us6_13 : Cond.selects RX12 yX12_tests yX12_tests ∈ uw := uw_in (pv_6 (q := (yX12_tests, 67)) (List.mem_of_getElem? (i := 13) rfl)) rfl
theorem us6_14 : Cond.selects RX12 yX12_joyOf yX12_joyOf ∈ uw := uw_in (pv_6 (q := (yX12_joyOf, 67)) (List.mem_of_getElem? (i := 14) rfl)) rfl
theorem us6_15 : Cond.selects RX12 yX12_wornFor yX12_wornFor ∈ uw := uw_in (pv_6 (q := (yX12_wornFor, 67)) (List.mem_of_getElem? (i := 15) rfl)) rfl
theorem pv_7 {q : MethodName × Nat} (h : q ∈ lw_privs_7) : Cond.selects q.1.cls q.1 q.1 ∈ lw_tbl := List.mem_append_left _ (List.mem_map.mpr ⟨q, (show q ∈ lw_privs from List.mem_append_right _ (List.mem_append_right _ (List.mem_append_right _ (List.mem_append_right _ (List.mem_append_right _ (List.mem_append_right _ (h))))))), rfl⟩)
theorem us7_0 : Cond.selects RX12 yX12_keeps yX12_keeps ∈ uw := uw_in (pv_7 (q := (yX12_keeps, 67)) (List.mem_of_getElem? (i := 0) rfl)) rfl
theorem us7_1 : Cond.selects RX12 yX12_mends yX12_mends ∈ uw := uw_in (pv_7 (q := (yX12_mends, 67)) (List.mem_of_getElem? (i := 1) rfl)) rfl
theorem us7_2 : Cond.selects RX12 yX12_goes yX12_goes ∈ uw := uw_in (pv_7 (q := (yX12_goes, 67)) (List.mem_of_getElem? (i := 2) rfl)) rfl
theorem us7_3 : Cond.selects RX12 yX12_goneKeys yX12_goneKeys ∈ uw := uw_in (pv_7 (q := (yX12_goneKeys, 67)) (List.mem_of_getElem? (i := 3) rfl)) rfl
theorem us7_4 : Cond.selects RX12 yX12_daysBring yX12_daysBring ∈ uw := uw_in (pv_7 (q := (yX12_daysBring, 67)) (List.mem_of_getElem? (i := 4) rfl)) rfl
theorem us7_5 : Cond.selects RX12 yX12_triesWithout yX12_triesWithout ∈ uw := uw_in (pv_7 (q := (yX12_triesWithout, 67)) (List.mem_of_getElem? (i := 5) rfl)) rfl
theorem us7_6 : Cond.selects RX12 yX12_strikesOf yX12_strikesOf ∈ uw := uw_in (pv_7 (q := (yX12_strikesOf, 67)) (List.mem_of_getElem? (i := 6) rfl)) rfl
theorem us7_7 : Cond.selects RX12 yX12_isAsFound yX12_isAsFound ∈ uw := uw_in (pv_7 (q := (yX12_isAsFound, 67)) (List.mem_of_getElem? (i := 7) rfl)) rfl
theorem us7_8 : Cond.selects RX12 yX12_wearBy yX12_wearBy ∈ uw := uw_in (pv_7 (q := (yX12_wearBy, 67)) (List.mem_of_getElem? (i := 8) rfl)) rfl
theorem us7_9 : Cond.selects RX12 yX12_isFound yX12_isFound ∈ uw := uw_in (pv_7 (q := (yX12_isFound, 67)) (List.mem_of_getElem? (i := 9) rfl)) rfl
theorem us7_10 : Cond.selects RX12 yX12_mostAlike yX12_mostAlike ∈ uw := uw_in (pv_7 (q := (yX12_mostAlike, 67)) (List.mem_of_getElem? (i := 10) rfl)) rfl
theorem us7_11 : Cond.selects RX12 yX12_draws yX12_draws ∈ uw := uw_in (pv_7 (q := (yX12_draws, 67)) (List.mem_of_getElem? (i := 11) rfl)) rfl
theorem us7_12 : Cond.selects RX12 yX12_badKeys yX12_badKeys ∈ uw := uw_in (pv_7 (q := (yX12_badKeys, 67)) (List.mem_of_getElem? (i := 12) rfl)) rfl
theorem us7_13 : Cond.selects RX12 yX12_laysFound yX12_laysFound ∈ uw := uw_in (pv_7 (q := (yX12_laysFound, 67)) (List.mem_of_getElem? (i := 13) rfl)) rfl
theorem ui_0 : ∀ w ∈ u_ws RX0 TX0 3, w ∈ uw := by
  intro w hw
  obtain ⟨k, hk, rfl⟩ := List.mem_map.mp hw
  have hk := List.mem_range.mp hk
  match k, hk with
  | 0, _ => exact uw2_66
  | 1, _ => exact uw2_68
  | 2, _ => exact uw2_70
  | k + 3, h => exact absurd h (by omega)
theorem ui_1 : ∀ w ∈ u_ws RX1 TX1 15, w ∈ uw := by
  intro w hw
  obtain ⟨k, hk, rfl⟩ := List.mem_map.mp hw
  have hk := List.mem_range.mp hk
  match k, hk with
  | 0, _ => exact uw2_124
  | 1, _ => exact uw2_126
  | 2, _ => exact uw2_128
  | 3, _ => exact uw2_130
  | 4, _ => exact uw2_132
  | 5, _ => exact uw2_134
  | 6, _ => exact uw2_136
  | 7, _ => exact uw2_138
  | 8, _ => exact uw2_140
  | 9, _ => exact uw2_142
  | 10, _ => exact uw2_144
  | 11, _ => exact uw2_146
  | 12, _ => exact uw2_148
  | 13, _ => exact uw2_150
  | 14, _ => exact uw2_152
  | k + 15, h => exact absurd h (by omega)
theorem ui_2 : ∀ w ∈ u_ws RX2 TX2 5, w ∈ uw := by
  intro w hw
  obtain ⟨k, hk, rfl⟩ := List.mem_map.mp hw
  have hk := List.mem_range.mp hk
  match k, hk with
  | 0, _ => exact uw1_105
  | 1, _ => exact uw1_107
  | 2, _ => exact uw1_109
  | 3, _ => exact uw1_111
  | 4, _ => exact uw1_113
  | k + 5, h => exact absurd h (by omega)
theorem ui_3 : ∀ w ∈ u_ws RX3 TX3 4, w ∈ uw := by
  intro w hw
  obtain ⟨k, hk, rfl⟩ := List.mem_map.mp hw
  have hk := List.mem_range.mp hk
  match k, hk with
  | 0, _ => exact uw2_173
  | 1, _ => exact uw2_175
  | 2, _ => exact uw2_177
  | 3, _ => exact uw2_179
  | k + 4, h => exact absurd h (by omega)
theorem ui_4 : ∀ w ∈ u_ws RX4 TX4 9, w ∈ uw := by
  intro w hw
  obtain ⟨k, hk, rfl⟩ := List.mem_map.mp hw
  have hk := List.mem_range.mp hk
  match k, hk with
  | 0, _ => exact uw1_147
  | 1, _ => exact uw1_149
  | 2, _ => exact uw1_151
  | 3, _ => exact uw1_153
  | 4, _ => exact uw1_155
  | 5, _ => exact uw1_157
  | 6, _ => exact uw1_159
  | 7, _ => exact uw1_161
  | 8, _ => exact uw1_163
  | k + 9, h => exact absurd h (by omega)
theorem ui_5 : ∀ w ∈ u_ws RX5 TX5 3, w ∈ uw := by
  intro w hw
  obtain ⟨k, hk, rfl⟩ := List.mem_map.mp hw
  have hk := List.mem_range.mp hk
  match k, hk with
  | 0, _ => exact uw1_76
  | 1, _ => exact uw1_78
  | 2, _ => exact uw1_80
  | k + 3, h => exact absurd h (by omega)
theorem ui_6 : ∀ w ∈ u_ws RX6 TX6 6, w ∈ uw := by
  intro w hw
  obtain ⟨k, hk, rfl⟩ := List.mem_map.mp hw
  have hk := List.mem_range.mp hk
  match k, hk with
  | 0, _ => exact uw2_19
  | 1, _ => exact uw2_21
  | 2, _ => exact uw2_23
  | 3, _ => exact uw2_25
  | 4, _ => exact uw2_27
  | 5, _ => exact uw2_29
  | k + 6, h => exact absurd h (by omega)
theorem ui_7 : ∀ w ∈ u_ws RX7 TX7 14, w ∈ uw := by
  intro w hw
  obtain ⟨k, hk, rfl⟩ := List.mem_map.mp hw
  have hk := List.mem_range.mp hk
  match k, hk with
  | 0, _ => exact uw1_209
  | 1, _ => exact uw1_211
  | 2, _ => exact uw1_213
  | 3, _ => exact uw1_215
  | 4, _ => exact uw1_217
  | 5, _ => exact uw1_219
  | 6, _ => exact uw1_221
  | 7, _ => exact uw1_223
  | 8, _ => exact uw1_225
  | 9, _ => exact uw1_227
  | 10, _ => exact uw1_229
  | 11, _ => exact uw1_231
  | 12, _ => exact uw1_233
  | 13, _ => exact uw1_235
  | k + 14, h => exact absurd h (by omega)
theorem ui_8 : ∀ w ∈ u_ws RX8 TX8 5, w ∈ uw := by
  intro w hw
  obtain ⟨k, hk, rfl⟩ := List.mem_map.mp hw
  have hk := List.mem_range.mp hk
  match k, hk with
  | 0, _ => exact uw2_87
  | 1, _ => exact uw2_89
  | 2, _ => exact uw2_91
  | 3, _ => exact uw2_93
  | 4, _ => exact uw2_95
  | k + 5, h => exact absurd h (by omega)
theorem ui_9 : ∀ w ∈ u_ws RX9 TX9 7, w ∈ uw := by
  intro w hw
  obtain ⟨k, hk, rfl⟩ := List.mem_map.mp hw
  have hk := List.mem_range.mp hk
  match k, hk with
  | 0, _ => exact uw1_51
  | 1, _ => exact uw1_53
  | 2, _ => exact uw1_55
  | 3, _ => exact uw1_57
  | 4, _ => exact uw1_59
  | 5, _ => exact uw1_61
  | 6, _ => exact uw1_63
  | k + 7, h => exact absurd h (by omega)
theorem ui_10 : ∀ w ∈ u_ws RX10 TX10 4, w ∈ uw := by
  intro w hw
  obtain ⟨k, hk, rfl⟩ := List.mem_map.mp hw
  have hk := List.mem_range.mp hk
  match k, hk with
  | 0, _ => exact uw2_47
  | 1, _ => exact uw2_49
  | 2, _ => exact uw2_51
  | 3, _ => exact uw2_53
  | k + 4, h => exact absurd h (by omega)
theorem ui_11 : ∀ w ∈ u_ws RX11 TX11 17, w ∈ uw := by
  intro w hw
  obtain ⟨k, hk, rfl⟩ := List.mem_map.mp hw
  have hk := List.mem_range.mp hk
  match k, hk with
  | 0, _ => exact uw2_200
  | 1, _ => exact uw2_202
  | 2, _ => exact uw2_204
  | 3, _ => exact uw2_206
  | 4, _ => exact uw2_208
  | 5, _ => exact uw2_210
  | 6, _ => exact uw2_212
  | 7, _ => exact uw2_214
  | 8, _ => exact uw2_216
  | 9, _ => exact uw2_218
  | 10, _ => exact uw2_220
  | 11, _ => exact uw2_222
  | 12, _ => exact uw2_224
  | 13, _ => exact uw2_226
  | 14, _ => exact uw2_228
  | 15, _ => exact uw2_230
  | 16, _ => exact uw2_232
  | k + 17, h => exact absurd h (by omega)
theorem ui_12 : ∀ w ∈ u_ws RX12 TX12 67, w ∈ uw := by
  intro w hw
  obtain ⟨k, hk, rfl⟩ := List.mem_map.mp hw
  have hk := List.mem_range.mp hk
  match k, hk with
  | 0, _ => exact uw6_47
  | 1, _ => exact uw6_49
  | 2, _ => exact uw6_51
  | 3, _ => exact uw6_53
  | 4, _ => exact uw6_55
  | 5, _ => exact uw6_57
  | 6, _ => exact uw6_59
  | 7, _ => exact uw6_61
  | 8, _ => exact uw6_63
  | 9, _ => exact uw6_65
  | 10, _ => exact uw6_67
  | 11, _ => exact uw6_69
  | 12, _ => exact uw6_71
  | 13, _ => exact uw6_73
  | 14, _ => exact uw6_75
  | 15, _ => exact uw6_77
  | 16, _ => exact uw6_79
  | 17, _ => exact uw6_81
  | 18, _ => exact uw6_83
  | 19, _ => exact uw6_85
  | 20, _ => exact uw6_87
  | 21, _ => exact uw6_89
  | 22, _ => exact uw6_91
  | 23, _ => exact uw6_93
  | 24, _ => exact uw6_95
  | 25, _ => exact uw6_97
  | 26, _ => exact uw6_99
  | 27, _ => exact uw6_101
  | 28, _ => exact uw6_103
  | 29, _ => exact uw6_105
  | 30, _ => exact uw6_107
  | 31, _ => exact uw6_109
  | 32, _ => exact uw6_111
  | 33, _ => exact uw6_113
  | 34, _ => exact uw6_115
  | 35, _ => exact uw6_117
  | 36, _ => exact uw6_119
  | 37, _ => exact uw6_121
  | 38, _ => exact uw6_123
  | 39, _ => exact uw6_125
  | 40, _ => exact uw6_127
  | 41, _ => exact uw6_129
  | 42, _ => exact uw6_131
  | 43, _ => exact uw6_133
  | 44, _ => exact uw6_135
  | 45, _ => exact uw6_137
  | 46, _ => exact uw6_139
  | 47, _ => exact uw6_141
  | 48, _ => exact uw6_143
  | 49, _ => exact uw6_145
  | 50, _ => exact uw6_147
  | 51, _ => exact uw6_149
  | 52, _ => exact uw6_151
  | 53, _ => exact uw6_153
  | 54, _ => exact uw6_155
  | 55, _ => exact uw6_157
  | 56, _ => exact uw6_159
  | 57, _ => exact uw6_161
  | 58, _ => exact uw6_163
  | 59, _ => exact uw6_165
  | 60, _ => exact uw6_167
  | 61, _ => exact uw6_169
  | 62, _ => exact uw6_171
  | 63, _ => exact uw6_173
  | 64, _ => exact uw6_175
  | 65, _ => exact uw6_177
  | 66, _ => exact uw6_179
  | k + 67, h => exact absurd h (by omega)
