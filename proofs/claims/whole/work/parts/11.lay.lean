/-! the layouts: the kinds and lengths of the cells, in the order in which the constructors make them -/
def Lp_k : List Nat := [11, 9, 13, 5, 7, 15, 14, 20, 14, 14, 14, 14, 14, 18, 2, 14, 14, 2, 14, 14, 4, 14, 4, 14, 4, 14, 4, 14, 4, 14, 4, 14, 4, 14, 7, 15, 14, 20, 14, 14, 14, 14, 14, 18, 2, 14, 14, 2, 14, 14, 4, 14, 4, 14, 4, 14, 4, 14, 4, 14, 4, 14, 4, 14, 6, 14, 6, 14, 10, 14, 14, 14, 10, 14, 14, 14, 0, 14, 14, 8, 14, 14, 1, 14, 14, 14, 14, 14, 14, 14, 14, 17, 3, 6, 14, 10, 14, 14, 14, 0, 14, 14, 3, 6, 14, 10, 14, 14, 14, 0, 14, 14, 3, 6, 14, 10, 14, 14, 14, 0, 14, 14, 3, 6, 14, 10, 14, 14, 14, 0, 14, 14, 19, 6, 14, 6, 14, 6, 14, 6, 14, 6, 14, 6, 14, 6, 14, 6, 14, 6, 14, 6, 14, 6, 14, 6, 14, 6, 14, 6, 14, 6, 14, 6, 14, 14]
def Lp_n : List Nat := [0, 0, 1000, 0, 0, 5, 5, 5, 9, 9, 9, 9, 9, 7, 0, 1000, 32, 0, 1000, 32, 0, 18, 0, 18, 0, 18, 0, 18, 0, 18, 0, 18, 0, 18, 0, 5, 5, 5, 9, 9, 9, 9, 9, 7, 0, 1000, 32, 0, 1000, 32, 0, 18, 0, 18, 0, 18, 0, 18, 0, 18, 0, 18, 0, 18, 0, 12, 0, 12, 0, 40, 40, 40, 0, 40, 40, 40, 0, 8, 8, 0, 12, 120, 0, 7, 7, 7, 7, 70, 6, 5, 7, 4, 0, 0, 12, 0, 40, 40, 40, 0, 8, 8, 0, 0, 12, 0, 40, 40, 40, 0, 8, 8, 0, 0, 12, 0, 40, 40, 40, 0, 8, 8, 0, 0, 12, 0, 40, 40, 40, 0, 8, 8, 16, 0, 12, 0, 12, 0, 12, 0, 12, 0, 12, 0, 12, 0, 12, 0, 12, 0, 12, 0, 12, 0, 12, 0, 12, 0, 12, 0, 12, 0, 12, 0, 12, 3]
def Lp : Ly := (fun i => Lp_k.getD i 99, fun i => Lp_n.getD i 0, 166)
theorem Lp_N {i c : Nat} (h : Lp.1 i = c) (hc : Nat.blt c 99 = true) : i < Lp.2.2 := by
  rcases Nat.lt_or_ge i 166 with q | q
  · exact q
  · exfalso
    have h2 : Lp.1 i = 99 := by
      show Lp_k.getD i 99 = 99
      rw [List.getD_eq_getElem?_getD, List.getElem?_eq_none (show Lp_k.length ≤ i from q)]
      rfl
    rw [h2] at h
    subst h
    cases hc
theorem Lpk_0 : Lp.1 0 = 11 := rfl
theorem Lpk_1 : Lp.1 1 = 9 := rfl
theorem Lpk_2 : Lp.1 2 = 13 := rfl
theorem Lpn_2 : Lp.2.1 2 = 1000 := rfl
theorem Lpk_3 : Lp.1 3 = 5 := rfl
theorem Lpk_4 : Lp.1 4 = 7 := rfl
theorem Lpk_5 : Lp.1 5 = 15 := rfl
theorem Lpn_5 : Lp.2.1 5 = 5 := rfl
theorem Lpk_6 : Lp.1 6 = 14 := rfl
theorem Lpn_6 : Lp.2.1 6 = 5 := rfl
theorem Lpk_7 : Lp.1 7 = 20 := rfl
theorem Lpn_7 : Lp.2.1 7 = 5 := rfl
theorem Lpk_8 : Lp.1 8 = 14 := rfl
theorem Lpn_8 : Lp.2.1 8 = 9 := rfl
theorem Lpk_9 : Lp.1 9 = 14 := rfl
theorem Lpn_9 : Lp.2.1 9 = 9 := rfl
theorem Lpk_10 : Lp.1 10 = 14 := rfl
theorem Lpn_10 : Lp.2.1 10 = 9 := rfl
theorem Lpk_11 : Lp.1 11 = 14 := rfl
theorem Lpn_11 : Lp.2.1 11 = 9 := rfl
theorem Lpk_12 : Lp.1 12 = 14 := rfl
theorem Lpn_12 : Lp.2.1 12 = 9 := rfl
theorem Lpk_13 : Lp.1 13 = 18 := rfl
theorem Lpn_13 : Lp.2.1 13 = 7 := rfl
theorem Lpk_14 : Lp.1 14 = 2 := rfl
theorem Lpk_15 : Lp.1 15 = 14 := rfl
theorem Lpn_15 : Lp.2.1 15 = 1000 := rfl
theorem Lpk_16 : Lp.1 16 = 14 := rfl
theorem Lpn_16 : Lp.2.1 16 = 32 := rfl
theorem Lpk_17 : Lp.1 17 = 2 := rfl
theorem Lpk_18 : Lp.1 18 = 14 := rfl
theorem Lpn_18 : Lp.2.1 18 = 1000 := rfl
theorem Lpk_19 : Lp.1 19 = 14 := rfl
theorem Lpn_19 : Lp.2.1 19 = 32 := rfl
theorem Lpk_20 : Lp.1 20 = 4 := rfl
theorem Lpk_21 : Lp.1 21 = 14 := rfl
theorem Lpn_21 : Lp.2.1 21 = 18 := rfl
theorem Lpk_22 : Lp.1 22 = 4 := rfl
theorem Lpk_23 : Lp.1 23 = 14 := rfl
theorem Lpn_23 : Lp.2.1 23 = 18 := rfl
theorem Lpk_24 : Lp.1 24 = 4 := rfl
theorem Lpk_25 : Lp.1 25 = 14 := rfl
theorem Lpn_25 : Lp.2.1 25 = 18 := rfl
theorem Lpk_26 : Lp.1 26 = 4 := rfl
theorem Lpk_27 : Lp.1 27 = 14 := rfl
theorem Lpn_27 : Lp.2.1 27 = 18 := rfl
theorem Lpk_28 : Lp.1 28 = 4 := rfl
theorem Lpk_29 : Lp.1 29 = 14 := rfl
theorem Lpn_29 : Lp.2.1 29 = 18 := rfl
theorem Lpk_30 : Lp.1 30 = 4 := rfl
theorem Lpk_31 : Lp.1 31 = 14 := rfl
theorem Lpn_31 : Lp.2.1 31 = 18 := rfl
theorem Lpk_32 : Lp.1 32 = 4 := rfl
theorem Lpk_33 : Lp.1 33 = 14 := rfl
theorem Lpn_33 : Lp.2.1 33 = 18 := rfl
theorem Lpk_34 : Lp.1 34 = 7 := rfl
theorem Lpk_35 : Lp.1 35 = 15 := rfl
theorem Lpn_35 : Lp.2.1 35 = 5 := rfl
theorem Lpk_36 : Lp.1 36 = 14 := rfl
theorem Lpn_36 : Lp.2.1 36 = 5 := rfl
theorem Lpk_37 : Lp.1 37 = 20 := rfl
theorem Lpn_37 : Lp.2.1 37 = 5 := rfl
theorem Lpk_38 : Lp.1 38 = 14 := rfl
theorem Lpn_38 : Lp.2.1 38 = 9 := rfl
theorem Lpk_39 : Lp.1 39 = 14 := rfl
theorem Lpn_39 : Lp.2.1 39 = 9 := rfl
theorem Lpk_40 : Lp.1 40 = 14 := rfl
theorem Lpn_40 : Lp.2.1 40 = 9 := rfl
theorem Lpk_41 : Lp.1 41 = 14 := rfl
theorem Lpn_41 : Lp.2.1 41 = 9 := rfl
theorem Lpk_42 : Lp.1 42 = 14 := rfl
theorem Lpn_42 : Lp.2.1 42 = 9 := rfl
theorem Lpk_43 : Lp.1 43 = 18 := rfl
theorem Lpn_43 : Lp.2.1 43 = 7 := rfl
theorem Lpk_44 : Lp.1 44 = 2 := rfl
theorem Lpk_45 : Lp.1 45 = 14 := rfl
theorem Lpn_45 : Lp.2.1 45 = 1000 := rfl
theorem Lpk_46 : Lp.1 46 = 14 := rfl
theorem Lpn_46 : Lp.2.1 46 = 32 := rfl
theorem Lpk_47 : Lp.1 47 = 2 := rfl
theorem Lpk_48 : Lp.1 48 = 14 := rfl
theorem Lpn_48 : Lp.2.1 48 = 1000 := rfl
theorem Lpk_49 : Lp.1 49 = 14 := rfl
theorem Lpn_49 : Lp.2.1 49 = 32 := rfl
theorem Lpk_50 : Lp.1 50 = 4 := rfl
theorem Lpk_51 : Lp.1 51 = 14 := rfl
theorem Lpn_51 : Lp.2.1 51 = 18 := rfl
theorem Lpk_52 : Lp.1 52 = 4 := rfl
theorem Lpk_53 : Lp.1 53 = 14 := rfl
theorem Lpn_53 : Lp.2.1 53 = 18 := rfl
theorem Lpk_54 : Lp.1 54 = 4 := rfl
theorem Lpk_55 : Lp.1 55 = 14 := rfl
theorem Lpn_55 : Lp.2.1 55 = 18 := rfl
theorem Lpk_56 : Lp.1 56 = 4 := rfl
theorem Lpk_57 : Lp.1 57 = 14 := rfl
theorem Lpn_57 : Lp.2.1 57 = 18 := rfl
theorem Lpk_58 : Lp.1 58 = 4 := rfl
theorem Lpk_59 : Lp.1 59 = 14 := rfl
theorem Lpn_59 : Lp.2.1 59 = 18 := rfl
theorem Lpk_60 : Lp.1 60 = 4 := rfl
theorem Lpk_61 : Lp.1 61 = 14 := rfl
theorem Lpn_61 : Lp.2.1 61 = 18 := rfl
theorem Lpk_62 : Lp.1 62 = 4 := rfl
theorem Lpk_63 : Lp.1 63 = 14 := rfl
theorem Lpn_63 : Lp.2.1 63 = 18 := rfl
theorem Lpk_64 : Lp.1 64 = 6 := rfl
theorem Lpk_65 : Lp.1 65 = 14 := rfl
theorem Lpn_65 : Lp.2.1 65 = 12 := rfl
theorem Lpk_66 : Lp.1 66 = 6 := rfl
theorem Lpk_67 : Lp.1 67 = 14 := rfl
theorem Lpn_67 : Lp.2.1 67 = 12 := rfl
theorem Lpk_68 : Lp.1 68 = 10 := rfl
theorem Lpk_69 : Lp.1 69 = 14 := rfl
theorem Lpn_69 : Lp.2.1 69 = 40 := rfl
theorem Lpk_70 : Lp.1 70 = 14 := rfl
theorem Lpn_70 : Lp.2.1 70 = 40 := rfl
theorem Lpk_71 : Lp.1 71 = 14 := rfl
theorem Lpn_71 : Lp.2.1 71 = 40 := rfl
theorem Lpk_72 : Lp.1 72 = 10 := rfl
theorem Lpk_73 : Lp.1 73 = 14 := rfl
theorem Lpn_73 : Lp.2.1 73 = 40 := rfl
theorem Lpk_74 : Lp.1 74 = 14 := rfl
theorem Lpn_74 : Lp.2.1 74 = 40 := rfl
theorem Lpk_75 : Lp.1 75 = 14 := rfl
theorem Lpn_75 : Lp.2.1 75 = 40 := rfl
theorem Lpk_76 : Lp.1 76 = 0 := rfl
theorem Lpk_77 : Lp.1 77 = 14 := rfl
theorem Lpn_77 : Lp.2.1 77 = 8 := rfl
theorem Lpk_78 : Lp.1 78 = 14 := rfl
theorem Lpn_78 : Lp.2.1 78 = 8 := rfl
theorem Lpk_79 : Lp.1 79 = 8 := rfl
theorem Lpk_80 : Lp.1 80 = 14 := rfl
theorem Lpn_80 : Lp.2.1 80 = 12 := rfl
theorem Lpk_81 : Lp.1 81 = 14 := rfl
theorem Lpn_81 : Lp.2.1 81 = 120 := rfl
theorem Lpk_82 : Lp.1 82 = 1 := rfl
theorem Lpk_83 : Lp.1 83 = 14 := rfl
theorem Lpn_83 : Lp.2.1 83 = 7 := rfl
theorem Lpk_84 : Lp.1 84 = 14 := rfl
theorem Lpn_84 : Lp.2.1 84 = 7 := rfl
theorem Lpk_85 : Lp.1 85 = 14 := rfl
theorem Lpn_85 : Lp.2.1 85 = 7 := rfl
theorem Lpk_86 : Lp.1 86 = 14 := rfl
theorem Lpn_86 : Lp.2.1 86 = 7 := rfl
theorem Lpk_87 : Lp.1 87 = 14 := rfl
theorem Lpn_87 : Lp.2.1 87 = 70 := rfl
theorem Lpk_88 : Lp.1 88 = 14 := rfl
theorem Lpn_88 : Lp.2.1 88 = 6 := rfl
theorem Lpk_89 : Lp.1 89 = 14 := rfl
theorem Lpn_89 : Lp.2.1 89 = 5 := rfl
theorem Lpk_90 : Lp.1 90 = 14 := rfl
theorem Lpn_90 : Lp.2.1 90 = 7 := rfl
theorem Lpk_91 : Lp.1 91 = 17 := rfl
theorem Lpn_91 : Lp.2.1 91 = 4 := rfl
theorem Lpk_92 : Lp.1 92 = 3 := rfl
theorem Lpk_93 : Lp.1 93 = 6 := rfl
theorem Lpk_94 : Lp.1 94 = 14 := rfl
theorem Lpn_94 : Lp.2.1 94 = 12 := rfl
theorem Lpk_95 : Lp.1 95 = 10 := rfl
theorem Lpk_96 : Lp.1 96 = 14 := rfl
theorem Lpn_96 : Lp.2.1 96 = 40 := rfl
theorem Lpk_97 : Lp.1 97 = 14 := rfl
theorem Lpn_97 : Lp.2.1 97 = 40 := rfl
theorem Lpk_98 : Lp.1 98 = 14 := rfl
theorem Lpn_98 : Lp.2.1 98 = 40 := rfl
theorem Lpk_99 : Lp.1 99 = 0 := rfl
theorem Lpk_100 : Lp.1 100 = 14 := rfl
theorem Lpn_100 : Lp.2.1 100 = 8 := rfl
theorem Lpk_101 : Lp.1 101 = 14 := rfl
theorem Lpn_101 : Lp.2.1 101 = 8 := rfl
theorem Lpk_102 : Lp.1 102 = 3 := rfl
theorem Lpk_103 : Lp.1 103 = 6 := rfl
theorem Lpk_104 : Lp.1 104 = 14 := rfl
theorem Lpn_104 : Lp.2.1 104 = 12 := rfl
theorem Lpk_105 : Lp.1 105 = 10 := rfl
theorem Lpk_106 : Lp.1 106 = 14 := rfl
theorem Lpn_106 : Lp.2.1 106 = 40 := rfl
theorem Lpk_107 : Lp.1 107 = 14 := rfl
theorem Lpn_107 : Lp.2.1 107 = 40 := rfl
theorem Lpk_108 : Lp.1 108 = 14 := rfl
theorem Lpn_108 : Lp.2.1 108 = 40 := rfl
theorem Lpk_109 : Lp.1 109 = 0 := rfl
theorem Lpk_110 : Lp.1 110 = 14 := rfl
theorem Lpn_110 : Lp.2.1 110 = 8 := rfl
theorem Lpk_111 : Lp.1 111 = 14 := rfl
theorem Lpn_111 : Lp.2.1 111 = 8 := rfl
theorem Lpk_112 : Lp.1 112 = 3 := rfl
theorem Lpk_113 : Lp.1 113 = 6 := rfl
theorem Lpk_114 : Lp.1 114 = 14 := rfl
theorem Lpn_114 : Lp.2.1 114 = 12 := rfl
theorem Lpk_115 : Lp.1 115 = 10 := rfl
theorem Lpk_116 : Lp.1 116 = 14 := rfl
theorem Lpn_116 : Lp.2.1 116 = 40 := rfl
theorem Lpk_117 : Lp.1 117 = 14 := rfl
theorem Lpn_117 : Lp.2.1 117 = 40 := rfl
theorem Lpk_118 : Lp.1 118 = 14 := rfl
theorem Lpn_118 : Lp.2.1 118 = 40 := rfl
theorem Lpk_119 : Lp.1 119 = 0 := rfl
theorem Lpk_120 : Lp.1 120 = 14 := rfl
theorem Lpn_120 : Lp.2.1 120 = 8 := rfl
theorem Lpk_121 : Lp.1 121 = 14 := rfl
theorem Lpn_121 : Lp.2.1 121 = 8 := rfl
theorem Lpk_122 : Lp.1 122 = 3 := rfl
theorem Lpk_123 : Lp.1 123 = 6 := rfl
theorem Lpk_124 : Lp.1 124 = 14 := rfl
theorem Lpn_124 : Lp.2.1 124 = 12 := rfl
theorem Lpk_125 : Lp.1 125 = 10 := rfl
theorem Lpk_126 : Lp.1 126 = 14 := rfl
theorem Lpn_126 : Lp.2.1 126 = 40 := rfl
theorem Lpk_127 : Lp.1 127 = 14 := rfl
theorem Lpn_127 : Lp.2.1 127 = 40 := rfl
theorem Lpk_128 : Lp.1 128 = 14 := rfl
theorem Lpn_128 : Lp.2.1 128 = 40 := rfl
theorem Lpk_129 : Lp.1 129 = 0 := rfl
theorem Lpk_130 : Lp.1 130 = 14 := rfl
theorem Lpn_130 : Lp.2.1 130 = 8 := rfl
theorem Lpk_131 : Lp.1 131 = 14 := rfl
theorem Lpn_131 : Lp.2.1 131 = 8 := rfl
theorem Lpk_132 : Lp.1 132 = 19 := rfl
theorem Lpn_132 : Lp.2.1 132 = 16 := rfl
theorem Lpk_133 : Lp.1 133 = 6 := rfl
theorem Lpk_134 : Lp.1 134 = 14 := rfl
theorem Lpn_134 : Lp.2.1 134 = 12 := rfl
theorem Lpk_135 : Lp.1 135 = 6 := rfl
theorem Lpk_136 : Lp.1 136 = 14 := rfl
theorem Lpn_136 : Lp.2.1 136 = 12 := rfl
theorem Lpk_137 : Lp.1 137 = 6 := rfl
theorem Lpk_138 : Lp.1 138 = 14 := rfl
theorem Lpn_138 : Lp.2.1 138 = 12 := rfl
theorem Lpk_139 : Lp.1 139 = 6 := rfl
theorem Lpk_140 : Lp.1 140 = 14 := rfl
theorem Lpn_140 : Lp.2.1 140 = 12 := rfl
theorem Lpk_141 : Lp.1 141 = 6 := rfl
theorem Lpk_142 : Lp.1 142 = 14 := rfl
theorem Lpn_142 : Lp.2.1 142 = 12 := rfl
theorem Lpk_143 : Lp.1 143 = 6 := rfl
theorem Lpk_144 : Lp.1 144 = 14 := rfl
theorem Lpn_144 : Lp.2.1 144 = 12 := rfl
theorem Lpk_145 : Lp.1 145 = 6 := rfl
theorem Lpk_146 : Lp.1 146 = 14 := rfl
theorem Lpn_146 : Lp.2.1 146 = 12 := rfl
theorem Lpk_147 : Lp.1 147 = 6 := rfl
theorem Lpk_148 : Lp.1 148 = 14 := rfl
theorem Lpn_148 : Lp.2.1 148 = 12 := rfl
theorem Lpk_149 : Lp.1 149 = 6 := rfl
theorem Lpk_150 : Lp.1 150 = 14 := rfl
theorem Lpn_150 : Lp.2.1 150 = 12 := rfl
theorem Lpk_151 : Lp.1 151 = 6 := rfl
theorem Lpk_152 : Lp.1 152 = 14 := rfl
theorem Lpn_152 : Lp.2.1 152 = 12 := rfl
theorem Lpk_153 : Lp.1 153 = 6 := rfl
theorem Lpk_154 : Lp.1 154 = 14 := rfl
theorem Lpn_154 : Lp.2.1 154 = 12 := rfl
theorem Lpk_155 : Lp.1 155 = 6 := rfl
theorem Lpk_156 : Lp.1 156 = 14 := rfl
theorem Lpn_156 : Lp.2.1 156 = 12 := rfl
theorem Lpk_157 : Lp.1 157 = 6 := rfl
theorem Lpk_158 : Lp.1 158 = 14 := rfl
theorem Lpn_158 : Lp.2.1 158 = 12 := rfl
theorem Lpk_159 : Lp.1 159 = 6 := rfl
theorem Lpk_160 : Lp.1 160 = 14 := rfl
theorem Lpn_160 : Lp.2.1 160 = 12 := rfl
theorem Lpk_161 : Lp.1 161 = 6 := rfl
theorem Lpk_162 : Lp.1 162 = 14 := rfl
theorem Lpn_162 : Lp.2.1 162 = 12 := rfl
theorem Lpk_163 : Lp.1 163 = 6 := rfl
theorem Lpk_164 : Lp.1 164 = 14 := rfl
theorem Lpn_164 : Lp.2.1 164 = 12 := rfl
theorem Lpk_165 : Lp.1 165 = 14 := rfl
theorem Lpn_165 : Lp.2.1 165 = 3 := rfl
theorem Lp_0_0 {i : Nat} (h : Lp.1 i = 0) : Lp.1 (i + 1) = 14 := (by decide +kernel : ∀ i, i < 166 → Lp.1 i = 0 → Lp.1 (i + 1) = 14) i (Lp_N h rfl) h
theorem Lp_0_1 {i : Nat} (h : Lp.1 i = 0) : Lp.1 (i + 2) = 14 := (by decide +kernel : ∀ i, i < 166 → Lp.1 i = 0 → Lp.1 (i + 2) = 14) i (Lp_N h rfl) h
theorem Lp_1_0 {i : Nat} (h : Lp.1 i = 1) : Lp.1 (i + 1) = 14 := (by decide +kernel : ∀ i, i < 166 → Lp.1 i = 1 → Lp.1 (i + 1) = 14) i (Lp_N h rfl) h
theorem Lp_1_1 {i : Nat} (h : Lp.1 i = 1) : Lp.1 (i + 2) = 14 := (by decide +kernel : ∀ i, i < 166 → Lp.1 i = 1 → Lp.1 (i + 2) = 14) i (Lp_N h rfl) h
theorem Lp_1_2 {i : Nat} (h : Lp.1 i = 1) : Lp.1 (i + 3) = 14 := (by decide +kernel : ∀ i, i < 166 → Lp.1 i = 1 → Lp.1 (i + 3) = 14) i (Lp_N h rfl) h
theorem Lp_1_3 {i : Nat} (h : Lp.1 i = 1) : Lp.1 (i + 4) = 14 := (by decide +kernel : ∀ i, i < 166 → Lp.1 i = 1 → Lp.1 (i + 4) = 14) i (Lp_N h rfl) h
theorem Lp_1_4 {i : Nat} (h : Lp.1 i = 1) : Lp.1 (i + 5) = 14 := (by decide +kernel : ∀ i, i < 166 → Lp.1 i = 1 → Lp.1 (i + 5) = 14) i (Lp_N h rfl) h
theorem Lp_1_5 {i : Nat} (h : Lp.1 i = 1) : Lp.1 (i + 6) = 14 := (by decide +kernel : ∀ i, i < 166 → Lp.1 i = 1 → Lp.1 (i + 6) = 14) i (Lp_N h rfl) h
theorem Lp_1_6 {i : Nat} (h : Lp.1 i = 1) : Lp.1 (i + 7) = 14 := (by decide +kernel : ∀ i, i < 166 → Lp.1 i = 1 → Lp.1 (i + 7) = 14) i (Lp_N h rfl) h
theorem Lp_1_7 {i : Nat} (h : Lp.1 i = 1) : Lp.1 (i + 8) = 14 := (by decide +kernel : ∀ i, i < 166 → Lp.1 i = 1 → Lp.1 (i + 8) = 14) i (Lp_N h rfl) h
theorem Lp_2_0 {i : Nat} (h : Lp.1 i = 2) : Lp.1 (i + 1) = 14 := (by decide +kernel : ∀ i, i < 166 → Lp.1 i = 2 → Lp.1 (i + 1) = 14) i (Lp_N h rfl) h
theorem Lp_2_1 {i : Nat} (h : Lp.1 i = 2) : Lp.1 (i + 2) = 14 := (by decide +kernel : ∀ i, i < 166 → Lp.1 i = 2 → Lp.1 (i + 2) = 14) i (Lp_N h rfl) h
theorem Lp_3_0 {i : Nat} (h : Lp.1 i = 3) : Lp.1 (i + 1) = 6 := (by decide +kernel : ∀ i, i < 166 → Lp.1 i = 3 → Lp.1 (i + 1) = 6) i (Lp_N h rfl) h
theorem Lp_3_1 {i : Nat} (h : Lp.1 i = 3) : Lp.1 (i + 3) = 10 := (by decide +kernel : ∀ i, i < 166 → Lp.1 i = 3 → Lp.1 (i + 3) = 10) i (Lp_N h rfl) h
theorem Lp_3_2 {i : Nat} (h : Lp.1 i = 3) : Lp.1 (i + 7) = 0 := (by decide +kernel : ∀ i, i < 166 → Lp.1 i = 3 → Lp.1 (i + 7) = 0) i (Lp_N h rfl) h
theorem Lp_4_0 {i : Nat} (h : Lp.1 i = 4) : Lp.1 (i + 1) = 14 := (by decide +kernel : ∀ i, i < 166 → Lp.1 i = 4 → Lp.1 (i + 1) = 14) i (Lp_N h rfl) h
theorem Lp_5_0 {i : Nat} (h : Lp.1 i = 5) : Lp.1 (i - 2) = 9 := (by decide +kernel : ∀ i, i < 166 → Lp.1 i = 5 → Lp.1 (i - 2) = 9) i (Lp_N h rfl) h
theorem Lp_6_0 {i : Nat} (h : Lp.1 i = 6) : Lp.1 (i + 1) = 14 := (by decide +kernel : ∀ i, i < 166 → Lp.1 i = 6 → Lp.1 (i + 1) = 14) i (Lp_N h rfl) h
theorem Lp_7_0 {i : Nat} (h : Lp.1 i = 7) : Lp.1 (i + 1) = 15 := (by decide +kernel : ∀ i, i < 166 → Lp.1 i = 7 → Lp.1 (i + 1) = 15) i (Lp_N h rfl) h
theorem Lp_7_1 {i : Nat} (h : Lp.1 i = 7) : Lp.1 (i + 2) = 14 := (by decide +kernel : ∀ i, i < 166 → Lp.1 i = 7 → Lp.1 (i + 2) = 14) i (Lp_N h rfl) h
theorem Lp_7_2 {i : Nat} (h : Lp.1 i = 7) : Lp.1 (i + 3) = 20 := (by decide +kernel : ∀ i, i < 166 → Lp.1 i = 7 → Lp.1 (i + 3) = 20) i (Lp_N h rfl) h
theorem Lp_7_3 {i : Nat} (h : Lp.1 i = 7) : Lp.1 (i + 9) = 18 := (by decide +kernel : ∀ i, i < 166 → Lp.1 i = 7 → Lp.1 (i + 9) = 18) i (Lp_N h rfl) h
theorem Lp_7_4 {i : Nat} (h : Lp.1 i = 7) : Lp.1 (i + 10) = 2 := (by decide +kernel : ∀ i, i < 166 → Lp.1 i = 7 → Lp.1 (i + 10) = 2) i (Lp_N h rfl) h
theorem Lp_7_5 {i : Nat} (h : Lp.1 i = 7) : Lp.1 (i + 13) = 2 := (by decide +kernel : ∀ i, i < 166 → Lp.1 i = 7 → Lp.1 (i + 13) = 2) i (Lp_N h rfl) h
theorem Lp_8_0 {i : Nat} (h : Lp.1 i = 8) : Lp.1 (i + 1) = 14 := (by decide +kernel : ∀ i, i < 166 → Lp.1 i = 8 → Lp.1 (i + 1) = 14) i (Lp_N h rfl) h
theorem Lp_8_1 {i : Nat} (h : Lp.1 i = 8) : Lp.1 (i + 2) = 14 := (by decide +kernel : ∀ i, i < 166 → Lp.1 i = 8 → Lp.1 (i + 2) = 14) i (Lp_N h rfl) h
theorem Lp_9_0 {i : Nat} (h : Lp.1 i = 9) : Lp.1 (i + 1) = 13 := (by decide +kernel : ∀ i, i < 166 → Lp.1 i = 9 → Lp.1 (i + 1) = 13) i (Lp_N h rfl) h
theorem Lp_10_0 {i : Nat} (h : Lp.1 i = 10) : Lp.1 (i + 1) = 14 := (by decide +kernel : ∀ i, i < 166 → Lp.1 i = 10 → Lp.1 (i + 1) = 14) i (Lp_N h rfl) h
theorem Lp_10_1 {i : Nat} (h : Lp.1 i = 10) : Lp.1 (i + 2) = 14 := (by decide +kernel : ∀ i, i < 166 → Lp.1 i = 10 → Lp.1 (i + 2) = 14) i (Lp_N h rfl) h
theorem Lp_10_2 {i : Nat} (h : Lp.1 i = 10) : Lp.1 (i + 3) = 14 := (by decide +kernel : ∀ i, i < 166 → Lp.1 i = 10 → Lp.1 (i + 3) = 14) i (Lp_N h rfl) h
theorem Lp_11_0 {i : Nat} (h : Lp.1 i = 11) : Lp.1 (i + 1) = 9 := (by decide +kernel : ∀ i, i < 166 → Lp.1 i = 11 → Lp.1 (i + 1) = 9) i (Lp_N h rfl) h
theorem Lp_11_1 {i : Nat} (h : Lp.1 i = 11) : Lp.1 (i + 3) = 5 := (by decide +kernel : ∀ i, i < 166 → Lp.1 i = 11 → Lp.1 (i + 3) = 5) i (Lp_N h rfl) h
theorem Lp_11_4 {i : Nat} (h : Lp.1 i = 11) : Lp.1 (i + 64) = 6 := (by decide +kernel : ∀ i, i < 166 → Lp.1 i = 11 → Lp.1 (i + 64) = 6) i (Lp_N h rfl) h
theorem Lp_11_5 {i : Nat} (h : Lp.1 i = 11) : Lp.1 (i + 66) = 6 := (by decide +kernel : ∀ i, i < 166 → Lp.1 i = 11 → Lp.1 (i + 66) = 6) i (Lp_N h rfl) h
theorem Lp_11_6 {i : Nat} (h : Lp.1 i = 11) : Lp.1 (i + 68) = 10 := (by decide +kernel : ∀ i, i < 166 → Lp.1 i = 11 → Lp.1 (i + 68) = 10) i (Lp_N h rfl) h
theorem Lp_11_7 {i : Nat} (h : Lp.1 i = 11) : Lp.1 (i + 72) = 10 := (by decide +kernel : ∀ i, i < 166 → Lp.1 i = 11 → Lp.1 (i + 72) = 10) i (Lp_N h rfl) h
theorem Lp_11_8 {i : Nat} (h : Lp.1 i = 11) : Lp.1 (i + 76) = 0 := (by decide +kernel : ∀ i, i < 166 → Lp.1 i = 11 → Lp.1 (i + 76) = 0) i (Lp_N h rfl) h
theorem Lp_11_9 {i : Nat} (h : Lp.1 i = 11) : Lp.1 (i + 79) = 8 := (by decide +kernel : ∀ i, i < 166 → Lp.1 i = 11 → Lp.1 (i + 79) = 8) i (Lp_N h rfl) h
theorem Lp_11_10 {i : Nat} (h : Lp.1 i = 11) : Lp.1 (i + 82) = 1 := (by decide +kernel : ∀ i, i < 166 → Lp.1 i = 11 → Lp.1 (i + 82) = 1) i (Lp_N h rfl) h
theorem Lp_11_11 {i : Nat} (h : Lp.1 i = 11) : Lp.1 (i + 91) = 17 := (by decide +kernel : ∀ i, i < 166 → Lp.1 i = 11 → Lp.1 (i + 91) = 17) i (Lp_N h rfl) h
theorem Lp_11_12 {i : Nat} (h : Lp.1 i = 11) : Lp.1 (i + 132) = 19 := (by decide +kernel : ∀ i, i < 166 → Lp.1 i = 11 → Lp.1 (i + 132) = 19) i (Lp_N h rfl) h
theorem Lp_11_15 {i : Nat} (h : Lp.1 i = 11) : Lp.1 (i + 165) = 14 := (by decide +kernel : ∀ i, i < 166 → Lp.1 i = 11 → Lp.1 (i + 165) = 14) i (Lp_N h rfl) h
theorem Lp_e17 {i : Nat} (h : Lp.1 i = 17) : ∀ j, j < Lp.2.1 i → Lp.1 (i + eo 17 j) = 3 := fun j hj =>
  have a := (by decide +kernel : ∀ i, i < 166 → Lp.1 i = 17 → Lp.2.1 i ≤ 16 ∧ ∀ j, j < 16 → j < Lp.2.1 i → Lp.1 (i + eo 17 j) = 3) i (Lp_N h rfl) h
  a.2 j (Nat.lt_of_lt_of_le hj a.1) hj
theorem Lp_e18 {i : Nat} (h : Lp.1 i = 18) : ∀ j, j < Lp.2.1 i → Lp.1 (i + eo 18 j) = 4 := fun j hj =>
  have a := (by decide +kernel : ∀ i, i < 166 → Lp.1 i = 18 → Lp.2.1 i ≤ 16 ∧ ∀ j, j < 16 → j < Lp.2.1 i → Lp.1 (i + eo 18 j) = 4) i (Lp_N h rfl) h
  a.2 j (Nat.lt_of_lt_of_le hj a.1) hj
theorem Lp_e19 {i : Nat} (h : Lp.1 i = 19) : ∀ j, j < Lp.2.1 i → Lp.1 (i + eo 19 j) = 6 := fun j hj =>
  have a := (by decide +kernel : ∀ i, i < 166 → Lp.1 i = 19 → Lp.2.1 i ≤ 16 ∧ ∀ j, j < 16 → j < Lp.2.1 i → Lp.1 (i + eo 19 j) = 6) i (Lp_N h rfl) h
  a.2 j (Nat.lt_of_lt_of_le hj a.1) hj
theorem Lp_e20 {i : Nat} (h : Lp.1 i = 20) : ∀ j, j < Lp.2.1 i → Lp.1 (i + eo 20 j) = 14 := fun j hj =>
  have a := (by decide +kernel : ∀ i, i < 166 → Lp.1 i = 20 → Lp.2.1 i ≤ 16 ∧ ∀ j, j < 16 → j < Lp.2.1 i → Lp.1 (i + eo 20 j) = 14) i (Lp_N h rfl) h
  a.2 j (Nat.lt_of_lt_of_le hj a.1) hj
def Lm_k : List Nat := [12, 14, 14, 15, 15, 14, 14, 14, 14, 14, 14, 14, 14, 14, 14, 14, 14, 16, 14, 14, 14, 14, 14, 14, 14, 14, 14, 14, 14, 14, 14, 14, 14, 14, 14, 14, 14, 14, 14, 14, 16, 14, 14, 14, 14, 14, 14, 14]
def Lm_n : List Nat := [0, 1000, 14, 10, 14, 90, 10, 14, 14, 14, 14, 14, 14, 4, 4, 2000, 7, 7, 7, 7, 7, 7, 7, 7, 7, 7, 7, 20, 6, 240, 240, 240, 5, 40, 40, 17, 17, 17, 68, 272, 4, 7, 7, 7, 7, 60, 7, 10]
def Lm : Ly := (fun i => Lm_k.getD i 99, fun i => Lm_n.getD i 0, 48)
theorem Lm_N {i c : Nat} (h : Lm.1 i = c) (hc : Nat.blt c 99 = true) : i < Lm.2.2 := by
  rcases Nat.lt_or_ge i 48 with q | q
  · exact q
  · exfalso
    have h2 : Lm.1 i = 99 := by
      show Lm_k.getD i 99 = 99
      rw [List.getD_eq_getElem?_getD, List.getElem?_eq_none (show Lm_k.length ≤ i from q)]
      rfl
    rw [h2] at h
    subst h
    cases hc
theorem Lmk_0 : Lm.1 0 = 12 := rfl
theorem Lmk_1 : Lm.1 1 = 14 := rfl
theorem Lmn_1 : Lm.2.1 1 = 1000 := rfl
theorem Lmk_2 : Lm.1 2 = 14 := rfl
theorem Lmn_2 : Lm.2.1 2 = 14 := rfl
theorem Lmk_3 : Lm.1 3 = 15 := rfl
theorem Lmn_3 : Lm.2.1 3 = 10 := rfl
theorem Lmk_4 : Lm.1 4 = 15 := rfl
theorem Lmn_4 : Lm.2.1 4 = 14 := rfl
theorem Lmk_5 : Lm.1 5 = 14 := rfl
theorem Lmn_5 : Lm.2.1 5 = 90 := rfl
theorem Lmk_6 : Lm.1 6 = 14 := rfl
theorem Lmn_6 : Lm.2.1 6 = 10 := rfl
theorem Lmk_7 : Lm.1 7 = 14 := rfl
theorem Lmn_7 : Lm.2.1 7 = 14 := rfl
theorem Lmk_8 : Lm.1 8 = 14 := rfl
theorem Lmn_8 : Lm.2.1 8 = 14 := rfl
theorem Lmk_9 : Lm.1 9 = 14 := rfl
theorem Lmn_9 : Lm.2.1 9 = 14 := rfl
theorem Lmk_10 : Lm.1 10 = 14 := rfl
theorem Lmn_10 : Lm.2.1 10 = 14 := rfl
theorem Lmk_11 : Lm.1 11 = 14 := rfl
theorem Lmn_11 : Lm.2.1 11 = 14 := rfl
theorem Lmk_12 : Lm.1 12 = 14 := rfl
theorem Lmn_12 : Lm.2.1 12 = 14 := rfl
theorem Lmk_13 : Lm.1 13 = 14 := rfl
theorem Lmn_13 : Lm.2.1 13 = 4 := rfl
theorem Lmk_14 : Lm.1 14 = 14 := rfl
theorem Lmn_14 : Lm.2.1 14 = 4 := rfl
theorem Lmk_15 : Lm.1 15 = 14 := rfl
theorem Lmn_15 : Lm.2.1 15 = 2000 := rfl
theorem Lmk_16 : Lm.1 16 = 14 := rfl
theorem Lmn_16 : Lm.2.1 16 = 7 := rfl
theorem Lmk_17 : Lm.1 17 = 16 := rfl
theorem Lmn_17 : Lm.2.1 17 = 7 := rfl
theorem Lmk_18 : Lm.1 18 = 14 := rfl
theorem Lmn_18 : Lm.2.1 18 = 7 := rfl
theorem Lmk_19 : Lm.1 19 = 14 := rfl
theorem Lmn_19 : Lm.2.1 19 = 7 := rfl
theorem Lmk_20 : Lm.1 20 = 14 := rfl
theorem Lmn_20 : Lm.2.1 20 = 7 := rfl
theorem Lmk_21 : Lm.1 21 = 14 := rfl
theorem Lmn_21 : Lm.2.1 21 = 7 := rfl
theorem Lmk_22 : Lm.1 22 = 14 := rfl
theorem Lmn_22 : Lm.2.1 22 = 7 := rfl
theorem Lmk_23 : Lm.1 23 = 14 := rfl
theorem Lmn_23 : Lm.2.1 23 = 7 := rfl
theorem Lmk_24 : Lm.1 24 = 14 := rfl
theorem Lmn_24 : Lm.2.1 24 = 7 := rfl
theorem Lmk_25 : Lm.1 25 = 14 := rfl
theorem Lmn_25 : Lm.2.1 25 = 7 := rfl
theorem Lmk_26 : Lm.1 26 = 14 := rfl
theorem Lmn_26 : Lm.2.1 26 = 7 := rfl
theorem Lmk_27 : Lm.1 27 = 14 := rfl
theorem Lmn_27 : Lm.2.1 27 = 20 := rfl
theorem Lmk_28 : Lm.1 28 = 14 := rfl
theorem Lmn_28 : Lm.2.1 28 = 6 := rfl
theorem Lmk_29 : Lm.1 29 = 14 := rfl
theorem Lmn_29 : Lm.2.1 29 = 240 := rfl
theorem Lmk_30 : Lm.1 30 = 14 := rfl
theorem Lmn_30 : Lm.2.1 30 = 240 := rfl
theorem Lmk_31 : Lm.1 31 = 14 := rfl
theorem Lmn_31 : Lm.2.1 31 = 240 := rfl
theorem Lmk_32 : Lm.1 32 = 14 := rfl
theorem Lmn_32 : Lm.2.1 32 = 5 := rfl
theorem Lmk_33 : Lm.1 33 = 14 := rfl
theorem Lmn_33 : Lm.2.1 33 = 40 := rfl
theorem Lmk_34 : Lm.1 34 = 14 := rfl
theorem Lmn_34 : Lm.2.1 34 = 40 := rfl
theorem Lmk_35 : Lm.1 35 = 14 := rfl
theorem Lmn_35 : Lm.2.1 35 = 17 := rfl
theorem Lmk_36 : Lm.1 36 = 14 := rfl
theorem Lmn_36 : Lm.2.1 36 = 17 := rfl
theorem Lmk_37 : Lm.1 37 = 14 := rfl
theorem Lmn_37 : Lm.2.1 37 = 17 := rfl
theorem Lmk_38 : Lm.1 38 = 14 := rfl
theorem Lmn_38 : Lm.2.1 38 = 68 := rfl
theorem Lmk_39 : Lm.1 39 = 14 := rfl
theorem Lmn_39 : Lm.2.1 39 = 272 := rfl
theorem Lmk_40 : Lm.1 40 = 16 := rfl
theorem Lmn_40 : Lm.2.1 40 = 4 := rfl
theorem Lmk_41 : Lm.1 41 = 14 := rfl
theorem Lmn_41 : Lm.2.1 41 = 7 := rfl
theorem Lmk_42 : Lm.1 42 = 14 := rfl
theorem Lmn_42 : Lm.2.1 42 = 7 := rfl
theorem Lmk_43 : Lm.1 43 = 14 := rfl
theorem Lmn_43 : Lm.2.1 43 = 7 := rfl
theorem Lmk_44 : Lm.1 44 = 14 := rfl
theorem Lmn_44 : Lm.2.1 44 = 7 := rfl
theorem Lmk_45 : Lm.1 45 = 14 := rfl
theorem Lmn_45 : Lm.2.1 45 = 60 := rfl
theorem Lmk_46 : Lm.1 46 = 14 := rfl
theorem Lmn_46 : Lm.2.1 46 = 7 := rfl
theorem Lmk_47 : Lm.1 47 = 14 := rfl
theorem Lmn_47 : Lm.2.1 47 = 10 := rfl
theorem Lm_12_2 {i : Nat} (h : Lm.1 i = 12) : Lm.1 (i + 1) = 14 := (by decide +kernel : ∀ i, i < 48 → Lm.1 i = 12 → Lm.1 (i + 1) = 14) i (Lm_N h rfl) h
theorem Lm_12_10 {i : Nat} (h : Lm.1 i = 12) : Lm.1 (i + 2) = 14 := (by decide +kernel : ∀ i, i < 48 → Lm.1 i = 12 → Lm.1 (i + 2) = 14) i (Lm_N h rfl) h
theorem Lm_12_11 {i : Nat} (h : Lm.1 i = 12) : Lm.1 (i + 3) = 15 := (by decide +kernel : ∀ i, i < 48 → Lm.1 i = 12 → Lm.1 (i + 3) = 15) i (Lm_N h rfl) h
theorem Lm_12_12 {i : Nat} (h : Lm.1 i = 12) : Lm.1 (i + 4) = 15 := (by decide +kernel : ∀ i, i < 48 → Lm.1 i = 12 → Lm.1 (i + 4) = 15) i (Lm_N h rfl) h
theorem Lm_12_13 {i : Nat} (h : Lm.1 i = 12) : Lm.1 (i + 5) = 14 := (by decide +kernel : ∀ i, i < 48 → Lm.1 i = 12 → Lm.1 (i + 5) = 14) i (Lm_N h rfl) h
theorem Lm_12_14 {i : Nat} (h : Lm.1 i = 12) : Lm.1 (i + 6) = 14 := (by decide +kernel : ∀ i, i < 48 → Lm.1 i = 12 → Lm.1 (i + 6) = 14) i (Lm_N h rfl) h
theorem Lm_12_15 {i : Nat} (h : Lm.1 i = 12) : Lm.1 (i + 7) = 14 := (by decide +kernel : ∀ i, i < 48 → Lm.1 i = 12 → Lm.1 (i + 7) = 14) i (Lm_N h rfl) h
theorem Lm_12_16 {i : Nat} (h : Lm.1 i = 12) : Lm.1 (i + 8) = 14 := (by decide +kernel : ∀ i, i < 48 → Lm.1 i = 12 → Lm.1 (i + 8) = 14) i (Lm_N h rfl) h
theorem Lm_12_17 {i : Nat} (h : Lm.1 i = 12) : Lm.1 (i + 9) = 14 := (by decide +kernel : ∀ i, i < 48 → Lm.1 i = 12 → Lm.1 (i + 9) = 14) i (Lm_N h rfl) h
theorem Lm_12_18 {i : Nat} (h : Lm.1 i = 12) : Lm.1 (i + 10) = 14 := (by decide +kernel : ∀ i, i < 48 → Lm.1 i = 12 → Lm.1 (i + 10) = 14) i (Lm_N h rfl) h
theorem Lm_12_19 {i : Nat} (h : Lm.1 i = 12) : Lm.1 (i + 11) = 14 := (by decide +kernel : ∀ i, i < 48 → Lm.1 i = 12 → Lm.1 (i + 11) = 14) i (Lm_N h rfl) h
theorem Lm_12_20 {i : Nat} (h : Lm.1 i = 12) : Lm.1 (i + 12) = 14 := (by decide +kernel : ∀ i, i < 48 → Lm.1 i = 12 → Lm.1 (i + 12) = 14) i (Lm_N h rfl) h
theorem Lm_12_21 {i : Nat} (h : Lm.1 i = 12) : Lm.1 (i + 13) = 14 := (by decide +kernel : ∀ i, i < 48 → Lm.1 i = 12 → Lm.1 (i + 13) = 14) i (Lm_N h rfl) h
theorem Lm_12_22 {i : Nat} (h : Lm.1 i = 12) : Lm.1 (i + 14) = 14 := (by decide +kernel : ∀ i, i < 48 → Lm.1 i = 12 → Lm.1 (i + 14) = 14) i (Lm_N h rfl) h
theorem Lm_12_23 {i : Nat} (h : Lm.1 i = 12) : Lm.1 (i + 15) = 14 := (by decide +kernel : ∀ i, i < 48 → Lm.1 i = 12 → Lm.1 (i + 15) = 14) i (Lm_N h rfl) h
theorem Lm_12_27 {i : Nat} (h : Lm.1 i = 12) : Lm.1 (i + 16) = 14 := (by decide +kernel : ∀ i, i < 48 → Lm.1 i = 12 → Lm.1 (i + 16) = 14) i (Lm_N h rfl) h
theorem Lm_12_28 {i : Nat} (h : Lm.1 i = 12) : Lm.1 (i + 17) = 16 := (by decide +kernel : ∀ i, i < 48 → Lm.1 i = 12 → Lm.1 (i + 17) = 16) i (Lm_N h rfl) h
theorem Lm_12_29 {i : Nat} (h : Lm.1 i = 12) : Lm.1 (i + 18) = 14 := (by decide +kernel : ∀ i, i < 48 → Lm.1 i = 12 → Lm.1 (i + 18) = 14) i (Lm_N h rfl) h
theorem Lm_12_30 {i : Nat} (h : Lm.1 i = 12) : Lm.1 (i + 19) = 14 := (by decide +kernel : ∀ i, i < 48 → Lm.1 i = 12 → Lm.1 (i + 19) = 14) i (Lm_N h rfl) h
theorem Lm_12_31 {i : Nat} (h : Lm.1 i = 12) : Lm.1 (i + 20) = 14 := (by decide +kernel : ∀ i, i < 48 → Lm.1 i = 12 → Lm.1 (i + 20) = 14) i (Lm_N h rfl) h
theorem Lm_12_32 {i : Nat} (h : Lm.1 i = 12) : Lm.1 (i + 21) = 14 := (by decide +kernel : ∀ i, i < 48 → Lm.1 i = 12 → Lm.1 (i + 21) = 14) i (Lm_N h rfl) h
theorem Lm_12_33 {i : Nat} (h : Lm.1 i = 12) : Lm.1 (i + 22) = 14 := (by decide +kernel : ∀ i, i < 48 → Lm.1 i = 12 → Lm.1 (i + 22) = 14) i (Lm_N h rfl) h
theorem Lm_12_34 {i : Nat} (h : Lm.1 i = 12) : Lm.1 (i + 23) = 14 := (by decide +kernel : ∀ i, i < 48 → Lm.1 i = 12 → Lm.1 (i + 23) = 14) i (Lm_N h rfl) h
theorem Lm_12_35 {i : Nat} (h : Lm.1 i = 12) : Lm.1 (i + 24) = 14 := (by decide +kernel : ∀ i, i < 48 → Lm.1 i = 12 → Lm.1 (i + 24) = 14) i (Lm_N h rfl) h
theorem Lm_12_36 {i : Nat} (h : Lm.1 i = 12) : Lm.1 (i + 25) = 14 := (by decide +kernel : ∀ i, i < 48 → Lm.1 i = 12 → Lm.1 (i + 25) = 14) i (Lm_N h rfl) h
theorem Lm_12_37 {i : Nat} (h : Lm.1 i = 12) : Lm.1 (i + 26) = 14 := (by decide +kernel : ∀ i, i < 48 → Lm.1 i = 12 → Lm.1 (i + 26) = 14) i (Lm_N h rfl) h
theorem Lm_12_38 {i : Nat} (h : Lm.1 i = 12) : Lm.1 (i + 27) = 14 := (by decide +kernel : ∀ i, i < 48 → Lm.1 i = 12 → Lm.1 (i + 27) = 14) i (Lm_N h rfl) h
theorem Lm_12_42 {i : Nat} (h : Lm.1 i = 12) : Lm.1 (i + 28) = 14 := (by decide +kernel : ∀ i, i < 48 → Lm.1 i = 12 → Lm.1 (i + 28) = 14) i (Lm_N h rfl) h
theorem Lm_12_43 {i : Nat} (h : Lm.1 i = 12) : Lm.1 (i + 29) = 14 := (by decide +kernel : ∀ i, i < 48 → Lm.1 i = 12 → Lm.1 (i + 29) = 14) i (Lm_N h rfl) h
theorem Lm_12_44 {i : Nat} (h : Lm.1 i = 12) : Lm.1 (i + 30) = 14 := (by decide +kernel : ∀ i, i < 48 → Lm.1 i = 12 → Lm.1 (i + 30) = 14) i (Lm_N h rfl) h
theorem Lm_12_45 {i : Nat} (h : Lm.1 i = 12) : Lm.1 (i + 31) = 14 := (by decide +kernel : ∀ i, i < 48 → Lm.1 i = 12 → Lm.1 (i + 31) = 14) i (Lm_N h rfl) h
theorem Lm_12_46 {i : Nat} (h : Lm.1 i = 12) : Lm.1 (i + 32) = 14 := (by decide +kernel : ∀ i, i < 48 → Lm.1 i = 12 → Lm.1 (i + 32) = 14) i (Lm_N h rfl) h
theorem Lm_12_47 {i : Nat} (h : Lm.1 i = 12) : Lm.1 (i + 33) = 14 := (by decide +kernel : ∀ i, i < 48 → Lm.1 i = 12 → Lm.1 (i + 33) = 14) i (Lm_N h rfl) h
theorem Lm_12_48 {i : Nat} (h : Lm.1 i = 12) : Lm.1 (i + 34) = 14 := (by decide +kernel : ∀ i, i < 48 → Lm.1 i = 12 → Lm.1 (i + 34) = 14) i (Lm_N h rfl) h
theorem Lm_12_49 {i : Nat} (h : Lm.1 i = 12) : Lm.1 (i + 35) = 14 := (by decide +kernel : ∀ i, i < 48 → Lm.1 i = 12 → Lm.1 (i + 35) = 14) i (Lm_N h rfl) h
theorem Lm_12_50 {i : Nat} (h : Lm.1 i = 12) : Lm.1 (i + 36) = 14 := (by decide +kernel : ∀ i, i < 48 → Lm.1 i = 12 → Lm.1 (i + 36) = 14) i (Lm_N h rfl) h
theorem Lm_12_51 {i : Nat} (h : Lm.1 i = 12) : Lm.1 (i + 37) = 14 := (by decide +kernel : ∀ i, i < 48 → Lm.1 i = 12 → Lm.1 (i + 37) = 14) i (Lm_N h rfl) h
theorem Lm_12_52 {i : Nat} (h : Lm.1 i = 12) : Lm.1 (i + 38) = 14 := (by decide +kernel : ∀ i, i < 48 → Lm.1 i = 12 → Lm.1 (i + 38) = 14) i (Lm_N h rfl) h
theorem Lm_12_53 {i : Nat} (h : Lm.1 i = 12) : Lm.1 (i + 39) = 14 := (by decide +kernel : ∀ i, i < 48 → Lm.1 i = 12 → Lm.1 (i + 39) = 14) i (Lm_N h rfl) h
theorem Lm_12_54 {i : Nat} (h : Lm.1 i = 12) : Lm.1 (i + 40) = 16 := (by decide +kernel : ∀ i, i < 48 → Lm.1 i = 12 → Lm.1 (i + 40) = 16) i (Lm_N h rfl) h
theorem Lm_12_56 {i : Nat} (h : Lm.1 i = 12) : Lm.1 (i + 41) = 14 := (by decide +kernel : ∀ i, i < 48 → Lm.1 i = 12 → Lm.1 (i + 41) = 14) i (Lm_N h rfl) h
theorem Lm_12_57 {i : Nat} (h : Lm.1 i = 12) : Lm.1 (i + 42) = 14 := (by decide +kernel : ∀ i, i < 48 → Lm.1 i = 12 → Lm.1 (i + 42) = 14) i (Lm_N h rfl) h
theorem Lm_12_58 {i : Nat} (h : Lm.1 i = 12) : Lm.1 (i + 43) = 14 := (by decide +kernel : ∀ i, i < 48 → Lm.1 i = 12 → Lm.1 (i + 43) = 14) i (Lm_N h rfl) h
theorem Lm_12_59 {i : Nat} (h : Lm.1 i = 12) : Lm.1 (i + 44) = 14 := (by decide +kernel : ∀ i, i < 48 → Lm.1 i = 12 → Lm.1 (i + 44) = 14) i (Lm_N h rfl) h
theorem Lm_12_60 {i : Nat} (h : Lm.1 i = 12) : Lm.1 (i + 45) = 14 := (by decide +kernel : ∀ i, i < 48 → Lm.1 i = 12 → Lm.1 (i + 45) = 14) i (Lm_N h rfl) h
theorem Lm_12_61 {i : Nat} (h : Lm.1 i = 12) : Lm.1 (i + 46) = 14 := (by decide +kernel : ∀ i, i < 48 → Lm.1 i = 12 → Lm.1 (i + 46) = 14) i (Lm_N h rfl) h
theorem Lm_12_65 {i : Nat} (h : Lm.1 i = 12) : Lm.1 (i + 47) = 14 := (by decide +kernel : ∀ i, i < 48 → Lm.1 i = 12 → Lm.1 (i + 47) = 14) i (Lm_N h rfl) h
theorem g_kd {β : Type} {c P : Prop} {i : Decidable c} {a : Option β} {o : β} (h : grd (@decide c i) a = some o) (k : c → a = some o → P) : P := k (of_decide_eq_true (grd_some h).1) (grd_some h).2
theorem r_div {β : Type} {c P : Prop} {i : Decidable c} {a : Option β} {o : β} (h : grd (@decide c i) a = some o) (k : c → a = some o → P) : P := k (of_decide_eq_true (grd_some h).1) (grd_some h).2
theorem r_gz {β : Type} {P : Prop} {v : Int32} {a : Option β} {o : β} (h : grd (bok v) a = some o) (k : bok v = true → a = some o → P) : P := k (grd_some h).1 (grd_some h).2
theorem r_inc {β : Type} {P : Prop} {x : Int32} {f : Int32 → Option β} {o : β} (h : bnd x f = some o) (k : ∀ y : Int32, y = x → f y = some o → P) : P := k x rfl h
theorem ti_ne {x v : Int32} {n : Int} (hv : v.toInt = n) (h : ¬ x = v) : ¬ n = x.toInt := fun q => h (Int32.toInt_inj.mp (q.symm.trans hv.symm))
theorem tsw_out {x : Int32} {lo hi : Int} (n : Nat) (h : ∀ j : Nat, j < n → ¬ x = Int32.ofInt (lo + j)) (hn : hi = lo + n - 1) : x.toInt < lo ∨ hi < x.toInt := by
  rcases Int.lt_or_le x.toInt lo with q | q
  · exact Or.inl q
  · rcases Int.lt_or_le hi x.toInt with q2 | q2
    · exact Or.inr q2
    · exfalso
      refine h (x.toInt - lo).toNat (by omega) ?_
      rw [Int.toNat_of_nonneg (by omega), show lo + (x.toInt - lo) = x.toInt by omega]
      exact (Int32.ofInt_toInt x).symm
