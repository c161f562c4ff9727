theorem dX12_tests_38 : decode cX12_tests 38 = .ok (.iconst 1, 1) := by decide +kernel
theorem dX12_tests_39 : decode cX12_tests 39 = .ok (.goto 4, 3) := by decide +kernel
theorem dX12_tests_42 : decode cX12_tests 42 = .ok (.iconst 0, 1) := by decide +kernel
theorem dX12_tests_43 : decode cX12_tests 43 = .ok (.istore_n 2, 1) := by decide +kernel
theorem dX12_tests_44 : decode cX12_tests 44 = .ok (.aload_n 0, 1) := by decide +kernel
theorem dX12_tests_45 : decode cX12_tests 45 = .ok (.getfield 72, 3) := by decide +kernel
theorem dX12_tests_48 : decode cX12_tests 48 = .ok (.iload_n 1, 1) := by decide +kernel
theorem dX12_tests_49 : decode cX12_tests 49 = .ok (.iaload, 1) := by decide +kernel
theorem dX12_tests_50 : decode cX12_tests 50 = .ok (.bipush 25, 2) := by decide +kernel
theorem dX12_tests_52 : decode cX12_tests 52 = .ok (.if_icmp .ne 24, 3) := by decide +kernel
theorem dX12_tests_55 : decode cX12_tests 55 = .ok (.aload_n 0, 1) := by decide +kernel
theorem dX12_tests_56 : decode cX12_tests 56 = .ok (.getfield 69, 3) := by decide +kernel
theorem dX12_tests_59 : decode cX12_tests 59 = .ok (.iload_n 1, 1) := by decide +kernel
theorem dX12_tests_60 : decode cX12_tests 60 = .ok (.iaload, 1) := by decide +kernel
theorem dX12_tests_61 : decode cX12_tests 61 = .ok (.aload_n 0, 1) := by decide +kernel
theorem dX12_tests_62 : decode cX12_tests 62 = .ok (.getfield 75, 3) := by decide +kernel
theorem dX12_tests_65 : decode cX12_tests 65 = .ok (.iload_n 1, 1) := by decide +kernel
theorem dX12_tests_66 : decode cX12_tests 66 = .ok (.iaload, 1) := by decide +kernel
theorem dX12_tests_67 : decode cX12_tests 67 = .ok (.if_icmp .ne 7, 3) := by decide +kernel
theorem dX12_tests_70 : decode cX12_tests 70 = .ok (.iconst 1, 1) := by decide +kernel
theorem dX12_tests_71 : decode cX12_tests 71 = .ok (.goto 4, 3) := by decide +kernel
theorem dX12_tests_74 : decode cX12_tests 74 = .ok (.iconst 0, 1) := by decide +kernel
theorem dX12_tests_75 : decode cX12_tests 75 = .ok (.istore_n 2, 1) := by decide +kernel
theorem dX12_tests_76 : decode cX12_tests 76 = .ok (.aload_n 0, 1) := by decide +kernel
theorem dX12_tests_77 : decode cX12_tests 77 = .ok (.getfield 66, 3) := by decide +kernel
theorem dX12_tests_80 : decode cX12_tests 80 = .ok (.iload_n 1, 1) := by decide +kernel
theorem dX12_tests_81 : decode cX12_tests 81 = .ok (.iaload, 1) := by decide +kernel
theorem dX12_tests_82 : decode cX12_tests 82 = .ok (.bipush 26, 2) := by decide +kernel
theorem dX12_tests_84 : decode cX12_tests 84 = .ok (.if_icmp .ne 22, 3) := by decide +kernel
theorem dX12_tests_87 : decode cX12_tests 87 = .ok (.aload_n 0, 1) := by decide +kernel
theorem dX12_tests_88 : decode cX12_tests 88 = .ok (.getfield 63, 3) := by decide +kernel
theorem dX12_tests_91 : decode cX12_tests 91 = .ok (.iload_n 1, 1) := by decide +kernel
theorem dX12_tests_92 : decode cX12_tests 92 = .ok (.iaload, 1) := by decide +kernel
theorem dX12_tests_93 : decode cX12_tests 93 = .ok (.ifCond .eq 11, 3) := by decide +kernel
theorem dX12_tests_96 : decode cX12_tests 96 = .ok (.iload_n 2, 1) := by decide +kernel
theorem dX12_tests_97 : decode cX12_tests 97 = .ok (.ifCond .eq 7, 3) := by decide +kernel
theorem dX12_tests_100 : decode cX12_tests 100 = .ok (.iconst 1, 1) := by decide +kernel
theorem dX12_tests_101 : decode cX12_tests 101 = .ok (.goto 4, 3) := by decide +kernel
theorem dX12_tests_104 : decode cX12_tests 104 = .ok (.iconst 0, 1) := by decide +kernel
theorem dX12_tests_105 : decode cX12_tests 105 = .ok (.istore_n 2, 1) := by decide +kernel
theorem dX12_tests_106 : decode cX12_tests 106 = .ok (.aload_n 0, 1) := by decide +kernel
theorem dX12_tests_107 : decode cX12_tests 107 = .ok (.getfield 66, 3) := by decide +kernel
theorem dX12_tests_110 : decode cX12_tests 110 = .ok (.iload_n 1, 1) := by decide +kernel
theorem dX12_tests_111 : decode cX12_tests 111 = .ok (.iaload, 1) := by decide +kernel
theorem dX12_tests_112 : decode cX12_tests 112 = .ok (.bipush 27, 2) := by decide +kernel
theorem dX12_tests_114 : decode cX12_tests 114 = .ok (.if_icmp .ne 22, 3) := by decide +kernel
theorem dX12_tests_117 : decode cX12_tests 117 = .ok (.aload_n 0, 1) := by decide +kernel
theorem dX12_tests_118 : decode cX12_tests 118 = .ok (.getfield 63, 3) := by decide +kernel
theorem dX12_tests_121 : decode cX12_tests 121 = .ok (.iload_n 1, 1) := by decide +kernel
theorem dX12_tests_122 : decode cX12_tests 122 = .ok (.iaload, 1) := by decide +kernel
theorem dX12_tests_123 : decode cX12_tests 123 = .ok (.ifCond .ne 7, 3) := by decide +kernel
theorem dX12_tests_126 : decode cX12_tests 126 = .ok (.iload_n 2, 1) := by decide +kernel
theorem dX12_tests_127 : decode cX12_tests 127 = .ok (.ifCond .eq 7, 3) := by decide +kernel
theorem dX12_tests_130 : decode cX12_tests 130 = .ok (.iconst 1, 1) := by decide +kernel
theorem dX12_tests_131 : decode cX12_tests 131 = .ok (.goto 4, 3) := by decide +kernel
theorem dX12_tests_134 : decode cX12_tests 134 = .ok (.iconst 0, 1) := by decide +kernel
theorem dX12_tests_135 : decode cX12_tests 135 = .ok (.istore_n 2, 1) := by decide +kernel
theorem dX12_tests_136 : decode cX12_tests 136 = .ok (.aload_n 0, 1) := by decide +kernel
theorem dX12_tests_137 : decode cX12_tests 137 = .ok (.getfield 63, 3) := by decide +kernel
theorem dX12_tests_140 : decode cX12_tests 140 = .ok (.iload_n 1, 1) := by decide +kernel
theorem dX12_tests_141 : decode cX12_tests 141 = .ok (.iload_n 2, 1) := by decide +kernel
theorem dX12_tests_142 : decode cX12_tests 142 = .ok (.iastore, 1) := by decide +kernel
theorem dX12_tests_143 : decode cX12_tests 143 = .ok (.aload_n 0, 1) := by decide +kernel
theorem dX12_tests_144 : decode cX12_tests 144 = .ok (.getfield 72, 3) := by decide +kernel
theorem dX12_tests_147 : decode cX12_tests 147 = .ok (.iload_n 1, 1) := by decide +kernel
theorem dX12_tests_148 : decode cX12_tests 148 = .ok (.iconst 0, 1) := by decide +kernel
theorem dX12_tests_149 : decode cX12_tests 149 = .ok (.iastore, 1) := by decide +kernel
theorem dX12_tests_150 : decode cX12_tests 150 = .ok (.aload_n 0, 1) := by decide +kernel
theorem dX12_tests_151 : decode cX12_tests 151 = .ok (.getfield 75, 3) := by decide +kernel
theorem dX12_tests_154 : decode cX12_tests 154 = .ok (.iload_n 1, 1) := by decide +kernel
theorem dX12_tests_155 : decode cX12_tests 155 = .ok (.iconst 0, 1) := by decide +kernel
theorem dX12_tests_156 : decode cX12_tests 156 = .ok (.iastore, 1) := by decide +kernel
theorem dX12_tests_157 : decode cX12_tests 157 = .ok (.aload_n 0, 1) := by decide +kernel
theorem dX12_tests_158 : decode cX12_tests 158 = .ok (.getfield 78, 3) := by decide +kernel
theorem dX12_tests_161 : decode cX12_tests 161 = .ok (.iload_n 1, 1) := by decide +kernel
theorem dX12_tests_162 : decode cX12_tests 162 = .ok (.bipush 20, 2) := by decide +kernel
theorem dX12_tests_164 : decode cX12_tests 164 = .ok (.iastore, 1) := by decide +kernel
theorem dX12_tests_165 : decode cX12_tests 165 = .ok (.return_, 1) := by decide +kernel
theorem dX12_worked_0 : decode cX12_worked 0 = .ok (.iconst 0, 1) := by decide +kernel
theorem dX12_worked_1 : decode cX12_worked 1 = .ok (.istore_n 2, 1) := by decide +kernel
theorem dX12_worked_2 : decode cX12_worked 2 = .ok (.aload_n 0, 1) := by decide +kernel
theorem dX12_worked_3 : decode cX12_worked 3 = .ok (.iconst 0, 1) := by decide +kernel
theorem dX12_worked_4 : decode cX12_worked 4 = .ok (.invokevirtual 247, 3) := by decide +kernel
theorem dX12_worked_7 : decode cX12_worked 7 = .ok (.aload_n 0, 1) := by decide +kernel
theorem dX12_worked_8 : decode cX12_worked 8 = .ok (.getfield 47, 3) := by decide +kernel
theorem dX12_worked_11 : decode cX12_worked 11 = .ok (.iload_n 1, 1) := by decide +kernel
theorem dX12_worked_12 : decode cX12_worked 12 = .ok (.iaload, 1) := by decide +kernel
theorem dX12_worked_13 : decode cX12_worked 13 = .ok (.istore_n 3, 1) := by decide +kernel
theorem dX12_worked_14 : decode cX12_worked 14 = .ok (.iload_n 3, 1) := by decide +kernel
theorem dX12_worked_15 : decode cX12_worked 15 = .ok (.aload_n 0, 1) := by decide +kernel
theorem dX12_worked_16 : decode cX12_worked 16 = .ok (.getfield 50, 3) := by decide +kernel
theorem dX12_worked_19 : decode cX12_worked 19 = .ok (.iload_n 1, 1) := by decide +kernel
theorem dX12_worked_20 : decode cX12_worked 20 = .ok (.iaload, 1) := by decide +kernel
theorem dX12_worked_21 : decode cX12_worked 21 = .ok (.if_icmp .ge 314, 3) := by decide +kernel
theorem dX12_worked_24 : decode cX12_worked 24 = .ok (.aload_n 0, 1) := by decide +kernel
theorem dX12_worked_25 : decode cX12_worked 25 = .ok (.getfield 53, 3) := by decide +kernel
theorem dX12_worked_28 : decode cX12_worked 28 = .ok (.iload_n 3, 1) := by decide +kernel
theorem dX12_worked_29 : decode cX12_worked 29 = .ok (.iaload, 1) := by decide +kernel
theorem dX12_worked_30 : decode cX12_worked 30 = .ok (.istore 4, 2) := by decide +kernel
theorem dX12_worked_32 : decode cX12_worked 32 = .ok (.iload 4, 2) := by decide +kernel
theorem dX12_worked_34 : decode cX12_worked 34 = .ok (.bipush 28, 2) := by decide +kernel
theorem dX12_worked_36 : decode cX12_worked 36 = .ok (.if_icmp .eq 10, 3) := by decide +kernel
theorem dX12_worked_39 : decode cX12_worked 39 = .ok (.iload 4, 2) := by decide +kernel
theorem dX12_worked_41 : decode cX12_worked 41 = .ok (.bipush 30, 2) := by decide +kernel
theorem dX12_worked_43 : decode cX12_worked 43 = .ok (.if_icmp .ne 32, 3) := by decide +kernel
theorem dX12_worked_46 : decode cX12_worked 46 = .ok (.iinc 2 1, 3) := by decide +kernel
theorem dX12_worked_49 : decode cX12_worked 49 = .ok (.aload_n 0, 1) := by decide +kernel
theorem dX12_worked_50 : decode cX12_worked 50 = .ok (.getfield 87, 3) := by decide +kernel
theorem dX12_worked_53 : decode cX12_worked 53 = .ok (.iload_n 2, 1) := by decide +kernel
theorem dX12_worked_54 : decode cX12_worked 54 = .ok (.iload 4, 2) := by decide +kernel
theorem dX12_worked_56 : decode cX12_worked 56 = .ok (.bipush 30, 2) := by decide +kernel
theorem dX12_worked_58 : decode cX12_worked 58 = .ok (.if_icmp .ne 7, 3) := by decide +kernel
theorem dX12_worked_61 : decode cX12_worked 61 = .ok (.iconst 1, 1) := by decide +kernel
theorem dX12_worked_62 : decode cX12_worked 62 = .ok (.goto 4, 3) := by decide +kernel
theorem dX12_worked_65 : decode cX12_worked 65 = .ok (.iconst 0, 1) := by decide +kernel
theorem dX12_worked_66 : decode cX12_worked 66 = .ok (.iastore, 1) := by decide +kernel
theorem dX12_worked_67 : decode cX12_worked 67 = .ok (.aload_n 0, 1) := by decide +kernel
theorem dX12_worked_68 : decode cX12_worked 68 = .ok (.iload_n 2, 1) := by decide +kernel
theorem dX12_worked_69 : decode cX12_worked 69 = .ok (.invokevirtual 247, 3) := by decide +kernel
theorem dX12_worked_72 : decode cX12_worked 72 = .ok (.goto 257, 3) := by decide +kernel
theorem dX12_worked_75 : decode cX12_worked 75 = .ok (.iload 4, 2) := by decide +kernel
theorem dX12_worked_77 : decode cX12_worked 77 = .ok (.bipush 20, 2) := by decide +kernel
theorem dX12_worked_79 : decode cX12_worked 79 = .ok (.if_icmp .eq 10, 3) := by decide +kernel
theorem dX12_worked_82 : decode cX12_worked 82 = .ok (.iload 4, 2) := by decide +kernel
theorem dX12_worked_84 : decode cX12_worked 84 = .ok (.bipush 21, 2) := by decide +kernel
theorem dX12_worked_86 : decode cX12_worked 86 = .ok (.if_icmp .ne 19, 3) := by decide +kernel
theorem dX12_worked_89 : decode cX12_worked 89 = .ok (.aload_n 0, 1) := by decide +kernel
theorem dX12_worked_90 : decode cX12_worked 90 = .ok (.iload_n 2, 1) := by decide +kernel
theorem dX12_worked_91 : decode cX12_worked 91 = .ok (.invokevirtual 244, 3) := by decide +kernel
theorem dX12_worked_94 : decode cX12_worked 94 = .ok (.aload_n 0, 1) := by decide +kernel
theorem dX12_worked_95 : decode cX12_worked 95 = .ok (.getfield 78, 3) := by decide +kernel
theorem dX12_worked_98 : decode cX12_worked 98 = .ok (.iload_n 2, 1) := by decide +kernel
theorem dX12_worked_99 : decode cX12_worked 99 = .ok (.iload 4, 2) := by decide +kernel
theorem dX12_worked_101 : decode cX12_worked 101 = .ok (.iastore, 1) := by decide +kernel
theorem dX12_worked_102 : decode cX12_worked 102 = .ok (.goto 227, 3) := by decide +kernel
theorem dX12_worked_105 : decode cX12_worked 105 = .ok (.iload 4, 2) := by decide +kernel
theorem dX12_worked_107 : decode cX12_worked 107 = .ok (.bipush 22, 2) := by decide +kernel
theorem dX12_worked_109 : decode cX12_worked 109 = .ok (.if_icmp .ne 14, 3) := by decide +kernel
theorem dX12_worked_112 : decode cX12_worked 112 = .ok (.aload_n 0, 1) := by decide +kernel
theorem dX12_worked_113 : decode cX12_worked 113 = .ok (.getfield 84, 3) := by decide +kernel
theorem dX12_worked_116 : decode cX12_worked 116 = .ok (.iload_n 2, 1) := by decide +kernel
theorem dX12_worked_117 : decode cX12_worked 117 = .ok (.iload 4, 2) := by decide +kernel
theorem dX12_worked_119 : decode cX12_worked 119 = .ok (.iastore, 1) := by decide +kernel
theorem dX12_worked_120 : decode cX12_worked 120 = .ok (.goto 209, 3) := by decide +kernel
theorem dX12_worked_123 : decode cX12_worked 123 = .ok (.iload 4, 2) := by decide +kernel
theorem dX12_worked_125 : decode cX12_worked 125 = .ok (.bipush 24, 2) := by decide +kernel
theorem dX12_worked_127 : decode cX12_worked 127 = .ok (.if_icmp .eq 10, 3) := by decide +kernel
theorem dX12_worked_130 : decode cX12_worked 130 = .ok (.iload 4, 2) := by decide +kernel
theorem dX12_worked_132 : decode cX12_worked 132 = .ok (.bipush 25, 2) := by decide +kernel
theorem dX12_worked_134 : decode cX12_worked 134 = .ok (.if_icmp .ne 46, 3) := by decide +kernel
theorem dX12_worked_137 : decode cX12_worked 137 = .ok (.aload_n 0, 1) := by decide +kernel
theorem dX12_worked_138 : decode cX12_worked 138 = .ok (.iload_n 2, 1) := by decide +kernel
theorem dX12_worked_139 : decode cX12_worked 139 = .ok (.invokevirtual 244, 3) := by decide +kernel
theorem dX12_worked_142 : decode cX12_worked 142 = .ok (.aload_n 0, 1) := by decide +kernel
theorem dX12_worked_143 : decode cX12_worked 143 = .ok (.getfield 69, 3) := by decide +kernel
theorem dX12_worked_146 : decode cX12_worked 146 = .ok (.iload_n 2, 1) := by decide +kernel
theorem dX12_worked_147 : decode cX12_worked 147 = .ok (.aload_n 0, 1) := by decide +kernel
theorem dX12_worked_148 : decode cX12_worked 148 = .ok (.getfield 75, 3) := by decide +kernel
theorem dX12_worked_151 : decode cX12_worked 151 = .ok (.iload_n 2, 1) := by decide +kernel
theorem dX12_worked_152 : decode cX12_worked 152 = .ok (.iaload, 1) := by decide +kernel
theorem dX12_worked_153 : decode cX12_worked 153 = .ok (.iastore, 1) := by decide +kernel
theorem dX12_worked_154 : decode cX12_worked 154 = .ok (.aload_n 0, 1) := by decide +kernel
theorem dX12_worked_155 : decode cX12_worked 155 = .ok (.getfield 72, 3) := by decide +kernel
theorem dX12_worked_158 : decode cX12_worked 158 = .ok (.iload_n 2, 1) := by decide +kernel
theorem dX12_worked_159 : decode cX12_worked 159 = .ok (.iload 4, 2) := by decide +kernel
theorem dX12_worked_161 : decode cX12_worked 161 = .ok (.iastore, 1) := by decide +kernel
theorem dX12_worked_162 : decode cX12_worked 162 = .ok (.aload_n 0, 1) := by decide +kernel
theorem dX12_worked_163 : decode cX12_worked 163 = .ok (.getfield 75, 3) := by decide +kernel
theorem dX12_worked_166 : decode cX12_worked 166 = .ok (.iload_n 2, 1) := by decide +kernel
theorem dX12_worked_167 : decode cX12_worked 167 = .ok (.iconst 0, 1) := by decide +kernel
theorem dX12_worked_168 : decode cX12_worked 168 = .ok (.iastore, 1) := by decide +kernel
theorem dX12_worked_169 : decode cX12_worked 169 = .ok (.aload_n 0, 1) := by decide +kernel
theorem dX12_worked_170 : decode cX12_worked 170 = .ok (.getfield 78, 3) := by decide +kernel
theorem dX12_worked_173 : decode cX12_worked 173 = .ok (.iload_n 2, 1) := by decide +kernel
theorem dX12_worked_174 : decode cX12_worked 174 = .ok (.bipush 20, 2) := by decide +kernel
theorem dX12_worked_176 : decode cX12_worked 176 = .ok (.iastore, 1) := by decide +kernel
theorem dX12_worked_177 : decode cX12_worked 177 = .ok (.goto 152, 3) := by decide +kernel
theorem dX12_worked_180 : decode cX12_worked 180 = .ok (.iload 4, 2) := by decide +kernel
theorem dX12_worked_182 : decode cX12_worked 182 = .ok (.bipush 26, 2) := by decide +kernel
theorem dX12_worked_184 : decode cX12_worked 184 = .ok (.if_icmp .eq 10, 3) := by decide +kernel
theorem dX12_worked_187 : decode cX12_worked 187 = .ok (.iload 4, 2) := by decide +kernel
theorem dX12_worked_189 : decode cX12_worked 189 = .ok (.bipush 27, 2) := by decide +kernel
theorem dX12_worked_191 : decode cX12_worked 191 = .ok (.if_icmp .ne 19, 3) := by decide +kernel
theorem dX12_worked_194 : decode cX12_worked 194 = .ok (.aload_n 0, 1) := by decide +kernel
theorem dX12_worked_195 : decode cX12_worked 195 = .ok (.iload_n 2, 1) := by decide +kernel
theorem dX12_worked_196 : decode cX12_worked 196 = .ok (.invokevirtual 250, 3) := by decide +kernel
theorem dX12_worked_199 : decode cX12_worked 199 = .ok (.aload_n 0, 1) := by decide +kernel
theorem dX12_worked_200 : decode cX12_worked 200 = .ok (.getfield 66, 3) := by decide +kernel
theorem dX12_worked_203 : decode cX12_worked 203 = .ok (.iload_n 2, 1) := by decide +kernel
theorem dX12_worked_204 : decode cX12_worked 204 = .ok (.iload 4, 2) := by decide +kernel
theorem dX12_worked_206 : decode cX12_worked 206 = .ok (.iastore, 1) := by decide +kernel
theorem dX12_worked_207 : decode cX12_worked 207 = .ok (.goto 122, 3) := by decide +kernel
theorem dX12_worked_210 : decode cX12_worked 210 = .ok (.iload 4, 2) := by decide +kernel
theorem dX12_worked_212 : decode cX12_worked 212 = .ok (.bipush 100, 2) := by decide +kernel
theorem dX12_worked_214 : decode cX12_worked 214 = .ok (.if_icmp .lt 11, 3) := by decide +kernel
theorem dX12_worked_217 : decode cX12_worked 217 = .ok (.iload 4, 2) := by decide +kernel
theorem dX12_worked_219 : decode cX12_worked 219 = .ok (.bipush 100, 2) := by decide +kernel
theorem dX12_worked_221 : decode cX12_worked 221 = .ok (.isub, 1) := by decide +kernel
theorem dX12_worked_222 : decode cX12_worked 222 = .ok (.goto 21, 3) := by decide +kernel
theorem dX12_worked_225 : decode cX12_worked 225 = .ok (.iload 4, 2) := by decide +kernel
theorem dX12_worked_227 : decode cX12_worked 227 = .ok (.bipush 20, 2) := by decide +kernel
theorem dX12_worked_229 : decode cX12_worked 229 = .ok (.if_icmp .ge 13, 3) := by decide +kernel
theorem dX12_worked_232 : decode cX12_worked 232 = .ok (.aload_n 0, 1) := by decide +kernel
theorem dX12_worked_233 : decode cX12_worked 233 = .ok (.getfield 90, 3) := by decide +kernel
theorem dX12_worked_236 : decode cX12_worked 236 = .ok (.iload 4, 2) := by decide +kernel
theorem dX12_worked_238 : decode cX12_worked 238 = .ok (.iaload, 1) := by decide +kernel
theorem dX12_worked_239 : decode cX12_worked 239 = .ok (.goto 4, 3) := by decide +kernel
theorem dX12_worked_242 : decode cX12_worked 242 = .ok (.iconst 0, 1) := by decide +kernel
theorem dX12_worked_243 : decode cX12_worked 243 = .ok (.istore 5, 2) := by decide +kernel
theorem dX12_worked_245 : decode cX12_worked 245 = .ok (.iload 4, 2) := by decide +kernel
theorem dX12_worked_247 : decode cX12_worked 247 = .ok (.bipush 29, 2) := by decide +kernel
theorem dX12_worked_249 : decode cX12_worked 249 = .ok (.if_icmp .ne 19, 3) := by decide +kernel
theorem dX12_worked_252 : decode cX12_worked 252 = .ok (.aload_n 0, 1) := by decide +kernel
theorem dX12_worked_253 : decode cX12_worked 253 = .ok (.iload_n 2, 1) := by decide +kernel
theorem dX12_worked_254 : decode cX12_worked 254 = .ok (.invokevirtual 250, 3) := by decide +kernel
theorem dX12_worked_257 : decode cX12_worked 257 = .ok (.aload_n 0, 1) := by decide +kernel
theorem dX12_worked_258 : decode cX12_worked 258 = .ok (.getfield 63, 3) := by decide +kernel
theorem dX12_worked_261 : decode cX12_worked 261 = .ok (.iload_n 2, 1) := by decide +kernel
theorem dX12_worked_262 : decode cX12_worked 262 = .ok (.iaload, 1) := by decide +kernel
theorem dX12_worked_263 : decode cX12_worked 263 = .ok (.istore 5, 2) := by decide +kernel
theorem dX12_worked_265 : decode cX12_worked 265 = .ok (.iinc 2 (-1), 3) := by decide +kernel
theorem dX12_worked_268 : decode cX12_worked 268 = .ok (.iload_n 2, 1) := by decide +kernel
theorem dX12_worked_269 : decode cX12_worked 269 = .ok (.ifCond .le 31, 3) := by decide +kernel
theorem dX12_worked_272 : decode cX12_worked 272 = .ok (.aload_n 0, 1) := by decide +kernel
theorem dX12_worked_273 : decode cX12_worked 273 = .ok (.getfield 87, 3) := by decide +kernel
theorem dX12_worked_276 : decode cX12_worked 276 = .ok (.iload_n 2, 1) := by decide +kernel
theorem dX12_worked_277 : decode cX12_worked 277 = .ok (.iaload, 1) := by decide +kernel
theorem dX12_worked_278 : decode cX12_worked 278 = .ok (.iconst 1, 1) := by decide +kernel
theorem dX12_worked_279 : decode cX12_worked 279 = .ok (.if_icmp .ne 21, 3) := by decide +kernel
theorem dX12_worked_282 : decode cX12_worked 282 = .ok (.iload 5, 2) := by decide +kernel
theorem dX12_worked_284 : decode cX12_worked 284 = .ok (.ifCond .ne 7, 3) := by decide +kernel
theorem dX12_worked_287 : decode cX12_worked 287 = .ok (.iconst 1, 1) := by decide +kernel
theorem dX12_worked_288 : decode cX12_worked 288 = .ok (.goto 4, 3) := by decide +kernel
theorem dX12_worked_291 : decode cX12_worked 291 = .ok (.iconst 0, 1) := by decide +kernel
theorem dX12_worked_292 : decode cX12_worked 292 = .ok (.istore 5, 2) := by decide +kernel
theorem dX12_worked_294 : decode cX12_worked 294 = .ok (.iinc 2 (-1), 3) := by decide +kernel
theorem dX12_worked_297 : decode cX12_worked 297 = .ok (.goto (-29), 3) := by decide +kernel
theorem dX12_worked_300 : decode cX12_worked 300 = .ok (.aload_n 0, 1) := by decide +kernel
theorem dX12_worked_301 : decode cX12_worked 301 = .ok (.getfield 81, 3) := by decide +kernel
theorem dX12_worked_304 : decode cX12_worked 304 = .ok (.iload_n 2, 1) := by decide +kernel
theorem dX12_worked_305 : decode cX12_worked 305 = .ok (.aload_n 0, 1) := by decide +kernel
theorem dX12_worked_306 : decode cX12_worked 306 = .ok (.getfield 84, 3) := by decide +kernel
theorem dX12_worked_309 : decode cX12_worked 309 = .ok (.iload_n 2, 1) := by decide +kernel
theorem dX12_worked_310 : decode cX12_worked 310 = .ok (.iaload, 1) := by decide +kernel
theorem dX12_worked_311 : decode cX12_worked 311 = .ok (.ifCond .ne 8, 3) := by decide +kernel
theorem dX12_worked_314 : decode cX12_worked 314 = .ok (.iload 5, 2) := by decide +kernel
theorem dX12_worked_316 : decode cX12_worked 316 = .ok (.goto 12, 3) := by decide +kernel
theorem dX12_worked_319 : decode cX12_worked 319 = .ok (.aload_n 0, 1) := by decide +kernel
theorem dX12_worked_320 : decode cX12_worked 320 = .ok (.getfield 81, 3) := by decide +kernel
theorem dX12_worked_323 : decode cX12_worked 323 = .ok (.iload_n 2, 1) := by decide +kernel
theorem dX12_worked_324 : decode cX12_worked 324 = .ok (.iaload, 1) := by decide +kernel
theorem dX12_worked_325 : decode cX12_worked 325 = .ok (.iload 5, 2) := by decide +kernel
theorem dX12_worked_327 : decode cX12_worked 327 = .ok (.imul, 1) := by decide +kernel
theorem dX12_worked_328 : decode cX12_worked 328 = .ok (.iastore, 1) := by decide +kernel
theorem dX12_worked_329 : decode cX12_worked 329 = .ok (.iinc 3 1, 3) := by decide +kernel
theorem dX12_worked_332 : decode cX12_worked 332 = .ok (.goto (-318), 3) := by decide +kernel
theorem dX12_worked_335 : decode cX12_worked 335 = .ok (.aload_n 0, 1) := by decide +kernel
theorem dX12_worked_336 : decode cX12_worked 336 = .ok (.iconst 0, 1) := by decide +kernel
theorem dX12_worked_337 : decode cX12_worked 337 = .ok (.invokevirtual 250, 3) := by decide +kernel
theorem dX12_worked_340 : decode cX12_worked 340 = .ok (.aload_n 0, 1) := by decide +kernel
theorem dX12_worked_341 : decode cX12_worked 341 = .ok (.getfield 63, 3) := by decide +kernel
theorem dX12_worked_344 : decode cX12_worked 344 = .ok (.iconst 0, 1) := by decide +kernel
theorem dX12_worked_345 : decode cX12_worked 345 = .ok (.iaload, 1) := by decide +kernel
theorem dX12_worked_346 : decode cX12_worked 346 = .ok (.ireturn, 1) := by decide +kernel
theorem dX12_isKept_0 : decode cX12_isKept 0 = .ok (.aload_n 0, 1) := by decide +kernel
theorem dX12_isKept_1 : decode cX12_isKept 1 = .ok (.getfield 185, 3) := by decide +kernel
theorem dX12_isKept_4 : decode cX12_isKept 4 = .ok (.iconst 1, 1) := by decide +kernel
theorem dX12_isKept_5 : decode cX12_isKept 5 = .ok (.if_icmp .eq 5, 3) := by decide +kernel
theorem dX12_isKept_8 : decode cX12_isKept 8 = .ok (.iconst 1, 1) := by decide +kernel
theorem dX12_isKept_9 : decode cX12_isKept 9 = .ok (.ireturn, 1) := by decide +kernel
theorem dX12_isKept_10 : decode cX12_isKept 10 = .ok (.aload_n 0, 1) := by decide +kernel
theorem dX12_isKept_11 : decode cX12_isKept 11 = .ok (.getfield 178, 3) := by decide +kernel
theorem dX12_isKept_14 : decode cX12_isKept 14 = .ok (.ldc2_w 253, 3) := by decide +kernel
theorem dX12_isKept_17 : decode cX12_isKept 17 = .ok (.lcmp, 1) := by decide +kernel
theorem dX12_isKept_18 : decode cX12_isKept 18 = .ok (.ifCond .eq 245, 3) := by decide +kernel
theorem dX12_isKept_21 : decode cX12_isKept 21 = .ok (.aload_n 0, 1) := by decide +kernel
theorem dX12_isKept_22 : decode cX12_isKept 22 = .ok (.getfield 178, 3) := by decide +kernel
theorem dX12_isKept_25 : decode cX12_isKept 25 = .ok (.ldc2_w 255, 3) := by decide +kernel
theorem dX12_isKept_28 : decode cX12_isKept 28 = .ok (.lcmp, 1) := by decide +kernel
theorem dX12_isKept_29 : decode cX12_isKept 29 = .ok (.ifCond .eq 234, 3) := by decide +kernel
theorem dX12_isKept_32 : decode cX12_isKept 32 = .ok (.aload_n 0, 1) := by decide +kernel
theorem dX12_isKept_33 : decode cX12_isKept 33 = .ok (.getfield 178, 3) := by decide +kernel
theorem dX12_isKept_36 : decode cX12_isKept 36 = .ok (.ldc2_w 257, 3) := by decide +kernel
theorem dX12_isKept_39 : decode cX12_isKept 39 = .ok (.lcmp, 1) := by decide +kernel
theorem dX12_isKept_40 : decode cX12_isKept 40 = .ok (.ifCond .eq 223, 3) := by decide +kernel
theorem dX12_isKept_43 : decode cX12_isKept 43 = .ok (.aload_n 0, 1) := by decide +kernel
theorem dX12_isKept_44 : decode cX12_isKept 44 = .ok (.getfield 178, 3) := by decide +kernel
theorem dX12_isKept_47 : decode cX12_isKept 47 = .ok (.ldc2_w 259, 3) := by decide +kernel
theorem dX12_isKept_50 : decode cX12_isKept 50 = .ok (.lcmp, 1) := by decide +kernel
theorem dX12_isKept_51 : decode cX12_isKept 51 = .ok (.ifCond .eq 212, 3) := by decide +kernel
theorem dX12_isKept_54 : decode cX12_isKept 54 = .ok (.aload_n 0, 1) := by decide +kernel
theorem dX12_isKept_55 : decode cX12_isKept 55 = .ok (.getfield 178, 3) := by decide +kernel
theorem dX12_isKept_58 : decode cX12_isKept 58 = .ok (.ldc2_w 261, 3) := by decide +kernel
theorem dX12_isKept_61 : decode cX12_isKept 61 = .ok (.lcmp, 1) := by decide +kernel
theorem dX12_isKept_62 : decode cX12_isKept 62 = .ok (.ifCond .eq 201, 3) := by decide +kernel
theorem dX12_isKept_65 : decode cX12_isKept 65 = .ok (.aload_n 0, 1) := by decide +kernel
theorem dX12_isKept_66 : decode cX12_isKept 66 = .ok (.getfield 178, 3) := by decide +kernel
theorem dX12_isKept_69 : decode cX12_isKept 69 = .ok (.ldc2_w 263, 3) := by decide +kernel
theorem dX12_isKept_72 : decode cX12_isKept 72 = .ok (.lcmp, 1) := by decide +kernel
theorem dX12_isKept_73 : decode cX12_isKept 73 = .ok (.ifCond .eq 190, 3) := by decide +kernel
theorem dX12_isKept_76 : decode cX12_isKept 76 = .ok (.aload_n 0, 1) := by decide +kernel
theorem dX12_isKept_77 : decode cX12_isKept 77 = .ok (.getfield 178, 3) := by decide +kernel
theorem dX12_isKept_80 : decode cX12_isKept 80 = .ok (.ldc2_w 265, 3) := by decide +kernel
theorem dX12_isKept_83 : decode cX12_isKept 83 = .ok (.lcmp, 1) := by decide +kernel
theorem dX12_isKept_84 : decode cX12_isKept 84 = .ok (.ifCond .eq 179, 3) := by decide +kernel
theorem dX12_isKept_87 : decode cX12_isKept 87 = .ok (.aload_n 0, 1) := by decide +kernel
theorem dX12_isKept_88 : decode cX12_isKept 88 = .ok (.getfield 178, 3) := by decide +kernel
theorem dX12_isKept_91 : decode cX12_isKept 91 = .ok (.ldc2_w 267, 3) := by decide +kernel
theorem dX12_isKept_94 : decode cX12_isKept 94 = .ok (.lcmp, 1) := by decide +kernel
theorem dX12_isKept_95 : decode cX12_isKept 95 = .ok (.ifCond .eq 168, 3) := by decide +kernel
theorem dX12_isKept_98 : decode cX12_isKept 98 = .ok (.aload_n 0, 1) := by decide +kernel
theorem dX12_isKept_99 : decode cX12_isKept 99 = .ok (.getfield 178, 3) := by decide +kernel
theorem dX12_isKept_102 : decode cX12_isKept 102 = .ok (.ldc2_w 269, 3) := by decide +kernel
theorem dX12_isKept_105 : decode cX12_isKept 105 = .ok (.lcmp, 1) := by decide +kernel
theorem dX12_isKept_106 : decode cX12_isKept 106 = .ok (.ifCond .eq 157, 3) := by decide +kernel
theorem dX12_isKept_109 : decode cX12_isKept 109 = .ok (.aload_n 0, 1) := by decide +kernel
theorem dX12_isKept_110 : decode cX12_isKept 110 = .ok (.getfield 178, 3) := by decide +kernel
theorem dX12_isKept_113 : decode cX12_isKept 113 = .ok (.ldc2_w 271, 3) := by decide +kernel
theorem dX12_isKept_116 : decode cX12_isKept 116 = .ok (.lcmp, 1) := by decide +kernel
theorem dX12_isKept_117 : decode cX12_isKept 117 = .ok (.ifCond .eq 146, 3) := by decide +kernel
theorem dX12_isKept_120 : decode cX12_isKept 120 = .ok (.aload_n 0, 1) := by decide +kernel
theorem dX12_isKept_121 : decode cX12_isKept 121 = .ok (.getfield 178, 3) := by decide +kernel
theorem dX12_isKept_124 : decode cX12_isKept 124 = .ok (.ldc2_w 273, 3) := by decide +kernel
theorem dX12_isKept_127 : decode cX12_isKept 127 = .ok (.lcmp, 1) := by decide +kernel
theorem dX12_isKept_128 : decode cX12_isKept 128 = .ok (.ifCond .eq 135, 3) := by decide +kernel
theorem dX12_isKept_131 : decode cX12_isKept 131 = .ok (.aload_n 0, 1) := by decide +kernel
theorem dX12_isKept_132 : decode cX12_isKept 132 = .ok (.getfield 178, 3) := by decide +kernel
theorem dX12_isKept_135 : decode cX12_isKept 135 = .ok (.ldc2_w 275, 3) := by decide +kernel
theorem dX12_isKept_138 : decode cX12_isKept 138 = .ok (.lcmp, 1) := by decide +kernel
theorem dX12_isKept_139 : decode cX12_isKept 139 = .ok (.ifCond .eq 124, 3) := by decide +kernel
theorem dX12_isKept_142 : decode cX12_isKept 142 = .ok (.aload_n 0, 1) := by decide +kernel
theorem dX12_isKept_143 : decode cX12_isKept 143 = .ok (.getfield 178, 3) := by decide +kernel
theorem dX12_isKept_146 : decode cX12_isKept 146 = .ok (.ldc2_w 277, 3) := by decide +kernel
theorem dX12_isKept_149 : decode cX12_isKept 149 = .ok (.lcmp, 1) := by decide +kernel
theorem dX12_isKept_150 : decode cX12_isKept 150 = .ok (.ifCond .eq 113, 3) := by decide +kernel
theorem dX12_isKept_153 : decode cX12_isKept 153 = .ok (.aload_n 0, 1) := by decide +kernel
theorem dX12_isKept_154 : decode cX12_isKept 154 = .ok (.getfield 178, 3) := by decide +kernel
theorem dX12_isKept_157 : decode cX12_isKept 157 = .ok (.ldc2_w 279, 3) := by decide +kernel
theorem dX12_isKept_160 : decode cX12_isKept 160 = .ok (.lcmp, 1) := by decide +kernel
theorem dX12_isKept_161 : decode cX12_isKept 161 = .ok (.ifCond .eq 102, 3) := by decide +kernel
theorem dX12_isKept_164 : decode cX12_isKept 164 = .ok (.aload_n 0, 1) := by decide +kernel
theorem dX12_isKept_165 : decode cX12_isKept 165 = .ok (.getfield 178, 3) := by decide +kernel
theorem dX12_isKept_168 : decode cX12_isKept 168 = .ok (.ldc2_w 281, 3) := by decide +kernel
theorem dX12_isKept_171 : decode cX12_isKept 171 = .ok (.lcmp, 1) := by decide +kernel
theorem dX12_isKept_172 : decode cX12_isKept 172 = .ok (.ifCond .eq 91, 3) := by decide +kernel
theorem dX12_isKept_175 : decode cX12_isKept 175 = .ok (.aload_n 0, 1) := by decide +kernel
theorem dX12_isKept_176 : decode cX12_isKept 176 = .ok (.getfield 178, 3) := by decide +kernel
theorem dX12_isKept_179 : decode cX12_isKept 179 = .ok (.ldc2_w 283, 3) := by decide +kernel
theorem dX12_isKept_182 : decode cX12_isKept 182 = .ok (.lcmp, 1) := by decide +kernel
theorem dX12_isKept_183 : decode cX12_isKept 183 = .ok (.ifCond .eq 80, 3) := by decide +kernel
theorem dX12_isKept_186 : decode cX12_isKept 186 = .ok (.aload_n 0, 1) := by decide +kernel
theorem dX12_isKept_187 : decode cX12_isKept 187 = .ok (.getfield 178, 3) := by decide +kernel
theorem dX12_isKept_190 : decode cX12_isKept 190 = .ok (.ldc2_w 285, 3) := by decide +kernel
theorem dX12_isKept_193 : decode cX12_isKept 193 = .ok (.lcmp, 1) := by decide +kernel
theorem dX12_isKept_194 : decode cX12_isKept 194 = .ok (.ifCond .eq 69, 3) := by decide +kernel
theorem dX12_isKept_197 : decode cX12_isKept 197 = .ok (.aload_n 0, 1) := by decide +kernel
theorem dX12_isKept_198 : decode cX12_isKept 198 = .ok (.getfield 178, 3) := by decide +kernel
theorem dX12_isKept_201 : decode cX12_isKept 201 = .ok (.ldc2_w 287, 3) := by decide +kernel
theorem dX12_isKept_204 : decode cX12_isKept 204 = .ok (.lcmp, 1) := by decide +kernel
theorem dX12_isKept_205 : decode cX12_isKept 205 = .ok (.ifCond .eq 58, 3) := by decide +kernel
theorem dX12_isKept_208 : decode cX12_isKept 208 = .ok (.aload_n 0, 1) := by decide +kernel
theorem dX12_isKept_209 : decode cX12_isKept 209 = .ok (.getfield 178, 3) := by decide +kernel
theorem dX12_isKept_212 : decode cX12_isKept 212 = .ok (.ldc2_w 289, 3) := by decide +kernel
theorem dX12_isKept_215 : decode cX12_isKept 215 = .ok (.lcmp, 1) := by decide +kernel
theorem dX12_isKept_216 : decode cX12_isKept 216 = .ok (.ifCond .eq 47, 3) := by decide +kernel
theorem dX12_isKept_219 : decode cX12_isKept 219 = .ok (.aload_n 0, 1) := by decide +kernel
theorem dX12_isKept_220 : decode cX12_isKept 220 = .ok (.getfield 178, 3) := by decide +kernel
theorem dX12_isKept_223 : decode cX12_isKept 223 = .ok (.ldc2_w 291, 3) := by decide +kernel
theorem dX12_isKept_226 : decode cX12_isKept 226 = .ok (.lcmp, 1) := by decide +kernel
theorem dX12_isKept_227 : decode cX12_isKept 227 = .ok (.ifCond .eq 36, 3) := by decide +kernel
theorem dX12_isKept_230 : decode cX12_isKept 230 = .ok (.aload_n 0, 1) := by decide +kernel
theorem dX12_isKept_231 : decode cX12_isKept 231 = .ok (.getfield 178, 3) := by decide +kernel
theorem dX12_isKept_234 : decode cX12_isKept 234 = .ok (.ldc2_w 221, 3) := by decide +kernel
theorem dX12_isKept_237 : decode cX12_isKept 237 = .ok (.lcmp, 1) := by decide +kernel
theorem dX12_isKept_238 : decode cX12_isKept 238 = .ok (.ifCond .eq 25, 3) := by decide +kernel
theorem dX12_isKept_241 : decode cX12_isKept 241 = .ok (.aload_n 0, 1) := by decide +kernel
theorem dX12_isKept_242 : decode cX12_isKept 242 = .ok (.getfield 178, 3) := by decide +kernel
theorem dX12_isKept_245 : decode cX12_isKept 245 = .ok (.ldc2_w 240, 3) := by decide +kernel
theorem dX12_isKept_248 : decode cX12_isKept 248 = .ok (.lcmp, 1) := by decide +kernel
theorem dX12_isKept_249 : decode cX12_isKept 249 = .ok (.ifCond .eq 14, 3) := by decide +kernel
theorem dX12_isKept_252 : decode cX12_isKept 252 = .ok (.aload_n 0, 1) := by decide +kernel
theorem dX12_isKept_253 : decode cX12_isKept 253 = .ok (.getfield 178, 3) := by decide +kernel
theorem dX12_isKept_256 : decode cX12_isKept 256 = .ok (.ldc2_w 242, 3) := by decide +kernel
theorem dX12_isKept_259 : decode cX12_isKept 259 = .ok (.lcmp, 1) := by decide +kernel
theorem dX12_isKept_260 : decode cX12_isKept 260 = .ok (.ifCond .ne 7, 3) := by decide +kernel
theorem dX12_isKept_263 : decode cX12_isKept 263 = .ok (.iconst 1, 1) := by decide +kernel
theorem dX12_isKept_264 : decode cX12_isKept 264 = .ok (.goto 4, 3) := by decide +kernel
theorem dX12_isKept_267 : decode cX12_isKept 267 = .ok (.iconst 0, 1) := by decide +kernel
theorem dX12_isKept_268 : decode cX12_isKept 268 = .ok (.ireturn, 1) := by decide +kernel
theorem dX12_tuneNamed_0 : decode cX12_tuneNamed 0 = .ok (.iconst 5, 1) := by decide +kernel
theorem dX12_tuneNamed_1 : decode cX12_tuneNamed 1 = .ok (.istore_n 1, 1) := by decide +kernel
theorem dX12_tuneNamed_2 : decode cX12_tuneNamed 2 = .ok (.iload_n 1, 1) := by decide +kernel
theorem dX12_tuneNamed_3 : decode cX12_tuneNamed 3 = .ok (.iconst 5, 1) := by decide +kernel
theorem dX12_tuneNamed_4 : decode cX12_tuneNamed 4 = .ok (.aload_n 0, 1) := by decide +kernel
theorem dX12_tuneNamed_5 : decode cX12_tuneNamed 5 = .ok (.getfield 13, 3) := by decide +kernel
theorem dX12_tuneNamed_8 : decode cX12_tuneNamed 8 = .ok (.bipush 7, 2) := by decide +kernel
theorem dX12_tuneNamed_10 : decode cX12_tuneNamed 10 = .ok (.iaload, 1) := by decide +kernel
theorem dX12_tuneNamed_11 : decode cX12_tuneNamed 11 = .ok (.iadd, 1) := by decide +kernel
theorem dX12_tuneNamed_12 : decode cX12_tuneNamed 12 = .ok (.if_icmp .ge 27, 3) := by decide +kernel
theorem dX12_tuneNamed_15 : decode cX12_tuneNamed 15 = .ok (.aload_n 0, 1) := by decide +kernel
theorem dX12_tuneNamed_16 : decode cX12_tuneNamed 16 = .ok (.getfield 16, 3) := by decide +kernel
theorem dX12_tuneNamed_19 : decode cX12_tuneNamed 19 = .ok (.iload_n 1, 1) := by decide +kernel
theorem dX12_tuneNamed_20 : decode cX12_tuneNamed 20 = .ok (.laload, 1) := by decide +kernel
theorem dX12_tuneNamed_21 : decode cX12_tuneNamed 21 = .ok (.aload_n 0, 1) := by decide +kernel
theorem dX12_tuneNamed_22 : decode cX12_tuneNamed 22 = .ok (.getfield 178, 3) := by decide +kernel
theorem dX12_tuneNamed_25 : decode cX12_tuneNamed 25 = .ok (.lcmp, 1) := by decide +kernel
theorem dX12_tuneNamed_26 : decode cX12_tuneNamed 26 = .ok (.ifCond .ne 7, 3) := by decide +kernel
theorem dX12_tuneNamed_29 : decode cX12_tuneNamed 29 = .ok (.iload_n 1, 1) := by decide +kernel
theorem dX12_tuneNamed_30 : decode cX12_tuneNamed 30 = .ok (.iconst 5, 1) := by decide +kernel
theorem dX12_tuneNamed_31 : decode cX12_tuneNamed 31 = .ok (.isub, 1) := by decide +kernel
theorem dX12_tuneNamed_32 : decode cX12_tuneNamed 32 = .ok (.ireturn, 1) := by decide +kernel
theorem dX12_tuneNamed_33 : decode cX12_tuneNamed 33 = .ok (.iinc 1 1, 3) := by decide +kernel
theorem dX12_tuneNamed_36 : decode cX12_tuneNamed 36 = .ok (.goto (-34), 3) := by decide +kernel
theorem dX12_tuneNamed_39 : decode cX12_tuneNamed 39 = .ok (.iconst (-1), 1) := by decide +kernel
theorem dX12_tuneNamed_40 : decode cX12_tuneNamed 40 = .ok (.ireturn, 1) := by decide +kernel
theorem dX12_passerNamed_0 : decode cX12_passerNamed 0 = .ok (.bipush 7, 2) := by decide +kernel
theorem dX12_passerNamed_2 : decode cX12_passerNamed 2 = .ok (.istore_n 1, 1) := by decide +kernel
theorem dX12_passerNamed_3 : decode cX12_passerNamed 3 = .ok (.iload_n 1, 1) := by decide +kernel
theorem dX12_passerNamed_4 : decode cX12_passerNamed 4 = .ok (.bipush 7, 2) := by decide +kernel
theorem dX12_passerNamed_6 : decode cX12_passerNamed 6 = .ok (.aload_n 0, 1) := by decide +kernel
theorem dX12_passerNamed_7 : decode cX12_passerNamed 7 = .ok (.getfield 13, 3) := by decide +kernel
theorem dX12_passerNamed_10 : decode cX12_passerNamed 10 = .ok (.bipush 8, 2) := by decide +kernel
theorem dX12_passerNamed_12 : decode cX12_passerNamed 12 = .ok (.iaload, 1) := by decide +kernel
theorem dX12_passerNamed_13 : decode cX12_passerNamed 13 = .ok (.iadd, 1) := by decide +kernel
theorem dX12_passerNamed_14 : decode cX12_passerNamed 14 = .ok (.if_icmp .ge 28, 3) := by decide +kernel
theorem dX12_passerNamed_17 : decode cX12_passerNamed 17 = .ok (.aload_n 0, 1) := by decide +kernel
theorem dX12_passerNamed_18 : decode cX12_passerNamed 18 = .ok (.getfield 20, 3) := by decide +kernel
theorem dX12_passerNamed_21 : decode cX12_passerNamed 21 = .ok (.iload_n 1, 1) := by decide +kernel
theorem dX12_passerNamed_22 : decode cX12_passerNamed 22 = .ok (.laload, 1) := by decide +kernel
theorem dX12_passerNamed_23 : decode cX12_passerNamed 23 = .ok (.aload_n 0, 1) := by decide +kernel
theorem dX12_passerNamed_24 : decode cX12_passerNamed 24 = .ok (.getfield 178, 3) := by decide +kernel
theorem dX12_passerNamed_27 : decode cX12_passerNamed 27 = .ok (.lcmp, 1) := by decide +kernel
theorem dX12_passerNamed_28 : decode cX12_passerNamed 28 = .ok (.ifCond .ne 8, 3) := by decide +kernel
theorem dX12_passerNamed_31 : decode cX12_passerNamed 31 = .ok (.iload_n 1, 1) := by decide +kernel
theorem dX12_passerNamed_32 : decode cX12_passerNamed 32 = .ok (.bipush 7, 2) := by decide +kernel
theorem dX12_passerNamed_34 : decode cX12_passerNamed 34 = .ok (.isub, 1) := by decide +kernel
theorem dX12_passerNamed_35 : decode cX12_passerNamed 35 = .ok (.ireturn, 1) := by decide +kernel
theorem dX12_passerNamed_36 : decode cX12_passerNamed 36 = .ok (.iinc 1 1, 3) := by decide +kernel
theorem dX12_passerNamed_39 : decode cX12_passerNamed 39 = .ok (.goto (-36), 3) := by decide +kernel
theorem dX12_passerNamed_42 : decode cX12_passerNamed 42 = .ok (.iconst (-1), 1) := by decide +kernel
theorem dX12_passerNamed_43 : decode cX12_passerNamed 43 = .ok (.ireturn, 1) := by decide +kernel
theorem dX12_needsNumber_0 : decode cX12_needsNumber 0 = .ok (.aload_n 0, 1) := by decide +kernel
theorem dX12_needsNumber_1 : decode cX12_needsNumber 1 = .ok (.getfield 185, 3) := by decide +kernel
theorem dX12_needsNumber_4 : decode cX12_needsNumber 4 = .ok (.iconst 2, 1) := by decide +kernel
theorem dX12_needsNumber_5 : decode cX12_needsNumber 5 = .ok (.if_icmp .eq 9, 3) := by decide +kernel
theorem dX12_needsNumber_8 : decode cX12_needsNumber 8 = .ok (.aload_n 0, 1) := by decide +kernel
theorem dX12_needsNumber_9 : decode cX12_needsNumber 9 = .ok (.iconst 1, 1) := by decide +kernel
theorem dX12_needsNumber_10 : decode cX12_needsNumber 10 = .ok (.invokevirtual 231, 3) := by decide +kernel
theorem dX12_needsNumber_13 : decode cX12_needsNumber 13 = .ok (.ireturn, 1) := by decide +kernel
theorem dX12_needsNumber_14 : decode cX12_needsNumber 14 = .ok (.aload_n 0, 1) := by decide +kernel
theorem dX12_needsNumber_15 : decode cX12_needsNumber 15 = .ok (.getfield 182, 3) := by decide +kernel
theorem dX12_needsNumber_18 : decode cX12_needsNumber 18 = .ok (.iload_n 1, 1) := by decide +kernel
theorem dX12_needsNumber_19 : decode cX12_needsNumber 19 = .ok (.iload_n 2, 1) := by decide +kernel
theorem dX12_needsNumber_20 : decode cX12_needsNumber 20 = .ok (.invokestatic 293, 3) := by decide +kernel
theorem dX12_needsNumber_23 : decode cX12_needsNumber 23 = .ok (.ifCond .ne 9, 3) := by decide +kernel
theorem dX12_needsNumber_26 : decode cX12_needsNumber 26 = .ok (.aload_n 0, 1) := by decide +kernel
theorem dX12_needsNumber_27 : decode cX12_needsNumber 27 = .ok (.iconst 4, 1) := by decide +kernel
theorem dX12_needsNumber_28 : decode cX12_needsNumber 28 = .ok (.invokevirtual 231, 3) := by decide +kernel
theorem dX12_needsNumber_31 : decode cX12_needsNumber 31 = .ok (.ireturn, 1) := by decide +kernel
theorem dX12_needsNumber_32 : decode cX12_needsNumber 32 = .ok (.aload_n 0, 1) := by decide +kernel
theorem dX12_needsNumber_33 : decode cX12_needsNumber 33 = .ok (.aload_n 0, 1) := by decide +kernel
theorem dX12_needsNumber_34 : decode cX12_needsNumber 34 = .ok (.getfield 182, 3) := by decide +kernel
theorem dX12_needsNumber_37 : decode cX12_needsNumber 37 = .ok (.putfield 297, 3) := by decide +kernel
theorem dX12_needsNumber_40 : decode cX12_needsNumber 40 = .ok (.aload_n 0, 1) := by decide +kernel
theorem dX12_needsNumber_41 : decode cX12_needsNumber 41 = .ok (.invokevirtual 237, 3) := by decide +kernel
theorem dX12_needsNumber_44 : decode cX12_needsNumber 44 = .ok (.iconst 1, 1) := by decide +kernel
theorem dX12_needsNumber_45 : decode cX12_needsNumber 45 = .ok (.ireturn, 1) := by decide +kernel
theorem dX12_needsWord_0 : decode cX12_needsWord 0 = .ok (.aload_n 0, 1) := by decide +kernel
theorem dX12_needsWord_1 : decode cX12_needsWord 1 = .ok (.lload_n 1, 1) := by decide +kernel
theorem dX12_needsWord_2 : decode cX12_needsWord 2 = .ok (.invokevirtual 223, 3) := by decide +kernel
theorem dX12_needsWord_5 : decode cX12_needsWord 5 = .ok (.ifCond .ne 9, 3) := by decide +kernel
theorem dX12_needsWord_8 : decode cX12_needsWord 8 = .ok (.aload_n 0, 1) := by decide +kernel
theorem dX12_needsWord_9 : decode cX12_needsWord 9 = .ok (.iconst 1, 1) := by decide +kernel
theorem dX12_needsWord_10 : decode cX12_needsWord 10 = .ok (.invokevirtual 231, 3) := by decide +kernel
theorem dX12_needsWord_13 : decode cX12_needsWord 13 = .ok (.ireturn, 1) := by decide +kernel
theorem dX12_needsWord_14 : decode cX12_needsWord 14 = .ok (.aload_n 0, 1) := by decide +kernel
theorem dX12_needsWord_15 : decode cX12_needsWord 15 = .ok (.invokevirtual 237, 3) := by decide +kernel
theorem dX12_needsWord_18 : decode cX12_needsWord 18 = .ok (.iconst 1, 1) := by decide +kernel
theorem dX12_needsWord_19 : decode cX12_needsWord 19 = .ok (.ireturn, 1) := by decide +kernel
theorem dX12_needsBoth_0 : decode cX12_needsBoth 0 = .ok (.aload_n 0, 1) := by decide +kernel
theorem dX12_needsBoth_1 : decode cX12_needsBoth 1 = .ok (.lload_n 1, 1) := by decide +kernel
theorem dX12_needsBoth_2 : decode cX12_needsBoth 2 = .ok (.invokevirtual 300, 3) := by decide +kernel
theorem dX12_needsBoth_5 : decode cX12_needsBoth 5 = .ok (.ifCond .eq 17, 3) := by decide +kernel
theorem dX12_needsBoth_8 : decode cX12_needsBoth 8 = .ok (.aload_n 0, 1) := by decide +kernel
theorem dX12_needsBoth_9 : decode cX12_needsBoth 9 = .ok (.iload_n 3, 1) := by decide +kernel
theorem dX12_needsBoth_10 : decode cX12_needsBoth 10 = .ok (.iload 4, 2) := by decide +kernel
theorem dX12_needsBoth_12 : decode cX12_needsBoth 12 = .ok (.invokevirtual 303, 3) := by decide +kernel
theorem dX12_needsBoth_15 : decode cX12_needsBoth 15 = .ok (.ifCond .eq 7, 3) := by decide +kernel
theorem dX12_needsBoth_18 : decode cX12_needsBoth 18 = .ok (.iconst 1, 1) := by decide +kernel
theorem dX12_needsBoth_19 : decode cX12_needsBoth 19 = .ok (.goto 4, 3) := by decide +kernel
theorem dX12_needsBoth_22 : decode cX12_needsBoth 22 = .ok (.iconst 0, 1) := by decide +kernel
theorem dX12_needsBoth_23 : decode cX12_needsBoth 23 = .ok (.ireturn, 1) := by decide +kernel
theorem dX12_closes_0 : decode cX12_closes 0 = .ok (.aload_n 0, 1) := by decide +kernel
theorem dX12_closes_1 : decode cX12_closes 1 = .ok (.bipush 59, 2) := by decide +kernel
theorem dX12_closes_3 : decode cX12_closes 3 = .ok (.invokevirtual 227, 3) := by decide +kernel
theorem dX12_closes_6 : decode cX12_closes 6 = .ok (.ifCond .ne 9, 3) := by decide +kernel
theorem dX12_closes_9 : decode cX12_closes 9 = .ok (.aload_n 0, 1) := by decide +kernel
theorem dX12_closes_10 : decode cX12_closes 10 = .ok (.iconst 1, 1) := by decide +kernel
theorem dX12_closes_11 : decode cX12_closes 11 = .ok (.invokevirtual 231, 3) := by decide +kernel
theorem dX12_closes_14 : decode cX12_closes 14 = .ok (.ireturn, 1) := by decide +kernel
theorem dX12_closes_15 : decode cX12_closes 15 = .ok (.aload_n 0, 1) := by decide +kernel
theorem dX12_closes_16 : decode cX12_closes 16 = .ok (.invokevirtual 237, 3) := by decide +kernel
theorem dX12_closes_19 : decode cX12_closes 19 = .ok (.iconst 1, 1) := by decide +kernel
theorem dX12_closes_20 : decode cX12_closes 20 = .ok (.ireturn, 1) := by decide +kernel
theorem dX12_needsNew_0 : decode cX12_needsNew 0 = .ok (.aload_n 0, 1) := by decide +kernel
theorem dX12_needsNew_1 : decode cX12_needsNew 1 = .ok (.invokevirtual 307, 3) := by decide +kernel
theorem dX12_needsNew_4 : decode cX12_needsNew 4 = .ok (.ifCond .eq 9, 3) := by decide +kernel
theorem dX12_needsNew_7 : decode cX12_needsNew 7 = .ok (.aload_n 0, 1) := by decide +kernel
theorem dX12_needsNew_8 : decode cX12_needsNew 8 = .ok (.iconst 1, 1) := by decide +kernel
theorem dX12_needsNew_9 : decode cX12_needsNew 9 = .ok (.invokevirtual 231, 3) := by decide +kernel
theorem dX12_needsNew_12 : decode cX12_needsNew 12 = .ok (.ireturn, 1) := by decide +kernel
theorem dX12_needsNew_13 : decode cX12_needsNew 13 = .ok (.aload_n 0, 1) := by decide +kernel
theorem dX12_needsNew_14 : decode cX12_needsNew 14 = .ok (.invokevirtual 311, 3) := by decide +kernel
theorem dX12_needsNew_17 : decode cX12_needsNew 17 = .ok (.ifCond .ge 10, 3) := by decide +kernel
theorem dX12_needsNew_20 : decode cX12_needsNew 20 = .ok (.aload_n 0, 1) := by decide +kernel
theorem dX12_needsNew_21 : decode cX12_needsNew 21 = .ok (.invokevirtual 314, 3) := by decide +kernel
theorem dX12_needsNew_24 : decode cX12_needsNew 24 = .ok (.ifCond .lt 9, 3) := by decide +kernel
theorem dX12_needsNew_27 : decode cX12_needsNew 27 = .ok (.aload_n 0, 1) := by decide +kernel
theorem dX12_needsNew_28 : decode cX12_needsNew 28 = .ok (.iconst 3, 1) := by decide +kernel
theorem dX12_needsNew_29 : decode cX12_needsNew 29 = .ok (.invokevirtual 231, 3) := by decide +kernel
theorem dX12_needsNew_32 : decode cX12_needsNew 32 = .ok (.ireturn, 1) := by decide +kernel
theorem dX12_needsNew_33 : decode cX12_needsNew 33 = .ok (.aload_n 0, 1) := by decide +kernel
theorem dX12_needsNew_34 : decode cX12_needsNew 34 = .ok (.aload_n 0, 1) := by decide +kernel
theorem dX12_needsNew_35 : decode cX12_needsNew 35 = .ok (.getfield 178, 3) := by decide +kernel
theorem dX12_needsNew_38 : decode cX12_needsNew 38 = .ok (.putfield 317, 3) := by decide +kernel
theorem dX12_needsNew_41 : decode cX12_needsNew 41 = .ok (.aload_n 0, 1) := by decide +kernel
theorem dX12_needsNew_42 : decode cX12_needsNew 42 = .ok (.invokevirtual 237, 3) := by decide +kernel
theorem dX12_needsNew_45 : decode cX12_needsNew 45 = .ok (.iconst 1, 1) := by decide +kernel
theorem dX12_needsNew_46 : decode cX12_needsNew 46 = .ok (.ireturn, 1) := by decide +kernel
theorem dX12_readsTune_0 : decode cX12_readsTune 0 = .ok (.iconst 5, 1) := by decide +kernel
theorem dX12_readsTune_1 : decode cX12_readsTune 1 = .ok (.aload_n 0, 1) := by decide +kernel
theorem dX12_readsTune_2 : decode cX12_readsTune 2 = .ok (.getfield 13, 3) := by decide +kernel
theorem dX12_readsTune_5 : decode cX12_readsTune 5 = .ok (.bipush 7, 2) := by decide +kernel
theorem dX12_readsTune_7 : decode cX12_readsTune 7 = .ok (.iaload, 1) := by decide +kernel
theorem dX12_readsTune_8 : decode cX12_readsTune 8 = .ok (.iadd, 1) := by decide +kernel
theorem dX12_readsTune_9 : decode cX12_readsTune 9 = .ok (.istore_n 1, 1) := by decide +kernel
theorem dX12_readsTune_10 : decode cX12_readsTune 10 = .ok (.iload_n 1, 1) := by decide +kernel
theorem dX12_readsTune_11 : decode cX12_readsTune 11 = .ok (.bipush 10, 2) := by decide +kernel
theorem dX12_readsTune_13 : decode cX12_readsTune 13 = .ok (.if_icmp .ne 9, 3) := by decide +kernel
theorem dX12_readsTune_16 : decode cX12_readsTune 16 = .ok (.aload_n 0, 1) := by decide +kernel
theorem dX12_readsTune_17 : decode cX12_readsTune 17 = .ok (.iconst 5, 1) := by decide +kernel
theorem dX12_readsTune_18 : decode cX12_readsTune 18 = .ok (.invokevirtual 231, 3) := by decide +kernel
theorem dX12_readsTune_21 : decode cX12_readsTune 21 = .ok (.ireturn, 1) := by decide +kernel
theorem dX12_readsTune_22 : decode cX12_readsTune 22 = .ok (.aload_n 0, 1) := by decide +kernel
theorem dX12_readsTune_23 : decode cX12_readsTune 23 = .ok (.invokevirtual 237, 3) := by decide +kernel
theorem dX12_readsTune_26 : decode cX12_readsTune 26 = .ok (.aload_n 0, 1) := by decide +kernel
theorem dX12_readsTune_27 : decode cX12_readsTune 27 = .ok (.invokevirtual 319, 3) := by decide +kernel
theorem dX12_readsTune_30 : decode cX12_readsTune 30 = .ok (.ifCond .ne 5, 3) := by decide +kernel
theorem dX12_readsTune_33 : decode cX12_readsTune 33 = .ok (.iconst 0, 1) := by decide +kernel
theorem dX12_readsTune_34 : decode cX12_readsTune 34 = .ok (.ireturn, 1) := by decide +kernel
theorem dX12_readsTune_35 : decode cX12_readsTune 35 = .ok (.aload_n 0, 1) := by decide +kernel
theorem dX12_readsTune_36 : decode cX12_readsTune 36 = .ok (.getfield 26, 3) := by decide +kernel
theorem dX12_readsTune_39 : decode cX12_readsTune 39 = .ok (.iload_n 1, 1) := by decide +kernel
theorem dX12_readsTune_40 : decode cX12_readsTune 40 = .ok (.iconst 0, 1) := by decide +kernel
theorem dX12_readsTune_41 : decode cX12_readsTune 41 = .ok (.iastore, 1) := by decide +kernel
theorem dX12_readsTune_42 : decode cX12_readsTune 42 = .ok (.aload_n 0, 1) := by decide +kernel
theorem dX12_readsTune_43 : decode cX12_readsTune 43 = .ok (.getfield 26, 3) := by decide +kernel
theorem dX12_readsTune_46 : decode cX12_readsTune 46 = .ok (.iload_n 1, 1) := by decide +kernel
theorem dX12_readsTune_47 : decode cX12_readsTune 47 = .ok (.iaload, 1) := by decide +kernel
theorem dX12_readsTune_48 : decode cX12_readsTune 48 = .ok (.ifCond .eq 12, 3) := by decide +kernel
theorem dX12_readsTune_51 : decode cX12_readsTune 51 = .ok (.aload_n 0, 1) := by decide +kernel
theorem dX12_readsTune_52 : decode cX12_readsTune 52 = .ok (.bipush 59, 2) := by decide +kernel
theorem dX12_readsTune_54 : decode cX12_readsTune 54 = .ok (.invokevirtual 227, 3) := by decide +kernel
theorem dX12_readsTune_57 : decode cX12_readsTune 57 = .ok (.ifCond .ne 86, 3) := by decide +kernel
theorem dX12_readsTune_60 : decode cX12_readsTune 60 = .ok (.aload_n 0, 1) := by decide +kernel
theorem dX12_readsTune_61 : decode cX12_readsTune 61 = .ok (.getfield 185, 3) := by decide +kernel
theorem dX12_readsTune_64 : decode cX12_readsTune 64 = .ok (.iconst 2, 1) := by decide +kernel
theorem dX12_readsTune_65 : decode cX12_readsTune 65 = .ok (.if_icmp .eq 9, 3) := by decide +kernel
theorem dX12_readsTune_68 : decode cX12_readsTune 68 = .ok (.aload_n 0, 1) := by decide +kernel
theorem dX12_readsTune_69 : decode cX12_readsTune 69 = .ok (.iconst 1, 1) := by decide +kernel
theorem dX12_readsTune_70 : decode cX12_readsTune 70 = .ok (.invokevirtual 231, 3) := by decide +kernel
theorem dX12_readsTune_73 : decode cX12_readsTune 73 = .ok (.ireturn, 1) := by decide +kernel
theorem dX12_readsTune_74 : decode cX12_readsTune 74 = .ok (.aload_n 0, 1) := by decide +kernel
theorem dX12_readsTune_75 : decode cX12_readsTune 75 = .ok (.getfield 182, 3) := by decide +kernel
theorem dX12_readsTune_78 : decode cX12_readsTune 78 = .ok (.bipush 11, 2) := by decide +kernel
theorem dX12_readsTune_80 : decode cX12_readsTune 80 = .ok (.if_icmp .le 9, 3) := by decide +kernel
theorem dX12_readsTune_83 : decode cX12_readsTune 83 = .ok (.aload_n 0, 1) := by decide +kernel
theorem dX12_readsTune_84 : decode cX12_readsTune 84 = .ok (.iconst 4, 1) := by decide +kernel
theorem dX12_readsTune_85 : decode cX12_readsTune 85 = .ok (.invokevirtual 231, 3) := by decide +kernel
theorem dX12_readsTune_88 : decode cX12_readsTune 88 = .ok (.ireturn, 1) := by decide +kernel
theorem dX12_readsTune_89 : decode cX12_readsTune 89 = .ok (.aload_n 0, 1) := by decide +kernel
theorem dX12_readsTune_90 : decode cX12_readsTune 90 = .ok (.getfield 26, 3) := by decide +kernel
theorem dX12_readsTune_93 : decode cX12_readsTune 93 = .ok (.iload_n 1, 1) := by decide +kernel
theorem dX12_readsTune_94 : decode cX12_readsTune 94 = .ok (.iaload, 1) := by decide +kernel
theorem dX12_readsTune_95 : decode cX12_readsTune 95 = .ok (.bipush 9, 2) := by decide +kernel
theorem dX12_readsTune_97 : decode cX12_readsTune 97 = .ok (.if_icmp .ne 9, 3) := by decide +kernel
theorem dX12_readsTune_100 : decode cX12_readsTune 100 = .ok (.aload_n 0, 1) := by decide +kernel
theorem dX12_readsTune_101 : decode cX12_readsTune 101 = .ok (.iconst 5, 1) := by decide +kernel
theorem dX12_readsTune_102 : decode cX12_readsTune 102 = .ok (.invokevirtual 231, 3) := by decide +kernel
theorem dX12_readsTune_105 : decode cX12_readsTune 105 = .ok (.ireturn, 1) := by decide +kernel
theorem dX12_readsTune_106 : decode cX12_readsTune 106 = .ok (.aload_n 0, 1) := by decide +kernel
theorem dX12_readsTune_107 : decode cX12_readsTune 107 = .ok (.getfield 23, 3) := by decide +kernel
theorem dX12_readsTune_110 : decode cX12_readsTune 110 = .ok (.bipush 9, 2) := by decide +kernel
theorem dX12_readsTune_112 : decode cX12_readsTune 112 = .ok (.iload_n 1, 1) := by decide +kernel
theorem dX12_readsTune_113 : decode cX12_readsTune 113 = .ok (.imul, 1) := by decide +kernel
theorem dX12_readsTune_114 : decode cX12_readsTune 114 = .ok (.aload_n 0, 1) := by decide +kernel
theorem dX12_readsTune_115 : decode cX12_readsTune 115 = .ok (.getfield 26, 3) := by decide +kernel
theorem dX12_readsTune_118 : decode cX12_readsTune 118 = .ok (.iload_n 1, 1) := by decide +kernel
theorem dX12_readsTune_119 : decode cX12_readsTune 119 = .ok (.iaload, 1) := by decide +kernel
theorem dX12_readsTune_120 : decode cX12_readsTune 120 = .ok (.iadd, 1) := by decide +kernel
theorem dX12_readsTune_121 : decode cX12_readsTune 121 = .ok (.aload_n 0, 1) := by decide +kernel
theorem dX12_readsTune_122 : decode cX12_readsTune 122 = .ok (.getfield 182, 3) := by decide +kernel
theorem dX12_readsTune_125 : decode cX12_readsTune 125 = .ok (.iastore, 1) := by decide +kernel
theorem dX12_readsTune_126 : decode cX12_readsTune 126 = .ok (.aload_n 0, 1) := by decide +kernel
theorem dX12_readsTune_127 : decode cX12_readsTune 127 = .ok (.getfield 26, 3) := by decide +kernel
theorem dX12_readsTune_130 : decode cX12_readsTune 130 = .ok (.iload_n 1, 1) := by decide +kernel
theorem dX12_readsTune_131 : decode cX12_readsTune 131 = .ok (.dup2, 1) := by decide +kernel
theorem dX12_readsTune_132 : decode cX12_readsTune 132 = .ok (.iaload, 1) := by decide +kernel
theorem dX12_readsTune_133 : decode cX12_readsTune 133 = .ok (.iconst 1, 1) := by decide +kernel
theorem dX12_readsTune_134 : decode cX12_readsTune 134 = .ok (.iadd, 1) := by decide +kernel
theorem dX12_readsTune_135 : decode cX12_readsTune 135 = .ok (.iastore, 1) := by decide +kernel
theorem dX12_readsTune_136 : decode cX12_readsTune 136 = .ok (.aload_n 0, 1) := by decide +kernel
theorem dX12_readsTune_137 : decode cX12_readsTune 137 = .ok (.invokevirtual 237, 3) := by decide +kernel
theorem dX12_readsTune_140 : decode cX12_readsTune 140 = .ok (.goto (-98), 3) := by decide +kernel
theorem dX12_readsTune_143 : decode cX12_readsTune 143 = .ok (.aload_n 0, 1) := by decide +kernel
theorem dX12_readsTune_144 : decode cX12_readsTune 144 = .ok (.getfield 16, 3) := by decide +kernel
theorem dX12_readsTune_147 : decode cX12_readsTune 147 = .ok (.iload_n 1, 1) := by decide +kernel
theorem dX12_readsTune_148 : decode cX12_readsTune 148 = .ok (.aload_n 0, 1) := by decide +kernel
theorem dX12_readsTune_149 : decode cX12_readsTune 149 = .ok (.getfield 317, 3) := by decide +kernel
theorem dX12_readsTune_152 : decode cX12_readsTune 152 = .ok (.lastore, 1) := by decide +kernel
theorem dX12_readsTune_153 : decode cX12_readsTune 153 = .ok (.aload_n 0, 1) := by decide +kernel
theorem dX12_readsTune_154 : decode cX12_readsTune 154 = .ok (.getfield 13, 3) := by decide +kernel
theorem dX12_readsTune_157 : decode cX12_readsTune 157 = .ok (.bipush 7, 2) := by decide +kernel
theorem dX12_readsTune_159 : decode cX12_readsTune 159 = .ok (.dup2, 1) := by decide +kernel
theorem dX12_readsTune_160 : decode cX12_readsTune 160 = .ok (.iaload, 1) := by decide +kernel
theorem dX12_readsTune_161 : decode cX12_readsTune 161 = .ok (.iconst 1, 1) := by decide +kernel
theorem dX12_readsTune_162 : decode cX12_readsTune 162 = .ok (.iadd, 1) := by decide +kernel
theorem dX12_readsTune_163 : decode cX12_readsTune 163 = .ok (.iastore, 1) := by decide +kernel
theorem dX12_readsTune_164 : decode cX12_readsTune 164 = .ok (.aload_n 0, 1) := by decide +kernel
theorem dX12_readsTune_165 : decode cX12_readsTune 165 = .ok (.invokevirtual 322, 3) := by decide +kernel
theorem dX12_readsTune_168 : decode cX12_readsTune 168 = .ok (.ireturn, 1) := by decide +kernel
theorem dX12_readsPasser_0 : decode cX12_readsPasser 0 = .ok (.bipush 7, 2) := by decide +kernel
theorem dX12_readsPasser_2 : decode cX12_readsPasser 2 = .ok (.aload_n 0, 1) := by decide +kernel
theorem dX12_readsPasser_3 : decode cX12_readsPasser 3 = .ok (.getfield 13, 3) := by decide +kernel
theorem dX12_readsPasser_6 : decode cX12_readsPasser 6 = .ok (.bipush 8, 2) := by decide +kernel
theorem dX12_readsPasser_8 : decode cX12_readsPasser 8 = .ok (.iaload, 1) := by decide +kernel
theorem dX12_readsPasser_9 : decode cX12_readsPasser 9 = .ok (.iadd, 1) := by decide +kernel
theorem dX12_readsPasser_10 : decode cX12_readsPasser 10 = .ok (.istore_n 1, 1) := by decide +kernel
theorem dX12_readsPasser_11 : decode cX12_readsPasser 11 = .ok (.iload_n 1, 1) := by decide +kernel
theorem dX12_readsPasser_12 : decode cX12_readsPasser 12 = .ok (.bipush 14, 2) := by decide +kernel
theorem dX12_readsPasser_14 : decode cX12_readsPasser 14 = .ok (.if_icmp .ne 9, 3) := by decide +kernel
theorem dX12_readsPasser_17 : decode cX12_readsPasser 17 = .ok (.aload_n 0, 1) := by decide +kernel
theorem dX12_readsPasser_18 : decode cX12_readsPasser 18 = .ok (.iconst 5, 1) := by decide +kernel
theorem dX12_readsPasser_19 : decode cX12_readsPasser 19 = .ok (.invokevirtual 231, 3) := by decide +kernel
theorem dX12_readsPasser_22 : decode cX12_readsPasser 22 = .ok (.ireturn, 1) := by decide +kernel
theorem dX12_readsPasser_23 : decode cX12_readsPasser 23 = .ok (.aload_n 0, 1) := by decide +kernel
theorem dX12_readsPasser_24 : decode cX12_readsPasser 24 = .ok (.invokevirtual 237, 3) := by decide +kernel
theorem dX12_readsPasser_27 : decode cX12_readsPasser 27 = .ok (.aload_n 0, 1) := by decide +kernel
theorem dX12_readsPasser_28 : decode cX12_readsPasser 28 = .ok (.invokevirtual 319, 3) := by decide +kernel
theorem dX12_readsPasser_31 : decode cX12_readsPasser 31 = .ok (.ifCond .ne 5, 3) := by decide +kernel
theorem dX12_readsPasser_34 : decode cX12_readsPasser 34 = .ok (.iconst 0, 1) := by decide +kernel
theorem dX12_readsPasser_35 : decode cX12_readsPasser 35 = .ok (.ireturn, 1) := by decide +kernel
theorem dX12_readsPasser_36 : decode cX12_readsPasser 36 = .ok (.aload_n 0, 1) := by decide +kernel
theorem dX12_readsPasser_37 : decode cX12_readsPasser 37 = .ok (.getfield 317, 3) := by decide +kernel
theorem dX12_readsPasser_40 : decode cX12_readsPasser 40 = .ok (.lstore_n 2, 1) := by decide +kernel
theorem dX12_readsPasser_41 : decode cX12_readsPasser 41 = .ok (.aload_n 0, 1) := by decide +kernel
theorem dX12_readsPasser_42 : decode cX12_readsPasser 42 = .ok (.getfield 29, 3) := by decide +kernel
theorem dX12_readsPasser_45 : decode cX12_readsPasser 45 = .ok (.iload_n 1, 1) := by decide +kernel
theorem dX12_readsPasser_46 : decode cX12_readsPasser 46 = .ok (.aload_n 0, 1) := by decide +kernel
theorem dX12_readsPasser_47 : decode cX12_readsPasser 47 = .ok (.ldc2_w 285, 3) := by decide +kernel
theorem dX12_readsPasser_50 : decode cX12_readsPasser 50 = .ok (.invokevirtual 223, 3) := by decide +kernel
theorem dX12_readsPasser_53 : decode cX12_readsPasser 53 = .ok (.ifCond .eq 7, 3) := by decide +kernel
theorem dX12_readsPasser_56 : decode cX12_readsPasser 56 = .ok (.iconst 0, 1) := by decide +kernel
theorem dX12_readsPasser_57 : decode cX12_readsPasser 57 = .ok (.goto 46, 3) := by decide +kernel
theorem dX12_readsPasser_60 : decode cX12_readsPasser 60 = .ok (.aload_n 0, 1) := by decide +kernel
theorem dX12_readsPasser_61 : decode cX12_readsPasser 61 = .ok (.ldc2_w 287, 3) := by decide +kernel
theorem dX12_readsPasser_64 : decode cX12_readsPasser 64 = .ok (.invokevirtual 223, 3) := by decide +kernel
theorem dX12_readsPasser_67 : decode cX12_readsPasser 67 = .ok (.ifCond .eq 7, 3) := by decide +kernel
theorem dX12_readsPasser_70 : decode cX12_readsPasser 70 = .ok (.iconst 1, 1) := by decide +kernel
theorem dX12_readsPasser_71 : decode cX12_readsPasser 71 = .ok (.goto 32, 3) := by decide +kernel
theorem dX12_readsPasser_74 : decode cX12_readsPasser 74 = .ok (.aload_n 0, 1) := by decide +kernel
theorem dX12_readsPasser_75 : decode cX12_readsPasser 75 = .ok (.ldc2_w 289, 3) := by decide +kernel
theorem dX12_readsPasser_78 : decode cX12_readsPasser 78 = .ok (.invokevirtual 223, 3) := by decide +kernel
theorem dX12_readsPasser_81 : decode cX12_readsPasser 81 = .ok (.ifCond .eq 7, 3) := by decide +kernel
theorem dX12_readsPasser_84 : decode cX12_readsPasser 84 = .ok (.iconst 2, 1) := by decide +kernel
theorem dX12_readsPasser_85 : decode cX12_readsPasser 85 = .ok (.goto 18, 3) := by decide +kernel
theorem dX12_readsPasser_88 : decode cX12_readsPasser 88 = .ok (.aload_n 0, 1) := by decide +kernel
theorem dX12_readsPasser_89 : decode cX12_readsPasser 89 = .ok (.ldc2_w 291, 3) := by decide +kernel
theorem dX12_readsPasser_92 : decode cX12_readsPasser 92 = .ok (.invokevirtual 223, 3) := by decide +kernel
theorem dX12_readsPasser_95 : decode cX12_readsPasser 95 = .ok (.ifCond .eq 7, 3) := by decide +kernel
theorem dX12_readsPasser_98 : decode cX12_readsPasser 98 = .ok (.iconst 3, 1) := by decide +kernel
theorem dX12_readsPasser_99 : decode cX12_readsPasser 99 = .ok (.goto 4, 3) := by decide +kernel
theorem dX12_readsPasser_102 : decode cX12_readsPasser 102 = .ok (.iconst (-1), 1) := by decide +kernel
theorem dX12_readsPasser_103 : decode cX12_readsPasser 103 = .ok (.iastore, 1) := by decide +kernel
theorem dX12_readsPasser_104 : decode cX12_readsPasser 104 = .ok (.aload_n 0, 1) := by decide +kernel
theorem dX12_readsPasser_105 : decode cX12_readsPasser 105 = .ok (.getfield 29, 3) := by decide +kernel
theorem dX12_readsPasser_108 : decode cX12_readsPasser 108 = .ok (.iload_n 1, 1) := by decide +kernel
theorem dX12_readsPasser_109 : decode cX12_readsPasser 109 = .ok (.iaload, 1) := by decide +kernel
theorem dX12_readsPasser_110 : decode cX12_readsPasser 110 = .ok (.ifCond .ge 9, 3) := by decide +kernel
theorem dX12_readsPasser_113 : decode cX12_readsPasser 113 = .ok (.aload_n 0, 1) := by decide +kernel
theorem dX12_readsPasser_114 : decode cX12_readsPasser 114 = .ok (.iconst 1, 1) := by decide +kernel
theorem dX12_readsPasser_115 : decode cX12_readsPasser 115 = .ok (.invokevirtual 231, 3) := by decide +kernel
theorem dX12_readsPasser_118 : decode cX12_readsPasser 118 = .ok (.ireturn, 1) := by decide +kernel
theorem dX12_readsPasser_119 : decode cX12_readsPasser 119 = .ok (.aload_n 0, 1) := by decide +kernel
theorem dX12_readsPasser_120 : decode cX12_readsPasser 120 = .ok (.invokevirtual 237, 3) := by decide +kernel
theorem dX12_readsPasser_123 : decode cX12_readsPasser 123 = .ok (.aload_n 0, 1) := by decide +kernel
theorem dX12_readsPasser_124 : decode cX12_readsPasser 124 = .ok (.ldc2_w 257, 3) := by decide +kernel
theorem dX12_readsPasser_127 : decode cX12_readsPasser 127 = .ok (.invokevirtual 300, 3) := by decide +kernel
theorem dX12_readsPasser_130 : decode cX12_readsPasser 130 = .ok (.ifCond .ne 5, 3) := by decide +kernel
theorem dX12_readsPasser_133 : decode cX12_readsPasser 133 = .ok (.iconst 0, 1) := by decide +kernel
theorem dX12_readsPasser_134 : decode cX12_readsPasser 134 = .ok (.ireturn, 1) := by decide +kernel
theorem dX12_readsPasser_135 : decode cX12_readsPasser 135 = .ok (.aload_n 0, 1) := by decide +kernel
theorem dX12_readsPasser_136 : decode cX12_readsPasser 136 = .ok (.invokevirtual 307, 3) := by decide +kernel
theorem dX12_readsPasser_139 : decode cX12_readsPasser 139 = .ok (.ifCond .eq 9, 3) := by decide +kernel
theorem dX12_readsPasser_142 : decode cX12_readsPasser 142 = .ok (.aload_n 0, 1) := by decide +kernel
theorem dX12_readsPasser_143 : decode cX12_readsPasser 143 = .ok (.iconst 1, 1) := by decide +kernel
theorem dX12_readsPasser_144 : decode cX12_readsPasser 144 = .ok (.invokevirtual 231, 3) := by decide +kernel
theorem dX12_readsPasser_147 : decode cX12_readsPasser 147 = .ok (.ireturn, 1) := by decide +kernel
theorem dX12_readsPasser_148 : decode cX12_readsPasser 148 = .ok (.aload_n 0, 1) := by decide +kernel
theorem dX12_readsPasser_149 : decode cX12_readsPasser 149 = .ok (.getfield 32, 3) := by decide +kernel
theorem dX12_readsPasser_152 : decode cX12_readsPasser 152 = .ok (.iload_n 1, 1) := by decide +kernel
theorem dX12_readsPasser_153 : decode cX12_readsPasser 153 = .ok (.aload_n 0, 1) := by decide +kernel
theorem dX12_readsPasser_154 : decode cX12_readsPasser 154 = .ok (.invokevirtual 311, 3) := by decide +kernel
theorem dX12_readsPasser_157 : decode cX12_readsPasser 157 = .ok (.iastore, 1) := by decide +kernel
theorem dX12_readsPasser_158 : decode cX12_readsPasser 158 = .ok (.aload_n 0, 1) := by decide +kernel
theorem dX12_readsPasser_159 : decode cX12_readsPasser 159 = .ok (.getfield 32, 3) := by decide +kernel
theorem dX12_readsPasser_162 : decode cX12_readsPasser 162 = .ok (.iload_n 1, 1) := by decide +kernel
theorem dX12_readsPasser_163 : decode cX12_readsPasser 163 = .ok (.iaload, 1) := by decide +kernel
theorem dX12_readsPasser_164 : decode cX12_readsPasser 164 = .ok (.ifCond .ge 9, 3) := by decide +kernel
theorem dX12_readsPasser_167 : decode cX12_readsPasser 167 = .ok (.aload_n 0, 1) := by decide +kernel
theorem dX12_readsPasser_168 : decode cX12_readsPasser 168 = .ok (.iconst 2, 1) := by decide +kernel
theorem dX12_readsPasser_169 : decode cX12_readsPasser 169 = .ok (.invokevirtual 231, 3) := by decide +kernel
theorem dX12_readsPasser_172 : decode cX12_readsPasser 172 = .ok (.ireturn, 1) := by decide +kernel
theorem dX12_readsPasser_173 : decode cX12_readsPasser 173 = .ok (.aload_n 0, 1) := by decide +kernel
theorem dX12_readsPasser_174 : decode cX12_readsPasser 174 = .ok (.invokevirtual 237, 3) := by decide +kernel
theorem dX12_readsPasser_177 : decode cX12_readsPasser 177 = .ok (.aload_n 0, 1) := by decide +kernel
theorem dX12_readsPasser_178 : decode cX12_readsPasser 178 = .ok (.ldc2_w 259, 3) := by decide +kernel
theorem dX12_readsPasser_181 : decode cX12_readsPasser 181 = .ok (.iconst 0, 1) := by decide +kernel
theorem dX12_readsPasser_182 : decode cX12_readsPasser 182 = .ok (.bipush 9, 2) := by decide +kernel
theorem dX12_readsPasser_184 : decode cX12_readsPasser 184 = .ok (.invokevirtual 325, 3) := by decide +kernel
theorem dX12_readsPasser_187 : decode cX12_readsPasser 187 = .ok (.ifCond .ne 5, 3) := by decide +kernel
theorem dX12_readsPasser_190 : decode cX12_readsPasser 190 = .ok (.iconst 0, 1) := by decide +kernel
theorem dX12_readsPasser_191 : decode cX12_readsPasser 191 = .ok (.ireturn, 1) := by decide +kernel
theorem dX12_readsPasser_192 : decode cX12_readsPasser 192 = .ok (.aload_n 0, 1) := by decide +kernel
theorem dX12_readsPasser_193 : decode cX12_readsPasser 193 = .ok (.getfield 35, 3) := by decide +kernel
theorem dX12_readsPasser_196 : decode cX12_readsPasser 196 = .ok (.iload_n 1, 1) := by decide +kernel
theorem dX12_readsPasser_197 : decode cX12_readsPasser 197 = .ok (.aload_n 0, 1) := by decide +kernel
theorem dX12_readsPasser_198 : decode cX12_readsPasser 198 = .ok (.getfield 297, 3) := by decide +kernel
theorem dX12_readsPasser_201 : decode cX12_readsPasser 201 = .ok (.iastore, 1) := by decide +kernel
theorem dX12_readsPasser_202 : decode cX12_readsPasser 202 = .ok (.aload_n 0, 1) := by decide +kernel
theorem dX12_readsPasser_203 : decode cX12_readsPasser 203 = .ok (.ldc2_w 261, 3) := by decide +kernel
theorem dX12_readsPasser_206 : decode cX12_readsPasser 206 = .ok (.iconst 0, 1) := by decide +kernel
theorem dX12_readsPasser_207 : decode cX12_readsPasser 207 = .ok (.bipush 9, 2) := by decide +kernel
theorem dX12_readsPasser_209 : decode cX12_readsPasser 209 = .ok (.invokevirtual 325, 3) := by decide +kernel
theorem dX12_readsPasser_212 : decode cX12_readsPasser 212 = .ok (.ifCond .ne 5, 3) := by decide +kernel
theorem dX12_readsPasser_215 : decode cX12_readsPasser 215 = .ok (.iconst 0, 1) := by decide +kernel
theorem dX12_readsPasser_216 : decode cX12_readsPasser 216 = .ok (.ireturn, 1) := by decide +kernel
theorem dX12_readsPasser_217 : decode cX12_readsPasser 217 = .ok (.aload_n 0, 1) := by decide +kernel
theorem dX12_readsPasser_218 : decode cX12_readsPasser 218 = .ok (.getfield 38, 3) := by decide +kernel
theorem dX12_readsPasser_221 : decode cX12_readsPasser 221 = .ok (.iload_n 1, 1) := by decide +kernel
theorem dX12_readsPasser_222 : decode cX12_readsPasser 222 = .ok (.aload_n 0, 1) := by decide +kernel
theorem dX12_readsPasser_223 : decode cX12_readsPasser 223 = .ok (.getfield 297, 3) := by decide +kernel
theorem dX12_readsPasser_226 : decode cX12_readsPasser 226 = .ok (.iastore, 1) := by decide +kernel
theorem dX12_readsPasser_227 : decode cX12_readsPasser 227 = .ok (.aload_n 0, 1) := by decide +kernel
theorem dX12_readsPasser_228 : decode cX12_readsPasser 228 = .ok (.ldc2_w 263, 3) := by decide +kernel
theorem dX12_readsPasser_231 : decode cX12_readsPasser 231 = .ok (.iconst 1, 1) := by decide +kernel
theorem dX12_readsPasser_232 : decode cX12_readsPasser 232 = .ok (.bipush 30, 2) := by decide +kernel
theorem dX12_readsPasser_234 : decode cX12_readsPasser 234 = .ok (.invokevirtual 325, 3) := by decide +kernel
theorem dX12_readsPasser_237 : decode cX12_readsPasser 237 = .ok (.ifCond .ne 5, 3) := by decide +kernel
theorem dX12_readsPasser_240 : decode cX12_readsPasser 240 = .ok (.iconst 0, 1) := by decide +kernel
theorem dX12_readsPasser_241 : decode cX12_readsPasser 241 = .ok (.ireturn, 1) := by decide +kernel
theorem dX12_readsPasser_242 : decode cX12_readsPasser 242 = .ok (.aload_n 0, 1) := by decide +kernel
theorem dX12_readsPasser_243 : decode cX12_readsPasser 243 = .ok (.getfield 41, 3) := by decide +kernel
theorem dX12_readsPasser_246 : decode cX12_readsPasser 246 = .ok (.iload_n 1, 1) := by decide +kernel
theorem dX12_readsPasser_247 : decode cX12_readsPasser 247 = .ok (.aload_n 0, 1) := by decide +kernel
theorem dX12_readsPasser_248 : decode cX12_readsPasser 248 = .ok (.getfield 297, 3) := by decide +kernel
theorem dX12_readsPasser_251 : decode cX12_readsPasser 251 = .ok (.iastore, 1) := by decide +kernel
theorem dX12_readsPasser_252 : decode cX12_readsPasser 252 = .ok (.aload_n 0, 1) := by decide +kernel
theorem dX12_readsPasser_253 : decode cX12_readsPasser 253 = .ok (.ldc2_w 265, 3) := by decide +kernel
theorem dX12_readsPasser_256 : decode cX12_readsPasser 256 = .ok (.iconst 0, 1) := by decide +kernel
theorem dX12_readsPasser_257 : decode cX12_readsPasser 257 = .ok (.bipush 59, 2) := by decide +kernel
theorem dX12_readsPasser_259 : decode cX12_readsPasser 259 = .ok (.invokevirtual 325, 3) := by decide +kernel
theorem dX12_readsPasser_262 : decode cX12_readsPasser 262 = .ok (.ifCond .ne 5, 3) := by decide +kernel
theorem dX12_readsPasser_265 : decode cX12_readsPasser 265 = .ok (.iconst 0, 1) := by decide +kernel
theorem dX12_readsPasser_266 : decode cX12_readsPasser 266 = .ok (.ireturn, 1) := by decide +kernel
theorem dX12_readsPasser_267 : decode cX12_readsPasser 267 = .ok (.aload_n 0, 1) := by decide +kernel
theorem dX12_readsPasser_268 : decode cX12_readsPasser 268 = .ok (.getfield 44, 3) := by decide +kernel
theorem dX12_readsPasser_271 : decode cX12_readsPasser 271 = .ok (.iload_n 1, 1) := by decide +kernel
theorem dX12_readsPasser_272 : decode cX12_readsPasser 272 = .ok (.aload_n 0, 1) := by decide +kernel
theorem dX12_readsPasser_273 : decode cX12_readsPasser 273 = .ok (.getfield 297, 3) := by decide +kernel
theorem dX12_readsPasser_276 : decode cX12_readsPasser 276 = .ok (.iastore, 1) := by decide +kernel
theorem dX12_readsPasser_277 : decode cX12_readsPasser 277 = .ok (.aload_n 0, 1) := by decide +kernel
theorem dX12_readsPasser_278 : decode cX12_readsPasser 278 = .ok (.getfield 20, 3) := by decide +kernel
theorem dX12_readsPasser_281 : decode cX12_readsPasser 281 = .ok (.iload_n 1, 1) := by decide +kernel
theorem dX12_readsPasser_282 : decode cX12_readsPasser 282 = .ok (.lload_n 2, 1) := by decide +kernel
theorem dX12_readsPasser_283 : decode cX12_readsPasser 283 = .ok (.lastore, 1) := by decide +kernel
theorem dX12_readsPasser_284 : decode cX12_readsPasser 284 = .ok (.aload_n 0, 1) := by decide +kernel
theorem dX12_readsPasser_285 : decode cX12_readsPasser 285 = .ok (.getfield 13, 3) := by decide +kernel
theorem dX12_readsPasser_288 : decode cX12_readsPasser 288 = .ok (.bipush 8, 2) := by decide +kernel
theorem dX12_readsPasser_290 : decode cX12_readsPasser 290 = .ok (.dup2, 1) := by decide +kernel
theorem dX12_readsPasser_291 : decode cX12_readsPasser 291 = .ok (.iaload, 1) := by decide +kernel
theorem dX12_readsPasser_292 : decode cX12_readsPasser 292 = .ok (.iconst 1, 1) := by decide +kernel
theorem dX12_readsPasser_293 : decode cX12_readsPasser 293 = .ok (.iadd, 1) := by decide +kernel
theorem dX12_readsPasser_294 : decode cX12_readsPasser 294 = .ok (.iastore, 1) := by decide +kernel
theorem dX12_readsPasser_295 : decode cX12_readsPasser 295 = .ok (.aload_n 0, 1) := by decide +kernel
theorem dX12_readsPasser_296 : decode cX12_readsPasser 296 = .ok (.invokevirtual 322, 3) := by decide +kernel
theorem dX12_readsPasser_299 : decode cX12_readsPasser 299 = .ok (.ireturn, 1) := by decide +kernel
theorem dX12_isTwice_0 : decode cX12_isTwice 0 = .ok (.aload_n 0, 1) := by decide +kernel
theorem dX12_isTwice_1 : decode cX12_isTwice 1 = .ok (.getfield 329, 3) := by decide +kernel
theorem dX12_isTwice_4 : decode cX12_isTwice 4 = .ok (.iload_n 1, 1) := by decide +kernel
theorem dX12_isTwice_5 : decode cX12_isTwice 5 = .ok (.ishr, 1) := by decide +kernel
theorem dX12_isTwice_6 : decode cX12_isTwice 6 = .ok (.iconst 1, 1) := by decide +kernel
theorem dX12_isTwice_7 : decode cX12_isTwice 7 = .ok (.iand, 1) := by decide +kernel
theorem dX12_isTwice_8 : decode cX12_isTwice 8 = .ok (.iconst 1, 1) := by decide +kernel
theorem dX12_isTwice_9 : decode cX12_isTwice 9 = .ok (.if_icmp .ne 5, 3) := by decide +kernel
theorem dX12_isTwice_12 : decode cX12_isTwice 12 = .ok (.iconst 1, 1) := by decide +kernel
theorem dX12_isTwice_13 : decode cX12_isTwice 13 = .ok (.ireturn, 1) := by decide +kernel
theorem dX12_isTwice_14 : decode cX12_isTwice 14 = .ok (.aload_n 0, 1) := by decide +kernel
theorem dX12_isTwice_15 : decode cX12_isTwice 15 = .ok (.dup, 1) := by decide +kernel
theorem dX12_isTwice_16 : decode cX12_isTwice 16 = .ok (.getfield 329, 3) := by decide +kernel
theorem dX12_isTwice_19 : decode cX12_isTwice 19 = .ok (.iconst 1, 1) := by decide +kernel
theorem dX12_isTwice_20 : decode cX12_isTwice 20 = .ok (.iload_n 1, 1) := by decide +kernel
theorem dX12_isTwice_21 : decode cX12_isTwice 21 = .ok (.ishl, 1) := by decide +kernel
theorem dX12_isTwice_22 : decode cX12_isTwice 22 = .ok (.ior, 1) := by decide +kernel
theorem dX12_isTwice_23 : decode cX12_isTwice 23 = .ok (.putfield 329, 3) := by decide +kernel
theorem dX12_isTwice_26 : decode cX12_isTwice 26 = .ok (.iconst 0, 1) := by decide +kernel
theorem dX12_isTwice_27 : decode cX12_isTwice 27 = .ok (.ireturn, 1) := by decide +kernel
theorem dX12_readsOne_0 : decode cX12_readsOne 0 = .ok (.aload_n 0, 1) := by decide +kernel
theorem dX12_readsOne_1 : decode cX12_readsOne 1 = .ok (.iload_n 1, 1) := by decide +kernel
theorem dX12_readsOne_2 : decode cX12_readsOne 2 = .ok (.invokevirtual 332, 3) := by decide +kernel
theorem dX12_readsOne_5 : decode cX12_readsOne 5 = .ok (.ifCond .eq 9, 3) := by decide +kernel
theorem dX12_readsOne_8 : decode cX12_readsOne 8 = .ok (.aload_n 0, 1) := by decide +kernel
theorem dX12_readsOne_9 : decode cX12_readsOne 9 = .ok (.iconst 3, 1) := by decide +kernel
theorem dX12_readsOne_10 : decode cX12_readsOne 10 = .ok (.invokevirtual 231, 3) := by decide +kernel
theorem dX12_readsOne_13 : decode cX12_readsOne 13 = .ok (.ireturn, 1) := by decide +kernel
theorem dX12_readsOne_14 : decode cX12_readsOne 14 = .ok (.aload_n 0, 1) := by decide +kernel
theorem dX12_readsOne_15 : decode cX12_readsOne 15 = .ok (.invokevirtual 237, 3) := by decide +kernel
theorem dX12_readsOne_18 : decode cX12_readsOne 18 = .ok (.aload_n 0, 1) := by decide +kernel
theorem dX12_readsOne_19 : decode cX12_readsOne 19 = .ok (.iload_n 2, 1) := by decide +kernel
theorem dX12_readsOne_20 : decode cX12_readsOne 20 = .ok (.iload_n 3, 1) := by decide +kernel
theorem dX12_readsOne_21 : decode cX12_readsOne 21 = .ok (.invokevirtual 303, 3) := by decide +kernel
theorem dX12_readsOne_24 : decode cX12_readsOne 24 = .ok (.ifCond .ne 5, 3) := by decide +kernel
theorem dX12_readsOne_27 : decode cX12_readsOne 27 = .ok (.iconst 0, 1) := by decide +kernel
theorem dX12_readsOne_28 : decode cX12_readsOne 28 = .ok (.ireturn, 1) := by decide +kernel
theorem dX12_readsOne_29 : decode cX12_readsOne 29 = .ok (.aload_n 0, 1) := by decide +kernel
theorem dX12_readsOne_30 : decode cX12_readsOne 30 = .ok (.getfield 13, 3) := by decide +kernel
theorem dX12_readsOne_33 : decode cX12_readsOne 33 = .ok (.bipush 7, 2) := by decide +kernel
theorem dX12_readsOne_35 : decode cX12_readsOne 35 = .ok (.iload_n 1, 1) := by decide +kernel
theorem dX12_readsOne_36 : decode cX12_readsOne 36 = .ok (.iadd, 1) := by decide +kernel
theorem dX12_readsOne_37 : decode cX12_readsOne 37 = .ok (.aload_n 0, 1) := by decide +kernel
theorem dX12_readsOne_38 : decode cX12_readsOne 38 = .ok (.getfield 297, 3) := by decide +kernel
theorem dX12_readsOne_41 : decode cX12_readsOne 41 = .ok (.iastore, 1) := by decide +kernel
theorem dX12_readsOne_42 : decode cX12_readsOne 42 = .ok (.aload_n 0, 1) := by decide +kernel
theorem dX12_readsOne_43 : decode cX12_readsOne 43 = .ok (.invokevirtual 322, 3) := by decide +kernel
theorem dX12_readsOne_46 : decode cX12_readsOne 46 = .ok (.ireturn, 1) := by decide +kernel
theorem dX12_needsSpan_0 : decode cX12_needsSpan 0 = .ok (.aload_n 0, 1) := by decide +kernel
theorem dX12_needsSpan_1 : decode cX12_needsSpan 1 = .ok (.iconst 0, 1) := by decide +kernel
theorem dX12_needsSpan_2 : decode cX12_needsSpan 2 = .ok (.bipush 59, 2) := by decide +kernel
theorem dX12_needsSpan_4 : decode cX12_needsSpan 4 = .ok (.invokevirtual 303, 3) := by decide +kernel
theorem dX12_needsSpan_7 : decode cX12_needsSpan 7 = .ok (.ifCond .ne 5, 3) := by decide +kernel
theorem dX12_needsSpan_10 : decode cX12_needsSpan 10 = .ok (.iconst 0, 1) := by decide +kernel
theorem dX12_needsSpan_11 : decode cX12_needsSpan 11 = .ok (.ireturn, 1) := by decide +kernel
theorem dX12_needsSpan_12 : decode cX12_needsSpan 12 = .ok (.aload_n 0, 1) := by decide +kernel
theorem dX12_needsSpan_13 : decode cX12_needsSpan 13 = .ok (.aload_n 0, 1) := by decide +kernel
theorem dX12_needsSpan_14 : decode cX12_needsSpan 14 = .ok (.getfield 297, 3) := by decide +kernel
theorem dX12_needsSpan_17 : decode cX12_needsSpan 17 = .ok (.putfield 335, 3) := by decide +kernel
theorem dX12_needsSpan_20 : decode cX12_needsSpan 20 = .ok (.aload_n 0, 1) := by decide +kernel
theorem dX12_needsSpan_21 : decode cX12_needsSpan 21 = .ok (.ldc2_w 273, 3) := by decide +kernel
theorem dX12_needsSpan_24 : decode cX12_needsSpan 24 = .ok (.aload_n 0, 1) := by decide +kernel
theorem dX12_needsSpan_25 : decode cX12_needsSpan 25 = .ok (.getfield 335, 3) := by decide +kernel
theorem dX12_needsSpan_28 : decode cX12_needsSpan 28 = .ok (.iconst 1, 1) := by decide +kernel
theorem dX12_needsSpan_29 : decode cX12_needsSpan 29 = .ok (.iadd, 1) := by decide +kernel
theorem dX12_needsSpan_30 : decode cX12_needsSpan 30 = .ok (.bipush 60, 2) := by decide +kernel
theorem dX12_needsSpan_32 : decode cX12_needsSpan 32 = .ok (.invokevirtual 325, 3) := by decide +kernel
theorem dX12_needsSpan_35 : decode cX12_needsSpan 35 = .ok (.ireturn, 1) := by decide +kernel
theorem dX12_readsOpen_0 : decode cX12_readsOpen 0 = .ok (.aload_n 0, 1) := by decide +kernel
theorem dX12_readsOpen_1 : decode cX12_readsOpen 1 = .ok (.iconst 4, 1) := by decide +kernel
theorem dX12_readsOpen_2 : decode cX12_readsOpen 2 = .ok (.invokevirtual 332, 3) := by decide +kernel
theorem dX12_readsOpen_5 : decode cX12_readsOpen 5 = .ok (.ifCond .eq 9, 3) := by decide +kernel
theorem dX12_readsOpen_8 : decode cX12_readsOpen 8 = .ok (.aload_n 0, 1) := by decide +kernel
theorem dX12_readsOpen_9 : decode cX12_readsOpen 9 = .ok (.iconst 3, 1) := by decide +kernel
theorem dX12_readsOpen_10 : decode cX12_readsOpen 10 = .ok (.invokevirtual 231, 3) := by decide +kernel
theorem dX12_readsOpen_13 : decode cX12_readsOpen 13 = .ok (.ireturn, 1) := by decide +kernel
theorem dX12_readsOpen_14 : decode cX12_readsOpen 14 = .ok (.aload_n 0, 1) := by decide +kernel
theorem dX12_readsOpen_15 : decode cX12_readsOpen 15 = .ok (.invokevirtual 237, 3) := by decide +kernel
theorem dX12_readsOpen_18 : decode cX12_readsOpen 18 = .ok (.aload_n 0, 1) := by decide +kernel
theorem dX12_readsOpen_19 : decode cX12_readsOpen 19 = .ok (.invokevirtual 338, 3) := by decide +kernel
theorem dX12_readsOpen_22 : decode cX12_readsOpen 22 = .ok (.ifCond .ne 5, 3) := by decide +kernel
theorem dX12_readsOpen_25 : decode cX12_readsOpen 25 = .ok (.iconst 0, 1) := by decide +kernel
theorem dX12_readsOpen_26 : decode cX12_readsOpen 26 = .ok (.ireturn, 1) := by decide +kernel
theorem dX12_readsOpen_27 : decode cX12_readsOpen 27 = .ok (.aload_n 0, 1) := by decide +kernel
theorem dX12_readsOpen_28 : decode cX12_readsOpen 28 = .ok (.getfield 13, 3) := by decide +kernel
theorem dX12_readsOpen_31 : decode cX12_readsOpen 31 = .ok (.bipush 11, 2) := by decide +kernel
theorem dX12_readsOpen_33 : decode cX12_readsOpen 33 = .ok (.aload_n 0, 1) := by decide +kernel
theorem dX12_readsOpen_34 : decode cX12_readsOpen 34 = .ok (.getfield 335, 3) := by decide +kernel
theorem dX12_readsOpen_37 : decode cX12_readsOpen 37 = .ok (.iastore, 1) := by decide +kernel
theorem dX12_readsOpen_38 : decode cX12_readsOpen 38 = .ok (.aload_n 0, 1) := by decide +kernel
theorem dX12_readsOpen_39 : decode cX12_readsOpen 39 = .ok (.getfield 13, 3) := by decide +kernel
theorem dX12_readsOpen_42 : decode cX12_readsOpen 42 = .ok (.bipush 12, 2) := by decide +kernel
theorem dX12_readsOpen_44 : decode cX12_readsOpen 44 = .ok (.aload_n 0, 1) := by decide +kernel
theorem dX12_readsOpen_45 : decode cX12_readsOpen 45 = .ok (.getfield 297, 3) := by decide +kernel
theorem dX12_readsOpen_48 : decode cX12_readsOpen 48 = .ok (.iastore, 1) := by decide +kernel
theorem dX12_readsOpen_49 : decode cX12_readsOpen 49 = .ok (.aload_n 0, 1) := by decide +kernel
theorem dX12_readsOpen_50 : decode cX12_readsOpen 50 = .ok (.invokevirtual 322, 3) := by decide +kernel
theorem dX12_readsOpen_53 : decode cX12_readsOpen 53 = .ok (.ireturn, 1) := by decide +kernel
theorem dX12_readsLaw_0 : decode cX12_readsLaw 0 = .ok (.aload_n 0, 1) := by decide +kernel
theorem dX12_readsLaw_1 : decode cX12_readsLaw 1 = .ok (.getfield 50, 3) := by decide +kernel
theorem dX12_readsLaw_4 : decode cX12_readsLaw 4 = .ok (.iconst 2, 1) := by decide +kernel
theorem dX12_readsLaw_5 : decode cX12_readsLaw 5 = .ok (.iload_n 1, 1) := by decide +kernel
theorem dX12_readsLaw_6 : decode cX12_readsLaw 6 = .ok (.iadd, 1) := by decide +kernel
theorem dX12_readsLaw_7 : decode cX12_readsLaw 7 = .ok (.iaload, 1) := by decide +kernel
theorem dX12_readsLaw_8 : decode cX12_readsLaw 8 = .ok (.aload_n 0, 1) := by decide +kernel
theorem dX12_readsLaw_9 : decode cX12_readsLaw 9 = .ok (.getfield 47, 3) := by decide +kernel
theorem dX12_readsLaw_12 : decode cX12_readsLaw 12 = .ok (.iconst 2, 1) := by decide +kernel
theorem dX12_readsLaw_13 : decode cX12_readsLaw 13 = .ok (.iload_n 1, 1) := by decide +kernel
theorem dX12_readsLaw_14 : decode cX12_readsLaw 14 = .ok (.iadd, 1) := by decide +kernel
theorem dX12_readsLaw_15 : decode cX12_readsLaw 15 = .ok (.iaload, 1) := by decide +kernel
theorem dX12_readsLaw_16 : decode cX12_readsLaw 16 = .ok (.if_icmp .le 9, 3) := by decide +kernel
theorem dX12_readsLaw_19 : decode cX12_readsLaw 19 = .ok (.aload_n 0, 1) := by decide +kernel
theorem dX12_readsLaw_20 : decode cX12_readsLaw 20 = .ok (.iconst 3, 1) := by decide +kernel
theorem dX12_readsLaw_21 : decode cX12_readsLaw 21 = .ok (.invokevirtual 231, 3) := by decide +kernel
theorem dX12_readsLaw_24 : decode cX12_readsLaw 24 = .ok (.ireturn, 1) := by decide +kernel
theorem dX12_readsLaw_25 : decode cX12_readsLaw 25 = .ok (.aload_n 0, 1) := by decide +kernel
theorem dX12_readsLaw_26 : decode cX12_readsLaw 26 = .ok (.iload_n 1, 1) := by decide +kernel
theorem dX12_readsLaw_27 : decode cX12_readsLaw 27 = .ok (.putfield 204, 3) := by decide +kernel
theorem dX12_readsLaw_30 : decode cX12_readsLaw 30 = .ok (.aload_n 0, 1) := by decide +kernel
theorem dX12_readsLaw_31 : decode cX12_readsLaw 31 = .ok (.invokevirtual 237, 3) := by decide +kernel
theorem dX12_readsLaw_34 : decode cX12_readsLaw 34 = .ok (.aload_n 0, 1) := by decide +kernel
theorem dX12_readsLaw_35 : decode cX12_readsLaw 35 = .ok (.getfield 47, 3) := by decide +kernel
theorem dX12_readsLaw_38 : decode cX12_readsLaw 38 = .ok (.iconst 2, 1) := by decide +kernel
theorem dX12_readsLaw_39 : decode cX12_readsLaw 39 = .ok (.iload_n 1, 1) := by decide +kernel
theorem dX12_readsLaw_40 : decode cX12_readsLaw 40 = .ok (.iadd, 1) := by decide +kernel
theorem dX12_readsLaw_41 : decode cX12_readsLaw 41 = .ok (.aload_n 0, 1) := by decide +kernel
theorem dX12_readsLaw_42 : decode cX12_readsLaw 42 = .ok (.getfield 199, 3) := by decide +kernel
theorem dX12_readsLaw_45 : decode cX12_readsLaw 45 = .ok (.iastore, 1) := by decide +kernel
theorem dX12_readsLaw_46 : decode cX12_readsLaw 46 = .ok (.aload_n 0, 1) := by decide +kernel
theorem dX12_readsLaw_47 : decode cX12_readsLaw 47 = .ok (.invokevirtual 341, 3) := by decide +kernel
theorem dX12_readsLaw_50 : decode cX12_readsLaw 50 = .ok (.ifCond .ne 5, 3) := by decide +kernel
theorem dX12_readsLaw_53 : decode cX12_readsLaw 53 = .ok (.iconst 0, 1) := by decide +kernel
theorem dX12_readsLaw_54 : decode cX12_readsLaw 54 = .ok (.ireturn, 1) := by decide +kernel
theorem dX12_readsLaw_55 : decode cX12_readsLaw 55 = .ok (.aload_n 0, 1) := by decide +kernel
theorem dX12_readsLaw_56 : decode cX12_readsLaw 56 = .ok (.getfield 50, 3) := by decide +kernel
theorem dX12_readsLaw_59 : decode cX12_readsLaw 59 = .ok (.iconst 2, 1) := by decide +kernel
theorem dX12_readsLaw_60 : decode cX12_readsLaw 60 = .ok (.iload_n 1, 1) := by decide +kernel
theorem dX12_readsLaw_61 : decode cX12_readsLaw 61 = .ok (.iadd, 1) := by decide +kernel
theorem dX12_readsLaw_62 : decode cX12_readsLaw 62 = .ok (.aload_n 0, 1) := by decide +kernel
theorem dX12_readsLaw_63 : decode cX12_readsLaw 63 = .ok (.getfield 199, 3) := by decide +kernel
theorem dX12_readsLaw_66 : decode cX12_readsLaw 66 = .ok (.iastore, 1) := by decide +kernel
theorem dX12_readsLaw_67 : decode cX12_readsLaw 67 = .ok (.iconst 1, 1) := by decide +kernel
theorem dX12_readsLaw_68 : decode cX12_readsLaw 68 = .ok (.ireturn, 1) := by decide +kernel
theorem dX12_begins0_0 : decode cX12_begins0 0 = .ok (.aload_n 0, 1) := by decide +kernel
theorem dX12_begins0_1 : decode cX12_begins0 1 = .ok (.aload_n 0, 1) := by decide +kernel
theorem dX12_begins0_2 : decode cX12_begins0 2 = .ok (.getfield 166, 3) := by decide +kernel
theorem dX12_begins0_5 : decode cX12_begins0 5 = .ok (.putfield 169, 3) := by decide +kernel
theorem dX12_begins0_8 : decode cX12_begins0 8 = .ok (.aload_n 0, 1) := by decide +kernel
theorem dX12_begins0_9 : decode cX12_begins0 9 = .ok (.iconst 0, 1) := by decide +kernel
theorem dX12_begins0_10 : decode cX12_begins0 10 = .ok (.putfield 166, 3) := by decide +kernel
theorem dX12_begins0_13 : decode cX12_begins0 13 = .ok (.aload_n 0, 1) := by decide +kernel
theorem dX12_begins0_14 : decode cX12_begins0 14 = .ok (.iconst 0, 1) := by decide +kernel
theorem dX12_begins0_15 : decode cX12_begins0 15 = .ok (.putfield 172, 3) := by decide +kernel
theorem dX12_begins0_18 : decode cX12_begins0 18 = .ok (.aload_n 0, 1) := by decide +kernel
theorem dX12_begins0_19 : decode cX12_begins0 19 = .ok (.invokevirtual 237, 3) := by decide +kernel
theorem dX12_begins0_22 : decode cX12_begins0 22 = .ok (.return_, 1) := by decide +kernel
theorem dX12_readsAll_0 : decode cX12_readsAll 0 = .ok (.aload_n 0, 1) := by decide +kernel
theorem dX12_readsAll_1 : decode cX12_readsAll 1 = .ok (.iconst 1, 1) := by decide +kernel
theorem dX12_readsAll_2 : decode cX12_readsAll 2 = .ok (.invokevirtual 153, 3) := by decide +kernel
theorem dX12_readsAll_5 : decode cX12_readsAll 5 = .ok (.iconst 2, 1) := by decide +kernel
theorem dX12_readsAll_6 : decode cX12_readsAll 6 = .ok (.istore_n 1, 1) := by decide +kernel
theorem dX12_readsAll_7 : decode cX12_readsAll 7 = .ok (.iload_n 1, 1) := by decide +kernel
theorem dX12_readsAll_8 : decode cX12_readsAll 8 = .ok (.iconst 4, 1) := by decide +kernel
theorem dX12_readsAll_9 : decode cX12_readsAll 9 = .ok (.if_icmp .ge 27, 3) := by decide +kernel
theorem dX12_readsAll_12 : decode cX12_readsAll 12 = .ok (.aload_n 0, 1) := by decide +kernel
theorem dX12_readsAll_13 : decode cX12_readsAll 13 = .ok (.getfield 47, 3) := by decide +kernel
theorem dX12_readsAll_16 : decode cX12_readsAll 16 = .ok (.iload_n 1, 1) := by decide +kernel
theorem dX12_readsAll_17 : decode cX12_readsAll 17 = .ok (.sipush 1000, 3) := by decide +kernel
theorem dX12_readsAll_20 : decode cX12_readsAll 20 = .ok (.iastore, 1) := by decide +kernel
theorem dX12_readsAll_21 : decode cX12_readsAll 21 = .ok (.aload_n 0, 1) := by decide +kernel
theorem dX12_readsAll_22 : decode cX12_readsAll 22 = .ok (.getfield 50, 3) := by decide +kernel
theorem dX12_readsAll_25 : decode cX12_readsAll 25 = .ok (.iload_n 1, 1) := by decide +kernel
theorem dX12_readsAll_26 : decode cX12_readsAll 26 = .ok (.sipush 1000, 3) := by decide +kernel
theorem dX12_readsAll_29 : decode cX12_readsAll 29 = .ok (.iastore, 1) := by decide +kernel
theorem dX12_readsAll_30 : decode cX12_readsAll 30 = .ok (.iinc 1 1, 3) := by decide +kernel
theorem dX12_readsAll_33 : decode cX12_readsAll 33 = .ok (.goto (-26), 3) := by decide +kernel
theorem dX12_readsAll_36 : decode cX12_readsAll 36 = .ok (.aload_n 0, 1) := by decide +kernel
theorem dX12_readsAll_37 : decode cX12_readsAll 37 = .ok (.iconst 0, 1) := by decide +kernel
theorem dX12_readsAll_38 : decode cX12_readsAll 38 = .ok (.putfield 329, 3) := by decide +kernel
theorem dX12_readsAll_41 : decode cX12_readsAll 41 = .ok (.aload_n 0, 1) := by decide +kernel
theorem dX12_readsAll_42 : decode cX12_readsAll 42 = .ok (.sipush 1000, 3) := by decide +kernel
theorem dX12_readsAll_45 : decode cX12_readsAll 45 = .ok (.putfield 199, 3) := by decide +kernel
theorem dX12_readsAll_48 : decode cX12_readsAll 48 = .ok (.aload_n 0, 1) := by decide +kernel
theorem dX12_readsAll_49 : decode cX12_readsAll 49 = .ok (.invokevirtual 344, 3) := by decide +kernel
theorem dX12_readsAll_52 : decode cX12_readsAll 52 = .ok (.aload_n 0, 1) := by decide +kernel
theorem dX12_readsAll_53 : decode cX12_readsAll 53 = .ok (.getfield 185, 3) := by decide +kernel
theorem dX12_readsAll_56 : decode cX12_readsAll 56 = .ok (.ifCond .eq 170, 3) := by decide +kernel
theorem dX12_readsAll_59 : decode cX12_readsAll 59 = .ok (.aload_n 0, 1) := by decide +kernel
theorem dX12_readsAll_60 : decode cX12_readsAll 60 = .ok (.ldc2_w 253, 3) := by decide +kernel
theorem dX12_readsAll_63 : decode cX12_readsAll 63 = .ok (.invokevirtual 223, 3) := by decide +kernel
theorem dX12_readsAll_66 : decode cX12_readsAll 66 = .ok (.ifCond .eq 10, 3) := by decide +kernel
theorem dX12_readsAll_69 : decode cX12_readsAll 69 = .ok (.aload_n 0, 1) := by decide +kernel
theorem dX12_readsAll_70 : decode cX12_readsAll 70 = .ok (.invokevirtual 347, 3) := by decide +kernel
theorem dX12_readsAll_73 : decode cX12_readsAll 73 = .ok (.goto 143, 3) := by decide +kernel
theorem dX12_readsAll_76 : decode cX12_readsAll 76 = .ok (.aload_n 0, 1) := by decide +kernel
theorem dX12_readsAll_77 : decode cX12_readsAll 77 = .ok (.ldc2_w 255, 3) := by decide +kernel
theorem dX12_readsAll_80 : decode cX12_readsAll 80 = .ok (.invokevirtual 223, 3) := by decide +kernel
theorem dX12_readsAll_83 : decode cX12_readsAll 83 = .ok (.ifCond .eq 10, 3) := by decide +kernel
theorem dX12_readsAll_86 : decode cX12_readsAll 86 = .ok (.aload_n 0, 1) := by decide +kernel
theorem dX12_readsAll_87 : decode cX12_readsAll 87 = .ok (.invokevirtual 350, 3) := by decide +kernel
theorem dX12_readsAll_90 : decode cX12_readsAll 90 = .ok (.goto 126, 3) := by decide +kernel
theorem dX12_readsAll_93 : decode cX12_readsAll 93 = .ok (.aload_n 0, 1) := by decide +kernel
theorem dX12_readsAll_94 : decode cX12_readsAll 94 = .ok (.ldc2_w 267, 3) := by decide +kernel
theorem dX12_readsAll_97 : decode cX12_readsAll 97 = .ok (.invokevirtual 223, 3) := by decide +kernel
theorem dX12_readsAll_100 : decode cX12_readsAll 100 = .ok (.ifCond .eq 14, 3) := by decide +kernel
theorem dX12_readsAll_103 : decode cX12_readsAll 103 = .ok (.aload_n 0, 1) := by decide +kernel
theorem dX12_readsAll_104 : decode cX12_readsAll 104 = .ok (.iconst 2, 1) := by decide +kernel
theorem dX12_readsAll_105 : decode cX12_readsAll 105 = .ok (.iconst 0, 1) := by decide +kernel
theorem dX12_readsAll_106 : decode cX12_readsAll 106 = .ok (.bipush 59, 2) := by decide +kernel
theorem dX12_readsAll_108 : decode cX12_readsAll 108 = .ok (.invokevirtual 353, 3) := by decide +kernel
theorem dX12_readsAll_111 : decode cX12_readsAll 111 = .ok (.goto 105, 3) := by decide +kernel
theorem dX12_readsAll_114 : decode cX12_readsAll 114 = .ok (.aload_n 0, 1) := by decide +kernel
theorem dX12_readsAll_115 : decode cX12_readsAll 115 = .ok (.ldc2_w 269, 3) := by decide +kernel
theorem dX12_readsAll_118 : decode cX12_readsAll 118 = .ok (.invokevirtual 223, 3) := by decide +kernel
theorem dX12_readsAll_121 : decode cX12_readsAll 121 = .ok (.ifCond .eq 14, 3) := by decide +kernel
theorem dX12_readsAll_124 : decode cX12_readsAll 124 = .ok (.aload_n 0, 1) := by decide +kernel
theorem dX12_readsAll_125 : decode cX12_readsAll 125 = .ok (.iconst 3, 1) := by decide +kernel
theorem dX12_readsAll_126 : decode cX12_readsAll 126 = .ok (.iconst 1, 1) := by decide +kernel
theorem dX12_readsAll_127 : decode cX12_readsAll 127 = .ok (.bipush 30, 2) := by decide +kernel
theorem dX12_readsAll_129 : decode cX12_readsAll 129 = .ok (.invokevirtual 353, 3) := by decide +kernel
theorem dX12_readsAll_132 : decode cX12_readsAll 132 = .ok (.goto 84, 3) := by decide +kernel
theorem dX12_readsAll_135 : decode cX12_readsAll 135 = .ok (.aload_n 0, 1) := by decide +kernel
theorem dX12_readsAll_136 : decode cX12_readsAll 136 = .ok (.ldc2_w 271, 3) := by decide +kernel
theorem dX12_readsAll_139 : decode cX12_readsAll 139 = .ok (.invokevirtual 223, 3) := by decide +kernel
theorem dX12_readsAll_142 : decode cX12_readsAll 142 = .ok (.ifCond .eq 10, 3) := by decide +kernel
theorem dX12_readsAll_145 : decode cX12_readsAll 145 = .ok (.aload_n 0, 1) := by decide +kernel
theorem dX12_readsAll_146 : decode cX12_readsAll 146 = .ok (.invokevirtual 356, 3) := by decide +kernel
theorem dX12_readsAll_149 : decode cX12_readsAll 149 = .ok (.goto 67, 3) := by decide +kernel
theorem dX12_readsAll_152 : decode cX12_readsAll 152 = .ok (.aload_n 0, 1) := by decide +kernel
theorem dX12_readsAll_153 : decode cX12_readsAll 153 = .ok (.ldc2_w 275, 3) := by decide +kernel
theorem dX12_readsAll_156 : decode cX12_readsAll 156 = .ok (.invokevirtual 223, 3) := by decide +kernel
theorem dX12_readsAll_159 : decode cX12_readsAll 159 = .ok (.ifCond .eq 16, 3) := by decide +kernel
theorem dX12_readsAll_162 : decode cX12_readsAll 162 = .ok (.aload_n 0, 1) := by decide +kernel
theorem dX12_readsAll_163 : decode cX12_readsAll 163 = .ok (.bipush 6, 2) := by decide +kernel
theorem dX12_readsAll_165 : decode cX12_readsAll 165 = .ok (.iconst 0, 1) := by decide +kernel
theorem dX12_readsAll_166 : decode cX12_readsAll 166 = .ok (.sipush 999, 3) := by decide +kernel
theorem dX12_readsAll_169 : decode cX12_readsAll 169 = .ok (.invokevirtual 353, 3) := by decide +kernel
theorem dX12_readsAll_172 : decode cX12_readsAll 172 = .ok (.goto 44, 3) := by decide +kernel
theorem dX12_readsAll_175 : decode cX12_readsAll 175 = .ok (.aload_n 0, 1) := by decide +kernel
theorem dX12_readsAll_176 : decode cX12_readsAll 176 = .ok (.ldc2_w 277, 3) := by decide +kernel
theorem dX12_readsAll_179 : decode cX12_readsAll 179 = .ok (.invokevirtual 223, 3) := by decide +kernel
theorem dX12_readsAll_182 : decode cX12_readsAll 182 = .ok (.ifCond .eq 11, 3) := by decide +kernel
theorem dX12_readsAll_185 : decode cX12_readsAll 185 = .ok (.aload_n 0, 1) := by decide +kernel
theorem dX12_readsAll_186 : decode cX12_readsAll 186 = .ok (.iconst 0, 1) := by decide +kernel
theorem dX12_readsAll_187 : decode cX12_readsAll 187 = .ok (.invokevirtual 359, 3) := by decide +kernel
theorem dX12_readsAll_190 : decode cX12_readsAll 190 = .ok (.goto 26, 3) := by decide +kernel
theorem dX12_readsAll_193 : decode cX12_readsAll 193 = .ok (.aload_n 0, 1) := by decide +kernel
theorem dX12_readsAll_194 : decode cX12_readsAll 194 = .ok (.ldc2_w 279, 3) := by decide +kernel
theorem dX12_readsAll_197 : decode cX12_readsAll 197 = .ok (.invokevirtual 223, 3) := by decide +kernel
theorem dX12_readsAll_200 : decode cX12_readsAll 200 = .ok (.ifCond .eq 11, 3) := by decide +kernel
theorem dX12_readsAll_203 : decode cX12_readsAll 203 = .ok (.aload_n 0, 1) := by decide +kernel
theorem dX12_readsAll_204 : decode cX12_readsAll 204 = .ok (.iconst 1, 1) := by decide +kernel
theorem dX12_readsAll_205 : decode cX12_readsAll 205 = .ok (.invokevirtual 359, 3) := by decide +kernel
theorem dX12_readsAll_208 : decode cX12_readsAll 208 = .ok (.goto 8, 3) := by decide +kernel
theorem dX12_readsAll_211 : decode cX12_readsAll 211 = .ok (.aload_n 0, 1) := by decide +kernel
theorem dX12_readsAll_212 : decode cX12_readsAll 212 = .ok (.iconst 1, 1) := by decide +kernel
theorem dX12_readsAll_213 : decode cX12_readsAll 213 = .ok (.invokevirtual 231, 3) := by decide +kernel
theorem dX12_readsAll_216 : decode cX12_readsAll 216 = .ok (.istore_n 1, 1) := by decide +kernel
theorem dX12_readsAll_217 : decode cX12_readsAll 217 = .ok (.iload_n 1, 1) := by decide +kernel
theorem dX12_readsAll_218 : decode cX12_readsAll 218 = .ok (.ifCond .ne 5, 3) := by decide +kernel
theorem dX12_readsAll_221 : decode cX12_readsAll 221 = .ok (.iconst 0, 1) := by decide +kernel
theorem dX12_readsAll_222 : decode cX12_readsAll 222 = .ok (.ireturn, 1) := by decide +kernel
theorem dX12_readsAll_223 : decode cX12_readsAll 223 = .ok (.goto (-171), 3) := by decide +kernel
theorem dX12_readsAll_226 : decode cX12_readsAll 226 = .ok (.iconst 1, 1) := by decide +kernel
theorem dX12_readsAll_227 : decode cX12_readsAll 227 = .ok (.ireturn, 1) := by decide +kernel
theorem dX12_shifts_0 : decode cX12_shifts 0 = .ok (.iconst 0, 1) := by decide +kernel
theorem dX12_shifts_1 : decode cX12_shifts 1 = .ok (.istore_n 2, 1) := by decide +kernel
theorem dX12_shifts_2 : decode cX12_shifts 2 = .ok (.iload_n 2, 1) := by decide +kernel
theorem dX12_shifts_3 : decode cX12_shifts 3 = .ok (.iload_n 1, 1) := by decide +kernel
theorem dX12_shifts_4 : decode cX12_shifts 4 = .ok (.if_icmp .ge 17, 3) := by decide +kernel
theorem dX12_shifts_7 : decode cX12_shifts 7 = .ok (.aload_n 0, 1) := by decide +kernel
theorem dX12_shifts_8 : decode cX12_shifts 8 = .ok (.iload_n 2, 1) := by decide +kernel
theorem dX12_shifts_9 : decode cX12_shifts 9 = .ok (.aload_n 0, 1) := by decide +kernel
theorem dX12_shifts_10 : decode cX12_shifts 10 = .ok (.iload_n 1, 1) := by decide +kernel
theorem dX12_shifts_11 : decode cX12_shifts 11 = .ok (.iload_n 2, 1) := by decide +kernel
theorem dX12_shifts_12 : decode cX12_shifts 12 = .ok (.iadd, 1) := by decide +kernel
theorem dX12_shifts_13 : decode cX12_shifts 13 = .ok (.iaload, 1) := by decide +kernel
theorem dX12_shifts_14 : decode cX12_shifts 14 = .ok (.iastore, 1) := by decide +kernel
theorem dX12_shifts_15 : decode cX12_shifts 15 = .ok (.iinc 2 1, 3) := by decide +kernel
theorem dX12_shifts_18 : decode cX12_shifts 18 = .ok (.goto (-16), 3) := by decide +kernel
theorem dX12_shifts_21 : decode cX12_shifts 21 = .ok (.return_, 1) := by decide +kernel
theorem dX12_lays_0 : decode cX12_lays 0 = .ok (.aload_n 0, 1) := by decide +kernel
theorem dX12_lays_1 : decode cX12_lays 1 = .ok (.getfield 13, 3) := by decide +kernel
theorem dX12_lays_4 : decode cX12_lays 4 = .ok (.bipush 7, 2) := by decide +kernel
theorem dX12_lays_6 : decode cX12_lays 6 = .ok (.invokestatic 362, 3) := by decide +kernel
theorem dX12_lays_9 : decode cX12_lays 9 = .ok (.aload_n 0, 1) := by decide +kernel
theorem dX12_lays_10 : decode cX12_lays 10 = .ok (.getfield 23, 3) := by decide +kernel
theorem dX12_lays_13 : decode cX12_lays 13 = .ok (.bipush 45, 2) := by decide +kernel
theorem dX12_lays_15 : decode cX12_lays 15 = .ok (.invokestatic 362, 3) := by decide +kernel
theorem dX12_lays_18 : decode cX12_lays 18 = .ok (.aload_n 0, 1) := by decide +kernel
theorem dX12_lays_19 : decode cX12_lays 19 = .ok (.getfield 26, 3) := by decide +kernel
theorem dX12_lays_22 : decode cX12_lays 22 = .ok (.iconst 5, 1) := by decide +kernel
theorem dX12_lays_23 : decode cX12_lays 23 = .ok (.invokestatic 362, 3) := by decide +kernel
theorem dX12_lays_26 : decode cX12_lays 26 = .ok (.aload_n 0, 1) := by decide +kernel
theorem dX12_lays_27 : decode cX12_lays 27 = .ok (.getfield 29, 3) := by decide +kernel
theorem dX12_lays_30 : decode cX12_lays 30 = .ok (.bipush 7, 2) := by decide +kernel
theorem dX12_lays_32 : decode cX12_lays 32 = .ok (.invokestatic 362, 3) := by decide +kernel
theorem dX12_lays_35 : decode cX12_lays 35 = .ok (.aload_n 0, 1) := by decide +kernel
theorem dX12_lays_36 : decode cX12_lays 36 = .ok (.getfield 32, 3) := by decide +kernel
theorem dX12_lays_39 : decode cX12_lays 39 = .ok (.bipush 7, 2) := by decide +kernel
theorem dX12_lays_41 : decode cX12_lays 41 = .ok (.invokestatic 362, 3) := by decide +kernel
theorem dX12_lays_44 : decode cX12_lays 44 = .ok (.aload_n 0, 1) := by decide +kernel
theorem dX12_lays_45 : decode cX12_lays 45 = .ok (.getfield 35, 3) := by decide +kernel
theorem dX12_lays_48 : decode cX12_lays 48 = .ok (.bipush 7, 2) := by decide +kernel
theorem dX12_lays_50 : decode cX12_lays 50 = .ok (.invokestatic 362, 3) := by decide +kernel
theorem dX12_lays_53 : decode cX12_lays 53 = .ok (.aload_n 0, 1) := by decide +kernel
theorem dX12_lays_54 : decode cX12_lays 54 = .ok (.getfield 38, 3) := by decide +kernel
theorem dX12_lays_57 : decode cX12_lays 57 = .ok (.bipush 7, 2) := by decide +kernel
theorem dX12_lays_59 : decode cX12_lays 59 = .ok (.invokestatic 362, 3) := by decide +kernel
theorem dX12_lays_62 : decode cX12_lays 62 = .ok (.aload_n 0, 1) := by decide +kernel
theorem dX12_lays_63 : decode cX12_lays 63 = .ok (.getfield 41, 3) := by decide +kernel
theorem dX12_lays_66 : decode cX12_lays 66 = .ok (.bipush 7, 2) := by decide +kernel
theorem dX12_lays_68 : decode cX12_lays 68 = .ok (.invokestatic 362, 3) := by decide +kernel
theorem dX12_lays_71 : decode cX12_lays 71 = .ok (.aload_n 0, 1) := by decide +kernel
theorem dX12_lays_72 : decode cX12_lays 72 = .ok (.getfield 44, 3) := by decide +kernel
theorem dX12_lays_75 : decode cX12_lays 75 = .ok (.bipush 7, 2) := by decide +kernel
theorem dX12_lays_77 : decode cX12_lays 77 = .ok (.invokestatic 362, 3) := by decide +kernel
theorem dX12_lays_80 : decode cX12_lays 80 = .ok (.aload_n 0, 1) := by decide +kernel
theorem dX12_lays_81 : decode cX12_lays 81 = .ok (.getfield 53, 3) := by decide +kernel
theorem dX12_lays_84 : decode cX12_lays 84 = .ok (.sipush 1000, 3) := by decide +kernel
theorem dX12_lays_87 : decode cX12_lays 87 = .ok (.invokestatic 362, 3) := by decide +kernel
theorem dX12_lays_90 : decode cX12_lays 90 = .ok (.iconst 0, 1) := by decide +kernel
theorem dX12_lays_91 : decode cX12_lays 91 = .ok (.istore_n 1, 1) := by decide +kernel
theorem dX12_lays_92 : decode cX12_lays 92 = .ok (.iload_n 1, 1) := by decide +kernel
theorem dX12_lays_93 : decode cX12_lays 93 = .ok (.iconst 2, 1) := by decide +kernel
theorem dX12_lays_94 : decode cX12_lays 94 = .ok (.if_icmp .ge 45, 3) := by decide +kernel
theorem dX12_lays_97 : decode cX12_lays 97 = .ok (.aload_n 0, 1) := by decide +kernel
theorem dX12_lays_98 : decode cX12_lays 98 = .ok (.getfield 47, 3) := by decide +kernel
theorem dX12_lays_101 : decode cX12_lays 101 = .ok (.iload_n 1, 1) := by decide +kernel
theorem dX12_lays_102 : decode cX12_lays 102 = .ok (.aload_n 0, 1) := by decide +kernel
theorem dX12_lays_103 : decode cX12_lays 103 = .ok (.getfield 47, 3) := by decide +kernel
theorem dX12_lays_106 : decode cX12_lays 106 = .ok (.iconst 2, 1) := by decide +kernel
theorem dX12_lays_107 : decode cX12_lays 107 = .ok (.iload_n 1, 1) := by decide +kernel
theorem dX12_lays_108 : decode cX12_lays 108 = .ok (.iadd, 1) := by decide +kernel
theorem dX12_lays_109 : decode cX12_lays 109 = .ok (.iaload, 1) := by decide +kernel
theorem dX12_lays_110 : decode cX12_lays 110 = .ok (.sipush 1000, 3) := by decide +kernel
theorem dX12_lays_113 : decode cX12_lays 113 = .ok (.isub, 1) := by decide +kernel
theorem dX12_lays_114 : decode cX12_lays 114 = .ok (.iastore, 1) := by decide +kernel
theorem dX12_lays_115 : decode cX12_lays 115 = .ok (.aload_n 0, 1) := by decide +kernel
theorem dX12_lays_116 : decode cX12_lays 116 = .ok (.getfield 50, 3) := by decide +kernel
theorem dX12_lays_119 : decode cX12_lays 119 = .ok (.iload_n 1, 1) := by decide +kernel
theorem dX12_lays_120 : decode cX12_lays 120 = .ok (.aload_n 0, 1) := by decide +kernel
theorem dX12_lays_121 : decode cX12_lays 121 = .ok (.getfield 50, 3) := by decide +kernel
theorem dX12_lays_124 : decode cX12_lays 124 = .ok (.iconst 2, 1) := by decide +kernel
theorem dX12_lays_125 : decode cX12_lays 125 = .ok (.iload_n 1, 1) := by decide +kernel
theorem dX12_lays_126 : decode cX12_lays 126 = .ok (.iadd, 1) := by decide +kernel
theorem dX12_lays_127 : decode cX12_lays 127 = .ok (.iaload, 1) := by decide +kernel
theorem dX12_lays_128 : decode cX12_lays 128 = .ok (.sipush 1000, 3) := by decide +kernel
theorem dX12_lays_131 : decode cX12_lays 131 = .ok (.isub, 1) := by decide +kernel
theorem dX12_lays_132 : decode cX12_lays 132 = .ok (.iastore, 1) := by decide +kernel
theorem dX12_lays_133 : decode cX12_lays 133 = .ok (.iinc 1 1, 3) := by decide +kernel
theorem dX12_lays_136 : decode cX12_lays 136 = .ok (.goto (-44), 3) := by decide +kernel
theorem dX12_lays_139 : decode cX12_lays 139 = .ok (.return_, 1) := by decide +kernel
theorem dX12_copies_0 : decode cX12_copies 0 = .ok (.iconst 0, 1) := by decide +kernel
theorem dX12_copies_1 : decode cX12_copies 1 = .ok (.istore 4, 2) := by decide +kernel
theorem dX12_copies_3 : decode cX12_copies 3 = .ok (.iload 4, 2) := by decide +kernel
theorem dX12_copies_5 : decode cX12_copies 5 = .ok (.bipush 17, 2) := by decide +kernel
theorem dX12_copies_7 : decode cX12_copies 7 = .ok (.if_icmp .ge 21, 3) := by decide +kernel
theorem dX12_copies_10 : decode cX12_copies 10 = .ok (.aload_n 2, 1) := by decide +kernel
theorem dX12_copies_11 : decode cX12_copies 11 = .ok (.iload_n 3, 1) := by decide +kernel
theorem dX12_copies_12 : decode cX12_copies 12 = .ok (.iload 4, 2) := by decide +kernel
theorem dX12_copies_14 : decode cX12_copies 14 = .ok (.iadd, 1) := by decide +kernel
theorem dX12_copies_15 : decode cX12_copies 15 = .ok (.aload_n 0, 1) := by decide +kernel
theorem dX12_copies_16 : decode cX12_copies 16 = .ok (.iload_n 1, 1) := by decide +kernel
theorem dX12_copies_17 : decode cX12_copies 17 = .ok (.iload 4, 2) := by decide +kernel
theorem dX12_copies_19 : decode cX12_copies 19 = .ok (.iadd, 1) := by decide +kernel
theorem dX12_copies_20 : decode cX12_copies 20 = .ok (.iaload, 1) := by decide +kernel
theorem dX12_copies_21 : decode cX12_copies 21 = .ok (.iastore, 1) := by decide +kernel
theorem dX12_copies_22 : decode cX12_copies 22 = .ok (.iinc 4 1, 3) := by decide +kernel
theorem dX12_copies_25 : decode cX12_copies 25 = .ok (.goto (-22), 3) := by decide +kernel
theorem dX12_copies_28 : decode cX12_copies 28 = .ok (.return_, 1) := by decide +kernel
theorem dX12_readsLine_0 : decode cX12_readsLine 0 = .ok (.aload_n 0, 1) := by decide +kernel
theorem dX12_readsLine_1 : decode cX12_readsLine 1 = .ok (.ldc2_w 281, 3) := by decide +kernel
theorem dX12_readsLine_4 : decode cX12_readsLine 4 = .ok (.invokevirtual 223, 3) := by decide +kernel
theorem dX12_readsLine_7 : decode cX12_readsLine 7 = .ok (.ifCond .eq 7, 3) := by decide +kernel
theorem dX12_readsLine_10 : decode cX12_readsLine 10 = .ok (.iconst 0, 1) := by decide +kernel
theorem dX12_readsLine_11 : decode cX12_readsLine 11 = .ok (.goto 46, 3) := by decide +kernel
theorem dX12_readsLine_14 : decode cX12_readsLine 14 = .ok (.aload_n 0, 1) := by decide +kernel
theorem dX12_readsLine_15 : decode cX12_readsLine 15 = .ok (.ldc2_w 283, 3) := by decide +kernel
theorem dX12_readsLine_18 : decode cX12_readsLine 18 = .ok (.invokevirtual 223, 3) := by decide +kernel
theorem dX12_readsLine_21 : decode cX12_readsLine 21 = .ok (.ifCond .eq 7, 3) := by decide +kernel
theorem dX12_readsLine_24 : decode cX12_readsLine 24 = .ok (.iconst 1, 1) := by decide +kernel
theorem dX12_readsLine_25 : decode cX12_readsLine 25 = .ok (.goto 32, 3) := by decide +kernel
theorem dX12_readsLine_28 : decode cX12_readsLine 28 = .ok (.aload_n 0, 1) := by decide +kernel
theorem dX12_readsLine_29 : decode cX12_readsLine 29 = .ok (.ldc2_w 269, 3) := by decide +kernel
theorem dX12_readsLine_32 : decode cX12_readsLine 32 = .ok (.invokevirtual 223, 3) := by decide +kernel
theorem dX12_readsLine_35 : decode cX12_readsLine 35 = .ok (.ifCond .eq 7, 3) := by decide +kernel
theorem dX12_readsLine_38 : decode cX12_readsLine 38 = .ok (.iconst 2, 1) := by decide +kernel
theorem dX12_readsLine_39 : decode cX12_readsLine 39 = .ok (.goto 18, 3) := by decide +kernel
theorem dX12_readsLine_42 : decode cX12_readsLine 42 = .ok (.aload_n 0, 1) := by decide +kernel
theorem dX12_readsLine_43 : decode cX12_readsLine 43 = .ok (.ldc2_w 271, 3) := by decide +kernel
theorem dX12_readsLine_46 : decode cX12_readsLine 46 = .ok (.invokevirtual 223, 3) := by decide +kernel
theorem dX12_readsLine_49 : decode cX12_readsLine 49 = .ok (.ifCond .eq 7, 3) := by decide +kernel
theorem dX12_readsLine_52 : decode cX12_readsLine 52 = .ok (.iconst 3, 1) := by decide +kernel
theorem dX12_readsLine_53 : decode cX12_readsLine 53 = .ok (.goto 4, 3) := by decide +kernel
theorem dX12_readsLine_56 : decode cX12_readsLine 56 = .ok (.iconst (-1), 1) := by decide +kernel
theorem dX12_readsLine_57 : decode cX12_readsLine 57 = .ok (.istore_n 1, 1) := by decide +kernel
theorem dX12_readsLine_58 : decode cX12_readsLine 58 = .ok (.iload_n 1, 1) := by decide +kernel
theorem dX12_readsLine_59 : decode cX12_readsLine 59 = .ok (.ifCond .ge 9, 3) := by decide +kernel
theorem dX12_readsLine_62 : decode cX12_readsLine 62 = .ok (.aload_n 0, 1) := by decide +kernel
theorem dX12_readsLine_63 : decode cX12_readsLine 63 = .ok (.iconst 1, 1) := by decide +kernel
theorem dX12_readsLine_64 : decode cX12_readsLine 64 = .ok (.invokevirtual 231, 3) := by decide +kernel
theorem dX12_readsLine_67 : decode cX12_readsLine 67 = .ok (.ireturn, 1) := by decide +kernel
theorem dX12_readsLine_68 : decode cX12_readsLine 68 = .ok (.aload_n 0, 1) := by decide +kernel
theorem dX12_readsLine_69 : decode cX12_readsLine 69 = .ok (.getfield 93, 3) := by decide +kernel
theorem dX12_readsLine_72 : decode cX12_readsLine 72 = .ok (.iconst 5, 1) := by decide +kernel
theorem dX12_readsLine_73 : decode cX12_readsLine 73 = .ok (.iaload, 1) := by decide +kernel
theorem dX12_readsLine_74 : decode cX12_readsLine 74 = .ok (.bipush 40, 2) := by decide +kernel
theorem dX12_readsLine_76 : decode cX12_readsLine 76 = .ok (.if_icmp .ne 9, 3) := by decide +kernel
theorem dX12_readsLine_79 : decode cX12_readsLine 79 = .ok (.aload_n 0, 1) := by decide +kernel
theorem dX12_readsLine_80 : decode cX12_readsLine 80 = .ok (.iconst 5, 1) := by decide +kernel
theorem dX12_readsLine_81 : decode cX12_readsLine 81 = .ok (.invokevirtual 231, 3) := by decide +kernel
theorem dX12_readsLine_84 : decode cX12_readsLine 84 = .ok (.ireturn, 1) := by decide +kernel
theorem dX12_readsLine_85 : decode cX12_readsLine 85 = .ok (.aload_n 0, 1) := by decide +kernel
theorem dX12_readsLine_86 : decode cX12_readsLine 86 = .ok (.invokevirtual 237, 3) := by decide +kernel
theorem dX12_readsLine_89 : decode cX12_readsLine 89 = .ok (.sipush 200, 3) := by decide +kernel
theorem dX12_readsLine_92 : decode cX12_readsLine 92 = .ok (.aload_n 0, 1) := by decide +kernel
theorem dX12_readsLine_93 : decode cX12_readsLine 93 = .ok (.getfield 93, 3) := by decide +kernel
theorem dX12_readsLine_96 : decode cX12_readsLine 96 = .ok (.iconst 5, 1) := by decide +kernel
theorem dX12_readsLine_97 : decode cX12_readsLine 97 = .ok (.iaload, 1) := by decide +kernel
theorem dX12_readsLine_98 : decode cX12_readsLine 98 = .ok (.iadd, 1) := by decide +kernel
theorem dX12_readsLine_99 : decode cX12_readsLine 99 = .ok (.istore_n 2, 1) := by decide +kernel
theorem dX12_readsLine_100 : decode cX12_readsLine 100 = .ok (.aload_n 0, 1) := by decide +kernel
theorem dX12_readsLine_101 : decode cX12_readsLine 101 = .ok (.getfield 96, 3) := by decide +kernel
theorem dX12_readsLine_104 : decode cX12_readsLine 104 = .ok (.iload_n 2, 1) := by decide +kernel
theorem dX12_readsLine_105 : decode cX12_readsLine 105 = .ok (.iload_n 1, 1) := by decide +kernel
theorem dX12_readsLine_106 : decode cX12_readsLine 106 = .ok (.iastore, 1) := by decide +kernel
theorem dX12_readsLine_107 : decode cX12_readsLine 107 = .ok (.iload_n 1, 1) := by decide +kernel
theorem dX12_readsLine_108 : decode cX12_readsLine 108 = .ok (.iconst 2, 1) := by decide +kernel
theorem dX12_readsLine_109 : decode cX12_readsLine 109 = .ok (.if_icmp .ne 13, 3) := by decide +kernel
theorem dX12_readsLine_112 : decode cX12_readsLine 112 = .ok (.aload_n 0, 1) := by decide +kernel
theorem dX12_readsLine_113 : decode cX12_readsLine 113 = .ok (.iconst 1, 1) := by decide +kernel
theorem dX12_readsLine_114 : decode cX12_readsLine 114 = .ok (.bipush 30, 2) := by decide +kernel
theorem dX12_readsLine_116 : decode cX12_readsLine 116 = .ok (.invokevirtual 303, 3) := by decide +kernel
theorem dX12_readsLine_119 : decode cX12_readsLine 119 = .ok (.ifCond .eq 15, 3) := by decide +kernel
theorem dX12_readsLine_122 : decode cX12_readsLine 122 = .ok (.iload_n 1, 1) := by decide +kernel
theorem dX12_readsLine_123 : decode cX12_readsLine 123 = .ok (.iconst 3, 1) := by decide +kernel
theorem dX12_readsLine_124 : decode cX12_readsLine 124 = .ok (.if_icmp .ne 12, 3) := by decide +kernel
theorem dX12_readsLine_127 : decode cX12_readsLine 127 = .ok (.aload_n 0, 1) := by decide +kernel
theorem dX12_readsLine_128 : decode cX12_readsLine 128 = .ok (.invokevirtual 338, 3) := by decide +kernel
theorem dX12_readsLine_131 : decode cX12_readsLine 131 = .ok (.ifCond .ne 5, 3) := by decide +kernel
theorem dX12_readsLine_134 : decode cX12_readsLine 134 = .ok (.iconst 0, 1) := by decide +kernel
theorem dX12_readsLine_135 : decode cX12_readsLine 135 = .ok (.ireturn, 1) := by decide +kernel
theorem dX12_readsLine_136 : decode cX12_readsLine 136 = .ok (.aload_n 0, 1) := by decide +kernel
theorem dX12_readsLine_137 : decode cX12_readsLine 137 = .ok (.getfield 99, 3) := by decide +kernel
theorem dX12_readsLine_140 : decode cX12_readsLine 140 = .ok (.iload_n 2, 1) := by decide +kernel
theorem dX12_readsLine_141 : decode cX12_readsLine 141 = .ok (.iload_n 1, 1) := by decide +kernel
theorem dX12_readsLine_142 : decode cX12_readsLine 142 = .ok (.iconst 3, 1) := by decide +kernel
theorem dX12_readsLine_143 : decode cX12_readsLine 143 = .ok (.if_icmp .ne 10, 3) := by decide +kernel
theorem dX12_readsLine_146 : decode cX12_readsLine 146 = .ok (.aload_n 0, 1) := by decide +kernel
theorem dX12_readsLine_147 : decode cX12_readsLine 147 = .ok (.getfield 335, 3) := by decide +kernel
theorem dX12_readsLine_150 : decode cX12_readsLine 150 = .ok (.goto 7, 3) := by decide +kernel
theorem dX12_readsLine_153 : decode cX12_readsLine 153 = .ok (.aload_n 0, 1) := by decide +kernel
theorem dX12_readsLine_154 : decode cX12_readsLine 154 = .ok (.getfield 297, 3) := by decide +kernel
theorem dX12_readsLine_157 : decode cX12_readsLine 157 = .ok (.iastore, 1) := by decide +kernel
theorem dX12_readsLine_158 : decode cX12_readsLine 158 = .ok (.aload_n 0, 1) := by decide +kernel
theorem dX12_readsLine_159 : decode cX12_readsLine 159 = .ok (.getfield 102, 3) := by decide +kernel
theorem dX12_readsLine_162 : decode cX12_readsLine 162 = .ok (.iload_n 2, 1) := by decide +kernel
theorem dX12_readsLine_163 : decode cX12_readsLine 163 = .ok (.aload_n 0, 1) := by decide +kernel
theorem dX12_readsLine_164 : decode cX12_readsLine 164 = .ok (.getfield 297, 3) := by decide +kernel
theorem dX12_readsLine_167 : decode cX12_readsLine 167 = .ok (.iastore, 1) := by decide +kernel
theorem dX12_readsLine_168 : decode cX12_readsLine 168 = .ok (.aload_n 0, 1) := by decide +kernel
theorem dX12_readsLine_169 : decode cX12_readsLine 169 = .ok (.getfield 93, 3) := by decide +kernel
theorem dX12_readsLine_172 : decode cX12_readsLine 172 = .ok (.iconst 5, 1) := by decide +kernel
theorem dX12_readsLine_173 : decode cX12_readsLine 173 = .ok (.dup2, 1) := by decide +kernel
theorem dX12_readsLine_174 : decode cX12_readsLine 174 = .ok (.iaload, 1) := by decide +kernel
theorem dX12_readsLine_175 : decode cX12_readsLine 175 = .ok (.iconst 1, 1) := by decide +kernel
theorem dX12_readsLine_176 : decode cX12_readsLine 176 = .ok (.iadd, 1) := by decide +kernel
theorem dX12_readsLine_177 : decode cX12_readsLine 177 = .ok (.iastore, 1) := by decide +kernel
theorem dX12_readsLine_178 : decode cX12_readsLine 178 = .ok (.aload_n 0, 1) := by decide +kernel
theorem dX12_readsLine_179 : decode cX12_readsLine 179 = .ok (.invokevirtual 322, 3) := by decide +kernel
theorem dX12_readsLine_182 : decode cX12_readsLine 182 = .ok (.ireturn, 1) := by decide +kernel
theorem dX12_laysLines_0 : decode cX12_laysLines 0 = .ok (.aload_n 0, 1) := by decide +kernel
theorem dX12_laysLines_1 : decode cX12_laysLines 1 = .ok (.getfield 93, 3) := by decide +kernel
theorem dX12_laysLines_4 : decode cX12_laysLines 4 = .ok (.iload_n 2, 1) := by decide +kernel
theorem dX12_laysLines_5 : decode cX12_laysLines 5 = .ok (.aload_n 0, 1) := by decide +kernel
theorem dX12_laysLines_6 : decode cX12_laysLines 6 = .ok (.getfield 93, 3) := by decide +kernel
theorem dX12_laysLines_9 : decode cX12_laysLines 9 = .ok (.iload_n 1, 1) := by decide +kernel
theorem dX12_laysLines_10 : decode cX12_laysLines 10 = .ok (.iaload, 1) := by decide +kernel
theorem dX12_laysLines_11 : decode cX12_laysLines 11 = .ok (.iastore, 1) := by decide +kernel
theorem dX12_laysLines_12 : decode cX12_laysLines 12 = .ok (.iconst 0, 1) := by decide +kernel
theorem dX12_laysLines_13 : decode cX12_laysLines 13 = .ok (.istore_n 3, 1) := by decide +kernel
theorem dX12_laysLines_14 : decode cX12_laysLines 14 = .ok (.iload_n 3, 1) := by decide +kernel
theorem dX12_laysLines_15 : decode cX12_laysLines 15 = .ok (.bipush 40, 2) := by decide +kernel
theorem dX12_laysLines_17 : decode cX12_laysLines 17 = .ok (.if_icmp .ge 75, 3) := by decide +kernel
theorem dX12_laysLines_20 : decode cX12_laysLines 20 = .ok (.aload_n 0, 1) := by decide +kernel
theorem dX12_laysLines_21 : decode cX12_laysLines 21 = .ok (.getfield 96, 3) := by decide +kernel
theorem dX12_laysLines_24 : decode cX12_laysLines 24 = .ok (.bipush 40, 2) := by decide +kernel
theorem dX12_laysLines_26 : decode cX12_laysLines 26 = .ok (.iload_n 2, 1) := by decide +kernel
theorem dX12_laysLines_27 : decode cX12_laysLines 27 = .ok (.imul, 1) := by decide +kernel
theorem dX12_laysLines_28 : decode cX12_laysLines 28 = .ok (.iload_n 3, 1) := by decide +kernel
theorem dX12_laysLines_29 : decode cX12_laysLines 29 = .ok (.iadd, 1) := by decide +kernel
theorem dX12_laysLines_30 : decode cX12_laysLines 30 = .ok (.aload_n 0, 1) := by decide +kernel
theorem dX12_laysLines_31 : decode cX12_laysLines 31 = .ok (.getfield 96, 3) := by decide +kernel
theorem dX12_laysLines_34 : decode cX12_laysLines 34 = .ok (.bipush 40, 2) := by decide +kernel
theorem dX12_laysLines_36 : decode cX12_laysLines 36 = .ok (.iload_n 1, 1) := by decide +kernel
theorem dX12_laysLines_37 : decode cX12_laysLines 37 = .ok (.imul, 1) := by decide +kernel
theorem dX12_laysLines_38 : decode cX12_laysLines 38 = .ok (.iload_n 3, 1) := by decide +kernel
theorem dX12_laysLines_39 : decode cX12_laysLines 39 = .ok (.iadd, 1) := by decide +kernel
theorem dX12_laysLines_40 : decode cX12_laysLines 40 = .ok (.iaload, 1) := by decide +kernel
theorem dX12_laysLines_41 : decode cX12_laysLines 41 = .ok (.iastore, 1) := by decide +kernel
theorem dX12_laysLines_42 : decode cX12_laysLines 42 = .ok (.aload_n 0, 1) := by decide +kernel
theorem dX12_laysLines_43 : decode cX12_laysLines 43 = .ok (.getfield 99, 3) := by decide +kernel
theorem dX12_laysLines_46 : decode cX12_laysLines 46 = .ok (.bipush 40, 2) := by decide +kernel
theorem dX12_laysLines_48 : decode cX12_laysLines 48 = .ok (.iload_n 2, 1) := by decide +kernel
theorem dX12_laysLines_49 : decode cX12_laysLines 49 = .ok (.imul, 1) := by decide +kernel
theorem dX12_laysLines_50 : decode cX12_laysLines 50 = .ok (.iload_n 3, 1) := by decide +kernel
theorem dX12_laysLines_51 : decode cX12_laysLines 51 = .ok (.iadd, 1) := by decide +kernel
theorem dX12_laysLines_52 : decode cX12_laysLines 52 = .ok (.aload_n 0, 1) := by decide +kernel
theorem dX12_laysLines_53 : decode cX12_laysLines 53 = .ok (.getfield 99, 3) := by decide +kernel
theorem dX12_laysLines_56 : decode cX12_laysLines 56 = .ok (.bipush 40, 2) := by decide +kernel
theorem dX12_laysLines_58 : decode cX12_laysLines 58 = .ok (.iload_n 1, 1) := by decide +kernel
theorem dX12_laysLines_59 : decode cX12_laysLines 59 = .ok (.imul, 1) := by decide +kernel
theorem dX12_laysLines_60 : decode cX12_laysLines 60 = .ok (.iload_n 3, 1) := by decide +kernel
theorem dX12_laysLines_61 : decode cX12_laysLines 61 = .ok (.iadd, 1) := by decide +kernel
theorem dX12_laysLines_62 : decode cX12_laysLines 62 = .ok (.iaload, 1) := by decide +kernel
theorem dX12_laysLines_63 : decode cX12_laysLines 63 = .ok (.iastore, 1) := by decide +kernel
theorem dX12_laysLines_64 : decode cX12_laysLines 64 = .ok (.aload_n 0, 1) := by decide +kernel
theorem dX12_laysLines_65 : decode cX12_laysLines 65 = .ok (.getfield 102, 3) := by decide +kernel
theorem dX12_laysLines_68 : decode cX12_laysLines 68 = .ok (.bipush 40, 2) := by decide +kernel
theorem dX12_laysLines_70 : decode cX12_laysLines 70 = .ok (.iload_n 2, 1) := by decide +kernel
theorem dX12_laysLines_71 : decode cX12_laysLines 71 = .ok (.imul, 1) := by decide +kernel
theorem dX12_laysLines_72 : decode cX12_laysLines 72 = .ok (.iload_n 3, 1) := by decide +kernel
theorem dX12_laysLines_73 : decode cX12_laysLines 73 = .ok (.iadd, 1) := by decide +kernel
theorem dX12_laysLines_74 : decode cX12_laysLines 74 = .ok (.aload_n 0, 1) := by decide +kernel
theorem dX12_laysLines_75 : decode cX12_laysLines 75 = .ok (.getfield 102, 3) := by decide +kernel
theorem dX12_laysLines_78 : decode cX12_laysLines 78 = .ok (.bipush 40, 2) := by decide +kernel
theorem dX12_laysLines_80 : decode cX12_laysLines 80 = .ok (.iload_n 1, 1) := by decide +kernel
theorem dX12_laysLines_81 : decode cX12_laysLines 81 = .ok (.imul, 1) := by decide +kernel
theorem dX12_laysLines_82 : decode cX12_laysLines 82 = .ok (.iload_n 3, 1) := by decide +kernel
theorem dX12_laysLines_83 : decode cX12_laysLines 83 = .ok (.iadd, 1) := by decide +kernel
theorem dX12_laysLines_84 : decode cX12_laysLines 84 = .ok (.iaload, 1) := by decide +kernel
theorem dX12_laysLines_85 : decode cX12_laysLines 85 = .ok (.iastore, 1) := by decide +kernel
theorem dX12_laysLines_86 : decode cX12_laysLines 86 = .ok (.iinc 3 1, 3) := by decide +kernel
theorem dX12_laysLines_89 : decode cX12_laysLines 89 = .ok (.goto (-75), 3) := by decide +kernel
theorem dX12_laysLines_92 : decode cX12_laysLines 92 = .ok (.return_, 1) := by decide +kernel
theorem dX12_laysFound_0 : decode cX12_laysFound 0 = .ok (.aload_n 0, 1) := by decide +kernel
theorem dX12_laysFound_1 : decode cX12_laysFound 1 = .ok (.getfield 105, 3) := by decide +kernel
theorem dX12_laysFound_4 : decode cX12_laysFound 4 = .ok (.iload_n 2, 1) := by decide +kernel
theorem dX12_laysFound_5 : decode cX12_laysFound 5 = .ok (.aload_n 0, 1) := by decide +kernel
theorem dX12_laysFound_6 : decode cX12_laysFound 6 = .ok (.getfield 105, 3) := by decide +kernel
theorem dX12_laysFound_9 : decode cX12_laysFound 9 = .ok (.iload_n 1, 1) := by decide +kernel
theorem dX12_laysFound_10 : decode cX12_laysFound 10 = .ok (.iaload, 1) := by decide +kernel
theorem dX12_laysFound_11 : decode cX12_laysFound 11 = .ok (.iastore, 1) := by decide +kernel
theorem dX12_laysFound_12 : decode cX12_laysFound 12 = .ok (.iconst 0, 1) := by decide +kernel
theorem dX12_laysFound_13 : decode cX12_laysFound 13 = .ok (.istore_n 3, 1) := by decide +kernel
theorem dX12_laysFound_14 : decode cX12_laysFound 14 = .ok (.iload_n 3, 1) := by decide +kernel
theorem dX12_laysFound_15 : decode cX12_laysFound 15 = .ok (.bipush 8, 2) := by decide +kernel
theorem dX12_laysFound_17 : decode cX12_laysFound 17 = .ok (.if_icmp .ge 53, 3) := by decide +kernel
theorem dX12_laysFound_20 : decode cX12_laysFound 20 = .ok (.aload_n 0, 1) := by decide +kernel
theorem dX12_laysFound_21 : decode cX12_laysFound 21 = .ok (.getfield 108, 3) := by decide +kernel
theorem dX12_laysFound_24 : decode cX12_laysFound 24 = .ok (.bipush 8, 2) := by decide +kernel
theorem dX12_laysFound_26 : decode cX12_laysFound 26 = .ok (.iload_n 2, 1) := by decide +kernel
theorem dX12_laysFound_27 : decode cX12_laysFound 27 = .ok (.imul, 1) := by decide +kernel
theorem dX12_laysFound_28 : decode cX12_laysFound 28 = .ok (.iload_n 3, 1) := by decide +kernel
theorem dX12_laysFound_29 : decode cX12_laysFound 29 = .ok (.iadd, 1) := by decide +kernel
theorem dX12_laysFound_30 : decode cX12_laysFound 30 = .ok (.aload_n 0, 1) := by decide +kernel
theorem dX12_laysFound_31 : decode cX12_laysFound 31 = .ok (.getfield 108, 3) := by decide +kernel
theorem dX12_laysFound_34 : decode cX12_laysFound 34 = .ok (.bipush 8, 2) := by decide +kernel
theorem dX12_laysFound_36 : decode cX12_laysFound 36 = .ok (.iload_n 1, 1) := by decide +kernel
theorem dX12_laysFound_37 : decode cX12_laysFound 37 = .ok (.imul, 1) := by decide +kernel
theorem dX12_laysFound_38 : decode cX12_laysFound 38 = .ok (.iload_n 3, 1) := by decide +kernel
theorem dX12_laysFound_39 : decode cX12_laysFound 39 = .ok (.iadd, 1) := by decide +kernel
theorem dX12_laysFound_40 : decode cX12_laysFound 40 = .ok (.iaload, 1) := by decide +kernel
theorem dX12_laysFound_41 : decode cX12_laysFound 41 = .ok (.iastore, 1) := by decide +kernel
theorem dX12_laysFound_42 : decode cX12_laysFound 42 = .ok (.aload_n 0, 1) := by decide +kernel
theorem dX12_laysFound_43 : decode cX12_laysFound 43 = .ok (.getfield 111, 3) := by decide +kernel
theorem dX12_laysFound_46 : decode cX12_laysFound 46 = .ok (.bipush 8, 2) := by decide +kernel
theorem dX12_laysFound_48 : decode cX12_laysFound 48 = .ok (.iload_n 2, 1) := by decide +kernel
theorem dX12_laysFound_49 : decode cX12_laysFound 49 = .ok (.imul, 1) := by decide +kernel
theorem dX12_laysFound_50 : decode cX12_laysFound 50 = .ok (.iload_n 3, 1) := by decide +kernel
theorem dX12_laysFound_51 : decode cX12_laysFound 51 = .ok (.iadd, 1) := by decide +kernel
theorem dX12_laysFound_52 : decode cX12_laysFound 52 = .ok (.aload_n 0, 1) := by decide +kernel
theorem dX12_laysFound_53 : decode cX12_laysFound 53 = .ok (.getfield 111, 3) := by decide +kernel
theorem dX12_laysFound_56 : decode cX12_laysFound 56 = .ok (.bipush 8, 2) := by decide +kernel
theorem dX12_laysFound_58 : decode cX12_laysFound 58 = .ok (.iload_n 1, 1) := by decide +kernel
theorem dX12_laysFound_59 : decode cX12_laysFound 59 = .ok (.imul, 1) := by decide +kernel
theorem dX12_laysFound_60 : decode cX12_laysFound 60 = .ok (.iload_n 3, 1) := by decide +kernel
theorem dX12_laysFound_61 : decode cX12_laysFound 61 = .ok (.iadd, 1) := by decide +kernel
theorem dX12_laysFound_62 : decode cX12_laysFound 62 = .ok (.iaload, 1) := by decide +kernel
theorem dX12_laysFound_63 : decode cX12_laysFound 63 = .ok (.iastore, 1) := by decide +kernel
theorem dX12_laysFound_64 : decode cX12_laysFound 64 = .ok (.iinc 3 1, 3) := by decide +kernel
theorem dX12_laysFound_67 : decode cX12_laysFound 67 = .ok (.goto (-53), 3) := by decide +kernel
theorem dX12_laysFound_70 : decode cX12_laysFound 70 = .ok (.return_, 1) := by decide +kernel
theorem dX12_fresh_0 : decode cX12_fresh 0 = .ok (.iconst 0, 1) := by decide +kernel
theorem dX12_fresh_1 : decode cX12_fresh 1 = .ok (.istore_n 1, 1) := by decide +kernel
theorem dX12_fresh_2 : decode cX12_fresh 2 = .ok (.iload_n 1, 1) := by decide +kernel
theorem dX12_fresh_3 : decode cX12_fresh 3 = .ok (.bipush 17, 2) := by decide +kernel
theorem dX12_fresh_5 : decode cX12_fresh 5 = .ok (.if_icmp .ge 16, 3) := by decide +kernel
theorem dX12_fresh_8 : decode cX12_fresh 8 = .ok (.aload_n 0, 1) := by decide +kernel
theorem dX12_fresh_9 : decode cX12_fresh 9 = .ok (.getfield 114, 3) := by decide +kernel
theorem dX12_fresh_12 : decode cX12_fresh 12 = .ok (.iload_n 1, 1) := by decide +kernel
theorem dX12_fresh_13 : decode cX12_fresh 13 = .ok (.iconst 0, 1) := by decide +kernel
theorem dX12_fresh_14 : decode cX12_fresh 14 = .ok (.iastore, 1) := by decide +kernel
theorem dX12_fresh_15 : decode cX12_fresh 15 = .ok (.iinc 1 1, 3) := by decide +kernel
theorem dX12_fresh_18 : decode cX12_fresh 18 = .ok (.goto (-16), 3) := by decide +kernel
theorem dX12_fresh_21 : decode cX12_fresh 21 = .ok (.aload_n 0, 1) := by decide +kernel
theorem dX12_fresh_22 : decode cX12_fresh 22 = .ok (.getfield 114, 3) := by decide +kernel
theorem dX12_fresh_25 : decode cX12_fresh 25 = .ok (.iconst 1, 1) := by decide +kernel
theorem dX12_fresh_26 : decode cX12_fresh 26 = .ok (.aload_n 0, 1) := by decide +kernel
theorem dX12_fresh_27 : decode cX12_fresh 27 = .ok (.getfield 13, 3) := by decide +kernel
theorem dX12_fresh_30 : decode cX12_fresh 30 = .ok (.iconst 3, 1) := by decide +kernel
theorem dX12_fresh_31 : decode cX12_fresh 31 = .ok (.iaload, 1) := by decide +kernel
theorem dX12_fresh_32 : decode cX12_fresh 32 = .ok (.iastore, 1) := by decide +kernel
theorem dX12_fresh_33 : decode cX12_fresh 33 = .ok (.aload_n 0, 1) := by decide +kernel
theorem dX12_fresh_34 : decode cX12_fresh 34 = .ok (.getfield 114, 3) := by decide +kernel
theorem dX12_fresh_37 : decode cX12_fresh 37 = .ok (.iconst 2, 1) := by decide +kernel
theorem dX12_fresh_38 : decode cX12_fresh 38 = .ok (.aload_n 0, 1) := by decide +kernel
theorem dX12_fresh_39 : decode cX12_fresh 39 = .ok (.getfield 13, 3) := by decide +kernel
theorem dX12_fresh_42 : decode cX12_fresh 42 = .ok (.iconst 4, 1) := by decide +kernel
theorem dX12_fresh_43 : decode cX12_fresh 43 = .ok (.iaload, 1) := by decide +kernel
theorem dX12_fresh_44 : decode cX12_fresh 44 = .ok (.iastore, 1) := by decide +kernel
theorem dX12_fresh_45 : decode cX12_fresh 45 = .ok (.aload_n 0, 1) := by decide +kernel
theorem dX12_fresh_46 : decode cX12_fresh 46 = .ok (.getfield 114, 3) := by decide +kernel
theorem dX12_fresh_49 : decode cX12_fresh 49 = .ok (.iconst 3, 1) := by decide +kernel
theorem dX12_fresh_50 : decode cX12_fresh 50 = .ok (.aload_n 0, 1) := by decide +kernel
theorem dX12_fresh_51 : decode cX12_fresh 51 = .ok (.getfield 13, 3) := by decide +kernel
theorem dX12_fresh_54 : decode cX12_fresh 54 = .ok (.iconst 5, 1) := by decide +kernel
theorem dX12_fresh_55 : decode cX12_fresh 55 = .ok (.iaload, 1) := by decide +kernel
theorem dX12_fresh_56 : decode cX12_fresh 56 = .ok (.iastore, 1) := by decide +kernel
theorem dX12_fresh_57 : decode cX12_fresh 57 = .ok (.return_, 1) := by decide +kernel
theorem dX12_station_0 : decode cX12_station 0 = .ok (.aload_n 0, 1) := by decide +kernel
theorem dX12_station_1 : decode cX12_station 1 = .ok (.iconst 0, 1) := by decide +kernel
theorem dX12_station_2 : decode cX12_station 2 = .ok (.putfield 160, 3) := by decide +kernel
theorem dX12_station_5 : decode cX12_station 5 = .ok (.aload_n 0, 1) := by decide +kernel
theorem dX12_station_6 : decode cX12_station 6 = .ok (.invokevirtual 366, 3) := by decide +kernel
theorem dX12_station_9 : decode cX12_station 9 = .ok (.ifCond .ne 8, 3) := by decide +kernel
theorem dX12_station_12 : decode cX12_station 12 = .ok (.aload_n 0, 1) := by decide +kernel
theorem dX12_station_13 : decode cX12_station 13 = .ok (.getfield 196, 3) := by decide +kernel
theorem dX12_station_16 : decode cX12_station 16 = .ok (.ireturn, 1) := by decide +kernel
theorem dX12_station_17 : decode cX12_station 17 = .ok (.aload_n 0, 1) := by decide +kernel
theorem dX12_station_18 : decode cX12_station 18 = .ok (.invokevirtual 369, 3) := by decide +kernel
theorem dX12_station_21 : decode cX12_station 21 = .ok (.aload_n 0, 1) := by decide +kernel
theorem dX12_station_22 : decode cX12_station 22 = .ok (.invokevirtual 157, 3) := by decide +kernel
theorem dX12_station_25 : decode cX12_station 25 = .ok (.aload_n 0, 1) := by decide +kernel
theorem dX12_station_26 : decode cX12_station 26 = .ok (.getfield 93, 3) := by decide +kernel
theorem dX12_station_29 : decode cX12_station 29 = .ok (.iconst 0, 1) := by decide +kernel
theorem dX12_station_30 : decode cX12_station 30 = .ok (.iconst 0, 1) := by decide +kernel
theorem dX12_station_31 : decode cX12_station 31 = .ok (.iastore, 1) := by decide +kernel
theorem dX12_station_32 : decode cX12_station 32 = .ok (.aload_n 0, 1) := by decide +kernel
theorem dX12_station_33 : decode cX12_station 33 = .ok (.getfield 105, 3) := by decide +kernel
theorem dX12_station_36 : decode cX12_station 36 = .ok (.iconst 0, 1) := by decide +kernel
theorem dX12_station_37 : decode cX12_station 37 = .ok (.iconst 0, 1) := by decide +kernel
theorem dX12_station_38 : decode cX12_station 38 = .ok (.iastore, 1) := by decide +kernel
theorem dX12_station_39 : decode cX12_station 39 = .ok (.aload_n 0, 1) := by decide +kernel
theorem dX12_station_40 : decode cX12_station 40 = .ok (.iconst 0, 1) := by decide +kernel
theorem dX12_station_41 : decode cX12_station 41 = .ok (.putfield 372, 3) := by decide +kernel
theorem dX12_station_44 : decode cX12_station 44 = .ok (.iconst 0, 1) := by decide +kernel
theorem dX12_station_45 : decode cX12_station 45 = .ok (.istore_n 1, 1) := by decide +kernel
theorem dX12_station_46 : decode cX12_station 46 = .ok (.iload_n 1, 1) := by decide +kernel
theorem dX12_station_47 : decode cX12_station 47 = .ok (.iconst 4, 1) := by decide +kernel
theorem dX12_station_48 : decode cX12_station 48 = .ok (.if_icmp .ge 16, 3) := by decide +kernel
theorem dX12_station_51 : decode cX12_station 51 = .ok (.aload_n 0, 1) := by decide +kernel
theorem dX12_station_52 : decode cX12_station 52 = .ok (.getfield 129, 3) := by decide +kernel
theorem dX12_station_55 : decode cX12_station 55 = .ok (.iload_n 1, 1) := by decide +kernel
theorem dX12_station_56 : decode cX12_station 56 = .ok (.iconst 0, 1) := by decide +kernel
theorem dX12_station_57 : decode cX12_station 57 = .ok (.bastore, 1) := by decide +kernel
theorem dX12_station_58 : decode cX12_station 58 = .ok (.iinc 1 1, 3) := by decide +kernel
theorem dX12_station_61 : decode cX12_station 61 = .ok (.goto (-15), 3) := by decide +kernel
theorem dX12_station_64 : decode cX12_station 64 = .ok (.iconst 0, 1) := by decide +kernel
theorem dX12_station_65 : decode cX12_station 65 = .ok (.ireturn, 1) := by decide +kernel
theorem dX12_week_0 : decode cX12_week 0 = .ok (.aload_n 0, 1) := by decide +kernel
theorem dX12_week_1 : decode cX12_week 1 = .ok (.iconst 0, 1) := by decide +kernel
theorem dX12_week_2 : decode cX12_week 2 = .ok (.putfield 160, 3) := by decide +kernel
theorem dX12_week_5 : decode cX12_week 5 = .ok (.aload_n 0, 1) := by decide +kernel
theorem dX12_week_6 : decode cX12_week 6 = .ok (.getfield 93, 3) := by decide +kernel
theorem dX12_week_9 : decode cX12_week 9 = .ok (.iconst 5, 1) := by decide +kernel
theorem dX12_week_10 : decode cX12_week 10 = .ok (.iconst 0, 1) := by decide +kernel
theorem dX12_week_11 : decode cX12_week 11 = .ok (.iastore, 1) := by decide +kernel
theorem dX12_week_12 : decode cX12_week 12 = .ok (.aload_n 0, 1) := by decide +kernel
theorem dX12_week_13 : decode cX12_week 13 = .ok (.iconst 0, 1) := by decide +kernel
theorem dX12_week_14 : decode cX12_week 14 = .ok (.putfield 297, 3) := by decide +kernel
theorem dX12_week_17 : decode cX12_week 17 = .ok (.aload_n 0, 1) := by decide +kernel
theorem dX12_week_18 : decode cX12_week 18 = .ok (.invokevirtual 344, 3) := by decide +kernel
theorem dX12_week_21 : decode cX12_week 21 = .ok (.aload_n 0, 1) := by decide +kernel
theorem dX12_week_22 : decode cX12_week 22 = .ok (.getfield 185, 3) := by decide +kernel
theorem dX12_week_25 : decode cX12_week 25 = .ok (.ifCond .eq 15, 3) := by decide +kernel
theorem dX12_week_28 : decode cX12_week 28 = .ok (.aload_n 0, 1) := by decide +kernel
theorem dX12_week_29 : decode cX12_week 29 = .ok (.invokevirtual 375, 3) := by decide +kernel
theorem dX12_week_32 : decode cX12_week 32 = .ok (.ifCond .ne (-11), 3) := by decide +kernel
theorem dX12_week_35 : decode cX12_week 35 = .ok (.aload_n 0, 1) := by decide +kernel
theorem dX12_week_36 : decode cX12_week 36 = .ok (.getfield 196, 3) := by decide +kernel
theorem dX12_week_39 : decode cX12_week 39 = .ok (.ireturn, 1) := by decide +kernel
theorem dX12_week_40 : decode cX12_week 40 = .ok (.aload_n 0, 1) := by decide +kernel
theorem dX12_week_41 : decode cX12_week 41 = .ok (.iconst 5, 1) := by decide +kernel
theorem dX12_week_42 : decode cX12_week 42 = .ok (.iconst 0, 1) := by decide +kernel
theorem dX12_week_43 : decode cX12_week 43 = .ok (.invokevirtual 378, 3) := by decide +kernel
theorem dX12_week_46 : decode cX12_week 46 = .ok (.iconst 0, 1) := by decide +kernel
theorem dX12_week_47 : decode cX12_week 47 = .ok (.ireturn, 1) := by decide +kernel
theorem dX12_isPasser_0 : decode cX12_isPasser 0 = .ok (.iload_n 1, 1) := by decide +kernel
theorem dX12_isPasser_1 : decode cX12_isPasser 1 = .ok (.ifCond .lt 17, 3) := by decide +kernel
theorem dX12_isPasser_4 : decode cX12_isPasser 4 = .ok (.iload_n 1, 1) := by decide +kernel
theorem dX12_isPasser_5 : decode cX12_isPasser 5 = .ok (.aload_n 0, 1) := by decide +kernel
theorem dX12_isPasser_6 : decode cX12_isPasser 6 = .ok (.getfield 13, 3) := by decide +kernel
theorem dX12_isPasser_9 : decode cX12_isPasser 9 = .ok (.iconst 1, 1) := by decide +kernel
theorem dX12_isPasser_10 : decode cX12_isPasser 10 = .ok (.iaload, 1) := by decide +kernel
theorem dX12_isPasser_11 : decode cX12_isPasser 11 = .ok (.if_icmp .ge 7, 3) := by decide +kernel
theorem dX12_isPasser_14 : decode cX12_isPasser 14 = .ok (.iconst 1, 1) := by decide +kernel
theorem dX12_isPasser_15 : decode cX12_isPasser 15 = .ok (.goto 4, 3) := by decide +kernel
theorem dX12_isPasser_18 : decode cX12_isPasser 18 = .ok (.iconst 0, 1) := by decide +kernel
theorem dX12_isPasser_19 : decode cX12_isPasser 19 = .ok (.ireturn, 1) := by decide +kernel
theorem dX12_isKey_0 : decode cX12_isKey 0 = .ok (.iload_n 1, 1) := by decide +kernel
theorem dX12_isKey_1 : decode cX12_isKey 1 = .ok (.ifCond .lt 13, 3) := by decide +kernel
theorem dX12_isKey_4 : decode cX12_isKey 4 = .ok (.iload_n 1, 1) := by decide +kernel
theorem dX12_isKey_5 : decode cX12_isKey 5 = .ok (.bipush 12, 2) := by decide +kernel
theorem dX12_isKey_7 : decode cX12_isKey 7 = .ok (.if_icmp .ge 7, 3) := by decide +kernel
theorem dX12_isKey_10 : decode cX12_isKey 10 = .ok (.iconst 1, 1) := by decide +kernel
theorem dX12_isKey_11 : decode cX12_isKey 11 = .ok (.goto 4, 3) := by decide +kernel
theorem dX12_isKey_14 : decode cX12_isKey 14 = .ok (.iconst 0, 1) := by decide +kernel
theorem dX12_isKey_15 : decode cX12_isKey 15 = .ok (.ireturn, 1) := by decide +kernel
theorem dX12_rowOf_0 : decode cX12_rowOf 0 = .ok (.aload_n 0, 1) := by decide +kernel
theorem dX12_rowOf_1 : decode cX12_rowOf 1 = .ok (.getfield 26, 3) := by decide +kernel
theorem dX12_rowOf_4 : decode cX12_rowOf 4 = .ok (.aload_n 0, 1) := by decide +kernel
theorem dX12_rowOf_5 : decode cX12_rowOf 5 = .ok (.getfield 32, 3) := by decide +kernel
theorem dX12_rowOf_8 : decode cX12_rowOf 8 = .ok (.iload_n 1, 1) := by decide +kernel
theorem dX12_rowOf_9 : decode cX12_rowOf 9 = .ok (.iaload, 1) := by decide +kernel
theorem dX12_rowOf_10 : decode cX12_rowOf 10 = .ok (.iaload, 1) := by decide +kernel
theorem dX12_rowOf_11 : decode cX12_rowOf 11 = .ok (.istore_n 2, 1) := by decide +kernel
theorem dX12_rowOf_12 : decode cX12_rowOf 12 = .ok (.aload_n 0, 1) := by decide +kernel
theorem dX12_rowOf_13 : decode cX12_rowOf 13 = .ok (.getfield 29, 3) := by decide +kernel
theorem dX12_rowOf_16 : decode cX12_rowOf 16 = .ok (.iload_n 1, 1) := by decide +kernel
theorem dX12_rowOf_17 : decode cX12_rowOf 17 = .ok (.iaload, 1) := by decide +kernel
theorem dX12_rowOf_18 : decode cX12_rowOf 18 = .ok (.iconst 1, 1) := by decide +kernel
theorem dX12_rowOf_19 : decode cX12_rowOf 19 = .ok (.if_icmp .ne 11, 3) := by decide +kernel
theorem dX12_rowOf_22 : decode cX12_rowOf 22 = .ok (.iconst 3, 1) := by decide +kernel
theorem dX12_rowOf_23 : decode cX12_rowOf 23 = .ok (.iload_n 2, 1) := by decide +kernel
theorem dX12_rowOf_24 : decode cX12_rowOf 24 = .ok (.invokestatic 382, 3) := by decide +kernel
theorem dX12_rowOf_27 : decode cX12_rowOf 27 = .ok (.goto 4, 3) := by decide +kernel
theorem dX12_rowOf_30 : decode cX12_rowOf 30 = .ok (.iload_n 2, 1) := by decide +kernel
theorem dX12_rowOf_31 : decode cX12_rowOf 31 = .ok (.ireturn, 1) := by decide +kernel
theorem dX12_allStrikes_0 : decode cX12_allStrikes 0 = .ok (.aload_n 0, 1) := by decide +kernel
theorem dX12_allStrikes_1 : decode cX12_allStrikes 1 = .ok (.getfield 29, 3) := by decide +kernel
theorem dX12_allStrikes_4 : decode cX12_allStrikes 4 = .ok (.iload_n 1, 1) := by decide +kernel
theorem dX12_allStrikes_5 : decode cX12_allStrikes 5 = .ok (.iaload, 1) := by decide +kernel
theorem dX12_allStrikes_6 : decode cX12_allStrikes 6 = .ok (.iconst 2, 1) := by decide +kernel
theorem dX12_allStrikes_7 : decode cX12_allStrikes 7 = .ok (.if_icmp .ne 13, 3) := by decide +kernel
theorem dX12_allStrikes_10 : decode cX12_allStrikes 10 = .ok (.iconst 2, 1) := by decide +kernel
theorem dX12_allStrikes_11 : decode cX12_allStrikes 11 = .ok (.aload_n 0, 1) := by decide +kernel
theorem dX12_allStrikes_12 : decode cX12_allStrikes 12 = .ok (.iload_n 1, 1) := by decide +kernel
theorem dX12_allStrikes_13 : decode cX12_allStrikes 13 = .ok (.invokevirtual 388, 3) := by decide +kernel
theorem dX12_allStrikes_16 : decode cX12_allStrikes 16 = .ok (.imul, 1) := by decide +kernel
theorem dX12_allStrikes_17 : decode cX12_allStrikes 17 = .ok (.goto 8, 3) := by decide +kernel
theorem dX12_allStrikes_20 : decode cX12_allStrikes 20 = .ok (.aload_n 0, 1) := by decide +kernel
theorem dX12_allStrikes_21 : decode cX12_allStrikes 21 = .ok (.iload_n 1, 1) := by decide +kernel
theorem dX12_allStrikes_22 : decode cX12_allStrikes 22 = .ok (.invokevirtual 388, 3) := by decide +kernel
theorem dX12_allStrikes_25 : decode cX12_allStrikes 25 = .ok (.ireturn, 1) := by decide +kernel
theorem dX12_keyAt_0 : decode cX12_keyAt 0 = .ok (.aload_n 0, 1) := by decide +kernel
theorem dX12_keyAt_1 : decode cX12_keyAt 1 = .ok (.getfield 23, 3) := by decide +kernel
theorem dX12_keyAt_4 : decode cX12_keyAt 4 = .ok (.bipush 9, 2) := by decide +kernel
theorem dX12_keyAt_6 : decode cX12_keyAt 6 = .ok (.aload_n 0, 1) := by decide +kernel
theorem dX12_keyAt_7 : decode cX12_keyAt 7 = .ok (.getfield 32, 3) := by decide +kernel
theorem dX12_keyAt_10 : decode cX12_keyAt 10 = .ok (.iload_n 1, 1) := by decide +kernel
theorem dX12_keyAt_11 : decode cX12_keyAt 11 = .ok (.iaload, 1) := by decide +kernel
theorem dX12_keyAt_12 : decode cX12_keyAt 12 = .ok (.imul, 1) := by decide +kernel
theorem dX12_keyAt_13 : decode cX12_keyAt 13 = .ok (.iload_n 2, 1) := by decide +kernel
theorem dX12_keyAt_14 : decode cX12_keyAt 14 = .ok (.aload_n 0, 1) := by decide +kernel
theorem dX12_keyAt_15 : decode cX12_keyAt 15 = .ok (.iload_n 1, 1) := by decide +kernel
theorem dX12_keyAt_16 : decode cX12_keyAt 16 = .ok (.invokevirtual 388, 3) := by decide +kernel
theorem dX12_keyAt_19 : decode cX12_keyAt 19 = .ok (.irem, 1) := by decide +kernel
theorem dX12_keyAt_20 : decode cX12_keyAt 20 = .ok (.iadd, 1) := by decide +kernel
theorem dX12_keyAt_21 : decode cX12_keyAt 21 = .ok (.iaload, 1) := by decide +kernel
theorem dX12_keyAt_22 : decode cX12_keyAt 22 = .ok (.ireturn, 1) := by decide +kernel
theorem dX12_strikesOf_0 : decode cX12_strikesOf 0 = .ok (.iconst 0, 1) := by decide +kernel
theorem dX12_strikesOf_1 : decode cX12_strikesOf 1 = .ok (.istore_n 3, 1) := by decide +kernel
theorem dX12_strikesOf_2 : decode cX12_strikesOf 2 = .ok (.iconst 0, 1) := by decide +kernel
theorem dX12_strikesOf_3 : decode cX12_strikesOf 3 = .ok (.istore 4, 2) := by decide +kernel
theorem dX12_strikesOf_5 : decode cX12_strikesOf 5 = .ok (.iload 4, 2) := by decide +kernel
theorem dX12_strikesOf_7 : decode cX12_strikesOf 7 = .ok (.aload_n 0, 1) := by decide +kernel
theorem dX12_strikesOf_8 : decode cX12_strikesOf 8 = .ok (.iload_n 1, 1) := by decide +kernel
theorem dX12_strikesOf_9 : decode cX12_strikesOf 9 = .ok (.invokevirtual 391, 3) := by decide +kernel
theorem dX12_strikesOf_12 : decode cX12_strikesOf 12 = .ok (.if_icmp .ge 28, 3) := by decide +kernel
theorem dX12_strikesOf_15 : decode cX12_strikesOf 15 = .ok (.iload_n 3, 1) := by decide +kernel
theorem dX12_strikesOf_16 : decode cX12_strikesOf 16 = .ok (.aload_n 0, 1) := by decide +kernel
theorem dX12_strikesOf_17 : decode cX12_strikesOf 17 = .ok (.iload_n 1, 1) := by decide +kernel
theorem dX12_strikesOf_18 : decode cX12_strikesOf 18 = .ok (.iload 4, 2) := by decide +kernel
theorem dX12_strikesOf_20 : decode cX12_strikesOf 20 = .ok (.invokevirtual 394, 3) := by decide +kernel
theorem dX12_strikesOf_23 : decode cX12_strikesOf 23 = .ok (.iload_n 2, 1) := by decide +kernel
theorem dX12_strikesOf_24 : decode cX12_strikesOf 24 = .ok (.if_icmp .ne 7, 3) := by decide +kernel
theorem dX12_strikesOf_27 : decode cX12_strikesOf 27 = .ok (.iconst 1, 1) := by decide +kernel
theorem dX12_strikesOf_28 : decode cX12_strikesOf 28 = .ok (.goto 4, 3) := by decide +kernel
theorem dX12_strikesOf_31 : decode cX12_strikesOf 31 = .ok (.iconst 0, 1) := by decide +kernel
theorem dX12_strikesOf_32 : decode cX12_strikesOf 32 = .ok (.iadd, 1) := by decide +kernel
theorem dX12_strikesOf_33 : decode cX12_strikesOf 33 = .ok (.istore_n 3, 1) := by decide +kernel
theorem dX12_strikesOf_34 : decode cX12_strikesOf 34 = .ok (.iinc 4 1, 3) := by decide +kernel
theorem dX12_strikesOf_37 : decode cX12_strikesOf 37 = .ok (.goto (-32), 3) := by decide +kernel
theorem dX12_strikesOf_40 : decode cX12_strikesOf 40 = .ok (.iload_n 3, 1) := by decide +kernel
theorem dX12_strikesOf_41 : decode cX12_strikesOf 41 = .ok (.ireturn, 1) := by decide +kernel
theorem dX12_minutesOf_0 : decode cX12_minutesOf 0 = .ok (.aload_n 0, 1) := by decide +kernel
theorem dX12_minutesOf_1 : decode cX12_minutesOf 1 = .ok (.getfield 29, 3) := by decide +kernel
theorem dX12_minutesOf_4 : decode cX12_minutesOf 4 = .ok (.iload_n 1, 1) := by decide +kernel
theorem dX12_minutesOf_5 : decode cX12_minutesOf 5 = .ok (.iaload, 1) := by decide +kernel
theorem dX12_minutesOf_6 : decode cX12_minutesOf 6 = .ok (.iconst 3, 1) := by decide +kernel
theorem dX12_minutesOf_7 : decode cX12_minutesOf 7 = .ok (.if_icmp .ne 12, 3) := by decide +kernel
theorem dX12_minutesOf_10 : decode cX12_minutesOf 10 = .ok (.aload_n 0, 1) := by decide +kernel
theorem dX12_minutesOf_11 : decode cX12_minutesOf 11 = .ok (.getfield 41, 3) := by decide +kernel
theorem dX12_minutesOf_14 : decode cX12_minutesOf 14 = .ok (.iload_n 1, 1) := by decide +kernel
theorem dX12_minutesOf_15 : decode cX12_minutesOf 15 = .ok (.iaload, 1) := by decide +kernel
theorem dX12_minutesOf_16 : decode cX12_minutesOf 16 = .ok (.goto 18, 3) := by decide +kernel
theorem dX12_minutesOf_19 : decode cX12_minutesOf 19 = .ok (.aload_n 0, 1) := by decide +kernel
theorem dX12_minutesOf_20 : decode cX12_minutesOf 20 = .ok (.getfield 41, 3) := by decide +kernel
theorem dX12_minutesOf_23 : decode cX12_minutesOf 23 = .ok (.iload_n 1, 1) := by decide +kernel
theorem dX12_minutesOf_24 : decode cX12_minutesOf 24 = .ok (.iaload, 1) := by decide +kernel
theorem dX12_minutesOf_25 : decode cX12_minutesOf 25 = .ok (.aload_n 0, 1) := by decide +kernel
