theorem dX12_worked_212 : decode cX12_worked 212 = .ok (.bipush 100, 2) := by decide +kernel
theorem dX12_worked_214 : decode cX12_worked 214 = .ok (.if_icmp .lt 11, 3) := by decide +kernel
theorem dX12_worked_217 : decode cX12_worked 217 = .ok (.iload 4, 2) := by decide +kernel
theorem dX12_worked_219 : decode cX12_worked 219 = .ok (.bipush 100, 2) := by decide +kernel
theorem dX12_worked_221 : decode cX12_worked 221 = .ok (.isub, 1) := by decide +kernel
theorem dX12_worked_222 : decode cX12_worked 222 = .ok (.goto 21, 3) := by decide +kernel
theorem dX12_worked_225 : decode cX12_worked 225 = .ok (.iload 4, 2) := by decide +kernel
theorem dX12_worked_227 : decode cX12_worked 227 = .ok (.bipush 20, 2) := by decide +kernel
theorem dX12_worked_229 : decode cX12_worked 229 = .ok (.if_icmp .ge 13, 3) := by decide +kernel
theorem dX12_worked_232 : decode cX12_worked 232 = .ok (.aload_n 0, 1) := by decide +kernel
theorem dX12_worked_233 : decode cX12_worked 233 = .ok (.getfield 90, 3) := by decide +kernel
theorem dX12_worked_236 : decode cX12_worked 236 = .ok (.iload 4, 2) := by decide +kernel
theorem dX12_worked_238 : decode cX12_worked 238 = .ok (.iaload, 1) := by decide +kernel
theorem dX12_worked_239 : decode cX12_worked 239 = .ok (.goto 4, 3) := by decide +kernel
theorem dX12_worked_242 : decode cX12_worked 242 = .ok (.iconst 0, 1) := by decide +kernel
theorem dX12_worked_243 : decode cX12_worked 243 = .ok (.istore 5, 2) := by decide +kernel
theorem dX12_worked_245 : decode cX12_worked 245 = .ok (.iload 4, 2) := by decide +kernel
theorem dX12_worked_247 : decode cX12_worked 247 = .ok (.bipush 29, 2) := by decide +kernel
theorem dX12_worked_249 : decode cX12_worked 249 = .ok (.if_icmp .ne 19, 3) := by decide +kernel
theorem dX12_worked_252 : decode cX12_worked 252 = .ok (.aload_n 0, 1) := by decide +kernel
theorem dX12_worked_253 : decode cX12_worked 253 = .ok (.iload_n 2, 1) := by decide +kernel
theorem dX12_worked_254 : decode cX12_worked 254 = .ok (.invokevirtual 250, 3) := by decide +kernel
theorem dX12_worked_257 : decode cX12_worked 257 = .ok (.aload_n 0, 1) := by decide +kernel
theorem dX12_worked_258 : decode cX12_worked 258 = .ok (.getfield 63, 3) := by decide +kernel
theorem dX12_worked_261 : decode cX12_worked 261 = .ok (.iload_n 2, 1) := by decide +kernel
theorem dX12_worked_262 : decode cX12_worked 262 = .ok (.iaload, 1) := by decide +kernel
theorem dX12_worked_263 : decode cX12_worked 263 = .ok (.istore 5, 2) := by decide +kernel
theorem dX12_worked_265 : decode cX12_worked 265 = .ok (.iinc 2 (-1), 3) := by decide +kernel
theorem dX12_worked_268 : decode cX12_worked 268 = .ok (.iload_n 2, 1) := by decide +kernel
theorem dX12_worked_269 : decode cX12_worked 269 = .ok (.ifCond .le 31, 3) := by decide +kernel
theorem dX12_worked_272 : decode cX12_worked 272 = .ok (.aload_n 0, 1) := by decide +kernel
theorem dX12_worked_273 : decode cX12_worked 273 = .ok (.getfield 87, 3) := by decide +kernel
theorem dX12_worked_276 : decode cX12_worked 276 = .ok (.iload_n 2, 1) := by decide +kernel
theorem dX12_worked_277 : decode cX12_worked 277 = .ok (.iaload, 1) := by decide +kernel
theorem dX12_worked_278 : decode cX12_worked 278 = .ok (.iconst 1, 1) := by decide +kernel
theorem dX12_worked_279 : decode cX12_worked 279 = .ok (.if_icmp .ne 21, 3) := by decide +kernel
theorem dX12_worked_282 : decode cX12_worked 282 = .ok (.iload 5, 2) := by decide +kernel
theorem dX12_worked_284 : decode cX12_worked 284 = .ok (.ifCond .ne 7, 3) := by decide +kernel
theorem dX12_worked_287 : decode cX12_worked 287 = .ok (.iconst 1, 1) := by decide +kernel
theorem dX12_worked_288 : decode cX12_worked 288 = .ok (.goto 4, 3) := by decide +kernel
theorem dX12_worked_291 : decode cX12_worked 291 = .ok (.iconst 0, 1) := by decide +kernel
theorem dX12_worked_292 : decode cX12_worked 292 = .ok (.istore 5, 2) := by decide +kernel
theorem dX12_worked_294 : decode cX12_worked 294 = .ok (.iinc 2 (-1), 3) := by decide +kernel
theorem dX12_worked_297 : decode cX12_worked 297 = .ok (.goto (-29), 3) := by decide +kernel
theorem dX12_worked_300 : decode cX12_worked 300 = .ok (.aload_n 0, 1) := by decide +kernel
theorem dX12_worked_301 : decode cX12_worked 301 = .ok (.getfield 81, 3) := by decide +kernel
theorem dX12_worked_304 : decode cX12_worked 304 = .ok (.iload_n 2, 1) := by decide +kernel
theorem dX12_worked_305 : decode cX12_worked 305 = .ok (.aload_n 0, 1) := by decide +kernel
theorem dX12_worked_306 : decode cX12_worked 306 = .ok (.getfield 84, 3) := by decide +kernel
theorem dX12_worked_309 : decode cX12_worked 309 = .ok (.iload_n 2, 1) := by decide +kernel
theorem dX12_worked_310 : decode cX12_worked 310 = .ok (.iaload, 1) := by decide +kernel
theorem dX12_worked_311 : decode cX12_worked 311 = .ok (.ifCond .ne 8, 3) := by decide +kernel
theorem dX12_worked_314 : decode cX12_worked 314 = .ok (.iload 5, 2) := by decide +kernel
theorem dX12_worked_316 : decode cX12_worked 316 = .ok (.goto 12, 3) := by decide +kernel
theorem dX12_worked_319 : decode cX12_worked 319 = .ok (.aload_n 0, 1) := by decide +kernel
theorem dX12_worked_320 : decode cX12_worked 320 = .ok (.getfield 81, 3) := by decide +kernel
theorem dX12_worked_323 : decode cX12_worked 323 = .ok (.iload_n 2, 1) := by decide +kernel
theorem dX12_worked_324 : decode cX12_worked 324 = .ok (.iaload, 1) := by decide +kernel
theorem dX12_worked_325 : decode cX12_worked 325 = .ok (.iload 5, 2) := by decide +kernel
theorem dX12_worked_327 : decode cX12_worked 327 = .ok (.imul, 1) := by decide +kernel
theorem dX12_worked_328 : decode cX12_worked 328 = .ok (.iastore, 1) := by decide +kernel
theorem dX12_worked_329 : decode cX12_worked 329 = .ok (.iinc 3 1, 3) := by decide +kernel
theorem dX12_worked_332 : decode cX12_worked 332 = .ok (.goto (-318), 3) := by decide +kernel
theorem dX12_worked_335 : decode cX12_worked 335 = .ok (.aload_n 0, 1) := by decide +kernel
theorem dX12_worked_336 : decode cX12_worked 336 = .ok (.iconst 0, 1) := by decide +kernel
theorem dX12_worked_337 : decode cX12_worked 337 = .ok (.invokevirtual 250, 3) := by decide +kernel
theorem dX12_worked_340 : decode cX12_worked 340 = .ok (.aload_n 0, 1) := by decide +kernel
theorem dX12_worked_341 : decode cX12_worked 341 = .ok (.getfield 63, 3) := by decide +kernel
theorem dX12_worked_344 : decode cX12_worked 344 = .ok (.iconst 0, 1) := by decide +kernel
theorem dX12_worked_345 : decode cX12_worked 345 = .ok (.iaload, 1) := by decide +kernel
theorem dX12_worked_346 : decode cX12_worked 346 = .ok (.ireturn, 1) := by decide +kernel
theorem dX12_isKept_0 : decode cX12_isKept 0 = .ok (.aload_n 0, 1) := by decide +kernel
theorem dX12_isKept_1 : decode cX12_isKept 1 = .ok (.getfield 185, 3) := by decide +kernel
theorem dX12_isKept_4 : decode cX12_isKept 4 = .ok (.iconst 1, 1) := by decide +kernel
theorem dX12_isKept_5 : decode cX12_isKept 5 = .ok (.if_icmp .eq 5, 3) := by decide +kernel
theorem dX12_isKept_8 : decode cX12_isKept 8 = .ok (.iconst 1, 1) := by decide +kernel
theorem dX12_isKept_9 : decode cX12_isKept 9 = .ok (.ireturn, 1) := by decide +kernel
theorem dX12_isKept_10 : decode cX12_isKept 10 = .ok (.aload_n 0, 1) := by decide +kernel
theorem dX12_isKept_11 : decode cX12_isKept 11 = .ok (.getfield 178, 3) := by decide +kernel
theorem dX12_isKept_14 : decode cX12_isKept 14 = .ok (.ldc2_w 253, 3) := by decide +kernel
theorem dX12_isKept_17 : decode cX12_isKept 17 = .ok (.lcmp, 1) := by decide +kernel
theorem dX12_isKept_18 : decode cX12_isKept 18 = .ok (.ifCond .eq 245, 3) := by decide +kernel
theorem dX12_isKept_21 : decode cX12_isKept 21 = .ok (.aload_n 0, 1) := by decide +kernel
theorem dX12_isKept_22 : decode cX12_isKept 22 = .ok (.getfield 178, 3) := by decide +kernel
theorem dX12_isKept_25 : decode cX12_isKept 25 = .ok (.ldc2_w 255, 3) := by decide +kernel
theorem dX12_isKept_28 : decode cX12_isKept 28 = .ok (.lcmp, 1) := by decide +kernel
theorem dX12_isKept_29 : decode cX12_isKept 29 = .ok (.ifCond .eq 234, 3) := by decide +kernel
theorem dX12_isKept_32 : decode cX12_isKept 32 = .ok (.aload_n 0, 1) := by decide +kernel
theorem dX12_isKept_33 : decode cX12_isKept 33 = .ok (.getfield 178, 3) := by decide +kernel
theorem dX12_isKept_36 : decode cX12_isKept 36 = .ok (.ldc2_w 257, 3) := by decide +kernel
theorem dX12_isKept_39 : decode cX12_isKept 39 = .ok (.lcmp, 1) := by decide +kernel
theorem dX12_isKept_40 : decode cX12_isKept 40 = .ok (.ifCond .eq 223, 3) := by decide +kernel
theorem dX12_isKept_43 : decode cX12_isKept 43 = .ok (.aload_n 0, 1) := by decide +kernel
theorem dX12_isKept_44 : decode cX12_isKept 44 = .ok (.getfield 178, 3) := by decide +kernel
theorem dX12_isKept_47 : decode cX12_isKept 47 = .ok (.ldc2_w 259, 3) := by decide +kernel
theorem dX12_isKept_50 : decode cX12_isKept 50 = .ok (.lcmp, 1) := by decide +kernel
theorem dX12_isKept_51 : decode cX12_isKept 51 = .ok (.ifCond .eq 212, 3) := by decide +kernel
theorem dX12_isKept_54 : decode cX12_isKept 54 = .ok (.aload_n 0, 1) := by decide +kernel
theorem dX12_isKept_55 : decode cX12_isKept 55 = .ok (.getfield 178, 3) := by decide +kernel
theorem dX12_isKept_58 : decode cX12_isKept 58 = .ok (.ldc2_w 261, 3) := by decide +kernel
theorem dX12_isKept_61 : decode cX12_isKept 61 = .ok (.lcmp, 1) := by decide +kernel
theorem dX12_isKept_62 : decode cX12_isKept 62 = .ok (.ifCond .eq 201, 3) := by decide +kernel
theorem dX12_isKept_65 : decode cX12_isKept 65 = .ok (.aload_n 0, 1) := by decide +kernel
theorem dX12_isKept_66 : decode cX12_isKept 66 = .ok (.getfield 178, 3) := by decide +kernel
theorem dX12_isKept_69 : decode cX12_isKept 69 = .ok (.ldc2_w 263, 3) := by decide +kernel
theorem dX12_isKept_72 : decode cX12_isKept 72 = .ok (.lcmp, 1) := by decide +kernel
theorem dX12_isKept_73 : decode cX12_isKept 73 = .ok (.ifCond .eq 190, 3) := by decide +kernel
theorem dX12_isKept_76 : decode cX12_isKept 76 = .ok (.aload_n 0, 1) := by decide +kernel
theorem dX12_isKept_77 : decode cX12_isKept 77 = .ok (.getfield 178, 3) := by decide +kernel
theorem dX12_isKept_80 : decode cX12_isKept 80 = .ok (.ldc2_w 265, 3) := by decide +kernel
theorem dX12_isKept_83 : decode cX12_isKept 83 = .ok (.lcmp, 1) := by decide +kernel
theorem dX12_isKept_84 : decode cX12_isKept 84 = .ok (.ifCond .eq 179, 3) := by decide +kernel
theorem dX12_isKept_87 : decode cX12_isKept 87 = .ok (.aload_n 0, 1) := by decide +kernel
theorem dX12_isKept_88 : decode cX12_isKept 88 = .ok (.getfield 178, 3) := by decide +kernel
theorem dX12_isKept_91 : decode cX12_isKept 91 = .ok (.ldc2_w 267, 3) := by decide +kernel
theorem dX12_isKept_94 : decode cX12_isKept 94 = .ok (.lcmp, 1) := by decide +kernel
theorem dX12_isKept_95 : decode cX12_isKept 95 = .ok (.ifCond .eq 168, 3) := by decide +kernel
theorem dX12_isKept_98 : decode cX12_isKept 98 = .ok (.aload_n 0, 1) := by decide +kernel
theorem dX12_isKept_99 : decode cX12_isKept 99 = .ok (.getfield 178, 3) := by decide +kernel
theorem dX12_isKept_102 : decode cX12_isKept 102 = .ok (.ldc2_w 269, 3) := by decide +kernel
theorem dX12_isKept_105 : decode cX12_isKept 105 = .ok (.lcmp, 1) := by decide +kernel
theorem dX12_isKept_106 : decode cX12_isKept 106 = .ok (.ifCond .eq 157, 3) := by decide +kernel
theorem dX12_isKept_109 : decode cX12_isKept 109 = .ok (.aload_n 0, 1) := by decide +kernel
theorem dX12_isKept_110 : decode cX12_isKept 110 = .ok (.getfield 178, 3) := by decide +kernel
theorem dX12_isKept_113 : decode cX12_isKept 113 = .ok (.ldc2_w 271, 3) := by decide +kernel
theorem dX12_isKept_116 : decode cX12_isKept 116 = .ok (.lcmp, 1) := by decide +kernel
theorem dX12_isKept_117 : decode cX12_isKept 117 = .ok (.ifCond .eq 146, 3) := by decide +kernel
theorem dX12_isKept_120 : decode cX12_isKept 120 = .ok (.aload_n 0, 1) := by decide +kernel
theorem dX12_isKept_121 : decode cX12_isKept 121 = .ok (.getfield 178, 3) := by decide +kernel
theorem dX12_isKept_124 : decode cX12_isKept 124 = .ok (.ldc2_w 273, 3) := by decide +kernel
theorem dX12_isKept_127 : decode cX12_isKept 127 = .ok (.lcmp, 1) := by decide +kernel
theorem dX12_isKept_128 : decode cX12_isKept 128 = .ok (.ifCond .eq 135, 3) := by decide +kernel
theorem dX12_isKept_131 : decode cX12_isKept 131 = .ok (.aload_n 0, 1) := by decide +kernel
theorem dX12_isKept_132 : decode cX12_isKept 132 = .ok (.getfield 178, 3) := by decide +kernel
theorem dX12_isKept_135 : decode cX12_isKept 135 = .ok (.ldc2_w 275, 3) := by decide +kernel
theorem dX12_isKept_138 : decode cX12_isKept 138 = .ok (.lcmp, 1) := by decide +kernel
theorem dX12_isKept_139 : decode cX12_isKept 139 = .ok (.ifCond .eq 124, 3) := by decide +kernel
theorem dX12_isKept_142 : decode cX12_isKept 142 = .ok (.aload_n 0, 1) := by decide +kernel
theorem dX12_isKept_143 : decode cX12_isKept 143 = .ok (.getfield 178, 3) := by decide +kernel
theorem dX12_isKept_146 : decode cX12_isKept 146 = .ok (.ldc2_w 277, 3) := by decide +kernel
theorem dX12_isKept_149 : decode cX12_isKept 149 = .ok (.lcmp, 1) := by decide +kernel
theorem dX12_isKept_150 : decode cX12_isKept 150 = .ok (.ifCond .eq 113, 3) := by decide +kernel
theorem dX12_isKept_153 : decode cX12_isKept 153 = .ok (.aload_n 0, 1) := by decide +kernel
theorem dX12_isKept_154 : decode cX12_isKept 154 = .ok (.getfield 178, 3) := by decide +kernel
theorem dX12_isKept_157 : decode cX12_isKept 157 = .ok (.ldc2_w 279, 3) := by decide +kernel
theorem dX12_isKept_160 : decode cX12_isKept 160 = .ok (.lcmp, 1) := by decide +kernel
theorem dX12_isKept_161 : decode cX12_isKept 161 = .ok (.ifCond .eq 102, 3) := by decide +kernel
theorem dX12_isKept_164 : decode cX12_isKept 164 = .ok (.aload_n 0, 1) := by decide +kernel
theorem dX12_isKept_165 : decode cX12_isKept 165 = .ok (.getfield 178, 3) := by decide +kernel
theorem dX12_isKept_168 : decode cX12_isKept 168 = .ok (.ldc2_w 281, 3) := by decide +kernel
theorem dX12_isKept_171 : decode cX12_isKept 171 = .ok (.lcmp, 1) := by decide +kernel
theorem dX12_isKept_172 : decode cX12_isKept 172 = .ok (.ifCond .eq 91, 3) := by decide +kernel
theorem dX12_isKept_175 : decode cX12_isKept 175 = .ok (.aload_n 0, 1) := by decide +kernel
theorem dX12_isKept_176 : decode cX12_isKept 176 = .ok (.getfield 178, 3) := by decide +kernel
theorem dX12_isKept_179 : decode cX12_isKept 179 = .ok (.ldc2_w 283, 3) := by decide +kernel
theorem dX12_isKept_182 : decode cX12_isKept 182 = .ok (.lcmp, 1) := by decide +kernel
theorem dX12_isKept_183 : decode cX12_isKept 183 = .ok (.ifCond .eq 80, 3) := by decide +kernel
theorem dX12_isKept_186 : decode cX12_isKept 186 = .ok (.aload_n 0, 1) := by decide +kernel
theorem dX12_isKept_187 : decode cX12_isKept 187 = .ok (.getfield 178, 3) := by decide +kernel
theorem dX12_isKept_190 : decode cX12_isKept 190 = .ok (.ldc2_w 285, 3) := by decide +kernel
theorem dX12_isKept_193 : decode cX12_isKept 193 = .ok (.lcmp, 1) := by decide +kernel
theorem dX12_isKept_194 : decode cX12_isKept 194 = .ok (.ifCond .eq 69, 3) := by decide +kernel
theorem dX12_isKept_197 : decode cX12_isKept 197 = .ok (.aload_n 0, 1) := by decide +kernel
theorem dX12_isKept_198 : decode cX12_isKept 198 = .ok (.getfield 178, 3) := by decide +kernel
theorem dX12_isKept_201 : decode cX12_isKept 201 = .ok (.ldc2_w 287, 3) := by decide +kernel
theorem dX12_isKept_204 : decode cX12_isKept 204 = .ok (.lcmp, 1) := by decide +kernel
theorem dX12_isKept_205 : decode cX12_isKept 205 = .ok (.ifCond .eq 58, 3) := by decide +kernel
theorem dX12_isKept_208 : decode cX12_isKept 208 = .ok (.aload_n 0, 1) := by decide +kernel
theorem dX12_isKept_209 : decode cX12_isKept 209 = .ok (.getfield 178, 3) := by decide +kernel
theorem dX12_isKept_212 : decode cX12_isKept 212 = .ok (.ldc2_w 289, 3) := by decide +kernel
theorem dX12_isKept_215 : decode cX12_isKept 215 = .ok (.lcmp, 1) := by decide +kernel
theorem dX12_isKept_216 : decode cX12_isKept 216 = .ok (.ifCond .eq 47, 3) := by decide +kernel
theorem dX12_isKept_219 : decode cX12_isKept 219 = .ok (.aload_n 0, 1) := by decide +kernel
theorem dX12_isKept_220 : decode cX12_isKept 220 = .ok (.getfield 178, 3) := by decide +kernel
theorem dX12_isKept_223 : decode cX12_isKept 223 = .ok (.ldc2_w 291, 3) := by decide +kernel
theorem dX12_isKept_226 : decode cX12_isKept 226 = .ok (.lcmp, 1) := by decide +kernel
theorem dX12_isKept_227 : decode cX12_isKept 227 = .ok (.ifCond .eq 36, 3) := by decide +kernel
theorem dX12_isKept_230 : decode cX12_isKept 230 = .ok (.aload_n 0, 1) := by decide +kernel
theorem dX12_isKept_231 : decode cX12_isKept 231 = .ok (.getfield 178, 3) := by decide +kernel
theorem dX12_isKept_234 : decode cX12_isKept 234 = .ok (.ldc2_w 221, 3) := by decide +kernel
theorem dX12_isKept_237 : decode cX12_isKept 237 = .ok (.lcmp, 1) := by decide +kernel
theorem dX12_isKept_238 : decode cX12_isKept 238 = .ok (.ifCond .eq 25, 3) := by decide +kernel
theorem dX12_isKept_241 : decode cX12_isKept 241 = .ok (.aload_n 0, 1) := by decide +kernel
theorem dX12_isKept_242 : decode cX12_isKept 242 = .ok (.getfield 178, 3) := by decide +kernel
theorem dX12_isKept_245 : decode cX12_isKept 245 = .ok (.ldc2_w 240, 3) := by decide +kernel
theorem dX12_isKept_248 : decode cX12_isKept 248 = .ok (.lcmp, 1) := by decide +kernel
theorem dX12_isKept_249 : decode cX12_isKept 249 = .ok (.ifCond .eq 14, 3) := by decide +kernel
theorem dX12_isKept_252 : decode cX12_isKept 252 = .ok (.aload_n 0, 1) := by decide +kernel
theorem dX12_isKept_253 : decode cX12_isKept 253 = .ok (.getfield 178, 3) := by decide +kernel
theorem dX12_isKept_256 : decode cX12_isKept 256 = .ok (.ldc2_w 242, 3) := by decide +kernel
theorem dX12_isKept_259 : decode cX12_isKept 259 = .ok (.lcmp, 1) := by decide +kernel
theorem dX12_isKept_260 : decode cX12_isKept 260 = .ok (.ifCond .ne 7, 3) := by decide +kernel
theorem dX12_isKept_263 : decode cX12_isKept 263 = .ok (.iconst 1, 1) := by decide +kernel
theorem dX12_isKept_264 : decode cX12_isKept 264 = .ok (.goto 4, 3) := by decide +kernel
theorem dX12_isKept_267 : decode cX12_isKept 267 = .ok (.iconst 0, 1) := by decide +kernel
theorem dX12_isKept_268 : decode cX12_isKept 268 = .ok (.ireturn, 1) := by decide +kernel
theorem dX12_tuneNamed_0 : decode cX12_tuneNamed 0 = .ok (.iconst 5, 1) := by decide +kernel
theorem dX12_tuneNamed_1 : decode cX12_tuneNamed 1 = .ok (.istore_n 1, 1) := by decide +kernel
theorem dX12_tuneNamed_2 : decode cX12_tuneNamed 2 = .ok (.iload_n 1, 1) := by decide +kernel
theorem dX12_tuneNamed_3 : decode cX12_tuneNamed 3 = .ok (.iconst 5, 1) := by decide +kernel
theorem dX12_tuneNamed_4 : decode cX12_tuneNamed 4 = .ok (.aload_n 0, 1) := by decide +kernel
theorem dX12_tuneNamed_5 : decode cX12_tuneNamed 5 = .ok (.getfield 13, 3) := by decide +kernel
theorem dX12_tuneNamed_8 : decode cX12_tuneNamed 8 = .ok (.bipush 7, 2) := by decide +kernel
theorem dX12_tuneNamed_10 : decode cX12_tuneNamed 10 = .ok (.iaload, 1) := by decide +kernel
theorem dX12_tuneNamed_11 : decode cX12_tuneNamed 11 = .ok (.iadd, 1) := by decide +kernel
theorem dX12_tuneNamed_12 : decode cX12_tuneNamed 12 = .ok (.if_icmp .ge 27, 3) := by decide +kernel
theorem dX12_tuneNamed_15 : decode cX12_tuneNamed 15 = .ok (.aload_n 0, 1) := by decide +kernel
theorem dX12_tuneNamed_16 : decode cX12_tuneNamed 16 = .ok (.getfield 16, 3) := by decide +kernel
theorem dX12_tuneNamed_19 : decode cX12_tuneNamed 19 = .ok (.iload_n 1, 1) := by decide +kernel
theorem dX12_tuneNamed_20 : decode cX12_tuneNamed 20 = .ok (.laload, 1) := by decide +kernel
theorem dX12_tuneNamed_21 : decode cX12_tuneNamed 21 = .ok (.aload_n 0, 1) := by decide +kernel
theorem dX12_tuneNamed_22 : decode cX12_tuneNamed 22 = .ok (.getfield 178, 3) := by decide +kernel
theorem dX12_tuneNamed_25 : decode cX12_tuneNamed 25 = .ok (.lcmp, 1) := by decide +kernel
theorem dX12_tuneNamed_26 : decode cX12_tuneNamed 26 = .ok (.ifCond .ne 7, 3) := by decide +kernel
theorem dX12_tuneNamed_29 : decode cX12_tuneNamed 29 = .ok (.iload_n 1, 1) := by decide +kernel
theorem dX12_tuneNamed_30 : decode cX12_tuneNamed 30 = .ok (.iconst 5, 1) := by decide +kernel
theorem dX12_tuneNamed_31 : decode cX12_tuneNamed 31 = .ok (.isub, 1) := by decide +kernel
theorem dX12_tuneNamed_32 : decode cX12_tuneNamed 32 = .ok (.ireturn, 1) := by decide +kernel
theorem dX12_tuneNamed_33 : decode cX12_tuneNamed 33 = .ok (.iinc 1 1, 3) := by decide +kernel
theorem dX12_tuneNamed_36 : decode cX12_tuneNamed 36 = .ok (.goto (-34), 3) := by decide +kernel
theorem dX12_tuneNamed_39 : decode cX12_tuneNamed 39 = .ok (.iconst (-1), 1) := by decide +kernel
theorem dX12_tuneNamed_40 : decode cX12_tuneNamed 40 = .ok (.ireturn, 1) := by decide +kernel
theorem dX12_passerNamed_0 : decode cX12_passerNamed 0 = .ok (.bipush 7, 2) := by decide +kernel
theorem dX12_passerNamed_2 : decode cX12_passerNamed 2 = .ok (.istore_n 1, 1) := by decide +kernel
theorem dX12_passerNamed_3 : decode cX12_passerNamed 3 = .ok (.iload_n 1, 1) := by decide +kernel
theorem dX12_passerNamed_4 : decode cX12_passerNamed 4 = .ok (.bipush 7, 2) := by decide +kernel
theorem dX12_passerNamed_6 : decode cX12_passerNamed 6 = .ok (.aload_n 0, 1) := by decide +kernel
theorem dX12_passerNamed_7 : decode cX12_passerNamed 7 = .ok (.getfield 13, 3) := by decide +kernel
theorem dX12_passerNamed_10 : decode cX12_passerNamed 10 = .ok (.bipush 8, 2) := by decide +kernel
theorem dX12_passerNamed_12 : decode cX12_passerNamed 12 = .ok (.iaload, 1) := by decide +kernel
theorem dX12_passerNamed_13 : decode cX12_passerNamed 13 = .ok (.iadd, 1) := by decide +kernel
theorem dX12_passerNamed_14 : decode cX12_passerNamed 14 = .ok (.if_icmp .ge 28, 3) := by decide +kernel
theorem dX12_passerNamed_17 : decode cX12_passerNamed 17 = .ok (.aload_n 0, 1) := by decide +kernel
theorem dX12_passerNamed_18 : decode cX12_passerNamed 18 = .ok (.getfield 20, 3) := by decide +kernel
theorem dX12_passerNamed_21 : decode cX12_passerNamed 21 = .ok (.iload_n 1, 1) := by decide +kernel
theorem dX12_passerNamed_22 : decode cX12_passerNamed 22 = .ok (.laload, 1) := by decide +kernel
theorem dX12_passerNamed_23 : decode cX12_passerNamed 23 = .ok (.aload_n 0, 1) := by decide +kernel
theorem dX12_passerNamed_24 : decode cX12_passerNamed 24 = .ok (.getfield 178, 3) := by decide +kernel
theorem dX12_passerNamed_27 : decode cX12_passerNamed 27 = .ok (.lcmp, 1) := by decide +kernel
theorem dX12_passerNamed_28 : decode cX12_passerNamed 28 = .ok (.ifCond .ne 8, 3) := by decide +kernel
theorem dX12_passerNamed_31 : decode cX12_passerNamed 31 = .ok (.iload_n 1, 1) := by decide +kernel
theorem dX12_passerNamed_32 : decode cX12_passerNamed 32 = .ok (.bipush 7, 2) := by decide +kernel
theorem dX12_passerNamed_34 : decode cX12_passerNamed 34 = .ok (.isub, 1) := by decide +kernel
theorem dX12_passerNamed_35 : decode cX12_passerNamed 35 = .ok (.ireturn, 1) := by decide +kernel
theorem dX12_passerNamed_36 : decode cX12_passerNamed 36 = .ok (.iinc 1 1, 3) := by decide +kernel
theorem dX12_passerNamed_39 : decode cX12_passerNamed 39 = .ok (.goto (-36), 3) := by decide +kernel
theorem dX12_passerNamed_42 : decode cX12_passerNamed 42 = .ok (.iconst (-1), 1) := by decide +kernel
theorem dX12_passerNamed_43 : decode cX12_passerNamed 43 = .ok (.ireturn, 1) := by decide +kernel
set_option maxRecDepth 20000 in
theorem ggX12_needsNumber_X12_fails : GoodIn wsX12_needsNumber wsX12_fails := goodIn_r _ [8, 9, 10, 28, 29, 30, 31, 32, 33, 34, 35, 36, 37, 38, 39, 40, 41, 42, 43, 44, 45, 46, 47, 48, 49, 50, 51, 52, 53, 54, 55, 56, 57, 58, 59, 60, 61, 62, 63, 64, 65, 66, 67, 68, 69, 70, 71, 72, 73, 74, 75, 76, 77, 78, 79, 80, 81, 82, 83, 84, 85, 86, 87, 88, 89, 90, 91, 92, 93, 94] (by decide +kernel) (by decide +kernel)
set_option maxRecDepth 20000 in
theorem gX12_needsNumber_X12_fails : GoodIn wsX12_needsNumber (wsV RX12 231 RX12 yX12_fails wsX12_fails) := goodIn_app (goodIn_of _ (by decide +kernel)) ggX12_needsNumber_X12_fails
set_option maxRecDepth 20000 in
theorem ggX12_needsNumber_X12_within : GoodIn wsX12_needsNumber wsX12_within := goodIn_r _ [13] (by decide +kernel) (by decide +kernel)
set_option maxRecDepth 20000 in
theorem gX12_needsNumber_X12_within : GoodIn wsX12_needsNumber (va_wsS RX12 293 yX12_within wsX12_within) := goodIn_app (goodIn_of _ (by decide +kernel)) ggX12_needsNumber_X12_within
set_option maxRecDepth 20000 in
theorem ggX12_needsNumber_X12_nextToken : GoodIn wsX12_needsNumber wsX12_nextToken := goodIn_r _ [17, 18, 19, 20, 9, 21, 2, 1, 22, 23, 24, 25, 26, 7, 27, 28, 29, 30, 31, 32, 33, 34, 35, 36, 37, 38, 39, 40, 41, 42, 43, 44, 45, 46, 47, 48, 49, 50, 51, 52, 53, 54, 55, 56, 57, 58, 59, 60, 61, 62, 63, 64, 65, 66, 67, 68, 69, 70, 71, 72, 73, 74, 75, 76, 77, 78, 79, 80, 81, 82, 83, 84, 85, 86, 87, 88, 89, 90, 91, 92, 93, 94] (by decide +kernel) (by decide +kernel)
set_option maxRecDepth 20000 in
theorem gX12_needsNumber_X12_nextToken : GoodIn wsX12_needsNumber (wsV RX12 237 RX12 yX12_nextToken wsX12_nextToken) := goodIn_app (goodIn_of _ (by decide +kernel)) ggX12_needsNumber_X12_nextToken
theorem dX12_needsNumber_0 : decode cX12_needsNumber 0 = .ok (.aload_n 0, 1) := by decide +kernel
theorem dX12_needsNumber_1 : decode cX12_needsNumber 1 = .ok (.getfield 185, 3) := by decide +kernel
theorem dX12_needsNumber_4 : decode cX12_needsNumber 4 = .ok (.iconst 2, 1) := by decide +kernel
theorem dX12_needsNumber_5 : decode cX12_needsNumber 5 = .ok (.if_icmp .eq 9, 3) := by decide +kernel
theorem dX12_needsNumber_8 : decode cX12_needsNumber 8 = .ok (.aload_n 0, 1) := by decide +kernel
theorem dX12_needsNumber_9 : decode cX12_needsNumber 9 = .ok (.iconst 1, 1) := by decide +kernel
theorem dX12_needsNumber_10 : decode cX12_needsNumber 10 = .ok (.invokevirtual 231, 3) := by decide +kernel
theorem dX12_needsNumber_13 : decode cX12_needsNumber 13 = .ok (.ireturn, 1) := by decide +kernel
theorem dX12_needsNumber_14 : decode cX12_needsNumber 14 = .ok (.aload_n 0, 1) := by decide +kernel
theorem dX12_needsNumber_15 : decode cX12_needsNumber 15 = .ok (.getfield 182, 3) := by decide +kernel
theorem dX12_needsNumber_18 : decode cX12_needsNumber 18 = .ok (.iload_n 1, 1) := by decide +kernel
theorem dX12_needsNumber_19 : decode cX12_needsNumber 19 = .ok (.iload_n 2, 1) := by decide +kernel
theorem dX12_needsNumber_20 : decode cX12_needsNumber 20 = .ok (.invokestatic 293, 3) := by decide +kernel
theorem dX12_needsNumber_23 : decode cX12_needsNumber 23 = .ok (.ifCond .ne 9, 3) := by decide +kernel
theorem dX12_needsNumber_26 : decode cX12_needsNumber 26 = .ok (.aload_n 0, 1) := by decide +kernel
theorem dX12_needsNumber_27 : decode cX12_needsNumber 27 = .ok (.iconst 4, 1) := by decide +kernel
theorem dX12_needsNumber_28 : decode cX12_needsNumber 28 = .ok (.invokevirtual 231, 3) := by decide +kernel
theorem dX12_needsNumber_31 : decode cX12_needsNumber 31 = .ok (.ireturn, 1) := by decide +kernel
theorem dX12_needsNumber_32 : decode cX12_needsNumber 32 = .ok (.aload_n 0, 1) := by decide +kernel
theorem dX12_needsNumber_33 : decode cX12_needsNumber 33 = .ok (.aload_n 0, 1) := by decide +kernel
theorem dX12_needsNumber_34 : decode cX12_needsNumber 34 = .ok (.getfield 182, 3) := by decide +kernel
theorem dX12_needsNumber_37 : decode cX12_needsNumber 37 = .ok (.putfield 297, 3) := by decide +kernel
theorem dX12_needsNumber_40 : decode cX12_needsNumber 40 = .ok (.aload_n 0, 1) := by decide +kernel
theorem dX12_needsNumber_41 : decode cX12_needsNumber 41 = .ok (.invokevirtual 237, 3) := by decide +kernel
theorem dX12_needsNumber_44 : decode cX12_needsNumber 44 = .ok (.iconst 1, 1) := by decide +kernel
theorem dX12_needsNumber_45 : decode cX12_needsNumber 45 = .ok (.ireturn, 1) := by decide +kernel
set_option maxRecDepth 20000 in
theorem ggX12_needsWord_X12_isWord : GoodIn wsX12_needsWord wsX12_isWord := goodIn_r _ [5, 6, 7, 28, 29, 30, 31, 32, 33, 34, 35, 36, 37, 38, 39, 40, 41, 42, 43, 44, 45, 46, 47, 48, 49, 50, 51, 52, 53, 54, 55, 56, 57, 58, 59, 60, 61, 62, 63, 64, 65, 66, 67, 68, 69, 70, 71, 72, 73, 74, 75, 76, 77, 78, 79, 80, 81, 82, 83, 84, 85, 86, 87, 88, 89, 90, 91, 92, 93, 94] (by decide +kernel) (by decide +kernel)
set_option maxRecDepth 20000 in
theorem gX12_needsWord_X12_isWord : GoodIn wsX12_needsWord (wsV RX12 223 RX12 yX12_isWord wsX12_isWord) := goodIn_app (goodIn_of _ (by decide +kernel)) ggX12_needsWord_X12_isWord
set_option maxRecDepth 20000 in
theorem ggX12_needsWord_X12_fails : GoodIn wsX12_needsWord wsX12_fails := goodIn_r _ [11, 12, 13, 28, 29, 30, 31, 32, 33, 34, 35, 36, 37, 38, 39, 40, 41, 42, 43, 44, 45, 46, 47, 48, 49, 50, 51, 52, 53, 54, 55, 56, 57, 58, 59, 60, 61, 62, 63, 64, 65, 66, 67, 68, 69, 70, 71, 72, 73, 74, 75, 76, 77, 78, 79, 80, 81, 82, 83, 84, 85, 86, 87, 88, 89, 90, 91, 92, 93, 94] (by decide +kernel) (by decide +kernel)
set_option maxRecDepth 20000 in
theorem gX12_needsWord_X12_fails : GoodIn wsX12_needsWord (wsV RX12 231 RX12 yX12_fails wsX12_fails) := goodIn_app (goodIn_of _ (by decide +kernel)) ggX12_needsWord_X12_fails
set_option maxRecDepth 20000 in
theorem ggX12_needsWord_X12_nextToken : GoodIn wsX12_needsWord wsX12_nextToken := goodIn_r _ [17, 18, 19, 20, 12, 7, 21, 6, 22, 23, 24, 25, 26, 4, 27, 28, 29, 30, 31, 32, 33, 34, 35, 36, 37, 38, 39, 40, 41, 42, 43, 44, 45, 46, 47, 48, 49, 50, 51, 52, 53, 54, 55, 56, 57, 58, 59, 60, 61, 62, 63, 64, 65, 66, 67, 68, 69, 70, 71, 72, 73, 74, 75, 76, 77, 78, 79, 80, 81, 82, 83, 84, 85, 86, 87, 88, 89, 90, 91, 92, 93, 94] (by decide +kernel) (by decide +kernel)
set_option maxRecDepth 20000 in
theorem gX12_needsWord_X12_nextToken : GoodIn wsX12_needsWord (wsV RX12 237 RX12 yX12_nextToken wsX12_nextToken) := goodIn_app (goodIn_of _ (by decide +kernel)) ggX12_needsWord_X12_nextToken
theorem dX12_needsWord_0 : decode cX12_needsWord 0 = .ok (.aload_n 0, 1) := by decide +kernel
theorem dX12_needsWord_1 : decode cX12_needsWord 1 = .ok (.lload_n 1, 1) := by decide +kernel
theorem dX12_needsWord_2 : decode cX12_needsWord 2 = .ok (.invokevirtual 223, 3) := by decide +kernel
theorem dX12_needsWord_5 : decode cX12_needsWord 5 = .ok (.ifCond .ne 9, 3) := by decide +kernel
theorem dX12_needsWord_8 : decode cX12_needsWord 8 = .ok (.aload_n 0, 1) := by decide +kernel
theorem dX12_needsWord_9 : decode cX12_needsWord 9 = .ok (.iconst 1, 1) := by decide +kernel
theorem dX12_needsWord_10 : decode cX12_needsWord 10 = .ok (.invokevirtual 231, 3) := by decide +kernel
theorem dX12_needsWord_13 : decode cX12_needsWord 13 = .ok (.ireturn, 1) := by decide +kernel
theorem dX12_needsWord_14 : decode cX12_needsWord 14 = .ok (.aload_n 0, 1) := by decide +kernel
theorem dX12_needsWord_15 : decode cX12_needsWord 15 = .ok (.invokevirtual 237, 3) := by decide +kernel
theorem dX12_needsWord_18 : decode cX12_needsWord 18 = .ok (.iconst 1, 1) := by decide +kernel
theorem dX12_needsWord_19 : decode cX12_needsWord 19 = .ok (.ireturn, 1) := by decide +kernel
set_option maxRecDepth 20000 in
theorem ggX12_needsBoth_X12_needsWord : GoodIn wsX12_needsBoth wsX12_needsWord := goodIn_r _ [5, 6, 7, 8, 4, 9, 10, 11, 12, 13, 14, 15, 16, 17, 18, 19, 20, 21, 22, 23, 24, 25, 26, 27, 28, 29, 30, 31, 40, 41, 42, 43, 44, 45, 46, 47, 48, 49, 50, 51, 52, 53, 54, 55, 56, 57, 58, 59, 60, 61, 62, 63, 64, 65, 66, 67, 68, 69, 70, 71, 72, 73, 74, 75, 76, 77, 78, 79, 80, 81, 82, 83, 84, 85, 86, 87, 88, 89, 90, 91, 92, 93, 94, 95, 96, 97, 98, 99, 100, 101, 102, 103, 104, 105, 106] (by decide +kernel) (by decide +kernel)
set_option maxRecDepth 20000 in
theorem gX12_needsBoth_X12_needsWord : GoodIn wsX12_needsBoth (wsV RX12 300 RX12 yX12_needsWord wsX12_needsWord) := goodIn_app (goodIn_of _ (by decide +kernel)) ggX12_needsBoth_X12_needsWord
set_option maxRecDepth 20000 in
theorem ggX12_needsBoth_X12_needsNumber : GoodIn wsX12_needsBoth wsX12_needsNumber := goodIn_r _ [35, 10, 25, 36, 12, 13, 14, 4, 15, 16, 17, 37, 38, 39, 18, 19, 20, 21, 22, 23, 24, 11, 26, 27, 28, 29, 30, 31, 40, 41, 42, 43, 44, 45, 46, 47, 48, 49, 50, 51, 52, 53, 54, 55, 56, 57, 58, 59, 60, 61, 62, 63, 64, 65, 66, 67, 68, 69, 70, 71, 72, 73, 74, 75, 76, 77, 78, 79, 80, 81, 82, 83, 84, 85, 86, 87, 88, 89, 90, 91, 92, 93, 94, 95, 96, 97, 98, 99, 100, 101, 102, 103, 104, 105, 106] (by decide +kernel) (by decide +kernel)
set_option maxRecDepth 20000 in
theorem gX12_needsBoth_X12_needsNumber : GoodIn wsX12_needsBoth (wsV RX12 303 RX12 yX12_needsNumber wsX12_needsNumber) := goodIn_app (goodIn_of _ (by decide +kernel)) ggX12_needsBoth_X12_needsNumber
theorem dX12_needsBoth_0 : decode cX12_needsBoth 0 = .ok (.aload_n 0, 1) := by decide +kernel
theorem dX12_needsBoth_1 : decode cX12_needsBoth 1 = .ok (.lload_n 1, 1) := by decide +kernel
theorem dX12_needsBoth_2 : decode cX12_needsBoth 2 = .ok (.invokevirtual 300, 3) := by decide +kernel
theorem dX12_needsBoth_5 : decode cX12_needsBoth 5 = .ok (.ifCond .eq 17, 3) := by decide +kernel
theorem dX12_needsBoth_8 : decode cX12_needsBoth 8 = .ok (.aload_n 0, 1) := by decide +kernel
theorem dX12_needsBoth_9 : decode cX12_needsBoth 9 = .ok (.iload_n 3, 1) := by decide +kernel
theorem dX12_needsBoth_10 : decode cX12_needsBoth 10 = .ok (.iload 4, 2) := by decide +kernel
theorem dX12_needsBoth_12 : decode cX12_needsBoth 12 = .ok (.invokevirtual 303, 3) := by decide +kernel
theorem dX12_needsBoth_15 : decode cX12_needsBoth 15 = .ok (.ifCond .eq 7, 3) := by decide +kernel
theorem dX12_needsBoth_18 : decode cX12_needsBoth 18 = .ok (.iconst 1, 1) := by decide +kernel
theorem dX12_needsBoth_19 : decode cX12_needsBoth 19 = .ok (.goto 4, 3) := by decide +kernel
theorem dX12_needsBoth_22 : decode cX12_needsBoth 22 = .ok (.iconst 0, 1) := by decide +kernel
theorem dX12_needsBoth_23 : decode cX12_needsBoth 23 = .ok (.ireturn, 1) := by decide +kernel
set_option maxRecDepth 20000 in
theorem ggX12_closes_X12_isSign : GoodIn wsX12_closes wsX12_isSign := goodIn_r _ [5, 6, 7, 8, 28, 29, 30, 31, 32, 33, 34, 35, 36, 37, 38, 39, 40, 41, 42, 43, 44, 45, 46, 47, 48, 49, 50, 51, 52, 53, 54, 55, 56, 57, 58, 59, 60, 61, 62, 63, 64, 65, 66, 67, 68, 69, 70, 71, 72, 73, 74, 75, 76, 77, 78, 79, 80, 81, 82, 83, 84, 85, 86, 87, 88, 89, 90, 91, 92, 93, 94] (by decide +kernel) (by decide +kernel)
set_option maxRecDepth 20000 in
theorem gX12_closes_X12_isSign : GoodIn wsX12_closes (wsV RX12 227 RX12 yX12_isSign wsX12_isSign) := goodIn_app (goodIn_of _ (by decide +kernel)) ggX12_closes_X12_isSign
set_option maxRecDepth 20000 in
theorem ggX12_closes_X12_fails : GoodIn wsX12_closes wsX12_fails := goodIn_r _ [12, 8, 13, 28, 29, 30, 31, 32, 33, 34, 35, 36, 37, 38, 39, 40, 41, 42, 43, 44, 45, 46, 47, 48, 49, 50, 51, 52, 53, 54, 55, 56, 57, 58, 59, 60, 61, 62, 63, 64, 65, 66, 67, 68, 69, 70, 71, 72, 73, 74, 75, 76, 77, 78, 79, 80, 81, 82, 83, 84, 85, 86, 87, 88, 89, 90, 91, 92, 93, 94] (by decide +kernel) (by decide +kernel)
set_option maxRecDepth 20000 in
theorem gX12_closes_X12_fails : GoodIn wsX12_closes (wsV RX12 231 RX12 yX12_fails wsX12_fails) := goodIn_app (goodIn_of _ (by decide +kernel)) ggX12_closes_X12_fails
set_option maxRecDepth 20000 in
theorem ggX12_closes_X12_nextToken : GoodIn wsX12_closes wsX12_nextToken := goodIn_r _ [17, 18, 19, 7, 8, 20, 21, 6, 22, 23, 24, 25, 26, 4, 27, 28, 29, 30, 31, 32, 33, 34, 35, 36, 37, 38, 39, 40, 41, 42, 43, 44, 45, 46, 47, 48, 49, 50, 51, 52, 53, 54, 55, 56, 57, 58, 59, 60, 61, 62, 63, 64, 65, 66, 67, 68, 69, 70, 71, 72, 73, 74, 75, 76, 77, 78, 79, 80, 81, 82, 83, 84, 85, 86, 87, 88, 89, 90, 91, 92, 93, 94] (by decide +kernel) (by decide +kernel)
set_option maxRecDepth 20000 in
theorem gX12_closes_X12_nextToken : GoodIn wsX12_closes (wsV RX12 237 RX12 yX12_nextToken wsX12_nextToken) := goodIn_app (goodIn_of _ (by decide +kernel)) ggX12_closes_X12_nextToken
theorem dX12_closes_0 : decode cX12_closes 0 = .ok (.aload_n 0, 1) := by decide +kernel
theorem dX12_closes_1 : decode cX12_closes 1 = .ok (.bipush 59, 2) := by decide +kernel
theorem dX12_closes_3 : decode cX12_closes 3 = .ok (.invokevirtual 227, 3) := by decide +kernel
theorem dX12_closes_6 : decode cX12_closes 6 = .ok (.ifCond .ne 9, 3) := by decide +kernel
theorem dX12_closes_9 : decode cX12_closes 9 = .ok (.aload_n 0, 1) := by decide +kernel
theorem dX12_closes_10 : decode cX12_closes 10 = .ok (.iconst 1, 1) := by decide +kernel
theorem dX12_closes_11 : decode cX12_closes 11 = .ok (.invokevirtual 231, 3) := by decide +kernel
theorem dX12_closes_14 : decode cX12_closes 14 = .ok (.ireturn, 1) := by decide +kernel
theorem dX12_closes_15 : decode cX12_closes 15 = .ok (.aload_n 0, 1) := by decide +kernel
theorem dX12_closes_16 : decode cX12_closes 16 = .ok (.invokevirtual 237, 3) := by decide +kernel
theorem dX12_closes_19 : decode cX12_closes 19 = .ok (.iconst 1, 1) := by decide +kernel
theorem dX12_closes_20 : decode cX12_closes 20 = .ok (.ireturn, 1) := by decide +kernel
set_option maxRecDepth 20000 in
theorem ggX12_needsNew_X12_isKept : GoodIn wsX12_needsNew wsX12_isKept := goodIn_r _ [7, 8, 1, 9, 10, 11, 12, 13, 14, 15, 16, 17, 18, 19, 20, 21, 22, 23, 24, 25, 26, 27, 28, 29, 30, 31, 63, 64, 65, 66, 67, 68, 69, 70, 71, 72, 73, 74, 75, 76, 77, 78, 79, 80, 81, 82, 83, 84, 85, 86, 87, 88, 89, 90, 91, 92, 93, 94, 95, 96, 97, 98, 99, 100, 101, 102, 103, 104, 105, 106, 107, 108, 109, 110, 111, 112, 113, 114, 115, 116, 117, 118, 119, 120, 121, 122, 123, 124, 125, 126, 127, 128, 129] (by decide +kernel) (by decide +kernel)
set_option maxRecDepth 20000 in
theorem gX12_needsNew_X12_isKept : GoodIn wsX12_needsNew (wsV RX12 307 RX12 yX12_isKept wsX12_isKept) := goodIn_app (goodIn_of _ (by decide +kernel)) ggX12_needsNew_X12_isKept
set_option maxRecDepth 20000 in
theorem ggX12_needsNew_X12_fails : GoodIn wsX12_needsNew wsX12_fails := goodIn_r _ [35, 36, 37, 63, 64, 65, 66, 67, 68, 69, 70, 71, 72, 73, 74, 75, 76, 77, 78, 79, 80, 81, 82, 83, 84, 85, 86, 87, 88, 89, 90, 91, 92, 93, 94, 95, 96, 97, 98, 99, 100, 101, 102, 103, 104, 105, 106, 107, 108, 109, 110, 111, 112, 113, 114, 115, 116, 117, 118, 119, 120, 121, 122, 123, 124, 125, 126, 127, 128, 129] (by decide +kernel) (by decide +kernel)
set_option maxRecDepth 20000 in
theorem gX12_needsNew_X12_fails : GoodIn wsX12_needsNew (wsV RX12 231 RX12 yX12_fails wsX12_fails) := goodIn_app (goodIn_of _ (by decide +kernel)) ggX12_needsNew_X12_fails
set_option maxRecDepth 20000 in
theorem ggX12_needsNew_X12_tuneNamed : GoodIn wsX12_needsNew wsX12_tuneNamed := goodIn_r _ [41, 42, 43, 1, 63, 64, 65, 66, 67, 68, 69, 70, 71, 72, 73, 74, 75, 76, 77, 78, 79, 80, 81, 82, 83, 84, 85, 86, 87, 88, 89, 90, 91, 92, 93, 94, 95, 96, 97, 98, 99, 100, 101, 102, 103, 104, 105, 106, 107, 108, 109, 110, 111, 112, 113, 114, 115, 116, 117, 118, 119, 120, 121, 122, 123, 124, 125, 126, 127, 128, 129] (by decide +kernel) (by decide +kernel)
set_option maxRecDepth 20000 in
theorem gX12_needsNew_X12_tuneNamed : GoodIn wsX12_needsNew (wsV RX12 311 RX12 yX12_tuneNamed wsX12_tuneNamed) := goodIn_app (goodIn_of _ (by decide +kernel)) ggX12_needsNew_X12_tuneNamed
set_option maxRecDepth 20000 in
theorem ggX12_needsNew_X12_passerNamed : GoodIn wsX12_needsNew wsX12_passerNamed := goodIn_r _ [47, 42, 48, 1, 63, 64, 65, 66, 67, 68, 69, 70, 71, 72, 73, 74, 75, 76, 77, 78, 79, 80, 81, 82, 83, 84, 85, 86, 87, 88, 89, 90, 91, 92, 93, 94, 95, 96, 97, 98, 99, 100, 101, 102, 103, 104, 105, 106, 107, 108, 109, 110, 111, 112, 113, 114, 115, 116, 117, 118, 119, 120, 121, 122, 123, 124, 125, 126, 127, 128, 129] (by decide +kernel) (by decide +kernel)
set_option maxRecDepth 20000 in
theorem gX12_needsNew_X12_passerNamed : GoodIn wsX12_needsNew (wsV RX12 314 RX12 yX12_passerNamed wsX12_passerNamed) := goodIn_app (goodIn_of _ (by decide +kernel)) ggX12_needsNew_X12_passerNamed
set_option maxRecDepth 20000 in
theorem ggX12_needsNew_X12_nextToken : GoodIn wsX12_needsNew wsX12_nextToken := goodIn_r _ [52, 53, 54, 55, 36, 1, 56, 8, 57, 58, 59, 60, 61, 6, 62, 63, 64, 65, 66, 67, 68, 69, 70, 71, 72, 73, 74, 75, 76, 77, 78, 79, 80, 81, 82, 83, 84, 85, 86, 87, 88, 89, 90, 91, 92, 93, 94, 95, 96, 97, 98, 99, 100, 101, 102, 103, 104, 105, 106, 107, 108, 109, 110, 111, 112, 113, 114, 115, 116, 117, 118, 119, 120, 121, 122, 123, 124, 125, 126, 127, 128, 129] (by decide +kernel) (by decide +kernel)
set_option maxRecDepth 20000 in
theorem gX12_needsNew_X12_nextToken : GoodIn wsX12_needsNew (wsV RX12 237 RX12 yX12_nextToken wsX12_nextToken) := goodIn_app (goodIn_of _ (by decide +kernel)) ggX12_needsNew_X12_nextToken
theorem dX12_needsNew_0 : decode cX12_needsNew 0 = .ok (.aload_n 0, 1) := by decide +kernel
theorem dX12_needsNew_1 : decode cX12_needsNew 1 = .ok (.invokevirtual 307, 3) := by decide +kernel
theorem dX12_needsNew_4 : decode cX12_needsNew 4 = .ok (.ifCond .eq 9, 3) := by decide +kernel
theorem dX12_needsNew_7 : decode cX12_needsNew 7 = .ok (.aload_n 0, 1) := by decide +kernel
theorem dX12_needsNew_8 : decode cX12_needsNew 8 = .ok (.iconst 1, 1) := by decide +kernel
theorem dX12_needsNew_9 : decode cX12_needsNew 9 = .ok (.invokevirtual 231, 3) := by decide +kernel
theorem dX12_needsNew_12 : decode cX12_needsNew 12 = .ok (.ireturn, 1) := by decide +kernel
theorem dX12_needsNew_13 : decode cX12_needsNew 13 = .ok (.aload_n 0, 1) := by decide +kernel
theorem dX12_needsNew_14 : decode cX12_needsNew 14 = .ok (.invokevirtual 311, 3) := by decide +kernel
theorem dX12_needsNew_17 : decode cX12_needsNew 17 = .ok (.ifCond .ge 10, 3) := by decide +kernel
theorem dX12_needsNew_20 : decode cX12_needsNew 20 = .ok (.aload_n 0, 1) := by decide +kernel
theorem dX12_needsNew_21 : decode cX12_needsNew 21 = .ok (.invokevirtual 314, 3) := by decide +kernel
theorem dX12_needsNew_24 : decode cX12_needsNew 24 = .ok (.ifCond .lt 9, 3) := by decide +kernel
theorem dX12_needsNew_27 : decode cX12_needsNew 27 = .ok (.aload_n 0, 1) := by decide +kernel
theorem dX12_needsNew_28 : decode cX12_needsNew 28 = .ok (.iconst 3, 1) := by decide +kernel
theorem dX12_needsNew_29 : decode cX12_needsNew 29 = .ok (.invokevirtual 231, 3) := by decide +kernel
theorem dX12_needsNew_32 : decode cX12_needsNew 32 = .ok (.ireturn, 1) := by decide +kernel
theorem dX12_needsNew_33 : decode cX12_needsNew 33 = .ok (.aload_n 0, 1) := by decide +kernel
theorem dX12_needsNew_34 : decode cX12_needsNew 34 = .ok (.aload_n 0, 1) := by decide +kernel
theorem dX12_needsNew_35 : decode cX12_needsNew 35 = .ok (.getfield 178, 3) := by decide +kernel
theorem dX12_needsNew_38 : decode cX12_needsNew 38 = .ok (.putfield 317, 3) := by decide +kernel
theorem dX12_needsNew_41 : decode cX12_needsNew 41 = .ok (.aload_n 0, 1) := by decide +kernel
theorem dX12_needsNew_42 : decode cX12_needsNew 42 = .ok (.invokevirtual 237, 3) := by decide +kernel
theorem dX12_needsNew_45 : decode cX12_needsNew 45 = .ok (.iconst 1, 1) := by decide +kernel
theorem dX12_needsNew_46 : decode cX12_needsNew 46 = .ok (.ireturn, 1) := by decide +kernel
set_option maxRecDepth 20000 in
theorem ggX12_readsTune_X12_fails : GoodIn wsX12_readsTune wsX12_fails := goodIn_r _ [12, 13, 14, 77, 78, 79, 80, 81, 82, 83, 84, 85, 86, 87, 88, 89, 90, 91, 92, 93, 94, 95, 96, 97, 98, 99, 100, 101, 102, 103, 104, 105, 106, 107, 108, 109, 110, 111, 112, 113, 114, 115, 116, 117, 118, 119, 120, 121, 122, 123, 124, 125, 126, 127, 128, 129, 130, 131, 132, 133, 134, 135, 136, 137, 138, 139, 140, 141, 142, 143] (by decide +kernel) (by decide +kernel)
set_option maxRecDepth 20000 in
theorem gX12_readsTune_X12_fails : GoodIn wsX12_readsTune (wsV RX12 231 RX12 yX12_fails wsX12_fails) := goodIn_app (goodIn_of _ (by decide +kernel)) ggX12_readsTune_X12_fails
set_option maxRecDepth 20000 in
theorem ggX12_readsTune_X12_nextToken : GoodIn wsX12_readsTune wsX12_nextToken := goodIn_r _ [18, 19, 20, 21, 13, 22, 4, 3, 23, 24, 25, 26, 27, 11, 28, 77, 78, 79, 80, 81, 82, 83, 84, 85, 86, 87, 88, 89, 90, 91, 92, 93, 94, 95, 96, 97, 98, 99, 100, 101, 102, 103, 104, 105, 106, 107, 108, 109, 110, 111, 112, 113, 114, 115, 116, 117, 118, 119, 120, 121, 122, 123, 124, 125, 126, 127, 128, 129, 130, 131, 132, 133, 134, 135, 136, 137, 138, 139, 140, 141, 142, 143] (by decide +kernel) (by decide +kernel)
set_option maxRecDepth 20000 in
theorem gX12_readsTune_X12_nextToken : GoodIn wsX12_readsTune (wsV RX12 237 RX12 yX12_nextToken wsX12_nextToken) := goodIn_app (goodIn_of _ (by decide +kernel)) ggX12_readsTune_X12_nextToken
set_option maxRecDepth 20000 in
theorem ggX12_readsTune_X12_needsNew : GoodIn wsX12_readsTune wsX12_needsNew := goodIn_r _ [32, 22, 7, 33, 34, 35, 11, 36, 3, 37, 38, 39, 40, 41, 42, 43, 44, 45, 46, 47, 48, 49, 50, 51, 52, 53, 54, 55, 56, 57, 58, 59, 8, 9, 10, 12, 13, 14, 60, 61, 62, 63, 1, 6, 64, 65, 66, 67, 68, 15, 16, 17, 18, 19, 20, 21, 4, 23, 24, 25, 26, 27, 28, 77, 78, 79, 80, 81, 82, 83, 84, 85, 86, 87, 88, 89, 90, 91, 92, 93, 94, 95, 96, 97, 98, 99, 100, 101, 102, 103, 104, 105, 106, 107, 108, 109, 110, 111, 112, 113, 114, 115, 116, 117, 118, 119, 120, 121, 122, 123, 124, 125, 126, 127, 128, 129, 130, 131, 132, 133, 134, 135, 136, 137, 138, 139, 140, 141, 142, 143] (by decide +kernel) (by decide +kernel)
set_option maxRecDepth 20000 in
theorem gX12_readsTune_X12_needsNew : GoodIn wsX12_readsTune (wsV RX12 319 RX12 yX12_needsNew wsX12_needsNew) := goodIn_app (goodIn_of _ (by decide +kernel)) ggX12_readsTune_X12_needsNew
set_option maxRecDepth 20000 in
theorem ggX12_readsTune_X12_isSign : GoodIn wsX12_readsTune wsX12_isSign := goodIn_r _ [72, 3, 21, 13, 77, 78, 79, 80, 81, 82, 83, 84, 85, 86, 87, 88, 89, 90, 91, 92, 93, 94, 95, 96, 97, 98, 99, 100, 101, 102, 103, 104, 105, 106, 107, 108, 109, 110, 111, 112, 113, 114, 115, 116, 117, 118, 119, 120, 121, 122, 123, 124, 125, 126, 127, 128, 129, 130, 131, 132, 133, 134, 135, 136, 137, 138, 139, 140, 141, 142, 143] (by decide +kernel) (by decide +kernel)
set_option maxRecDepth 20000 in
theorem gX12_readsTune_X12_isSign : GoodIn wsX12_readsTune (wsV RX12 227 RX12 yX12_isSign wsX12_isSign) := goodIn_app (goodIn_of _ (by decide +kernel)) ggX12_readsTune_X12_isSign
set_option maxRecDepth 20000 in
theorem ggX12_readsTune_X12_closes : GoodIn wsX12_readsTune wsX12_closes := goodIn_r _ [76, 69, 70, 71, 11, 72, 3, 21, 13, 8, 9, 10, 12, 14, 15, 16, 17, 18, 19, 20, 22, 4, 23, 24, 25, 26, 27, 28, 77, 78, 79, 80, 81, 82, 83, 84, 85, 86, 87, 88, 89, 90, 91, 92, 93, 94, 95, 96, 97, 98, 99, 100, 101, 102, 103, 104, 105, 106, 107, 108, 109, 110, 111, 112, 113, 114, 115, 116, 117, 118, 119, 120, 121, 122, 123, 124, 125, 126, 127, 128, 129, 130, 131, 132, 133, 134, 135, 136, 137, 138, 139, 140, 141, 142, 143] (by decide +kernel) (by decide +kernel)
set_option maxRecDepth 20000 in
theorem gX12_readsTune_X12_closes : GoodIn wsX12_readsTune (wsV RX12 322 RX12 yX12_closes wsX12_closes) := goodIn_app (goodIn_of _ (by decide +kernel)) ggX12_readsTune_X12_closes
theorem dX12_readsTune_0 : decode cX12_readsTune 0 = .ok (.iconst 5, 1) := by decide +kernel
theorem dX12_readsTune_1 : decode cX12_readsTune 1 = .ok (.aload_n 0, 1) := by decide +kernel
theorem dX12_readsTune_2 : decode cX12_readsTune 2 = .ok (.getfield 13, 3) := by decide +kernel
theorem dX12_readsTune_5 : decode cX12_readsTune 5 = .ok (.bipush 7, 2) := by decide +kernel
theorem dX12_readsTune_7 : decode cX12_readsTune 7 = .ok (.iaload, 1) := by decide +kernel
theorem dX12_readsTune_8 : decode cX12_readsTune 8 = .ok (.iadd, 1) := by decide +kernel
theorem dX12_readsTune_9 : decode cX12_readsTune 9 = .ok (.istore_n 1, 1) := by decide +kernel
theorem dX12_readsTune_10 : decode cX12_readsTune 10 = .ok (.iload_n 1, 1) := by decide +kernel
theorem dX12_readsTune_11 : decode cX12_readsTune 11 = .ok (.bipush 10, 2) := by decide +kernel
theorem dX12_readsTune_13 : decode cX12_readsTune 13 = .ok (.if_icmp .ne 9, 3) := by decide +kernel
theorem dX12_readsTune_16 : decode cX12_readsTune 16 = .ok (.aload_n 0, 1) := by decide +kernel
theorem dX12_readsTune_17 : decode cX12_readsTune 17 = .ok (.iconst 5, 1) := by decide +kernel
theorem dX12_readsTune_18 : decode cX12_readsTune 18 = .ok (.invokevirtual 231, 3) := by decide +kernel
theorem dX12_readsTune_21 : decode cX12_readsTune 21 = .ok (.ireturn, 1) := by decide +kernel
theorem dX12_readsTune_22 : decode cX12_readsTune 22 = .ok (.aload_n 0, 1) := by decide +kernel
theorem dX12_readsTune_23 : decode cX12_readsTune 23 = .ok (.invokevirtual 237, 3) := by decide +kernel
theorem dX12_readsTune_26 : decode cX12_readsTune 26 = .ok (.aload_n 0, 1) := by decide +kernel
theorem dX12_readsTune_27 : decode cX12_readsTune 27 = .ok (.invokevirtual 319, 3) := by decide +kernel
theorem dX12_readsTune_30 : decode cX12_readsTune 30 = .ok (.ifCond .ne 5, 3) := by decide +kernel
theorem dX12_readsTune_33 : decode cX12_readsTune 33 = .ok (.iconst 0, 1) := by decide +kernel
theorem dX12_readsTune_34 : decode cX12_readsTune 34 = .ok (.ireturn, 1) := by decide +kernel
theorem dX12_readsTune_35 : decode cX12_readsTune 35 = .ok (.aload_n 0, 1) := by decide +kernel
theorem dX12_readsTune_36 : decode cX12_readsTune 36 = .ok (.getfield 26, 3) := by decide +kernel
theorem dX12_readsTune_39 : decode cX12_readsTune 39 = .ok (.iload_n 1, 1) := by decide +kernel
theorem dX12_readsTune_40 : decode cX12_readsTune 40 = .ok (.iconst 0, 1) := by decide +kernel
theorem dX12_readsTune_41 : decode cX12_readsTune 41 = .ok (.iastore, 1) := by decide +kernel
theorem dX12_readsTune_42 : decode cX12_readsTune 42 = .ok (.aload_n 0, 1) := by decide +kernel
theorem dX12_readsTune_43 : decode cX12_readsTune 43 = .ok (.getfield 26, 3) := by decide +kernel
theorem dX12_readsTune_46 : decode cX12_readsTune 46 = .ok (.iload_n 1, 1) := by decide +kernel
theorem dX12_readsTune_47 : decode cX12_readsTune 47 = .ok (.iaload, 1) := by decide +kernel
theorem dX12_readsTune_48 : decode cX12_readsTune 48 = .ok (.ifCond .eq 12, 3) := by decide +kernel
theorem dX12_readsTune_51 : decode cX12_readsTune 51 = .ok (.aload_n 0, 1) := by decide +kernel
theorem dX12_readsTune_52 : decode cX12_readsTune 52 = .ok (.bipush 59, 2) := by decide +kernel
theorem dX12_readsTune_54 : decode cX12_readsTune 54 = .ok (.invokevirtual 227, 3) := by decide +kernel
theorem dX12_readsTune_57 : decode cX12_readsTune 57 = .ok (.ifCond .ne 86, 3) := by decide +kernel
theorem dX12_readsTune_60 : decode cX12_readsTune 60 = .ok (.aload_n 0, 1) := by decide +kernel
theorem dX12_readsTune_61 : decode cX12_readsTune 61 = .ok (.getfield 185, 3) := by decide +kernel
theorem dX12_readsTune_64 : decode cX12_readsTune 64 = .ok (.iconst 2, 1) := by decide +kernel
theorem dX12_readsTune_65 : decode cX12_readsTune 65 = .ok (.if_icmp .eq 9, 3) := by decide +kernel
theorem dX12_readsTune_68 : decode cX12_readsTune 68 = .ok (.aload_n 0, 1) := by decide +kernel
theorem dX12_readsTune_69 : decode cX12_readsTune 69 = .ok (.iconst 1, 1) := by decide +kernel
theorem dX12_readsTune_70 : decode cX12_readsTune 70 = .ok (.invokevirtual 231, 3) := by decide +kernel
theorem dX12_readsTune_73 : decode cX12_readsTune 73 = .ok (.ireturn, 1) := by decide +kernel
theorem dX12_readsTune_74 : decode cX12_readsTune 74 = .ok (.aload_n 0, 1) := by decide +kernel
theorem dX12_readsTune_75 : decode cX12_readsTune 75 = .ok (.getfield 182, 3) := by decide +kernel
theorem dX12_readsTune_78 : decode cX12_readsTune 78 = .ok (.bipush 11, 2) := by decide +kernel
theorem dX12_readsTune_80 : decode cX12_readsTune 80 = .ok (.if_icmp .le 9, 3) := by decide +kernel
theorem dX12_readsTune_83 : decode cX12_readsTune 83 = .ok (.aload_n 0, 1) := by decide +kernel
theorem dX12_readsTune_84 : decode cX12_readsTune 84 = .ok (.iconst 4, 1) := by decide +kernel
theorem dX12_readsTune_85 : decode cX12_readsTune 85 = .ok (.invokevirtual 231, 3) := by decide +kernel
theorem dX12_readsTune_88 : decode cX12_readsTune 88 = .ok (.ireturn, 1) := by decide +kernel
theorem dX12_readsTune_89 : decode cX12_readsTune 89 = .ok (.aload_n 0, 1) := by decide +kernel
theorem dX12_readsTune_90 : decode cX12_readsTune 90 = .ok (.getfield 26, 3) := by decide +kernel
theorem dX12_readsTune_93 : decode cX12_readsTune 93 = .ok (.iload_n 1, 1) := by decide +kernel
theorem dX12_readsTune_94 : decode cX12_readsTune 94 = .ok (.iaload, 1) := by decide +kernel
theorem dX12_readsTune_95 : decode cX12_readsTune 95 = .ok (.bipush 9, 2) := by decide +kernel
theorem dX12_readsTune_97 : decode cX12_readsTune 97 = .ok (.if_icmp .ne 9, 3) := by decide +kernel
theorem dX12_readsTune_100 : decode cX12_readsTune 100 = .ok (.aload_n 0, 1) := by decide +kernel
theorem dX12_readsTune_101 : decode cX12_readsTune 101 = .ok (.iconst 5, 1) := by decide +kernel
theorem dX12_readsTune_102 : decode cX12_readsTune 102 = .ok (.invokevirtual 231, 3) := by decide +kernel
theorem dX12_readsTune_105 : decode cX12_readsTune 105 = .ok (.ireturn, 1) := by decide +kernel
theorem dX12_readsTune_106 : decode cX12_readsTune 106 = .ok (.aload_n 0, 1) := by decide +kernel
theorem dX12_readsTune_107 : decode cX12_readsTune 107 = .ok (.getfield 23, 3) := by decide +kernel
theorem dX12_readsTune_110 : decode cX12_readsTune 110 = .ok (.bipush 9, 2) := by decide +kernel
theorem dX12_readsTune_112 : decode cX12_readsTune 112 = .ok (.iload_n 1, 1) := by decide +kernel
theorem dX12_readsTune_113 : decode cX12_readsTune 113 = .ok (.imul, 1) := by decide +kernel
theorem dX12_readsTune_114 : decode cX12_readsTune 114 = .ok (.aload_n 0, 1) := by decide +kernel
theorem dX12_readsTune_115 : decode cX12_readsTune 115 = .ok (.getfield 26, 3) := by decide +kernel
theorem dX12_readsTune_118 : decode cX12_readsTune 118 = .ok (.iload_n 1, 1) := by decide +kernel
theorem dX12_readsTune_119 : decode cX12_readsTune 119 = .ok (.iaload, 1) := by decide +kernel
theorem dX12_readsTune_120 : decode cX12_readsTune 120 = .ok (.iadd, 1) := by decide +kernel
theorem dX12_readsTune_121 : decode cX12_readsTune 121 = .ok (.aload_n 0, 1) := by decide +kernel
theorem dX12_readsTune_122 : decode cX12_readsTune 122 = .ok (.getfield 182, 3) := by decide +kernel
theorem dX12_readsTune_125 : decode cX12_readsTune 125 = .ok (.iastore, 1) := by decide +kernel
theorem dX12_readsTune_126 : decode cX12_readsTune 126 = .ok (.aload_n 0, 1) := by decide +kernel
theorem dX12_readsTune_127 : decode cX12_readsTune 127 = .ok (.getfield 26, 3) := by decide +kernel
theorem dX12_readsTune_130 : decode cX12_readsTune 130 = .ok (.iload_n 1, 1) := by decide +kernel
theorem dX12_readsTune_131 : decode cX12_readsTune 131 = .ok (.dup2, 1) := by decide +kernel
theorem dX12_readsTune_132 : decode cX12_readsTune 132 = .ok (.iaload, 1) := by decide +kernel
theorem dX12_readsTune_133 : decode cX12_readsTune 133 = .ok (.iconst 1, 1) := by decide +kernel
theorem dX12_readsTune_134 : decode cX12_readsTune 134 = .ok (.iadd, 1) := by decide +kernel
theorem dX12_readsTune_135 : decode cX12_readsTune 135 = .ok (.iastore, 1) := by decide +kernel
theorem dX12_readsTune_136 : decode cX12_readsTune 136 = .ok (.aload_n 0, 1) := by decide +kernel
theorem dX12_readsTune_137 : decode cX12_readsTune 137 = .ok (.invokevirtual 237, 3) := by decide +kernel
theorem dX12_readsTune_140 : decode cX12_readsTune 140 = .ok (.goto (-98), 3) := by decide +kernel
theorem dX12_readsTune_143 : decode cX12_readsTune 143 = .ok (.aload_n 0, 1) := by decide +kernel
theorem dX12_readsTune_144 : decode cX12_readsTune 144 = .ok (.getfield 16, 3) := by decide +kernel
theorem dX12_readsTune_147 : decode cX12_readsTune 147 = .ok (.iload_n 1, 1) := by decide +kernel
theorem dX12_readsTune_148 : decode cX12_readsTune 148 = .ok (.aload_n 0, 1) := by decide +kernel
theorem dX12_readsTune_149 : decode cX12_readsTune 149 = .ok (.getfield 317, 3) := by decide +kernel
theorem dX12_readsTune_152 : decode cX12_readsTune 152 = .ok (.lastore, 1) := by decide +kernel
theorem dX12_readsTune_153 : decode cX12_readsTune 153 = .ok (.aload_n 0, 1) := by decide +kernel
theorem dX12_readsTune_154 : decode cX12_readsTune 154 = .ok (.getfield 13, 3) := by decide +kernel
theorem dX12_readsTune_157 : decode cX12_readsTune 157 = .ok (.bipush 7, 2) := by decide +kernel
theorem dX12_readsTune_159 : decode cX12_readsTune 159 = .ok (.dup2, 1) := by decide +kernel
theorem dX12_readsTune_160 : decode cX12_readsTune 160 = .ok (.iaload, 1) := by decide +kernel
theorem dX12_readsTune_161 : decode cX12_readsTune 161 = .ok (.iconst 1, 1) := by decide +kernel
theorem dX12_readsTune_162 : decode cX12_readsTune 162 = .ok (.iadd, 1) := by decide +kernel
theorem dX12_readsTune_163 : decode cX12_readsTune 163 = .ok (.iastore, 1) := by decide +kernel
theorem dX12_readsTune_164 : decode cX12_readsTune 164 = .ok (.aload_n 0, 1) := by decide +kernel
theorem dX12_readsTune_165 : decode cX12_readsTune 165 = .ok (.invokevirtual 322, 3) := by decide +kernel
theorem dX12_readsTune_168 : decode cX12_readsTune 168 = .ok (.ireturn, 1) := by decide +kernel
set_option maxRecDepth 20000 in
theorem ggX12_readsPasser_X12_fails : GoodIn wsX12_readsPasser wsX12_fails := goodIn_r _ [24, 25, 26, 101, 102, 103, 104, 105, 106, 107, 108, 109, 110, 111, 112, 113, 114, 115, 116, 117, 118, 119, 120, 121, 122, 123, 124, 125, 126, 127, 128, 129, 130, 131, 132, 133, 134, 135, 136, 137, 138, 139, 140, 141, 142, 143, 144, 145, 146, 147, 148, 149, 150, 151, 152, 153, 154, 155, 156, 157, 158, 159, 160, 161, 162, 163, 164, 165, 166, 167] (by decide +kernel) (by decide +kernel)
set_option maxRecDepth 20000 in
theorem gX12_readsPasser_X12_fails : GoodIn wsX12_readsPasser (wsV RX12 231 RX12 yX12_fails wsX12_fails) := goodIn_app (goodIn_of _ (by decide +kernel)) ggX12_readsPasser_X12_fails
set_option maxRecDepth 20000 in
theorem ggX12_readsPasser_X12_nextToken : GoodIn wsX12_readsPasser wsX12_nextToken := goodIn_r _ [30, 31, 32, 33, 25, 34, 35, 36, 37, 38, 39, 40, 41, 23, 42, 101, 102, 103, 104, 105, 106, 107, 108, 109, 110, 111, 112, 113, 114, 115, 116, 117, 118, 119, 120, 121, 122, 123, 124, 125, 126, 127, 128, 129, 130, 131, 132, 133, 134, 135, 136, 137, 138, 139, 140, 141, 142, 143, 144, 145, 146, 147, 148, 149, 150, 151, 152, 153, 154, 155, 156, 157, 158, 159, 160, 161, 162, 163, 164, 165, 166, 167] (by decide +kernel) (by decide +kernel)
set_option maxRecDepth 20000 in
theorem gX12_readsPasser_X12_nextToken : GoodIn wsX12_readsPasser (wsV RX12 237 RX12 yX12_nextToken wsX12_nextToken) := goodIn_app (goodIn_of _ (by decide +kernel)) ggX12_readsPasser_X12_nextToken
set_option maxRecDepth 20000 in
theorem ggX12_readsPasser_X12_needsNew : GoodIn wsX12_readsPasser wsX12_needsNew := goodIn_r _ [46, 34, 2, 47, 48, 49, 23, 50, 36, 51, 52, 8, 10, 13, 15, 17, 53, 54, 55, 56, 57, 58, 59, 60, 61, 4, 5, 6, 7, 62, 63, 64, 20, 21, 22, 24, 25, 26, 65, 66, 67, 68, 1, 69, 70, 71, 72, 73, 19, 27, 28, 29, 30, 31, 32, 33, 35, 37, 38, 39, 40, 41, 42, 101, 102, 103, 104, 105, 106, 107, 108, 109, 110, 111, 112, 113, 114, 115, 116, 117, 118, 119, 120, 121, 122, 123, 124, 125, 126, 127, 128, 129, 130, 131, 132, 133, 134, 135, 136, 137, 138, 139, 140, 141, 142, 143, 144, 145, 146, 147, 148, 149, 150, 151, 152, 153, 154, 155, 156, 157, 158, 159, 160, 161, 162, 163, 164, 165, 166, 167] (by decide +kernel) (by decide +kernel)
set_option maxRecDepth 20000 in
theorem gX12_readsPasser_X12_needsNew : GoodIn wsX12_readsPasser (wsV RX12 319 RX12 yX12_needsNew wsX12_needsNew) := goodIn_app (goodIn_of _ (by decide +kernel)) ggX12_readsPasser_X12_needsNew
set_option maxRecDepth 20000 in
theorem ggX12_readsPasser_X12_isWord : GoodIn wsX12_readsPasser wsX12_isWord := goodIn_r _ [77, 36, 34, 101, 102, 103, 104, 105, 106, 107, 108, 109, 110, 111, 112, 113, 114, 115, 116, 117, 118, 119, 120, 121, 122, 123, 124, 125, 126, 127, 128, 129, 130, 131, 132, 133, 134, 135, 136, 137, 138, 139, 140, 141, 142, 143, 144, 145, 146, 147, 148, 149, 150, 151, 152, 153, 154, 155, 156, 157, 158, 159, 160, 161, 162, 163, 164, 165, 166, 167] (by decide +kernel) (by decide +kernel)
set_option maxRecDepth 20000 in
theorem gX12_readsPasser_X12_isWord : GoodIn wsX12_readsPasser (wsV RX12 223 RX12 yX12_isWord wsX12_isWord) := goodIn_app (goodIn_of _ (by decide +kernel)) ggX12_readsPasser_X12_isWord
set_option maxRecDepth 20000 in
theorem ggX12_readsPasser_X12_needsWord : GoodIn wsX12_readsPasser wsX12_needsWord := goodIn_r _ [81, 74, 75, 76, 23, 77, 36, 34, 20, 21, 22, 24, 25, 26, 27, 28, 29, 30, 31, 32, 33, 35, 37, 38, 39, 40, 41, 42, 101, 102, 103, 104, 105, 106, 107, 108, 109, 110, 111, 112, 113, 114, 115, 116, 117, 118, 119, 120, 121, 122, 123, 124, 125, 126, 127, 128, 129, 130, 131, 132, 133, 134, 135, 136, 137, 138, 139, 140, 141, 142, 143, 144, 145, 146, 147, 148, 149, 150, 151, 152, 153, 154, 155, 156, 157, 158, 159, 160, 161, 162, 163, 164, 165, 166, 167] (by decide +kernel) (by decide +kernel)
set_option maxRecDepth 20000 in
theorem gX12_readsPasser_X12_needsWord : GoodIn wsX12_readsPasser (wsV RX12 300 RX12 yX12_needsWord wsX12_needsWord) := goodIn_app (goodIn_of _ (by decide +kernel)) ggX12_readsPasser_X12_needsWord
set_option maxRecDepth 20000 in
theorem ggX12_readsPasser_X12_isKept : GoodIn wsX12_readsPasser wsX12_isKept := goodIn_r _ [50, 36, 34, 51, 52, 8, 10, 13, 15, 17, 53, 54, 55, 56, 57, 58, 59, 60, 61, 4, 5, 6, 7, 62, 63, 64, 101, 102, 103, 104, 105, 106, 107, 108, 109, 110, 111, 112, 113, 114, 115, 116, 117, 118, 119, 120, 121, 122, 123, 124, 125, 126, 127, 128, 129, 130, 131, 132, 133, 134, 135, 136, 137, 138, 139, 140, 141, 142, 143, 144, 145, 146, 147, 148, 149, 150, 151, 152, 153, 154, 155, 156, 157, 158, 159, 160, 161, 162, 163, 164, 165, 166, 167] (by decide +kernel) (by decide +kernel)
set_option maxRecDepth 20000 in
theorem gX12_readsPasser_X12_isKept : GoodIn wsX12_readsPasser (wsV RX12 307 RX12 yX12_isKept wsX12_isKept) := goodIn_app (goodIn_of _ (by decide +kernel)) ggX12_readsPasser_X12_isKept
set_option maxRecDepth 20000 in
theorem ggX12_readsPasser_X12_tuneNamed : GoodIn wsX12_readsPasser wsX12_tuneNamed := goodIn_r _ [68, 1, 69, 34, 101, 102, 103, 104, 105, 106, 107, 108, 109, 110, 111, 112, 113, 114, 115, 116, 117, 118, 119, 120, 121, 122, 123, 124, 125, 126, 127, 128, 129, 130, 131, 132, 133, 134, 135, 136, 137, 138, 139, 140, 141, 142, 143, 144, 145, 146, 147, 148, 149, 150, 151, 152, 153, 154, 155, 156, 157, 158, 159, 160, 161, 162, 163, 164, 165, 166, 167] (by decide +kernel) (by decide +kernel)
set_option maxRecDepth 20000 in
theorem gX12_readsPasser_X12_tuneNamed : GoodIn wsX12_readsPasser (wsV RX12 311 RX12 yX12_tuneNamed wsX12_tuneNamed) := goodIn_app (goodIn_of _ (by decide +kernel)) ggX12_readsPasser_X12_tuneNamed
set_option maxRecDepth 20000 in
theorem ggX12_readsPasser_X12_needsBoth : GoodIn wsX12_readsPasser wsX12_needsBoth := goodIn_r _ [85, 78, 79, 80, 23, 81, 74, 75, 76, 77, 36, 34, 20, 21, 22, 24, 25, 26, 27, 28, 29, 30, 31, 32, 33, 35, 37, 38, 39, 40, 41, 42, 86, 87, 88, 89, 12, 90, 91, 92, 101, 102, 103, 104, 105, 106, 107, 108, 109, 110, 111, 112, 113, 114, 115, 116, 117, 118, 119, 120, 121, 122, 123, 124, 125, 126, 127, 128, 129, 130, 131, 132, 133, 134, 135, 136, 137, 138, 139, 140, 141, 142, 143, 144, 145, 146, 147, 148, 149, 150, 151, 152, 153, 154, 155, 156, 157, 158, 159, 160, 161, 162, 163, 164, 165, 166, 167] (by decide +kernel) (by decide +kernel)
set_option maxRecDepth 20000 in
theorem gX12_readsPasser_X12_needsBoth : GoodIn wsX12_readsPasser (wsV RX12 325 RX12 yX12_needsBoth wsX12_needsBoth) := goodIn_app (goodIn_of _ (by decide +kernel)) ggX12_readsPasser_X12_needsBoth
set_option maxRecDepth 20000 in
theorem ggX12_readsPasser_X12_closes : GoodIn wsX12_readsPasser wsX12_closes := goodIn_r _ [96, 97, 98, 99, 23, 100, 36, 33, 25, 20, 21, 22, 24, 26, 27, 28, 29, 30, 31, 32, 34, 35, 37, 38, 39, 40, 41, 42, 101, 102, 103, 104, 105, 106, 107, 108, 109, 110, 111, 112, 113, 114, 115, 116, 117, 118, 119, 120, 121, 122, 123, 124, 125, 126, 127, 128, 129, 130, 131, 132, 133, 134, 135, 136, 137, 138, 139, 140, 141, 142, 143, 144, 145, 146, 147, 148, 149, 150, 151, 152, 153, 154, 155, 156, 157, 158, 159, 160, 161, 162, 163, 164, 165, 166, 167] (by decide +kernel) (by decide +kernel)
set_option maxRecDepth 20000 in
theorem gX12_readsPasser_X12_closes : GoodIn wsX12_readsPasser (wsV RX12 322 RX12 yX12_closes wsX12_closes) := goodIn_app (goodIn_of _ (by decide +kernel)) ggX12_readsPasser_X12_closes
theorem dX12_readsPasser_0 : decode cX12_readsPasser 0 = .ok (.bipush 7, 2) := by decide +kernel
theorem dX12_readsPasser_2 : decode cX12_readsPasser 2 = .ok (.aload_n 0, 1) := by decide +kernel
theorem dX12_readsPasser_3 : decode cX12_readsPasser 3 = .ok (.getfield 13, 3) := by decide +kernel
theorem dX12_readsPasser_6 : decode cX12_readsPasser 6 = .ok (.bipush 8, 2) := by decide +kernel
theorem dX12_readsPasser_8 : decode cX12_readsPasser 8 = .ok (.iaload, 1) := by decide +kernel
theorem dX12_readsPasser_9 : decode cX12_readsPasser 9 = .ok (.iadd, 1) := by decide +kernel
theorem dX12_readsPasser_10 : decode cX12_readsPasser 10 = .ok (.istore_n 1, 1) := by decide +kernel
theorem dX12_readsPasser_11 : decode cX12_readsPasser 11 = .ok (.iload_n 1, 1) := by decide +kernel
theorem dX12_readsPasser_12 : decode cX12_readsPasser 12 = .ok (.bipush 14, 2) := by decide +kernel
theorem dX12_readsPasser_14 : decode cX12_readsPasser 14 = .ok (.if_icmp .ne 9, 3) := by decide +kernel
theorem dX12_readsPasser_17 : decode cX12_readsPasser 17 = .ok (.aload_n 0, 1) := by decide +kernel
theorem dX12_readsPasser_18 : decode cX12_readsPasser 18 = .ok (.iconst 5, 1) := by decide +kernel
theorem dX12_readsPasser_19 : decode cX12_readsPasser 19 = .ok (.invokevirtual 231, 3) := by decide +kernel
theorem dX12_readsPasser_22 : decode cX12_readsPasser 22 = .ok (.ireturn, 1) := by decide +kernel
theorem dX12_readsPasser_23 : decode cX12_readsPasser 23 = .ok (.aload_n 0, 1) := by decide +kernel
theorem dX12_readsPasser_24 : decode cX12_readsPasser 24 = .ok (.invokevirtual 237, 3) := by decide +kernel
theorem dX12_readsPasser_27 : decode cX12_readsPasser 27 = .ok (.aload_n 0, 1) := by decide +kernel
theorem dX12_readsPasser_28 : decode cX12_readsPasser 28 = .ok (.invokevirtual 319, 3) := by decide +kernel
theorem dX12_readsPasser_31 : decode cX12_readsPasser 31 = .ok (.ifCond .ne 5, 3) := by decide +kernel
theorem dX12_readsPasser_34 : decode cX12_readsPasser 34 = .ok (.iconst 0, 1) := by decide +kernel
theorem dX12_readsPasser_35 : decode cX12_readsPasser 35 = .ok (.ireturn, 1) := by decide +kernel
theorem dX12_readsPasser_36 : decode cX12_readsPasser 36 = .ok (.aload_n 0, 1) := by decide +kernel
theorem dX12_readsPasser_37 : decode cX12_readsPasser 37 = .ok (.getfield 317, 3) := by decide +kernel
theorem dX12_readsPasser_40 : decode cX12_readsPasser 40 = .ok (.lstore_n 2, 1) := by decide +kernel
theorem dX12_readsPasser_41 : decode cX12_readsPasser 41 = .ok (.aload_n 0, 1) := by decide +kernel
theorem dX12_readsPasser_42 : decode cX12_readsPasser 42 = .ok (.getfield 29, 3) := by decide +kernel
theorem dX12_readsPasser_45 : decode cX12_readsPasser 45 = .ok (.iload_n 1, 1) := by decide +kernel
theorem dX12_readsPasser_46 : decode cX12_readsPasser 46 = .ok (.aload_n 0, 1) := by decide +kernel
theorem dX12_readsPasser_47 : decode cX12_readsPasser 47 = .ok (.ldc2_w 285, 3) := by decide +kernel
theorem dX12_readsPasser_50 : decode cX12_readsPasser 50 = .ok (.invokevirtual 223, 3) := by decide +kernel
theorem dX12_readsPasser_53 : decode cX12_readsPasser 53 = .ok (.ifCond .eq 7, 3) := by decide +kernel
theorem dX12_readsPasser_56 : decode cX12_readsPasser 56 = .ok (.iconst 0, 1) := by decide +kernel
theorem dX12_readsPasser_57 : decode cX12_readsPasser 57 = .ok (.goto 46, 3) := by decide +kernel
theorem dX12_readsPasser_60 : decode cX12_readsPasser 60 = .ok (.aload_n 0, 1) := by decide +kernel
theorem dX12_readsPasser_61 : decode cX12_readsPasser 61 = .ok (.ldc2_w 287, 3) := by decide +kernel
theorem dX12_readsPasser_64 : decode cX12_readsPasser 64 = .ok (.invokevirtual 223, 3) := by decide +kernel
theorem dX12_readsPasser_67 : decode cX12_readsPasser 67 = .ok (.ifCond .eq 7, 3) := by decide +kernel
theorem dX12_readsPasser_70 : decode cX12_readsPasser 70 = .ok (.iconst 1, 1) := by decide +kernel
theorem dX12_readsPasser_71 : decode cX12_readsPasser 71 = .ok (.goto 32, 3) := by decide +kernel
theorem dX12_readsPasser_74 : decode cX12_readsPasser 74 = .ok (.aload_n 0, 1) := by decide +kernel
theorem dX12_readsPasser_75 : decode cX12_readsPasser 75 = .ok (.ldc2_w 289, 3) := by decide +kernel
theorem dX12_readsPasser_78 : decode cX12_readsPasser 78 = .ok (.invokevirtual 223, 3) := by decide +kernel
theorem dX12_readsPasser_81 : decode cX12_readsPasser 81 = .ok (.ifCond .eq 7, 3) := by decide +kernel
theorem dX12_readsPasser_84 : decode cX12_readsPasser 84 = .ok (.iconst 2, 1) := by decide +kernel
theorem dX12_readsPasser_85 : decode cX12_readsPasser 85 = .ok (.goto 18, 3) := by decide +kernel
theorem dX12_readsPasser_88 : decode cX12_readsPasser 88 = .ok (.aload_n 0, 1) := by decide +kernel
theorem dX12_readsPasser_89 : decode cX12_readsPasser 89 = .ok (.ldc2_w 291, 3) := by decide +kernel
theorem dX12_readsPasser_92 : decode cX12_readsPasser 92 = .ok (.invokevirtual 223, 3) := by decide +kernel
theorem dX12_readsPasser_95 : decode cX12_readsPasser 95 = .ok (.ifCond .eq 7, 3) := by decide +kernel
theorem dX12_readsPasser_98 : decode cX12_readsPasser 98 = .ok (.iconst 3, 1) := by decide +kernel
theorem dX12_readsPasser_99 : decode cX12_readsPasser 99 = .ok (.goto 4, 3) := by decide +kernel
theorem dX12_readsPasser_102 : decode cX12_readsPasser 102 = .ok (.iconst (-1), 1) := by decide +kernel
theorem dX12_readsPasser_103 : decode cX12_readsPasser 103 = .ok (.iastore, 1) := by decide +kernel
theorem dX12_readsPasser_104 : decode cX12_readsPasser 104 = .ok (.aload_n 0, 1) := by decide +kernel
theorem dX12_readsPasser_105 : decode cX12_readsPasser 105 = .ok (.getfield 29, 3) := by decide +kernel
theorem dX12_readsPasser_108 : decode cX12_readsPasser 108 = .ok (.iload_n 1, 1) := by decide +kernel
theorem dX12_readsPasser_109 : decode cX12_readsPasser 109 = .ok (.iaload, 1) := by decide +kernel
theorem dX12_readsPasser_110 : decode cX12_readsPasser 110 = .ok (.ifCond .ge 9, 3) := by decide +kernel
theorem dX12_readsPasser_113 : decode cX12_readsPasser 113 = .ok (.aload_n 0, 1) := by decide +kernel
theorem dX12_readsPasser_114 : decode cX12_readsPasser 114 = .ok (.iconst 1, 1) := by decide +kernel
theorem dX12_readsPasser_115 : decode cX12_readsPasser 115 = .ok (.invokevirtual 231, 3) := by decide +kernel
theorem dX12_readsPasser_118 : decode cX12_readsPasser 118 = .ok (.ireturn, 1) := by decide +kernel
theorem dX12_readsPasser_119 : decode cX12_readsPasser 119 = .ok (.aload_n 0, 1) := by decide +kernel
theorem dX12_readsPasser_120 : decode cX12_readsPasser 120 = .ok (.invokevirtual 237, 3) := by decide +kernel
theorem dX12_readsPasser_123 : decode cX12_readsPasser 123 = .ok (.aload_n 0, 1) := by decide +kernel
theorem dX12_readsPasser_124 : decode cX12_readsPasser 124 = .ok (.ldc2_w 257, 3) := by decide +kernel
theorem dX12_readsPasser_127 : decode cX12_readsPasser 127 = .ok (.invokevirtual 300, 3) := by decide +kernel
theorem dX12_readsPasser_130 : decode cX12_readsPasser 130 = .ok (.ifCond .ne 5, 3) := by decide +kernel
theorem dX12_readsPasser_133 : decode cX12_readsPasser 133 = .ok (.iconst 0, 1) := by decide +kernel
theorem dX12_readsPasser_134 : decode cX12_readsPasser 134 = .ok (.ireturn, 1) := by decide +kernel
theorem dX12_readsPasser_135 : decode cX12_readsPasser 135 = .ok (.aload_n 0, 1) := by decide +kernel
theorem dX12_readsPasser_136 : decode cX12_readsPasser 136 = .ok (.invokevirtual 307, 3) := by decide +kernel
theorem dX12_readsPasser_139 : decode cX12_readsPasser 139 = .ok (.ifCond .eq 9, 3) := by decide +kernel
theorem dX12_readsPasser_142 : decode cX12_readsPasser 142 = .ok (.aload_n 0, 1) := by decide +kernel
theorem dX12_readsPasser_143 : decode cX12_readsPasser 143 = .ok (.iconst 1, 1) := by decide +kernel
theorem dX12_readsPasser_144 : decode cX12_readsPasser 144 = .ok (.invokevirtual 231, 3) := by decide +kernel
theorem dX12_readsPasser_147 : decode cX12_readsPasser 147 = .ok (.ireturn, 1) := by decide +kernel
theorem dX12_readsPasser_148 : decode cX12_readsPasser 148 = .ok (.aload_n 0, 1) := by decide +kernel
theorem dX12_readsPasser_149 : decode cX12_readsPasser 149 = .ok (.getfield 32, 3) := by decide +kernel
theorem dX12_readsPasser_152 : decode cX12_readsPasser 152 = .ok (.iload_n 1, 1) := by decide +kernel
theorem dX12_readsPasser_153 : decode cX12_readsPasser 153 = .ok (.aload_n 0, 1) := by decide +kernel
theorem dX12_readsPasser_154 : decode cX12_readsPasser 154 = .ok (.invokevirtual 311, 3) := by decide +kernel
theorem dX12_readsPasser_157 : decode cX12_readsPasser 157 = .ok (.iastore, 1) := by decide +kernel
theorem dX12_readsPasser_158 : decode cX12_readsPasser 158 = .ok (.aload_n 0, 1) := by decide +kernel
theorem dX12_readsPasser_159 : decode cX12_readsPasser 159 = .ok (.getfield 32, 3) := by decide +kernel
theorem dX12_readsPasser_162 : decode cX12_readsPasser 162 = .ok (.iload_n 1, 1) := by decide +kernel
theorem dX12_readsPasser_163 : decode cX12_readsPasser 163 = .ok (.iaload, 1) := by decide +kernel
theorem dX12_readsPasser_164 : decode cX12_readsPasser 164 = .ok (.ifCond .ge 9, 3) := by decide +kernel
theorem dX12_readsPasser_167 : decode cX12_readsPasser 167 = .ok (.aload_n 0, 1) := by decide +kernel
theorem dX12_readsPasser_168 : decode cX12_readsPasser 168 = .ok (.iconst 2, 1) := by decide +kernel
theorem dX12_readsPasser_169 : decode cX12_readsPasser 169 = .ok (.invokevirtual 231, 3) := by decide +kernel
theorem dX12_readsPasser_172 : decode cX12_readsPasser 172 = .ok (.ireturn, 1) := by decide +kernel
theorem dX12_readsPasser_173 : decode cX12_readsPasser 173 = .ok (.aload_n 0, 1) := by decide +kernel
theorem dX12_readsPasser_174 : decode cX12_readsPasser 174 = .ok (.invokevirtual 237, 3) := by decide +kernel
theorem dX12_readsPasser_177 : decode cX12_readsPasser 177 = .ok (.aload_n 0, 1) := by decide +kernel
theorem dX12_readsPasser_178 : decode cX12_readsPasser 178 = .ok (.ldc2_w 259, 3) := by decide +kernel
theorem dX12_readsPasser_181 : decode cX12_readsPasser 181 = .ok (.iconst 0, 1) := by decide +kernel
theorem dX12_readsPasser_182 : decode cX12_readsPasser 182 = .ok (.bipush 9, 2) := by decide +kernel
theorem dX12_readsPasser_184 : decode cX12_readsPasser 184 = .ok (.invokevirtual 325, 3) := by decide +kernel
theorem dX12_readsPasser_187 : decode cX12_readsPasser 187 = .ok (.ifCond .ne 5, 3) := by decide +kernel
theorem dX12_readsPasser_190 : decode cX12_readsPasser 190 = .ok (.iconst 0, 1) := by decide +kernel
theorem dX12_readsPasser_191 : decode cX12_readsPasser 191 = .ok (.ireturn, 1) := by decide +kernel
theorem dX12_readsPasser_192 : decode cX12_readsPasser 192 = .ok (.aload_n 0, 1) := by decide +kernel
theorem dX12_readsPasser_193 : decode cX12_readsPasser 193 = .ok (.getfield 35, 3) := by decide +kernel
theorem dX12_readsPasser_196 : decode cX12_readsPasser 196 = .ok (.iload_n 1, 1) := by decide +kernel
theorem dX12_readsPasser_197 : decode cX12_readsPasser 197 = .ok (.aload_n 0, 1) := by decide +kernel
theorem dX12_readsPasser_198 : decode cX12_readsPasser 198 = .ok (.getfield 297, 3) := by decide +kernel
theorem dX12_readsPasser_201 : decode cX12_readsPasser 201 = .ok (.iastore, 1) := by decide +kernel
theorem dX12_readsPasser_202 : decode cX12_readsPasser 202 = .ok (.aload_n 0, 1) := by decide +kernel
theorem dX12_readsPasser_203 : decode cX12_readsPasser 203 = .ok (.ldc2_w 261, 3) := by decide +kernel
theorem dX12_readsPasser_206 : decode cX12_readsPasser 206 = .ok (.iconst 0, 1) := by decide +kernel
theorem dX12_readsPasser_207 : decode cX12_readsPasser 207 = .ok (.bipush 9, 2) := by decide +kernel
theorem dX12_readsPasser_209 : decode cX12_readsPasser 209 = .ok (.invokevirtual 325, 3) := by decide +kernel
theorem dX12_readsPasser_212 : decode cX12_readsPasser 212 = .ok (.ifCond .ne 5, 3) := by decide +kernel
theorem dX12_readsPasser_215 : decode cX12_readsPasser 215 = .ok (.iconst 0, 1) := by decide +kernel
theorem dX12_readsPasser_216 : decode cX12_readsPasser 216 = .ok (.ireturn, 1) := by decide +kernel
theorem dX12_readsPasser_217 : decode cX12_readsPasser 217 = .ok (.aload_n 0, 1) := by decide +kernel
theorem dX12_readsPasser_218 : decode cX12_readsPasser 218 = .ok (.getfield 38, 3) := by decide +kernel
theorem dX12_readsPasser_221 : decode cX12_readsPasser 221 = .ok (.iload_n 1, 1) := by decide +kernel
theorem dX12_readsPasser_222 : decode cX12_readsPasser 222 = .ok (.aload_n 0, 1) := by decide +kernel
theorem dX12_readsPasser_223 : decode cX12_readsPasser 223 = .ok (.getfield 297, 3) := by decide +kernel
theorem dX12_readsPasser_226 : decode cX12_readsPasser 226 = .ok (.iastore, 1) := by decide +kernel
theorem dX12_readsPasser_227 : decode cX12_readsPasser 227 = .ok (.aload_n 0, 1) := by decide +kernel
theorem dX12_readsPasser_228 : decode cX12_readsPasser 228 = .ok (.ldc2_w 263, 3) := by decide +kernel
theorem dX12_readsPasser_231 : decode cX12_readsPasser 231 = .ok (.iconst 1, 1) := by decide +kernel
theorem dX12_readsPasser_232 : decode cX12_readsPasser 232 = .ok (.bipush 30, 2) := by decide +kernel
theorem dX12_readsPasser_234 : decode cX12_readsPasser 234 = .ok (.invokevirtual 325, 3) := by decide +kernel
theorem dX12_readsPasser_237 : decode cX12_readsPasser 237 = .ok (.ifCond .ne 5, 3) := by decide +kernel
theorem dX12_readsPasser_240 : decode cX12_readsPasser 240 = .ok (.iconst 0, 1) := by decide +kernel
theorem dX12_readsPasser_241 : decode cX12_readsPasser 241 = .ok (.ireturn, 1) := by decide +kernel
theorem dX12_readsPasser_242 : decode cX12_readsPasser 242 = .ok (.aload_n 0, 1) := by decide +kernel
theorem dX12_readsPasser_243 : decode cX12_readsPasser 243 = .ok (.getfield 41, 3) := by decide +kernel
theorem dX12_readsPasser_246 : decode cX12_readsPasser 246 = .ok (.iload_n 1, 1) := by decide +kernel
theorem dX12_readsPasser_247 : decode cX12_readsPasser 247 = .ok (.aload_n 0, 1) := by decide +kernel
theorem dX12_readsPasser_248 : decode cX12_readsPasser 248 = .ok (.getfield 297, 3) := by decide +kernel
theorem dX12_readsPasser_251 : decode cX12_readsPasser 251 = .ok (.iastore, 1) := by decide +kernel
theorem dX12_readsPasser_252 : decode cX12_readsPasser 252 = .ok (.aload_n 0, 1) := by decide +kernel
theorem dX12_readsPasser_253 : decode cX12_readsPasser 253 = .ok (.ldc2_w 265, 3) := by decide +kernel
theorem dX12_readsPasser_256 : decode cX12_readsPasser 256 = .ok (.iconst 0, 1) := by decide +kernel
theorem dX12_readsPasser_257 : decode cX12_readsPasser 257 = .ok (.bipush 59, 2) := by decide +kernel
theorem dX12_readsPasser_259 : decode cX12_readsPasser 259 = .ok (.invokevirtual 325, 3) := by decide +kernel
theorem dX12_readsPasser_262 : decode cX12_readsPasser 262 = .ok (.ifCond .ne 5, 3) := by decide +kernel
theorem dX12_readsPasser_265 : decode cX12_readsPasser 265 = .ok (.iconst 0, 1) := by decide +kernel
theorem dX12_readsPasser_266 : decode cX12_readsPasser 266 = .ok (.ireturn, 1) := by decide +kernel
theorem dX12_readsPasser_267 : decode cX12_readsPasser 267 = .ok (.aload_n 0, 1) := by decide +kernel
theorem dX12_readsPasser_268 : decode cX12_readsPasser 268 = .ok (.getfield 44, 3) := by decide +kernel
theorem dX12_readsPasser_271 : decode cX12_readsPasser 271 = .ok (.iload_n 1, 1) := by decide +kernel
theorem dX12_readsPasser_272 : decode cX12_readsPasser 272 = .ok (.aload_n 0, 1) := by decide +kernel
theorem dX12_readsPasser_273 : decode cX12_readsPasser 273 = .ok (.getfield 297, 3) := by decide +kernel
theorem dX12_readsPasser_276 : decode cX12_readsPasser 276 = .ok (.iastore, 1) := by decide +kernel
theorem dX12_readsPasser_277 : decode cX12_readsPasser 277 = .ok (.aload_n 0, 1) := by decide +kernel
theorem dX12_readsPasser_278 : decode cX12_readsPasser 278 = .ok (.getfield 20, 3) := by decide +kernel
theorem dX12_readsPasser_281 : decode cX12_readsPasser 281 = .ok (.iload_n 1, 1) := by decide +kernel
theorem dX12_readsPasser_282 : decode cX12_readsPasser 282 = .ok (.lload_n 2, 1) := by decide +kernel
theorem dX12_readsPasser_283 : decode cX12_readsPasser 283 = .ok (.lastore, 1) := by decide +kernel
theorem dX12_readsPasser_284 : decode cX12_readsPasser 284 = .ok (.aload_n 0, 1) := by decide +kernel
theorem dX12_readsPasser_285 : decode cX12_readsPasser 285 = .ok (.getfield 13, 3) := by decide +kernel
theorem dX12_readsPasser_288 : decode cX12_readsPasser 288 = .ok (.bipush 8, 2) := by decide +kernel
theorem dX12_readsPasser_290 : decode cX12_readsPasser 290 = .ok (.dup2, 1) := by decide +kernel
theorem dX12_readsPasser_291 : decode cX12_readsPasser 291 = .ok (.iaload, 1) := by decide +kernel
theorem dX12_readsPasser_292 : decode cX12_readsPasser 292 = .ok (.iconst 1, 1) := by decide +kernel
theorem dX12_readsPasser_293 : decode cX12_readsPasser 293 = .ok (.iadd, 1) := by decide +kernel
theorem dX12_readsPasser_294 : decode cX12_readsPasser 294 = .ok (.iastore, 1) := by decide +kernel
theorem dX12_readsPasser_295 : decode cX12_readsPasser 295 = .ok (.aload_n 0, 1) := by decide +kernel
theorem dX12_readsPasser_296 : decode cX12_readsPasser 296 = .ok (.invokevirtual 322, 3) := by decide +kernel
theorem dX12_readsPasser_299 : decode cX12_readsPasser 299 = .ok (.ireturn, 1) := by decide +kernel
theorem dX12_isTwice_0 : decode cX12_isTwice 0 = .ok (.aload_n 0, 1) := by decide +kernel
theorem dX12_isTwice_1 : decode cX12_isTwice 1 = .ok (.getfield 329, 3) := by decide +kernel
theorem dX12_isTwice_4 : decode cX12_isTwice 4 = .ok (.iload_n 1, 1) := by decide +kernel
theorem dX12_isTwice_5 : decode cX12_isTwice 5 = .ok (.ishr, 1) := by decide +kernel
theorem dX12_isTwice_6 : decode cX12_isTwice 6 = .ok (.iconst 1, 1) := by decide +kernel
theorem dX12_isTwice_7 : decode cX12_isTwice 7 = .ok (.iand, 1) := by decide +kernel
theorem dX12_isTwice_8 : decode cX12_isTwice 8 = .ok (.iconst 1, 1) := by decide +kernel
theorem dX12_isTwice_9 : decode cX12_isTwice 9 = .ok (.if_icmp .ne 5, 3) := by decide +kernel
theorem dX12_isTwice_12 : decode cX12_isTwice 12 = .ok (.iconst 1, 1) := by decide +kernel
theorem dX12_isTwice_13 : decode cX12_isTwice 13 = .ok (.ireturn, 1) := by decide +kernel
theorem dX12_isTwice_14 : decode cX12_isTwice 14 = .ok (.aload_n 0, 1) := by decide +kernel
theorem dX12_isTwice_15 : decode cX12_isTwice 15 = .ok (.dup, 1) := by decide +kernel
theorem dX12_isTwice_16 : decode cX12_isTwice 16 = .ok (.getfield 329, 3) := by decide +kernel
theorem dX12_isTwice_19 : decode cX12_isTwice 19 = .ok (.iconst 1, 1) := by decide +kernel
theorem dX12_isTwice_20 : decode cX12_isTwice 20 = .ok (.iload_n 1, 1) := by decide +kernel
theorem dX12_isTwice_21 : decode cX12_isTwice 21 = .ok (.ishl, 1) := by decide +kernel
theorem dX12_isTwice_22 : decode cX12_isTwice 22 = .ok (.ior, 1) := by decide +kernel
theorem dX12_isTwice_23 : decode cX12_isTwice 23 = .ok (.putfield 329, 3) := by decide +kernel
theorem dX12_isTwice_26 : decode cX12_isTwice 26 = .ok (.iconst 0, 1) := by decide +kernel
theorem dX12_isTwice_27 : decode cX12_isTwice 27 = .ok (.ireturn, 1) := by decide +kernel
set_option maxRecDepth 20000 in
theorem ggX12_readsOne_X12_isTwice : GoodIn wsX12_readsOne wsX12_isTwice := goodIn_r _ [7, 8, 46, 47, 48, 49, 50, 51, 52, 53, 54, 55, 56, 57, 58, 59, 60, 61, 62, 63, 64, 65, 66, 67, 68, 69, 70, 71, 72, 73, 74, 75, 76, 77, 78, 79, 80, 81, 82, 83, 84, 85, 86, 87, 88, 89, 90, 91, 92, 93, 94, 95, 96, 97, 98, 99, 100, 101, 102, 103, 104, 105, 106, 107, 108, 109, 110, 111, 112] (by decide +kernel) (by decide +kernel)
set_option maxRecDepth 20000 in
theorem gX12_readsOne_X12_isTwice : GoodIn wsX12_readsOne (wsV RX12 332 RX12 yX12_isTwice wsX12_isTwice) := goodIn_app (goodIn_of _ (by decide +kernel)) ggX12_readsOne_X12_isTwice
set_option maxRecDepth 20000 in
theorem ggX12_readsOne_X12_fails : GoodIn wsX12_readsOne wsX12_fails := goodIn_r _ [12, 13, 14, 46, 47, 48, 49, 50, 51, 52, 53, 54, 55, 56, 57, 58, 59, 60, 61, 62, 63, 64, 65, 66, 67, 68, 69, 70, 71, 72, 73, 74, 75, 76, 77, 78, 79, 80, 81, 82, 83, 84, 85, 86, 87, 88, 89, 90, 91, 92, 93, 94, 95, 96, 97, 98, 99, 100, 101, 102, 103, 104, 105, 106, 107, 108, 109, 110, 111, 112] (by decide +kernel) (by decide +kernel)
set_option maxRecDepth 20000 in
theorem gX12_readsOne_X12_fails : GoodIn wsX12_readsOne (wsV RX12 231 RX12 yX12_fails wsX12_fails) := goodIn_app (goodIn_of _ (by decide +kernel)) ggX12_readsOne_X12_fails
set_option maxRecDepth 20000 in
theorem ggX12_readsOne_X12_nextToken : GoodIn wsX12_readsOne wsX12_nextToken := goodIn_r _ [18, 19, 20, 21, 13, 22, 23, 24, 25, 26, 27, 28, 29, 6, 30, 46, 47, 48, 49, 50, 51, 52, 53, 54, 55, 56, 57, 58, 59, 60, 61, 62, 63, 64, 65, 66, 67, 68, 69, 70, 71, 72, 73, 74, 75, 76, 77, 78, 79, 80, 81, 82, 83, 84, 85, 86, 87, 88, 89, 90, 91, 92, 93, 94, 95, 96, 97, 98, 99, 100, 101, 102, 103, 104, 105, 106, 107, 108, 109, 110, 111, 112] (by decide +kernel) (by decide +kernel)
set_option maxRecDepth 20000 in
theorem gX12_readsOne_X12_nextToken : GoodIn wsX12_readsOne (wsV RX12 237 RX12 yX12_nextToken wsX12_nextToken) := goodIn_app (goodIn_of _ (by decide +kernel)) ggX12_readsOne_X12_nextToken
set_option maxRecDepth 20000 in
theorem ggX12_readsOne_X12_needsNumber : GoodIn wsX12_readsOne wsX12_needsNumber := goodIn_r _ [34, 24, 23, 2, 9, 10, 11, 6, 12, 13, 14, 35, 36, 37, 15, 16, 17, 18, 19, 20, 21, 22, 25, 26, 27, 28, 29, 30, 46, 47, 48, 49, 50, 51, 52, 53, 54, 55, 56, 57, 58, 59, 60, 61, 62, 63, 64, 65, 66, 67, 68, 69, 70, 71, 72, 73, 74, 75, 76, 77, 78, 79, 80, 81, 82, 83, 84, 85, 86, 87, 88, 89, 90, 91, 92, 93, 94, 95, 96, 97, 98, 99, 100, 101, 102, 103, 104, 105, 106, 107, 108, 109, 110, 111, 112] (by decide +kernel) (by decide +kernel)
set_option maxRecDepth 20000 in
theorem gX12_readsOne_X12_needsNumber : GoodIn wsX12_readsOne (wsV RX12 303 RX12 yX12_needsNumber wsX12_needsNumber) := goodIn_app (goodIn_of _ (by decide +kernel)) ggX12_readsOne_X12_needsNumber
set_option maxRecDepth 20000 in
theorem ggX12_readsOne_X12_closes : GoodIn wsX12_readsOne wsX12_closes := goodIn_r _ [41, 42, 43, 44, 6, 45, 24, 21, 13, 9, 10, 11, 12, 14, 15, 16, 17, 18, 19, 20, 22, 23, 25, 26, 27, 28, 29, 30, 46, 47, 48, 49, 50, 51, 52, 53, 54, 55, 56, 57, 58, 59, 60, 61, 62, 63, 64, 65, 66, 67, 68, 69, 70, 71, 72, 73, 74, 75, 76, 77, 78, 79, 80, 81, 82, 83, 84, 85, 86, 87, 88, 89, 90, 91, 92, 93, 94, 95, 96, 97, 98, 99, 100, 101, 102, 103, 104, 105, 106, 107, 108, 109, 110, 111, 112] (by decide +kernel) (by decide +kernel)
set_option maxRecDepth 20000 in
theorem gX12_readsOne_X12_closes : GoodIn wsX12_readsOne (wsV RX12 322 RX12 yX12_closes wsX12_closes) := goodIn_app (goodIn_of _ (by decide +kernel)) ggX12_readsOne_X12_closes
theorem dX12_readsOne_0 : decode cX12_readsOne 0 = .ok (.aload_n 0, 1) := by decide +kernel
theorem dX12_readsOne_1 : decode cX12_readsOne 1 = .ok (.iload_n 1, 1) := by decide +kernel
theorem dX12_readsOne_2 : decode cX12_readsOne 2 = .ok (.invokevirtual 332, 3) := by decide +kernel
theorem dX12_readsOne_5 : decode cX12_readsOne 5 = .ok (.ifCond .eq 9, 3) := by decide +kernel
theorem dX12_readsOne_8 : decode cX12_readsOne 8 = .ok (.aload_n 0, 1) := by decide +kernel
theorem dX12_readsOne_9 : decode cX12_readsOne 9 = .ok (.iconst 3, 1) := by decide +kernel
theorem dX12_readsOne_10 : decode cX12_readsOne 10 = .ok (.invokevirtual 231, 3) := by decide +kernel
theorem dX12_readsOne_13 : decode cX12_readsOne 13 = .ok (.ireturn, 1) := by decide +kernel
theorem dX12_readsOne_14 : decode cX12_readsOne 14 = .ok (.aload_n 0, 1) := by decide +kernel
theorem dX12_readsOne_15 : decode cX12_readsOne 15 = .ok (.invokevirtual 237, 3) := by decide +kernel
theorem dX12_readsOne_18 : decode cX12_readsOne 18 = .ok (.aload_n 0, 1) := by decide +kernel
theorem dX12_readsOne_19 : decode cX12_readsOne 19 = .ok (.iload_n 2, 1) := by decide +kernel
theorem dX12_readsOne_20 : decode cX12_readsOne 20 = .ok (.iload_n 3, 1) := by decide +kernel
theorem dX12_readsOne_21 : decode cX12_readsOne 21 = .ok (.invokevirtual 303, 3) := by decide +kernel
theorem dX12_readsOne_24 : decode cX12_readsOne 24 = .ok (.ifCond .ne 5, 3) := by decide +kernel
theorem dX12_readsOne_27 : decode cX12_readsOne 27 = .ok (.iconst 0, 1) := by decide +kernel
theorem dX12_readsOne_28 : decode cX12_readsOne 28 = .ok (.ireturn, 1) := by decide +kernel
theorem dX12_readsOne_29 : decode cX12_readsOne 29 = .ok (.aload_n 0, 1) := by decide +kernel
theorem dX12_readsOne_30 : decode cX12_readsOne 30 = .ok (.getfield 13, 3) := by decide +kernel
theorem dX12_readsOne_33 : decode cX12_readsOne 33 = .ok (.bipush 7, 2) := by decide +kernel
theorem dX12_readsOne_35 : decode cX12_readsOne 35 = .ok (.iload_n 1, 1) := by decide +kernel
theorem dX12_readsOne_36 : decode cX12_readsOne 36 = .ok (.iadd, 1) := by decide +kernel
theorem dX12_readsOne_37 : decode cX12_readsOne 37 = .ok (.aload_n 0, 1) := by decide +kernel
theorem dX12_readsOne_38 : decode cX12_readsOne 38 = .ok (.getfield 297, 3) := by decide +kernel
theorem dX12_readsOne_41 : decode cX12_readsOne 41 = .ok (.iastore, 1) := by decide +kernel
theorem dX12_readsOne_42 : decode cX12_readsOne 42 = .ok (.aload_n 0, 1) := by decide +kernel
theorem dX12_readsOne_43 : decode cX12_readsOne 43 = .ok (.invokevirtual 322, 3) := by decide +kernel
theorem dX12_readsOne_46 : decode cX12_readsOne 46 = .ok (.ireturn, 1) := by decide +kernel
set_option maxRecDepth 20000 in
theorem ggX12_needsSpan_X12_needsNumber : GoodIn wsX12_needsSpan wsX12_needsNumber := goodIn_r _ [8, 9, 10, 1, 11, 12, 13, 7, 14, 15, 16, 17, 18, 19, 20, 21, 22, 23, 24, 25, 26, 27, 28, 29, 30, 31, 32, 33, 46, 47, 48, 49, 50, 51, 52, 53, 54, 55, 56, 57, 58, 59, 60, 61, 62, 63, 64, 65, 66, 67, 68, 69, 70, 71, 72, 73, 74, 75, 76, 77, 78, 79, 80, 81, 82, 83, 84, 85, 86, 87, 88, 89, 90, 91, 92, 93, 94, 95, 96, 97, 98, 99, 100, 101, 102, 103, 104, 105, 106, 107, 108, 109, 110, 111, 112] (by decide +kernel) (by decide +kernel)
set_option maxRecDepth 20000 in
theorem gX12_needsSpan_X12_needsNumber : GoodIn wsX12_needsSpan (wsV RX12 303 RX12 yX12_needsNumber wsX12_needsNumber) := goodIn_app (goodIn_of _ (by decide +kernel)) ggX12_needsSpan_X12_needsNumber
set_option maxRecDepth 20000 in
theorem ggX12_needsSpan_X12_needsBoth : GoodIn wsX12_needsSpan wsX12_needsBoth := goodIn_r _ [37, 38, 39, 40, 7, 41, 42, 43, 44, 45, 9, 27, 11, 12, 13, 14, 15, 16, 20, 21, 22, 23, 24, 25, 26, 10, 28, 29, 30, 31, 32, 33, 4, 5, 6, 8, 1, 17, 18, 19, 46, 47, 48, 49, 50, 51, 52, 53, 54, 55, 56, 57, 58, 59, 60, 61, 62, 63, 64, 65, 66, 67, 68, 69, 70, 71, 72, 73, 74, 75, 76, 77, 78, 79, 80, 81, 82, 83, 84, 85, 86, 87, 88, 89, 90, 91, 92, 93, 94, 95, 96, 97, 98, 99, 100, 101, 102, 103, 104, 105, 106, 107, 108, 109, 110, 111, 112] (by decide +kernel) (by decide +kernel)
set_option maxRecDepth 20000 in
theorem gX12_needsSpan_X12_needsBoth : GoodIn wsX12_needsSpan (wsV RX12 325 RX12 yX12_needsBoth wsX12_needsBoth) := goodIn_app (goodIn_of _ (by decide +kernel)) ggX12_needsSpan_X12_needsBoth
theorem dX12_needsSpan_0 : decode cX12_needsSpan 0 = .ok (.aload_n 0, 1) := by decide +kernel
theorem dX12_needsSpan_1 : decode cX12_needsSpan 1 = .ok (.iconst 0, 1) := by decide +kernel
theorem dX12_needsSpan_2 : decode cX12_needsSpan 2 = .ok (.bipush 59, 2) := by decide +kernel
theorem dX12_needsSpan_4 : decode cX12_needsSpan 4 = .ok (.invokevirtual 303, 3) := by decide +kernel
theorem dX12_needsSpan_7 : decode cX12_needsSpan 7 = .ok (.ifCond .ne 5, 3) := by decide +kernel
theorem dX12_needsSpan_10 : decode cX12_needsSpan 10 = .ok (.iconst 0, 1) := by decide +kernel
theorem dX12_needsSpan_11 : decode cX12_needsSpan 11 = .ok (.ireturn, 1) := by decide +kernel
theorem dX12_needsSpan_12 : decode cX12_needsSpan 12 = .ok (.aload_n 0, 1) := by decide +kernel
theorem dX12_needsSpan_13 : decode cX12_needsSpan 13 = .ok (.aload_n 0, 1) := by decide +kernel
theorem dX12_needsSpan_14 : decode cX12_needsSpan 14 = .ok (.getfield 297, 3) := by decide +kernel
theorem dX12_needsSpan_17 : decode cX12_needsSpan 17 = .ok (.putfield 335, 3) := by decide +kernel
theorem dX12_needsSpan_20 : decode cX12_needsSpan 20 = .ok (.aload_n 0, 1) := by decide +kernel
theorem dX12_needsSpan_21 : decode cX12_needsSpan 21 = .ok (.ldc2_w 273, 3) := by decide +kernel
theorem dX12_needsSpan_24 : decode cX12_needsSpan 24 = .ok (.aload_n 0, 1) := by decide +kernel
theorem dX12_needsSpan_25 : decode cX12_needsSpan 25 = .ok (.getfield 335, 3) := by decide +kernel
theorem dX12_needsSpan_28 : decode cX12_needsSpan 28 = .ok (.iconst 1, 1) := by decide +kernel
theorem dX12_needsSpan_29 : decode cX12_needsSpan 29 = .ok (.iadd, 1) := by decide +kernel
theorem dX12_needsSpan_30 : decode cX12_needsSpan 30 = .ok (.bipush 60, 2) := by decide +kernel
theorem dX12_needsSpan_32 : decode cX12_needsSpan 32 = .ok (.invokevirtual 325, 3) := by decide +kernel
theorem dX12_needsSpan_35 : decode cX12_needsSpan 35 = .ok (.ireturn, 1) := by decide +kernel
set_option maxRecDepth 20000 in
theorem ggX12_readsOpen_X12_isTwice : GoodIn wsX12_readsOpen wsX12_isTwice := goodIn_r _ [8, 9, 64, 65, 66, 67, 68, 69, 70, 71, 72, 73, 74, 75, 76, 77, 78, 79, 80, 81, 82, 83, 84, 85, 86, 87, 88, 89, 90, 91, 92, 93, 94, 95, 96, 97, 98, 99, 100, 101, 102, 103, 104, 105, 106, 107, 108, 109, 110, 111, 112, 113, 114, 115, 116, 117, 118, 119, 120, 121, 122, 123, 124, 125, 126, 127, 128, 129, 130] (by decide +kernel) (by decide +kernel)
set_option maxRecDepth 20000 in
theorem gX12_readsOpen_X12_isTwice : GoodIn wsX12_readsOpen (wsV RX12 332 RX12 yX12_isTwice wsX12_isTwice) := goodIn_app (goodIn_of _ (by decide +kernel)) ggX12_readsOpen_X12_isTwice
set_option maxRecDepth 20000 in
theorem ggX12_readsOpen_X12_fails : GoodIn wsX12_readsOpen wsX12_fails := goodIn_r _ [13, 14, 15, 64, 65, 66, 67, 68, 69, 70, 71, 72, 73, 74, 75, 76, 77, 78, 79, 80, 81, 82, 83, 84, 85, 86, 87, 88, 89, 90, 91, 92, 93, 94, 95, 96, 97, 98, 99, 100, 101, 102, 103, 104, 105, 106, 107, 108, 109, 110, 111, 112, 113, 114, 115, 116, 117, 118, 119, 120, 121, 122, 123, 124, 125, 126, 127, 128, 129, 130] (by decide +kernel) (by decide +kernel)
set_option maxRecDepth 20000 in
theorem gX12_readsOpen_X12_fails : GoodIn wsX12_readsOpen (wsV RX12 231 RX12 yX12_fails wsX12_fails) := goodIn_app (goodIn_of _ (by decide +kernel)) ggX12_readsOpen_X12_fails
set_option maxRecDepth 20000 in
theorem ggX12_readsOpen_X12_nextToken : GoodIn wsX12_readsOpen wsX12_nextToken := goodIn_r _ [19, 20, 21, 22, 14, 23, 24, 25, 26, 27, 28, 29, 30, 7, 31, 64, 65, 66, 67, 68, 69, 70, 71, 72, 73, 74, 75, 76, 77, 78, 79, 80, 81, 82, 83, 84, 85, 86, 87, 88, 89, 90, 91, 92, 93, 94, 95, 96, 97, 98, 99, 100, 101, 102, 103, 104, 105, 106, 107, 108, 109, 110, 111, 112, 113, 114, 115, 116, 117, 118, 119, 120, 121, 122, 123, 124, 125, 126, 127, 128, 129, 130] (by decide +kernel) (by decide +kernel)
set_option maxRecDepth 20000 in
theorem gX12_readsOpen_X12_nextToken : GoodIn wsX12_readsOpen (wsV RX12 237 RX12 yX12_nextToken wsX12_nextToken) := goodIn_app (goodIn_of _ (by decide +kernel)) ggX12_readsOpen_X12_nextToken
set_option maxRecDepth 20000 in
theorem ggX12_readsOpen_X12_needsSpan : GoodIn wsX12_readsOpen wsX12_needsSpan := goodIn_r _ [35, 3, 2, 36, 37, 38, 39, 7, 40, 25, 24, 10, 11, 12, 13, 14, 15, 41, 42, 43, 16, 17, 18, 19, 20, 21, 22, 23, 26, 27, 28, 29, 30, 31, 44, 45, 46, 47, 48, 49, 50, 51, 52, 53, 54, 55, 64, 65, 66, 67, 68, 69, 70, 71, 72, 73, 74, 75, 76, 77, 78, 79, 80, 81, 82, 83, 84, 85, 86, 87, 88, 89, 90, 91, 92, 93, 94, 95, 96, 97, 98, 99, 100, 101, 102, 103, 104, 105, 106, 107, 108, 109, 110, 111, 112, 113, 114, 115, 116, 117, 118, 119, 120, 121, 122, 123, 124, 125, 126, 127, 128, 129, 130] (by decide +kernel) (by decide +kernel)
set_option maxRecDepth 20000 in
theorem gX12_readsOpen_X12_needsSpan : GoodIn wsX12_readsOpen (wsV RX12 338 RX12 yX12_needsSpan wsX12_needsSpan) := goodIn_app (goodIn_of _ (by decide +kernel)) ggX12_readsOpen_X12_needsSpan
set_option maxRecDepth 20000 in
theorem ggX12_readsOpen_X12_closes : GoodIn wsX12_readsOpen wsX12_closes := goodIn_r _ [59, 60, 61, 62, 7, 63, 25, 22, 14, 10, 11, 12, 13, 15, 16, 17, 18, 19, 20, 21, 23, 24, 26, 27, 28, 29, 30, 31, 64, 65, 66, 67, 68, 69, 70, 71, 72, 73, 74, 75, 76, 77, 78, 79, 80, 81, 82, 83, 84, 85, 86, 87, 88, 89, 90, 91, 92, 93, 94, 95, 96, 97, 98, 99, 100, 101, 102, 103, 104, 105, 106, 107, 108, 109, 110, 111, 112, 113, 114, 115, 116, 117, 118, 119, 120, 121, 122, 123, 124, 125, 126, 127, 128, 129, 130] (by decide +kernel) (by decide +kernel)
set_option maxRecDepth 20000 in
theorem gX12_readsOpen_X12_closes : GoodIn wsX12_readsOpen (wsV RX12 322 RX12 yX12_closes wsX12_closes) := goodIn_app (goodIn_of _ (by decide +kernel)) ggX12_readsOpen_X12_closes
theorem dX12_readsOpen_0 : decode cX12_readsOpen 0 = .ok (.aload_n 0, 1) := by decide +kernel
theorem dX12_readsOpen_1 : decode cX12_readsOpen 1 = .ok (.iconst 4, 1) := by decide +kernel
theorem dX12_readsOpen_2 : decode cX12_readsOpen 2 = .ok (.invokevirtual 332, 3) := by decide +kernel
theorem dX12_readsOpen_5 : decode cX12_readsOpen 5 = .ok (.ifCond .eq 9, 3) := by decide +kernel
theorem dX12_readsOpen_8 : decode cX12_readsOpen 8 = .ok (.aload_n 0, 1) := by decide +kernel
theorem dX12_readsOpen_9 : decode cX12_readsOpen 9 = .ok (.iconst 3, 1) := by decide +kernel
theorem dX12_readsOpen_10 : decode cX12_readsOpen 10 = .ok (.invokevirtual 231, 3) := by decide +kernel
theorem dX12_readsOpen_13 : decode cX12_readsOpen 13 = .ok (.ireturn, 1) := by decide +kernel
theorem dX12_readsOpen_14 : decode cX12_readsOpen 14 = .ok (.aload_n 0, 1) := by decide +kernel
theorem dX12_readsOpen_15 : decode cX12_readsOpen 15 = .ok (.invokevirtual 237, 3) := by decide +kernel
theorem dX12_readsOpen_18 : decode cX12_readsOpen 18 = .ok (.aload_n 0, 1) := by decide +kernel
theorem dX12_readsOpen_19 : decode cX12_readsOpen 19 = .ok (.invokevirtual 338, 3) := by decide +kernel
theorem dX12_readsOpen_22 : decode cX12_readsOpen 22 = .ok (.ifCond .ne 5, 3) := by decide +kernel
theorem dX12_readsOpen_25 : decode cX12_readsOpen 25 = .ok (.iconst 0, 1) := by decide +kernel
theorem dX12_readsOpen_26 : decode cX12_readsOpen 26 = .ok (.ireturn, 1) := by decide +kernel
theorem dX12_readsOpen_27 : decode cX12_readsOpen 27 = .ok (.aload_n 0, 1) := by decide +kernel
theorem dX12_readsOpen_28 : decode cX12_readsOpen 28 = .ok (.getfield 13, 3) := by decide +kernel
theorem dX12_readsOpen_31 : decode cX12_readsOpen 31 = .ok (.bipush 11, 2) := by decide +kernel
theorem dX12_readsOpen_33 : decode cX12_readsOpen 33 = .ok (.aload_n 0, 1) := by decide +kernel
theorem dX12_readsOpen_34 : decode cX12_readsOpen 34 = .ok (.getfield 335, 3) := by decide +kernel
theorem dX12_readsOpen_37 : decode cX12_readsOpen 37 = .ok (.iastore, 1) := by decide +kernel
theorem dX12_readsOpen_38 : decode cX12_readsOpen 38 = .ok (.aload_n 0, 1) := by decide +kernel
theorem dX12_readsOpen_39 : decode cX12_readsOpen 39 = .ok (.getfield 13, 3) := by decide +kernel
theorem dX12_readsOpen_42 : decode cX12_readsOpen 42 = .ok (.bipush 12, 2) := by decide +kernel
theorem dX12_readsOpen_44 : decode cX12_readsOpen 44 = .ok (.aload_n 0, 1) := by decide +kernel
theorem dX12_readsOpen_45 : decode cX12_readsOpen 45 = .ok (.getfield 297, 3) := by decide +kernel
theorem dX12_readsOpen_48 : decode cX12_readsOpen 48 = .ok (.iastore, 1) := by decide +kernel
theorem dX12_readsOpen_49 : decode cX12_readsOpen 49 = .ok (.aload_n 0, 1) := by decide +kernel
theorem dX12_readsOpen_50 : decode cX12_readsOpen 50 = .ok (.invokevirtual 322, 3) := by decide +kernel
theorem dX12_readsOpen_53 : decode cX12_readsOpen 53 = .ok (.ireturn, 1) := by decide +kernel
set_option maxRecDepth 20000 in
theorem ggX12_readsLaw_X12_fails : GoodIn wsX12_readsLaw wsX12_fails := goodIn_r _ [9, 10, 11, 60, 61, 62, 63, 64, 65, 66, 67, 68, 69, 70, 71, 72, 73, 74, 75, 76, 77, 78, 79, 80, 81, 82, 83, 84, 85, 86, 87, 88, 89, 90, 91, 92, 93, 94, 95, 96, 97, 98, 99, 100, 101, 102, 103, 104, 105, 106, 107, 108, 109, 110, 111, 112, 113, 114, 115, 116, 117, 118, 119, 120, 121, 122, 123, 124, 125, 126] (by decide +kernel) (by decide +kernel)
set_option maxRecDepth 20000 in
theorem gX12_readsLaw_X12_fails : GoodIn wsX12_readsLaw (wsV RX12 231 RX12 yX12_fails wsX12_fails) := goodIn_app (goodIn_of _ (by decide +kernel)) ggX12_readsLaw_X12_fails
set_option maxRecDepth 20000 in
theorem ggX12_readsLaw_X12_nextToken : GoodIn wsX12_readsLaw wsX12_nextToken := goodIn_r _ [15, 16, 17, 18, 10, 19, 20, 21, 22, 23, 24, 25, 26, 8, 27, 60, 61, 62, 63, 64, 65, 66, 67, 68, 69, 70, 71, 72, 73, 74, 75, 76, 77, 78, 79, 80, 81, 82, 83, 84, 85, 86, 87, 88, 89, 90, 91, 92, 93, 94, 95, 96, 97, 98, 99, 100, 101, 102, 103, 104, 105, 106, 107, 108, 109, 110, 111, 112, 113, 114, 115, 116, 117, 118, 119, 120, 121, 122, 123, 124, 125, 126] (by decide +kernel) (by decide +kernel)
set_option maxRecDepth 20000 in
theorem gX12_readsLaw_X12_nextToken : GoodIn wsX12_readsLaw (wsV RX12 237 RX12 yX12_nextToken wsX12_nextToken) := goodIn_app (goodIn_of _ (by decide +kernel)) ggX12_readsLaw_X12_nextToken
set_option maxRecDepth 20000 in
theorem ggX12_readsLaw_X12_reads : GoodIn wsX12_readsLaw wsX12_reads := goodIn_r _ [31, 32, 33, 21, 34, 20, 35, 36, 37, 38, 39, 8, 40, 19, 41, 3, 42, 43, 44, 45, 46, 47, 48, 49, 50, 51, 52, 53, 54, 18, 10, 5, 6, 7, 9, 11, 55, 56, 57, 58, 59, 4, 12, 13, 14, 15, 16, 17, 22, 23, 24, 25, 26, 27, 60, 61, 62, 63, 64, 65, 66, 67, 68, 69, 70, 71, 72, 73, 74, 75, 76, 77, 78, 79, 80, 81, 82, 83, 84, 85, 86, 87, 88, 89, 90, 91, 92, 93, 94, 95, 96, 97, 98, 99, 100, 101, 102, 103, 104, 105, 106, 107, 108, 109, 110, 111, 112, 113, 114, 115, 116, 117, 118, 119, 120, 121, 122, 123, 124, 125, 126] (by decide +kernel) (by decide +kernel)
set_option maxRecDepth 20000 in
theorem gX12_readsLaw_X12_reads : GoodIn wsX12_readsLaw (wsV RX12 341 RX12 yX12_reads wsX12_reads) := goodIn_app (goodIn_of _ (by decide +kernel)) ggX12_readsLaw_X12_reads
theorem dX12_readsLaw_0 : decode cX12_readsLaw 0 = .ok (.aload_n 0, 1) := by decide +kernel
theorem dX12_readsLaw_1 : decode cX12_readsLaw 1 = .ok (.getfield 50, 3) := by decide +kernel
theorem dX12_readsLaw_4 : decode cX12_readsLaw 4 = .ok (.iconst 2, 1) := by decide +kernel
theorem dX12_readsLaw_5 : decode cX12_readsLaw 5 = .ok (.iload_n 1, 1) := by decide +kernel
theorem dX12_readsLaw_6 : decode cX12_readsLaw 6 = .ok (.iadd, 1) := by decide +kernel
theorem dX12_readsLaw_7 : decode cX12_readsLaw 7 = .ok (.iaload, 1) := by decide +kernel
theorem dX12_readsLaw_8 : decode cX12_readsLaw 8 = .ok (.aload_n 0, 1) := by decide +kernel
theorem dX12_readsLaw_9 : decode cX12_readsLaw 9 = .ok (.getfield 47, 3) := by decide +kernel
theorem dX12_readsLaw_12 : decode cX12_readsLaw 12 = .ok (.iconst 2, 1) := by decide +kernel
theorem dX12_readsLaw_13 : decode cX12_readsLaw 13 = .ok (.iload_n 1, 1) := by decide +kernel
theorem dX12_readsLaw_14 : decode cX12_readsLaw 14 = .ok (.iadd, 1) := by decide +kernel
theorem dX12_readsLaw_15 : decode cX12_readsLaw 15 = .ok (.iaload, 1) := by decide +kernel
theorem dX12_readsLaw_16 : decode cX12_readsLaw 16 = .ok (.if_icmp .le 9, 3) := by decide +kernel
theorem dX12_readsLaw_19 : decode cX12_readsLaw 19 = .ok (.aload_n 0, 1) := by decide +kernel
theorem dX12_readsLaw_20 : decode cX12_readsLaw 20 = .ok (.iconst 3, 1) := by decide +kernel
theorem dX12_readsLaw_21 : decode cX12_readsLaw 21 = .ok (.invokevirtual 231, 3) := by decide +kernel
theorem dX12_readsLaw_24 : decode cX12_readsLaw 24 = .ok (.ireturn, 1) := by decide +kernel
theorem dX12_readsLaw_25 : decode cX12_readsLaw 25 = .ok (.aload_n 0, 1) := by decide +kernel
theorem dX12_readsLaw_26 : decode cX12_readsLaw 26 = .ok (.iload_n 1, 1) := by decide +kernel
theorem dX12_readsLaw_27 : decode cX12_readsLaw 27 = .ok (.putfield 204, 3) := by decide +kernel
theorem dX12_readsLaw_30 : decode cX12_readsLaw 30 = .ok (.aload_n 0, 1) := by decide +kernel
theorem dX12_readsLaw_31 : decode cX12_readsLaw 31 = .ok (.invokevirtual 237, 3) := by decide +kernel
theorem dX12_readsLaw_34 : decode cX12_readsLaw 34 = .ok (.aload_n 0, 1) := by decide +kernel
theorem dX12_readsLaw_35 : decode cX12_readsLaw 35 = .ok (.getfield 47, 3) := by decide +kernel
theorem dX12_readsLaw_38 : decode cX12_readsLaw 38 = .ok (.iconst 2, 1) := by decide +kernel
theorem dX12_readsLaw_39 : decode cX12_readsLaw 39 = .ok (.iload_n 1, 1) := by decide +kernel
theorem dX12_readsLaw_40 : decode cX12_readsLaw 40 = .ok (.iadd, 1) := by decide +kernel
theorem dX12_readsLaw_41 : decode cX12_readsLaw 41 = .ok (.aload_n 0, 1) := by decide +kernel
theorem dX12_readsLaw_42 : decode cX12_readsLaw 42 = .ok (.getfield 199, 3) := by decide +kernel
theorem dX12_readsLaw_45 : decode cX12_readsLaw 45 = .ok (.iastore, 1) := by decide +kernel
theorem dX12_readsLaw_46 : decode cX12_readsLaw 46 = .ok (.aload_n 0, 1) := by decide +kernel
theorem dX12_readsLaw_47 : decode cX12_readsLaw 47 = .ok (.invokevirtual 341, 3) := by decide +kernel
theorem dX12_readsLaw_50 : decode cX12_readsLaw 50 = .ok (.ifCond .ne 5, 3) := by decide +kernel
theorem dX12_readsLaw_53 : decode cX12_readsLaw 53 = .ok (.iconst 0, 1) := by decide +kernel
theorem dX12_readsLaw_54 : decode cX12_readsLaw 54 = .ok (.ireturn, 1) := by decide +kernel
theorem dX12_readsLaw_55 : decode cX12_readsLaw 55 = .ok (.aload_n 0, 1) := by decide +kernel
theorem dX12_readsLaw_56 : decode cX12_readsLaw 56 = .ok (.getfield 50, 3) := by decide +kernel
theorem dX12_readsLaw_59 : decode cX12_readsLaw 59 = .ok (.iconst 2, 1) := by decide +kernel
theorem dX12_readsLaw_60 : decode cX12_readsLaw 60 = .ok (.iload_n 1, 1) := by decide +kernel
theorem dX12_readsLaw_61 : decode cX12_readsLaw 61 = .ok (.iadd, 1) := by decide +kernel
theorem dX12_readsLaw_62 : decode cX12_readsLaw 62 = .ok (.aload_n 0, 1) := by decide +kernel
theorem dX12_readsLaw_63 : decode cX12_readsLaw 63 = .ok (.getfield 199, 3) := by decide +kernel
theorem dX12_readsLaw_66 : decode cX12_readsLaw 66 = .ok (.iastore, 1) := by decide +kernel
theorem dX12_readsLaw_67 : decode cX12_readsLaw 67 = .ok (.iconst 1, 1) := by decide +kernel
theorem dX12_readsLaw_68 : decode cX12_readsLaw 68 = .ok (.ireturn, 1) := by decide +kernel
set_option maxRecDepth 20000 in
theorem ggX12_begins0_X12_nextToken : GoodIn wsX12_begins0 wsX12_nextToken := goodIn_r _ [8, 3, 2, 9, 10, 11, 12, 13, 14, 15, 16, 17, 18, 7, 19, 20, 21, 22, 23, 24, 25, 26, 27, 28, 29, 30, 31, 32, 33, 34, 35, 36, 37, 38, 39, 40, 41, 42, 43, 44, 45, 46, 47, 48, 49, 50, 51, 52, 53, 54, 55, 56, 57, 58, 59, 60, 61, 62, 63, 64, 65, 66, 67, 68, 69, 70, 71, 72, 73, 74, 75, 76, 77, 78, 79, 80, 81, 82, 83, 84, 85, 86] (by decide +kernel) (by decide +kernel)
set_option maxRecDepth 20000 in
theorem gX12_begins0_X12_nextToken : GoodIn wsX12_begins0 (wsV RX12 237 RX12 yX12_nextToken wsX12_nextToken) := goodIn_app (goodIn_of _ (by decide +kernel)) ggX12_begins0_X12_nextToken
theorem dX12_begins0_0 : decode cX12_begins0 0 = .ok (.aload_n 0, 1) := by decide +kernel
theorem dX12_begins0_1 : decode cX12_begins0 1 = .ok (.aload_n 0, 1) := by decide +kernel
theorem dX12_begins0_2 : decode cX12_begins0 2 = .ok (.getfield 166, 3) := by decide +kernel
theorem dX12_begins0_5 : decode cX12_begins0 5 = .ok (.putfield 169, 3) := by decide +kernel
theorem dX12_begins0_8 : decode cX12_begins0 8 = .ok (.aload_n 0, 1) := by decide +kernel
theorem dX12_begins0_9 : decode cX12_begins0 9 = .ok (.iconst 0, 1) := by decide +kernel
theorem dX12_begins0_10 : decode cX12_begins0 10 = .ok (.putfield 166, 3) := by decide +kernel
theorem dX12_begins0_13 : decode cX12_begins0 13 = .ok (.aload_n 0, 1) := by decide +kernel
theorem dX12_begins0_14 : decode cX12_begins0 14 = .ok (.iconst 0, 1) := by decide +kernel
theorem dX12_begins0_15 : decode cX12_begins0 15 = .ok (.putfield 172, 3) := by decide +kernel
theorem dX12_begins0_18 : decode cX12_begins0 18 = .ok (.aload_n 0, 1) := by decide +kernel
theorem dX12_begins0_19 : decode cX12_begins0 19 = .ok (.invokevirtual 237, 3) := by decide +kernel
theorem dX12_begins0_22 : decode cX12_begins0 22 = .ok (.return_, 1) := by decide +kernel
set_option maxRecDepth 20000 in
theorem ggX12_readsAll_X12_usual : GoodIn wsX12_readsAll wsX12_usual := goodIn_r _ [18, 19, 167, 168, 169, 170, 171, 172, 173, 174, 175, 176, 177, 178, 179, 180, 181, 182, 183, 184, 185, 186, 187, 188, 189, 190, 191, 192, 193, 194, 195, 196, 197, 198, 199, 200, 201, 202, 203, 204, 205, 206, 207, 208, 209, 210, 211, 212, 213, 214, 215, 216, 217, 218, 219, 220, 221, 222, 223, 224, 225, 226, 227, 228, 229, 230, 231, 232, 233] (by decide +kernel) (by decide +kernel)
set_option maxRecDepth 20000 in
theorem gX12_readsAll_X12_usual : GoodIn wsX12_readsAll (wsV RX12 153 RX12 yX12_usual wsX12_usual) := goodIn_app (goodIn_of _ (by decide +kernel)) ggX12_readsAll_X12_usual
set_option maxRecDepth 20000 in
theorem ggX12_readsAll_X12_begins0 : GoodIn wsX12_readsAll wsX12_begins0 := goodIn_r _ [23, 24, 25, 26, 27, 28, 29, 17, 30, 31, 32, 33, 34, 5, 35, 36, 37, 38, 39, 40, 167, 168, 169, 170, 171, 172, 173, 174, 175, 176, 177, 178, 179, 180, 181, 182, 183, 184, 185, 186, 187, 188, 189, 190, 191, 192, 193, 194, 195, 196, 197, 198, 199, 200, 201, 202, 203, 204, 205, 206, 207, 208, 209, 210, 211, 212, 213, 214, 215, 216, 217, 218, 219, 220, 221, 222, 223, 224, 225, 226, 227, 228, 229, 230, 231, 232, 233] (by decide +kernel) (by decide +kernel)
set_option maxRecDepth 20000 in
theorem gX12_readsAll_X12_begins0 : GoodIn wsX12_readsAll (wsV RX12 344 RX12 yX12_begins0 wsX12_begins0) := goodIn_app (goodIn_of _ (by decide +kernel)) ggX12_readsAll_X12_begins0
set_option maxRecDepth 20000 in
theorem ggX12_readsAll_X12_isWord : GoodIn wsX12_readsAll wsX12_isWord := goodIn_r _ [44, 5, 33, 167, 168, 169, 170, 171, 172, 173, 174, 175, 176, 177, 178, 179, 180, 181, 182, 183, 184, 185, 186, 187, 188, 189, 190, 191, 192, 193, 194, 195, 196, 197, 198, 199, 200, 201, 202, 203, 204, 205, 206, 207, 208, 209, 210, 211, 212, 213, 214, 215, 216, 217, 218, 219, 220, 221, 222, 223, 224, 225, 226, 227, 228, 229, 230, 231, 232, 233] (by decide +kernel) (by decide +kernel)
set_option maxRecDepth 20000 in
theorem gX12_readsAll_X12_isWord : GoodIn wsX12_readsAll (wsV RX12 223 RX12 yX12_isWord wsX12_isWord) := goodIn_app (goodIn_of _ (by decide +kernel)) ggX12_readsAll_X12_isWord
set_option maxRecDepth 20000 in
theorem ggX12_readsAll_X12_readsTune : GoodIn wsX12_readsAll wsX12_readsTune := goodIn_r _ [48, 19, 49, 5, 34, 50, 51, 52, 53, 54, 55, 17, 56, 32, 57, 27, 28, 29, 30, 26, 25, 31, 33, 35, 36, 37, 38, 39, 40, 58, 59, 60, 61, 62, 63, 64, 65, 6, 7, 66, 67, 68, 69, 70, 8, 9, 10, 71, 11, 12, 13, 72, 73, 74, 75, 76, 77, 78, 79, 80, 81, 82, 83, 84, 85, 86, 87, 88, 89, 90, 91, 92, 93, 94, 95, 96, 97, 167, 168, 169, 170, 171, 172, 173, 174, 175, 176, 177, 178, 179, 180, 181, 182, 183, 184, 185, 186, 187, 188, 189, 190, 191, 192, 193, 194, 195, 196, 197, 198, 199, 200, 201, 202, 203, 204, 205, 206, 207, 208, 209, 210, 211, 212, 213, 214, 215, 216, 217, 218, 219, 220, 221, 222, 223, 224, 225, 226, 227, 228, 229, 230, 231, 232, 233] (by decide +kernel) (by decide +kernel)
set_option maxRecDepth 20000 in
theorem gX12_readsAll_X12_readsTune : GoodIn wsX12_readsAll (wsV RX12 347 RX12 yX12_readsTune wsX12_readsTune) := goodIn_app (goodIn_of _ (by decide +kernel)) ggX12_readsAll_X12_readsTune
set_option maxRecDepth 20000 in
theorem ggX12_readsAll_X12_readsPasser : GoodIn wsX12_readsAll wsX12_readsPasser := goodIn_r _ [101, 19, 52, 102, 74, 75, 76, 77, 66, 103, 67, 104, 105, 68, 106, 69, 107, 70, 108, 89, 53, 54, 55, 17, 56, 32, 57, 27, 28, 29, 30, 26, 25, 31, 33, 34, 5, 35, 36, 37, 38, 39, 40, 58, 59, 60, 61, 62, 63, 64, 65, 6, 7, 8, 9, 10, 71, 11, 12, 13, 72, 73, 78, 79, 80, 81, 82, 83, 84, 51, 85, 86, 87, 88, 41, 42, 43, 44, 109, 110, 111, 112, 113, 114, 115, 116, 117, 118, 119, 120, 121, 122, 123, 94, 95, 96, 97, 90, 91, 92, 93, 167, 168, 169, 170, 171, 172, 173, 174, 175, 176, 177, 178, 179, 180, 181, 182, 183, 184, 185, 186, 187, 188, 189, 190, 191, 192, 193, 194, 195, 196, 197, 198, 199, 200, 201, 202, 203, 204, 205, 206, 207, 208, 209, 210, 211, 212, 213, 214, 215, 216, 217, 218, 219, 220, 221, 222, 223, 224, 225, 226, 227, 228, 229, 230, 231, 232, 233] (by decide +kernel) (by decide +kernel)
set_option maxRecDepth 20000 in
theorem gX12_readsAll_X12_readsPasser : GoodIn wsX12_readsAll (wsV RX12 350 RX12 yX12_readsPasser wsX12_readsPasser) := goodIn_app (goodIn_of _ (by decide +kernel)) ggX12_readsAll_X12_readsPasser
set_option maxRecDepth 20000 in
theorem ggX12_readsAll_X12_readsOne : GoodIn wsX12_readsAll wsX12_readsOne := goodIn_r _ [127, 19, 105, 128, 129, 130, 17, 131, 3, 53, 54, 55, 56, 32, 57, 27, 28, 29, 30, 26, 25, 31, 33, 34, 5, 35, 36, 37, 38, 39, 40, 117, 118, 119, 120, 121, 122, 123, 94, 95, 96, 97, 90, 91, 92, 93, 167, 168, 169, 170, 171, 172, 173, 174, 175, 176, 177, 178, 179, 180, 181, 182, 183, 184, 185, 186, 187, 188, 189, 190, 191, 192, 193, 194, 195, 196, 197, 198, 199, 200, 201, 202, 203, 204, 205, 206, 207, 208, 209, 210, 211, 212, 213, 214, 215, 216, 217, 218, 219, 220, 221, 222, 223, 224, 225, 226, 227, 228, 229, 230, 231, 232, 233] (by decide +kernel) (by decide +kernel)
set_option maxRecDepth 20000 in
theorem gX12_readsAll_X12_readsOne : GoodIn wsX12_readsAll (wsV RX12 353 RX12 yX12_readsOne wsX12_readsOne) := goodIn_app (goodIn_of _ (by decide +kernel)) ggX12_readsAll_X12_readsOne
set_option maxRecDepth 20000 in
theorem ggX12_readsAll_X12_readsOpen : GoodIn wsX12_readsAll wsX12_readsOpen := goodIn_r _ [135, 19, 136, 105, 128, 129, 130, 17, 131, 3, 53, 54, 55, 56, 32, 57, 27, 28, 29, 30, 26, 25, 31, 33, 34, 5, 35, 36, 37, 38, 39, 40, 137, 138, 139, 140, 71, 117, 118, 119, 120, 121, 122, 123, 113, 114, 115, 116, 109, 110, 111, 112, 41, 42, 43, 44, 94, 95, 96, 97, 90, 91, 92, 93, 167, 168, 169, 170, 171, 172, 173, 174, 175, 176, 177, 178, 179, 180, 181, 182, 183, 184, 185, 186, 187, 188, 189, 190, 191, 192, 193, 194, 195, 196, 197, 198, 199, 200, 201, 202, 203, 204, 205, 206, 207, 208, 209, 210, 211, 212, 213, 214, 215, 216, 217, 218, 219, 220, 221, 222, 223, 224, 225, 226, 227, 228, 229, 230, 231, 232, 233] (by decide +kernel) (by decide +kernel)
set_option maxRecDepth 20000 in
theorem gX12_readsAll_X12_readsOpen : GoodIn wsX12_readsAll (wsV RX12 356 RX12 yX12_readsOpen wsX12_readsOpen) := goodIn_app (goodIn_of _ (by decide +kernel)) ggX12_readsAll_X12_readsOpen
set_option maxRecDepth 20000 in
theorem ggX12_readsAll_X12_readsLaw : GoodIn wsX12_readsAll wsX12_readsLaw := goodIn_r _ [144, 2, 1, 145, 4, 53, 54, 55, 17, 56, 32, 57, 27, 28, 29, 30, 26, 25, 31, 33, 34, 5, 35, 36, 37, 38, 39, 40, 146, 147, 148, 149, 150, 78, 151, 79, 80, 152, 153, 154, 155, 156, 157, 158, 159, 160, 161, 41, 42, 43, 44, 90, 91, 92, 93, 162, 163, 164, 165, 166, 167, 168, 169, 170, 171, 172, 173, 174, 175, 176, 177, 178, 179, 180, 181, 182, 183, 184, 185, 186, 187, 188, 189, 190, 191, 192, 193, 194, 195, 196, 197, 198, 199, 200, 201, 202, 203, 204, 205, 206, 207, 208, 209, 210, 211, 212, 213, 214, 215, 216, 217, 218, 219, 220, 221, 222, 223, 224, 225, 226, 227, 228, 229, 230, 231, 232, 233] (by decide +kernel) (by decide +kernel)
set_option maxRecDepth 20000 in
theorem gX12_readsAll_X12_readsLaw : GoodIn wsX12_readsAll (wsV RX12 359 RX12 yX12_readsLaw wsX12_readsLaw) := goodIn_app (goodIn_of _ (by decide +kernel)) ggX12_readsAll_X12_readsLaw
set_option maxRecDepth 20000 in
theorem ggX12_readsAll_X12_fails : GoodIn wsX12_readsAll wsX12_fails := goodIn_r _ [56, 32, 57, 167, 168, 169, 170, 171, 172, 173, 174, 175, 176, 177, 178, 179, 180, 181, 182, 183, 184, 185, 186, 187, 188, 189, 190, 191, 192, 193, 194, 195, 196, 197, 198, 199, 200, 201, 202, 203, 204, 205, 206, 207, 208, 209, 210, 211, 212, 213, 214, 215, 216, 217, 218, 219, 220, 221, 222, 223, 224, 225, 226, 227, 228, 229, 230, 231, 232, 233] (by decide +kernel) (by decide +kernel)
set_option maxRecDepth 20000 in
theorem gX12_readsAll_X12_fails : GoodIn wsX12_readsAll (wsV RX12 231 RX12 yX12_fails wsX12_fails) := goodIn_app (goodIn_of _ (by decide +kernel)) ggX12_readsAll_X12_fails
theorem dX12_readsAll_0 : decode cX12_readsAll 0 = .ok (.aload_n 0, 1) := by decide +kernel
theorem dX12_readsAll_1 : decode cX12_readsAll 1 = .ok (.iconst 1, 1) := by decide +kernel
theorem dX12_readsAll_2 : decode cX12_readsAll 2 = .ok (.invokevirtual 153, 3) := by decide +kernel
theorem dX12_readsAll_5 : decode cX12_readsAll 5 = .ok (.iconst 2, 1) := by decide +kernel
theorem dX12_readsAll_6 : decode cX12_readsAll 6 = .ok (.istore_n 1, 1) := by decide +kernel
theorem dX12_readsAll_7 : decode cX12_readsAll 7 = .ok (.iload_n 1, 1) := by decide +kernel
theorem dX12_readsAll_8 : decode cX12_readsAll 8 = .ok (.iconst 4, 1) := by decide +kernel
theorem dX12_readsAll_9 : decode cX12_readsAll 9 = .ok (.if_icmp .ge 27, 3) := by decide +kernel
theorem dX12_readsAll_12 : decode cX12_readsAll 12 = .ok (.aload_n 0, 1) := by decide +kernel
theorem dX12_readsAll_13 : decode cX12_readsAll 13 = .ok (.getfield 47, 3) := by decide +kernel
theorem dX12_readsAll_16 : decode cX12_readsAll 16 = .ok (.iload_n 1, 1) := by decide +kernel
theorem dX12_readsAll_17 : decode cX12_readsAll 17 = .ok (.sipush 1000, 3) := by decide +kernel
theorem dX12_readsAll_20 : decode cX12_readsAll 20 = .ok (.iastore, 1) := by decide +kernel
theorem dX12_readsAll_21 : decode cX12_readsAll 21 = .ok (.aload_n 0, 1) := by decide +kernel
theorem dX12_readsAll_22 : decode cX12_readsAll 22 = .ok (.getfield 50, 3) := by decide +kernel
theorem dX12_readsAll_25 : decode cX12_readsAll 25 = .ok (.iload_n 1, 1) := by decide +kernel
theorem dX12_readsAll_26 : decode cX12_readsAll 26 = .ok (.sipush 1000, 3) := by decide +kernel
theorem dX12_readsAll_29 : decode cX12_readsAll 29 = .ok (.iastore, 1) := by decide +kernel
theorem dX12_readsAll_30 : decode cX12_readsAll 30 = .ok (.iinc 1 1, 3) := by decide +kernel
theorem dX12_readsAll_33 : decode cX12_readsAll 33 = .ok (.goto (-26), 3) := by decide +kernel
theorem dX12_readsAll_36 : decode cX12_readsAll 36 = .ok (.aload_n 0, 1) := by decide +kernel
theorem dX12_readsAll_37 : decode cX12_readsAll 37 = .ok (.iconst 0, 1) := by decide +kernel
theorem dX12_readsAll_38 : decode cX12_readsAll 38 = .ok (.putfield 329, 3) := by decide +kernel
theorem dX12_readsAll_41 : decode cX12_readsAll 41 = .ok (.aload_n 0, 1) := by decide +kernel
theorem dX12_readsAll_42 : decode cX12_readsAll 42 = .ok (.sipush 1000, 3) := by decide +kernel
theorem dX12_readsAll_45 : decode cX12_readsAll 45 = .ok (.putfield 199, 3) := by decide +kernel
theorem dX12_readsAll_48 : decode cX12_readsAll 48 = .ok (.aload_n 0, 1) := by decide +kernel
theorem dX12_readsAll_49 : decode cX12_readsAll 49 = .ok (.invokevirtual 344, 3) := by decide +kernel
theorem dX12_readsAll_52 : decode cX12_readsAll 52 = .ok (.aload_n 0, 1) := by decide +kernel
theorem dX12_readsAll_53 : decode cX12_readsAll 53 = .ok (.getfield 185, 3) := by decide +kernel
theorem dX12_readsAll_56 : decode cX12_readsAll 56 = .ok (.ifCond .eq 170, 3) := by decide +kernel
theorem dX12_readsAll_59 : decode cX12_readsAll 59 = .ok (.aload_n 0, 1) := by decide +kernel
theorem dX12_readsAll_60 : decode cX12_readsAll 60 = .ok (.ldc2_w 253, 3) := by decide +kernel
theorem dX12_readsAll_63 : decode cX12_readsAll 63 = .ok (.invokevirtual 223, 3) := by decide +kernel
theorem dX12_readsAll_66 : decode cX12_readsAll 66 = .ok (.ifCond .eq 10, 3) := by decide +kernel
theorem dX12_readsAll_69 : decode cX12_readsAll 69 = .ok (.aload_n 0, 1) := by decide +kernel
theorem dX12_readsAll_70 : decode cX12_readsAll 70 = .ok (.invokevirtual 347, 3) := by decide +kernel
theorem dX12_readsAll_73 : decode cX12_readsAll 73 = .ok (.goto 143, 3) := by decide +kernel
theorem dX12_readsAll_76 : decode cX12_readsAll 76 = .ok (.aload_n 0, 1) := by decide +kernel
theorem dX12_readsAll_77 : decode cX12_readsAll 77 = .ok (.ldc2_w 255, 3) := by decide +kernel
theorem dX12_readsAll_80 : decode cX12_readsAll 80 = .ok (.invokevirtual 223, 3) := by decide +kernel
theorem dX12_readsAll_83 : decode cX12_readsAll 83 = .ok (.ifCond .eq 10, 3) := by decide +kernel
theorem dX12_readsAll_86 : decode cX12_readsAll 86 = .ok (.aload_n 0, 1) := by decide +kernel
theorem dX12_readsAll_87 : decode cX12_readsAll 87 = .ok (.invokevirtual 350, 3) := by decide +kernel
theorem dX12_readsAll_90 : decode cX12_readsAll 90 = .ok (.goto 126, 3) := by decide +kernel
theorem dX12_readsAll_93 : decode cX12_readsAll 93 = .ok (.aload_n 0, 1) := by decide +kernel
theorem dX12_readsAll_94 : decode cX12_readsAll 94 = .ok (.ldc2_w 267, 3) := by decide +kernel
theorem dX12_readsAll_97 : decode cX12_readsAll 97 = .ok (.invokevirtual 223, 3) := by decide +kernel
theorem dX12_readsAll_100 : decode cX12_readsAll 100 = .ok (.ifCond .eq 14, 3) := by decide +kernel
theorem dX12_readsAll_103 : decode cX12_readsAll 103 = .ok (.aload_n 0, 1) := by decide +kernel
theorem dX12_readsAll_104 : decode cX12_readsAll 104 = .ok (.iconst 2, 1) := by decide +kernel
theorem dX12_readsAll_105 : decode cX12_readsAll 105 = .ok (.iconst 0, 1) := by decide +kernel
theorem dX12_readsAll_106 : decode cX12_readsAll 106 = .ok (.bipush 59, 2) := by decide +kernel
theorem dX12_readsAll_108 : decode cX12_readsAll 108 = .ok (.invokevirtual 353, 3) := by decide +kernel
theorem dX12_readsAll_111 : decode cX12_readsAll 111 = .ok (.goto 105, 3) := by decide +kernel
theorem dX12_readsAll_114 : decode cX12_readsAll 114 = .ok (.aload_n 0, 1) := by decide +kernel
theorem dX12_readsAll_115 : decode cX12_readsAll 115 = .ok (.ldc2_w 269, 3) := by decide +kernel
theorem dX12_readsAll_118 : decode cX12_readsAll 118 = .ok (.invokevirtual 223, 3) := by decide +kernel
theorem dX12_readsAll_121 : decode cX12_readsAll 121 = .ok (.ifCond .eq 14, 3) := by decide +kernel
theorem dX12_readsAll_124 : decode cX12_readsAll 124 = .ok (.aload_n 0, 1) := by decide +kernel
theorem dX12_readsAll_125 : decode cX12_readsAll 125 = .ok (.iconst 3, 1) := by decide +kernel
theorem dX12_readsAll_126 : decode cX12_readsAll 126 = .ok (.iconst 1, 1) := by decide +kernel
theorem dX12_readsAll_127 : decode cX12_readsAll 127 = .ok (.bipush 30, 2) := by decide +kernel
theorem dX12_readsAll_129 : decode cX12_readsAll 129 = .ok (.invokevirtual 353, 3) := by decide +kernel
theorem dX12_readsAll_132 : decode cX12_readsAll 132 = .ok (.goto 84, 3) := by decide +kernel
theorem dX12_readsAll_135 : decode cX12_readsAll 135 = .ok (.aload_n 0, 1) := by decide +kernel
theorem dX12_readsAll_136 : decode cX12_readsAll 136 = .ok (.ldc2_w 271, 3) := by decide +kernel
theorem dX12_readsAll_139 : decode cX12_readsAll 139 = .ok (.invokevirtual 223, 3) := by decide +kernel
theorem dX12_readsAll_142 : decode cX12_readsAll 142 = .ok (.ifCond .eq 10, 3) := by decide +kernel
theorem dX12_readsAll_145 : decode cX12_readsAll 145 = .ok (.aload_n 0, 1) := by decide +kernel
theorem dX12_readsAll_146 : decode cX12_readsAll 146 = .ok (.invokevirtual 356, 3) := by decide +kernel
theorem dX12_readsAll_149 : decode cX12_readsAll 149 = .ok (.goto 67, 3) := by decide +kernel
theorem dX12_readsAll_152 : decode cX12_readsAll 152 = .ok (.aload_n 0, 1) := by decide +kernel
theorem dX12_readsAll_153 : decode cX12_readsAll 153 = .ok (.ldc2_w 275, 3) := by decide +kernel
theorem dX12_readsAll_156 : decode cX12_readsAll 156 = .ok (.invokevirtual 223, 3) := by decide +kernel
theorem dX12_readsAll_159 : decode cX12_readsAll 159 = .ok (.ifCond .eq 16, 3) := by decide +kernel
theorem dX12_readsAll_162 : decode cX12_readsAll 162 = .ok (.aload_n 0, 1) := by decide +kernel
theorem dX12_readsAll_163 : decode cX12_readsAll 163 = .ok (.bipush 6, 2) := by decide +kernel
theorem dX12_readsAll_165 : decode cX12_readsAll 165 = .ok (.iconst 0, 1) := by decide +kernel
theorem dX12_readsAll_166 : decode cX12_readsAll 166 = .ok (.sipush 999, 3) := by decide +kernel
theorem dX12_readsAll_169 : decode cX12_readsAll 169 = .ok (.invokevirtual 353, 3) := by decide +kernel
theorem dX12_readsAll_172 : decode cX12_readsAll 172 = .ok (.goto 44, 3) := by decide +kernel
theorem dX12_readsAll_175 : decode cX12_readsAll 175 = .ok (.aload_n 0, 1) := by decide +kernel
theorem dX12_readsAll_176 : decode cX12_readsAll 176 = .ok (.ldc2_w 277, 3) := by decide +kernel
theorem dX12_readsAll_179 : decode cX12_readsAll 179 = .ok (.invokevirtual 223, 3) := by decide +kernel
theorem dX12_readsAll_182 : decode cX12_readsAll 182 = .ok (.ifCond .eq 11, 3) := by decide +kernel
theorem dX12_readsAll_185 : decode cX12_readsAll 185 = .ok (.aload_n 0, 1) := by decide +kernel
theorem dX12_readsAll_186 : decode cX12_readsAll 186 = .ok (.iconst 0, 1) := by decide +kernel
theorem dX12_readsAll_187 : decode cX12_readsAll 187 = .ok (.invokevirtual 359, 3) := by decide +kernel
theorem dX12_readsAll_190 : decode cX12_readsAll 190 = .ok (.goto 26, 3) := by decide +kernel
theorem dX12_readsAll_193 : decode cX12_readsAll 193 = .ok (.aload_n 0, 1) := by decide +kernel
theorem dX12_readsAll_194 : decode cX12_readsAll 194 = .ok (.ldc2_w 279, 3) := by decide +kernel
theorem dX12_readsAll_197 : decode cX12_readsAll 197 = .ok (.invokevirtual 223, 3) := by decide +kernel
theorem dX12_readsAll_200 : decode cX12_readsAll 200 = .ok (.ifCond .eq 11, 3) := by decide +kernel
theorem dX12_readsAll_203 : decode cX12_readsAll 203 = .ok (.aload_n 0, 1) := by decide +kernel
theorem dX12_readsAll_204 : decode cX12_readsAll 204 = .ok (.iconst 1, 1) := by decide +kernel
theorem dX12_readsAll_205 : decode cX12_readsAll 205 = .ok (.invokevirtual 359, 3) := by decide +kernel
theorem dX12_readsAll_208 : decode cX12_readsAll 208 = .ok (.goto 8, 3) := by decide +kernel
theorem dX12_readsAll_211 : decode cX12_readsAll 211 = .ok (.aload_n 0, 1) := by decide +kernel
theorem dX12_readsAll_212 : decode cX12_readsAll 212 = .ok (.iconst 1, 1) := by decide +kernel
theorem dX12_readsAll_213 : decode cX12_readsAll 213 = .ok (.invokevirtual 231, 3) := by decide +kernel
theorem dX12_readsAll_216 : decode cX12_readsAll 216 = .ok (.istore_n 1, 1) := by decide +kernel
theorem dX12_readsAll_217 : decode cX12_readsAll 217 = .ok (.iload_n 1, 1) := by decide +kernel
theorem dX12_readsAll_218 : decode cX12_readsAll 218 = .ok (.ifCond .ne 5, 3) := by decide +kernel
theorem dX12_readsAll_221 : decode cX12_readsAll 221 = .ok (.iconst 0, 1) := by decide +kernel
theorem dX12_readsAll_222 : decode cX12_readsAll 222 = .ok (.ireturn, 1) := by decide +kernel
theorem dX12_readsAll_223 : decode cX12_readsAll 223 = .ok (.goto (-171), 3) := by decide +kernel
theorem dX12_readsAll_226 : decode cX12_readsAll 226 = .ok (.iconst 1, 1) := by decide +kernel
theorem dX12_readsAll_227 : decode cX12_readsAll 227 = .ok (.ireturn, 1) := by decide +kernel
theorem dX12_shifts_0 : decode cX12_shifts 0 = .ok (.iconst 0, 1) := by decide +kernel
theorem dX12_shifts_1 : decode cX12_shifts 1 = .ok (.istore_n 2, 1) := by decide +kernel
theorem dX12_shifts_2 : decode cX12_shifts 2 = .ok (.iload_n 2, 1) := by decide +kernel
theorem dX12_shifts_3 : decode cX12_shifts 3 = .ok (.iload_n 1, 1) := by decide +kernel
theorem dX12_shifts_4 : decode cX12_shifts 4 = .ok (.if_icmp .ge 17, 3) := by decide +kernel
theorem dX12_shifts_7 : decode cX12_shifts 7 = .ok (.aload_n 0, 1) := by decide +kernel
theorem dX12_shifts_8 : decode cX12_shifts 8 = .ok (.iload_n 2, 1) := by decide +kernel
theorem dX12_shifts_9 : decode cX12_shifts 9 = .ok (.aload_n 0, 1) := by decide +kernel
theorem dX12_shifts_10 : decode cX12_shifts 10 = .ok (.iload_n 1, 1) := by decide +kernel
theorem dX12_shifts_11 : decode cX12_shifts 11 = .ok (.iload_n 2, 1) := by decide +kernel
theorem dX12_shifts_12 : decode cX12_shifts 12 = .ok (.iadd, 1) := by decide +kernel
theorem dX12_shifts_13 : decode cX12_shifts 13 = .ok (.iaload, 1) := by decide +kernel
theorem dX12_shifts_14 : decode cX12_shifts 14 = .ok (.iastore, 1) := by decide +kernel
theorem dX12_shifts_15 : decode cX12_shifts 15 = .ok (.iinc 2 1, 3) := by decide +kernel
theorem dX12_shifts_18 : decode cX12_shifts 18 = .ok (.goto (-16), 3) := by decide +kernel
theorem dX12_shifts_21 : decode cX12_shifts 21 = .ok (.return_, 1) := by decide +kernel
set_option maxRecDepth 20000 in
theorem ggX12_lays_X12_shifts : GoodIn wsX12_lays wsX12_shifts := goodIn_r _ [16] (by decide +kernel) (by decide +kernel)
set_option maxRecDepth 20000 in
theorem gX12_lays_X12_shifts : GoodIn wsX12_lays (va_wsS RX12 362 yX12_shifts wsX12_shifts) := goodIn_app (goodIn_of _ (by decide +kernel)) ggX12_lays_X12_shifts
theorem dX12_lays_0 : decode cX12_lays 0 = .ok (.aload_n 0, 1) := by decide +kernel
theorem dX12_lays_1 : decode cX12_lays 1 = .ok (.getfield 13, 3) := by decide +kernel
theorem dX12_lays_4 : decode cX12_lays 4 = .ok (.bipush 7, 2) := by decide +kernel
