/-! tables of X11b (written by a program) -/
theorem dX11_reduce_0 : decode cX11_reduce 0 = .ok (.aload_n 0, 1) := by decide +kernel
theorem dX11_reduce_1 : decode cX11_reduce 1 = .ok (.aload_n 0, 1) := by decide +kernel
theorem dX11_reduce_2 : decode cX11_reduce 2 = .ok (.getfield 29, 3) := by decide +kernel
theorem dX11_reduce_5 : decode cX11_reduce 5 = .ok (.iload_n 1, 1) := by decide +kernel
theorem dX11_reduce_6 : decode cX11_reduce 6 = .ok (.iaload, 1) := by decide +kernel
theorem dX11_reduce_7 : decode cX11_reduce 7 = .ok (.putfield 191, 3) := by decide +kernel
theorem dX11_reduce_10 : decode cX11_reduce 10 = .ok (.iconst 0, 1) := by decide +kernel
theorem dX11_reduce_11 : decode cX11_reduce 11 = .ok (.istore 5, 2) := by decide +kernel
theorem dX11_reduce_13 : decode cX11_reduce 13 = .ok (.iload 5, 2) := by decide +kernel
theorem dX11_reduce_15 : decode cX11_reduce 15 = .ok (.aload_n 0, 1) := by decide +kernel
theorem dX11_reduce_16 : decode cX11_reduce 16 = .ok (.getfield 191, 3) := by decide +kernel
theorem dX11_reduce_19 : decode cX11_reduce 19 = .ok (.if_icmp .ge 72, 3) := by decide +kernel
theorem dX11_reduce_22 : decode cX11_reduce 22 = .ok (.aload_n 0, 1) := by decide +kernel
theorem dX11_reduce_23 : decode cX11_reduce 23 = .ok (.getfield 112, 3) := by decide +kernel
theorem dX11_reduce_26 : decode cX11_reduce 26 = .ok (.iload 5, 2) := by decide +kernel
theorem dX11_reduce_28 : decode cX11_reduce 28 = .ok (.aload_n 0, 1) := by decide +kernel
theorem dX11_reduce_29 : decode cX11_reduce 29 = .ok (.getfield 32, 3) := by decide +kernel
theorem dX11_reduce_32 : decode cX11_reduce 32 = .ok (.bipush 12, 2) := by decide +kernel
theorem dX11_reduce_34 : decode cX11_reduce 34 = .ok (.iload_n 1, 1) := by decide +kernel
theorem dX11_reduce_35 : decode cX11_reduce 35 = .ok (.imul, 1) := by decide +kernel
theorem dX11_reduce_36 : decode cX11_reduce 36 = .ok (.iload 5, 2) := by decide +kernel
theorem dX11_reduce_38 : decode cX11_reduce 38 = .ok (.iadd, 1) := by decide +kernel
theorem dX11_reduce_39 : decode cX11_reduce 39 = .ok (.iaload, 1) := by decide +kernel
theorem dX11_reduce_40 : decode cX11_reduce 40 = .ok (.iconst 4, 1) := by decide +kernel
theorem dX11_reduce_41 : decode cX11_reduce 41 = .ok (.iload_n 2, 1) := by decide +kernel
theorem dX11_reduce_42 : decode cX11_reduce 42 = .ok (.isub, 1) := by decide +kernel
theorem dX11_reduce_43 : decode cX11_reduce 43 = .ok (.ishr, 1) := by decide +kernel
theorem dX11_reduce_44 : decode cX11_reduce 44 = .ok (.iastore, 1) := by decide +kernel
theorem dX11_reduce_45 : decode cX11_reduce 45 = .ok (.aload_n 0, 1) := by decide +kernel
theorem dX11_reduce_46 : decode cX11_reduce 46 = .ok (.getfield 115, 3) := by decide +kernel
theorem dX11_reduce_49 : decode cX11_reduce 49 = .ok (.iload 5, 2) := by decide +kernel
theorem dX11_reduce_51 : decode cX11_reduce 51 = .ok (.aload_n 0, 1) := by decide +kernel
theorem dX11_reduce_52 : decode cX11_reduce 52 = .ok (.getfield 35, 3) := by decide +kernel
theorem dX11_reduce_55 : decode cX11_reduce 55 = .ok (.bipush 12, 2) := by decide +kernel
theorem dX11_reduce_57 : decode cX11_reduce 57 = .ok (.iload_n 1, 1) := by decide +kernel
theorem dX11_reduce_58 : decode cX11_reduce 58 = .ok (.imul, 1) := by decide +kernel
theorem dX11_reduce_59 : decode cX11_reduce 59 = .ok (.iload 5, 2) := by decide +kernel
theorem dX11_reduce_61 : decode cX11_reduce 61 = .ok (.iadd, 1) := by decide +kernel
theorem dX11_reduce_62 : decode cX11_reduce 62 = .ok (.iaload, 1) := by decide +kernel
theorem dX11_reduce_63 : decode cX11_reduce 63 = .ok (.iconst 4, 1) := by decide +kernel
theorem dX11_reduce_64 : decode cX11_reduce 64 = .ok (.iload_n 2, 1) := by decide +kernel
theorem dX11_reduce_65 : decode cX11_reduce 65 = .ok (.isub, 1) := by decide +kernel
theorem dX11_reduce_66 : decode cX11_reduce 66 = .ok (.ishr, 1) := by decide +kernel
theorem dX11_reduce_67 : decode cX11_reduce 67 = .ok (.iastore, 1) := by decide +kernel
theorem dX11_reduce_68 : decode cX11_reduce 68 = .ok (.aload_n 0, 1) := by decide +kernel
theorem dX11_reduce_69 : decode cX11_reduce 69 = .ok (.getfield 118, 3) := by decide +kernel
theorem dX11_reduce_72 : decode cX11_reduce 72 = .ok (.iload 5, 2) := by decide +kernel
theorem dX11_reduce_74 : decode cX11_reduce 74 = .ok (.iload 5, 2) := by decide +kernel
theorem dX11_reduce_76 : decode cX11_reduce 76 = .ok (.ifCond .ne 7, 3) := by decide +kernel
theorem dX11_reduce_79 : decode cX11_reduce 79 = .ok (.iconst 1, 1) := by decide +kernel
theorem dX11_reduce_80 : decode cX11_reduce 80 = .ok (.goto 4, 3) := by decide +kernel
theorem dX11_reduce_83 : decode cX11_reduce 83 = .ok (.iconst 0, 1) := by decide +kernel
theorem dX11_reduce_84 : decode cX11_reduce 84 = .ok (.bastore, 1) := by decide +kernel
theorem dX11_reduce_85 : decode cX11_reduce 85 = .ok (.iinc 5 1, 3) := by decide +kernel
theorem dX11_reduce_88 : decode cX11_reduce 88 = .ok (.goto (-75), 3) := by decide +kernel
theorem dX11_reduce_91 : decode cX11_reduce 91 = .ok (.aload_n 0, 1) := by decide +kernel
theorem dX11_reduce_92 : decode cX11_reduce 92 = .ok (.getfield 16, 3) := by decide +kernel
theorem dX11_reduce_95 : decode cX11_reduce 95 = .ok (.iload_n 1, 1) := by decide +kernel
theorem dX11_reduce_96 : decode cX11_reduce 96 = .ok (.iaload, 1) := by decide +kernel
theorem dX11_reduce_97 : decode cX11_reduce 97 = .ok (.iconst 2, 1) := by decide +kernel
theorem dX11_reduce_98 : decode cX11_reduce 98 = .ok (.if_icmp .ne 7, 3) := by decide +kernel
theorem dX11_reduce_101 : decode cX11_reduce 101 = .ok (.iconst 1, 1) := by decide +kernel
theorem dX11_reduce_102 : decode cX11_reduce 102 = .ok (.goto 4, 3) := by decide +kernel
theorem dX11_reduce_105 : decode cX11_reduce 105 = .ok (.iconst 0, 1) := by decide +kernel
theorem dX11_reduce_106 : decode cX11_reduce 106 = .ok (.istore 5, 2) := by decide +kernel
theorem dX11_reduce_108 : decode cX11_reduce 108 = .ok (.aload_n 0, 1) := by decide +kernel
theorem dX11_reduce_109 : decode cX11_reduce 109 = .ok (.getfield 16, 3) := by decide +kernel
theorem dX11_reduce_112 : decode cX11_reduce 112 = .ok (.iload_n 1, 1) := by decide +kernel
theorem dX11_reduce_113 : decode cX11_reduce 113 = .ok (.iaload, 1) := by decide +kernel
theorem dX11_reduce_114 : decode cX11_reduce 114 = .ok (.ifCond .ne 7, 3) := by decide +kernel
theorem dX11_reduce_117 : decode cX11_reduce 117 = .ok (.iconst 1, 1) := by decide +kernel
theorem dX11_reduce_118 : decode cX11_reduce 118 = .ok (.goto 13, 3) := by decide +kernel
theorem dX11_reduce_121 : decode cX11_reduce 121 = .ok (.iload 5, 2) := by decide +kernel
theorem dX11_reduce_123 : decode cX11_reduce 123 = .ok (.ifCond .eq 7, 3) := by decide +kernel
theorem dX11_reduce_126 : decode cX11_reduce 126 = .ok (.iconst 3, 1) := by decide +kernel
theorem dX11_reduce_127 : decode cX11_reduce 127 = .ok (.goto 4, 3) := by decide +kernel
theorem dX11_reduce_130 : decode cX11_reduce 130 = .ok (.iconst 2, 1) := by decide +kernel
theorem dX11_reduce_131 : decode cX11_reduce 131 = .ok (.istore 6, 2) := by decide +kernel
theorem dX11_reduce_133 : decode cX11_reduce 133 = .ok (.iload 5, 2) := by decide +kernel
theorem dX11_reduce_135 : decode cX11_reduce 135 = .ok (.ifCond .eq 53, 3) := by decide +kernel
theorem dX11_reduce_138 : decode cX11_reduce 138 = .ok (.aload_n 0, 1) := by decide +kernel
theorem dX11_reduce_139 : decode cX11_reduce 139 = .ok (.getfield 112, 3) := by decide +kernel
theorem dX11_reduce_142 : decode cX11_reduce 142 = .ok (.aload_n 0, 1) := by decide +kernel
theorem dX11_reduce_143 : decode cX11_reduce 143 = .ok (.getfield 191, 3) := by decide +kernel
theorem dX11_reduce_146 : decode cX11_reduce 146 = .ok (.aload_n 0, 1) := by decide +kernel
theorem dX11_reduce_147 : decode cX11_reduce 147 = .ok (.getfield 112, 3) := by decide +kernel
theorem dX11_reduce_150 : decode cX11_reduce 150 = .ok (.iconst 0, 1) := by decide +kernel
theorem dX11_reduce_151 : decode cX11_reduce 151 = .ok (.iaload, 1) := by decide +kernel
theorem dX11_reduce_152 : decode cX11_reduce 152 = .ok (.iastore, 1) := by decide +kernel
theorem dX11_reduce_153 : decode cX11_reduce 153 = .ok (.aload_n 0, 1) := by decide +kernel
theorem dX11_reduce_154 : decode cX11_reduce 154 = .ok (.getfield 115, 3) := by decide +kernel
theorem dX11_reduce_157 : decode cX11_reduce 157 = .ok (.aload_n 0, 1) := by decide +kernel
theorem dX11_reduce_158 : decode cX11_reduce 158 = .ok (.getfield 191, 3) := by decide +kernel
theorem dX11_reduce_161 : decode cX11_reduce 161 = .ok (.aload_n 0, 1) := by decide +kernel
theorem dX11_reduce_162 : decode cX11_reduce 162 = .ok (.getfield 115, 3) := by decide +kernel
theorem dX11_reduce_165 : decode cX11_reduce 165 = .ok (.iconst 0, 1) := by decide +kernel
theorem dX11_reduce_166 : decode cX11_reduce 166 = .ok (.iaload, 1) := by decide +kernel
theorem dX11_reduce_167 : decode cX11_reduce 167 = .ok (.iastore, 1) := by decide +kernel
theorem dX11_reduce_168 : decode cX11_reduce 168 = .ok (.aload_n 0, 1) := by decide +kernel
theorem dX11_reduce_169 : decode cX11_reduce 169 = .ok (.getfield 118, 3) := by decide +kernel
theorem dX11_reduce_172 : decode cX11_reduce 172 = .ok (.aload_n 0, 1) := by decide +kernel
theorem dX11_reduce_173 : decode cX11_reduce 173 = .ok (.getfield 191, 3) := by decide +kernel
theorem dX11_reduce_176 : decode cX11_reduce 176 = .ok (.iconst 0, 1) := by decide +kernel
theorem dX11_reduce_177 : decode cX11_reduce 177 = .ok (.bastore, 1) := by decide +kernel
theorem dX11_reduce_178 : decode cX11_reduce 178 = .ok (.aload_n 0, 1) := by decide +kernel
theorem dX11_reduce_179 : decode cX11_reduce 179 = .ok (.dup, 1) := by decide +kernel
theorem dX11_reduce_180 : decode cX11_reduce 180 = .ok (.getfield 191, 3) := by decide +kernel
theorem dX11_reduce_183 : decode cX11_reduce 183 = .ok (.iconst 1, 1) := by decide +kernel
theorem dX11_reduce_184 : decode cX11_reduce 184 = .ok (.iadd, 1) := by decide +kernel
theorem dX11_reduce_185 : decode cX11_reduce 185 = .ok (.putfield 191, 3) := by decide +kernel
theorem dX11_reduce_188 : decode cX11_reduce 188 = .ok (.aload_n 0, 1) := by decide +kernel
theorem dX11_reduce_189 : decode cX11_reduce 189 = .ok (.getfield 16, 3) := by decide +kernel
theorem dX11_reduce_192 : decode cX11_reduce 192 = .ok (.iload_n 1, 1) := by decide +kernel
theorem dX11_reduce_193 : decode cX11_reduce 193 = .ok (.iaload, 1) := by decide +kernel
theorem dX11_reduce_194 : decode cX11_reduce 194 = .ok (.ifCond .eq 13, 3) := by decide +kernel
theorem dX11_reduce_197 : decode cX11_reduce 197 = .ok (.aload_n 0, 1) := by decide +kernel
theorem dX11_reduce_198 : decode cX11_reduce 198 = .ok (.invokevirtual 227, 3) := by decide +kernel
theorem dX11_reduce_201 : decode cX11_reduce 201 = .ok (.aload_n 0, 1) := by decide +kernel
theorem dX11_reduce_202 : decode cX11_reduce 202 = .ok (.iload 5, 2) := by decide +kernel
theorem dX11_reduce_204 : decode cX11_reduce 204 = .ok (.invokevirtual 230, 3) := by decide +kernel
theorem dX11_reduce_207 : decode cX11_reduce 207 = .ok (.aload_n 0, 1) := by decide +kernel
theorem dX11_reduce_208 : decode cX11_reduce 208 = .ok (.getfield 191, 3) := by decide +kernel
theorem dX11_reduce_211 : decode cX11_reduce 211 = .ok (.iload 6, 2) := by decide +kernel
theorem dX11_reduce_213 : decode cX11_reduce 213 = .ok (.if_icmp .ge 8, 3) := by decide +kernel
theorem dX11_reduce_216 : decode cX11_reduce 216 = .ok (.aload_n 0, 1) := by decide +kernel
theorem dX11_reduce_217 : decode cX11_reduce 217 = .ok (.iconst 0, 1) := by decide +kernel
theorem dX11_reduce_218 : decode cX11_reduce 218 = .ok (.putfield 191, 3) := by decide +kernel
theorem dX11_reduce_221 : decode cX11_reduce 221 = .ok (.iconst 0, 1) := by decide +kernel
theorem dX11_reduce_222 : decode cX11_reduce 222 = .ok (.istore 7, 2) := by decide +kernel
theorem dX11_reduce_224 : decode cX11_reduce 224 = .ok (.iload 7, 2) := by decide +kernel
theorem dX11_reduce_226 : decode cX11_reduce 226 = .ok (.iconst 4, 1) := by decide +kernel
theorem dX11_reduce_227 : decode cX11_reduce 227 = .ok (.if_icmp .ge 104, 3) := by decide +kernel
theorem dX11_reduce_230 : decode cX11_reduce 230 = .ok (.sipush 256, 3) := by decide +kernel
theorem dX11_reduce_233 : decode cX11_reduce 233 = .ok (.iload 7, 2) := by decide +kernel
theorem dX11_reduce_235 : decode cX11_reduce 235 = .ok (.iconst 2, 1) := by decide +kernel
theorem dX11_reduce_236 : decode cX11_reduce 236 = .ok (.if_icmp .ge 7, 3) := by decide +kernel
theorem dX11_reduce_239 : decode cX11_reduce 239 = .ok (.iload_n 3, 1) := by decide +kernel
theorem dX11_reduce_240 : decode cX11_reduce 240 = .ok (.goto 5, 3) := by decide +kernel
theorem dX11_reduce_243 : decode cX11_reduce 243 = .ok (.iload 4, 2) := by decide +kernel
theorem dX11_reduce_245 : decode cX11_reduce 245 = .ok (.imul, 1) := by decide +kernel
theorem dX11_reduce_246 : decode cX11_reduce 246 = .ok (.iload 7, 2) := by decide +kernel
theorem dX11_reduce_248 : decode cX11_reduce 248 = .ok (.iconst 2, 1) := by decide +kernel
theorem dX11_reduce_249 : decode cX11_reduce 249 = .ok (.irem, 1) := by decide +kernel
theorem dX11_reduce_250 : decode cX11_reduce 250 = .ok (.ifCond .ne 8, 3) := by decide +kernel
theorem dX11_reduce_253 : decode cX11_reduce 253 = .ok (.bipush (-8), 2) := by decide +kernel
theorem dX11_reduce_255 : decode cX11_reduce 255 = .ok (.goto 6, 3) := by decide +kernel
theorem dX11_reduce_258 : decode cX11_reduce 258 = .ok (.sipush 264, 3) := by decide +kernel
theorem dX11_reduce_261 : decode cX11_reduce 261 = .ok (.iadd, 1) := by decide +kernel
theorem dX11_reduce_262 : decode cX11_reduce 262 = .ok (.istore 8, 2) := by decide +kernel
theorem dX11_reduce_264 : decode cX11_reduce 264 = .ok (.aload_n 0, 1) := by decide +kernel
theorem dX11_reduce_265 : decode cX11_reduce 265 = .ok (.getfield 16, 3) := by decide +kernel
theorem dX11_reduce_268 : decode cX11_reduce 268 = .ok (.iload_n 1, 1) := by decide +kernel
theorem dX11_reduce_269 : decode cX11_reduce 269 = .ok (.iaload, 1) := by decide +kernel
theorem dX11_reduce_270 : decode cX11_reduce 270 = .ok (.ifCond .ne 31, 3) := by decide +kernel
theorem dX11_reduce_273 : decode cX11_reduce 273 = .ok (.aload_n 0, 1) := by decide +kernel
theorem dX11_reduce_274 : decode cX11_reduce 274 = .ok (.getfield 191, 3) := by decide +kernel
theorem dX11_reduce_277 : decode cX11_reduce 277 = .ok (.iconst 1, 1) := by decide +kernel
theorem dX11_reduce_278 : decode cX11_reduce 278 = .ok (.if_icmp .ne 47, 3) := by decide +kernel
theorem dX11_reduce_281 : decode cX11_reduce 281 = .ok (.aload_n 0, 1) := by decide +kernel
theorem dX11_reduce_282 : decode cX11_reduce 282 = .ok (.iconst 0, 1) := by decide +kernel
theorem dX11_reduce_283 : decode cX11_reduce 283 = .ok (.iload 7, 2) := by decide +kernel
theorem dX11_reduce_285 : decode cX11_reduce 285 = .ok (.iload 8, 2) := by decide +kernel
theorem dX11_reduce_287 : decode cX11_reduce 287 = .ok (.invokevirtual 217, 3) := by decide +kernel
theorem dX11_reduce_290 : decode cX11_reduce 290 = .ok (.ifCond .ne 35, 3) := by decide +kernel
theorem dX11_reduce_293 : decode cX11_reduce 293 = .ok (.aload_n 0, 1) := by decide +kernel
theorem dX11_reduce_294 : decode cX11_reduce 294 = .ok (.iconst 0, 1) := by decide +kernel
theorem dX11_reduce_295 : decode cX11_reduce 295 = .ok (.putfield 191, 3) := by decide +kernel
theorem dX11_reduce_298 : decode cX11_reduce 298 = .ok (.goto 27, 3) := by decide +kernel
theorem dX11_reduce_301 : decode cX11_reduce 301 = .ok (.iload 5, 2) := by decide +kernel
theorem dX11_reduce_303 : decode cX11_reduce 303 = .ok (.ifCond .eq 14, 3) := by decide +kernel
theorem dX11_reduce_306 : decode cX11_reduce 306 = .ok (.aload_n 0, 1) := by decide +kernel
theorem dX11_reduce_307 : decode cX11_reduce 307 = .ok (.iload 7, 2) := by decide +kernel
theorem dX11_reduce_309 : decode cX11_reduce 309 = .ok (.iload 8, 2) := by decide +kernel
theorem dX11_reduce_311 : decode cX11_reduce 311 = .ok (.invokevirtual 234, 3) := by decide +kernel
theorem dX11_reduce_314 : decode cX11_reduce 314 = .ok (.goto 11, 3) := by decide +kernel
theorem dX11_reduce_317 : decode cX11_reduce 317 = .ok (.aload_n 0, 1) := by decide +kernel
theorem dX11_reduce_318 : decode cX11_reduce 318 = .ok (.iload 7, 2) := by decide +kernel
theorem dX11_reduce_320 : decode cX11_reduce 320 = .ok (.iload 8, 2) := by decide +kernel
theorem dX11_reduce_322 : decode cX11_reduce 322 = .ok (.invokevirtual 237, 3) := by decide +kernel
theorem dX11_reduce_325 : decode cX11_reduce 325 = .ok (.iinc 7 1, 3) := by decide +kernel
theorem dX11_reduce_328 : decode cX11_reduce 328 = .ok (.goto (-104), 3) := by decide +kernel
theorem dX11_reduce_331 : decode cX11_reduce 331 = .ok (.aload_n 0, 1) := by decide +kernel
theorem dX11_reduce_332 : decode cX11_reduce 332 = .ok (.getfield 16, 3) := by decide +kernel
theorem dX11_reduce_335 : decode cX11_reduce 335 = .ok (.iload_n 1, 1) := by decide +kernel
theorem dX11_reduce_336 : decode cX11_reduce 336 = .ok (.iaload, 1) := by decide +kernel
theorem dX11_reduce_337 : decode cX11_reduce 337 = .ok (.ifCond .ne 4, 3) := by decide +kernel
theorem dX11_reduce_340 : decode cX11_reduce 340 = .ok (.return_, 1) := by decide +kernel
theorem dX11_reduce_341 : decode cX11_reduce 341 = .ok (.aload_n 0, 1) := by decide +kernel
theorem dX11_reduce_342 : decode cX11_reduce 342 = .ok (.iload 5, 2) := by decide +kernel
theorem dX11_reduce_344 : decode cX11_reduce 344 = .ok (.invokevirtual 230, 3) := by decide +kernel
theorem dX11_reduce_347 : decode cX11_reduce 347 = .ok (.iload 5, 2) := by decide +kernel
theorem dX11_reduce_349 : decode cX11_reduce 349 = .ok (.ifCond .eq 16, 3) := by decide +kernel
theorem dX11_reduce_352 : decode cX11_reduce 352 = .ok (.aload_n 0, 1) := by decide +kernel
theorem dX11_reduce_353 : decode cX11_reduce 353 = .ok (.getfield 191, 3) := by decide +kernel
theorem dX11_reduce_356 : decode cX11_reduce 356 = .ok (.iconst 3, 1) := by decide +kernel
theorem dX11_reduce_357 : decode cX11_reduce 357 = .ok (.if_icmp .ge 8, 3) := by decide +kernel
theorem dX11_reduce_360 : decode cX11_reduce 360 = .ok (.aload_n 0, 1) := by decide +kernel
theorem dX11_reduce_361 : decode cX11_reduce 361 = .ok (.iconst 0, 1) := by decide +kernel
theorem dX11_reduce_362 : decode cX11_reduce 362 = .ok (.putfield 191, 3) := by decide +kernel
theorem dX11_reduce_365 : decode cX11_reduce 365 = .ok (.iload 5, 2) := by decide +kernel
theorem dX11_reduce_367 : decode cX11_reduce 367 = .ok (.ifCond .ne 7, 3) := by decide +kernel
theorem dX11_reduce_370 : decode cX11_reduce 370 = .ok (.aload_n 0, 1) := by decide +kernel
theorem dX11_reduce_371 : decode cX11_reduce 371 = .ok (.invokevirtual 224, 3) := by decide +kernel
theorem dX11_reduce_374 : decode cX11_reduce 374 = .ok (.return_, 1) := by decide +kernel
def tb_144 (pc : Nat) : Option mEnt := bif Nat.ble pc 173 then (bif Nat.ble pc 80 then (bif Nat.ble pc 41 then (bif Nat.ble pc 19 then (bif Nat.ble pc 7 then (bif Nat.ble pc 2 then (bif Nat.ble pc 0 then (bif Nat.beq pc 0 then some (.inl (o_al 0 1)) else none) else (bif Nat.ble pc 1 then (bif Nat.beq pc 1 then some (.inl (o_al 0 1)) else none) else (bif Nat.beq pc 2 then some (.inl (o_gP 11 6)) else none))) else (bif Nat.ble pc 5 then (bif Nat.beq pc 5 then some (.inl (o_il 1 1)) else none) else (bif Nat.ble pc 6 then (bif Nat.beq pc 6 then some (.inl (o_iald)) else none) else (bif Nat.beq pc 7 then some (.inl (o_pI 11 43)) else none)))) else (bif Nat.ble pc 13 then (bif Nat.ble pc 10 then (bif Nat.beq pc 10 then some (.inl (oS 1 (s_push (.int 0)))) else none) else (bif Nat.ble pc 11 then (bif Nat.beq pc 11 then some (.inl (o_is 5 2)) else none) else (bif Nat.beq pc 13 then some (.inl (o_il 5 2)) else none))) else (bif Nat.ble pc 15 then (bif Nat.beq pc 15 then some (.inl (o_al 0 1)) else none) else (bif Nat.ble pc 16 then (bif Nat.beq pc 16 then some (.inl (o_gI 11 43)) else none) else (bif Nat.beq pc 19 then some (.inl (o_cge 91)) else none))))) else (bif Nat.ble pc 32 then (bif Nat.ble pc 26 then (bif Nat.ble pc 22 then (bif Nat.beq pc 22 then some (.inl (o_al 0 1)) else none) else (bif Nat.ble pc 23 then (bif Nat.beq pc 23 then some (.inl (o_gP 11 40)) else none) else (bif Nat.beq pc 26 then some (.inl (o_il 5 2)) else none))) else (bif Nat.ble pc 28 then (bif Nat.beq pc 28 then some (.inl (o_al 0 1)) else none) else (bif Nat.ble pc 29 then (bif Nat.beq pc 29 then some (.inl (o_gP 11 7)) else none) else (bif Nat.beq pc 32 then some (.inl (oS 2 (s_push (.int 12)))) else none)))) else (bif Nat.ble pc 36 then (bif Nat.ble pc 34 then (bif Nat.beq pc 34 then some (.inl (o_il 1 1)) else none) else (bif Nat.ble pc 35 then (bif Nat.beq pc 35 then some (.inl (oS 1 (s_ii (fun a b => a * b)))) else none) else (bif Nat.beq pc 36 then some (.inl (o_il 5 2)) else none))) else (bif Nat.ble pc 39 then (bif Nat.ble pc 38 then (bif Nat.beq pc 38 then some (.inl (oS 1 (s_ii (fun a b => a + b)))) else none) else (bif Nat.beq pc 39 then some (.inl (o_iald)) else none)) else (bif Nat.ble pc 40 then (bif Nat.beq pc 40 then some (.inl (oS 1 (s_push (.int 4)))) else none) else (bif Nat.beq pc 41 then some (.inl (o_il 2 1)) else none)))))) else (bif Nat.ble pc 61 then (bif Nat.ble pc 49 then (bif Nat.ble pc 44 then (bif Nat.ble pc 42 then (bif Nat.beq pc 42 then some (.inl (oS 1 (s_ii (fun a b => a - b)))) else none) else (bif Nat.ble pc 43 then (bif Nat.beq pc 43 then some (.inl (oS 1 (s_ii (fun a b => a >>> (b &&& 31))))) else none) else (bif Nat.beq pc 44 then some (.inl (o_iast)) else none))) else (bif Nat.ble pc 45 then (bif Nat.beq pc 45 then some (.inl (o_al 0 1)) else none) else (bif Nat.ble pc 46 then (bif Nat.beq pc 46 then some (.inl (o_gP 11 41)) else none) else (bif Nat.beq pc 49 then some (.inl (o_il 5 2)) else none)))) else (bif Nat.ble pc 55 then (bif Nat.ble pc 51 then (bif Nat.beq pc 51 then some (.inl (o_al 0 1)) else none) else (bif Nat.ble pc 52 then (bif Nat.beq pc 52 then some (.inl (o_gP 11 8)) else none) else (bif Nat.beq pc 55 then some (.inl (oS 2 (s_push (.int 12)))) else none))) else (bif Nat.ble pc 58 then (bif Nat.ble pc 57 then (bif Nat.beq pc 57 then some (.inl (o_il 1 1)) else none) else (bif Nat.beq pc 58 then some (.inl (oS 1 (s_ii (fun a b => a * b)))) else none)) else (bif Nat.ble pc 59 then (bif Nat.beq pc 59 then some (.inl (o_il 5 2)) else none) else (bif Nat.beq pc 61 then some (.inl (oS 1 (s_ii (fun a b => a + b)))) else none))))) else (bif Nat.ble pc 67 then (bif Nat.ble pc 64 then (bif Nat.ble pc 62 then (bif Nat.beq pc 62 then some (.inl (o_iald)) else none) else (bif Nat.ble pc 63 then (bif Nat.beq pc 63 then some (.inl (oS 1 (s_push (.int 4)))) else none) else (bif Nat.beq pc 64 then some (.inl (o_il 2 1)) else none))) else (bif Nat.ble pc 65 then (bif Nat.beq pc 65 then some (.inl (oS 1 (s_ii (fun a b => a - b)))) else none) else (bif Nat.ble pc 66 then (bif Nat.beq pc 66 then some (.inl (oS 1 (s_ii (fun a b => a >>> (b &&& 31))))) else none) else (bif Nat.beq pc 67 then some (.inl (o_iast)) else none)))) else (bif Nat.ble pc 72 then (bif Nat.ble pc 68 then (bif Nat.beq pc 68 then some (.inl (o_al 0 1)) else none) else (bif Nat.ble pc 69 then (bif Nat.beq pc 69 then some (.inl (o_gP 11 42)) else none) else (bif Nat.beq pc 72 then some (.inl (o_il 5 2)) else none))) else (bif Nat.ble pc 76 then (bif Nat.ble pc 74 then (bif Nat.beq pc 74 then some (.inl (o_il 5 2)) else none) else (bif Nat.beq pc 76 then some (.inl (o_zne 83)) else none)) else (bif Nat.ble pc 79 then (bif Nat.beq pc 79 then some (.inl (oS 1 (s_push (.int 1)))) else none) else (bif Nat.beq pc 80 then some (.inl (o_goto 84)) else none))))))) else (bif Nat.ble pc 127 then (bif Nat.ble pc 102 then (bif Nat.ble pc 92 then (bif Nat.ble pc 85 then (bif Nat.ble pc 83 then (bif Nat.beq pc 83 then some (.inl (oS 1 (s_push (.int 0)))) else none) else (bif Nat.ble pc 84 then (bif Nat.beq pc 84 then some (.inl (o_bast)) else none) else (bif Nat.beq pc 85 then some (.inl (o_inc 5 1)) else none))) else (bif Nat.ble pc 88 then (bif Nat.beq pc 88 then some (.inl (o_goto 13)) else none) else (bif Nat.ble pc 91 then (bif Nat.beq pc 91 then some (.inl (o_al 0 1)) else none) else (bif Nat.beq pc 92 then some (.inl (o_gP 11 2)) else none)))) else (bif Nat.ble pc 97 then (bif Nat.ble pc 95 then (bif Nat.beq pc 95 then some (.inl (o_il 1 1)) else none) else (bif Nat.ble pc 96 then (bif Nat.beq pc 96 then some (.inl (o_iald)) else none) else (bif Nat.beq pc 97 then some (.inl (oS 1 (s_push (.int 2)))) else none))) else (bif Nat.ble pc 98 then (bif Nat.beq pc 98 then some (.inl (o_cne 105)) else none) else (bif Nat.ble pc 101 then (bif Nat.beq pc 101 then some (.inl (oS 1 (s_push (.int 1)))) else none) else (bif Nat.beq pc 102 then some (.inl (o_goto 106)) else none))))) else (bif Nat.ble pc 113 then (bif Nat.ble pc 108 then (bif Nat.ble pc 105 then (bif Nat.beq pc 105 then some (.inl (oS 1 (s_push (.int 0)))) else none) else (bif Nat.ble pc 106 then (bif Nat.beq pc 106 then some (.inl (o_is 5 2)) else none) else (bif Nat.beq pc 108 then some (.inl (o_al 0 1)) else none))) else (bif Nat.ble pc 109 then (bif Nat.beq pc 109 then some (.inl (o_gP 11 2)) else none) else (bif Nat.ble pc 112 then (bif Nat.beq pc 112 then some (.inl (o_il 1 1)) else none) else (bif Nat.beq pc 113 then some (.inl (o_iald)) else none)))) else (bif Nat.ble pc 118 then (bif Nat.ble pc 114 then (bif Nat.beq pc 114 then some (.inl (o_zne 121)) else none) else (bif Nat.ble pc 117 then (bif Nat.beq pc 117 then some (.inl (oS 1 (s_push (.int 1)))) else none) else (bif Nat.beq pc 118 then some (.inl (o_goto 131)) else none))) else (bif Nat.ble pc 123 then (bif Nat.ble pc 121 then (bif Nat.beq pc 121 then some (.inl (o_il 5 2)) else none) else (bif Nat.beq pc 123 then some (.inl (o_zeq 130)) else none)) else (bif Nat.ble pc 126 then (bif Nat.beq pc 126 then some (.inl (oS 1 (s_push (.int 3)))) else none) else (bif Nat.beq pc 127 then some (.inl (o_goto 131)) else none)))))) else (bif Nat.ble pc 152 then (bif Nat.ble pc 139 then (bif Nat.ble pc 133 then (bif Nat.ble pc 130 then (bif Nat.beq pc 130 then some (.inl (oS 1 (s_push (.int 2)))) else none) else (bif Nat.ble pc 131 then (bif Nat.beq pc 131 then some (.inl (o_is 6 2)) else none) else (bif Nat.beq pc 133 then some (.inl (o_il 5 2)) else none))) else (bif Nat.ble pc 135 then (bif Nat.beq pc 135 then some (.inl (o_zeq 188)) else none) else (bif Nat.ble pc 138 then (bif Nat.beq pc 138 then some (.inl (o_al 0 1)) else none) else (bif Nat.beq pc 139 then some (.inl (o_gP 11 40)) else none)))) else (bif Nat.ble pc 146 then (bif Nat.ble pc 142 then (bif Nat.beq pc 142 then some (.inl (o_al 0 1)) else none) else (bif Nat.ble pc 143 then (bif Nat.beq pc 143 then some (.inl (o_gI 11 43)) else none) else (bif Nat.beq pc 146 then some (.inl (o_al 0 1)) else none))) else (bif Nat.ble pc 150 then (bif Nat.ble pc 147 then (bif Nat.beq pc 147 then some (.inl (o_gP 11 40)) else none) else (bif Nat.beq pc 150 then some (.inl (oS 1 (s_push (.int 0)))) else none)) else (bif Nat.ble pc 151 then (bif Nat.beq pc 151 then some (.inl (o_iald)) else none) else (bif Nat.beq pc 152 then some (.inl (o_iast)) else none))))) else (bif Nat.ble pc 162 then (bif Nat.ble pc 157 then (bif Nat.ble pc 153 then (bif Nat.beq pc 153 then some (.inl (o_al 0 1)) else none) else (bif Nat.ble pc 154 then (bif Nat.beq pc 154 then some (.inl (o_gP 11 41)) else none) else (bif Nat.beq pc 157 then some (.inl (o_al 0 1)) else none))) else (bif Nat.ble pc 158 then (bif Nat.beq pc 158 then some (.inl (o_gI 11 43)) else none) else (bif Nat.ble pc 161 then (bif Nat.beq pc 161 then some (.inl (o_al 0 1)) else none) else (bif Nat.beq pc 162 then some (.inl (o_gP 11 41)) else none)))) else (bif Nat.ble pc 167 then (bif Nat.ble pc 165 then (bif Nat.beq pc 165 then some (.inl (oS 1 (s_push (.int 0)))) else none) else (bif Nat.ble pc 166 then (bif Nat.beq pc 166 then some (.inl (o_iald)) else none) else (bif Nat.beq pc 167 then some (.inl (o_iast)) else none))) else (bif Nat.ble pc 169 then (bif Nat.ble pc 168 then (bif Nat.beq pc 168 then some (.inl (o_al 0 1)) else none) else (bif Nat.beq pc 169 then some (.inl (o_gP 11 42)) else none)) else (bif Nat.ble pc 172 then (bif Nat.beq pc 172 then some (.inl (o_al 0 1)) else none) else (bif Nat.beq pc 173 then some (.inl (o_gI 11 43)) else none)))))))) else (bif Nat.ble pc 269 then (bif Nat.ble pc 218 then (bif Nat.ble pc 193 then (bif Nat.ble pc 183 then (bif Nat.ble pc 178 then (bif Nat.ble pc 176 then (bif Nat.beq pc 176 then some (.inl (oS 1 (s_push (.int 0)))) else none) else (bif Nat.ble pc 177 then (bif Nat.beq pc 177 then some (.inl (o_bast)) else none) else (bif Nat.beq pc 178 then some (.inl (o_al 0 1)) else none))) else (bif Nat.ble pc 179 then (bif Nat.beq pc 179 then some (.inl (oS 1 s_dup)) else none) else (bif Nat.ble pc 180 then (bif Nat.beq pc 180 then some (.inl (o_gI 11 43)) else none) else (bif Nat.beq pc 183 then some (.inl (oS 1 (s_push (.int 1)))) else none)))) else (bif Nat.ble pc 188 then (bif Nat.ble pc 184 then (bif Nat.beq pc 184 then some (.inl (oS 1 (s_ii (fun a b => a + b)))) else none) else (bif Nat.ble pc 185 then (bif Nat.beq pc 185 then some (.inl (o_pI 11 43)) else none) else (bif Nat.beq pc 188 then some (.inl (o_al 0 1)) else none))) else (bif Nat.ble pc 189 then (bif Nat.beq pc 189 then some (.inl (o_gP 11 2)) else none) else (bif Nat.ble pc 192 then (bif Nat.beq pc 192 then some (.inl (o_il 1 1)) else none) else (bif Nat.beq pc 193 then some (.inl (o_iald)) else none))))) else (bif Nat.ble pc 204 then (bif Nat.ble pc 198 then (bif Nat.ble pc 194 then (bif Nat.beq pc 194 then some (.inl (o_zeq 207)) else none) else (bif Nat.ble pc 197 then (bif Nat.beq pc 197 then some (.inl (o_al 0 1)) else none) else (bif Nat.beq pc 198 then some (.inr (3, 133, 1, 11)) else none))) else (bif Nat.ble pc 201 then (bif Nat.beq pc 201 then some (.inl (o_al 0 1)) else none) else (bif Nat.ble pc 202 then (bif Nat.beq pc 202 then some (.inl (o_il 5 2)) else none) else (bif Nat.beq pc 204 then some (.inr (3, 136, 2, 11)) else none)))) else (bif Nat.ble pc 211 then (bif Nat.ble pc 207 then (bif Nat.beq pc 207 then some (.inl (o_al 0 1)) else none) else (bif Nat.ble pc 208 then (bif Nat.beq pc 208 then some (.inl (o_gI 11 43)) else none) else (bif Nat.beq pc 211 then some (.inl (o_il 6 2)) else none))) else (bif Nat.ble pc 216 then (bif Nat.ble pc 213 then (bif Nat.beq pc 213 then some (.inl (o_cge 221)) else none) else (bif Nat.beq pc 216 then some (.inl (o_al 0 1)) else none)) else (bif Nat.ble pc 217 then (bif Nat.beq pc 217 then some (.inl (oS 1 (s_push (.int 0)))) else none) else (bif Nat.beq pc 218 then some (.inl (o_pI 11 43)) else none)))))) else (bif Nat.ble pc 245 then (bif Nat.ble pc 230 then (bif Nat.ble pc 224 then (bif Nat.ble pc 221 then (bif Nat.beq pc 221 then some (.inl (oS 1 (s_push (.int 0)))) else none) else (bif Nat.ble pc 222 then (bif Nat.beq pc 222 then some (.inl (o_is 7 2)) else none) else (bif Nat.beq pc 224 then some (.inl (o_il 7 2)) else none))) else (bif Nat.ble pc 226 then (bif Nat.beq pc 226 then some (.inl (oS 1 (s_push (.int 4)))) else none) else (bif Nat.ble pc 227 then (bif Nat.beq pc 227 then some (.inl (o_cge 331)) else none) else (bif Nat.beq pc 230 then some (.inl (oS 3 (s_push (.int 256)))) else none)))) else (bif Nat.ble pc 236 then (bif Nat.ble pc 233 then (bif Nat.beq pc 233 then some (.inl (o_il 7 2)) else none) else (bif Nat.ble pc 235 then (bif Nat.beq pc 235 then some (.inl (oS 1 (s_push (.int 2)))) else none) else (bif Nat.beq pc 236 then some (.inl (o_cge 243)) else none))) else (bif Nat.ble pc 240 then (bif Nat.ble pc 239 then (bif Nat.beq pc 239 then some (.inl (o_il 3 1)) else none) else (bif Nat.beq pc 240 then some (.inl (o_goto 245)) else none)) else (bif Nat.ble pc 243 then (bif Nat.beq pc 243 then some (.inl (o_il 4 2)) else none) else (bif Nat.beq pc 245 then some (.inl (oS 1 (s_ii (fun a b => a * b)))) else none))))) else (bif Nat.ble pc 255 then (bif Nat.ble pc 249 then (bif Nat.ble pc 246 then (bif Nat.beq pc 246 then some (.inl (o_il 7 2)) else none) else (bif Nat.ble pc 248 then (bif Nat.beq pc 248 then some (.inl (oS 1 (s_push (.int 2)))) else none) else (bif Nat.beq pc 249 then some (.inl (oS 1 (s_iiz (fun a b => a - a / b * b)))) else none))) else (bif Nat.ble pc 250 then (bif Nat.beq pc 250 then some (.inl (o_zne 258)) else none) else (bif Nat.ble pc 253 then (bif Nat.beq pc 253 then some (.inl (oS 2 (s_push (.int (-8))))) else none) else (bif Nat.beq pc 255 then some (.inl (o_goto 261)) else none)))) else (bif Nat.ble pc 262 then (bif Nat.ble pc 258 then (bif Nat.beq pc 258 then some (.inl (oS 3 (s_push (.int 264)))) else none) else (bif Nat.ble pc 261 then (bif Nat.beq pc 261 then some (.inl (oS 1 (s_ii (fun a b => a + b)))) else none) else (bif Nat.beq pc 262 then some (.inl (o_is 8 2)) else none))) else (bif Nat.ble pc 265 then (bif Nat.ble pc 264 then (bif Nat.beq pc 264 then some (.inl (o_al 0 1)) else none) else (bif Nat.beq pc 265 then some (.inl (o_gP 11 2)) else none)) else (bif Nat.ble pc 268 then (bif Nat.beq pc 268 then some (.inl (o_il 1 1)) else none) else (bif Nat.beq pc 269 then some (.inl (o_iald)) else none))))))) else (bif Nat.ble pc 320 then (bif Nat.ble pc 293 then (bif Nat.ble pc 281 then (bif Nat.ble pc 274 then (bif Nat.ble pc 270 then (bif Nat.beq pc 270 then some (.inl (o_zne 301)) else none) else (bif Nat.ble pc 273 then (bif Nat.beq pc 273 then some (.inl (o_al 0 1)) else none) else (bif Nat.beq pc 274 then some (.inl (o_gI 11 43)) else none))) else (bif Nat.ble pc 277 then (bif Nat.beq pc 277 then some (.inl (oS 1 (s_push (.int 1)))) else none) else (bif Nat.ble pc 278 then (bif Nat.beq pc 278 then some (.inl (o_cne 325)) else none) else (bif Nat.beq pc 281 then some (.inl (o_al 0 1)) else none)))) else (bif Nat.ble pc 285 then (bif Nat.ble pc 282 then (bif Nat.beq pc 282 then some (.inl (oS 1 (s_push (.int 0)))) else none) else (bif Nat.ble pc 283 then (bif Nat.beq pc 283 then some (.inl (o_il 7 2)) else none) else (bif Nat.beq pc 285 then some (.inl (o_il 8 2)) else none))) else (bif Nat.ble pc 287 then (bif Nat.beq pc 287 then some (.inr (3, 138, 4, 11)) else none) else (bif Nat.ble pc 290 then (bif Nat.beq pc 290 then some (.inl (o_zne 325)) else none) else (bif Nat.beq pc 293 then some (.inl (o_al 0 1)) else none))))) else (bif Nat.ble pc 306 then (bif Nat.ble pc 298 then (bif Nat.ble pc 294 then (bif Nat.beq pc 294 then some (.inl (oS 1 (s_push (.int 0)))) else none) else (bif Nat.ble pc 295 then (bif Nat.beq pc 295 then some (.inl (o_pI 11 43)) else none) else (bif Nat.beq pc 298 then some (.inl (o_goto 325)) else none))) else (bif Nat.ble pc 301 then (bif Nat.beq pc 301 then some (.inl (o_il 5 2)) else none) else (bif Nat.ble pc 303 then (bif Nat.beq pc 303 then some (.inl (o_zeq 317)) else none) else (bif Nat.beq pc 306 then some (.inl (o_al 0 1)) else none)))) else (bif Nat.ble pc 311 then (bif Nat.ble pc 307 then (bif Nat.beq pc 307 then some (.inl (o_il 7 2)) else none) else (bif Nat.ble pc 309 then (bif Nat.beq pc 309 then some (.inl (o_il 8 2)) else none) else (bif Nat.beq pc 311 then some (.inr (3, 143, 3, 11)) else none))) else (bif Nat.ble pc 317 then (bif Nat.ble pc 314 then (bif Nat.beq pc 314 then some (.inl (o_goto 325)) else none) else (bif Nat.beq pc 317 then some (.inl (o_al 0 1)) else none)) else (bif Nat.ble pc 318 then (bif Nat.beq pc 318 then some (.inl (o_il 7 2)) else none) else (bif Nat.beq pc 320 then some (.inl (o_il 8 2)) else none)))))) else (bif Nat.ble pc 347 then (bif Nat.ble pc 335 then (bif Nat.ble pc 328 then (bif Nat.ble pc 322 then (bif Nat.beq pc 322 then some (.inr (3, 142, 3, 11)) else none) else (bif Nat.ble pc 325 then (bif Nat.beq pc 325 then some (.inl (o_inc 7 1)) else none) else (bif Nat.beq pc 328 then some (.inl (o_goto 224)) else none))) else (bif Nat.ble pc 331 then (bif Nat.beq pc 331 then some (.inl (o_al 0 1)) else none) else (bif Nat.ble pc 332 then (bif Nat.beq pc 332 then some (.inl (o_gP 11 2)) else none) else (bif Nat.beq pc 335 then some (.inl (o_il 1 1)) else none)))) else (bif Nat.ble pc 340 then (bif Nat.ble pc 336 then (bif Nat.beq pc 336 then some (.inl (o_iald)) else none) else (bif Nat.ble pc 337 then (bif Nat.beq pc 337 then some (.inl (o_zne 341)) else none) else (bif Nat.beq pc 340 then some (.inr (0, 0, 0, 3)) else none))) else (bif Nat.ble pc 342 then (bif Nat.ble pc 341 then (bif Nat.beq pc 341 then some (.inl (o_al 0 1)) else none) else (bif Nat.beq pc 342 then some (.inl (o_il 5 2)) else none)) else (bif Nat.ble pc 344 then (bif Nat.beq pc 344 then some (.inr (3, 136, 2, 11)) else none) else (bif Nat.beq pc 347 then some (.inl (o_il 5 2)) else none))))) else (bif Nat.ble pc 360 then (bif Nat.ble pc 353 then (bif Nat.ble pc 349 then (bif Nat.beq pc 349 then some (.inl (o_zeq 365)) else none) else (bif Nat.ble pc 352 then (bif Nat.beq pc 352 then some (.inl (o_al 0 1)) else none) else (bif Nat.beq pc 353 then some (.inl (o_gI 11 43)) else none))) else (bif Nat.ble pc 356 then (bif Nat.beq pc 356 then some (.inl (oS 1 (s_push (.int 3)))) else none) else (bif Nat.ble pc 357 then (bif Nat.beq pc 357 then some (.inl (o_cge 365)) else none) else (bif Nat.beq pc 360 then some (.inl (o_al 0 1)) else none)))) else (bif Nat.ble pc 365 then (bif Nat.ble pc 361 then (bif Nat.beq pc 361 then some (.inl (oS 1 (s_push (.int 0)))) else none) else (bif Nat.ble pc 362 then (bif Nat.beq pc 362 then some (.inl (o_pI 11 43)) else none) else (bif Nat.beq pc 365 then some (.inl (o_il 5 2)) else none))) else (bif Nat.ble pc 370 then (bif Nat.ble pc 367 then (bif Nat.beq pc 367 then some (.inl (o_zne 374)) else none) else (bif Nat.beq pc 370 then some (.inl (o_al 0 1)) else none)) else (bif Nat.ble pc 371 then (bif Nat.beq pc 371 then some (.inr (3, 137, 1, 11)) else none) else (bif Nat.beq pc 374 then some (.inr (0, 0, 0, 3)) else none))))))))
theorem k_144_0 : mOk M_144.1 M_144.2.1 M_144.2.2.1 M_144.2.2.2 0 (o_al 0 1) := ok_aload_n dX11_reduce_0 rfl
theorem k_144_1 : mOk M_144.1 M_144.2.1 M_144.2.2.1 M_144.2.2.2 1 (o_al 0 1) := ok_aload_n dX11_reduce_1 rfl
theorem k_144_2 : mOk M_144.1 M_144.2.1 M_144.2.2.1 M_144.2.2.2 2 (o_gP 11 6) := ok_gP dX11_reduce_2 f_RX11_29 rfl
theorem k_144_5 : mOk M_144.1 M_144.2.1 M_144.2.2.1 M_144.2.2.2 5 (o_il 1 1) := ok_iload_n dX11_reduce_5 rfl
theorem k_144_6 : mOk M_144.1 M_144.2.1 M_144.2.2.1 M_144.2.2.2 6 (o_iald) := ok_iald dX11_reduce_6
theorem k_144_7 : mOk M_144.1 M_144.2.1 M_144.2.2.1 M_144.2.2.2 7 (o_pI 11 43) := ok_pI dX11_reduce_7 (mFw_of f_RX11_191_c (Or.inl rfl)) rfl
theorem k_144_10 : mOk M_144.1 M_144.2.1 M_144.2.2.1 M_144.2.2.2 10 (oS 1 (s_push (.int 0))) := ok_iconst dX11_reduce_10 (by decide)
theorem k_144_11 : mOk M_144.1 M_144.2.1 M_144.2.2.1 M_144.2.2.2 11 (o_is 5 2) := ok_istore dX11_reduce_11
theorem k_144_13 : mOk M_144.1 M_144.2.1 M_144.2.2.1 M_144.2.2.2 13 (o_il 5 2) := ok_iload dX11_reduce_13
theorem k_144_15 : mOk M_144.1 M_144.2.1 M_144.2.2.1 M_144.2.2.2 15 (o_al 0 1) := ok_aload_n dX11_reduce_15 rfl
theorem k_144_16 : mOk M_144.1 M_144.2.1 M_144.2.2.1 M_144.2.2.2 16 (o_gI 11 43) := ok_gI dX11_reduce_16 f_RX11_191 (Or.inl rfl)
theorem k_144_19 : mOk M_144.1 M_144.2.1 M_144.2.2.1 M_144.2.2.2 19 (o_cge 91) := ok_cge dX11_reduce_19 (by decide)
theorem k_144_22 : mOk M_144.1 M_144.2.1 M_144.2.2.1 M_144.2.2.2 22 (o_al 0 1) := ok_aload_n dX11_reduce_22 rfl
theorem k_144_23 : mOk M_144.1 M_144.2.1 M_144.2.2.1 M_144.2.2.2 23 (o_gP 11 40) := ok_gP dX11_reduce_23 f_RX11_112 rfl
theorem k_144_26 : mOk M_144.1 M_144.2.1 M_144.2.2.1 M_144.2.2.2 26 (o_il 5 2) := ok_iload dX11_reduce_26
theorem k_144_28 : mOk M_144.1 M_144.2.1 M_144.2.2.1 M_144.2.2.2 28 (o_al 0 1) := ok_aload_n dX11_reduce_28 rfl
theorem k_144_29 : mOk M_144.1 M_144.2.1 M_144.2.2.1 M_144.2.2.2 29 (o_gP 11 7) := ok_gP dX11_reduce_29 f_RX11_32 rfl
theorem k_144_32 : mOk M_144.1 M_144.2.1 M_144.2.2.1 M_144.2.2.2 32 (oS 2 (s_push (.int 12))) := ok_bipush dX11_reduce_32 (by decide)
theorem k_144_34 : mOk M_144.1 M_144.2.1 M_144.2.2.1 M_144.2.2.2 34 (o_il 1 1) := ok_iload_n dX11_reduce_34 rfl
theorem k_144_35 : mOk M_144.1 M_144.2.1 M_144.2.2.1 M_144.2.2.2 35 (oS 1 (s_ii (fun a b => a * b))) := ok_imul dX11_reduce_35
theorem k_144_36 : mOk M_144.1 M_144.2.1 M_144.2.2.1 M_144.2.2.2 36 (o_il 5 2) := ok_iload dX11_reduce_36
theorem k_144_38 : mOk M_144.1 M_144.2.1 M_144.2.2.1 M_144.2.2.2 38 (oS 1 (s_ii (fun a b => a + b))) := ok_iadd dX11_reduce_38
theorem k_144_39 : mOk M_144.1 M_144.2.1 M_144.2.2.1 M_144.2.2.2 39 (o_iald) := ok_iald dX11_reduce_39
theorem k_144_40 : mOk M_144.1 M_144.2.1 M_144.2.2.1 M_144.2.2.2 40 (oS 1 (s_push (.int 4))) := ok_iconst dX11_reduce_40 (by decide)
theorem k_144_41 : mOk M_144.1 M_144.2.1 M_144.2.2.1 M_144.2.2.2 41 (o_il 2 1) := ok_iload_n dX11_reduce_41 rfl
theorem k_144_42 : mOk M_144.1 M_144.2.1 M_144.2.2.1 M_144.2.2.2 42 (oS 1 (s_ii (fun a b => a - b))) := ok_isub dX11_reduce_42
theorem k_144_43 : mOk M_144.1 M_144.2.1 M_144.2.2.1 M_144.2.2.2 43 (oS 1 (s_ii (fun a b => a >>> (b &&& 31)))) := ok_ishr dX11_reduce_43
theorem k_144_44 : mOk M_144.1 M_144.2.1 M_144.2.2.1 M_144.2.2.2 44 (o_iast) := ok_iast dX11_reduce_44
theorem k_144_45 : mOk M_144.1 M_144.2.1 M_144.2.2.1 M_144.2.2.2 45 (o_al 0 1) := ok_aload_n dX11_reduce_45 rfl
theorem k_144_46 : mOk M_144.1 M_144.2.1 M_144.2.2.1 M_144.2.2.2 46 (o_gP 11 41) := ok_gP dX11_reduce_46 f_RX11_115 rfl
theorem k_144_49 : mOk M_144.1 M_144.2.1 M_144.2.2.1 M_144.2.2.2 49 (o_il 5 2) := ok_iload dX11_reduce_49
theorem k_144_51 : mOk M_144.1 M_144.2.1 M_144.2.2.1 M_144.2.2.2 51 (o_al 0 1) := ok_aload_n dX11_reduce_51 rfl
theorem k_144_52 : mOk M_144.1 M_144.2.1 M_144.2.2.1 M_144.2.2.2 52 (o_gP 11 8) := ok_gP dX11_reduce_52 f_RX11_35 rfl
theorem k_144_55 : mOk M_144.1 M_144.2.1 M_144.2.2.1 M_144.2.2.2 55 (oS 2 (s_push (.int 12))) := ok_bipush dX11_reduce_55 (by decide)
theorem k_144_57 : mOk M_144.1 M_144.2.1 M_144.2.2.1 M_144.2.2.2 57 (o_il 1 1) := ok_iload_n dX11_reduce_57 rfl
theorem k_144_58 : mOk M_144.1 M_144.2.1 M_144.2.2.1 M_144.2.2.2 58 (oS 1 (s_ii (fun a b => a * b))) := ok_imul dX11_reduce_58
theorem k_144_59 : mOk M_144.1 M_144.2.1 M_144.2.2.1 M_144.2.2.2 59 (o_il 5 2) := ok_iload dX11_reduce_59
theorem k_144_61 : mOk M_144.1 M_144.2.1 M_144.2.2.1 M_144.2.2.2 61 (oS 1 (s_ii (fun a b => a + b))) := ok_iadd dX11_reduce_61
theorem k_144_62 : mOk M_144.1 M_144.2.1 M_144.2.2.1 M_144.2.2.2 62 (o_iald) := ok_iald dX11_reduce_62
theorem k_144_63 : mOk M_144.1 M_144.2.1 M_144.2.2.1 M_144.2.2.2 63 (oS 1 (s_push (.int 4))) := ok_iconst dX11_reduce_63 (by decide)
theorem k_144_64 : mOk M_144.1 M_144.2.1 M_144.2.2.1 M_144.2.2.2 64 (o_il 2 1) := ok_iload_n dX11_reduce_64 rfl
theorem k_144_65 : mOk M_144.1 M_144.2.1 M_144.2.2.1 M_144.2.2.2 65 (oS 1 (s_ii (fun a b => a - b))) := ok_isub dX11_reduce_65
theorem k_144_66 : mOk M_144.1 M_144.2.1 M_144.2.2.1 M_144.2.2.2 66 (oS 1 (s_ii (fun a b => a >>> (b &&& 31)))) := ok_ishr dX11_reduce_66
theorem k_144_67 : mOk M_144.1 M_144.2.1 M_144.2.2.1 M_144.2.2.2 67 (o_iast) := ok_iast dX11_reduce_67
theorem k_144_68 : mOk M_144.1 M_144.2.1 M_144.2.2.1 M_144.2.2.2 68 (o_al 0 1) := ok_aload_n dX11_reduce_68 rfl
theorem k_144_69 : mOk M_144.1 M_144.2.1 M_144.2.2.1 M_144.2.2.2 69 (o_gP 11 42) := ok_gP dX11_reduce_69 f_RX11_118 rfl
theorem k_144_72 : mOk M_144.1 M_144.2.1 M_144.2.2.1 M_144.2.2.2 72 (o_il 5 2) := ok_iload dX11_reduce_72
theorem k_144_74 : mOk M_144.1 M_144.2.1 M_144.2.2.1 M_144.2.2.2 74 (o_il 5 2) := ok_iload dX11_reduce_74
theorem k_144_76 : mOk M_144.1 M_144.2.1 M_144.2.2.1 M_144.2.2.2 76 (o_zne 83) := ok_zne dX11_reduce_76 (by decide)
theorem k_144_79 : mOk M_144.1 M_144.2.1 M_144.2.2.1 M_144.2.2.2 79 (oS 1 (s_push (.int 1))) := ok_iconst dX11_reduce_79 (by decide)
theorem k_144_80 : mOk M_144.1 M_144.2.1 M_144.2.2.1 M_144.2.2.2 80 (o_goto 84) := ok_goto dX11_reduce_80 (by decide)
theorem k_144_83 : mOk M_144.1 M_144.2.1 M_144.2.2.1 M_144.2.2.2 83 (oS 1 (s_push (.int 0))) := ok_iconst dX11_reduce_83 (by decide)
theorem k_144_84 : mOk M_144.1 M_144.2.1 M_144.2.2.1 M_144.2.2.2 84 (o_bast) := ok_bast dX11_reduce_84
theorem k_144_85 : mOk M_144.1 M_144.2.1 M_144.2.2.1 M_144.2.2.2 85 (o_inc 5 1) := ok_iinc dX11_reduce_85 (by decide)
theorem k_144_88 : mOk M_144.1 M_144.2.1 M_144.2.2.1 M_144.2.2.2 88 (o_goto 13) := ok_goto dX11_reduce_88 (by decide)
theorem k_144_91 : mOk M_144.1 M_144.2.1 M_144.2.2.1 M_144.2.2.2 91 (o_al 0 1) := ok_aload_n dX11_reduce_91 rfl
theorem k_144_92 : mOk M_144.1 M_144.2.1 M_144.2.2.1 M_144.2.2.2 92 (o_gP 11 2) := ok_gP dX11_reduce_92 f_RX11_16 rfl
theorem k_144_95 : mOk M_144.1 M_144.2.1 M_144.2.2.1 M_144.2.2.2 95 (o_il 1 1) := ok_iload_n dX11_reduce_95 rfl
theorem k_144_96 : mOk M_144.1 M_144.2.1 M_144.2.2.1 M_144.2.2.2 96 (o_iald) := ok_iald dX11_reduce_96
theorem k_144_97 : mOk M_144.1 M_144.2.1 M_144.2.2.1 M_144.2.2.2 97 (oS 1 (s_push (.int 2))) := ok_iconst dX11_reduce_97 (by decide)
theorem k_144_98 : mOk M_144.1 M_144.2.1 M_144.2.2.1 M_144.2.2.2 98 (o_cne 105) := ok_cne dX11_reduce_98 (by decide)
theorem k_144_101 : mOk M_144.1 M_144.2.1 M_144.2.2.1 M_144.2.2.2 101 (oS 1 (s_push (.int 1))) := ok_iconst dX11_reduce_101 (by decide)
theorem k_144_102 : mOk M_144.1 M_144.2.1 M_144.2.2.1 M_144.2.2.2 102 (o_goto 106) := ok_goto dX11_reduce_102 (by decide)
theorem k_144_105 : mOk M_144.1 M_144.2.1 M_144.2.2.1 M_144.2.2.2 105 (oS 1 (s_push (.int 0))) := ok_iconst dX11_reduce_105 (by decide)
theorem k_144_106 : mOk M_144.1 M_144.2.1 M_144.2.2.1 M_144.2.2.2 106 (o_is 5 2) := ok_istore dX11_reduce_106
theorem k_144_108 : mOk M_144.1 M_144.2.1 M_144.2.2.1 M_144.2.2.2 108 (o_al 0 1) := ok_aload_n dX11_reduce_108 rfl
theorem k_144_109 : mOk M_144.1 M_144.2.1 M_144.2.2.1 M_144.2.2.2 109 (o_gP 11 2) := ok_gP dX11_reduce_109 f_RX11_16 rfl
theorem k_144_112 : mOk M_144.1 M_144.2.1 M_144.2.2.1 M_144.2.2.2 112 (o_il 1 1) := ok_iload_n dX11_reduce_112 rfl
theorem k_144_113 : mOk M_144.1 M_144.2.1 M_144.2.2.1 M_144.2.2.2 113 (o_iald) := ok_iald dX11_reduce_113
theorem k_144_114 : mOk M_144.1 M_144.2.1 M_144.2.2.1 M_144.2.2.2 114 (o_zne 121) := ok_zne dX11_reduce_114 (by decide)
theorem k_144_117 : mOk M_144.1 M_144.2.1 M_144.2.2.1 M_144.2.2.2 117 (oS 1 (s_push (.int 1))) := ok_iconst dX11_reduce_117 (by decide)
theorem k_144_118 : mOk M_144.1 M_144.2.1 M_144.2.2.1 M_144.2.2.2 118 (o_goto 131) := ok_goto dX11_reduce_118 (by decide)
theorem k_144_121 : mOk M_144.1 M_144.2.1 M_144.2.2.1 M_144.2.2.2 121 (o_il 5 2) := ok_iload dX11_reduce_121
theorem k_144_123 : mOk M_144.1 M_144.2.1 M_144.2.2.1 M_144.2.2.2 123 (o_zeq 130) := ok_zeq dX11_reduce_123 (by decide)
theorem k_144_126 : mOk M_144.1 M_144.2.1 M_144.2.2.1 M_144.2.2.2 126 (oS 1 (s_push (.int 3))) := ok_iconst dX11_reduce_126 (by decide)
theorem k_144_127 : mOk M_144.1 M_144.2.1 M_144.2.2.1 M_144.2.2.2 127 (o_goto 131) := ok_goto dX11_reduce_127 (by decide)
theorem k_144_130 : mOk M_144.1 M_144.2.1 M_144.2.2.1 M_144.2.2.2 130 (oS 1 (s_push (.int 2))) := ok_iconst dX11_reduce_130 (by decide)
theorem k_144_131 : mOk M_144.1 M_144.2.1 M_144.2.2.1 M_144.2.2.2 131 (o_is 6 2) := ok_istore dX11_reduce_131
theorem k_144_133 : mOk M_144.1 M_144.2.1 M_144.2.2.1 M_144.2.2.2 133 (o_il 5 2) := ok_iload dX11_reduce_133
theorem k_144_135 : mOk M_144.1 M_144.2.1 M_144.2.2.1 M_144.2.2.2 135 (o_zeq 188) := ok_zeq dX11_reduce_135 (by decide)
theorem k_144_138 : mOk M_144.1 M_144.2.1 M_144.2.2.1 M_144.2.2.2 138 (o_al 0 1) := ok_aload_n dX11_reduce_138 rfl
theorem k_144_139 : mOk M_144.1 M_144.2.1 M_144.2.2.1 M_144.2.2.2 139 (o_gP 11 40) := ok_gP dX11_reduce_139 f_RX11_112 rfl
theorem k_144_142 : mOk M_144.1 M_144.2.1 M_144.2.2.1 M_144.2.2.2 142 (o_al 0 1) := ok_aload_n dX11_reduce_142 rfl
theorem k_144_143 : mOk M_144.1 M_144.2.1 M_144.2.2.1 M_144.2.2.2 143 (o_gI 11 43) := ok_gI dX11_reduce_143 f_RX11_191 (Or.inl rfl)
theorem k_144_146 : mOk M_144.1 M_144.2.1 M_144.2.2.1 M_144.2.2.2 146 (o_al 0 1) := ok_aload_n dX11_reduce_146 rfl
theorem k_144_147 : mOk M_144.1 M_144.2.1 M_144.2.2.1 M_144.2.2.2 147 (o_gP 11 40) := ok_gP dX11_reduce_147 f_RX11_112 rfl
theorem k_144_150 : mOk M_144.1 M_144.2.1 M_144.2.2.1 M_144.2.2.2 150 (oS 1 (s_push (.int 0))) := ok_iconst dX11_reduce_150 (by decide)
theorem k_144_151 : mOk M_144.1 M_144.2.1 M_144.2.2.1 M_144.2.2.2 151 (o_iald) := ok_iald dX11_reduce_151
theorem k_144_152 : mOk M_144.1 M_144.2.1 M_144.2.2.1 M_144.2.2.2 152 (o_iast) := ok_iast dX11_reduce_152
theorem k_144_153 : mOk M_144.1 M_144.2.1 M_144.2.2.1 M_144.2.2.2 153 (o_al 0 1) := ok_aload_n dX11_reduce_153 rfl
theorem k_144_154 : mOk M_144.1 M_144.2.1 M_144.2.2.1 M_144.2.2.2 154 (o_gP 11 41) := ok_gP dX11_reduce_154 f_RX11_115 rfl
theorem k_144_157 : mOk M_144.1 M_144.2.1 M_144.2.2.1 M_144.2.2.2 157 (o_al 0 1) := ok_aload_n dX11_reduce_157 rfl
theorem k_144_158 : mOk M_144.1 M_144.2.1 M_144.2.2.1 M_144.2.2.2 158 (o_gI 11 43) := ok_gI dX11_reduce_158 f_RX11_191 (Or.inl rfl)
theorem k_144_161 : mOk M_144.1 M_144.2.1 M_144.2.2.1 M_144.2.2.2 161 (o_al 0 1) := ok_aload_n dX11_reduce_161 rfl
theorem k_144_162 : mOk M_144.1 M_144.2.1 M_144.2.2.1 M_144.2.2.2 162 (o_gP 11 41) := ok_gP dX11_reduce_162 f_RX11_115 rfl
theorem k_144_165 : mOk M_144.1 M_144.2.1 M_144.2.2.1 M_144.2.2.2 165 (oS 1 (s_push (.int 0))) := ok_iconst dX11_reduce_165 (by decide)
theorem k_144_166 : mOk M_144.1 M_144.2.1 M_144.2.2.1 M_144.2.2.2 166 (o_iald) := ok_iald dX11_reduce_166
theorem k_144_167 : mOk M_144.1 M_144.2.1 M_144.2.2.1 M_144.2.2.2 167 (o_iast) := ok_iast dX11_reduce_167
theorem k_144_168 : mOk M_144.1 M_144.2.1 M_144.2.2.1 M_144.2.2.2 168 (o_al 0 1) := ok_aload_n dX11_reduce_168 rfl
theorem k_144_169 : mOk M_144.1 M_144.2.1 M_144.2.2.1 M_144.2.2.2 169 (o_gP 11 42) := ok_gP dX11_reduce_169 f_RX11_118 rfl
theorem k_144_172 : mOk M_144.1 M_144.2.1 M_144.2.2.1 M_144.2.2.2 172 (o_al 0 1) := ok_aload_n dX11_reduce_172 rfl
theorem k_144_173 : mOk M_144.1 M_144.2.1 M_144.2.2.1 M_144.2.2.2 173 (o_gI 11 43) := ok_gI dX11_reduce_173 f_RX11_191 (Or.inl rfl)
theorem k_144_176 : mOk M_144.1 M_144.2.1 M_144.2.2.1 M_144.2.2.2 176 (oS 1 (s_push (.int 0))) := ok_iconst dX11_reduce_176 (by decide)
theorem k_144_177 : mOk M_144.1 M_144.2.1 M_144.2.2.1 M_144.2.2.2 177 (o_bast) := ok_bast dX11_reduce_177
theorem k_144_178 : mOk M_144.1 M_144.2.1 M_144.2.2.1 M_144.2.2.2 178 (o_al 0 1) := ok_aload_n dX11_reduce_178 rfl
theorem k_144_179 : mOk M_144.1 M_144.2.1 M_144.2.2.1 M_144.2.2.2 179 (oS 1 s_dup) := ok_dup dX11_reduce_179
theorem k_144_180 : mOk M_144.1 M_144.2.1 M_144.2.2.1 M_144.2.2.2 180 (o_gI 11 43) := ok_gI dX11_reduce_180 f_RX11_191 (Or.inl rfl)
theorem k_144_183 : mOk M_144.1 M_144.2.1 M_144.2.2.1 M_144.2.2.2 183 (oS 1 (s_push (.int 1))) := ok_iconst dX11_reduce_183 (by decide)
theorem k_144_184 : mOk M_144.1 M_144.2.1 M_144.2.2.1 M_144.2.2.2 184 (oS 1 (s_ii (fun a b => a + b))) := ok_iadd dX11_reduce_184
theorem k_144_185 : mOk M_144.1 M_144.2.1 M_144.2.2.1 M_144.2.2.2 185 (o_pI 11 43) := ok_pI dX11_reduce_185 (mFw_of f_RX11_191_c (Or.inl rfl)) rfl
theorem k_144_188 : mOk M_144.1 M_144.2.1 M_144.2.2.1 M_144.2.2.2 188 (o_al 0 1) := ok_aload_n dX11_reduce_188 rfl
theorem k_144_189 : mOk M_144.1 M_144.2.1 M_144.2.2.1 M_144.2.2.2 189 (o_gP 11 2) := ok_gP dX11_reduce_189 f_RX11_16 rfl
theorem k_144_192 : mOk M_144.1 M_144.2.1 M_144.2.2.1 M_144.2.2.2 192 (o_il 1 1) := ok_iload_n dX11_reduce_192 rfl
theorem k_144_193 : mOk M_144.1 M_144.2.1 M_144.2.2.1 M_144.2.2.2 193 (o_iald) := ok_iald dX11_reduce_193
theorem k_144_194 : mOk M_144.1 M_144.2.1 M_144.2.2.1 M_144.2.2.2 194 (o_zeq 207) := ok_zeq dX11_reduce_194 (by decide)
theorem k_144_197 : mOk M_144.1 M_144.2.1 M_144.2.2.1 M_144.2.2.2 197 (o_al 0 1) := ok_aload_n dX11_reduce_197 rfl
theorem k_144_201 : mOk M_144.1 M_144.2.1 M_144.2.2.1 M_144.2.2.2 201 (o_al 0 1) := ok_aload_n dX11_reduce_201 rfl
theorem k_144_202 : mOk M_144.1 M_144.2.1 M_144.2.2.1 M_144.2.2.2 202 (o_il 5 2) := ok_iload dX11_reduce_202
theorem k_144_207 : mOk M_144.1 M_144.2.1 M_144.2.2.1 M_144.2.2.2 207 (o_al 0 1) := ok_aload_n dX11_reduce_207 rfl
theorem k_144_208 : mOk M_144.1 M_144.2.1 M_144.2.2.1 M_144.2.2.2 208 (o_gI 11 43) := ok_gI dX11_reduce_208 f_RX11_191 (Or.inl rfl)
theorem k_144_211 : mOk M_144.1 M_144.2.1 M_144.2.2.1 M_144.2.2.2 211 (o_il 6 2) := ok_iload dX11_reduce_211
theorem k_144_213 : mOk M_144.1 M_144.2.1 M_144.2.2.1 M_144.2.2.2 213 (o_cge 221) := ok_cge dX11_reduce_213 (by decide)
theorem k_144_216 : mOk M_144.1 M_144.2.1 M_144.2.2.1 M_144.2.2.2 216 (o_al 0 1) := ok_aload_n dX11_reduce_216 rfl
theorem k_144_217 : mOk M_144.1 M_144.2.1 M_144.2.2.1 M_144.2.2.2 217 (oS 1 (s_push (.int 0))) := ok_iconst dX11_reduce_217 (by decide)
theorem k_144_218 : mOk M_144.1 M_144.2.1 M_144.2.2.1 M_144.2.2.2 218 (o_pI 11 43) := ok_pI dX11_reduce_218 (mFw_of f_RX11_191_c (Or.inl rfl)) rfl
theorem k_144_221 : mOk M_144.1 M_144.2.1 M_144.2.2.1 M_144.2.2.2 221 (oS 1 (s_push (.int 0))) := ok_iconst dX11_reduce_221 (by decide)
theorem k_144_222 : mOk M_144.1 M_144.2.1 M_144.2.2.1 M_144.2.2.2 222 (o_is 7 2) := ok_istore dX11_reduce_222
theorem k_144_224 : mOk M_144.1 M_144.2.1 M_144.2.2.1 M_144.2.2.2 224 (o_il 7 2) := ok_iload dX11_reduce_224
theorem k_144_226 : mOk M_144.1 M_144.2.1 M_144.2.2.1 M_144.2.2.2 226 (oS 1 (s_push (.int 4))) := ok_iconst dX11_reduce_226 (by decide)
theorem k_144_227 : mOk M_144.1 M_144.2.1 M_144.2.2.1 M_144.2.2.2 227 (o_cge 331) := ok_cge dX11_reduce_227 (by decide)
theorem k_144_230 : mOk M_144.1 M_144.2.1 M_144.2.2.1 M_144.2.2.2 230 (oS 3 (s_push (.int 256))) := ok_sipush dX11_reduce_230 (by decide)
theorem k_144_233 : mOk M_144.1 M_144.2.1 M_144.2.2.1 M_144.2.2.2 233 (o_il 7 2) := ok_iload dX11_reduce_233
theorem k_144_235 : mOk M_144.1 M_144.2.1 M_144.2.2.1 M_144.2.2.2 235 (oS 1 (s_push (.int 2))) := ok_iconst dX11_reduce_235 (by decide)
theorem k_144_236 : mOk M_144.1 M_144.2.1 M_144.2.2.1 M_144.2.2.2 236 (o_cge 243) := ok_cge dX11_reduce_236 (by decide)
theorem k_144_239 : mOk M_144.1 M_144.2.1 M_144.2.2.1 M_144.2.2.2 239 (o_il 3 1) := ok_iload_n dX11_reduce_239 rfl
theorem k_144_240 : mOk M_144.1 M_144.2.1 M_144.2.2.1 M_144.2.2.2 240 (o_goto 245) := ok_goto dX11_reduce_240 (by decide)
theorem k_144_243 : mOk M_144.1 M_144.2.1 M_144.2.2.1 M_144.2.2.2 243 (o_il 4 2) := ok_iload dX11_reduce_243
theorem k_144_245 : mOk M_144.1 M_144.2.1 M_144.2.2.1 M_144.2.2.2 245 (oS 1 (s_ii (fun a b => a * b))) := ok_imul dX11_reduce_245
theorem k_144_246 : mOk M_144.1 M_144.2.1 M_144.2.2.1 M_144.2.2.2 246 (o_il 7 2) := ok_iload dX11_reduce_246
theorem k_144_248 : mOk M_144.1 M_144.2.1 M_144.2.2.1 M_144.2.2.2 248 (oS 1 (s_push (.int 2))) := ok_iconst dX11_reduce_248 (by decide)
theorem k_144_249 : mOk M_144.1 M_144.2.1 M_144.2.2.1 M_144.2.2.2 249 (oS 1 (s_iiz (fun a b => a - a / b * b))) := ok_irem dX11_reduce_249
theorem k_144_250 : mOk M_144.1 M_144.2.1 M_144.2.2.1 M_144.2.2.2 250 (o_zne 258) := ok_zne dX11_reduce_250 (by decide)
theorem k_144_253 : mOk M_144.1 M_144.2.1 M_144.2.2.1 M_144.2.2.2 253 (oS 2 (s_push (.int (-8)))) := ok_bipush dX11_reduce_253 (by decide)
theorem k_144_255 : mOk M_144.1 M_144.2.1 M_144.2.2.1 M_144.2.2.2 255 (o_goto 261) := ok_goto dX11_reduce_255 (by decide)
theorem k_144_258 : mOk M_144.1 M_144.2.1 M_144.2.2.1 M_144.2.2.2 258 (oS 3 (s_push (.int 264))) := ok_sipush dX11_reduce_258 (by decide)
theorem k_144_261 : mOk M_144.1 M_144.2.1 M_144.2.2.1 M_144.2.2.2 261 (oS 1 (s_ii (fun a b => a + b))) := ok_iadd dX11_reduce_261
theorem k_144_262 : mOk M_144.1 M_144.2.1 M_144.2.2.1 M_144.2.2.2 262 (o_is 8 2) := ok_istore dX11_reduce_262
theorem k_144_264 : mOk M_144.1 M_144.2.1 M_144.2.2.1 M_144.2.2.2 264 (o_al 0 1) := ok_aload_n dX11_reduce_264 rfl
theorem k_144_265 : mOk M_144.1 M_144.2.1 M_144.2.2.1 M_144.2.2.2 265 (o_gP 11 2) := ok_gP dX11_reduce_265 f_RX11_16 rfl
theorem k_144_268 : mOk M_144.1 M_144.2.1 M_144.2.2.1 M_144.2.2.2 268 (o_il 1 1) := ok_iload_n dX11_reduce_268 rfl
theorem k_144_269 : mOk M_144.1 M_144.2.1 M_144.2.2.1 M_144.2.2.2 269 (o_iald) := ok_iald dX11_reduce_269
theorem k_144_270 : mOk M_144.1 M_144.2.1 M_144.2.2.1 M_144.2.2.2 270 (o_zne 301) := ok_zne dX11_reduce_270 (by decide)
theorem k_144_273 : mOk M_144.1 M_144.2.1 M_144.2.2.1 M_144.2.2.2 273 (o_al 0 1) := ok_aload_n dX11_reduce_273 rfl
theorem k_144_274 : mOk M_144.1 M_144.2.1 M_144.2.2.1 M_144.2.2.2 274 (o_gI 11 43) := ok_gI dX11_reduce_274 f_RX11_191 (Or.inl rfl)
theorem k_144_277 : mOk M_144.1 M_144.2.1 M_144.2.2.1 M_144.2.2.2 277 (oS 1 (s_push (.int 1))) := ok_iconst dX11_reduce_277 (by decide)
theorem k_144_278 : mOk M_144.1 M_144.2.1 M_144.2.2.1 M_144.2.2.2 278 (o_cne 325) := ok_cne dX11_reduce_278 (by decide)
theorem k_144_281 : mOk M_144.1 M_144.2.1 M_144.2.2.1 M_144.2.2.2 281 (o_al 0 1) := ok_aload_n dX11_reduce_281 rfl
theorem k_144_282 : mOk M_144.1 M_144.2.1 M_144.2.2.1 M_144.2.2.2 282 (oS 1 (s_push (.int 0))) := ok_iconst dX11_reduce_282 (by decide)
theorem k_144_283 : mOk M_144.1 M_144.2.1 M_144.2.2.1 M_144.2.2.2 283 (o_il 7 2) := ok_iload dX11_reduce_283
theorem k_144_285 : mOk M_144.1 M_144.2.1 M_144.2.2.1 M_144.2.2.2 285 (o_il 8 2) := ok_iload dX11_reduce_285
theorem k_144_290 : mOk M_144.1 M_144.2.1 M_144.2.2.1 M_144.2.2.2 290 (o_zne 325) := ok_zne dX11_reduce_290 (by decide)
theorem k_144_293 : mOk M_144.1 M_144.2.1 M_144.2.2.1 M_144.2.2.2 293 (o_al 0 1) := ok_aload_n dX11_reduce_293 rfl
theorem k_144_294 : mOk M_144.1 M_144.2.1 M_144.2.2.1 M_144.2.2.2 294 (oS 1 (s_push (.int 0))) := ok_iconst dX11_reduce_294 (by decide)
theorem k_144_295 : mOk M_144.1 M_144.2.1 M_144.2.2.1 M_144.2.2.2 295 (o_pI 11 43) := ok_pI dX11_reduce_295 (mFw_of f_RX11_191_c (Or.inl rfl)) rfl
theorem k_144_298 : mOk M_144.1 M_144.2.1 M_144.2.2.1 M_144.2.2.2 298 (o_goto 325) := ok_goto dX11_reduce_298 (by decide)
theorem k_144_301 : mOk M_144.1 M_144.2.1 M_144.2.2.1 M_144.2.2.2 301 (o_il 5 2) := ok_iload dX11_reduce_301
theorem k_144_303 : mOk M_144.1 M_144.2.1 M_144.2.2.1 M_144.2.2.2 303 (o_zeq 317) := ok_zeq dX11_reduce_303 (by decide)
theorem k_144_306 : mOk M_144.1 M_144.2.1 M_144.2.2.1 M_144.2.2.2 306 (o_al 0 1) := ok_aload_n dX11_reduce_306 rfl
theorem k_144_307 : mOk M_144.1 M_144.2.1 M_144.2.2.1 M_144.2.2.2 307 (o_il 7 2) := ok_iload dX11_reduce_307
theorem k_144_309 : mOk M_144.1 M_144.2.1 M_144.2.2.1 M_144.2.2.2 309 (o_il 8 2) := ok_iload dX11_reduce_309
theorem k_144_314 : mOk M_144.1 M_144.2.1 M_144.2.2.1 M_144.2.2.2 314 (o_goto 325) := ok_goto dX11_reduce_314 (by decide)
theorem k_144_317 : mOk M_144.1 M_144.2.1 M_144.2.2.1 M_144.2.2.2 317 (o_al 0 1) := ok_aload_n dX11_reduce_317 rfl
theorem k_144_318 : mOk M_144.1 M_144.2.1 M_144.2.2.1 M_144.2.2.2 318 (o_il 7 2) := ok_iload dX11_reduce_318
theorem k_144_320 : mOk M_144.1 M_144.2.1 M_144.2.2.1 M_144.2.2.2 320 (o_il 8 2) := ok_iload dX11_reduce_320
theorem k_144_325 : mOk M_144.1 M_144.2.1 M_144.2.2.1 M_144.2.2.2 325 (o_inc 7 1) := ok_iinc dX11_reduce_325 (by decide)
theorem k_144_328 : mOk M_144.1 M_144.2.1 M_144.2.2.1 M_144.2.2.2 328 (o_goto 224) := ok_goto dX11_reduce_328 (by decide)
theorem k_144_331 : mOk M_144.1 M_144.2.1 M_144.2.2.1 M_144.2.2.2 331 (o_al 0 1) := ok_aload_n dX11_reduce_331 rfl
theorem k_144_332 : mOk M_144.1 M_144.2.1 M_144.2.2.1 M_144.2.2.2 332 (o_gP 11 2) := ok_gP dX11_reduce_332 f_RX11_16 rfl
theorem k_144_335 : mOk M_144.1 M_144.2.1 M_144.2.2.1 M_144.2.2.2 335 (o_il 1 1) := ok_iload_n dX11_reduce_335 rfl
theorem k_144_336 : mOk M_144.1 M_144.2.1 M_144.2.2.1 M_144.2.2.2 336 (o_iald) := ok_iald dX11_reduce_336
theorem k_144_337 : mOk M_144.1 M_144.2.1 M_144.2.2.1 M_144.2.2.2 337 (o_zne 341) := ok_zne dX11_reduce_337 (by decide)
theorem k_144_341 : mOk M_144.1 M_144.2.1 M_144.2.2.1 M_144.2.2.2 341 (o_al 0 1) := ok_aload_n dX11_reduce_341 rfl
theorem k_144_342 : mOk M_144.1 M_144.2.1 M_144.2.2.1 M_144.2.2.2 342 (o_il 5 2) := ok_iload dX11_reduce_342
theorem k_144_347 : mOk M_144.1 M_144.2.1 M_144.2.2.1 M_144.2.2.2 347 (o_il 5 2) := ok_iload dX11_reduce_347
theorem k_144_349 : mOk M_144.1 M_144.2.1 M_144.2.2.1 M_144.2.2.2 349 (o_zeq 365) := ok_zeq dX11_reduce_349 (by decide)
theorem k_144_352 : mOk M_144.1 M_144.2.1 M_144.2.2.1 M_144.2.2.2 352 (o_al 0 1) := ok_aload_n dX11_reduce_352 rfl
theorem k_144_353 : mOk M_144.1 M_144.2.1 M_144.2.2.1 M_144.2.2.2 353 (o_gI 11 43) := ok_gI dX11_reduce_353 f_RX11_191 (Or.inl rfl)
theorem k_144_356 : mOk M_144.1 M_144.2.1 M_144.2.2.1 M_144.2.2.2 356 (oS 1 (s_push (.int 3))) := ok_iconst dX11_reduce_356 (by decide)
theorem k_144_357 : mOk M_144.1 M_144.2.1 M_144.2.2.1 M_144.2.2.2 357 (o_cge 365) := ok_cge dX11_reduce_357 (by decide)
theorem k_144_360 : mOk M_144.1 M_144.2.1 M_144.2.2.1 M_144.2.2.2 360 (o_al 0 1) := ok_aload_n dX11_reduce_360 rfl
theorem k_144_361 : mOk M_144.1 M_144.2.1 M_144.2.2.1 M_144.2.2.2 361 (oS 1 (s_push (.int 0))) := ok_iconst dX11_reduce_361 (by decide)
theorem k_144_362 : mOk M_144.1 M_144.2.1 M_144.2.2.1 M_144.2.2.2 362 (o_pI 11 43) := ok_pI dX11_reduce_362 (mFw_of f_RX11_191_c (Or.inl rfl)) rfl
theorem k_144_365 : mOk M_144.1 M_144.2.1 M_144.2.2.1 M_144.2.2.2 365 (o_il 5 2) := ok_iload dX11_reduce_365
theorem k_144_367 : mOk M_144.1 M_144.2.1 M_144.2.2.1 M_144.2.2.2 367 (o_zne 374) := ok_zne dX11_reduce_367 (by decide)
theorem k_144_370 : mOk M_144.1 M_144.2.1 M_144.2.2.1 M_144.2.2.2 370 (o_al 0 1) := ok_aload_n dX11_reduce_370 rfl
set_option maxRecDepth 20000 in
set_option maxHeartbeats 4000000 in
theorem tk_144 (l : Launch) (H9 : mThr l) (H10 : mSpl l) (pc : Nat) (q : mEnt) (h : tb_144 pc = some q) : EE l 144 pc q := nd h (fun h => nd h (fun h => nd h (fun h => nd h (fun h => nd h (fun h => nd h (fun h => nd h (fun h => lf (P := EE l 144) h k_144_0) (fun h => nd h (fun h => lf (P := EE l 144) h k_144_1) (fun h => lf (P := EE l 144) h k_144_2))) (fun h => nd h (fun h => lf (P := EE l 144) h k_144_5) (fun h => nd h (fun h => lf (P := EE l 144) h k_144_6) (fun h => lf (P := EE l 144) h k_144_7)))) (fun h => nd h (fun h => nd h (fun h => lf (P := EE l 144) h k_144_10) (fun h => nd h (fun h => lf (P := EE l 144) h k_144_11) (fun h => lf (P := EE l 144) h k_144_13))) (fun h => nd h (fun h => lf (P := EE l 144) h k_144_15) (fun h => nd h (fun h => lf (P := EE l 144) h k_144_16) (fun h => lf (P := EE l 144) h k_144_19))))) (fun h => nd h (fun h => nd h (fun h => nd h (fun h => lf (P := EE l 144) h k_144_22) (fun h => nd h (fun h => lf (P := EE l 144) h k_144_23) (fun h => lf (P := EE l 144) h k_144_26))) (fun h => nd h (fun h => lf (P := EE l 144) h k_144_28) (fun h => nd h (fun h => lf (P := EE l 144) h k_144_29) (fun h => lf (P := EE l 144) h k_144_32)))) (fun h => nd h (fun h => nd h (fun h => lf (P := EE l 144) h k_144_34) (fun h => nd h (fun h => lf (P := EE l 144) h k_144_35) (fun h => lf (P := EE l 144) h k_144_36))) (fun h => nd h (fun h => nd h (fun h => lf (P := EE l 144) h k_144_38) (fun h => lf (P := EE l 144) h k_144_39)) (fun h => nd h (fun h => lf (P := EE l 144) h k_144_40) (fun h => lf (P := EE l 144) h k_144_41)))))) (fun h => nd h (fun h => nd h (fun h => nd h (fun h => nd h (fun h => lf (P := EE l 144) h k_144_42) (fun h => nd h (fun h => lf (P := EE l 144) h k_144_43) (fun h => lf (P := EE l 144) h k_144_44))) (fun h => nd h (fun h => lf (P := EE l 144) h k_144_45) (fun h => nd h (fun h => lf (P := EE l 144) h k_144_46) (fun h => lf (P := EE l 144) h k_144_49)))) (fun h => nd h (fun h => nd h (fun h => lf (P := EE l 144) h k_144_51) (fun h => nd h (fun h => lf (P := EE l 144) h k_144_52) (fun h => lf (P := EE l 144) h k_144_55))) (fun h => nd h (fun h => nd h (fun h => lf (P := EE l 144) h k_144_57) (fun h => lf (P := EE l 144) h k_144_58)) (fun h => nd h (fun h => lf (P := EE l 144) h k_144_59) (fun h => lf (P := EE l 144) h k_144_61))))) (fun h => nd h (fun h => nd h (fun h => nd h (fun h => lf (P := EE l 144) h k_144_62) (fun h => nd h (fun h => lf (P := EE l 144) h k_144_63) (fun h => lf (P := EE l 144) h k_144_64))) (fun h => nd h (fun h => lf (P := EE l 144) h k_144_65) (fun h => nd h (fun h => lf (P := EE l 144) h k_144_66) (fun h => lf (P := EE l 144) h k_144_67)))) (fun h => nd h (fun h => nd h (fun h => lf (P := EE l 144) h k_144_68) (fun h => nd h (fun h => lf (P := EE l 144) h k_144_69) (fun h => lf (P := EE l 144) h k_144_72))) (fun h => nd h (fun h => nd h (fun h => lf (P := EE l 144) h k_144_74) (fun h => lf (P := EE l 144) h k_144_76)) (fun h => nd h (fun h => lf (P := EE l 144) h k_144_79) (fun h => lf (P := EE l 144) h k_144_80))))))) (fun h => nd h (fun h => nd h (fun h => nd h (fun h => nd h (fun h => nd h (fun h => lf (P := EE l 144) h k_144_83) (fun h => nd h (fun h => lf (P := EE l 144) h k_144_84) (fun h => lf (P := EE l 144) h k_144_85))) (fun h => nd h (fun h => lf (P := EE l 144) h k_144_88) (fun h => nd h (fun h => lf (P := EE l 144) h k_144_91) (fun h => lf (P := EE l 144) h k_144_92)))) (fun h => nd h (fun h => nd h (fun h => lf (P := EE l 144) h k_144_95) (fun h => nd h (fun h => lf (P := EE l 144) h k_144_96) (fun h => lf (P := EE l 144) h k_144_97))) (fun h => nd h (fun h => lf (P := EE l 144) h k_144_98) (fun h => nd h (fun h => lf (P := EE l 144) h k_144_101) (fun h => lf (P := EE l 144) h k_144_102))))) (fun h => nd h (fun h => nd h (fun h => nd h (fun h => lf (P := EE l 144) h k_144_105) (fun h => nd h (fun h => lf (P := EE l 144) h k_144_106) (fun h => lf (P := EE l 144) h k_144_108))) (fun h => nd h (fun h => lf (P := EE l 144) h k_144_109) (fun h => nd h (fun h => lf (P := EE l 144) h k_144_112) (fun h => lf (P := EE l 144) h k_144_113)))) (fun h => nd h (fun h => nd h (fun h => lf (P := EE l 144) h k_144_114) (fun h => nd h (fun h => lf (P := EE l 144) h k_144_117) (fun h => lf (P := EE l 144) h k_144_118))) (fun h => nd h (fun h => nd h (fun h => lf (P := EE l 144) h k_144_121) (fun h => lf (P := EE l 144) h k_144_123)) (fun h => nd h (fun h => lf (P := EE l 144) h k_144_126) (fun h => lf (P := EE l 144) h k_144_127)))))) (fun h => nd h (fun h => nd h (fun h => nd h (fun h => nd h (fun h => lf (P := EE l 144) h k_144_130) (fun h => nd h (fun h => lf (P := EE l 144) h k_144_131) (fun h => lf (P := EE l 144) h k_144_133))) (fun h => nd h (fun h => lf (P := EE l 144) h k_144_135) (fun h => nd h (fun h => lf (P := EE l 144) h k_144_138) (fun h => lf (P := EE l 144) h k_144_139)))) (fun h => nd h (fun h => nd h (fun h => lf (P := EE l 144) h k_144_142) (fun h => nd h (fun h => lf (P := EE l 144) h k_144_143) (fun h => lf (P := EE l 144) h k_144_146))) (fun h => nd h (fun h => nd h (fun h => lf (P := EE l 144) h k_144_147) (fun h => lf (P := EE l 144) h k_144_150)) (fun h => nd h (fun h => lf (P := EE l 144) h k_144_151) (fun h => lf (P := EE l 144) h k_144_152))))) (fun h => nd h (fun h => nd h (fun h => nd h (fun h => lf (P := EE l 144) h k_144_153) (fun h => nd h (fun h => lf (P := EE l 144) h k_144_154) (fun h => lf (P := EE l 144) h k_144_157))) (fun h => nd h (fun h => lf (P := EE l 144) h k_144_158) (fun h => nd h (fun h => lf (P := EE l 144) h k_144_161) (fun h => lf (P := EE l 144) h k_144_162)))) (fun h => nd h (fun h => nd h (fun h => lf (P := EE l 144) h k_144_165) (fun h => nd h (fun h => lf (P := EE l 144) h k_144_166) (fun h => lf (P := EE l 144) h k_144_167))) (fun h => nd h (fun h => nd h (fun h => lf (P := EE l 144) h k_144_168) (fun h => lf (P := EE l 144) h k_144_169)) (fun h => nd h (fun h => lf (P := EE l 144) h k_144_172) (fun h => lf (P := EE l 144) h k_144_173)))))))) (fun h => nd h (fun h => nd h (fun h => nd h (fun h => nd h (fun h => nd h (fun h => nd h (fun h => lf (P := EE l 144) h k_144_176) (fun h => nd h (fun h => lf (P := EE l 144) h k_144_177) (fun h => lf (P := EE l 144) h k_144_178))) (fun h => nd h (fun h => lf (P := EE l 144) h k_144_179) (fun h => nd h (fun h => lf (P := EE l 144) h k_144_180) (fun h => lf (P := EE l 144) h k_144_183)))) (fun h => nd h (fun h => nd h (fun h => lf (P := EE l 144) h k_144_184) (fun h => nd h (fun h => lf (P := EE l 144) h k_144_185) (fun h => lf (P := EE l 144) h k_144_188))) (fun h => nd h (fun h => lf (P := EE l 144) h k_144_189) (fun h => nd h (fun h => lf (P := EE l 144) h k_144_192) (fun h => lf (P := EE l 144) h k_144_193))))) (fun h => nd h (fun h => nd h (fun h => nd h (fun h => lf (P := EE l 144) h k_144_194) (fun h => nd h (fun h => lf (P := EE l 144) h k_144_197) (fun h => lf (P := EE l 144) h (EE_ca (by decide) (⟨m_1288, m_81, ⟨by decide, by decide⟩, by decide +kernel, ⟨by decide, by decide⟩, 227, 0, by decide +kernel, Or.inr (Or.inr (Or.inl ⟨rfl, rfl, dX11_reduce_198, m_1285, m_1287, _, rfl, by decide, m_39⟩))⟩) rfl)))) (fun h => nd h (fun h => lf (P := EE l 144) h k_144_201) (fun h => nd h (fun h => lf (P := EE l 144) h k_144_202) (fun h => lf (P := EE l 144) h (EE_ca (by decide) (⟨m_1301, m_81, ⟨by decide, by decide⟩, by decide +kernel, ⟨by decide, by decide⟩, 230, 1, by decide +kernel, Or.inr (Or.inr (Or.inl ⟨rfl, rfl, dX11_reduce_204, m_1298, m_1300, _, rfl, by decide, m_42⟩))⟩) rfl))))) (fun h => nd h (fun h => nd h (fun h => lf (P := EE l 144) h k_144_207) (fun h => nd h (fun h => lf (P := EE l 144) h k_144_208) (fun h => lf (P := EE l 144) h k_144_211))) (fun h => nd h (fun h => nd h (fun h => lf (P := EE l 144) h k_144_213) (fun h => lf (P := EE l 144) h k_144_216)) (fun h => nd h (fun h => lf (P := EE l 144) h k_144_217) (fun h => lf (P := EE l 144) h k_144_218)))))) (fun h => nd h (fun h => nd h (fun h => nd h (fun h => nd h (fun h => lf (P := EE l 144) h k_144_221) (fun h => nd h (fun h => lf (P := EE l 144) h k_144_222) (fun h => lf (P := EE l 144) h k_144_224))) (fun h => nd h (fun h => lf (P := EE l 144) h k_144_226) (fun h => nd h (fun h => lf (P := EE l 144) h k_144_227) (fun h => lf (P := EE l 144) h k_144_230)))) (fun h => nd h (fun h => nd h (fun h => lf (P := EE l 144) h k_144_233) (fun h => nd h (fun h => lf (P := EE l 144) h k_144_235) (fun h => lf (P := EE l 144) h k_144_236))) (fun h => nd h (fun h => nd h (fun h => lf (P := EE l 144) h k_144_239) (fun h => lf (P := EE l 144) h k_144_240)) (fun h => nd h (fun h => lf (P := EE l 144) h k_144_243) (fun h => lf (P := EE l 144) h k_144_245))))) (fun h => nd h (fun h => nd h (fun h => nd h (fun h => lf (P := EE l 144) h k_144_246) (fun h => nd h (fun h => lf (P := EE l 144) h k_144_248) (fun h => lf (P := EE l 144) h k_144_249))) (fun h => nd h (fun h => lf (P := EE l 144) h k_144_250) (fun h => nd h (fun h => lf (P := EE l 144) h k_144_253) (fun h => lf (P := EE l 144) h k_144_255)))) (fun h => nd h (fun h => nd h (fun h => lf (P := EE l 144) h k_144_258) (fun h => nd h (fun h => lf (P := EE l 144) h k_144_261) (fun h => lf (P := EE l 144) h k_144_262))) (fun h => nd h (fun h => nd h (fun h => lf (P := EE l 144) h k_144_264) (fun h => lf (P := EE l 144) h k_144_265)) (fun h => nd h (fun h => lf (P := EE l 144) h k_144_268) (fun h => lf (P := EE l 144) h k_144_269))))))) (fun h => nd h (fun h => nd h (fun h => nd h (fun h => nd h (fun h => nd h (fun h => lf (P := EE l 144) h k_144_270) (fun h => nd h (fun h => lf (P := EE l 144) h k_144_273) (fun h => lf (P := EE l 144) h k_144_274))) (fun h => nd h (fun h => lf (P := EE l 144) h k_144_277) (fun h => nd h (fun h => lf (P := EE l 144) h k_144_278) (fun h => lf (P := EE l 144) h k_144_281)))) (fun h => nd h (fun h => nd h (fun h => lf (P := EE l 144) h k_144_282) (fun h => nd h (fun h => lf (P := EE l 144) h k_144_283) (fun h => lf (P := EE l 144) h k_144_285))) (fun h => nd h (fun h => lf (P := EE l 144) h (EE_ca (by decide) (⟨m_1313, m_81, ⟨by decide, by decide⟩, by decide +kernel, ⟨by decide, by decide⟩, 217, 3, by decide +kernel, Or.inr (Or.inr (Or.inl ⟨rfl, rfl, dX11_reduce_287, m_1310, m_1312, _, rfl, by decide, m_45⟩))⟩) rfl)) (fun h => nd h (fun h => lf (P := EE l 144) h k_144_290) (fun h => lf (P := EE l 144) h k_144_293))))) (fun h => nd h (fun h => nd h (fun h => nd h (fun h => lf (P := EE l 144) h k_144_294) (fun h => nd h (fun h => lf (P := EE l 144) h k_144_295) (fun h => lf (P := EE l 144) h k_144_298))) (fun h => nd h (fun h => lf (P := EE l 144) h k_144_301) (fun h => nd h (fun h => lf (P := EE l 144) h k_144_303) (fun h => lf (P := EE l 144) h k_144_306)))) (fun h => nd h (fun h => nd h (fun h => lf (P := EE l 144) h k_144_307) (fun h => nd h (fun h => lf (P := EE l 144) h k_144_309) (fun h => lf (P := EE l 144) h (EE_ca (by decide) (⟨m_1317, m_81, ⟨by decide, by decide⟩, by decide +kernel, ⟨by decide, by decide⟩, 234, 2, by decide +kernel, Or.inr (Or.inr (Or.inl ⟨rfl, rfl, dX11_reduce_311, m_1314, m_1316, _, rfl, by decide, m_46⟩))⟩) rfl)))) (fun h => nd h (fun h => nd h (fun h => lf (P := EE l 144) h k_144_314) (fun h => lf (P := EE l 144) h k_144_317)) (fun h => nd h (fun h => lf (P := EE l 144) h k_144_318) (fun h => lf (P := EE l 144) h k_144_320)))))) (fun h => nd h (fun h => nd h (fun h => nd h (fun h => nd h (fun h => lf (P := EE l 144) h (EE_ca (by decide) (⟨m_1332, m_81, ⟨by decide, by decide⟩, by decide +kernel, ⟨by decide, by decide⟩, 237, 2, by decide +kernel, Or.inr (Or.inr (Or.inl ⟨rfl, rfl, dX11_reduce_322, m_1329, m_1331, _, rfl, by decide, m_48⟩))⟩) rfl)) (fun h => nd h (fun h => lf (P := EE l 144) h k_144_325) (fun h => lf (P := EE l 144) h k_144_328))) (fun h => nd h (fun h => lf (P := EE l 144) h k_144_331) (fun h => nd h (fun h => lf (P := EE l 144) h k_144_332) (fun h => lf (P := EE l 144) h k_144_335)))) (fun h => nd h (fun h => nd h (fun h => lf (P := EE l 144) h k_144_336) (fun h => nd h (fun h => lf (P := EE l 144) h k_144_337) (fun h => lf (P := EE l 144) h (EE_re (Or.inr (Or.inr (Or.inr (Or.inr ⟨rfl, dX11_reduce_340, rfl⟩)))))))) (fun h => nd h (fun h => nd h (fun h => lf (P := EE l 144) h k_144_341) (fun h => lf (P := EE l 144) h k_144_342)) (fun h => nd h (fun h => lf (P := EE l 144) h (EE_ca (by decide) (⟨m_1301, m_81, ⟨by decide, by decide⟩, by decide +kernel, ⟨by decide, by decide⟩, 230, 1, by decide +kernel, Or.inr (Or.inr (Or.inl ⟨rfl, rfl, dX11_reduce_344, m_1298, m_1300, _, rfl, by decide, m_42⟩))⟩) rfl)) (fun h => lf (P := EE l 144) h k_144_347))))) (fun h => nd h (fun h => nd h (fun h => nd h (fun h => lf (P := EE l 144) h k_144_349) (fun h => nd h (fun h => lf (P := EE l 144) h k_144_352) (fun h => lf (P := EE l 144) h k_144_353))) (fun h => nd h (fun h => lf (P := EE l 144) h k_144_356) (fun h => nd h (fun h => lf (P := EE l 144) h k_144_357) (fun h => lf (P := EE l 144) h k_144_360)))) (fun h => nd h (fun h => nd h (fun h => lf (P := EE l 144) h k_144_361) (fun h => nd h (fun h => lf (P := EE l 144) h k_144_362) (fun h => lf (P := EE l 144) h k_144_365))) (fun h => nd h (fun h => nd h (fun h => lf (P := EE l 144) h k_144_367) (fun h => lf (P := EE l 144) h k_144_370)) (fun h => nd h (fun h => lf (P := EE l 144) h (EE_ca (by decide) (⟨m_1336, m_81, ⟨by decide, by decide⟩, by decide +kernel, ⟨by decide, by decide⟩, 224, 0, by decide +kernel, Or.inr (Or.inr (Or.inl ⟨rfl, rfl, dX11_reduce_371, m_1333, m_1335, _, rfl, by decide, m_49⟩))⟩) rfl)) (fun h => lf (P := EE l 144) h (EE_re (Or.inr (Or.inr (Or.inr (Or.inr ⟨rfl, dX11_reduce_374, rfl⟩)))))))))))))
theorem dX11_octetOut_0 : decode cX11_octetOut 0 = .ok (.aload_n 0, 1) := by decide +kernel
theorem dX11_octetOut_1 : decode cX11_octetOut 1 = .ok (.getfield 106, 3) := by decide +kernel
theorem dX11_octetOut_4 : decode cX11_octetOut 4 = .ok (.aload_n 0, 1) := by decide +kernel
theorem dX11_octetOut_5 : decode cX11_octetOut 5 = .ok (.getfield 240, 3) := by decide +kernel
theorem dX11_octetOut_8 : decode cX11_octetOut 8 = .ok (.iload_n 1, 1) := by decide +kernel
theorem dX11_octetOut_9 : decode cX11_octetOut 9 = .ok (.iastore, 1) := by decide +kernel
theorem dX11_octetOut_10 : decode cX11_octetOut 10 = .ok (.aload_n 0, 1) := by decide +kernel
theorem dX11_octetOut_11 : decode cX11_octetOut 11 = .ok (.dup, 1) := by decide +kernel
theorem dX11_octetOut_12 : decode cX11_octetOut 12 = .ok (.getfield 240, 3) := by decide +kernel
theorem dX11_octetOut_15 : decode cX11_octetOut 15 = .ok (.iconst 1, 1) := by decide +kernel
theorem dX11_octetOut_16 : decode cX11_octetOut 16 = .ok (.iadd, 1) := by decide +kernel
theorem dX11_octetOut_17 : decode cX11_octetOut 17 = .ok (.putfield 240, 3) := by decide +kernel
theorem dX11_octetOut_20 : decode cX11_octetOut 20 = .ok (.return_, 1) := by decide +kernel
def tb_145 (pc : Nat) : Option mEnt := bif Nat.ble pc 9 then (bif Nat.ble pc 4 then (bif Nat.ble pc 0 then (bif Nat.beq pc 0 then some (.inl (o_al 0 1)) else none) else (bif Nat.ble pc 1 then (bif Nat.beq pc 1 then some (.inl (o_gP 11 36)) else none) else (bif Nat.beq pc 4 then some (.inl (o_al 0 1)) else none))) else (bif Nat.ble pc 5 then (bif Nat.beq pc 5 then some (.inl (o_gI 11 37)) else none) else (bif Nat.ble pc 8 then (bif Nat.beq pc 8 then some (.inl (o_il 1 1)) else none) else (bif Nat.beq pc 9 then some (.inl (o_iast)) else none)))) else (bif Nat.ble pc 12 then (bif Nat.ble pc 10 then (bif Nat.beq pc 10 then some (.inl (o_al 0 1)) else none) else (bif Nat.ble pc 11 then (bif Nat.beq pc 11 then some (.inl (oS 1 s_dup)) else none) else (bif Nat.beq pc 12 then some (.inl (o_gI 11 37)) else none))) else (bif Nat.ble pc 16 then (bif Nat.ble pc 15 then (bif Nat.beq pc 15 then some (.inl (oS 1 (s_push (.int 1)))) else none) else (bif Nat.beq pc 16 then some (.inl (oS 1 (s_ii (fun a b => a + b)))) else none)) else (bif Nat.ble pc 17 then (bif Nat.beq pc 17 then some (.inl (o_pI 11 37)) else none) else (bif Nat.beq pc 20 then some (.inr (0, 0, 0, 3)) else none))))
theorem k_145_0 : mOk M_145.1 M_145.2.1 M_145.2.2.1 M_145.2.2.2 0 (o_al 0 1) := ok_aload_n dX11_octetOut_0 rfl
theorem k_145_1 : mOk M_145.1 M_145.2.1 M_145.2.2.1 M_145.2.2.2 1 (o_gP 11 36) := ok_gP dX11_octetOut_1 f_RX11_106 rfl
theorem k_145_4 : mOk M_145.1 M_145.2.1 M_145.2.2.1 M_145.2.2.2 4 (o_al 0 1) := ok_aload_n dX11_octetOut_4 rfl
theorem k_145_5 : mOk M_145.1 M_145.2.1 M_145.2.2.1 M_145.2.2.2 5 (o_gI 11 37) := ok_gI dX11_octetOut_5 f_RX11_240 (Or.inl rfl)
theorem k_145_8 : mOk M_145.1 M_145.2.1 M_145.2.2.1 M_145.2.2.2 8 (o_il 1 1) := ok_iload_n dX11_octetOut_8 rfl
theorem k_145_9 : mOk M_145.1 M_145.2.1 M_145.2.2.1 M_145.2.2.2 9 (o_iast) := ok_iast dX11_octetOut_9
theorem k_145_10 : mOk M_145.1 M_145.2.1 M_145.2.2.1 M_145.2.2.2 10 (o_al 0 1) := ok_aload_n dX11_octetOut_10 rfl
theorem k_145_11 : mOk M_145.1 M_145.2.1 M_145.2.2.1 M_145.2.2.2 11 (oS 1 s_dup) := ok_dup dX11_octetOut_11
theorem k_145_12 : mOk M_145.1 M_145.2.1 M_145.2.2.1 M_145.2.2.2 12 (o_gI 11 37) := ok_gI dX11_octetOut_12 f_RX11_240 (Or.inl rfl)
theorem k_145_15 : mOk M_145.1 M_145.2.1 M_145.2.2.1 M_145.2.2.2 15 (oS 1 (s_push (.int 1))) := ok_iconst dX11_octetOut_15 (by decide)
theorem k_145_16 : mOk M_145.1 M_145.2.1 M_145.2.2.1 M_145.2.2.2 16 (oS 1 (s_ii (fun a b => a + b))) := ok_iadd dX11_octetOut_16
theorem k_145_17 : mOk M_145.1 M_145.2.1 M_145.2.2.1 M_145.2.2.2 17 (o_pI 11 37) := ok_pI dX11_octetOut_17 (mFw_of f_RX11_240_c (Or.inl rfl)) rfl
set_option maxRecDepth 20000 in
set_option maxHeartbeats 4000000 in
theorem tk_145 (l : Launch) (H9 : mThr l) (H10 : mSpl l) (pc : Nat) (q : mEnt) (h : tb_145 pc = some q) : EE l 145 pc q := nd h (fun h => nd h (fun h => nd h (fun h => lf (P := EE l 145) h k_145_0) (fun h => nd h (fun h => lf (P := EE l 145) h k_145_1) (fun h => lf (P := EE l 145) h k_145_4))) (fun h => nd h (fun h => lf (P := EE l 145) h k_145_5) (fun h => nd h (fun h => lf (P := EE l 145) h k_145_8) (fun h => lf (P := EE l 145) h k_145_9)))) (fun h => nd h (fun h => nd h (fun h => lf (P := EE l 145) h k_145_10) (fun h => nd h (fun h => lf (P := EE l 145) h k_145_11) (fun h => lf (P := EE l 145) h k_145_12))) (fun h => nd h (fun h => nd h (fun h => lf (P := EE l 145) h k_145_15) (fun h => lf (P := EE l 145) h k_145_16)) (fun h => nd h (fun h => lf (P := EE l 145) h k_145_17) (fun h => lf (P := EE l 145) h (EE_re (Or.inr (Or.inr (Or.inr (Or.inr ⟨rfl, dX11_octetOut_20, rfl⟩)))))))))
theorem dX11_countOut_0 : decode cX11_countOut 0 = .ok (.iload_n 1, 1) := by decide +kernel
theorem dX11_countOut_1 : decode cX11_countOut 1 = .ok (.istore_n 2, 1) := by decide +kernel
theorem dX11_countOut_2 : decode cX11_countOut 2 = .ok (.iload_n 2, 1) := by decide +kernel
theorem dX11_countOut_3 : decode cX11_countOut 3 = .ok (.sipush 128, 3) := by decide +kernel
theorem dX11_countOut_6 : decode cX11_countOut 6 = .ok (.if_icmp .lt 25, 3) := by decide +kernel
theorem dX11_countOut_9 : decode cX11_countOut 9 = .ok (.aload_n 0, 1) := by decide +kernel
theorem dX11_countOut_10 : decode cX11_countOut 10 = .ok (.iload_n 2, 1) := by decide +kernel
theorem dX11_countOut_11 : decode cX11_countOut 11 = .ok (.sipush 128, 3) := by decide +kernel
theorem dX11_countOut_14 : decode cX11_countOut 14 = .ok (.irem, 1) := by decide +kernel
theorem dX11_countOut_15 : decode cX11_countOut 15 = .ok (.sipush 128, 3) := by decide +kernel
theorem dX11_countOut_18 : decode cX11_countOut 18 = .ok (.iadd, 1) := by decide +kernel
theorem dX11_countOut_19 : decode cX11_countOut 19 = .ok (.invokevirtual 243, 3) := by decide +kernel
theorem dX11_countOut_22 : decode cX11_countOut 22 = .ok (.iload_n 2, 1) := by decide +kernel
theorem dX11_countOut_23 : decode cX11_countOut 23 = .ok (.sipush 128, 3) := by decide +kernel
theorem dX11_countOut_26 : decode cX11_countOut 26 = .ok (.idiv, 1) := by decide +kernel
theorem dX11_countOut_27 : decode cX11_countOut 27 = .ok (.istore_n 2, 1) := by decide +kernel
theorem dX11_countOut_28 : decode cX11_countOut 28 = .ok (.goto (-26), 3) := by decide +kernel
theorem dX11_countOut_31 : decode cX11_countOut 31 = .ok (.aload_n 0, 1) := by decide +kernel
theorem dX11_countOut_32 : decode cX11_countOut 32 = .ok (.iload_n 2, 1) := by decide +kernel
theorem dX11_countOut_33 : decode cX11_countOut 33 = .ok (.invokevirtual 243, 3) := by decide +kernel
theorem dX11_countOut_36 : decode cX11_countOut 36 = .ok (.return_, 1) := by decide +kernel
def tb_146 (pc : Nat) : Option mEnt := bif Nat.ble pc 15 then (bif Nat.ble pc 6 then (bif Nat.ble pc 1 then (bif Nat.ble pc 0 then (bif Nat.beq pc 0 then some (.inl (o_il 1 1)) else none) else (bif Nat.beq pc 1 then some (.inl (o_is 2 1)) else none)) else (bif Nat.ble pc 2 then (bif Nat.beq pc 2 then some (.inl (o_il 2 1)) else none) else (bif Nat.ble pc 3 then (bif Nat.beq pc 3 then some (.inl (oS 3 (s_push (.int 128)))) else none) else (bif Nat.beq pc 6 then some (.inl (o_clt 31)) else none)))) else (bif Nat.ble pc 10 then (bif Nat.ble pc 9 then (bif Nat.beq pc 9 then some (.inl (o_al 0 1)) else none) else (bif Nat.beq pc 10 then some (.inl (o_il 2 1)) else none)) else (bif Nat.ble pc 11 then (bif Nat.beq pc 11 then some (.inl (oS 3 (s_push (.int 128)))) else none) else (bif Nat.ble pc 14 then (bif Nat.beq pc 14 then some (.inl (oS 1 (s_iiz (fun a b => a - a / b * b)))) else none) else (bif Nat.beq pc 15 then some (.inl (oS 3 (s_push (.int 128)))) else none))))) else (bif Nat.ble pc 26 then (bif Nat.ble pc 19 then (bif Nat.ble pc 18 then (bif Nat.beq pc 18 then some (.inl (oS 1 (s_ii (fun a b => a + b)))) else none) else (bif Nat.beq pc 19 then some (.inr (3, 145, 2, 11)) else none)) else (bif Nat.ble pc 22 then (bif Nat.beq pc 22 then some (.inl (o_il 2 1)) else none) else (bif Nat.ble pc 23 then (bif Nat.beq pc 23 then some (.inl (oS 3 (s_push (.int 128)))) else none) else (bif Nat.beq pc 26 then some (.inl (oS 1 (s_iiz (fun a b => a / b)))) else none)))) else (bif Nat.ble pc 31 then (bif Nat.ble pc 27 then (bif Nat.beq pc 27 then some (.inl (o_is 2 1)) else none) else (bif Nat.ble pc 28 then (bif Nat.beq pc 28 then some (.inl (o_goto 2)) else none) else (bif Nat.beq pc 31 then some (.inl (o_al 0 1)) else none))) else (bif Nat.ble pc 32 then (bif Nat.beq pc 32 then some (.inl (o_il 2 1)) else none) else (bif Nat.ble pc 33 then (bif Nat.beq pc 33 then some (.inr (3, 145, 2, 11)) else none) else (bif Nat.beq pc 36 then some (.inr (0, 0, 0, 3)) else none)))))
theorem k_146_0 : mOk M_146.1 M_146.2.1 M_146.2.2.1 M_146.2.2.2 0 (o_il 1 1) := ok_iload_n dX11_countOut_0 rfl
theorem k_146_1 : mOk M_146.1 M_146.2.1 M_146.2.2.1 M_146.2.2.2 1 (o_is 2 1) := ok_istore_n dX11_countOut_1 rfl
theorem k_146_2 : mOk M_146.1 M_146.2.1 M_146.2.2.1 M_146.2.2.2 2 (o_il 2 1) := ok_iload_n dX11_countOut_2 rfl
theorem k_146_3 : mOk M_146.1 M_146.2.1 M_146.2.2.1 M_146.2.2.2 3 (oS 3 (s_push (.int 128))) := ok_sipush dX11_countOut_3 (by decide)
theorem k_146_6 : mOk M_146.1 M_146.2.1 M_146.2.2.1 M_146.2.2.2 6 (o_clt 31) := ok_clt dX11_countOut_6 (by decide)
theorem k_146_9 : mOk M_146.1 M_146.2.1 M_146.2.2.1 M_146.2.2.2 9 (o_al 0 1) := ok_aload_n dX11_countOut_9 rfl
theorem k_146_10 : mOk M_146.1 M_146.2.1 M_146.2.2.1 M_146.2.2.2 10 (o_il 2 1) := ok_iload_n dX11_countOut_10 rfl
theorem k_146_11 : mOk M_146.1 M_146.2.1 M_146.2.2.1 M_146.2.2.2 11 (oS 3 (s_push (.int 128))) := ok_sipush dX11_countOut_11 (by decide)
theorem k_146_14 : mOk M_146.1 M_146.2.1 M_146.2.2.1 M_146.2.2.2 14 (oS 1 (s_iiz (fun a b => a - a / b * b))) := ok_irem dX11_countOut_14
theorem k_146_15 : mOk M_146.1 M_146.2.1 M_146.2.2.1 M_146.2.2.2 15 (oS 3 (s_push (.int 128))) := ok_sipush dX11_countOut_15 (by decide)
theorem k_146_18 : mOk M_146.1 M_146.2.1 M_146.2.2.1 M_146.2.2.2 18 (oS 1 (s_ii (fun a b => a + b))) := ok_iadd dX11_countOut_18
theorem k_146_22 : mOk M_146.1 M_146.2.1 M_146.2.2.1 M_146.2.2.2 22 (o_il 2 1) := ok_iload_n dX11_countOut_22 rfl
theorem k_146_23 : mOk M_146.1 M_146.2.1 M_146.2.2.1 M_146.2.2.2 23 (oS 3 (s_push (.int 128))) := ok_sipush dX11_countOut_23 (by decide)
theorem k_146_26 : mOk M_146.1 M_146.2.1 M_146.2.2.1 M_146.2.2.2 26 (oS 1 (s_iiz (fun a b => a / b))) := ok_idiv dX11_countOut_26
theorem k_146_27 : mOk M_146.1 M_146.2.1 M_146.2.2.1 M_146.2.2.2 27 (o_is 2 1) := ok_istore_n dX11_countOut_27 rfl
theorem k_146_28 : mOk M_146.1 M_146.2.1 M_146.2.2.1 M_146.2.2.2 28 (o_goto 2) := ok_goto dX11_countOut_28 (by decide)
theorem k_146_31 : mOk M_146.1 M_146.2.1 M_146.2.2.1 M_146.2.2.2 31 (o_al 0 1) := ok_aload_n dX11_countOut_31 rfl
theorem k_146_32 : mOk M_146.1 M_146.2.1 M_146.2.2.1 M_146.2.2.2 32 (o_il 2 1) := ok_iload_n dX11_countOut_32 rfl
set_option maxRecDepth 20000 in
set_option maxHeartbeats 4000000 in
theorem tk_146 (l : Launch) (H9 : mThr l) (H10 : mSpl l) (pc : Nat) (q : mEnt) (h : tb_146 pc = some q) : EE l 146 pc q := nd h (fun h => nd h (fun h => nd h (fun h => nd h (fun h => lf (P := EE l 146) h k_146_0) (fun h => lf (P := EE l 146) h k_146_1)) (fun h => nd h (fun h => lf (P := EE l 146) h k_146_2) (fun h => nd h (fun h => lf (P := EE l 146) h k_146_3) (fun h => lf (P := EE l 146) h k_146_6)))) (fun h => nd h (fun h => nd h (fun h => lf (P := EE l 146) h k_146_9) (fun h => lf (P := EE l 146) h k_146_10)) (fun h => nd h (fun h => lf (P := EE l 146) h k_146_11) (fun h => nd h (fun h => lf (P := EE l 146) h k_146_14) (fun h => lf (P := EE l 146) h k_146_15))))) (fun h => nd h (fun h => nd h (fun h => nd h (fun h => lf (P := EE l 146) h k_146_18) (fun h => lf (P := EE l 146) h (EE_ca (by decide) (⟨m_1348, m_81, ⟨by decide, by decide⟩, by decide +kernel, ⟨by decide, by decide⟩, 243, 1, by decide +kernel, Or.inr (Or.inr (Or.inl ⟨rfl, rfl, dX11_countOut_19, m_1345, m_1347, _, rfl, by decide, m_52⟩))⟩) rfl))) (fun h => nd h (fun h => lf (P := EE l 146) h k_146_22) (fun h => nd h (fun h => lf (P := EE l 146) h k_146_23) (fun h => lf (P := EE l 146) h k_146_26)))) (fun h => nd h (fun h => nd h (fun h => lf (P := EE l 146) h k_146_27) (fun h => nd h (fun h => lf (P := EE l 146) h k_146_28) (fun h => lf (P := EE l 146) h k_146_31))) (fun h => nd h (fun h => lf (P := EE l 146) h k_146_32) (fun h => nd h (fun h => lf (P := EE l 146) h (EE_ca (by decide) (⟨m_1348, m_81, ⟨by decide, by decide⟩, by decide +kernel, ⟨by decide, by decide⟩, 243, 1, by decide +kernel, Or.inr (Or.inr (Or.inl ⟨rfl, rfl, dX11_countOut_33, m_1345, m_1347, _, rfl, by decide, m_52⟩))⟩) rfl)) (fun h => lf (P := EE l 146) h (EE_re (Or.inr (Or.inr (Or.inr (Or.inr ⟨rfl, dX11_countOut_36, rfl⟩))))))))))
theorem dX11_differenceOut_0 : decode cX11_differenceOut 0 = .ok (.aload_n 0, 1) := by decide +kernel
theorem dX11_differenceOut_1 : decode cX11_differenceOut 1 = .ok (.iload_n 1, 1) := by decide +kernel
theorem dX11_differenceOut_2 : decode cX11_differenceOut 2 = .ok (.ifCond .ge 12, 3) := by decide +kernel
theorem dX11_differenceOut_5 : decode cX11_differenceOut 5 = .ok (.bipush (-2), 2) := by decide +kernel
theorem dX11_differenceOut_7 : decode cX11_differenceOut 7 = .ok (.iload_n 1, 1) := by decide +kernel
theorem dX11_differenceOut_8 : decode cX11_differenceOut 8 = .ok (.imul, 1) := by decide +kernel
theorem dX11_differenceOut_9 : decode cX11_differenceOut 9 = .ok (.iconst 1, 1) := by decide +kernel
theorem dX11_differenceOut_10 : decode cX11_differenceOut 10 = .ok (.isub, 1) := by decide +kernel
theorem dX11_differenceOut_11 : decode cX11_differenceOut 11 = .ok (.goto 6, 3) := by decide +kernel
theorem dX11_differenceOut_14 : decode cX11_differenceOut 14 = .ok (.iconst 2, 1) := by decide +kernel
theorem dX11_differenceOut_15 : decode cX11_differenceOut 15 = .ok (.iload_n 1, 1) := by decide +kernel
theorem dX11_differenceOut_16 : decode cX11_differenceOut 16 = .ok (.imul, 1) := by decide +kernel
theorem dX11_differenceOut_17 : decode cX11_differenceOut 17 = .ok (.invokevirtual 247, 3) := by decide +kernel
theorem dX11_differenceOut_20 : decode cX11_differenceOut 20 = .ok (.return_, 1) := by decide +kernel
def tb_147 (pc : Nat) : Option mEnt := bif Nat.ble pc 9 then (bif Nat.ble pc 2 then (bif Nat.ble pc 0 then (bif Nat.beq pc 0 then some (.inl (o_al 0 1)) else none) else (bif Nat.ble pc 1 then (bif Nat.beq pc 1 then some (.inl (o_il 1 1)) else none) else (bif Nat.beq pc 2 then some (.inl (o_zge 14)) else none))) else (bif Nat.ble pc 7 then (bif Nat.ble pc 5 then (bif Nat.beq pc 5 then some (.inl (oS 2 (s_push (.int (-2))))) else none) else (bif Nat.beq pc 7 then some (.inl (o_il 1 1)) else none)) else (bif Nat.ble pc 8 then (bif Nat.beq pc 8 then some (.inl (oS 1 (s_ii (fun a b => a * b)))) else none) else (bif Nat.beq pc 9 then some (.inl (oS 1 (s_push (.int 1)))) else none)))) else (bif Nat.ble pc 14 then (bif Nat.ble pc 10 then (bif Nat.beq pc 10 then some (.inl (oS 1 (s_ii (fun a b => a - b)))) else none) else (bif Nat.ble pc 11 then (bif Nat.beq pc 11 then some (.inl (o_goto 17)) else none) else (bif Nat.beq pc 14 then some (.inl (oS 1 (s_push (.int 2)))) else none))) else (bif Nat.ble pc 16 then (bif Nat.ble pc 15 then (bif Nat.beq pc 15 then some (.inl (o_il 1 1)) else none) else (bif Nat.beq pc 16 then some (.inl (oS 1 (s_ii (fun a b => a * b)))) else none)) else (bif Nat.ble pc 17 then (bif Nat.beq pc 17 then some (.inr (3, 146, 2, 11)) else none) else (bif Nat.beq pc 20 then some (.inr (0, 0, 0, 3)) else none))))
theorem k_147_0 : mOk M_147.1 M_147.2.1 M_147.2.2.1 M_147.2.2.2 0 (o_al 0 1) := ok_aload_n dX11_differenceOut_0 rfl
theorem k_147_1 : mOk M_147.1 M_147.2.1 M_147.2.2.1 M_147.2.2.2 1 (o_il 1 1) := ok_iload_n dX11_differenceOut_1 rfl
theorem k_147_2 : mOk M_147.1 M_147.2.1 M_147.2.2.1 M_147.2.2.2 2 (o_zge 14) := ok_zge dX11_differenceOut_2 (by decide)
theorem k_147_5 : mOk M_147.1 M_147.2.1 M_147.2.2.1 M_147.2.2.2 5 (oS 2 (s_push (.int (-2)))) := ok_bipush dX11_differenceOut_5 (by decide)
theorem k_147_7 : mOk M_147.1 M_147.2.1 M_147.2.2.1 M_147.2.2.2 7 (o_il 1 1) := ok_iload_n dX11_differenceOut_7 rfl
theorem k_147_8 : mOk M_147.1 M_147.2.1 M_147.2.2.1 M_147.2.2.2 8 (oS 1 (s_ii (fun a b => a * b))) := ok_imul dX11_differenceOut_8
theorem k_147_9 : mOk M_147.1 M_147.2.1 M_147.2.2.1 M_147.2.2.2 9 (oS 1 (s_push (.int 1))) := ok_iconst dX11_differenceOut_9 (by decide)
theorem k_147_10 : mOk M_147.1 M_147.2.1 M_147.2.2.1 M_147.2.2.2 10 (oS 1 (s_ii (fun a b => a - b))) := ok_isub dX11_differenceOut_10
theorem k_147_11 : mOk M_147.1 M_147.2.1 M_147.2.2.1 M_147.2.2.2 11 (o_goto 17) := ok_goto dX11_differenceOut_11 (by decide)
theorem k_147_14 : mOk M_147.1 M_147.2.1 M_147.2.2.1 M_147.2.2.2 14 (oS 1 (s_push (.int 2))) := ok_iconst dX11_differenceOut_14 (by decide)
theorem k_147_15 : mOk M_147.1 M_147.2.1 M_147.2.2.1 M_147.2.2.2 15 (o_il 1 1) := ok_iload_n dX11_differenceOut_15 rfl
theorem k_147_16 : mOk M_147.1 M_147.2.1 M_147.2.2.1 M_147.2.2.2 16 (oS 1 (s_ii (fun a b => a * b))) := ok_imul dX11_differenceOut_16
set_option maxRecDepth 20000 in
set_option maxHeartbeats 4000000 in
theorem tk_147 (l : Launch) (H9 : mThr l) (H10 : mSpl l) (pc : Nat) (q : mEnt) (h : tb_147 pc = some q) : EE l 147 pc q := nd h (fun h => nd h (fun h => nd h (fun h => lf (P := EE l 147) h k_147_0) (fun h => nd h (fun h => lf (P := EE l 147) h k_147_1) (fun h => lf (P := EE l 147) h k_147_2))) (fun h => nd h (fun h => nd h (fun h => lf (P := EE l 147) h k_147_5) (fun h => lf (P := EE l 147) h k_147_7)) (fun h => nd h (fun h => lf (P := EE l 147) h k_147_8) (fun h => lf (P := EE l 147) h k_147_9)))) (fun h => nd h (fun h => nd h (fun h => lf (P := EE l 147) h k_147_10) (fun h => nd h (fun h => lf (P := EE l 147) h k_147_11) (fun h => lf (P := EE l 147) h k_147_14))) (fun h => nd h (fun h => nd h (fun h => lf (P := EE l 147) h k_147_15) (fun h => lf (P := EE l 147) h k_147_16)) (fun h => nd h (fun h => lf (P := EE l 147) h (EE_ca (by decide) (⟨m_1344, m_81, ⟨by decide, by decide⟩, by decide +kernel, ⟨by decide, by decide⟩, 247, 1, by decide +kernel, Or.inr (Or.inr (Or.inl ⟨rfl, rfl, dX11_differenceOut_17, m_1341, m_1343, _, rfl, by decide, m_51⟩))⟩) rfl)) (fun h => lf (P := EE l 147) h (EE_re (Or.inr (Or.inr (Or.inr (Or.inr ⟨rfl, dX11_differenceOut_20, rfl⟩)))))))))
theorem dX11_writeFeature_0 : decode cX11_writeFeature 0 = .ok (.aload_n 0, 1) := by decide +kernel
theorem dX11_writeFeature_1 : decode cX11_writeFeature 1 = .ok (.aload_n 0, 1) := by decide +kernel
theorem dX11_writeFeature_2 : decode cX11_writeFeature 2 = .ok (.getfield 13, 3) := by decide +kernel
theorem dX11_writeFeature_5 : decode cX11_writeFeature 5 = .ok (.iload_n 1, 1) := by decide +kernel
theorem dX11_writeFeature_6 : decode cX11_writeFeature 6 = .ok (.iaload, 1) := by decide +kernel
theorem dX11_writeFeature_7 : decode cX11_writeFeature 7 = .ok (.iload_n 2, 1) := by decide +kernel
theorem dX11_writeFeature_8 : decode cX11_writeFeature 8 = .ok (.isub, 1) := by decide +kernel
theorem dX11_writeFeature_9 : decode cX11_writeFeature 9 = .ok (.invokevirtual 247, 3) := by decide +kernel
theorem dX11_writeFeature_12 : decode cX11_writeFeature 12 = .ok (.aload_n 0, 1) := by decide +kernel
theorem dX11_writeFeature_13 : decode cX11_writeFeature 13 = .ok (.aload_n 0, 1) := by decide +kernel
theorem dX11_writeFeature_14 : decode cX11_writeFeature 14 = .ok (.getfield 16, 3) := by decide +kernel
theorem dX11_writeFeature_17 : decode cX11_writeFeature 17 = .ok (.iload_n 1, 1) := by decide +kernel
theorem dX11_writeFeature_18 : decode cX11_writeFeature 18 = .ok (.iaload, 1) := by decide +kernel
theorem dX11_writeFeature_19 : decode cX11_writeFeature 19 = .ok (.iconst 4, 1) := by decide +kernel
theorem dX11_writeFeature_20 : decode cX11_writeFeature 20 = .ok (.aload_n 0, 1) := by decide +kernel
theorem dX11_writeFeature_21 : decode cX11_writeFeature 21 = .ok (.getfield 19, 3) := by decide +kernel
theorem dX11_writeFeature_24 : decode cX11_writeFeature 24 = .ok (.iload_n 1, 1) := by decide +kernel
theorem dX11_writeFeature_25 : decode cX11_writeFeature 25 = .ok (.iaload, 1) := by decide +kernel
theorem dX11_writeFeature_26 : decode cX11_writeFeature 26 = .ok (.imul, 1) := by decide +kernel
theorem dX11_writeFeature_27 : decode cX11_writeFeature 27 = .ok (.iadd, 1) := by decide +kernel
theorem dX11_writeFeature_28 : decode cX11_writeFeature 28 = .ok (.invokevirtual 243, 3) := by decide +kernel
theorem dX11_writeFeature_31 : decode cX11_writeFeature 31 = .ok (.iconst 0, 1) := by decide +kernel
theorem dX11_writeFeature_32 : decode cX11_writeFeature 32 = .ok (.istore 5, 2) := by decide +kernel
theorem dX11_writeFeature_34 : decode cX11_writeFeature 34 = .ok (.iconst 0, 1) := by decide +kernel
theorem dX11_writeFeature_35 : decode cX11_writeFeature 35 = .ok (.istore 6, 2) := by decide +kernel
theorem dX11_writeFeature_37 : decode cX11_writeFeature 37 = .ok (.iload 6, 2) := by decide +kernel
theorem dX11_writeFeature_39 : decode cX11_writeFeature 39 = .ok (.aload_n 0, 1) := by decide +kernel
theorem dX11_writeFeature_40 : decode cX11_writeFeature 40 = .ok (.getfield 191, 3) := by decide +kernel
theorem dX11_writeFeature_43 : decode cX11_writeFeature 43 = .ok (.if_icmp .ge 22, 3) := by decide +kernel
theorem dX11_writeFeature_46 : decode cX11_writeFeature 46 = .ok (.aload_n 0, 1) := by decide +kernel
theorem dX11_writeFeature_47 : decode cX11_writeFeature 47 = .ok (.getfield 118, 3) := by decide +kernel
theorem dX11_writeFeature_50 : decode cX11_writeFeature 50 = .ok (.iload 6, 2) := by decide +kernel
theorem dX11_writeFeature_52 : decode cX11_writeFeature 52 = .ok (.baload, 1) := by decide +kernel
theorem dX11_writeFeature_53 : decode cX11_writeFeature 53 = .ok (.ifCond .eq 6, 3) := by decide +kernel
theorem dX11_writeFeature_56 : decode cX11_writeFeature 56 = .ok (.iinc 5 1, 3) := by decide +kernel
theorem dX11_writeFeature_59 : decode cX11_writeFeature 59 = .ok (.iinc 6 1, 3) := by decide +kernel
theorem dX11_writeFeature_62 : decode cX11_writeFeature 62 = .ok (.goto (-25), 3) := by decide +kernel
theorem dX11_writeFeature_65 : decode cX11_writeFeature 65 = .ok (.aload_n 0, 1) := by decide +kernel
theorem dX11_writeFeature_66 : decode cX11_writeFeature 66 = .ok (.iload 5, 2) := by decide +kernel
theorem dX11_writeFeature_68 : decode cX11_writeFeature 68 = .ok (.invokevirtual 247, 3) := by decide +kernel
theorem dX11_writeFeature_71 : decode cX11_writeFeature 71 = .ok (.sipush 256, 3) := by decide +kernel
theorem dX11_writeFeature_74 : decode cX11_writeFeature 74 = .ok (.iload_n 3, 1) := by decide +kernel
theorem dX11_writeFeature_75 : decode cX11_writeFeature 75 = .ok (.imul, 1) := by decide +kernel
theorem dX11_writeFeature_76 : decode cX11_writeFeature 76 = .ok (.istore 6, 2) := by decide +kernel
theorem dX11_writeFeature_78 : decode cX11_writeFeature 78 = .ok (.sipush 256, 3) := by decide +kernel
theorem dX11_writeFeature_81 : decode cX11_writeFeature 81 = .ok (.iload 4, 2) := by decide +kernel
theorem dX11_writeFeature_83 : decode cX11_writeFeature 83 = .ok (.imul, 1) := by decide +kernel
theorem dX11_writeFeature_84 : decode cX11_writeFeature 84 = .ok (.istore 7, 2) := by decide +kernel
theorem dX11_writeFeature_86 : decode cX11_writeFeature 86 = .ok (.iconst 0, 1) := by decide +kernel
theorem dX11_writeFeature_87 : decode cX11_writeFeature 87 = .ok (.istore 8, 2) := by decide +kernel
theorem dX11_writeFeature_89 : decode cX11_writeFeature 89 = .ok (.iload 8, 2) := by decide +kernel
theorem dX11_writeFeature_91 : decode cX11_writeFeature 91 = .ok (.aload_n 0, 1) := by decide +kernel
theorem dX11_writeFeature_92 : decode cX11_writeFeature 92 = .ok (.getfield 191, 3) := by decide +kernel
theorem dX11_writeFeature_95 : decode cX11_writeFeature 95 = .ok (.if_icmp .ge 105, 3) := by decide +kernel
theorem dX11_writeFeature_98 : decode cX11_writeFeature 98 = .ok (.aload_n 0, 1) := by decide +kernel
theorem dX11_writeFeature_99 : decode cX11_writeFeature 99 = .ok (.getfield 118, 3) := by decide +kernel
theorem dX11_writeFeature_102 : decode cX11_writeFeature 102 = .ok (.iload 8, 2) := by decide +kernel
theorem dX11_writeFeature_104 : decode cX11_writeFeature 104 = .ok (.baload, 1) := by decide +kernel
theorem dX11_writeFeature_105 : decode cX11_writeFeature 105 = .ok (.ifCond .eq 43, 3) := by decide +kernel
theorem dX11_writeFeature_108 : decode cX11_writeFeature 108 = .ok (.iconst 1, 1) := by decide +kernel
theorem dX11_writeFeature_109 : decode cX11_writeFeature 109 = .ok (.istore 9, 2) := by decide +kernel
theorem dX11_writeFeature_111 : decode cX11_writeFeature 111 = .ok (.iload 8, 2) := by decide +kernel
theorem dX11_writeFeature_113 : decode cX11_writeFeature 113 = .ok (.iload 9, 2) := by decide +kernel
theorem dX11_writeFeature_115 : decode cX11_writeFeature 115 = .ok (.iadd, 1) := by decide +kernel
theorem dX11_writeFeature_116 : decode cX11_writeFeature 116 = .ok (.aload_n 0, 1) := by decide +kernel
theorem dX11_writeFeature_117 : decode cX11_writeFeature 117 = .ok (.getfield 191, 3) := by decide +kernel
theorem dX11_writeFeature_120 : decode cX11_writeFeature 120 = .ok (.if_icmp .ge 22, 3) := by decide +kernel
theorem dX11_writeFeature_123 : decode cX11_writeFeature 123 = .ok (.aload_n 0, 1) := by decide +kernel
theorem dX11_writeFeature_124 : decode cX11_writeFeature 124 = .ok (.getfield 118, 3) := by decide +kernel
theorem dX11_writeFeature_127 : decode cX11_writeFeature 127 = .ok (.iload 8, 2) := by decide +kernel
theorem dX11_writeFeature_129 : decode cX11_writeFeature 129 = .ok (.iload 9, 2) := by decide +kernel
theorem dX11_writeFeature_131 : decode cX11_writeFeature 131 = .ok (.iadd, 1) := by decide +kernel
theorem dX11_writeFeature_132 : decode cX11_writeFeature 132 = .ok (.baload, 1) := by decide +kernel
theorem dX11_writeFeature_133 : decode cX11_writeFeature 133 = .ok (.ifCond .ne 9, 3) := by decide +kernel
theorem dX11_writeFeature_136 : decode cX11_writeFeature 136 = .ok (.iinc 9 1, 3) := by decide +kernel
theorem dX11_writeFeature_139 : decode cX11_writeFeature 139 = .ok (.goto (-28), 3) := by decide +kernel
theorem dX11_writeFeature_142 : decode cX11_writeFeature 142 = .ok (.aload_n 0, 1) := by decide +kernel
theorem dX11_writeFeature_143 : decode cX11_writeFeature 143 = .ok (.iload 9, 2) := by decide +kernel
theorem dX11_writeFeature_145 : decode cX11_writeFeature 145 = .ok (.invokevirtual 247, 3) := by decide +kernel
theorem dX11_writeFeature_148 : decode cX11_writeFeature 148 = .ok (.aload_n 0, 1) := by decide +kernel
theorem dX11_writeFeature_149 : decode cX11_writeFeature 149 = .ok (.aload_n 0, 1) := by decide +kernel
theorem dX11_writeFeature_150 : decode cX11_writeFeature 150 = .ok (.getfield 112, 3) := by decide +kernel
theorem dX11_writeFeature_153 : decode cX11_writeFeature 153 = .ok (.iload 8, 2) := by decide +kernel
theorem dX11_writeFeature_155 : decode cX11_writeFeature 155 = .ok (.iaload, 1) := by decide +kernel
theorem dX11_writeFeature_156 : decode cX11_writeFeature 156 = .ok (.iload 6, 2) := by decide +kernel
theorem dX11_writeFeature_158 : decode cX11_writeFeature 158 = .ok (.isub, 1) := by decide +kernel
theorem dX11_writeFeature_159 : decode cX11_writeFeature 159 = .ok (.invokevirtual 250, 3) := by decide +kernel
theorem dX11_writeFeature_162 : decode cX11_writeFeature 162 = .ok (.aload_n 0, 1) := by decide +kernel
theorem dX11_writeFeature_163 : decode cX11_writeFeature 163 = .ok (.aload_n 0, 1) := by decide +kernel
theorem dX11_writeFeature_164 : decode cX11_writeFeature 164 = .ok (.getfield 115, 3) := by decide +kernel
theorem dX11_writeFeature_167 : decode cX11_writeFeature 167 = .ok (.iload 8, 2) := by decide +kernel
theorem dX11_writeFeature_169 : decode cX11_writeFeature 169 = .ok (.iaload, 1) := by decide +kernel
theorem dX11_writeFeature_170 : decode cX11_writeFeature 170 = .ok (.iload 7, 2) := by decide +kernel
theorem dX11_writeFeature_172 : decode cX11_writeFeature 172 = .ok (.isub, 1) := by decide +kernel
theorem dX11_writeFeature_173 : decode cX11_writeFeature 173 = .ok (.invokevirtual 250, 3) := by decide +kernel
theorem dX11_writeFeature_176 : decode cX11_writeFeature 176 = .ok (.aload_n 0, 1) := by decide +kernel
theorem dX11_writeFeature_177 : decode cX11_writeFeature 177 = .ok (.getfield 112, 3) := by decide +kernel
theorem dX11_writeFeature_180 : decode cX11_writeFeature 180 = .ok (.iload 8, 2) := by decide +kernel
theorem dX11_writeFeature_182 : decode cX11_writeFeature 182 = .ok (.iaload, 1) := by decide +kernel
theorem dX11_writeFeature_183 : decode cX11_writeFeature 183 = .ok (.istore 6, 2) := by decide +kernel
theorem dX11_writeFeature_185 : decode cX11_writeFeature 185 = .ok (.aload_n 0, 1) := by decide +kernel
theorem dX11_writeFeature_186 : decode cX11_writeFeature 186 = .ok (.getfield 115, 3) := by decide +kernel
theorem dX11_writeFeature_189 : decode cX11_writeFeature 189 = .ok (.iload 8, 2) := by decide +kernel
theorem dX11_writeFeature_191 : decode cX11_writeFeature 191 = .ok (.iaload, 1) := by decide +kernel
theorem dX11_writeFeature_192 : decode cX11_writeFeature 192 = .ok (.istore 7, 2) := by decide +kernel
theorem dX11_writeFeature_194 : decode cX11_writeFeature 194 = .ok (.iinc 8 1, 3) := by decide +kernel
theorem dX11_writeFeature_197 : decode cX11_writeFeature 197 = .ok (.goto (-108), 3) := by decide +kernel
theorem dX11_writeFeature_200 : decode cX11_writeFeature 200 = .ok (.return_, 1) := by decide +kernel
def tb_148 (pc : Nat) : Option mEnt := bif Nat.ble pc 95 then (bif Nat.ble pc 39 then (bif Nat.ble pc 18 then (bif Nat.ble pc 7 then (bif Nat.ble pc 2 then (bif Nat.ble pc 0 then (bif Nat.beq pc 0 then some (.inl (o_al 0 1)) else none) else (bif Nat.ble pc 1 then (bif Nat.beq pc 1 then some (.inl (o_al 0 1)) else none) else (bif Nat.beq pc 2 then some (.inl (o_gP 11 1)) else none))) else (bif Nat.ble pc 5 then (bif Nat.beq pc 5 then some (.inl (o_il 1 1)) else none) else (bif Nat.ble pc 6 then (bif Nat.beq pc 6 then some (.inl (o_iald)) else none) else (bif Nat.beq pc 7 then some (.inl (o_il 2 1)) else none)))) else (bif Nat.ble pc 12 then (bif Nat.ble pc 8 then (bif Nat.beq pc 8 then some (.inl (oS 1 (s_ii (fun a b => a - b)))) else none) else (bif Nat.ble pc 9 then (bif Nat.beq pc 9 then some (.inr (3, 146, 2, 11)) else none) else (bif Nat.beq pc 12 then some (.inl (o_al 0 1)) else none))) else (bif Nat.ble pc 14 then (bif Nat.ble pc 13 then (bif Nat.beq pc 13 then some (.inl (o_al 0 1)) else none) else (bif Nat.beq pc 14 then some (.inl (o_gP 11 2)) else none)) else (bif Nat.ble pc 17 then (bif Nat.beq pc 17 then some (.inl (o_il 1 1)) else none) else (bif Nat.beq pc 18 then some (.inl (o_iald)) else none))))) else (bif Nat.ble pc 27 then (bif Nat.ble pc 21 then (bif Nat.ble pc 19 then (bif Nat.beq pc 19 then some (.inl (oS 1 (s_push (.int 4)))) else none) else (bif Nat.ble pc 20 then (bif Nat.beq pc 20 then some (.inl (o_al 0 1)) else none) else (bif Nat.beq pc 21 then some (.inl (o_gP 11 3)) else none))) else (bif Nat.ble pc 25 then (bif Nat.ble pc 24 then (bif Nat.beq pc 24 then some (.inl (o_il 1 1)) else none) else (bif Nat.beq pc 25 then some (.inl (o_iald)) else none)) else (bif Nat.ble pc 26 then (bif Nat.beq pc 26 then some (.inl (oS 1 (s_ii (fun a b => a * b)))) else none) else (bif Nat.beq pc 27 then some (.inl (oS 1 (s_ii (fun a b => a + b)))) else none)))) else (bif Nat.ble pc 32 then (bif Nat.ble pc 28 then (bif Nat.beq pc 28 then some (.inr (3, 145, 2, 11)) else none) else (bif Nat.ble pc 31 then (bif Nat.beq pc 31 then some (.inl (oS 1 (s_push (.int 0)))) else none) else (bif Nat.beq pc 32 then some (.inl (o_is 5 2)) else none))) else (bif Nat.ble pc 35 then (bif Nat.ble pc 34 then (bif Nat.beq pc 34 then some (.inl (oS 1 (s_push (.int 0)))) else none) else (bif Nat.beq pc 35 then some (.inl (o_is 6 2)) else none)) else (bif Nat.ble pc 37 then (bif Nat.beq pc 37 then some (.inl (o_il 6 2)) else none) else (bif Nat.beq pc 39 then some (.inl (o_al 0 1)) else none)))))) else (bif Nat.ble pc 68 then (bif Nat.ble pc 52 then (bif Nat.ble pc 46 then (bif Nat.ble pc 40 then (bif Nat.beq pc 40 then some (.inl (o_gI 11 43)) else none) else (bif Nat.ble pc 43 then (bif Nat.beq pc 43 then some (.inl (o_cge 65)) else none) else (bif Nat.beq pc 46 then some (.inl (o_al 0 1)) else none))) else (bif Nat.ble pc 47 then (bif Nat.beq pc 47 then some (.inl (o_gP 11 42)) else none) else (bif Nat.ble pc 50 then (bif Nat.beq pc 50 then some (.inl (o_il 6 2)) else none) else (bif Nat.beq pc 52 then some (.inl (o_bald)) else none)))) else (bif Nat.ble pc 59 then (bif Nat.ble pc 53 then (bif Nat.beq pc 53 then some (.inl (o_zeq 59)) else none) else (bif Nat.ble pc 56 then (bif Nat.beq pc 56 then some (.inl (o_inc 5 1)) else none) else (bif Nat.beq pc 59 then some (.inl (o_inc 6 1)) else none))) else (bif Nat.ble pc 65 then (bif Nat.ble pc 62 then (bif Nat.beq pc 62 then some (.inl (o_goto 37)) else none) else (bif Nat.beq pc 65 then some (.inl (o_al 0 1)) else none)) else (bif Nat.ble pc 66 then (bif Nat.beq pc 66 then some (.inl (o_il 5 2)) else none) else (bif Nat.beq pc 68 then some (.inr (3, 146, 2, 11)) else none))))) else (bif Nat.ble pc 83 then (bif Nat.ble pc 75 then (bif Nat.ble pc 71 then (bif Nat.beq pc 71 then some (.inl (oS 3 (s_push (.int 256)))) else none) else (bif Nat.ble pc 74 then (bif Nat.beq pc 74 then some (.inl (o_il 3 1)) else none) else (bif Nat.beq pc 75 then some (.inl (oS 1 (s_ii (fun a b => a * b)))) else none))) else (bif Nat.ble pc 78 then (bif Nat.ble pc 76 then (bif Nat.beq pc 76 then some (.inl (o_is 6 2)) else none) else (bif Nat.beq pc 78 then some (.inl (oS 3 (s_push (.int 256)))) else none)) else (bif Nat.ble pc 81 then (bif Nat.beq pc 81 then some (.inl (o_il 4 2)) else none) else (bif Nat.beq pc 83 then some (.inl (oS 1 (s_ii (fun a b => a * b)))) else none)))) else (bif Nat.ble pc 87 then (bif Nat.ble pc 84 then (bif Nat.beq pc 84 then some (.inl (o_is 7 2)) else none) else (bif Nat.ble pc 86 then (bif Nat.beq pc 86 then some (.inl (oS 1 (s_push (.int 0)))) else none) else (bif Nat.beq pc 87 then some (.inl (o_is 8 2)) else none))) else (bif Nat.ble pc 91 then (bif Nat.ble pc 89 then (bif Nat.beq pc 89 then some (.inl (o_il 8 2)) else none) else (bif Nat.beq pc 91 then some (.inl (o_al 0 1)) else none)) else (bif Nat.ble pc 92 then (bif Nat.beq pc 92 then some (.inl (o_gI 11 43)) else none) else (bif Nat.beq pc 95 then some (.inl (o_cge 200)) else none))))))) else (bif Nat.ble pc 149 then (bif Nat.ble pc 120 then (bif Nat.ble pc 108 then (bif Nat.ble pc 102 then (bif Nat.ble pc 98 then (bif Nat.beq pc 98 then some (.inl (o_al 0 1)) else none) else (bif Nat.ble pc 99 then (bif Nat.beq pc 99 then some (.inl (o_gP 11 42)) else none) else (bif Nat.beq pc 102 then some (.inl (o_il 8 2)) else none))) else (bif Nat.ble pc 104 then (bif Nat.beq pc 104 then some (.inl (o_bald)) else none) else (bif Nat.ble pc 105 then (bif Nat.beq pc 105 then some (.inl (o_zeq 148)) else none) else (bif Nat.beq pc 108 then some (.inl (oS 1 (s_push (.int 1)))) else none)))) else (bif Nat.ble pc 113 then (bif Nat.ble pc 109 then (bif Nat.beq pc 109 then some (.inl (o_is 9 2)) else none) else (bif Nat.ble pc 111 then (bif Nat.beq pc 111 then some (.inl (o_il 8 2)) else none) else (bif Nat.beq pc 113 then some (.inl (o_il 9 2)) else none))) else (bif Nat.ble pc 116 then (bif Nat.ble pc 115 then (bif Nat.beq pc 115 then some (.inl (oS 1 (s_ii (fun a b => a + b)))) else none) else (bif Nat.beq pc 116 then some (.inl (o_al 0 1)) else none)) else (bif Nat.ble pc 117 then (bif Nat.beq pc 117 then some (.inl (o_gI 11 43)) else none) else (bif Nat.beq pc 120 then some (.inl (o_cge 142)) else none))))) else (bif Nat.ble pc 133 then (bif Nat.ble pc 127 then (bif Nat.ble pc 123 then (bif Nat.beq pc 123 then some (.inl (o_al 0 1)) else none) else (bif Nat.ble pc 124 then (bif Nat.beq pc 124 then some (.inl (o_gP 11 42)) else none) else (bif Nat.beq pc 127 then some (.inl (o_il 8 2)) else none))) else (bif Nat.ble pc 131 then (bif Nat.ble pc 129 then (bif Nat.beq pc 129 then some (.inl (o_il 9 2)) else none) else (bif Nat.beq pc 131 then some (.inl (oS 1 (s_ii (fun a b => a + b)))) else none)) else (bif Nat.ble pc 132 then (bif Nat.beq pc 132 then some (.inl (o_bald)) else none) else (bif Nat.beq pc 133 then some (.inl (o_zne 142)) else none)))) else (bif Nat.ble pc 142 then (bif Nat.ble pc 136 then (bif Nat.beq pc 136 then some (.inl (o_inc 9 1)) else none) else (bif Nat.ble pc 139 then (bif Nat.beq pc 139 then some (.inl (o_goto 111)) else none) else (bif Nat.beq pc 142 then some (.inl (o_al 0 1)) else none))) else (bif Nat.ble pc 145 then (bif Nat.ble pc 143 then (bif Nat.beq pc 143 then some (.inl (o_il 9 2)) else none) else (bif Nat.beq pc 145 then some (.inr (3, 146, 2, 11)) else none)) else (bif Nat.ble pc 148 then (bif Nat.beq pc 148 then some (.inl (o_al 0 1)) else none) else (bif Nat.beq pc 149 then some (.inl (o_al 0 1)) else none)))))) else (bif Nat.ble pc 172 then (bif Nat.ble pc 159 then (bif Nat.ble pc 155 then (bif Nat.ble pc 150 then (bif Nat.beq pc 150 then some (.inl (o_gP 11 40)) else none) else (bif Nat.ble pc 153 then (bif Nat.beq pc 153 then some (.inl (o_il 8 2)) else none) else (bif Nat.beq pc 155 then some (.inl (o_iald)) else none))) else (bif Nat.ble pc 156 then (bif Nat.beq pc 156 then some (.inl (o_il 6 2)) else none) else (bif Nat.ble pc 158 then (bif Nat.beq pc 158 then some (.inl (oS 1 (s_ii (fun a b => a - b)))) else none) else (bif Nat.beq pc 159 then some (.inr (3, 147, 2, 11)) else none)))) else (bif Nat.ble pc 164 then (bif Nat.ble pc 162 then (bif Nat.beq pc 162 then some (.inl (o_al 0 1)) else none) else (bif Nat.ble pc 163 then (bif Nat.beq pc 163 then some (.inl (o_al 0 1)) else none) else (bif Nat.beq pc 164 then some (.inl (o_gP 11 41)) else none))) else (bif Nat.ble pc 169 then (bif Nat.ble pc 167 then (bif Nat.beq pc 167 then some (.inl (o_il 8 2)) else none) else (bif Nat.beq pc 169 then some (.inl (o_iald)) else none)) else (bif Nat.ble pc 170 then (bif Nat.beq pc 170 then some (.inl (o_il 7 2)) else none) else (bif Nat.beq pc 172 then some (.inl (oS 1 (s_ii (fun a b => a - b)))) else none))))) else (bif Nat.ble pc 185 then (bif Nat.ble pc 177 then (bif Nat.ble pc 173 then (bif Nat.beq pc 173 then some (.inr (3, 147, 2, 11)) else none) else (bif Nat.ble pc 176 then (bif Nat.beq pc 176 then some (.inl (o_al 0 1)) else none) else (bif Nat.beq pc 177 then some (.inl (o_gP 11 40)) else none))) else (bif Nat.ble pc 182 then (bif Nat.ble pc 180 then (bif Nat.beq pc 180 then some (.inl (o_il 8 2)) else none) else (bif Nat.beq pc 182 then some (.inl (o_iald)) else none)) else (bif Nat.ble pc 183 then (bif Nat.beq pc 183 then some (.inl (o_is 6 2)) else none) else (bif Nat.beq pc 185 then some (.inl (o_al 0 1)) else none)))) else (bif Nat.ble pc 191 then (bif Nat.ble pc 186 then (bif Nat.beq pc 186 then some (.inl (o_gP 11 41)) else none) else (bif Nat.ble pc 189 then (bif Nat.beq pc 189 then some (.inl (o_il 8 2)) else none) else (bif Nat.beq pc 191 then some (.inl (o_iald)) else none))) else (bif Nat.ble pc 194 then (bif Nat.ble pc 192 then (bif Nat.beq pc 192 then some (.inl (o_is 7 2)) else none) else (bif Nat.beq pc 194 then some (.inl (o_inc 8 1)) else none)) else (bif Nat.ble pc 197 then (bif Nat.beq pc 197 then some (.inl (o_goto 89)) else none) else (bif Nat.beq pc 200 then some (.inr (0, 0, 0, 3)) else none)))))))
theorem k_148_0 : mOk M_148.1 M_148.2.1 M_148.2.2.1 M_148.2.2.2 0 (o_al 0 1) := ok_aload_n dX11_writeFeature_0 rfl
theorem k_148_1 : mOk M_148.1 M_148.2.1 M_148.2.2.1 M_148.2.2.2 1 (o_al 0 1) := ok_aload_n dX11_writeFeature_1 rfl
theorem k_148_2 : mOk M_148.1 M_148.2.1 M_148.2.2.1 M_148.2.2.2 2 (o_gP 11 1) := ok_gP dX11_writeFeature_2 f_RX11_13 rfl
theorem k_148_5 : mOk M_148.1 M_148.2.1 M_148.2.2.1 M_148.2.2.2 5 (o_il 1 1) := ok_iload_n dX11_writeFeature_5 rfl
theorem k_148_6 : mOk M_148.1 M_148.2.1 M_148.2.2.1 M_148.2.2.2 6 (o_iald) := ok_iald dX11_writeFeature_6
theorem k_148_7 : mOk M_148.1 M_148.2.1 M_148.2.2.1 M_148.2.2.2 7 (o_il 2 1) := ok_iload_n dX11_writeFeature_7 rfl
theorem k_148_8 : mOk M_148.1 M_148.2.1 M_148.2.2.1 M_148.2.2.2 8 (oS 1 (s_ii (fun a b => a - b))) := ok_isub dX11_writeFeature_8
theorem k_148_12 : mOk M_148.1 M_148.2.1 M_148.2.2.1 M_148.2.2.2 12 (o_al 0 1) := ok_aload_n dX11_writeFeature_12 rfl
theorem k_148_13 : mOk M_148.1 M_148.2.1 M_148.2.2.1 M_148.2.2.2 13 (o_al 0 1) := ok_aload_n dX11_writeFeature_13 rfl
theorem k_148_14 : mOk M_148.1 M_148.2.1 M_148.2.2.1 M_148.2.2.2 14 (o_gP 11 2) := ok_gP dX11_writeFeature_14 f_RX11_16 rfl
theorem k_148_17 : mOk M_148.1 M_148.2.1 M_148.2.2.1 M_148.2.2.2 17 (o_il 1 1) := ok_iload_n dX11_writeFeature_17 rfl
theorem k_148_18 : mOk M_148.1 M_148.2.1 M_148.2.2.1 M_148.2.2.2 18 (o_iald) := ok_iald dX11_writeFeature_18
theorem k_148_19 : mOk M_148.1 M_148.2.1 M_148.2.2.1 M_148.2.2.2 19 (oS 1 (s_push (.int 4))) := ok_iconst dX11_writeFeature_19 (by decide)
theorem k_148_20 : mOk M_148.1 M_148.2.1 M_148.2.2.1 M_148.2.2.2 20 (o_al 0 1) := ok_aload_n dX11_writeFeature_20 rfl
theorem k_148_21 : mOk M_148.1 M_148.2.1 M_148.2.2.1 M_148.2.2.2 21 (o_gP 11 3) := ok_gP dX11_writeFeature_21 f_RX11_19 rfl
theorem k_148_24 : mOk M_148.1 M_148.2.1 M_148.2.2.1 M_148.2.2.2 24 (o_il 1 1) := ok_iload_n dX11_writeFeature_24 rfl
theorem k_148_25 : mOk M_148.1 M_148.2.1 M_148.2.2.1 M_148.2.2.2 25 (o_iald) := ok_iald dX11_writeFeature_25
theorem k_148_26 : mOk M_148.1 M_148.2.1 M_148.2.2.1 M_148.2.2.2 26 (oS 1 (s_ii (fun a b => a * b))) := ok_imul dX11_writeFeature_26
theorem k_148_27 : mOk M_148.1 M_148.2.1 M_148.2.2.1 M_148.2.2.2 27 (oS 1 (s_ii (fun a b => a + b))) := ok_iadd dX11_writeFeature_27
theorem k_148_31 : mOk M_148.1 M_148.2.1 M_148.2.2.1 M_148.2.2.2 31 (oS 1 (s_push (.int 0))) := ok_iconst dX11_writeFeature_31 (by decide)
theorem k_148_32 : mOk M_148.1 M_148.2.1 M_148.2.2.1 M_148.2.2.2 32 (o_is 5 2) := ok_istore dX11_writeFeature_32
theorem k_148_34 : mOk M_148.1 M_148.2.1 M_148.2.2.1 M_148.2.2.2 34 (oS 1 (s_push (.int 0))) := ok_iconst dX11_writeFeature_34 (by decide)
theorem k_148_35 : mOk M_148.1 M_148.2.1 M_148.2.2.1 M_148.2.2.2 35 (o_is 6 2) := ok_istore dX11_writeFeature_35
theorem k_148_37 : mOk M_148.1 M_148.2.1 M_148.2.2.1 M_148.2.2.2 37 (o_il 6 2) := ok_iload dX11_writeFeature_37
theorem k_148_39 : mOk M_148.1 M_148.2.1 M_148.2.2.1 M_148.2.2.2 39 (o_al 0 1) := ok_aload_n dX11_writeFeature_39 rfl
theorem k_148_40 : mOk M_148.1 M_148.2.1 M_148.2.2.1 M_148.2.2.2 40 (o_gI 11 43) := ok_gI dX11_writeFeature_40 f_RX11_191 (Or.inl rfl)
theorem k_148_43 : mOk M_148.1 M_148.2.1 M_148.2.2.1 M_148.2.2.2 43 (o_cge 65) := ok_cge dX11_writeFeature_43 (by decide)
theorem k_148_46 : mOk M_148.1 M_148.2.1 M_148.2.2.1 M_148.2.2.2 46 (o_al 0 1) := ok_aload_n dX11_writeFeature_46 rfl
theorem k_148_47 : mOk M_148.1 M_148.2.1 M_148.2.2.1 M_148.2.2.2 47 (o_gP 11 42) := ok_gP dX11_writeFeature_47 f_RX11_118 rfl
theorem k_148_50 : mOk M_148.1 M_148.2.1 M_148.2.2.1 M_148.2.2.2 50 (o_il 6 2) := ok_iload dX11_writeFeature_50
theorem k_148_52 : mOk M_148.1 M_148.2.1 M_148.2.2.1 M_148.2.2.2 52 (o_bald) := ok_bald dX11_writeFeature_52
theorem k_148_53 : mOk M_148.1 M_148.2.1 M_148.2.2.1 M_148.2.2.2 53 (o_zeq 59) := ok_zeq dX11_writeFeature_53 (by decide)
theorem k_148_56 : mOk M_148.1 M_148.2.1 M_148.2.2.1 M_148.2.2.2 56 (o_inc 5 1) := ok_iinc dX11_writeFeature_56 (by decide)
theorem k_148_59 : mOk M_148.1 M_148.2.1 M_148.2.2.1 M_148.2.2.2 59 (o_inc 6 1) := ok_iinc dX11_writeFeature_59 (by decide)
theorem k_148_62 : mOk M_148.1 M_148.2.1 M_148.2.2.1 M_148.2.2.2 62 (o_goto 37) := ok_goto dX11_writeFeature_62 (by decide)
theorem k_148_65 : mOk M_148.1 M_148.2.1 M_148.2.2.1 M_148.2.2.2 65 (o_al 0 1) := ok_aload_n dX11_writeFeature_65 rfl
theorem k_148_66 : mOk M_148.1 M_148.2.1 M_148.2.2.1 M_148.2.2.2 66 (o_il 5 2) := ok_iload dX11_writeFeature_66
theorem k_148_71 : mOk M_148.1 M_148.2.1 M_148.2.2.1 M_148.2.2.2 71 (oS 3 (s_push (.int 256))) := ok_sipush dX11_writeFeature_71 (by decide)
theorem k_148_74 : mOk M_148.1 M_148.2.1 M_148.2.2.1 M_148.2.2.2 74 (o_il 3 1) := ok_iload_n dX11_writeFeature_74 rfl
theorem k_148_75 : mOk M_148.1 M_148.2.1 M_148.2.2.1 M_148.2.2.2 75 (oS 1 (s_ii (fun a b => a * b))) := ok_imul dX11_writeFeature_75
theorem k_148_76 : mOk M_148.1 M_148.2.1 M_148.2.2.1 M_148.2.2.2 76 (o_is 6 2) := ok_istore dX11_writeFeature_76
theorem k_148_78 : mOk M_148.1 M_148.2.1 M_148.2.2.1 M_148.2.2.2 78 (oS 3 (s_push (.int 256))) := ok_sipush dX11_writeFeature_78 (by decide)
theorem k_148_81 : mOk M_148.1 M_148.2.1 M_148.2.2.1 M_148.2.2.2 81 (o_il 4 2) := ok_iload dX11_writeFeature_81
theorem k_148_83 : mOk M_148.1 M_148.2.1 M_148.2.2.1 M_148.2.2.2 83 (oS 1 (s_ii (fun a b => a * b))) := ok_imul dX11_writeFeature_83
theorem k_148_84 : mOk M_148.1 M_148.2.1 M_148.2.2.1 M_148.2.2.2 84 (o_is 7 2) := ok_istore dX11_writeFeature_84
theorem k_148_86 : mOk M_148.1 M_148.2.1 M_148.2.2.1 M_148.2.2.2 86 (oS 1 (s_push (.int 0))) := ok_iconst dX11_writeFeature_86 (by decide)
theorem k_148_87 : mOk M_148.1 M_148.2.1 M_148.2.2.1 M_148.2.2.2 87 (o_is 8 2) := ok_istore dX11_writeFeature_87
theorem k_148_89 : mOk M_148.1 M_148.2.1 M_148.2.2.1 M_148.2.2.2 89 (o_il 8 2) := ok_iload dX11_writeFeature_89
theorem k_148_91 : mOk M_148.1 M_148.2.1 M_148.2.2.1 M_148.2.2.2 91 (o_al 0 1) := ok_aload_n dX11_writeFeature_91 rfl
theorem k_148_92 : mOk M_148.1 M_148.2.1 M_148.2.2.1 M_148.2.2.2 92 (o_gI 11 43) := ok_gI dX11_writeFeature_92 f_RX11_191 (Or.inl rfl)
theorem k_148_95 : mOk M_148.1 M_148.2.1 M_148.2.2.1 M_148.2.2.2 95 (o_cge 200) := ok_cge dX11_writeFeature_95 (by decide)
theorem k_148_98 : mOk M_148.1 M_148.2.1 M_148.2.2.1 M_148.2.2.2 98 (o_al 0 1) := ok_aload_n dX11_writeFeature_98 rfl
theorem k_148_99 : mOk M_148.1 M_148.2.1 M_148.2.2.1 M_148.2.2.2 99 (o_gP 11 42) := ok_gP dX11_writeFeature_99 f_RX11_118 rfl
theorem k_148_102 : mOk M_148.1 M_148.2.1 M_148.2.2.1 M_148.2.2.2 102 (o_il 8 2) := ok_iload dX11_writeFeature_102
theorem k_148_104 : mOk M_148.1 M_148.2.1 M_148.2.2.1 M_148.2.2.2 104 (o_bald) := ok_bald dX11_writeFeature_104
theorem k_148_105 : mOk M_148.1 M_148.2.1 M_148.2.2.1 M_148.2.2.2 105 (o_zeq 148) := ok_zeq dX11_writeFeature_105 (by decide)
theorem k_148_108 : mOk M_148.1 M_148.2.1 M_148.2.2.1 M_148.2.2.2 108 (oS 1 (s_push (.int 1))) := ok_iconst dX11_writeFeature_108 (by decide)
theorem k_148_109 : mOk M_148.1 M_148.2.1 M_148.2.2.1 M_148.2.2.2 109 (o_is 9 2) := ok_istore dX11_writeFeature_109
theorem k_148_111 : mOk M_148.1 M_148.2.1 M_148.2.2.1 M_148.2.2.2 111 (o_il 8 2) := ok_iload dX11_writeFeature_111
theorem k_148_113 : mOk M_148.1 M_148.2.1 M_148.2.2.1 M_148.2.2.2 113 (o_il 9 2) := ok_iload dX11_writeFeature_113
theorem k_148_115 : mOk M_148.1 M_148.2.1 M_148.2.2.1 M_148.2.2.2 115 (oS 1 (s_ii (fun a b => a + b))) := ok_iadd dX11_writeFeature_115
theorem k_148_116 : mOk M_148.1 M_148.2.1 M_148.2.2.1 M_148.2.2.2 116 (o_al 0 1) := ok_aload_n dX11_writeFeature_116 rfl
theorem k_148_117 : mOk M_148.1 M_148.2.1 M_148.2.2.1 M_148.2.2.2 117 (o_gI 11 43) := ok_gI dX11_writeFeature_117 f_RX11_191 (Or.inl rfl)
theorem k_148_120 : mOk M_148.1 M_148.2.1 M_148.2.2.1 M_148.2.2.2 120 (o_cge 142) := ok_cge dX11_writeFeature_120 (by decide)
theorem k_148_123 : mOk M_148.1 M_148.2.1 M_148.2.2.1 M_148.2.2.2 123 (o_al 0 1) := ok_aload_n dX11_writeFeature_123 rfl
theorem k_148_124 : mOk M_148.1 M_148.2.1 M_148.2.2.1 M_148.2.2.2 124 (o_gP 11 42) := ok_gP dX11_writeFeature_124 f_RX11_118 rfl
theorem k_148_127 : mOk M_148.1 M_148.2.1 M_148.2.2.1 M_148.2.2.2 127 (o_il 8 2) := ok_iload dX11_writeFeature_127
theorem k_148_129 : mOk M_148.1 M_148.2.1 M_148.2.2.1 M_148.2.2.2 129 (o_il 9 2) := ok_iload dX11_writeFeature_129
theorem k_148_131 : mOk M_148.1 M_148.2.1 M_148.2.2.1 M_148.2.2.2 131 (oS 1 (s_ii (fun a b => a + b))) := ok_iadd dX11_writeFeature_131
theorem k_148_132 : mOk M_148.1 M_148.2.1 M_148.2.2.1 M_148.2.2.2 132 (o_bald) := ok_bald dX11_writeFeature_132
theorem k_148_133 : mOk M_148.1 M_148.2.1 M_148.2.2.1 M_148.2.2.2 133 (o_zne 142) := ok_zne dX11_writeFeature_133 (by decide)
theorem k_148_136 : mOk M_148.1 M_148.2.1 M_148.2.2.1 M_148.2.2.2 136 (o_inc 9 1) := ok_iinc dX11_writeFeature_136 (by decide)
theorem k_148_139 : mOk M_148.1 M_148.2.1 M_148.2.2.1 M_148.2.2.2 139 (o_goto 111) := ok_goto dX11_writeFeature_139 (by decide)
theorem k_148_142 : mOk M_148.1 M_148.2.1 M_148.2.2.1 M_148.2.2.2 142 (o_al 0 1) := ok_aload_n dX11_writeFeature_142 rfl
theorem k_148_143 : mOk M_148.1 M_148.2.1 M_148.2.2.1 M_148.2.2.2 143 (o_il 9 2) := ok_iload dX11_writeFeature_143
theorem k_148_148 : mOk M_148.1 M_148.2.1 M_148.2.2.1 M_148.2.2.2 148 (o_al 0 1) := ok_aload_n dX11_writeFeature_148 rfl
theorem k_148_149 : mOk M_148.1 M_148.2.1 M_148.2.2.1 M_148.2.2.2 149 (o_al 0 1) := ok_aload_n dX11_writeFeature_149 rfl
theorem k_148_150 : mOk M_148.1 M_148.2.1 M_148.2.2.1 M_148.2.2.2 150 (o_gP 11 40) := ok_gP dX11_writeFeature_150 f_RX11_112 rfl
theorem k_148_153 : mOk M_148.1 M_148.2.1 M_148.2.2.1 M_148.2.2.2 153 (o_il 8 2) := ok_iload dX11_writeFeature_153
theorem k_148_155 : mOk M_148.1 M_148.2.1 M_148.2.2.1 M_148.2.2.2 155 (o_iald) := ok_iald dX11_writeFeature_155
theorem k_148_156 : mOk M_148.1 M_148.2.1 M_148.2.2.1 M_148.2.2.2 156 (o_il 6 2) := ok_iload dX11_writeFeature_156
theorem k_148_158 : mOk M_148.1 M_148.2.1 M_148.2.2.1 M_148.2.2.2 158 (oS 1 (s_ii (fun a b => a - b))) := ok_isub dX11_writeFeature_158
theorem k_148_162 : mOk M_148.1 M_148.2.1 M_148.2.2.1 M_148.2.2.2 162 (o_al 0 1) := ok_aload_n dX11_writeFeature_162 rfl
theorem k_148_163 : mOk M_148.1 M_148.2.1 M_148.2.2.1 M_148.2.2.2 163 (o_al 0 1) := ok_aload_n dX11_writeFeature_163 rfl
theorem k_148_164 : mOk M_148.1 M_148.2.1 M_148.2.2.1 M_148.2.2.2 164 (o_gP 11 41) := ok_gP dX11_writeFeature_164 f_RX11_115 rfl
theorem k_148_167 : mOk M_148.1 M_148.2.1 M_148.2.2.1 M_148.2.2.2 167 (o_il 8 2) := ok_iload dX11_writeFeature_167
theorem k_148_169 : mOk M_148.1 M_148.2.1 M_148.2.2.1 M_148.2.2.2 169 (o_iald) := ok_iald dX11_writeFeature_169
theorem k_148_170 : mOk M_148.1 M_148.2.1 M_148.2.2.1 M_148.2.2.2 170 (o_il 7 2) := ok_iload dX11_writeFeature_170
theorem k_148_172 : mOk M_148.1 M_148.2.1 M_148.2.2.1 M_148.2.2.2 172 (oS 1 (s_ii (fun a b => a - b))) := ok_isub dX11_writeFeature_172
theorem k_148_176 : mOk M_148.1 M_148.2.1 M_148.2.2.1 M_148.2.2.2 176 (o_al 0 1) := ok_aload_n dX11_writeFeature_176 rfl
theorem k_148_177 : mOk M_148.1 M_148.2.1 M_148.2.2.1 M_148.2.2.2 177 (o_gP 11 40) := ok_gP dX11_writeFeature_177 f_RX11_112 rfl
theorem k_148_180 : mOk M_148.1 M_148.2.1 M_148.2.2.1 M_148.2.2.2 180 (o_il 8 2) := ok_iload dX11_writeFeature_180
theorem k_148_182 : mOk M_148.1 M_148.2.1 M_148.2.2.1 M_148.2.2.2 182 (o_iald) := ok_iald dX11_writeFeature_182
theorem k_148_183 : mOk M_148.1 M_148.2.1 M_148.2.2.1 M_148.2.2.2 183 (o_is 6 2) := ok_istore dX11_writeFeature_183
theorem k_148_185 : mOk M_148.1 M_148.2.1 M_148.2.2.1 M_148.2.2.2 185 (o_al 0 1) := ok_aload_n dX11_writeFeature_185 rfl
theorem k_148_186 : mOk M_148.1 M_148.2.1 M_148.2.2.1 M_148.2.2.2 186 (o_gP 11 41) := ok_gP dX11_writeFeature_186 f_RX11_115 rfl
theorem k_148_189 : mOk M_148.1 M_148.2.1 M_148.2.2.1 M_148.2.2.2 189 (o_il 8 2) := ok_iload dX11_writeFeature_189
theorem k_148_191 : mOk M_148.1 M_148.2.1 M_148.2.2.1 M_148.2.2.2 191 (o_iald) := ok_iald dX11_writeFeature_191
theorem k_148_192 : mOk M_148.1 M_148.2.1 M_148.2.2.1 M_148.2.2.2 192 (o_is 7 2) := ok_istore dX11_writeFeature_192
theorem k_148_194 : mOk M_148.1 M_148.2.1 M_148.2.2.1 M_148.2.2.2 194 (o_inc 8 1) := ok_iinc dX11_writeFeature_194 (by decide)
theorem k_148_197 : mOk M_148.1 M_148.2.1 M_148.2.2.1 M_148.2.2.2 197 (o_goto 89) := ok_goto dX11_writeFeature_197 (by decide)
set_option maxRecDepth 20000 in
set_option maxHeartbeats 4000000 in
theorem tk_148 (l : Launch) (H9 : mThr l) (H10 : mSpl l) (pc : Nat) (q : mEnt) (h : tb_148 pc = some q) : EE l 148 pc q := nd h (fun h => nd h (fun h => nd h (fun h => nd h (fun h => nd h (fun h => nd h (fun h => lf (P := EE l 148) h k_148_0) (fun h => nd h (fun h => lf (P := EE l 148) h k_148_1) (fun h => lf (P := EE l 148) h k_148_2))) (fun h => nd h (fun h => lf (P := EE l 148) h k_148_5) (fun h => nd h (fun h => lf (P := EE l 148) h k_148_6) (fun h => lf (P := EE l 148) h k_148_7)))) (fun h => nd h (fun h => nd h (fun h => lf (P := EE l 148) h k_148_8) (fun h => nd h (fun h => lf (P := EE l 148) h (EE_ca (by decide) (⟨m_1344, m_81, ⟨by decide, by decide⟩, by decide +kernel, ⟨by decide, by decide⟩, 247, 1, by decide +kernel, Or.inr (Or.inr (Or.inl ⟨rfl, rfl, dX11_writeFeature_9, m_1341, m_1343, _, rfl, by decide, m_51⟩))⟩) rfl)) (fun h => lf (P := EE l 148) h k_148_12))) (fun h => nd h (fun h => nd h (fun h => lf (P := EE l 148) h k_148_13) (fun h => lf (P := EE l 148) h k_148_14)) (fun h => nd h (fun h => lf (P := EE l 148) h k_148_17) (fun h => lf (P := EE l 148) h k_148_18))))) (fun h => nd h (fun h => nd h (fun h => nd h (fun h => lf (P := EE l 148) h k_148_19) (fun h => nd h (fun h => lf (P := EE l 148) h k_148_20) (fun h => lf (P := EE l 148) h k_148_21))) (fun h => nd h (fun h => nd h (fun h => lf (P := EE l 148) h k_148_24) (fun h => lf (P := EE l 148) h k_148_25)) (fun h => nd h (fun h => lf (P := EE l 148) h k_148_26) (fun h => lf (P := EE l 148) h k_148_27)))) (fun h => nd h (fun h => nd h (fun h => lf (P := EE l 148) h (EE_ca (by decide) (⟨m_1348, m_81, ⟨by decide, by decide⟩, by decide +kernel, ⟨by decide, by decide⟩, 243, 1, by decide +kernel, Or.inr (Or.inr (Or.inl ⟨rfl, rfl, dX11_writeFeature_28, m_1345, m_1347, _, rfl, by decide, m_52⟩))⟩) rfl)) (fun h => nd h (fun h => lf (P := EE l 148) h k_148_31) (fun h => lf (P := EE l 148) h k_148_32))) (fun h => nd h (fun h => nd h (fun h => lf (P := EE l 148) h k_148_34) (fun h => lf (P := EE l 148) h k_148_35)) (fun h => nd h (fun h => lf (P := EE l 148) h k_148_37) (fun h => lf (P := EE l 148) h k_148_39)))))) (fun h => nd h (fun h => nd h (fun h => nd h (fun h => nd h (fun h => lf (P := EE l 148) h k_148_40) (fun h => nd h (fun h => lf (P := EE l 148) h k_148_43) (fun h => lf (P := EE l 148) h k_148_46))) (fun h => nd h (fun h => lf (P := EE l 148) h k_148_47) (fun h => nd h (fun h => lf (P := EE l 148) h k_148_50) (fun h => lf (P := EE l 148) h k_148_52)))) (fun h => nd h (fun h => nd h (fun h => lf (P := EE l 148) h k_148_53) (fun h => nd h (fun h => lf (P := EE l 148) h k_148_56) (fun h => lf (P := EE l 148) h k_148_59))) (fun h => nd h (fun h => nd h (fun h => lf (P := EE l 148) h k_148_62) (fun h => lf (P := EE l 148) h k_148_65)) (fun h => nd h (fun h => lf (P := EE l 148) h k_148_66) (fun h => lf (P := EE l 148) h (EE_ca (by decide) (⟨m_1344, m_81, ⟨by decide, by decide⟩, by decide +kernel, ⟨by decide, by decide⟩, 247, 1, by decide +kernel, Or.inr (Or.inr (Or.inl ⟨rfl, rfl, dX11_writeFeature_68, m_1341, m_1343, _, rfl, by decide, m_51⟩))⟩) rfl)))))) (fun h => nd h (fun h => nd h (fun h => nd h (fun h => lf (P := EE l 148) h k_148_71) (fun h => nd h (fun h => lf (P := EE l 148) h k_148_74) (fun h => lf (P := EE l 148) h k_148_75))) (fun h => nd h (fun h => nd h (fun h => lf (P := EE l 148) h k_148_76) (fun h => lf (P := EE l 148) h k_148_78)) (fun h => nd h (fun h => lf (P := EE l 148) h k_148_81) (fun h => lf (P := EE l 148) h k_148_83)))) (fun h => nd h (fun h => nd h (fun h => lf (P := EE l 148) h k_148_84) (fun h => nd h (fun h => lf (P := EE l 148) h k_148_86) (fun h => lf (P := EE l 148) h k_148_87))) (fun h => nd h (fun h => nd h (fun h => lf (P := EE l 148) h k_148_89) (fun h => lf (P := EE l 148) h k_148_91)) (fun h => nd h (fun h => lf (P := EE l 148) h k_148_92) (fun h => lf (P := EE l 148) h k_148_95))))))) (fun h => nd h (fun h => nd h (fun h => nd h (fun h => nd h (fun h => nd h (fun h => lf (P := EE l 148) h k_148_98) (fun h => nd h (fun h => lf (P := EE l 148) h k_148_99) (fun h => lf (P := EE l 148) h k_148_102))) (fun h => nd h (fun h => lf (P := EE l 148) h k_148_104) (fun h => nd h (fun h => lf (P := EE l 148) h k_148_105) (fun h => lf (P := EE l 148) h k_148_108)))) (fun h => nd h (fun h => nd h (fun h => lf (P := EE l 148) h k_148_109) (fun h => nd h (fun h => lf (P := EE l 148) h k_148_111) (fun h => lf (P := EE l 148) h k_148_113))) (fun h => nd h (fun h => nd h (fun h => lf (P := EE l 148) h k_148_115) (fun h => lf (P := EE l 148) h k_148_116)) (fun h => nd h (fun h => lf (P := EE l 148) h k_148_117) (fun h => lf (P := EE l 148) h k_148_120))))) (fun h => nd h (fun h => nd h (fun h => nd h (fun h => lf (P := EE l 148) h k_148_123) (fun h => nd h (fun h => lf (P := EE l 148) h k_148_124) (fun h => lf (P := EE l 148) h k_148_127))) (fun h => nd h (fun h => nd h (fun h => lf (P := EE l 148) h k_148_129) (fun h => lf (P := EE l 148) h k_148_131)) (fun h => nd h (fun h => lf (P := EE l 148) h k_148_132) (fun h => lf (P := EE l 148) h k_148_133)))) (fun h => nd h (fun h => nd h (fun h => lf (P := EE l 148) h k_148_136) (fun h => nd h (fun h => lf (P := EE l 148) h k_148_139) (fun h => lf (P := EE l 148) h k_148_142))) (fun h => nd h (fun h => nd h (fun h => lf (P := EE l 148) h k_148_143) (fun h => lf (P := EE l 148) h (EE_ca (by decide) (⟨m_1344, m_81, ⟨by decide, by decide⟩, by decide +kernel, ⟨by decide, by decide⟩, 247, 1, by decide +kernel, Or.inr (Or.inr (Or.inl ⟨rfl, rfl, dX11_writeFeature_145, m_1341, m_1343, _, rfl, by decide, m_51⟩))⟩) rfl))) (fun h => nd h (fun h => lf (P := EE l 148) h k_148_148) (fun h => lf (P := EE l 148) h k_148_149)))))) (fun h => nd h (fun h => nd h (fun h => nd h (fun h => nd h (fun h => lf (P := EE l 148) h k_148_150) (fun h => nd h (fun h => lf (P := EE l 148) h k_148_153) (fun h => lf (P := EE l 148) h k_148_155))) (fun h => nd h (fun h => lf (P := EE l 148) h k_148_156) (fun h => nd h (fun h => lf (P := EE l 148) h k_148_158) (fun h => lf (P := EE l 148) h (EE_ca (by decide) (⟨m_1352, m_81, ⟨by decide, by decide⟩, by decide +kernel, ⟨by decide, by decide⟩, 250, 1, by decide +kernel, Or.inr (Or.inr (Or.inl ⟨rfl, rfl, dX11_writeFeature_159, m_1349, m_1351, _, rfl, by decide, m_53⟩))⟩) rfl))))) (fun h => nd h (fun h => nd h (fun h => lf (P := EE l 148) h k_148_162) (fun h => nd h (fun h => lf (P := EE l 148) h k_148_163) (fun h => lf (P := EE l 148) h k_148_164))) (fun h => nd h (fun h => nd h (fun h => lf (P := EE l 148) h k_148_167) (fun h => lf (P := EE l 148) h k_148_169)) (fun h => nd h (fun h => lf (P := EE l 148) h k_148_170) (fun h => lf (P := EE l 148) h k_148_172))))) (fun h => nd h (fun h => nd h (fun h => nd h (fun h => lf (P := EE l 148) h (EE_ca (by decide) (⟨m_1352, m_81, ⟨by decide, by decide⟩, by decide +kernel, ⟨by decide, by decide⟩, 250, 1, by decide +kernel, Or.inr (Or.inr (Or.inl ⟨rfl, rfl, dX11_writeFeature_173, m_1349, m_1351, _, rfl, by decide, m_53⟩))⟩) rfl)) (fun h => nd h (fun h => lf (P := EE l 148) h k_148_176) (fun h => lf (P := EE l 148) h k_148_177))) (fun h => nd h (fun h => nd h (fun h => lf (P := EE l 148) h k_148_180) (fun h => lf (P := EE l 148) h k_148_182)) (fun h => nd h (fun h => lf (P := EE l 148) h k_148_183) (fun h => lf (P := EE l 148) h k_148_185)))) (fun h => nd h (fun h => nd h (fun h => lf (P := EE l 148) h k_148_186) (fun h => nd h (fun h => lf (P := EE l 148) h k_148_189) (fun h => lf (P := EE l 148) h k_148_191))) (fun h => nd h (fun h => nd h (fun h => lf (P := EE l 148) h k_148_192) (fun h => lf (P := EE l 148) h k_148_194)) (fun h => nd h (fun h => lf (P := EE l 148) h k_148_197) (fun h => lf (P := EE l 148) h (EE_re (Or.inr (Or.inr (Or.inr (Or.inr ⟨rfl, dX11_writeFeature_200, rfl⟩))))))))))))
theorem dX11_makeTile_0 : decode cX11_makeTile 0 = .ok (.aload_n 0, 1) := by decide +kernel
theorem dX11_makeTile_1 : decode cX11_makeTile 1 = .ok (.iconst 0, 1) := by decide +kernel
theorem dX11_makeTile_2 : decode cX11_makeTile 2 = .ok (.putfield 240, 3) := by decide +kernel
theorem dX11_makeTile_5 : decode cX11_makeTile 5 = .ok (.iconst 0, 1) := by decide +kernel
theorem dX11_makeTile_6 : decode cX11_makeTile 6 = .ok (.istore 5, 2) := by decide +kernel
theorem dX11_makeTile_8 : decode cX11_makeTile 8 = .ok (.iconst 0, 1) := by decide +kernel
theorem dX11_makeTile_9 : decode cX11_makeTile 9 = .ok (.istore 6, 2) := by decide +kernel
theorem dX11_makeTile_11 : decode cX11_makeTile 11 = .ok (.iload 6, 2) := by decide +kernel
theorem dX11_makeTile_13 : decode cX11_makeTile 13 = .ok (.aload_n 0, 1) := by decide +kernel
theorem dX11_makeTile_14 : decode cX11_makeTile 14 = .ok (.getfield 7, 3) := by decide +kernel
theorem dX11_makeTile_17 : decode cX11_makeTile 17 = .ok (.iload_n 1, 1) := by decide +kernel
theorem dX11_makeTile_18 : decode cX11_makeTile 18 = .ok (.iaload, 1) := by decide +kernel
theorem dX11_makeTile_19 : decode cX11_makeTile 19 = .ok (.if_icmp .ge 66, 3) := by decide +kernel
theorem dX11_makeTile_22 : decode cX11_makeTile 22 = .ok (.bipush 24, 2) := by decide +kernel
theorem dX11_makeTile_24 : decode cX11_makeTile 24 = .ok (.iload_n 1, 1) := by decide +kernel
theorem dX11_makeTile_25 : decode cX11_makeTile 25 = .ok (.imul, 1) := by decide +kernel
theorem dX11_makeTile_26 : decode cX11_makeTile 26 = .ok (.iload 6, 2) := by decide +kernel
theorem dX11_makeTile_28 : decode cX11_makeTile 28 = .ok (.iadd, 1) := by decide +kernel
theorem dX11_makeTile_29 : decode cX11_makeTile 29 = .ok (.istore 7, 2) := by decide +kernel
theorem dX11_makeTile_31 : decode cX11_makeTile 31 = .ok (.aload_n 0, 1) := by decide +kernel
theorem dX11_makeTile_32 : decode cX11_makeTile 32 = .ok (.getfield 22, 3) := by decide +kernel
theorem dX11_makeTile_35 : decode cX11_makeTile 35 = .ok (.iload 7, 2) := by decide +kernel
theorem dX11_makeTile_37 : decode cX11_makeTile 37 = .ok (.iaload, 1) := by decide +kernel
theorem dX11_makeTile_38 : decode cX11_makeTile 38 = .ok (.iload_n 2, 1) := by decide +kernel
theorem dX11_makeTile_39 : decode cX11_makeTile 39 = .ok (.if_icmp .gt 40, 3) := by decide +kernel
theorem dX11_makeTile_42 : decode cX11_makeTile 42 = .ok (.aload_n 0, 1) := by decide +kernel
theorem dX11_makeTile_43 : decode cX11_makeTile 43 = .ok (.iload 7, 2) := by decide +kernel
theorem dX11_makeTile_45 : decode cX11_makeTile 45 = .ok (.iload_n 2, 1) := by decide +kernel
theorem dX11_makeTile_46 : decode cX11_makeTile 46 = .ok (.iload_n 3, 1) := by decide +kernel
theorem dX11_makeTile_47 : decode cX11_makeTile 47 = .ok (.iload 4, 2) := by decide +kernel
theorem dX11_makeTile_49 : decode cX11_makeTile 49 = .ok (.invokevirtual 253, 3) := by decide +kernel
theorem dX11_makeTile_52 : decode cX11_makeTile 52 = .ok (.aload_n 0, 1) := by decide +kernel
theorem dX11_makeTile_53 : decode cX11_makeTile 53 = .ok (.getfield 191, 3) := by decide +kernel
theorem dX11_makeTile_56 : decode cX11_makeTile 56 = .ok (.ifCond .le 23, 3) := by decide +kernel
theorem dX11_makeTile_59 : decode cX11_makeTile 59 = .ok (.aload_n 0, 1) := by decide +kernel
theorem dX11_makeTile_60 : decode cX11_makeTile 60 = .ok (.iload 7, 2) := by decide +kernel
theorem dX11_makeTile_62 : decode cX11_makeTile 62 = .ok (.iload 5, 2) := by decide +kernel
theorem dX11_makeTile_64 : decode cX11_makeTile 64 = .ok (.iload_n 3, 1) := by decide +kernel
theorem dX11_makeTile_65 : decode cX11_makeTile 65 = .ok (.iload 4, 2) := by decide +kernel
theorem dX11_makeTile_67 : decode cX11_makeTile 67 = .ok (.invokevirtual 257, 3) := by decide +kernel
theorem dX11_makeTile_70 : decode cX11_makeTile 70 = .ok (.aload_n 0, 1) := by decide +kernel
theorem dX11_makeTile_71 : decode cX11_makeTile 71 = .ok (.getfield 13, 3) := by decide +kernel
theorem dX11_makeTile_74 : decode cX11_makeTile 74 = .ok (.iload 7, 2) := by decide +kernel
theorem dX11_makeTile_76 : decode cX11_makeTile 76 = .ok (.iaload, 1) := by decide +kernel
theorem dX11_makeTile_77 : decode cX11_makeTile 77 = .ok (.istore 5, 2) := by decide +kernel
theorem dX11_makeTile_79 : decode cX11_makeTile 79 = .ok (.iinc 6 1, 3) := by decide +kernel
theorem dX11_makeTile_82 : decode cX11_makeTile 82 = .ok (.goto (-71), 3) := by decide +kernel
theorem dX11_makeTile_85 : decode cX11_makeTile 85 = .ok (.return_, 1) := by decide +kernel
def tb_149 (pc : Nat) : Option mEnt := bif Nat.ble pc 38 then (bif Nat.ble pc 18 then (bif Nat.ble pc 8 then (bif Nat.ble pc 2 then (bif Nat.ble pc 0 then (bif Nat.beq pc 0 then some (.inl (o_al 0 1)) else none) else (bif Nat.ble pc 1 then (bif Nat.beq pc 1 then some (.inl (oS 1 (s_push (.int 0)))) else none) else (bif Nat.beq pc 2 then some (.inl (o_pI 11 37)) else none))) else (bif Nat.ble pc 5 then (bif Nat.beq pc 5 then some (.inl (oS 1 (s_push (.int 0)))) else none) else (bif Nat.ble pc 6 then (bif Nat.beq pc 6 then some (.inl (o_is 5 2)) else none) else (bif Nat.beq pc 8 then some (.inl (oS 1 (s_push (.int 0)))) else none)))) else (bif Nat.ble pc 13 then (bif Nat.ble pc 9 then (bif Nat.beq pc 9 then some (.inl (o_is 6 2)) else none) else (bif Nat.ble pc 11 then (bif Nat.beq pc 11 then some (.inl (o_il 6 2)) else none) else (bif Nat.beq pc 13 then some (.inl (o_al 0 1)) else none))) else (bif Nat.ble pc 14 then (bif Nat.beq pc 14 then some (.inl (o_gP 11 0)) else none) else (bif Nat.ble pc 17 then (bif Nat.beq pc 17 then some (.inl (o_il 1 1)) else none) else (bif Nat.beq pc 18 then some (.inl (o_iald)) else none))))) else (bif Nat.ble pc 28 then (bif Nat.ble pc 24 then (bif Nat.ble pc 19 then (bif Nat.beq pc 19 then some (.inl (o_cge 85)) else none) else (bif Nat.ble pc 22 then (bif Nat.beq pc 22 then some (.inl (oS 2 (s_push (.int 24)))) else none) else (bif Nat.beq pc 24 then some (.inl (o_il 1 1)) else none))) else (bif Nat.ble pc 25 then (bif Nat.beq pc 25 then some (.inl (oS 1 (s_ii (fun a b => a * b)))) else none) else (bif Nat.ble pc 26 then (bif Nat.beq pc 26 then some (.inl (o_il 6 2)) else none) else (bif Nat.beq pc 28 then some (.inl (oS 1 (s_ii (fun a b => a + b)))) else none)))) else (bif Nat.ble pc 32 then (bif Nat.ble pc 29 then (bif Nat.beq pc 29 then some (.inl (o_is 7 2)) else none) else (bif Nat.ble pc 31 then (bif Nat.beq pc 31 then some (.inl (o_al 0 1)) else none) else (bif Nat.beq pc 32 then some (.inl (o_gP 11 4)) else none))) else (bif Nat.ble pc 35 then (bif Nat.beq pc 35 then some (.inl (o_il 7 2)) else none) else (bif Nat.ble pc 37 then (bif Nat.beq pc 37 then some (.inl (o_iald)) else none) else (bif Nat.beq pc 38 then some (.inl (o_il 2 1)) else none)))))) else (bif Nat.ble pc 60 then (bif Nat.ble pc 47 then (bif Nat.ble pc 43 then (bif Nat.ble pc 39 then (bif Nat.beq pc 39 then some (.inl (o_cgt 79)) else none) else (bif Nat.ble pc 42 then (bif Nat.beq pc 42 then some (.inl (o_al 0 1)) else none) else (bif Nat.beq pc 43 then some (.inl (o_il 7 2)) else none))) else (bif Nat.ble pc 45 then (bif Nat.beq pc 45 then some (.inl (o_il 2 1)) else none) else (bif Nat.ble pc 46 then (bif Nat.beq pc 46 then some (.inl (o_il 3 1)) else none) else (bif Nat.beq pc 47 then some (.inl (o_il 4 2)) else none)))) else (bif Nat.ble pc 53 then (bif Nat.ble pc 49 then (bif Nat.beq pc 49 then some (.inr (3, 144, 5, 11)) else none) else (bif Nat.ble pc 52 then (bif Nat.beq pc 52 then some (.inl (o_al 0 1)) else none) else (bif Nat.beq pc 53 then some (.inl (o_gI 11 43)) else none))) else (bif Nat.ble pc 56 then (bif Nat.beq pc 56 then some (.inl (o_zle 79)) else none) else (bif Nat.ble pc 59 then (bif Nat.beq pc 59 then some (.inl (o_al 0 1)) else none) else (bif Nat.beq pc 60 then some (.inl (o_il 7 2)) else none))))) else (bif Nat.ble pc 71 then (bif Nat.ble pc 65 then (bif Nat.ble pc 62 then (bif Nat.beq pc 62 then some (.inl (o_il 5 2)) else none) else (bif Nat.ble pc 64 then (bif Nat.beq pc 64 then some (.inl (o_il 3 1)) else none) else (bif Nat.beq pc 65 then some (.inl (o_il 4 2)) else none))) else (bif Nat.ble pc 67 then (bif Nat.beq pc 67 then some (.inr (3, 148, 5, 11)) else none) else (bif Nat.ble pc 70 then (bif Nat.beq pc 70 then some (.inl (o_al 0 1)) else none) else (bif Nat.beq pc 71 then some (.inl (o_gP 11 1)) else none)))) else (bif Nat.ble pc 77 then (bif Nat.ble pc 74 then (bif Nat.beq pc 74 then some (.inl (o_il 7 2)) else none) else (bif Nat.ble pc 76 then (bif Nat.beq pc 76 then some (.inl (o_iald)) else none) else (bif Nat.beq pc 77 then some (.inl (o_is 5 2)) else none))) else (bif Nat.ble pc 79 then (bif Nat.beq pc 79 then some (.inl (o_inc 6 1)) else none) else (bif Nat.ble pc 82 then (bif Nat.beq pc 82 then some (.inl (o_goto 11)) else none) else (bif Nat.beq pc 85 then some (.inr (0, 0, 0, 3)) else none))))))
theorem k_149_0 : mOk M_149.1 M_149.2.1 M_149.2.2.1 M_149.2.2.2 0 (o_al 0 1) := ok_aload_n dX11_makeTile_0 rfl
theorem k_149_1 : mOk M_149.1 M_149.2.1 M_149.2.2.1 M_149.2.2.2 1 (oS 1 (s_push (.int 0))) := ok_iconst dX11_makeTile_1 (by decide)
theorem k_149_2 : mOk M_149.1 M_149.2.1 M_149.2.2.1 M_149.2.2.2 2 (o_pI 11 37) := ok_pI dX11_makeTile_2 (mFw_of f_RX11_240_c (Or.inl rfl)) rfl
theorem k_149_5 : mOk M_149.1 M_149.2.1 M_149.2.2.1 M_149.2.2.2 5 (oS 1 (s_push (.int 0))) := ok_iconst dX11_makeTile_5 (by decide)
theorem k_149_6 : mOk M_149.1 M_149.2.1 M_149.2.2.1 M_149.2.2.2 6 (o_is 5 2) := ok_istore dX11_makeTile_6
theorem k_149_8 : mOk M_149.1 M_149.2.1 M_149.2.2.1 M_149.2.2.2 8 (oS 1 (s_push (.int 0))) := ok_iconst dX11_makeTile_8 (by decide)
theorem k_149_9 : mOk M_149.1 M_149.2.1 M_149.2.2.1 M_149.2.2.2 9 (o_is 6 2) := ok_istore dX11_makeTile_9
theorem k_149_11 : mOk M_149.1 M_149.2.1 M_149.2.2.1 M_149.2.2.2 11 (o_il 6 2) := ok_iload dX11_makeTile_11
theorem k_149_13 : mOk M_149.1 M_149.2.1 M_149.2.2.1 M_149.2.2.2 13 (o_al 0 1) := ok_aload_n dX11_makeTile_13 rfl
theorem k_149_14 : mOk M_149.1 M_149.2.1 M_149.2.2.1 M_149.2.2.2 14 (o_gP 11 0) := ok_gP dX11_makeTile_14 f_RX11_7 rfl
theorem k_149_17 : mOk M_149.1 M_149.2.1 M_149.2.2.1 M_149.2.2.2 17 (o_il 1 1) := ok_iload_n dX11_makeTile_17 rfl
theorem k_149_18 : mOk M_149.1 M_149.2.1 M_149.2.2.1 M_149.2.2.2 18 (o_iald) := ok_iald dX11_makeTile_18
theorem k_149_19 : mOk M_149.1 M_149.2.1 M_149.2.2.1 M_149.2.2.2 19 (o_cge 85) := ok_cge dX11_makeTile_19 (by decide)
theorem k_149_22 : mOk M_149.1 M_149.2.1 M_149.2.2.1 M_149.2.2.2 22 (oS 2 (s_push (.int 24))) := ok_bipush dX11_makeTile_22 (by decide)
theorem k_149_24 : mOk M_149.1 M_149.2.1 M_149.2.2.1 M_149.2.2.2 24 (o_il 1 1) := ok_iload_n dX11_makeTile_24 rfl
theorem k_149_25 : mOk M_149.1 M_149.2.1 M_149.2.2.1 M_149.2.2.2 25 (oS 1 (s_ii (fun a b => a * b))) := ok_imul dX11_makeTile_25
theorem k_149_26 : mOk M_149.1 M_149.2.1 M_149.2.2.1 M_149.2.2.2 26 (o_il 6 2) := ok_iload dX11_makeTile_26
theorem k_149_28 : mOk M_149.1 M_149.2.1 M_149.2.2.1 M_149.2.2.2 28 (oS 1 (s_ii (fun a b => a + b))) := ok_iadd dX11_makeTile_28
theorem k_149_29 : mOk M_149.1 M_149.2.1 M_149.2.2.1 M_149.2.2.2 29 (o_is 7 2) := ok_istore dX11_makeTile_29
theorem k_149_31 : mOk M_149.1 M_149.2.1 M_149.2.2.1 M_149.2.2.2 31 (o_al 0 1) := ok_aload_n dX11_makeTile_31 rfl
theorem k_149_32 : mOk M_149.1 M_149.2.1 M_149.2.2.1 M_149.2.2.2 32 (o_gP 11 4) := ok_gP dX11_makeTile_32 f_RX11_22 rfl
theorem k_149_35 : mOk M_149.1 M_149.2.1 M_149.2.2.1 M_149.2.2.2 35 (o_il 7 2) := ok_iload dX11_makeTile_35
theorem k_149_37 : mOk M_149.1 M_149.2.1 M_149.2.2.1 M_149.2.2.2 37 (o_iald) := ok_iald dX11_makeTile_37
theorem k_149_38 : mOk M_149.1 M_149.2.1 M_149.2.2.1 M_149.2.2.2 38 (o_il 2 1) := ok_iload_n dX11_makeTile_38 rfl
theorem k_149_39 : mOk M_149.1 M_149.2.1 M_149.2.2.1 M_149.2.2.2 39 (o_cgt 79) := ok_cgt dX11_makeTile_39 (by decide)
theorem k_149_42 : mOk M_149.1 M_149.2.1 M_149.2.2.1 M_149.2.2.2 42 (o_al 0 1) := ok_aload_n dX11_makeTile_42 rfl
theorem k_149_43 : mOk M_149.1 M_149.2.1 M_149.2.2.1 M_149.2.2.2 43 (o_il 7 2) := ok_iload dX11_makeTile_43
theorem k_149_45 : mOk M_149.1 M_149.2.1 M_149.2.2.1 M_149.2.2.2 45 (o_il 2 1) := ok_iload_n dX11_makeTile_45 rfl
theorem k_149_46 : mOk M_149.1 M_149.2.1 M_149.2.2.1 M_149.2.2.2 46 (o_il 3 1) := ok_iload_n dX11_makeTile_46 rfl
theorem k_149_47 : mOk M_149.1 M_149.2.1 M_149.2.2.1 M_149.2.2.2 47 (o_il 4 2) := ok_iload dX11_makeTile_47
theorem k_149_52 : mOk M_149.1 M_149.2.1 M_149.2.2.1 M_149.2.2.2 52 (o_al 0 1) := ok_aload_n dX11_makeTile_52 rfl
theorem k_149_53 : mOk M_149.1 M_149.2.1 M_149.2.2.1 M_149.2.2.2 53 (o_gI 11 43) := ok_gI dX11_makeTile_53 f_RX11_191 (Or.inl rfl)
theorem k_149_56 : mOk M_149.1 M_149.2.1 M_149.2.2.1 M_149.2.2.2 56 (o_zle 79) := ok_zle dX11_makeTile_56 (by decide)
theorem k_149_59 : mOk M_149.1 M_149.2.1 M_149.2.2.1 M_149.2.2.2 59 (o_al 0 1) := ok_aload_n dX11_makeTile_59 rfl
theorem k_149_60 : mOk M_149.1 M_149.2.1 M_149.2.2.1 M_149.2.2.2 60 (o_il 7 2) := ok_iload dX11_makeTile_60
theorem k_149_62 : mOk M_149.1 M_149.2.1 M_149.2.2.1 M_149.2.2.2 62 (o_il 5 2) := ok_iload dX11_makeTile_62
theorem k_149_64 : mOk M_149.1 M_149.2.1 M_149.2.2.1 M_149.2.2.2 64 (o_il 3 1) := ok_iload_n dX11_makeTile_64 rfl
theorem k_149_65 : mOk M_149.1 M_149.2.1 M_149.2.2.1 M_149.2.2.2 65 (o_il 4 2) := ok_iload dX11_makeTile_65
theorem k_149_70 : mOk M_149.1 M_149.2.1 M_149.2.2.1 M_149.2.2.2 70 (o_al 0 1) := ok_aload_n dX11_makeTile_70 rfl
theorem k_149_71 : mOk M_149.1 M_149.2.1 M_149.2.2.1 M_149.2.2.2 71 (o_gP 11 1) := ok_gP dX11_makeTile_71 f_RX11_13 rfl
theorem k_149_74 : mOk M_149.1 M_149.2.1 M_149.2.2.1 M_149.2.2.2 74 (o_il 7 2) := ok_iload dX11_makeTile_74
theorem k_149_76 : mOk M_149.1 M_149.2.1 M_149.2.2.1 M_149.2.2.2 76 (o_iald) := ok_iald dX11_makeTile_76
theorem k_149_77 : mOk M_149.1 M_149.2.1 M_149.2.2.1 M_149.2.2.2 77 (o_is 5 2) := ok_istore dX11_makeTile_77
theorem k_149_79 : mOk M_149.1 M_149.2.1 M_149.2.2.1 M_149.2.2.2 79 (o_inc 6 1) := ok_iinc dX11_makeTile_79 (by decide)
theorem k_149_82 : mOk M_149.1 M_149.2.1 M_149.2.2.1 M_149.2.2.2 82 (o_goto 11) := ok_goto dX11_makeTile_82 (by decide)
set_option maxRecDepth 20000 in
set_option maxHeartbeats 4000000 in
theorem tk_149 (l : Launch) (H9 : mThr l) (H10 : mSpl l) (pc : Nat) (q : mEnt) (h : tb_149 pc = some q) : EE l 149 pc q := nd h (fun h => nd h (fun h => nd h (fun h => nd h (fun h => nd h (fun h => lf (P := EE l 149) h k_149_0) (fun h => nd h (fun h => lf (P := EE l 149) h k_149_1) (fun h => lf (P := EE l 149) h k_149_2))) (fun h => nd h (fun h => lf (P := EE l 149) h k_149_5) (fun h => nd h (fun h => lf (P := EE l 149) h k_149_6) (fun h => lf (P := EE l 149) h k_149_8)))) (fun h => nd h (fun h => nd h (fun h => lf (P := EE l 149) h k_149_9) (fun h => nd h (fun h => lf (P := EE l 149) h k_149_11) (fun h => lf (P := EE l 149) h k_149_13))) (fun h => nd h (fun h => lf (P := EE l 149) h k_149_14) (fun h => nd h (fun h => lf (P := EE l 149) h k_149_17) (fun h => lf (P := EE l 149) h k_149_18))))) (fun h => nd h (fun h => nd h (fun h => nd h (fun h => lf (P := EE l 149) h k_149_19) (fun h => nd h (fun h => lf (P := EE l 149) h k_149_22) (fun h => lf (P := EE l 149) h k_149_24))) (fun h => nd h (fun h => lf (P := EE l 149) h k_149_25) (fun h => nd h (fun h => lf (P := EE l 149) h k_149_26) (fun h => lf (P := EE l 149) h k_149_28)))) (fun h => nd h (fun h => nd h (fun h => lf (P := EE l 149) h k_149_29) (fun h => nd h (fun h => lf (P := EE l 149) h k_149_31) (fun h => lf (P := EE l 149) h k_149_32))) (fun h => nd h (fun h => lf (P := EE l 149) h k_149_35) (fun h => nd h (fun h => lf (P := EE l 149) h k_149_37) (fun h => lf (P := EE l 149) h k_149_38)))))) (fun h => nd h (fun h => nd h (fun h => nd h (fun h => nd h (fun h => lf (P := EE l 149) h k_149_39) (fun h => nd h (fun h => lf (P := EE l 149) h k_149_42) (fun h => lf (P := EE l 149) h k_149_43))) (fun h => nd h (fun h => lf (P := EE l 149) h k_149_45) (fun h => nd h (fun h => lf (P := EE l 149) h k_149_46) (fun h => lf (P := EE l 149) h k_149_47)))) (fun h => nd h (fun h => nd h (fun h => lf (P := EE l 149) h (EE_ca (by decide) (⟨m_1284, m_81, ⟨by decide, by decide⟩, by decide +kernel, ⟨by decide, by decide⟩, 253, 4, by decide +kernel, Or.inr (Or.inr (Or.inl ⟨rfl, rfl, dX11_makeTile_49, m_1281, m_1283, _, rfl, by decide, m_38⟩))⟩) rfl)) (fun h => nd h (fun h => lf (P := EE l 149) h k_149_52) (fun h => lf (P := EE l 149) h k_149_53))) (fun h => nd h (fun h => lf (P := EE l 149) h k_149_56) (fun h => nd h (fun h => lf (P := EE l 149) h k_149_59) (fun h => lf (P := EE l 149) h k_149_60))))) (fun h => nd h (fun h => nd h (fun h => nd h (fun h => lf (P := EE l 149) h k_149_62) (fun h => nd h (fun h => lf (P := EE l 149) h k_149_64) (fun h => lf (P := EE l 149) h k_149_65))) (fun h => nd h (fun h => lf (P := EE l 149) h (EE_ca (by decide) (⟨m_1340, m_81, ⟨by decide, by decide⟩, by decide +kernel, ⟨by decide, by decide⟩, 257, 4, by decide +kernel, Or.inr (Or.inr (Or.inl ⟨rfl, rfl, dX11_makeTile_67, m_1337, m_1339, _, rfl, by decide, m_50⟩))⟩) rfl)) (fun h => nd h (fun h => lf (P := EE l 149) h k_149_70) (fun h => lf (P := EE l 149) h k_149_71)))) (fun h => nd h (fun h => nd h (fun h => lf (P := EE l 149) h k_149_74) (fun h => nd h (fun h => lf (P := EE l 149) h k_149_76) (fun h => lf (P := EE l 149) h k_149_77))) (fun h => nd h (fun h => lf (P := EE l 149) h k_149_79) (fun h => nd h (fun h => lf (P := EE l 149) h k_149_82) (fun h => lf (P := EE l 149) h (EE_re (Or.inr (Or.inr (Or.inr (Or.inr ⟨rfl, dX11_makeTile_85, rfl⟩)))))))))))
theorem dX11_tile_0 : decode cX11_tile 0 = .ok (.aload_n 0, 1) := by decide +kernel
theorem dX11_tile_1 : decode cX11_tile 1 = .ok (.iload_n 1, 1) := by decide +kernel
theorem dX11_tile_2 : decode cX11_tile 2 = .ok (.invokevirtual 260, 3) := by decide +kernel
theorem dX11_tile_5 : decode cX11_tile 5 = .ok (.iconst (-1), 1) := by decide +kernel
theorem dX11_tile_6 : decode cX11_tile 6 = .ok (.if_icmp .eq 25, 3) := by decide +kernel
theorem dX11_tile_9 : decode cX11_tile 9 = .ok (.iload_n 2, 1) := by decide +kernel
theorem dX11_tile_10 : decode cX11_tile 10 = .ok (.iconst 0, 1) := by decide +kernel
theorem dX11_tile_11 : decode cX11_tile 11 = .ok (.iconst 4, 1) := by decide +kernel
theorem dX11_tile_12 : decode cX11_tile 12 = .ok (.invokestatic 137, 3) := by decide +kernel
theorem dX11_tile_15 : decode cX11_tile 15 = .ok (.ifCond .eq 16, 3) := by decide +kernel
theorem dX11_tile_18 : decode cX11_tile 18 = .ok (.iload_n 3, 1) := by decide +kernel
theorem dX11_tile_19 : decode cX11_tile 19 = .ok (.ifCond .lt 12, 3) := by decide +kernel
theorem dX11_tile_22 : decode cX11_tile 22 = .ok (.iload 4, 2) := by decide +kernel
theorem dX11_tile_24 : decode cX11_tile 24 = .ok (.ifCond .lt 7, 3) := by decide +kernel
theorem dX11_tile_27 : decode cX11_tile 27 = .ok (.iconst 1, 1) := by decide +kernel
theorem dX11_tile_28 : decode cX11_tile 28 = .ok (.goto 4, 3) := by decide +kernel
theorem dX11_tile_31 : decode cX11_tile 31 = .ok (.iconst 0, 1) := by decide +kernel
theorem dX11_tile_32 : decode cX11_tile 32 = .ok (.istore 5, 2) := by decide +kernel
theorem dX11_tile_34 : decode cX11_tile 34 = .ok (.iload 5, 2) := by decide +kernel
theorem dX11_tile_36 : decode cX11_tile 36 = .ok (.ifCond .eq 21, 3) := by decide +kernel
theorem dX11_tile_39 : decode cX11_tile 39 = .ok (.iload_n 3, 1) := by decide +kernel
theorem dX11_tile_40 : decode cX11_tile 40 = .ok (.iconst 1, 1) := by decide +kernel
theorem dX11_tile_41 : decode cX11_tile 41 = .ok (.iload_n 2, 1) := by decide +kernel
theorem dX11_tile_42 : decode cX11_tile 42 = .ok (.ishl, 1) := by decide +kernel
theorem dX11_tile_43 : decode cX11_tile 43 = .ok (.if_icmp .ge 11, 3) := by decide +kernel
theorem dX11_tile_46 : decode cX11_tile 46 = .ok (.iload 4, 2) := by decide +kernel
theorem dX11_tile_48 : decode cX11_tile 48 = .ok (.iconst 1, 1) := by decide +kernel
theorem dX11_tile_49 : decode cX11_tile 49 = .ok (.iload_n 2, 1) := by decide +kernel
theorem dX11_tile_50 : decode cX11_tile 50 = .ok (.ishl, 1) := by decide +kernel
theorem dX11_tile_51 : decode cX11_tile 51 = .ok (.if_icmp .lt 6, 3) := by decide +kernel
theorem dX11_tile_54 : decode cX11_tile 54 = .ok (.iconst 0, 1) := by decide +kernel
theorem dX11_tile_55 : decode cX11_tile 55 = .ok (.istore 5, 2) := by decide +kernel
theorem dX11_tile_57 : decode cX11_tile 57 = .ok (.aload_n 0, 1) := by decide +kernel
theorem dX11_tile_58 : decode cX11_tile 58 = .ok (.iload 5, 2) := by decide +kernel
theorem dX11_tile_60 : decode cX11_tile 60 = .ok (.ifCond .eq 7, 3) := by decide +kernel
theorem dX11_tile_63 : decode cX11_tile 63 = .ok (.iconst 0, 1) := by decide +kernel
theorem dX11_tile_64 : decode cX11_tile 64 = .ok (.goto 4, 3) := by decide +kernel
theorem dX11_tile_67 : decode cX11_tile 67 = .ok (.iconst 1, 1) := by decide +kernel
theorem dX11_tile_68 : decode cX11_tile 68 = .ok (.putfield 133, 3) := by decide +kernel
theorem dX11_tile_71 : decode cX11_tile 71 = .ok (.aload_n 0, 1) := by decide +kernel
theorem dX11_tile_72 : decode cX11_tile 72 = .ok (.getfield 133, 3) := by decide +kernel
theorem dX11_tile_75 : decode cX11_tile 75 = .ok (.ifCond .eq 5, 3) := by decide +kernel
theorem dX11_tile_78 : decode cX11_tile 78 = .ok (.iconst 0, 1) := by decide +kernel
theorem dX11_tile_79 : decode cX11_tile 79 = .ok (.ireturn, 1) := by decide +kernel
theorem dX11_tile_80 : decode cX11_tile 80 = .ok (.aload_n 0, 1) := by decide +kernel
theorem dX11_tile_81 : decode cX11_tile 81 = .ok (.aload_n 0, 1) := by decide +kernel
theorem dX11_tile_82 : decode cX11_tile 82 = .ok (.iload_n 1, 1) := by decide +kernel
theorem dX11_tile_83 : decode cX11_tile 83 = .ok (.invokevirtual 260, 3) := by decide +kernel
theorem dX11_tile_86 : decode cX11_tile 86 = .ok (.iload_n 2, 1) := by decide +kernel
theorem dX11_tile_87 : decode cX11_tile 87 = .ok (.iload_n 3, 1) := by decide +kernel
theorem dX11_tile_88 : decode cX11_tile 88 = .ok (.iload 4, 2) := by decide +kernel
theorem dX11_tile_90 : decode cX11_tile 90 = .ok (.invokevirtual 264, 3) := by decide +kernel
theorem dX11_tile_93 : decode cX11_tile 93 = .ok (.aload_n 0, 1) := by decide +kernel
theorem dX11_tile_94 : decode cX11_tile 94 = .ok (.aload_n 0, 1) := by decide +kernel
theorem dX11_tile_95 : decode cX11_tile 95 = .ok (.getfield 240, 3) := by decide +kernel
theorem dX11_tile_98 : decode cX11_tile 98 = .ok (.putfield 267, 3) := by decide +kernel
theorem dX11_tile_101 : decode cX11_tile 101 = .ok (.iconst 0, 1) := by decide +kernel
theorem dX11_tile_102 : decode cX11_tile 102 = .ok (.istore 6, 2) := by decide +kernel
theorem dX11_tile_104 : decode cX11_tile 104 = .ok (.iload 6, 2) := by decide +kernel
theorem dX11_tile_106 : decode cX11_tile 106 = .ok (.aload_n 0, 1) := by decide +kernel
theorem dX11_tile_107 : decode cX11_tile 107 = .ok (.getfield 240, 3) := by decide +kernel
theorem dX11_tile_110 : decode cX11_tile 110 = .ok (.if_icmp .ge 23, 3) := by decide +kernel
theorem dX11_tile_113 : decode cX11_tile 113 = .ok (.aload_n 0, 1) := by decide +kernel
theorem dX11_tile_114 : decode cX11_tile 114 = .ok (.getfield 109, 3) := by decide +kernel
theorem dX11_tile_117 : decode cX11_tile 117 = .ok (.iload 6, 2) := by decide +kernel
theorem dX11_tile_119 : decode cX11_tile 119 = .ok (.aload_n 0, 1) := by decide +kernel
theorem dX11_tile_120 : decode cX11_tile 120 = .ok (.getfield 106, 3) := by decide +kernel
theorem dX11_tile_123 : decode cX11_tile 123 = .ok (.iload 6, 2) := by decide +kernel
theorem dX11_tile_125 : decode cX11_tile 125 = .ok (.iaload, 1) := by decide +kernel
theorem dX11_tile_126 : decode cX11_tile 126 = .ok (.iastore, 1) := by decide +kernel
theorem dX11_tile_127 : decode cX11_tile 127 = .ok (.iinc 6 1, 3) := by decide +kernel
theorem dX11_tile_130 : decode cX11_tile 130 = .ok (.goto (-26), 3) := by decide +kernel
theorem dX11_tile_133 : decode cX11_tile 133 = .ok (.aload_n 0, 1) := by decide +kernel
theorem dX11_tile_134 : decode cX11_tile 134 = .ok (.getfield 267, 3) := by decide +kernel
theorem dX11_tile_137 : decode cX11_tile 137 = .ok (.ireturn, 1) := by decide +kernel
def tb_150 (pc : Nat) : Option mEnt := bif Nat.ble pc 64 then (bif Nat.ble pc 32 then (bif Nat.ble pc 12 then (bif Nat.ble pc 5 then (bif Nat.ble pc 1 then (bif Nat.ble pc 0 then (bif Nat.beq pc 0 then some (.inl (o_al 0 1)) else none) else (bif Nat.beq pc 1 then some (.inl (o_il 1 1)) else none)) else (bif Nat.ble pc 2 then (bif Nat.beq pc 2 then some (.inr (3, 130, 2, 11)) else none) else (bif Nat.beq pc 5 then some (.inl (oS 1 (s_push (.int (-1))))) else none))) else (bif Nat.ble pc 9 then (bif Nat.ble pc 6 then (bif Nat.beq pc 6 then some (.inl (o_ceq 31)) else none) else (bif Nat.beq pc 9 then some (.inl (o_il 2 1)) else none)) else (bif Nat.ble pc 10 then (bif Nat.beq pc 10 then some (.inl (oS 1 (s_push (.int 0)))) else none) else (bif Nat.ble pc 11 then (bif Nat.beq pc 11 then some (.inl (oS 1 (s_push (.int 4)))) else none) else (bif Nat.beq pc 12 then some (.inr (2, 115, 3, 0)) else none))))) else (bif Nat.ble pc 22 then (bif Nat.ble pc 18 then (bif Nat.ble pc 15 then (bif Nat.beq pc 15 then some (.inl (o_zeq 31)) else none) else (bif Nat.beq pc 18 then some (.inl (o_il 3 1)) else none)) else (bif Nat.ble pc 19 then (bif Nat.beq pc 19 then some (.inl (o_zlt 31)) else none) else (bif Nat.beq pc 22 then some (.inl (o_il 4 2)) else none))) else (bif Nat.ble pc 27 then (bif Nat.ble pc 24 then (bif Nat.beq pc 24 then some (.inl (o_zlt 31)) else none) else (bif Nat.beq pc 27 then some (.inl (oS 1 (s_push (.int 1)))) else none)) else (bif Nat.ble pc 28 then (bif Nat.beq pc 28 then some (.inl (o_goto 32)) else none) else (bif Nat.ble pc 31 then (bif Nat.beq pc 31 then some (.inl (oS 1 (s_push (.int 0)))) else none) else (bif Nat.beq pc 32 then some (.inl (o_is 5 2)) else none)))))) else (bif Nat.ble pc 48 then (bif Nat.ble pc 40 then (bif Nat.ble pc 36 then (bif Nat.ble pc 34 then (bif Nat.beq pc 34 then some (.inl (o_il 5 2)) else none) else (bif Nat.beq pc 36 then some (.inl (o_zeq 57)) else none)) else (bif Nat.ble pc 39 then (bif Nat.beq pc 39 then some (.inl (o_il 3 1)) else none) else (bif Nat.beq pc 40 then some (.inl (oS 1 (s_push (.int 1)))) else none))) else (bif Nat.ble pc 42 then (bif Nat.ble pc 41 then (bif Nat.beq pc 41 then some (.inl (o_il 2 1)) else none) else (bif Nat.beq pc 42 then some (.inl (oS 1 (s_ii (fun a b => a <<< (b &&& 31))))) else none)) else (bif Nat.ble pc 43 then (bif Nat.beq pc 43 then some (.inl (o_cge 54)) else none) else (bif Nat.ble pc 46 then (bif Nat.beq pc 46 then some (.inl (o_il 4 2)) else none) else (bif Nat.beq pc 48 then some (.inl (oS 1 (s_push (.int 1)))) else none))))) else (bif Nat.ble pc 55 then (bif Nat.ble pc 50 then (bif Nat.ble pc 49 then (bif Nat.beq pc 49 then some (.inl (o_il 2 1)) else none) else (bif Nat.beq pc 50 then some (.inl (oS 1 (s_ii (fun a b => a <<< (b &&& 31))))) else none)) else (bif Nat.ble pc 51 then (bif Nat.beq pc 51 then some (.inl (o_clt 57)) else none) else (bif Nat.ble pc 54 then (bif Nat.beq pc 54 then some (.inl (oS 1 (s_push (.int 0)))) else none) else (bif Nat.beq pc 55 then some (.inl (o_is 5 2)) else none)))) else (bif Nat.ble pc 58 then (bif Nat.ble pc 57 then (bif Nat.beq pc 57 then some (.inl (o_al 0 1)) else none) else (bif Nat.beq pc 58 then some (.inl (o_il 5 2)) else none)) else (bif Nat.ble pc 60 then (bif Nat.beq pc 60 then some (.inl (o_zeq 67)) else none) else (bif Nat.ble pc 63 then (bif Nat.beq pc 63 then some (.inl (oS 1 (s_push (.int 0)))) else none) else (bif Nat.beq pc 64 then some (.inl (o_goto 68)) else none))))))) else (bif Nat.ble pc 98 then (bif Nat.ble pc 81 then (bif Nat.ble pc 72 then (bif Nat.ble pc 68 then (bif Nat.ble pc 67 then (bif Nat.beq pc 67 then some (.inl (oS 1 (s_push (.int 1)))) else none) else (bif Nat.beq pc 68 then some (.inl (o_pI 11 13)) else none)) else (bif Nat.ble pc 71 then (bif Nat.beq pc 71 then some (.inl (o_al 0 1)) else none) else (bif Nat.beq pc 72 then some (.inl (o_gI 11 13)) else none))) else (bif Nat.ble pc 78 then (bif Nat.ble pc 75 then (bif Nat.beq pc 75 then some (.inl (o_zeq 80)) else none) else (bif Nat.beq pc 78 then some (.inl (oS 1 (s_push (.int 0)))) else none)) else (bif Nat.ble pc 79 then (bif Nat.beq pc 79 then some (.inr (0, 0, 0, 0)) else none) else (bif Nat.ble pc 80 then (bif Nat.beq pc 80 then some (.inl (o_al 0 1)) else none) else (bif Nat.beq pc 81 then some (.inl (o_al 0 1)) else none))))) else (bif Nat.ble pc 88 then (bif Nat.ble pc 83 then (bif Nat.ble pc 82 then (bif Nat.beq pc 82 then some (.inl (o_il 1 1)) else none) else (bif Nat.beq pc 83 then some (.inr (3, 130, 2, 11)) else none)) else (bif Nat.ble pc 86 then (bif Nat.beq pc 86 then some (.inl (o_il 2 1)) else none) else (bif Nat.ble pc 87 then (bif Nat.beq pc 87 then some (.inl (o_il 3 1)) else none) else (bif Nat.beq pc 88 then some (.inl (o_il 4 2)) else none)))) else (bif Nat.ble pc 93 then (bif Nat.ble pc 90 then (bif Nat.beq pc 90 then some (.inr (3, 149, 5, 11)) else none) else (bif Nat.beq pc 93 then some (.inl (o_al 0 1)) else none)) else (bif Nat.ble pc 94 then (bif Nat.beq pc 94 then some (.inl (o_al 0 1)) else none) else (bif Nat.ble pc 95 then (bif Nat.beq pc 95 then some (.inl (o_gI 11 37)) else none) else (bif Nat.beq pc 98 then some (.inl (o_pI 11 39)) else none)))))) else (bif Nat.ble pc 117 then (bif Nat.ble pc 106 then (bif Nat.ble pc 102 then (bif Nat.ble pc 101 then (bif Nat.beq pc 101 then some (.inl (oS 1 (s_push (.int 0)))) else none) else (bif Nat.beq pc 102 then some (.inl (o_is 6 2)) else none)) else (bif Nat.ble pc 104 then (bif Nat.beq pc 104 then some (.inl (o_il 6 2)) else none) else (bif Nat.beq pc 106 then some (.inl (o_al 0 1)) else none))) else (bif Nat.ble pc 110 then (bif Nat.ble pc 107 then (bif Nat.beq pc 107 then some (.inl (o_gI 11 37)) else none) else (bif Nat.beq pc 110 then some (.inl (o_cge 133)) else none)) else (bif Nat.ble pc 113 then (bif Nat.beq pc 113 then some (.inl (o_al 0 1)) else none) else (bif Nat.ble pc 114 then (bif Nat.beq pc 114 then some (.inl (o_gP 11 38)) else none) else (bif Nat.beq pc 117 then some (.inl (o_il 6 2)) else none))))) else (bif Nat.ble pc 126 then (bif Nat.ble pc 120 then (bif Nat.ble pc 119 then (bif Nat.beq pc 119 then some (.inl (o_al 0 1)) else none) else (bif Nat.beq pc 120 then some (.inl (o_gP 11 36)) else none)) else (bif Nat.ble pc 123 then (bif Nat.beq pc 123 then some (.inl (o_il 6 2)) else none) else (bif Nat.ble pc 125 then (bif Nat.beq pc 125 then some (.inl (o_iald)) else none) else (bif Nat.beq pc 126 then some (.inl (o_iast)) else none)))) else (bif Nat.ble pc 130 then (bif Nat.ble pc 127 then (bif Nat.beq pc 127 then some (.inl (o_inc 6 1)) else none) else (bif Nat.beq pc 130 then some (.inl (o_goto 104)) else none)) else (bif Nat.ble pc 133 then (bif Nat.beq pc 133 then some (.inl (o_al 0 1)) else none) else (bif Nat.ble pc 134 then (bif Nat.beq pc 134 then some (.inl (o_gI 11 39)) else none) else (bif Nat.beq pc 137 then some (.inr (0, 0, 0, 0)) else none)))))))
theorem k_150_0 : mOk M_150.1 M_150.2.1 M_150.2.2.1 M_150.2.2.2 0 (o_al 0 1) := ok_aload_n dX11_tile_0 rfl
theorem k_150_1 : mOk M_150.1 M_150.2.1 M_150.2.2.1 M_150.2.2.2 1 (o_il 1 1) := ok_iload_n dX11_tile_1 rfl
theorem k_150_5 : mOk M_150.1 M_150.2.1 M_150.2.2.1 M_150.2.2.2 5 (oS 1 (s_push (.int (-1)))) := ok_iconst dX11_tile_5 (by decide)
theorem k_150_6 : mOk M_150.1 M_150.2.1 M_150.2.2.1 M_150.2.2.2 6 (o_ceq 31) := ok_ceq dX11_tile_6 (by decide)
theorem k_150_9 : mOk M_150.1 M_150.2.1 M_150.2.2.1 M_150.2.2.2 9 (o_il 2 1) := ok_iload_n dX11_tile_9 rfl
theorem k_150_10 : mOk M_150.1 M_150.2.1 M_150.2.2.1 M_150.2.2.2 10 (oS 1 (s_push (.int 0))) := ok_iconst dX11_tile_10 (by decide)
theorem k_150_11 : mOk M_150.1 M_150.2.1 M_150.2.2.1 M_150.2.2.2 11 (oS 1 (s_push (.int 4))) := ok_iconst dX11_tile_11 (by decide)
theorem k_150_15 : mOk M_150.1 M_150.2.1 M_150.2.2.1 M_150.2.2.2 15 (o_zeq 31) := ok_zeq dX11_tile_15 (by decide)
theorem k_150_18 : mOk M_150.1 M_150.2.1 M_150.2.2.1 M_150.2.2.2 18 (o_il 3 1) := ok_iload_n dX11_tile_18 rfl
theorem k_150_19 : mOk M_150.1 M_150.2.1 M_150.2.2.1 M_150.2.2.2 19 (o_zlt 31) := ok_zlt dX11_tile_19 (by decide)
theorem k_150_22 : mOk M_150.1 M_150.2.1 M_150.2.2.1 M_150.2.2.2 22 (o_il 4 2) := ok_iload dX11_tile_22
theorem k_150_24 : mOk M_150.1 M_150.2.1 M_150.2.2.1 M_150.2.2.2 24 (o_zlt 31) := ok_zlt dX11_tile_24 (by decide)
theorem k_150_27 : mOk M_150.1 M_150.2.1 M_150.2.2.1 M_150.2.2.2 27 (oS 1 (s_push (.int 1))) := ok_iconst dX11_tile_27 (by decide)
theorem k_150_28 : mOk M_150.1 M_150.2.1 M_150.2.2.1 M_150.2.2.2 28 (o_goto 32) := ok_goto dX11_tile_28 (by decide)
theorem k_150_31 : mOk M_150.1 M_150.2.1 M_150.2.2.1 M_150.2.2.2 31 (oS 1 (s_push (.int 0))) := ok_iconst dX11_tile_31 (by decide)
theorem k_150_32 : mOk M_150.1 M_150.2.1 M_150.2.2.1 M_150.2.2.2 32 (o_is 5 2) := ok_istore dX11_tile_32
theorem k_150_34 : mOk M_150.1 M_150.2.1 M_150.2.2.1 M_150.2.2.2 34 (o_il 5 2) := ok_iload dX11_tile_34
theorem k_150_36 : mOk M_150.1 M_150.2.1 M_150.2.2.1 M_150.2.2.2 36 (o_zeq 57) := ok_zeq dX11_tile_36 (by decide)
theorem k_150_39 : mOk M_150.1 M_150.2.1 M_150.2.2.1 M_150.2.2.2 39 (o_il 3 1) := ok_iload_n dX11_tile_39 rfl
theorem k_150_40 : mOk M_150.1 M_150.2.1 M_150.2.2.1 M_150.2.2.2 40 (oS 1 (s_push (.int 1))) := ok_iconst dX11_tile_40 (by decide)
theorem k_150_41 : mOk M_150.1 M_150.2.1 M_150.2.2.1 M_150.2.2.2 41 (o_il 2 1) := ok_iload_n dX11_tile_41 rfl
theorem k_150_42 : mOk M_150.1 M_150.2.1 M_150.2.2.1 M_150.2.2.2 42 (oS 1 (s_ii (fun a b => a <<< (b &&& 31)))) := ok_ishl dX11_tile_42
theorem k_150_43 : mOk M_150.1 M_150.2.1 M_150.2.2.1 M_150.2.2.2 43 (o_cge 54) := ok_cge dX11_tile_43 (by decide)
theorem k_150_46 : mOk M_150.1 M_150.2.1 M_150.2.2.1 M_150.2.2.2 46 (o_il 4 2) := ok_iload dX11_tile_46
theorem k_150_48 : mOk M_150.1 M_150.2.1 M_150.2.2.1 M_150.2.2.2 48 (oS 1 (s_push (.int 1))) := ok_iconst dX11_tile_48 (by decide)
theorem k_150_49 : mOk M_150.1 M_150.2.1 M_150.2.2.1 M_150.2.2.2 49 (o_il 2 1) := ok_iload_n dX11_tile_49 rfl
theorem k_150_50 : mOk M_150.1 M_150.2.1 M_150.2.2.1 M_150.2.2.2 50 (oS 1 (s_ii (fun a b => a <<< (b &&& 31)))) := ok_ishl dX11_tile_50
theorem k_150_51 : mOk M_150.1 M_150.2.1 M_150.2.2.1 M_150.2.2.2 51 (o_clt 57) := ok_clt dX11_tile_51 (by decide)
theorem k_150_54 : mOk M_150.1 M_150.2.1 M_150.2.2.1 M_150.2.2.2 54 (oS 1 (s_push (.int 0))) := ok_iconst dX11_tile_54 (by decide)
theorem k_150_55 : mOk M_150.1 M_150.2.1 M_150.2.2.1 M_150.2.2.2 55 (o_is 5 2) := ok_istore dX11_tile_55
theorem k_150_57 : mOk M_150.1 M_150.2.1 M_150.2.2.1 M_150.2.2.2 57 (o_al 0 1) := ok_aload_n dX11_tile_57 rfl
theorem k_150_58 : mOk M_150.1 M_150.2.1 M_150.2.2.1 M_150.2.2.2 58 (o_il 5 2) := ok_iload dX11_tile_58
theorem k_150_60 : mOk M_150.1 M_150.2.1 M_150.2.2.1 M_150.2.2.2 60 (o_zeq 67) := ok_zeq dX11_tile_60 (by decide)
theorem k_150_63 : mOk M_150.1 M_150.2.1 M_150.2.2.1 M_150.2.2.2 63 (oS 1 (s_push (.int 0))) := ok_iconst dX11_tile_63 (by decide)
theorem k_150_64 : mOk M_150.1 M_150.2.1 M_150.2.2.1 M_150.2.2.2 64 (o_goto 68) := ok_goto dX11_tile_64 (by decide)
theorem k_150_67 : mOk M_150.1 M_150.2.1 M_150.2.2.1 M_150.2.2.2 67 (oS 1 (s_push (.int 1))) := ok_iconst dX11_tile_67 (by decide)
theorem k_150_68 : mOk M_150.1 M_150.2.1 M_150.2.2.1 M_150.2.2.2 68 (o_pI 11 13) := ok_pI dX11_tile_68 (mFw_of f_RX11_133_c (Or.inl rfl)) rfl
theorem k_150_71 : mOk M_150.1 M_150.2.1 M_150.2.2.1 M_150.2.2.2 71 (o_al 0 1) := ok_aload_n dX11_tile_71 rfl
theorem k_150_72 : mOk M_150.1 M_150.2.1 M_150.2.2.1 M_150.2.2.2 72 (o_gI 11 13) := ok_gI dX11_tile_72 f_RX11_133 (Or.inl rfl)
theorem k_150_75 : mOk M_150.1 M_150.2.1 M_150.2.2.1 M_150.2.2.2 75 (o_zeq 80) := ok_zeq dX11_tile_75 (by decide)
theorem k_150_78 : mOk M_150.1 M_150.2.1 M_150.2.2.1 M_150.2.2.2 78 (oS 1 (s_push (.int 0))) := ok_iconst dX11_tile_78 (by decide)
theorem k_150_80 : mOk M_150.1 M_150.2.1 M_150.2.2.1 M_150.2.2.2 80 (o_al 0 1) := ok_aload_n dX11_tile_80 rfl
theorem k_150_81 : mOk M_150.1 M_150.2.1 M_150.2.2.1 M_150.2.2.2 81 (o_al 0 1) := ok_aload_n dX11_tile_81 rfl
theorem k_150_82 : mOk M_150.1 M_150.2.1 M_150.2.2.1 M_150.2.2.2 82 (o_il 1 1) := ok_iload_n dX11_tile_82 rfl
theorem k_150_86 : mOk M_150.1 M_150.2.1 M_150.2.2.1 M_150.2.2.2 86 (o_il 2 1) := ok_iload_n dX11_tile_86 rfl
theorem k_150_87 : mOk M_150.1 M_150.2.1 M_150.2.2.1 M_150.2.2.2 87 (o_il 3 1) := ok_iload_n dX11_tile_87 rfl
theorem k_150_88 : mOk M_150.1 M_150.2.1 M_150.2.2.1 M_150.2.2.2 88 (o_il 4 2) := ok_iload dX11_tile_88
theorem k_150_93 : mOk M_150.1 M_150.2.1 M_150.2.2.1 M_150.2.2.2 93 (o_al 0 1) := ok_aload_n dX11_tile_93 rfl
theorem k_150_94 : mOk M_150.1 M_150.2.1 M_150.2.2.1 M_150.2.2.2 94 (o_al 0 1) := ok_aload_n dX11_tile_94 rfl
theorem k_150_95 : mOk M_150.1 M_150.2.1 M_150.2.2.1 M_150.2.2.2 95 (o_gI 11 37) := ok_gI dX11_tile_95 f_RX11_240 (Or.inl rfl)
theorem k_150_98 : mOk M_150.1 M_150.2.1 M_150.2.2.1 M_150.2.2.2 98 (o_pI 11 39) := ok_pI dX11_tile_98 (mFw_of f_RX11_267_c (Or.inl rfl)) rfl
theorem k_150_101 : mOk M_150.1 M_150.2.1 M_150.2.2.1 M_150.2.2.2 101 (oS 1 (s_push (.int 0))) := ok_iconst dX11_tile_101 (by decide)
theorem k_150_102 : mOk M_150.1 M_150.2.1 M_150.2.2.1 M_150.2.2.2 102 (o_is 6 2) := ok_istore dX11_tile_102
theorem k_150_104 : mOk M_150.1 M_150.2.1 M_150.2.2.1 M_150.2.2.2 104 (o_il 6 2) := ok_iload dX11_tile_104
theorem k_150_106 : mOk M_150.1 M_150.2.1 M_150.2.2.1 M_150.2.2.2 106 (o_al 0 1) := ok_aload_n dX11_tile_106 rfl
theorem k_150_107 : mOk M_150.1 M_150.2.1 M_150.2.2.1 M_150.2.2.2 107 (o_gI 11 37) := ok_gI dX11_tile_107 f_RX11_240 (Or.inl rfl)
theorem k_150_110 : mOk M_150.1 M_150.2.1 M_150.2.2.1 M_150.2.2.2 110 (o_cge 133) := ok_cge dX11_tile_110 (by decide)
theorem k_150_113 : mOk M_150.1 M_150.2.1 M_150.2.2.1 M_150.2.2.2 113 (o_al 0 1) := ok_aload_n dX11_tile_113 rfl
theorem k_150_114 : mOk M_150.1 M_150.2.1 M_150.2.2.1 M_150.2.2.2 114 (o_gP 11 38) := ok_gP dX11_tile_114 f_RX11_109 rfl
theorem k_150_117 : mOk M_150.1 M_150.2.1 M_150.2.2.1 M_150.2.2.2 117 (o_il 6 2) := ok_iload dX11_tile_117
theorem k_150_119 : mOk M_150.1 M_150.2.1 M_150.2.2.1 M_150.2.2.2 119 (o_al 0 1) := ok_aload_n dX11_tile_119 rfl
theorem k_150_120 : mOk M_150.1 M_150.2.1 M_150.2.2.1 M_150.2.2.2 120 (o_gP 11 36) := ok_gP dX11_tile_120 f_RX11_106 rfl
theorem k_150_123 : mOk M_150.1 M_150.2.1 M_150.2.2.1 M_150.2.2.2 123 (o_il 6 2) := ok_iload dX11_tile_123
theorem k_150_125 : mOk M_150.1 M_150.2.1 M_150.2.2.1 M_150.2.2.2 125 (o_iald) := ok_iald dX11_tile_125
theorem k_150_126 : mOk M_150.1 M_150.2.1 M_150.2.2.1 M_150.2.2.2 126 (o_iast) := ok_iast dX11_tile_126
theorem k_150_127 : mOk M_150.1 M_150.2.1 M_150.2.2.1 M_150.2.2.2 127 (o_inc 6 1) := ok_iinc dX11_tile_127 (by decide)
theorem k_150_130 : mOk M_150.1 M_150.2.1 M_150.2.2.1 M_150.2.2.2 130 (o_goto 104) := ok_goto dX11_tile_130 (by decide)
theorem k_150_133 : mOk M_150.1 M_150.2.1 M_150.2.2.1 M_150.2.2.2 133 (o_al 0 1) := ok_aload_n dX11_tile_133 rfl
theorem k_150_134 : mOk M_150.1 M_150.2.1 M_150.2.2.1 M_150.2.2.2 134 (o_gI 11 39) := ok_gI dX11_tile_134 f_RX11_267 (Or.inl rfl)
set_option maxRecDepth 20000 in
set_option maxHeartbeats 4000000 in
theorem tk_150 (l : Launch) (H9 : mThr l) (H10 : mSpl l) (pc : Nat) (q : mEnt) (h : tb_150 pc = some q) : EE l 150 pc q := nd h (fun h => nd h (fun h => nd h (fun h => nd h (fun h => nd h (fun h => nd h (fun h => lf (P := EE l 150) h k_150_0) (fun h => lf (P := EE l 150) h k_150_1)) (fun h => nd h (fun h => lf (P := EE l 150) h (EE_ca (by decide) (⟨m_1276, m_81, ⟨by decide, by decide⟩, by decide +kernel, ⟨by decide, by decide⟩, 260, 1, by decide +kernel, Or.inr (Or.inr (Or.inl ⟨rfl, rfl, dX11_tile_2, m_1273, m_1275, _, rfl, by decide, m_36⟩))⟩) rfl)) (fun h => lf (P := EE l 150) h k_150_5))) (fun h => nd h (fun h => nd h (fun h => lf (P := EE l 150) h k_150_6) (fun h => lf (P := EE l 150) h k_150_9)) (fun h => nd h (fun h => lf (P := EE l 150) h k_150_10) (fun h => nd h (fun h => lf (P := EE l 150) h k_150_11) (fun h => lf (P := EE l 150) h (EE_ca (by decide) (⟨m_1222, m_81, ⟨by decide, by decide⟩, by decide +kernel, ⟨by decide, by decide⟩, 137, 3, by decide +kernel, Or.inl ⟨rfl, rfl, dX11_tile_12, m_1220, m_1221⟩⟩) rfl)))))) (fun h => nd h (fun h => nd h (fun h => nd h (fun h => lf (P := EE l 150) h k_150_15) (fun h => lf (P := EE l 150) h k_150_18)) (fun h => nd h (fun h => lf (P := EE l 150) h k_150_19) (fun h => lf (P := EE l 150) h k_150_22))) (fun h => nd h (fun h => nd h (fun h => lf (P := EE l 150) h k_150_24) (fun h => lf (P := EE l 150) h k_150_27)) (fun h => nd h (fun h => lf (P := EE l 150) h k_150_28) (fun h => nd h (fun h => lf (P := EE l 150) h k_150_31) (fun h => lf (P := EE l 150) h k_150_32)))))) (fun h => nd h (fun h => nd h (fun h => nd h (fun h => nd h (fun h => lf (P := EE l 150) h k_150_34) (fun h => lf (P := EE l 150) h k_150_36)) (fun h => nd h (fun h => lf (P := EE l 150) h k_150_39) (fun h => lf (P := EE l 150) h k_150_40))) (fun h => nd h (fun h => nd h (fun h => lf (P := EE l 150) h k_150_41) (fun h => lf (P := EE l 150) h k_150_42)) (fun h => nd h (fun h => lf (P := EE l 150) h k_150_43) (fun h => nd h (fun h => lf (P := EE l 150) h k_150_46) (fun h => lf (P := EE l 150) h k_150_48))))) (fun h => nd h (fun h => nd h (fun h => nd h (fun h => lf (P := EE l 150) h k_150_49) (fun h => lf (P := EE l 150) h k_150_50)) (fun h => nd h (fun h => lf (P := EE l 150) h k_150_51) (fun h => nd h (fun h => lf (P := EE l 150) h k_150_54) (fun h => lf (P := EE l 150) h k_150_55)))) (fun h => nd h (fun h => nd h (fun h => lf (P := EE l 150) h k_150_57) (fun h => lf (P := EE l 150) h k_150_58)) (fun h => nd h (fun h => lf (P := EE l 150) h k_150_60) (fun h => nd h (fun h => lf (P := EE l 150) h k_150_63) (fun h => lf (P := EE l 150) h k_150_64))))))) (fun h => nd h (fun h => nd h (fun h => nd h (fun h => nd h (fun h => nd h (fun h => lf (P := EE l 150) h k_150_67) (fun h => lf (P := EE l 150) h k_150_68)) (fun h => nd h (fun h => lf (P := EE l 150) h k_150_71) (fun h => lf (P := EE l 150) h k_150_72))) (fun h => nd h (fun h => nd h (fun h => lf (P := EE l 150) h k_150_75) (fun h => lf (P := EE l 150) h k_150_78)) (fun h => nd h (fun h => lf (P := EE l 150) h (EE_re (Or.inl ⟨rfl, dX11_tile_79, rfl⟩))) (fun h => nd h (fun h => lf (P := EE l 150) h k_150_80) (fun h => lf (P := EE l 150) h k_150_81))))) (fun h => nd h (fun h => nd h (fun h => nd h (fun h => lf (P := EE l 150) h k_150_82) (fun h => lf (P := EE l 150) h (EE_ca (by decide) (⟨m_1276, m_81, ⟨by decide, by decide⟩, by decide +kernel, ⟨by decide, by decide⟩, 260, 1, by decide +kernel, Or.inr (Or.inr (Or.inl ⟨rfl, rfl, dX11_tile_83, m_1273, m_1275, _, rfl, by decide, m_36⟩))⟩) rfl))) (fun h => nd h (fun h => lf (P := EE l 150) h k_150_86) (fun h => nd h (fun h => lf (P := EE l 150) h k_150_87) (fun h => lf (P := EE l 150) h k_150_88)))) (fun h => nd h (fun h => nd h (fun h => lf (P := EE l 150) h (EE_ca (by decide) (⟨m_1280, m_81, ⟨by decide, by decide⟩, by decide +kernel, ⟨by decide, by decide⟩, 264, 4, by decide +kernel, Or.inr (Or.inr (Or.inl ⟨rfl, rfl, dX11_tile_90, m_1277, m_1279, _, rfl, by decide, m_37⟩))⟩) rfl)) (fun h => lf (P := EE l 150) h k_150_93)) (fun h => nd h (fun h => lf (P := EE l 150) h k_150_94) (fun h => nd h (fun h => lf (P := EE l 150) h k_150_95) (fun h => lf (P := EE l 150) h k_150_98)))))) (fun h => nd h (fun h => nd h (fun h => nd h (fun h => nd h (fun h => lf (P := EE l 150) h k_150_101) (fun h => lf (P := EE l 150) h k_150_102)) (fun h => nd h (fun h => lf (P := EE l 150) h k_150_104) (fun h => lf (P := EE l 150) h k_150_106))) (fun h => nd h (fun h => nd h (fun h => lf (P := EE l 150) h k_150_107) (fun h => lf (P := EE l 150) h k_150_110)) (fun h => nd h (fun h => lf (P := EE l 150) h k_150_113) (fun h => nd h (fun h => lf (P := EE l 150) h k_150_114) (fun h => lf (P := EE l 150) h k_150_117))))) (fun h => nd h (fun h => nd h (fun h => nd h (fun h => lf (P := EE l 150) h k_150_119) (fun h => lf (P := EE l 150) h k_150_120)) (fun h => nd h (fun h => lf (P := EE l 150) h k_150_123) (fun h => nd h (fun h => lf (P := EE l 150) h k_150_125) (fun h => lf (P := EE l 150) h k_150_126)))) (fun h => nd h (fun h => nd h (fun h => lf (P := EE l 150) h k_150_127) (fun h => lf (P := EE l 150) h k_150_130)) (fun h => nd h (fun h => lf (P := EE l 150) h k_150_133) (fun h => nd h (fun h => lf (P := EE l 150) h k_150_134) (fun h => lf (P := EE l 150) h (EE_re (Or.inl ⟨rfl, dX11_tile_137, rfl⟩)))))))))
theorem dX11_octet_0 : decode cX11_octet 0 = .ok (.aload_n 0, 1) := by decide +kernel
theorem dX11_octet_1 : decode cX11_octet 1 = .ok (.iconst 0, 1) := by decide +kernel
theorem dX11_octet_2 : decode cX11_octet 2 = .ok (.putfield 133, 3) := by decide +kernel
theorem dX11_octet_5 : decode cX11_octet 5 = .ok (.iload_n 1, 1) := by decide +kernel
theorem dX11_octet_6 : decode cX11_octet 6 = .ok (.ifCond .lt 11, 3) := by decide +kernel
theorem dX11_octet_9 : decode cX11_octet 9 = .ok (.iload_n 1, 1) := by decide +kernel
theorem dX11_octet_10 : decode cX11_octet 10 = .ok (.aload_n 0, 1) := by decide +kernel
theorem dX11_octet_11 : decode cX11_octet 11 = .ok (.getfield 267, 3) := by decide +kernel
theorem dX11_octet_14 : decode cX11_octet 14 = .ok (.if_icmp .lt 7, 3) := by decide +kernel
theorem dX11_octet_17 : decode cX11_octet 17 = .ok (.iconst (-1), 1) := by decide +kernel
theorem dX11_octet_18 : decode cX11_octet 18 = .ok (.goto 9, 3) := by decide +kernel
theorem dX11_octet_21 : decode cX11_octet 21 = .ok (.aload_n 0, 1) := by decide +kernel
theorem dX11_octet_22 : decode cX11_octet 22 = .ok (.getfield 109, 3) := by decide +kernel
theorem dX11_octet_25 : decode cX11_octet 25 = .ok (.iload_n 1, 1) := by decide +kernel
theorem dX11_octet_26 : decode cX11_octet 26 = .ok (.iaload, 1) := by decide +kernel
theorem dX11_octet_27 : decode cX11_octet 27 = .ok (.ireturn, 1) := by decide +kernel
def tb_151 (pc : Nat) : Option mEnt := bif Nat.ble pc 11 then (bif Nat.ble pc 5 then (bif Nat.ble pc 1 then (bif Nat.ble pc 0 then (bif Nat.beq pc 0 then some (.inl (o_al 0 1)) else none) else (bif Nat.beq pc 1 then some (.inl (oS 1 (s_push (.int 0)))) else none)) else (bif Nat.ble pc 2 then (bif Nat.beq pc 2 then some (.inl (o_pI 11 13)) else none) else (bif Nat.beq pc 5 then some (.inl (o_il 1 1)) else none))) else (bif Nat.ble pc 9 then (bif Nat.ble pc 6 then (bif Nat.beq pc 6 then some (.inl (o_zlt 17)) else none) else (bif Nat.beq pc 9 then some (.inl (o_il 1 1)) else none)) else (bif Nat.ble pc 10 then (bif Nat.beq pc 10 then some (.inl (o_al 0 1)) else none) else (bif Nat.beq pc 11 then some (.inl (o_gI 11 39)) else none)))) else (bif Nat.ble pc 21 then (bif Nat.ble pc 17 then (bif Nat.ble pc 14 then (bif Nat.beq pc 14 then some (.inl (o_clt 21)) else none) else (bif Nat.beq pc 17 then some (.inl (oS 1 (s_push (.int (-1))))) else none)) else (bif Nat.ble pc 18 then (bif Nat.beq pc 18 then some (.inl (o_goto 27)) else none) else (bif Nat.beq pc 21 then some (.inl (o_al 0 1)) else none))) else (bif Nat.ble pc 25 then (bif Nat.ble pc 22 then (bif Nat.beq pc 22 then some (.inl (o_gP 11 38)) else none) else (bif Nat.beq pc 25 then some (.inl (o_il 1 1)) else none)) else (bif Nat.ble pc 26 then (bif Nat.beq pc 26 then some (.inl (o_iald)) else none) else (bif Nat.beq pc 27 then some (.inr (0, 0, 0, 0)) else none))))
theorem k_151_0 : mOk M_151.1 M_151.2.1 M_151.2.2.1 M_151.2.2.2 0 (o_al 0 1) := ok_aload_n dX11_octet_0 rfl
theorem k_151_1 : mOk M_151.1 M_151.2.1 M_151.2.2.1 M_151.2.2.2 1 (oS 1 (s_push (.int 0))) := ok_iconst dX11_octet_1 (by decide)
theorem k_151_2 : mOk M_151.1 M_151.2.1 M_151.2.2.1 M_151.2.2.2 2 (o_pI 11 13) := ok_pI dX11_octet_2 (mFw_of f_RX11_133_c (Or.inl rfl)) rfl
theorem k_151_5 : mOk M_151.1 M_151.2.1 M_151.2.2.1 M_151.2.2.2 5 (o_il 1 1) := ok_iload_n dX11_octet_5 rfl
theorem k_151_6 : mOk M_151.1 M_151.2.1 M_151.2.2.1 M_151.2.2.2 6 (o_zlt 17) := ok_zlt dX11_octet_6 (by decide)
theorem k_151_9 : mOk M_151.1 M_151.2.1 M_151.2.2.1 M_151.2.2.2 9 (o_il 1 1) := ok_iload_n dX11_octet_9 rfl
theorem k_151_10 : mOk M_151.1 M_151.2.1 M_151.2.2.1 M_151.2.2.2 10 (o_al 0 1) := ok_aload_n dX11_octet_10 rfl
theorem k_151_11 : mOk M_151.1 M_151.2.1 M_151.2.2.1 M_151.2.2.2 11 (o_gI 11 39) := ok_gI dX11_octet_11 f_RX11_267 (Or.inl rfl)
theorem k_151_14 : mOk M_151.1 M_151.2.1 M_151.2.2.1 M_151.2.2.2 14 (o_clt 21) := ok_clt dX11_octet_14 (by decide)
theorem k_151_17 : mOk M_151.1 M_151.2.1 M_151.2.2.1 M_151.2.2.2 17 (oS 1 (s_push (.int (-1)))) := ok_iconst dX11_octet_17 (by decide)
theorem k_151_18 : mOk M_151.1 M_151.2.1 M_151.2.2.1 M_151.2.2.2 18 (o_goto 27) := ok_goto dX11_octet_18 (by decide)
theorem k_151_21 : mOk M_151.1 M_151.2.1 M_151.2.2.1 M_151.2.2.2 21 (o_al 0 1) := ok_aload_n dX11_octet_21 rfl
theorem k_151_22 : mOk M_151.1 M_151.2.1 M_151.2.2.1 M_151.2.2.2 22 (o_gP 11 38) := ok_gP dX11_octet_22 f_RX11_109 rfl
theorem k_151_25 : mOk M_151.1 M_151.2.1 M_151.2.2.1 M_151.2.2.2 25 (o_il 1 1) := ok_iload_n dX11_octet_25 rfl
theorem k_151_26 : mOk M_151.1 M_151.2.1 M_151.2.2.1 M_151.2.2.2 26 (o_iald) := ok_iald dX11_octet_26
set_option maxRecDepth 20000 in
set_option maxHeartbeats 4000000 in
theorem tk_151 (l : Launch) (H9 : mThr l) (H10 : mSpl l) (pc : Nat) (q : mEnt) (h : tb_151 pc = some q) : EE l 151 pc q := nd h (fun h => nd h (fun h => nd h (fun h => nd h (fun h => lf (P := EE l 151) h k_151_0) (fun h => lf (P := EE l 151) h k_151_1)) (fun h => nd h (fun h => lf (P := EE l 151) h k_151_2) (fun h => lf (P := EE l 151) h k_151_5))) (fun h => nd h (fun h => nd h (fun h => lf (P := EE l 151) h k_151_6) (fun h => lf (P := EE l 151) h k_151_9)) (fun h => nd h (fun h => lf (P := EE l 151) h k_151_10) (fun h => lf (P := EE l 151) h k_151_11)))) (fun h => nd h (fun h => nd h (fun h => nd h (fun h => lf (P := EE l 151) h k_151_14) (fun h => lf (P := EE l 151) h k_151_17)) (fun h => nd h (fun h => lf (P := EE l 151) h k_151_18) (fun h => lf (P := EE l 151) h k_151_21))) (fun h => nd h (fun h => nd h (fun h => lf (P := EE l 151) h k_151_22) (fun h => lf (P := EE l 151) h k_151_25)) (fun h => nd h (fun h => lf (P := EE l 151) h k_151_26) (fun h => lf (P := EE l 151) h (EE_re (Or.inl ⟨rfl, dX11_octet_27, rfl⟩))))))
theorem dX11_region_0 : decode cX11_region 0 = .ok (.iload_n 1, 1) := by decide +kernel
theorem dX11_region_1 : decode cX11_region 1 = .ok (.invokestatic 141, 3) := by decide +kernel
theorem dX11_region_4 : decode cX11_region 4 = .ok (.ifCond .eq 50, 3) := by decide +kernel
theorem dX11_region_7 : decode cX11_region 7 = .ok (.iload_n 2, 1) := by decide +kernel
theorem dX11_region_8 : decode cX11_region 8 = .ok (.invokestatic 141, 3) := by decide +kernel
theorem dX11_region_11 : decode cX11_region 11 = .ok (.ifCond .eq 43, 3) := by decide +kernel
theorem dX11_region_14 : decode cX11_region 14 = .ok (.iload_n 3, 1) := by decide +kernel
theorem dX11_region_15 : decode cX11_region 15 = .ok (.invokestatic 141, 3) := by decide +kernel
theorem dX11_region_18 : decode cX11_region 18 = .ok (.ifCond .eq 36, 3) := by decide +kernel
theorem dX11_region_21 : decode cX11_region 21 = .ok (.iload 4, 2) := by decide +kernel
theorem dX11_region_23 : decode cX11_region 23 = .ok (.invokestatic 141, 3) := by decide +kernel
theorem dX11_region_26 : decode cX11_region 26 = .ok (.ifCond .eq 28, 3) := by decide +kernel
theorem dX11_region_29 : decode cX11_region 29 = .ok (.iload_n 1, 1) := by decide +kernel
theorem dX11_region_30 : decode cX11_region 30 = .ok (.iload_n 3, 1) := by decide +kernel
theorem dX11_region_31 : decode cX11_region 31 = .ok (.if_icmp .gt 23, 3) := by decide +kernel
theorem dX11_region_34 : decode cX11_region 34 = .ok (.iload_n 2, 1) := by decide +kernel
theorem dX11_region_35 : decode cX11_region 35 = .ok (.iload 4, 2) := by decide +kernel
theorem dX11_region_37 : decode cX11_region 37 = .ok (.if_icmp .gt 17, 3) := by decide +kernel
theorem dX11_region_40 : decode cX11_region 40 = .ok (.iload 5, 2) := by decide +kernel
theorem dX11_region_42 : decode cX11_region 42 = .ok (.iconst 0, 1) := by decide +kernel
theorem dX11_region_43 : decode cX11_region 43 = .ok (.iconst 4, 1) := by decide +kernel
theorem dX11_region_44 : decode cX11_region 44 = .ok (.invokestatic 137, 3) := by decide +kernel
theorem dX11_region_47 : decode cX11_region 47 = .ok (.ifCond .eq 7, 3) := by decide +kernel
theorem dX11_region_50 : decode cX11_region 50 = .ok (.iconst 1, 1) := by decide +kernel
theorem dX11_region_51 : decode cX11_region 51 = .ok (.goto 4, 3) := by decide +kernel
theorem dX11_region_54 : decode cX11_region 54 = .ok (.iconst 0, 1) := by decide +kernel
theorem dX11_region_55 : decode cX11_region 55 = .ok (.istore 6, 2) := by decide +kernel
theorem dX11_region_57 : decode cX11_region 57 = .ok (.aload_n 0, 1) := by decide +kernel
theorem dX11_region_58 : decode cX11_region 58 = .ok (.iload 6, 2) := by decide +kernel
theorem dX11_region_60 : decode cX11_region 60 = .ok (.ifCond .eq 7, 3) := by decide +kernel
theorem dX11_region_63 : decode cX11_region 63 = .ok (.iconst 0, 1) := by decide +kernel
theorem dX11_region_64 : decode cX11_region 64 = .ok (.goto 4, 3) := by decide +kernel
theorem dX11_region_67 : decode cX11_region 67 = .ok (.iconst 1, 1) := by decide +kernel
theorem dX11_region_68 : decode cX11_region 68 = .ok (.putfield 133, 3) := by decide +kernel
theorem dX11_region_71 : decode cX11_region 71 = .ok (.aload_n 0, 1) := by decide +kernel
theorem dX11_region_72 : decode cX11_region 72 = .ok (.getfield 133, 3) := by decide +kernel
theorem dX11_region_75 : decode cX11_region 75 = .ok (.ifCond .eq 4, 3) := by decide +kernel
theorem dX11_region_78 : decode cX11_region 78 = .ok (.return_, 1) := by decide +kernel
theorem dX11_region_79 : decode cX11_region 79 = .ok (.aload_n 0, 1) := by decide +kernel
theorem dX11_region_80 : decode cX11_region 80 = .ok (.getfield 44, 3) := by decide +kernel
theorem dX11_region_83 : decode cX11_region 83 = .ok (.iconst 0, 1) := by decide +kernel
theorem dX11_region_84 : decode cX11_region 84 = .ok (.iload_n 1, 1) := by decide +kernel
theorem dX11_region_85 : decode cX11_region 85 = .ok (.iastore, 1) := by decide +kernel
theorem dX11_region_86 : decode cX11_region 86 = .ok (.aload_n 0, 1) := by decide +kernel
theorem dX11_region_87 : decode cX11_region 87 = .ok (.getfield 44, 3) := by decide +kernel
theorem dX11_region_90 : decode cX11_region 90 = .ok (.iconst 1, 1) := by decide +kernel
theorem dX11_region_91 : decode cX11_region 91 = .ok (.iload_n 2, 1) := by decide +kernel
theorem dX11_region_92 : decode cX11_region 92 = .ok (.iastore, 1) := by decide +kernel
theorem dX11_region_93 : decode cX11_region 93 = .ok (.aload_n 0, 1) := by decide +kernel
theorem dX11_region_94 : decode cX11_region 94 = .ok (.getfield 44, 3) := by decide +kernel
theorem dX11_region_97 : decode cX11_region 97 = .ok (.iconst 2, 1) := by decide +kernel
theorem dX11_region_98 : decode cX11_region 98 = .ok (.iload_n 3, 1) := by decide +kernel
theorem dX11_region_99 : decode cX11_region 99 = .ok (.iastore, 1) := by decide +kernel
theorem dX11_region_100 : decode cX11_region 100 = .ok (.aload_n 0, 1) := by decide +kernel
theorem dX11_region_101 : decode cX11_region 101 = .ok (.getfield 44, 3) := by decide +kernel
theorem dX11_region_104 : decode cX11_region 104 = .ok (.iconst 3, 1) := by decide +kernel
theorem dX11_region_105 : decode cX11_region 105 = .ok (.iload 4, 2) := by decide +kernel
theorem dX11_region_107 : decode cX11_region 107 = .ok (.iastore, 1) := by decide +kernel
theorem dX11_region_108 : decode cX11_region 108 = .ok (.aload_n 0, 1) := by decide +kernel
theorem dX11_region_109 : decode cX11_region 109 = .ok (.getfield 44, 3) := by decide +kernel
theorem dX11_region_112 : decode cX11_region 112 = .ok (.iconst 4, 1) := by decide +kernel
theorem dX11_region_113 : decode cX11_region 113 = .ok (.iload 5, 2) := by decide +kernel
theorem dX11_region_115 : decode cX11_region 115 = .ok (.iastore, 1) := by decide +kernel
theorem dX11_region_116 : decode cX11_region 116 = .ok (.aload_n 0, 1) := by decide +kernel
theorem dX11_region_117 : decode cX11_region 117 = .ok (.iconst 1, 1) := by decide +kernel
theorem dX11_region_118 : decode cX11_region 118 = .ok (.putfield 270, 3) := by decide +kernel
theorem dX11_region_121 : decode cX11_region 121 = .ok (.aload_n 0, 1) := by decide +kernel
theorem dX11_region_122 : decode cX11_region 122 = .ok (.iconst 0, 1) := by decide +kernel
theorem dX11_region_123 : decode cX11_region 123 = .ok (.putfield 274, 3) := by decide +kernel
theorem dX11_region_126 : decode cX11_region 126 = .ok (.return_, 1) := by decide +kernel
def tb_152 (pc : Nat) : Option mEnt := bif Nat.ble pc 71 then (bif Nat.ble pc 35 then (bif Nat.ble pc 15 then (bif Nat.ble pc 7 then (bif Nat.ble pc 1 then (bif Nat.ble pc 0 then (bif Nat.beq pc 0 then some (.inl (o_il 1 1)) else none) else (bif Nat.beq pc 1 then some (.inr (2, 116, 1, 0)) else none)) else (bif Nat.ble pc 4 then (bif Nat.beq pc 4 then some (.inl (o_zeq 54)) else none) else (bif Nat.beq pc 7 then some (.inl (o_il 2 1)) else none))) else (bif Nat.ble pc 11 then (bif Nat.ble pc 8 then (bif Nat.beq pc 8 then some (.inr (2, 116, 1, 0)) else none) else (bif Nat.beq pc 11 then some (.inl (o_zeq 54)) else none)) else (bif Nat.ble pc 14 then (bif Nat.beq pc 14 then some (.inl (o_il 3 1)) else none) else (bif Nat.beq pc 15 then some (.inr (2, 116, 1, 0)) else none)))) else (bif Nat.ble pc 26 then (bif Nat.ble pc 21 then (bif Nat.ble pc 18 then (bif Nat.beq pc 18 then some (.inl (o_zeq 54)) else none) else (bif Nat.beq pc 21 then some (.inl (o_il 4 2)) else none)) else (bif Nat.ble pc 23 then (bif Nat.beq pc 23 then some (.inr (2, 116, 1, 0)) else none) else (bif Nat.beq pc 26 then some (.inl (o_zeq 54)) else none))) else (bif Nat.ble pc 30 then (bif Nat.ble pc 29 then (bif Nat.beq pc 29 then some (.inl (o_il 1 1)) else none) else (bif Nat.beq pc 30 then some (.inl (o_il 3 1)) else none)) else (bif Nat.ble pc 31 then (bif Nat.beq pc 31 then some (.inl (o_cgt 54)) else none) else (bif Nat.ble pc 34 then (bif Nat.beq pc 34 then some (.inl (o_il 2 1)) else none) else (bif Nat.beq pc 35 then some (.inl (o_il 4 2)) else none)))))) else (bif Nat.ble pc 54 then (bif Nat.ble pc 43 then (bif Nat.ble pc 40 then (bif Nat.ble pc 37 then (bif Nat.beq pc 37 then some (.inl (o_cgt 54)) else none) else (bif Nat.beq pc 40 then some (.inl (o_il 5 2)) else none)) else (bif Nat.ble pc 42 then (bif Nat.beq pc 42 then some (.inl (oS 1 (s_push (.int 0)))) else none) else (bif Nat.beq pc 43 then some (.inl (oS 1 (s_push (.int 4)))) else none))) else (bif Nat.ble pc 47 then (bif Nat.ble pc 44 then (bif Nat.beq pc 44 then some (.inr (2, 115, 3, 0)) else none) else (bif Nat.beq pc 47 then some (.inl (o_zeq 54)) else none)) else (bif Nat.ble pc 50 then (bif Nat.beq pc 50 then some (.inl (oS 1 (s_push (.int 1)))) else none) else (bif Nat.ble pc 51 then (bif Nat.beq pc 51 then some (.inl (o_goto 55)) else none) else (bif Nat.beq pc 54 then some (.inl (oS 1 (s_push (.int 0)))) else none))))) else (bif Nat.ble pc 60 then (bif Nat.ble pc 57 then (bif Nat.ble pc 55 then (bif Nat.beq pc 55 then some (.inl (o_is 6 2)) else none) else (bif Nat.beq pc 57 then some (.inl (o_al 0 1)) else none)) else (bif Nat.ble pc 58 then (bif Nat.beq pc 58 then some (.inl (o_il 6 2)) else none) else (bif Nat.beq pc 60 then some (.inl (o_zeq 67)) else none))) else (bif Nat.ble pc 64 then (bif Nat.ble pc 63 then (bif Nat.beq pc 63 then some (.inl (oS 1 (s_push (.int 0)))) else none) else (bif Nat.beq pc 64 then some (.inl (o_goto 68)) else none)) else (bif Nat.ble pc 67 then (bif Nat.beq pc 67 then some (.inl (oS 1 (s_push (.int 1)))) else none) else (bif Nat.ble pc 68 then (bif Nat.beq pc 68 then some (.inl (o_pI 11 13)) else none) else (bif Nat.beq pc 71 then some (.inl (o_al 0 1)) else none))))))) else (bif Nat.ble pc 98 then (bif Nat.ble pc 85 then (bif Nat.ble pc 79 then (bif Nat.ble pc 75 then (bif Nat.ble pc 72 then (bif Nat.beq pc 72 then some (.inl (o_gI 11 13)) else none) else (bif Nat.beq pc 75 then some (.inl (o_zeq 79)) else none)) else (bif Nat.ble pc 78 then (bif Nat.beq pc 78 then some (.inr (0, 0, 0, 3)) else none) else (bif Nat.beq pc 79 then some (.inl (o_al 0 1)) else none))) else (bif Nat.ble pc 83 then (bif Nat.ble pc 80 then (bif Nat.beq pc 80 then some (.inl (o_gP 11 14)) else none) else (bif Nat.beq pc 83 then some (.inl (oS 1 (s_push (.int 0)))) else none)) else (bif Nat.ble pc 84 then (bif Nat.beq pc 84 then some (.inl (o_il 1 1)) else none) else (bif Nat.beq pc 85 then some (.inl (o_iast)) else none)))) else (bif Nat.ble pc 91 then (bif Nat.ble pc 87 then (bif Nat.ble pc 86 then (bif Nat.beq pc 86 then some (.inl (o_al 0 1)) else none) else (bif Nat.beq pc 87 then some (.inl (o_gP 11 14)) else none)) else (bif Nat.ble pc 90 then (bif Nat.beq pc 90 then some (.inl (oS 1 (s_push (.int 1)))) else none) else (bif Nat.beq pc 91 then some (.inl (o_il 2 1)) else none))) else (bif Nat.ble pc 93 then (bif Nat.ble pc 92 then (bif Nat.beq pc 92 then some (.inl (o_iast)) else none) else (bif Nat.beq pc 93 then some (.inl (o_al 0 1)) else none)) else (bif Nat.ble pc 94 then (bif Nat.beq pc 94 then some (.inl (o_gP 11 14)) else none) else (bif Nat.ble pc 97 then (bif Nat.beq pc 97 then some (.inl (oS 1 (s_push (.int 2)))) else none) else (bif Nat.beq pc 98 then some (.inl (o_il 3 1)) else none)))))) else (bif Nat.ble pc 112 then (bif Nat.ble pc 104 then (bif Nat.ble pc 100 then (bif Nat.ble pc 99 then (bif Nat.beq pc 99 then some (.inl (o_iast)) else none) else (bif Nat.beq pc 100 then some (.inl (o_al 0 1)) else none)) else (bif Nat.ble pc 101 then (bif Nat.beq pc 101 then some (.inl (o_gP 11 14)) else none) else (bif Nat.beq pc 104 then some (.inl (oS 1 (s_push (.int 3)))) else none))) else (bif Nat.ble pc 107 then (bif Nat.ble pc 105 then (bif Nat.beq pc 105 then some (.inl (o_il 4 2)) else none) else (bif Nat.beq pc 107 then some (.inl (o_iast)) else none)) else (bif Nat.ble pc 108 then (bif Nat.beq pc 108 then some (.inl (o_al 0 1)) else none) else (bif Nat.ble pc 109 then (bif Nat.beq pc 109 then some (.inl (o_gP 11 14)) else none) else (bif Nat.beq pc 112 then some (.inl (oS 1 (s_push (.int 4)))) else none))))) else (bif Nat.ble pc 117 then (bif Nat.ble pc 115 then (bif Nat.ble pc 113 then (bif Nat.beq pc 113 then some (.inl (o_il 5 2)) else none) else (bif Nat.beq pc 115 then some (.inl (o_iast)) else none)) else (bif Nat.ble pc 116 then (bif Nat.beq pc 116 then some (.inl (o_al 0 1)) else none) else (bif Nat.beq pc 117 then some (.inl (oS 1 (s_push (.int 1)))) else none))) else (bif Nat.ble pc 121 then (bif Nat.ble pc 118 then (bif Nat.beq pc 118 then some (.inl (o_pZ 11 15)) else none) else (bif Nat.beq pc 121 then some (.inl (o_al 0 1)) else none)) else (bif Nat.ble pc 122 then (bif Nat.beq pc 122 then some (.inl (oS 1 (s_push (.int 0)))) else none) else (bif Nat.ble pc 123 then (bif Nat.beq pc 123 then some (.inl (o_pZ 11 16)) else none) else (bif Nat.beq pc 126 then some (.inr (0, 0, 0, 3)) else none)))))))
theorem k_152_0 : mOk M_152.1 M_152.2.1 M_152.2.2.1 M_152.2.2.2 0 (o_il 1 1) := ok_iload_n dX11_region_0 rfl
theorem k_152_4 : mOk M_152.1 M_152.2.1 M_152.2.2.1 M_152.2.2.2 4 (o_zeq 54) := ok_zeq dX11_region_4 (by decide)
theorem k_152_7 : mOk M_152.1 M_152.2.1 M_152.2.2.1 M_152.2.2.2 7 (o_il 2 1) := ok_iload_n dX11_region_7 rfl
theorem k_152_11 : mOk M_152.1 M_152.2.1 M_152.2.2.1 M_152.2.2.2 11 (o_zeq 54) := ok_zeq dX11_region_11 (by decide)
theorem k_152_14 : mOk M_152.1 M_152.2.1 M_152.2.2.1 M_152.2.2.2 14 (o_il 3 1) := ok_iload_n dX11_region_14 rfl
theorem k_152_18 : mOk M_152.1 M_152.2.1 M_152.2.2.1 M_152.2.2.2 18 (o_zeq 54) := ok_zeq dX11_region_18 (by decide)
theorem k_152_21 : mOk M_152.1 M_152.2.1 M_152.2.2.1 M_152.2.2.2 21 (o_il 4 2) := ok_iload dX11_region_21
theorem k_152_26 : mOk M_152.1 M_152.2.1 M_152.2.2.1 M_152.2.2.2 26 (o_zeq 54) := ok_zeq dX11_region_26 (by decide)
theorem k_152_29 : mOk M_152.1 M_152.2.1 M_152.2.2.1 M_152.2.2.2 29 (o_il 1 1) := ok_iload_n dX11_region_29 rfl
theorem k_152_30 : mOk M_152.1 M_152.2.1 M_152.2.2.1 M_152.2.2.2 30 (o_il 3 1) := ok_iload_n dX11_region_30 rfl
theorem k_152_31 : mOk M_152.1 M_152.2.1 M_152.2.2.1 M_152.2.2.2 31 (o_cgt 54) := ok_cgt dX11_region_31 (by decide)
theorem k_152_34 : mOk M_152.1 M_152.2.1 M_152.2.2.1 M_152.2.2.2 34 (o_il 2 1) := ok_iload_n dX11_region_34 rfl
theorem k_152_35 : mOk M_152.1 M_152.2.1 M_152.2.2.1 M_152.2.2.2 35 (o_il 4 2) := ok_iload dX11_region_35
theorem k_152_37 : mOk M_152.1 M_152.2.1 M_152.2.2.1 M_152.2.2.2 37 (o_cgt 54) := ok_cgt dX11_region_37 (by decide)
theorem k_152_40 : mOk M_152.1 M_152.2.1 M_152.2.2.1 M_152.2.2.2 40 (o_il 5 2) := ok_iload dX11_region_40
theorem k_152_42 : mOk M_152.1 M_152.2.1 M_152.2.2.1 M_152.2.2.2 42 (oS 1 (s_push (.int 0))) := ok_iconst dX11_region_42 (by decide)
theorem k_152_43 : mOk M_152.1 M_152.2.1 M_152.2.2.1 M_152.2.2.2 43 (oS 1 (s_push (.int 4))) := ok_iconst dX11_region_43 (by decide)
theorem k_152_47 : mOk M_152.1 M_152.2.1 M_152.2.2.1 M_152.2.2.2 47 (o_zeq 54) := ok_zeq dX11_region_47 (by decide)
theorem k_152_50 : mOk M_152.1 M_152.2.1 M_152.2.2.1 M_152.2.2.2 50 (oS 1 (s_push (.int 1))) := ok_iconst dX11_region_50 (by decide)
theorem k_152_51 : mOk M_152.1 M_152.2.1 M_152.2.2.1 M_152.2.2.2 51 (o_goto 55) := ok_goto dX11_region_51 (by decide)
theorem k_152_54 : mOk M_152.1 M_152.2.1 M_152.2.2.1 M_152.2.2.2 54 (oS 1 (s_push (.int 0))) := ok_iconst dX11_region_54 (by decide)
theorem k_152_55 : mOk M_152.1 M_152.2.1 M_152.2.2.1 M_152.2.2.2 55 (o_is 6 2) := ok_istore dX11_region_55
theorem k_152_57 : mOk M_152.1 M_152.2.1 M_152.2.2.1 M_152.2.2.2 57 (o_al 0 1) := ok_aload_n dX11_region_57 rfl
theorem k_152_58 : mOk M_152.1 M_152.2.1 M_152.2.2.1 M_152.2.2.2 58 (o_il 6 2) := ok_iload dX11_region_58
theorem k_152_60 : mOk M_152.1 M_152.2.1 M_152.2.2.1 M_152.2.2.2 60 (o_zeq 67) := ok_zeq dX11_region_60 (by decide)
theorem k_152_63 : mOk M_152.1 M_152.2.1 M_152.2.2.1 M_152.2.2.2 63 (oS 1 (s_push (.int 0))) := ok_iconst dX11_region_63 (by decide)
theorem k_152_64 : mOk M_152.1 M_152.2.1 M_152.2.2.1 M_152.2.2.2 64 (o_goto 68) := ok_goto dX11_region_64 (by decide)
theorem k_152_67 : mOk M_152.1 M_152.2.1 M_152.2.2.1 M_152.2.2.2 67 (oS 1 (s_push (.int 1))) := ok_iconst dX11_region_67 (by decide)
theorem k_152_68 : mOk M_152.1 M_152.2.1 M_152.2.2.1 M_152.2.2.2 68 (o_pI 11 13) := ok_pI dX11_region_68 (mFw_of f_RX11_133_c (Or.inl rfl)) rfl
theorem k_152_71 : mOk M_152.1 M_152.2.1 M_152.2.2.1 M_152.2.2.2 71 (o_al 0 1) := ok_aload_n dX11_region_71 rfl
theorem k_152_72 : mOk M_152.1 M_152.2.1 M_152.2.2.1 M_152.2.2.2 72 (o_gI 11 13) := ok_gI dX11_region_72 f_RX11_133 (Or.inl rfl)
theorem k_152_75 : mOk M_152.1 M_152.2.1 M_152.2.2.1 M_152.2.2.2 75 (o_zeq 79) := ok_zeq dX11_region_75 (by decide)
theorem k_152_79 : mOk M_152.1 M_152.2.1 M_152.2.2.1 M_152.2.2.2 79 (o_al 0 1) := ok_aload_n dX11_region_79 rfl
theorem k_152_80 : mOk M_152.1 M_152.2.1 M_152.2.2.1 M_152.2.2.2 80 (o_gP 11 14) := ok_gP dX11_region_80 f_RX11_44 rfl
theorem k_152_83 : mOk M_152.1 M_152.2.1 M_152.2.2.1 M_152.2.2.2 83 (oS 1 (s_push (.int 0))) := ok_iconst dX11_region_83 (by decide)
theorem k_152_84 : mOk M_152.1 M_152.2.1 M_152.2.2.1 M_152.2.2.2 84 (o_il 1 1) := ok_iload_n dX11_region_84 rfl
theorem k_152_85 : mOk M_152.1 M_152.2.1 M_152.2.2.1 M_152.2.2.2 85 (o_iast) := ok_iast dX11_region_85
theorem k_152_86 : mOk M_152.1 M_152.2.1 M_152.2.2.1 M_152.2.2.2 86 (o_al 0 1) := ok_aload_n dX11_region_86 rfl
theorem k_152_87 : mOk M_152.1 M_152.2.1 M_152.2.2.1 M_152.2.2.2 87 (o_gP 11 14) := ok_gP dX11_region_87 f_RX11_44 rfl
theorem k_152_90 : mOk M_152.1 M_152.2.1 M_152.2.2.1 M_152.2.2.2 90 (oS 1 (s_push (.int 1))) := ok_iconst dX11_region_90 (by decide)
theorem k_152_91 : mOk M_152.1 M_152.2.1 M_152.2.2.1 M_152.2.2.2 91 (o_il 2 1) := ok_iload_n dX11_region_91 rfl
theorem k_152_92 : mOk M_152.1 M_152.2.1 M_152.2.2.1 M_152.2.2.2 92 (o_iast) := ok_iast dX11_region_92
theorem k_152_93 : mOk M_152.1 M_152.2.1 M_152.2.2.1 M_152.2.2.2 93 (o_al 0 1) := ok_aload_n dX11_region_93 rfl
theorem k_152_94 : mOk M_152.1 M_152.2.1 M_152.2.2.1 M_152.2.2.2 94 (o_gP 11 14) := ok_gP dX11_region_94 f_RX11_44 rfl
theorem k_152_97 : mOk M_152.1 M_152.2.1 M_152.2.2.1 M_152.2.2.2 97 (oS 1 (s_push (.int 2))) := ok_iconst dX11_region_97 (by decide)
theorem k_152_98 : mOk M_152.1 M_152.2.1 M_152.2.2.1 M_152.2.2.2 98 (o_il 3 1) := ok_iload_n dX11_region_98 rfl
theorem k_152_99 : mOk M_152.1 M_152.2.1 M_152.2.2.1 M_152.2.2.2 99 (o_iast) := ok_iast dX11_region_99
theorem k_152_100 : mOk M_152.1 M_152.2.1 M_152.2.2.1 M_152.2.2.2 100 (o_al 0 1) := ok_aload_n dX11_region_100 rfl
theorem k_152_101 : mOk M_152.1 M_152.2.1 M_152.2.2.1 M_152.2.2.2 101 (o_gP 11 14) := ok_gP dX11_region_101 f_RX11_44 rfl
theorem k_152_104 : mOk M_152.1 M_152.2.1 M_152.2.2.1 M_152.2.2.2 104 (oS 1 (s_push (.int 3))) := ok_iconst dX11_region_104 (by decide)
theorem k_152_105 : mOk M_152.1 M_152.2.1 M_152.2.2.1 M_152.2.2.2 105 (o_il 4 2) := ok_iload dX11_region_105
theorem k_152_107 : mOk M_152.1 M_152.2.1 M_152.2.2.1 M_152.2.2.2 107 (o_iast) := ok_iast dX11_region_107
theorem k_152_108 : mOk M_152.1 M_152.2.1 M_152.2.2.1 M_152.2.2.2 108 (o_al 0 1) := ok_aload_n dX11_region_108 rfl
theorem k_152_109 : mOk M_152.1 M_152.2.1 M_152.2.2.1 M_152.2.2.2 109 (o_gP 11 14) := ok_gP dX11_region_109 f_RX11_44 rfl
theorem k_152_112 : mOk M_152.1 M_152.2.1 M_152.2.2.1 M_152.2.2.2 112 (oS 1 (s_push (.int 4))) := ok_iconst dX11_region_112 (by decide)
theorem k_152_113 : mOk M_152.1 M_152.2.1 M_152.2.2.1 M_152.2.2.2 113 (o_il 5 2) := ok_iload dX11_region_113
theorem k_152_115 : mOk M_152.1 M_152.2.1 M_152.2.2.1 M_152.2.2.2 115 (o_iast) := ok_iast dX11_region_115
theorem k_152_116 : mOk M_152.1 M_152.2.1 M_152.2.2.1 M_152.2.2.2 116 (o_al 0 1) := ok_aload_n dX11_region_116 rfl
theorem k_152_117 : mOk M_152.1 M_152.2.1 M_152.2.2.1 M_152.2.2.2 117 (oS 1 (s_push (.int 1))) := ok_iconst dX11_region_117 (by decide)
theorem k_152_118 : mOk M_152.1 M_152.2.1 M_152.2.2.1 M_152.2.2.2 118 (o_pZ 11 15) := ok_pZ dX11_region_118 (mFw_of f_RX11_270_c (Or.inl rfl)) rfl
theorem k_152_121 : mOk M_152.1 M_152.2.1 M_152.2.2.1 M_152.2.2.2 121 (o_al 0 1) := ok_aload_n dX11_region_121 rfl
theorem k_152_122 : mOk M_152.1 M_152.2.1 M_152.2.2.1 M_152.2.2.2 122 (oS 1 (s_push (.int 0))) := ok_iconst dX11_region_122 (by decide)
theorem k_152_123 : mOk M_152.1 M_152.2.1 M_152.2.2.1 M_152.2.2.2 123 (o_pZ 11 16) := ok_pZ dX11_region_123 (mFw_of f_RX11_274_c (Or.inl rfl)) rfl
set_option maxRecDepth 20000 in
set_option maxHeartbeats 4000000 in
theorem tk_152 (l : Launch) (H9 : mThr l) (H10 : mSpl l) (pc : Nat) (q : mEnt) (h : tb_152 pc = some q) : EE l 152 pc q := nd h (fun h => nd h (fun h => nd h (fun h => nd h (fun h => nd h (fun h => nd h (fun h => lf (P := EE l 152) h k_152_0) (fun h => lf (P := EE l 152) h (EE_ca (by decide) (⟨m_1219, m_81, ⟨by decide, by decide⟩, by decide +kernel, ⟨by decide, by decide⟩, 141, 1, by decide +kernel, Or.inl ⟨rfl, rfl, dX11_region_1, m_1217, m_1218⟩⟩) rfl))) (fun h => nd h (fun h => lf (P := EE l 152) h k_152_4) (fun h => lf (P := EE l 152) h k_152_7))) (fun h => nd h (fun h => nd h (fun h => lf (P := EE l 152) h (EE_ca (by decide) (⟨m_1219, m_81, ⟨by decide, by decide⟩, by decide +kernel, ⟨by decide, by decide⟩, 141, 1, by decide +kernel, Or.inl ⟨rfl, rfl, dX11_region_8, m_1217, m_1218⟩⟩) rfl)) (fun h => lf (P := EE l 152) h k_152_11)) (fun h => nd h (fun h => lf (P := EE l 152) h k_152_14) (fun h => lf (P := EE l 152) h (EE_ca (by decide) (⟨m_1219, m_81, ⟨by decide, by decide⟩, by decide +kernel, ⟨by decide, by decide⟩, 141, 1, by decide +kernel, Or.inl ⟨rfl, rfl, dX11_region_15, m_1217, m_1218⟩⟩) rfl))))) (fun h => nd h (fun h => nd h (fun h => nd h (fun h => lf (P := EE l 152) h k_152_18) (fun h => lf (P := EE l 152) h k_152_21)) (fun h => nd h (fun h => lf (P := EE l 152) h (EE_ca (by decide) (⟨m_1219, m_81, ⟨by decide, by decide⟩, by decide +kernel, ⟨by decide, by decide⟩, 141, 1, by decide +kernel, Or.inl ⟨rfl, rfl, dX11_region_23, m_1217, m_1218⟩⟩) rfl)) (fun h => lf (P := EE l 152) h k_152_26))) (fun h => nd h (fun h => nd h (fun h => lf (P := EE l 152) h k_152_29) (fun h => lf (P := EE l 152) h k_152_30)) (fun h => nd h (fun h => lf (P := EE l 152) h k_152_31) (fun h => nd h (fun h => lf (P := EE l 152) h k_152_34) (fun h => lf (P := EE l 152) h k_152_35)))))) (fun h => nd h (fun h => nd h (fun h => nd h (fun h => nd h (fun h => lf (P := EE l 152) h k_152_37) (fun h => lf (P := EE l 152) h k_152_40)) (fun h => nd h (fun h => lf (P := EE l 152) h k_152_42) (fun h => lf (P := EE l 152) h k_152_43))) (fun h => nd h (fun h => nd h (fun h => lf (P := EE l 152) h (EE_ca (by decide) (⟨m_1222, m_81, ⟨by decide, by decide⟩, by decide +kernel, ⟨by decide, by decide⟩, 137, 3, by decide +kernel, Or.inl ⟨rfl, rfl, dX11_region_44, m_1220, m_1221⟩⟩) rfl)) (fun h => lf (P := EE l 152) h k_152_47)) (fun h => nd h (fun h => lf (P := EE l 152) h k_152_50) (fun h => nd h (fun h => lf (P := EE l 152) h k_152_51) (fun h => lf (P := EE l 152) h k_152_54))))) (fun h => nd h (fun h => nd h (fun h => nd h (fun h => lf (P := EE l 152) h k_152_55) (fun h => lf (P := EE l 152) h k_152_57)) (fun h => nd h (fun h => lf (P := EE l 152) h k_152_58) (fun h => lf (P := EE l 152) h k_152_60))) (fun h => nd h (fun h => nd h (fun h => lf (P := EE l 152) h k_152_63) (fun h => lf (P := EE l 152) h k_152_64)) (fun h => nd h (fun h => lf (P := EE l 152) h k_152_67) (fun h => nd h (fun h => lf (P := EE l 152) h k_152_68) (fun h => lf (P := EE l 152) h k_152_71))))))) (fun h => nd h (fun h => nd h (fun h => nd h (fun h => nd h (fun h => nd h (fun h => lf (P := EE l 152) h k_152_72) (fun h => lf (P := EE l 152) h k_152_75)) (fun h => nd h (fun h => lf (P := EE l 152) h (EE_re (Or.inr (Or.inr (Or.inr (Or.inr ⟨rfl, dX11_region_78, rfl⟩)))))) (fun h => lf (P := EE l 152) h k_152_79))) (fun h => nd h (fun h => nd h (fun h => lf (P := EE l 152) h k_152_80) (fun h => lf (P := EE l 152) h k_152_83)) (fun h => nd h (fun h => lf (P := EE l 152) h k_152_84) (fun h => lf (P := EE l 152) h k_152_85)))) (fun h => nd h (fun h => nd h (fun h => nd h (fun h => lf (P := EE l 152) h k_152_86) (fun h => lf (P := EE l 152) h k_152_87)) (fun h => nd h (fun h => lf (P := EE l 152) h k_152_90) (fun h => lf (P := EE l 152) h k_152_91))) (fun h => nd h (fun h => nd h (fun h => lf (P := EE l 152) h k_152_92) (fun h => lf (P := EE l 152) h k_152_93)) (fun h => nd h (fun h => lf (P := EE l 152) h k_152_94) (fun h => nd h (fun h => lf (P := EE l 152) h k_152_97) (fun h => lf (P := EE l 152) h k_152_98)))))) (fun h => nd h (fun h => nd h (fun h => nd h (fun h => nd h (fun h => lf (P := EE l 152) h k_152_99) (fun h => lf (P := EE l 152) h k_152_100)) (fun h => nd h (fun h => lf (P := EE l 152) h k_152_101) (fun h => lf (P := EE l 152) h k_152_104))) (fun h => nd h (fun h => nd h (fun h => lf (P := EE l 152) h k_152_105) (fun h => lf (P := EE l 152) h k_152_107)) (fun h => nd h (fun h => lf (P := EE l 152) h k_152_108) (fun h => nd h (fun h => lf (P := EE l 152) h k_152_109) (fun h => lf (P := EE l 152) h k_152_112))))) (fun h => nd h (fun h => nd h (fun h => nd h (fun h => lf (P := EE l 152) h k_152_113) (fun h => lf (P := EE l 152) h k_152_115)) (fun h => nd h (fun h => lf (P := EE l 152) h k_152_116) (fun h => lf (P := EE l 152) h k_152_117))) (fun h => nd h (fun h => nd h (fun h => lf (P := EE l 152) h k_152_118) (fun h => lf (P := EE l 152) h k_152_121)) (fun h => nd h (fun h => lf (P := EE l 152) h k_152_122) (fun h => nd h (fun h => lf (P := EE l 152) h k_152_123) (fun h => lf (P := EE l 152) h (EE_re (Or.inr (Or.inr (Or.inr (Or.inr ⟨rfl, dX11_region_126, rfl⟩))))))))))))
theorem dX11_edgeMeets_0 : decode cX11_edgeMeets 0 = .ok (.aload_n 0, 1) := by decide +kernel
theorem dX11_edgeMeets_1 : decode cX11_edgeMeets 1 = .ok (.getfield 32, 3) := by decide +kernel
theorem dX11_edgeMeets_4 : decode cX11_edgeMeets 4 = .ok (.bipush 12, 2) := by decide +kernel
theorem dX11_edgeMeets_6 : decode cX11_edgeMeets 6 = .ok (.iload_n 1, 1) := by decide +kernel
theorem dX11_edgeMeets_7 : decode cX11_edgeMeets 7 = .ok (.imul, 1) := by decide +kernel
theorem dX11_edgeMeets_8 : decode cX11_edgeMeets 8 = .ok (.iload_n 2, 1) := by decide +kernel
theorem dX11_edgeMeets_9 : decode cX11_edgeMeets 9 = .ok (.iadd, 1) := by decide +kernel
theorem dX11_edgeMeets_10 : decode cX11_edgeMeets 10 = .ok (.iaload, 1) := by decide +kernel
theorem dX11_edgeMeets_11 : decode cX11_edgeMeets 11 = .ok (.i2l, 1) := by decide +kernel
theorem dX11_edgeMeets_12 : decode cX11_edgeMeets 12 = .ok (.lstore 4, 2) := by decide +kernel
theorem dX11_edgeMeets_14 : decode cX11_edgeMeets 14 = .ok (.aload_n 0, 1) := by decide +kernel
theorem dX11_edgeMeets_15 : decode cX11_edgeMeets 15 = .ok (.getfield 35, 3) := by decide +kernel
theorem dX11_edgeMeets_18 : decode cX11_edgeMeets 18 = .ok (.bipush 12, 2) := by decide +kernel
theorem dX11_edgeMeets_20 : decode cX11_edgeMeets 20 = .ok (.iload_n 1, 1) := by decide +kernel
theorem dX11_edgeMeets_21 : decode cX11_edgeMeets 21 = .ok (.imul, 1) := by decide +kernel
theorem dX11_edgeMeets_22 : decode cX11_edgeMeets 22 = .ok (.iload_n 2, 1) := by decide +kernel
theorem dX11_edgeMeets_23 : decode cX11_edgeMeets 23 = .ok (.iadd, 1) := by decide +kernel
theorem dX11_edgeMeets_24 : decode cX11_edgeMeets 24 = .ok (.iaload, 1) := by decide +kernel
theorem dX11_edgeMeets_25 : decode cX11_edgeMeets 25 = .ok (.i2l, 1) := by decide +kernel
theorem dX11_edgeMeets_26 : decode cX11_edgeMeets 26 = .ok (.lstore 6, 2) := by decide +kernel
theorem dX11_edgeMeets_28 : decode cX11_edgeMeets 28 = .ok (.aload_n 0, 1) := by decide +kernel
theorem dX11_edgeMeets_29 : decode cX11_edgeMeets 29 = .ok (.getfield 32, 3) := by decide +kernel
theorem dX11_edgeMeets_32 : decode cX11_edgeMeets 32 = .ok (.bipush 12, 2) := by decide +kernel
theorem dX11_edgeMeets_34 : decode cX11_edgeMeets 34 = .ok (.iload_n 1, 1) := by decide +kernel
theorem dX11_edgeMeets_35 : decode cX11_edgeMeets 35 = .ok (.imul, 1) := by decide +kernel
theorem dX11_edgeMeets_36 : decode cX11_edgeMeets 36 = .ok (.iload_n 3, 1) := by decide +kernel
theorem dX11_edgeMeets_37 : decode cX11_edgeMeets 37 = .ok (.iadd, 1) := by decide +kernel
theorem dX11_edgeMeets_38 : decode cX11_edgeMeets 38 = .ok (.iaload, 1) := by decide +kernel
theorem dX11_edgeMeets_39 : decode cX11_edgeMeets 39 = .ok (.i2l, 1) := by decide +kernel
theorem dX11_edgeMeets_40 : decode cX11_edgeMeets 40 = .ok (.lstore 8, 2) := by decide +kernel
theorem dX11_edgeMeets_42 : decode cX11_edgeMeets 42 = .ok (.aload_n 0, 1) := by decide +kernel
theorem dX11_edgeMeets_43 : decode cX11_edgeMeets 43 = .ok (.getfield 35, 3) := by decide +kernel
theorem dX11_edgeMeets_46 : decode cX11_edgeMeets 46 = .ok (.bipush 12, 2) := by decide +kernel
theorem dX11_edgeMeets_48 : decode cX11_edgeMeets 48 = .ok (.iload_n 1, 1) := by decide +kernel
theorem dX11_edgeMeets_49 : decode cX11_edgeMeets 49 = .ok (.imul, 1) := by decide +kernel
theorem dX11_edgeMeets_50 : decode cX11_edgeMeets 50 = .ok (.iload_n 3, 1) := by decide +kernel
theorem dX11_edgeMeets_51 : decode cX11_edgeMeets 51 = .ok (.iadd, 1) := by decide +kernel
theorem dX11_edgeMeets_52 : decode cX11_edgeMeets 52 = .ok (.iaload, 1) := by decide +kernel
theorem dX11_edgeMeets_53 : decode cX11_edgeMeets 53 = .ok (.i2l, 1) := by decide +kernel
theorem dX11_edgeMeets_54 : decode cX11_edgeMeets 54 = .ok (.lstore 10, 2) := by decide +kernel
theorem dX11_edgeMeets_56 : decode cX11_edgeMeets 56 = .ok (.lload 4, 2) := by decide +kernel
theorem dX11_edgeMeets_58 : decode cX11_edgeMeets 58 = .ok (.aload_n 0, 1) := by decide +kernel
theorem dX11_edgeMeets_59 : decode cX11_edgeMeets 59 = .ok (.getfield 44, 3) := by decide +kernel
theorem dX11_edgeMeets_62 : decode cX11_edgeMeets 62 = .ok (.iconst 0, 1) := by decide +kernel
theorem dX11_edgeMeets_63 : decode cX11_edgeMeets 63 = .ok (.iaload, 1) := by decide +kernel
theorem dX11_edgeMeets_64 : decode cX11_edgeMeets 64 = .ok (.i2l, 1) := by decide +kernel
theorem dX11_edgeMeets_65 : decode cX11_edgeMeets 65 = .ok (.lcmp, 1) := by decide +kernel
theorem dX11_edgeMeets_66 : decode cX11_edgeMeets 66 = .ok (.ifCond .ge 16, 3) := by decide +kernel
theorem dX11_edgeMeets_69 : decode cX11_edgeMeets 69 = .ok (.lload 8, 2) := by decide +kernel
theorem dX11_edgeMeets_71 : decode cX11_edgeMeets 71 = .ok (.aload_n 0, 1) := by decide +kernel
theorem dX11_edgeMeets_72 : decode cX11_edgeMeets 72 = .ok (.getfield 44, 3) := by decide +kernel
theorem dX11_edgeMeets_75 : decode cX11_edgeMeets 75 = .ok (.iconst 0, 1) := by decide +kernel
theorem dX11_edgeMeets_76 : decode cX11_edgeMeets 76 = .ok (.iaload, 1) := by decide +kernel
theorem dX11_edgeMeets_77 : decode cX11_edgeMeets 77 = .ok (.i2l, 1) := by decide +kernel
theorem dX11_edgeMeets_78 : decode cX11_edgeMeets 78 = .ok (.lcmp, 1) := by decide +kernel
theorem dX11_edgeMeets_79 : decode cX11_edgeMeets 79 = .ok (.ifCond .lt 81, 3) := by decide +kernel
theorem dX11_edgeMeets_82 : decode cX11_edgeMeets 82 = .ok (.lload 4, 2) := by decide +kernel
theorem dX11_edgeMeets_84 : decode cX11_edgeMeets 84 = .ok (.aload_n 0, 1) := by decide +kernel
theorem dX11_edgeMeets_85 : decode cX11_edgeMeets 85 = .ok (.getfield 44, 3) := by decide +kernel
theorem dX11_edgeMeets_88 : decode cX11_edgeMeets 88 = .ok (.iconst 2, 1) := by decide +kernel
theorem dX11_edgeMeets_89 : decode cX11_edgeMeets 89 = .ok (.iaload, 1) := by decide +kernel
theorem dX11_edgeMeets_90 : decode cX11_edgeMeets 90 = .ok (.i2l, 1) := by decide +kernel
theorem dX11_edgeMeets_91 : decode cX11_edgeMeets 91 = .ok (.lcmp, 1) := by decide +kernel
theorem dX11_edgeMeets_92 : decode cX11_edgeMeets 92 = .ok (.ifCond .le 16, 3) := by decide +kernel
theorem dX11_edgeMeets_95 : decode cX11_edgeMeets 95 = .ok (.lload 8, 2) := by decide +kernel
theorem dX11_edgeMeets_97 : decode cX11_edgeMeets 97 = .ok (.aload_n 0, 1) := by decide +kernel
theorem dX11_edgeMeets_98 : decode cX11_edgeMeets 98 = .ok (.getfield 44, 3) := by decide +kernel
theorem dX11_edgeMeets_101 : decode cX11_edgeMeets 101 = .ok (.iconst 2, 1) := by decide +kernel
theorem dX11_edgeMeets_102 : decode cX11_edgeMeets 102 = .ok (.iaload, 1) := by decide +kernel
theorem dX11_edgeMeets_103 : decode cX11_edgeMeets 103 = .ok (.i2l, 1) := by decide +kernel
theorem dX11_edgeMeets_104 : decode cX11_edgeMeets 104 = .ok (.lcmp, 1) := by decide +kernel
theorem dX11_edgeMeets_105 : decode cX11_edgeMeets 105 = .ok (.ifCond .gt 55, 3) := by decide +kernel
theorem dX11_edgeMeets_108 : decode cX11_edgeMeets 108 = .ok (.lload 6, 2) := by decide +kernel
theorem dX11_edgeMeets_110 : decode cX11_edgeMeets 110 = .ok (.aload_n 0, 1) := by decide +kernel
theorem dX11_edgeMeets_111 : decode cX11_edgeMeets 111 = .ok (.getfield 44, 3) := by decide +kernel
theorem dX11_edgeMeets_114 : decode cX11_edgeMeets 114 = .ok (.iconst 1, 1) := by decide +kernel
theorem dX11_edgeMeets_115 : decode cX11_edgeMeets 115 = .ok (.iaload, 1) := by decide +kernel
theorem dX11_edgeMeets_116 : decode cX11_edgeMeets 116 = .ok (.i2l, 1) := by decide +kernel
theorem dX11_edgeMeets_117 : decode cX11_edgeMeets 117 = .ok (.lcmp, 1) := by decide +kernel
theorem dX11_edgeMeets_118 : decode cX11_edgeMeets 118 = .ok (.ifCond .ge 16, 3) := by decide +kernel
theorem dX11_edgeMeets_121 : decode cX11_edgeMeets 121 = .ok (.lload 10, 2) := by decide +kernel
theorem dX11_edgeMeets_123 : decode cX11_edgeMeets 123 = .ok (.aload_n 0, 1) := by decide +kernel
theorem dX11_edgeMeets_124 : decode cX11_edgeMeets 124 = .ok (.getfield 44, 3) := by decide +kernel
theorem dX11_edgeMeets_127 : decode cX11_edgeMeets 127 = .ok (.iconst 1, 1) := by decide +kernel
theorem dX11_edgeMeets_128 : decode cX11_edgeMeets 128 = .ok (.iaload, 1) := by decide +kernel
theorem dX11_edgeMeets_129 : decode cX11_edgeMeets 129 = .ok (.i2l, 1) := by decide +kernel
theorem dX11_edgeMeets_130 : decode cX11_edgeMeets 130 = .ok (.lcmp, 1) := by decide +kernel
theorem dX11_edgeMeets_131 : decode cX11_edgeMeets 131 = .ok (.ifCond .lt 29, 3) := by decide +kernel
theorem dX11_edgeMeets_134 : decode cX11_edgeMeets 134 = .ok (.lload 6, 2) := by decide +kernel
theorem dX11_edgeMeets_136 : decode cX11_edgeMeets 136 = .ok (.aload_n 0, 1) := by decide +kernel
theorem dX11_edgeMeets_137 : decode cX11_edgeMeets 137 = .ok (.getfield 44, 3) := by decide +kernel
theorem dX11_edgeMeets_140 : decode cX11_edgeMeets 140 = .ok (.iconst 3, 1) := by decide +kernel
theorem dX11_edgeMeets_141 : decode cX11_edgeMeets 141 = .ok (.iaload, 1) := by decide +kernel
theorem dX11_edgeMeets_142 : decode cX11_edgeMeets 142 = .ok (.i2l, 1) := by decide +kernel
theorem dX11_edgeMeets_143 : decode cX11_edgeMeets 143 = .ok (.lcmp, 1) := by decide +kernel
theorem dX11_edgeMeets_144 : decode cX11_edgeMeets 144 = .ok (.ifCond .le 18, 3) := by decide +kernel
theorem dX11_edgeMeets_147 : decode cX11_edgeMeets 147 = .ok (.lload 10, 2) := by decide +kernel
theorem dX11_edgeMeets_149 : decode cX11_edgeMeets 149 = .ok (.aload_n 0, 1) := by decide +kernel
theorem dX11_edgeMeets_150 : decode cX11_edgeMeets 150 = .ok (.getfield 44, 3) := by decide +kernel
theorem dX11_edgeMeets_153 : decode cX11_edgeMeets 153 = .ok (.iconst 3, 1) := by decide +kernel
theorem dX11_edgeMeets_154 : decode cX11_edgeMeets 154 = .ok (.iaload, 1) := by decide +kernel
theorem dX11_edgeMeets_155 : decode cX11_edgeMeets 155 = .ok (.i2l, 1) := by decide +kernel
theorem dX11_edgeMeets_156 : decode cX11_edgeMeets 156 = .ok (.lcmp, 1) := by decide +kernel
theorem dX11_edgeMeets_157 : decode cX11_edgeMeets 157 = .ok (.ifCond .le 5, 3) := by decide +kernel
theorem dX11_edgeMeets_160 : decode cX11_edgeMeets 160 = .ok (.iconst 0, 1) := by decide +kernel
theorem dX11_edgeMeets_161 : decode cX11_edgeMeets 161 = .ok (.ireturn, 1) := by decide +kernel
theorem dX11_edgeMeets_162 : decode cX11_edgeMeets 162 = .ok (.iconst 0, 1) := by decide +kernel
theorem dX11_edgeMeets_163 : decode cX11_edgeMeets 163 = .ok (.istore 12, 2) := by decide +kernel
theorem dX11_edgeMeets_165 : decode cX11_edgeMeets 165 = .ok (.iconst 0, 1) := by decide +kernel
theorem dX11_edgeMeets_166 : decode cX11_edgeMeets 166 = .ok (.istore 13, 2) := by decide +kernel
theorem dX11_edgeMeets_168 : decode cX11_edgeMeets 168 = .ok (.iconst 0, 1) := by decide +kernel
theorem dX11_edgeMeets_169 : decode cX11_edgeMeets 169 = .ok (.istore 14, 2) := by decide +kernel
theorem dX11_edgeMeets_171 : decode cX11_edgeMeets 171 = .ok (.iload 14, 2) := by decide +kernel
theorem dX11_edgeMeets_173 : decode cX11_edgeMeets 173 = .ok (.iconst 4, 1) := by decide +kernel
theorem dX11_edgeMeets_174 : decode cX11_edgeMeets 174 = .ok (.if_icmp .ge 76, 3) := by decide +kernel
theorem dX11_edgeMeets_177 : decode cX11_edgeMeets 177 = .ok (.lload 8, 2) := by decide +kernel
theorem dX11_edgeMeets_179 : decode cX11_edgeMeets 179 = .ok (.lload 4, 2) := by decide +kernel
theorem dX11_edgeMeets_181 : decode cX11_edgeMeets 181 = .ok (.lsub, 1) := by decide +kernel
theorem dX11_edgeMeets_182 : decode cX11_edgeMeets 182 = .ok (.lload 10, 2) := by decide +kernel
theorem dX11_edgeMeets_184 : decode cX11_edgeMeets 184 = .ok (.lload 6, 2) := by decide +kernel
theorem dX11_edgeMeets_186 : decode cX11_edgeMeets 186 = .ok (.lsub, 1) := by decide +kernel
theorem dX11_edgeMeets_187 : decode cX11_edgeMeets 187 = .ok (.aload_n 0, 1) := by decide +kernel
theorem dX11_edgeMeets_188 : decode cX11_edgeMeets 188 = .ok (.getfield 44, 3) := by decide +kernel
theorem dX11_edgeMeets_191 : decode cX11_edgeMeets 191 = .ok (.iload 14, 2) := by decide +kernel
theorem dX11_edgeMeets_193 : decode cX11_edgeMeets 193 = .ok (.iconst 2, 1) := by decide +kernel
theorem dX11_edgeMeets_194 : decode cX11_edgeMeets 194 = .ok (.irem, 1) := by decide +kernel
theorem dX11_edgeMeets_195 : decode cX11_edgeMeets 195 = .ok (.iconst 2, 1) := by decide +kernel
theorem dX11_edgeMeets_196 : decode cX11_edgeMeets 196 = .ok (.imul, 1) := by decide +kernel
theorem dX11_edgeMeets_197 : decode cX11_edgeMeets 197 = .ok (.iaload, 1) := by decide +kernel
theorem dX11_edgeMeets_198 : decode cX11_edgeMeets 198 = .ok (.i2l, 1) := by decide +kernel
theorem dX11_edgeMeets_199 : decode cX11_edgeMeets 199 = .ok (.lload 4, 2) := by decide +kernel
theorem dX11_edgeMeets_201 : decode cX11_edgeMeets 201 = .ok (.lsub, 1) := by decide +kernel
theorem dX11_edgeMeets_202 : decode cX11_edgeMeets 202 = .ok (.aload_n 0, 1) := by decide +kernel
theorem dX11_edgeMeets_203 : decode cX11_edgeMeets 203 = .ok (.getfield 44, 3) := by decide +kernel
theorem dX11_edgeMeets_206 : decode cX11_edgeMeets 206 = .ok (.iload 14, 2) := by decide +kernel
theorem dX11_edgeMeets_208 : decode cX11_edgeMeets 208 = .ok (.iconst 2, 1) := by decide +kernel
theorem dX11_edgeMeets_209 : decode cX11_edgeMeets 209 = .ok (.idiv, 1) := by decide +kernel
theorem dX11_edgeMeets_210 : decode cX11_edgeMeets 210 = .ok (.iconst 2, 1) := by decide +kernel
theorem dX11_edgeMeets_211 : decode cX11_edgeMeets 211 = .ok (.imul, 1) := by decide +kernel
theorem dX11_edgeMeets_212 : decode cX11_edgeMeets 212 = .ok (.iconst 1, 1) := by decide +kernel
theorem dX11_edgeMeets_213 : decode cX11_edgeMeets 213 = .ok (.iadd, 1) := by decide +kernel
theorem dX11_edgeMeets_214 : decode cX11_edgeMeets 214 = .ok (.iaload, 1) := by decide +kernel
theorem dX11_edgeMeets_215 : decode cX11_edgeMeets 215 = .ok (.i2l, 1) := by decide +kernel
theorem dX11_edgeMeets_216 : decode cX11_edgeMeets 216 = .ok (.lload 6, 2) := by decide +kernel
theorem dX11_edgeMeets_218 : decode cX11_edgeMeets 218 = .ok (.lsub, 1) := by decide +kernel
theorem dX11_edgeMeets_219 : decode cX11_edgeMeets 219 = .ok (.invokestatic 148, 3) := by decide +kernel
theorem dX11_edgeMeets_222 : decode cX11_edgeMeets 222 = .ok (.lstore 15, 2) := by decide +kernel
theorem dX11_edgeMeets_224 : decode cX11_edgeMeets 224 = .ok (.lload 15, 2) := by decide +kernel
theorem dX11_edgeMeets_226 : decode cX11_edgeMeets 226 = .ok (.lconst 0, 1) := by decide +kernel
theorem dX11_edgeMeets_227 : decode cX11_edgeMeets 227 = .ok (.lcmp, 1) := by decide +kernel
theorem dX11_edgeMeets_228 : decode cX11_edgeMeets 228 = .ok (.ifCond .le 6, 3) := by decide +kernel
theorem dX11_edgeMeets_231 : decode cX11_edgeMeets 231 = .ok (.iinc 12 1, 3) := by decide +kernel
theorem dX11_edgeMeets_234 : decode cX11_edgeMeets 234 = .ok (.lload 15, 2) := by decide +kernel
theorem dX11_edgeMeets_236 : decode cX11_edgeMeets 236 = .ok (.lconst 0, 1) := by decide +kernel
theorem dX11_edgeMeets_237 : decode cX11_edgeMeets 237 = .ok (.lcmp, 1) := by decide +kernel
theorem dX11_edgeMeets_238 : decode cX11_edgeMeets 238 = .ok (.ifCond .ge 6, 3) := by decide +kernel
theorem dX11_edgeMeets_241 : decode cX11_edgeMeets 241 = .ok (.iinc 13 1, 3) := by decide +kernel
theorem dX11_edgeMeets_244 : decode cX11_edgeMeets 244 = .ok (.iinc 14 1, 3) := by decide +kernel
theorem dX11_edgeMeets_247 : decode cX11_edgeMeets 247 = .ok (.goto (-76), 3) := by decide +kernel
theorem dX11_edgeMeets_250 : decode cX11_edgeMeets 250 = .ok (.iload 12, 2) := by decide +kernel
theorem dX11_edgeMeets_252 : decode cX11_edgeMeets 252 = .ok (.iconst 4, 1) := by decide +kernel
theorem dX11_edgeMeets_253 : decode cX11_edgeMeets 253 = .ok (.if_icmp .ge 13, 3) := by decide +kernel
theorem dX11_edgeMeets_256 : decode cX11_edgeMeets 256 = .ok (.iload 13, 2) := by decide +kernel
theorem dX11_edgeMeets_258 : decode cX11_edgeMeets 258 = .ok (.iconst 4, 1) := by decide +kernel
theorem dX11_edgeMeets_259 : decode cX11_edgeMeets 259 = .ok (.if_icmp .ge 7, 3) := by decide +kernel
theorem dX11_edgeMeets_262 : decode cX11_edgeMeets 262 = .ok (.iconst 1, 1) := by decide +kernel
theorem dX11_edgeMeets_263 : decode cX11_edgeMeets 263 = .ok (.goto 4, 3) := by decide +kernel
theorem dX11_edgeMeets_266 : decode cX11_edgeMeets 266 = .ok (.iconst 0, 1) := by decide +kernel
theorem dX11_edgeMeets_267 : decode cX11_edgeMeets 267 = .ok (.ireturn, 1) := by decide +kernel
def tb_153 (pc : Nat) : Option mEnt := bif Nat.ble pc 127 then (bif Nat.ble pc 58 then (bif Nat.ble pc 28 then (bif Nat.ble pc 12 then (bif Nat.ble pc 7 then (bif Nat.ble pc 1 then (bif Nat.ble pc 0 then (bif Nat.beq pc 0 then some (.inl (o_al 0 1)) else none) else (bif Nat.beq pc 1 then some (.inl (o_gP 11 7)) else none)) else (bif Nat.ble pc 4 then (bif Nat.beq pc 4 then some (.inl (oS 2 (s_push (.int 12)))) else none) else (bif Nat.ble pc 6 then (bif Nat.beq pc 6 then some (.inl (o_il 1 1)) else none) else (bif Nat.beq pc 7 then some (.inl (oS 1 (s_ii (fun a b => a * b)))) else none)))) else (bif Nat.ble pc 9 then (bif Nat.ble pc 8 then (bif Nat.beq pc 8 then some (.inl (o_il 2 1)) else none) else (bif Nat.beq pc 9 then some (.inl (oS 1 (s_ii (fun a b => a + b)))) else none)) else (bif Nat.ble pc 10 then (bif Nat.beq pc 10 then some (.inl (o_iald)) else none) else (bif Nat.ble pc 11 then (bif Nat.beq pc 11 then some (.inl (oS 1 s_i2l)) else none) else (bif Nat.beq pc 12 then some (.inl (o_ls 4 2)) else none))))) else (bif Nat.ble pc 21 then (bif Nat.ble pc 15 then (bif Nat.ble pc 14 then (bif Nat.beq pc 14 then some (.inl (o_al 0 1)) else none) else (bif Nat.beq pc 15 then some (.inl (o_gP 11 8)) else none)) else (bif Nat.ble pc 18 then (bif Nat.beq pc 18 then some (.inl (oS 2 (s_push (.int 12)))) else none) else (bif Nat.ble pc 20 then (bif Nat.beq pc 20 then some (.inl (o_il 1 1)) else none) else (bif Nat.beq pc 21 then some (.inl (oS 1 (s_ii (fun a b => a * b)))) else none)))) else (bif Nat.ble pc 24 then (bif Nat.ble pc 22 then (bif Nat.beq pc 22 then some (.inl (o_il 2 1)) else none) else (bif Nat.ble pc 23 then (bif Nat.beq pc 23 then some (.inl (oS 1 (s_ii (fun a b => a + b)))) else none) else (bif Nat.beq pc 24 then some (.inl (o_iald)) else none))) else (bif Nat.ble pc 25 then (bif Nat.beq pc 25 then some (.inl (oS 1 s_i2l)) else none) else (bif Nat.ble pc 26 then (bif Nat.beq pc 26 then some (.inl (o_ls 6 2)) else none) else (bif Nat.beq pc 28 then some (.inl (o_al 0 1)) else none)))))) else (bif Nat.ble pc 42 then (bif Nat.ble pc 36 then (bif Nat.ble pc 32 then (bif Nat.ble pc 29 then (bif Nat.beq pc 29 then some (.inl (o_gP 11 7)) else none) else (bif Nat.beq pc 32 then some (.inl (oS 2 (s_push (.int 12)))) else none)) else (bif Nat.ble pc 34 then (bif Nat.beq pc 34 then some (.inl (o_il 1 1)) else none) else (bif Nat.ble pc 35 then (bif Nat.beq pc 35 then some (.inl (oS 1 (s_ii (fun a b => a * b)))) else none) else (bif Nat.beq pc 36 then some (.inl (o_il 3 1)) else none)))) else (bif Nat.ble pc 38 then (bif Nat.ble pc 37 then (bif Nat.beq pc 37 then some (.inl (oS 1 (s_ii (fun a b => a + b)))) else none) else (bif Nat.beq pc 38 then some (.inl (o_iald)) else none)) else (bif Nat.ble pc 39 then (bif Nat.beq pc 39 then some (.inl (oS 1 s_i2l)) else none) else (bif Nat.ble pc 40 then (bif Nat.beq pc 40 then some (.inl (o_ls 8 2)) else none) else (bif Nat.beq pc 42 then some (.inl (o_al 0 1)) else none))))) else (bif Nat.ble pc 50 then (bif Nat.ble pc 46 then (bif Nat.ble pc 43 then (bif Nat.beq pc 43 then some (.inl (o_gP 11 8)) else none) else (bif Nat.beq pc 46 then some (.inl (oS 2 (s_push (.int 12)))) else none)) else (bif Nat.ble pc 48 then (bif Nat.beq pc 48 then some (.inl (o_il 1 1)) else none) else (bif Nat.ble pc 49 then (bif Nat.beq pc 49 then some (.inl (oS 1 (s_ii (fun a b => a * b)))) else none) else (bif Nat.beq pc 50 then some (.inl (o_il 3 1)) else none)))) else (bif Nat.ble pc 53 then (bif Nat.ble pc 51 then (bif Nat.beq pc 51 then some (.inl (oS 1 (s_ii (fun a b => a + b)))) else none) else (bif Nat.ble pc 52 then (bif Nat.beq pc 52 then some (.inl (o_iald)) else none) else (bif Nat.beq pc 53 then some (.inl (oS 1 s_i2l)) else none))) else (bif Nat.ble pc 54 then (bif Nat.beq pc 54 then some (.inl (o_ls 10 2)) else none) else (bif Nat.ble pc 56 then (bif Nat.beq pc 56 then some (.inl (o_ll 4 2)) else none) else (bif Nat.beq pc 58 then some (.inl (o_al 0 1)) else none))))))) else (bif Nat.ble pc 91 then (bif Nat.ble pc 75 then (bif Nat.ble pc 65 then (bif Nat.ble pc 62 then (bif Nat.ble pc 59 then (bif Nat.beq pc 59 then some (.inl (o_gP 11 14)) else none) else (bif Nat.beq pc 62 then some (.inl (oS 1 (s_push (.int 0)))) else none)) else (bif Nat.ble pc 63 then (bif Nat.beq pc 63 then some (.inl (o_iald)) else none) else (bif Nat.ble pc 64 then (bif Nat.beq pc 64 then some (.inl (oS 1 s_i2l)) else none) else (bif Nat.beq pc 65 then some (.inl (oS 1 s_lcmp)) else none)))) else (bif Nat.ble pc 69 then (bif Nat.ble pc 66 then (bif Nat.beq pc 66 then some (.inl (o_zge 82)) else none) else (bif Nat.beq pc 69 then some (.inl (o_ll 8 2)) else none)) else (bif Nat.ble pc 71 then (bif Nat.beq pc 71 then some (.inl (o_al 0 1)) else none) else (bif Nat.ble pc 72 then (bif Nat.beq pc 72 then some (.inl (o_gP 11 14)) else none) else (bif Nat.beq pc 75 then some (.inl (oS 1 (s_push (.int 0)))) else none))))) else (bif Nat.ble pc 82 then (bif Nat.ble pc 77 then (bif Nat.ble pc 76 then (bif Nat.beq pc 76 then some (.inl (o_iald)) else none) else (bif Nat.beq pc 77 then some (.inl (oS 1 s_i2l)) else none)) else (bif Nat.ble pc 78 then (bif Nat.beq pc 78 then some (.inl (oS 1 s_lcmp)) else none) else (bif Nat.ble pc 79 then (bif Nat.beq pc 79 then some (.inl (o_zlt 160)) else none) else (bif Nat.beq pc 82 then some (.inl (o_ll 4 2)) else none)))) else (bif Nat.ble pc 88 then (bif Nat.ble pc 84 then (bif Nat.beq pc 84 then some (.inl (o_al 0 1)) else none) else (bif Nat.ble pc 85 then (bif Nat.beq pc 85 then some (.inl (o_gP 11 14)) else none) else (bif Nat.beq pc 88 then some (.inl (oS 1 (s_push (.int 2)))) else none))) else (bif Nat.ble pc 89 then (bif Nat.beq pc 89 then some (.inl (o_iald)) else none) else (bif Nat.ble pc 90 then (bif Nat.beq pc 90 then some (.inl (oS 1 s_i2l)) else none) else (bif Nat.beq pc 91 then some (.inl (oS 1 s_lcmp)) else none)))))) else (bif Nat.ble pc 108 then (bif Nat.ble pc 101 then (bif Nat.ble pc 95 then (bif Nat.ble pc 92 then (bif Nat.beq pc 92 then some (.inl (o_zle 108)) else none) else (bif Nat.beq pc 95 then some (.inl (o_ll 8 2)) else none)) else (bif Nat.ble pc 97 then (bif Nat.beq pc 97 then some (.inl (o_al 0 1)) else none) else (bif Nat.ble pc 98 then (bif Nat.beq pc 98 then some (.inl (o_gP 11 14)) else none) else (bif Nat.beq pc 101 then some (.inl (oS 1 (s_push (.int 2)))) else none)))) else (bif Nat.ble pc 103 then (bif Nat.ble pc 102 then (bif Nat.beq pc 102 then some (.inl (o_iald)) else none) else (bif Nat.beq pc 103 then some (.inl (oS 1 s_i2l)) else none)) else (bif Nat.ble pc 104 then (bif Nat.beq pc 104 then some (.inl (oS 1 s_lcmp)) else none) else (bif Nat.ble pc 105 then (bif Nat.beq pc 105 then some (.inl (o_zgt 160)) else none) else (bif Nat.beq pc 108 then some (.inl (o_ll 6 2)) else none))))) else (bif Nat.ble pc 116 then (bif Nat.ble pc 111 then (bif Nat.ble pc 110 then (bif Nat.beq pc 110 then some (.inl (o_al 0 1)) else none) else (bif Nat.beq pc 111 then some (.inl (o_gP 11 14)) else none)) else (bif Nat.ble pc 114 then (bif Nat.beq pc 114 then some (.inl (oS 1 (s_push (.int 1)))) else none) else (bif Nat.ble pc 115 then (bif Nat.beq pc 115 then some (.inl (o_iald)) else none) else (bif Nat.beq pc 116 then some (.inl (oS 1 s_i2l)) else none)))) else (bif Nat.ble pc 121 then (bif Nat.ble pc 117 then (bif Nat.beq pc 117 then some (.inl (oS 1 s_lcmp)) else none) else (bif Nat.ble pc 118 then (bif Nat.beq pc 118 then some (.inl (o_zge 134)) else none) else (bif Nat.beq pc 121 then some (.inl (o_ll 10 2)) else none))) else (bif Nat.ble pc 123 then (bif Nat.beq pc 123 then some (.inl (o_al 0 1)) else none) else (bif Nat.ble pc 124 then (bif Nat.beq pc 124 then some (.inl (o_gP 11 14)) else none) else (bif Nat.beq pc 127 then some (.inl (oS 1 (s_push (.int 1)))) else none)))))))) else (bif Nat.ble pc 194 then (bif Nat.ble pc 160 then (bif Nat.ble pc 142 then (bif Nat.ble pc 134 then (bif Nat.ble pc 129 then (bif Nat.ble pc 128 then (bif Nat.beq pc 128 then some (.inl (o_iald)) else none) else (bif Nat.beq pc 129 then some (.inl (oS 1 s_i2l)) else none)) else (bif Nat.ble pc 130 then (bif Nat.beq pc 130 then some (.inl (oS 1 s_lcmp)) else none) else (bif Nat.ble pc 131 then (bif Nat.beq pc 131 then some (.inl (o_zlt 160)) else none) else (bif Nat.beq pc 134 then some (.inl (o_ll 6 2)) else none)))) else (bif Nat.ble pc 137 then (bif Nat.ble pc 136 then (bif Nat.beq pc 136 then some (.inl (o_al 0 1)) else none) else (bif Nat.beq pc 137 then some (.inl (o_gP 11 14)) else none)) else (bif Nat.ble pc 140 then (bif Nat.beq pc 140 then some (.inl (oS 1 (s_push (.int 3)))) else none) else (bif Nat.ble pc 141 then (bif Nat.beq pc 141 then some (.inl (o_iald)) else none) else (bif Nat.beq pc 142 then some (.inl (oS 1 s_i2l)) else none))))) else (bif Nat.ble pc 150 then (bif Nat.ble pc 144 then (bif Nat.ble pc 143 then (bif Nat.beq pc 143 then some (.inl (oS 1 s_lcmp)) else none) else (bif Nat.beq pc 144 then some (.inl (o_zle 162)) else none)) else (bif Nat.ble pc 147 then (bif Nat.beq pc 147 then some (.inl (o_ll 10 2)) else none) else (bif Nat.ble pc 149 then (bif Nat.beq pc 149 then some (.inl (o_al 0 1)) else none) else (bif Nat.beq pc 150 then some (.inl (o_gP 11 14)) else none)))) else (bif Nat.ble pc 155 then (bif Nat.ble pc 153 then (bif Nat.beq pc 153 then some (.inl (oS 1 (s_push (.int 3)))) else none) else (bif Nat.ble pc 154 then (bif Nat.beq pc 154 then some (.inl (o_iald)) else none) else (bif Nat.beq pc 155 then some (.inl (oS 1 s_i2l)) else none))) else (bif Nat.ble pc 156 then (bif Nat.beq pc 156 then some (.inl (oS 1 s_lcmp)) else none) else (bif Nat.ble pc 157 then (bif Nat.beq pc 157 then some (.inl (o_zle 162)) else none) else (bif Nat.beq pc 160 then some (.inl (oS 1 (s_push (.int 0)))) else none)))))) else (bif Nat.ble pc 174 then (bif Nat.ble pc 166 then (bif Nat.ble pc 162 then (bif Nat.ble pc 161 then (bif Nat.beq pc 161 then some (.inr (0, 0, 0, 4)) else none) else (bif Nat.beq pc 162 then some (.inl (oS 1 (s_push (.int 0)))) else none)) else (bif Nat.ble pc 163 then (bif Nat.beq pc 163 then some (.inl (o_is 12 2)) else none) else (bif Nat.ble pc 165 then (bif Nat.beq pc 165 then some (.inl (oS 1 (s_push (.int 0)))) else none) else (bif Nat.beq pc 166 then some (.inl (o_is 13 2)) else none)))) else (bif Nat.ble pc 169 then (bif Nat.ble pc 168 then (bif Nat.beq pc 168 then some (.inl (oS 1 (s_push (.int 0)))) else none) else (bif Nat.beq pc 169 then some (.inl (o_is 14 2)) else none)) else (bif Nat.ble pc 171 then (bif Nat.beq pc 171 then some (.inl (o_il 14 2)) else none) else (bif Nat.ble pc 173 then (bif Nat.beq pc 173 then some (.inl (oS 1 (s_push (.int 4)))) else none) else (bif Nat.beq pc 174 then some (.inl (o_cge 250)) else none))))) else (bif Nat.ble pc 184 then (bif Nat.ble pc 179 then (bif Nat.ble pc 177 then (bif Nat.beq pc 177 then some (.inl (o_ll 8 2)) else none) else (bif Nat.beq pc 179 then some (.inl (o_ll 4 2)) else none)) else (bif Nat.ble pc 181 then (bif Nat.beq pc 181 then some (.inl (oS 1 (s_ll (fun a b => a - b)))) else none) else (bif Nat.ble pc 182 then (bif Nat.beq pc 182 then some (.inl (o_ll 10 2)) else none) else (bif Nat.beq pc 184 then some (.inl (o_ll 6 2)) else none)))) else (bif Nat.ble pc 188 then (bif Nat.ble pc 186 then (bif Nat.beq pc 186 then some (.inl (oS 1 (s_ll (fun a b => a - b)))) else none) else (bif Nat.ble pc 187 then (bif Nat.beq pc 187 then some (.inl (o_al 0 1)) else none) else (bif Nat.beq pc 188 then some (.inl (o_gP 11 14)) else none))) else (bif Nat.ble pc 191 then (bif Nat.beq pc 191 then some (.inl (o_il 14 2)) else none) else (bif Nat.ble pc 193 then (bif Nat.beq pc 193 then some (.inl (oS 1 (s_push (.int 2)))) else none) else (bif Nat.beq pc 194 then some (.inl (oS 1 (s_iiz (fun a b => a - a / b * b)))) else none))))))) else (bif Nat.ble pc 222 then (bif Nat.ble pc 208 then (bif Nat.ble pc 199 then (bif Nat.ble pc 196 then (bif Nat.ble pc 195 then (bif Nat.beq pc 195 then some (.inl (oS 1 (s_push (.int 2)))) else none) else (bif Nat.beq pc 196 then some (.inl (oS 1 (s_ii (fun a b => a * b)))) else none)) else (bif Nat.ble pc 197 then (bif Nat.beq pc 197 then some (.inl (o_iald)) else none) else (bif Nat.ble pc 198 then (bif Nat.beq pc 198 then some (.inl (oS 1 s_i2l)) else none) else (bif Nat.beq pc 199 then some (.inl (o_ll 4 2)) else none)))) else (bif Nat.ble pc 202 then (bif Nat.ble pc 201 then (bif Nat.beq pc 201 then some (.inl (oS 1 (s_ll (fun a b => a - b)))) else none) else (bif Nat.beq pc 202 then some (.inl (o_al 0 1)) else none)) else (bif Nat.ble pc 203 then (bif Nat.beq pc 203 then some (.inl (o_gP 11 14)) else none) else (bif Nat.ble pc 206 then (bif Nat.beq pc 206 then some (.inl (o_il 14 2)) else none) else (bif Nat.beq pc 208 then some (.inl (oS 1 (s_push (.int 2)))) else none))))) else (bif Nat.ble pc 213 then (bif Nat.ble pc 210 then (bif Nat.ble pc 209 then (bif Nat.beq pc 209 then some (.inl (oS 1 (s_iiz (fun a b => a / b)))) else none) else (bif Nat.beq pc 210 then some (.inl (oS 1 (s_push (.int 2)))) else none)) else (bif Nat.ble pc 211 then (bif Nat.beq pc 211 then some (.inl (oS 1 (s_ii (fun a b => a * b)))) else none) else (bif Nat.ble pc 212 then (bif Nat.beq pc 212 then some (.inl (oS 1 (s_push (.int 1)))) else none) else (bif Nat.beq pc 213 then some (.inl (oS 1 (s_ii (fun a b => a + b)))) else none)))) else (bif Nat.ble pc 216 then (bif Nat.ble pc 214 then (bif Nat.beq pc 214 then some (.inl (o_iald)) else none) else (bif Nat.ble pc 215 then (bif Nat.beq pc 215 then some (.inl (oS 1 s_i2l)) else none) else (bif Nat.beq pc 216 then some (.inl (o_ll 6 2)) else none))) else (bif Nat.ble pc 218 then (bif Nat.beq pc 218 then some (.inl (oS 1 (s_ll (fun a b => a - b)))) else none) else (bif Nat.ble pc 219 then (bif Nat.beq pc 219 then some (.inr (2, 119, 4, 0)) else none) else (bif Nat.beq pc 222 then some (.inl (o_ls 15 2)) else none)))))) else (bif Nat.ble pc 244 then (bif Nat.ble pc 231 then (bif Nat.ble pc 226 then (bif Nat.ble pc 224 then (bif Nat.beq pc 224 then some (.inl (o_ll 15 2)) else none) else (bif Nat.beq pc 226 then some (.inl (oS 1 (s_push (.long 0)))) else none)) else (bif Nat.ble pc 227 then (bif Nat.beq pc 227 then some (.inl (oS 1 s_lcmp)) else none) else (bif Nat.ble pc 228 then (bif Nat.beq pc 228 then some (.inl (o_zle 234)) else none) else (bif Nat.beq pc 231 then some (.inl (o_inc 12 1)) else none)))) else (bif Nat.ble pc 237 then (bif Nat.ble pc 234 then (bif Nat.beq pc 234 then some (.inl (o_ll 15 2)) else none) else (bif Nat.ble pc 236 then (bif Nat.beq pc 236 then some (.inl (oS 1 (s_push (.long 0)))) else none) else (bif Nat.beq pc 237 then some (.inl (oS 1 s_lcmp)) else none))) else (bif Nat.ble pc 238 then (bif Nat.beq pc 238 then some (.inl (o_zge 244)) else none) else (bif Nat.ble pc 241 then (bif Nat.beq pc 241 then some (.inl (o_inc 13 1)) else none) else (bif Nat.beq pc 244 then some (.inl (o_inc 14 1)) else none))))) else (bif Nat.ble pc 256 then (bif Nat.ble pc 250 then (bif Nat.ble pc 247 then (bif Nat.beq pc 247 then some (.inl (o_goto 171)) else none) else (bif Nat.beq pc 250 then some (.inl (o_il 12 2)) else none)) else (bif Nat.ble pc 252 then (bif Nat.beq pc 252 then some (.inl (oS 1 (s_push (.int 4)))) else none) else (bif Nat.ble pc 253 then (bif Nat.beq pc 253 then some (.inl (o_cge 266)) else none) else (bif Nat.beq pc 256 then some (.inl (o_il 13 2)) else none)))) else (bif Nat.ble pc 262 then (bif Nat.ble pc 258 then (bif Nat.beq pc 258 then some (.inl (oS 1 (s_push (.int 4)))) else none) else (bif Nat.ble pc 259 then (bif Nat.beq pc 259 then some (.inl (o_cge 266)) else none) else (bif Nat.beq pc 262 then some (.inl (oS 1 (s_push (.int 1)))) else none))) else (bif Nat.ble pc 263 then (bif Nat.beq pc 263 then some (.inl (o_goto 267)) else none) else (bif Nat.ble pc 266 then (bif Nat.beq pc 266 then some (.inl (oS 1 (s_push (.int 0)))) else none) else (bif Nat.beq pc 267 then some (.inr (0, 0, 0, 4)) else none))))))))
theorem k_153_0 : mOk M_153.1 M_153.2.1 M_153.2.2.1 M_153.2.2.2 0 (o_al 0 1) := ok_aload_n dX11_edgeMeets_0 rfl
theorem k_153_1 : mOk M_153.1 M_153.2.1 M_153.2.2.1 M_153.2.2.2 1 (o_gP 11 7) := ok_gP dX11_edgeMeets_1 f_RX11_32 rfl
theorem k_153_4 : mOk M_153.1 M_153.2.1 M_153.2.2.1 M_153.2.2.2 4 (oS 2 (s_push (.int 12))) := ok_bipush dX11_edgeMeets_4 (by decide)
theorem k_153_6 : mOk M_153.1 M_153.2.1 M_153.2.2.1 M_153.2.2.2 6 (o_il 1 1) := ok_iload_n dX11_edgeMeets_6 rfl
theorem k_153_7 : mOk M_153.1 M_153.2.1 M_153.2.2.1 M_153.2.2.2 7 (oS 1 (s_ii (fun a b => a * b))) := ok_imul dX11_edgeMeets_7
theorem k_153_8 : mOk M_153.1 M_153.2.1 M_153.2.2.1 M_153.2.2.2 8 (o_il 2 1) := ok_iload_n dX11_edgeMeets_8 rfl
theorem k_153_9 : mOk M_153.1 M_153.2.1 M_153.2.2.1 M_153.2.2.2 9 (oS 1 (s_ii (fun a b => a + b))) := ok_iadd dX11_edgeMeets_9
theorem k_153_10 : mOk M_153.1 M_153.2.1 M_153.2.2.1 M_153.2.2.2 10 (o_iald) := ok_iald dX11_edgeMeets_10
theorem k_153_11 : mOk M_153.1 M_153.2.1 M_153.2.2.1 M_153.2.2.2 11 (oS 1 s_i2l) := ok_i2l dX11_edgeMeets_11
theorem k_153_12 : mOk M_153.1 M_153.2.1 M_153.2.2.1 M_153.2.2.2 12 (o_ls 4 2) := ok_lstore dX11_edgeMeets_12
theorem k_153_14 : mOk M_153.1 M_153.2.1 M_153.2.2.1 M_153.2.2.2 14 (o_al 0 1) := ok_aload_n dX11_edgeMeets_14 rfl
theorem k_153_15 : mOk M_153.1 M_153.2.1 M_153.2.2.1 M_153.2.2.2 15 (o_gP 11 8) := ok_gP dX11_edgeMeets_15 f_RX11_35 rfl
theorem k_153_18 : mOk M_153.1 M_153.2.1 M_153.2.2.1 M_153.2.2.2 18 (oS 2 (s_push (.int 12))) := ok_bipush dX11_edgeMeets_18 (by decide)
theorem k_153_20 : mOk M_153.1 M_153.2.1 M_153.2.2.1 M_153.2.2.2 20 (o_il 1 1) := ok_iload_n dX11_edgeMeets_20 rfl
theorem k_153_21 : mOk M_153.1 M_153.2.1 M_153.2.2.1 M_153.2.2.2 21 (oS 1 (s_ii (fun a b => a * b))) := ok_imul dX11_edgeMeets_21
theorem k_153_22 : mOk M_153.1 M_153.2.1 M_153.2.2.1 M_153.2.2.2 22 (o_il 2 1) := ok_iload_n dX11_edgeMeets_22 rfl
theorem k_153_23 : mOk M_153.1 M_153.2.1 M_153.2.2.1 M_153.2.2.2 23 (oS 1 (s_ii (fun a b => a + b))) := ok_iadd dX11_edgeMeets_23
theorem k_153_24 : mOk M_153.1 M_153.2.1 M_153.2.2.1 M_153.2.2.2 24 (o_iald) := ok_iald dX11_edgeMeets_24
theorem k_153_25 : mOk M_153.1 M_153.2.1 M_153.2.2.1 M_153.2.2.2 25 (oS 1 s_i2l) := ok_i2l dX11_edgeMeets_25
theorem k_153_26 : mOk M_153.1 M_153.2.1 M_153.2.2.1 M_153.2.2.2 26 (o_ls 6 2) := ok_lstore dX11_edgeMeets_26
theorem k_153_28 : mOk M_153.1 M_153.2.1 M_153.2.2.1 M_153.2.2.2 28 (o_al 0 1) := ok_aload_n dX11_edgeMeets_28 rfl
theorem k_153_29 : mOk M_153.1 M_153.2.1 M_153.2.2.1 M_153.2.2.2 29 (o_gP 11 7) := ok_gP dX11_edgeMeets_29 f_RX11_32 rfl
theorem k_153_32 : mOk M_153.1 M_153.2.1 M_153.2.2.1 M_153.2.2.2 32 (oS 2 (s_push (.int 12))) := ok_bipush dX11_edgeMeets_32 (by decide)
theorem k_153_34 : mOk M_153.1 M_153.2.1 M_153.2.2.1 M_153.2.2.2 34 (o_il 1 1) := ok_iload_n dX11_edgeMeets_34 rfl
theorem k_153_35 : mOk M_153.1 M_153.2.1 M_153.2.2.1 M_153.2.2.2 35 (oS 1 (s_ii (fun a b => a * b))) := ok_imul dX11_edgeMeets_35
theorem k_153_36 : mOk M_153.1 M_153.2.1 M_153.2.2.1 M_153.2.2.2 36 (o_il 3 1) := ok_iload_n dX11_edgeMeets_36 rfl
theorem k_153_37 : mOk M_153.1 M_153.2.1 M_153.2.2.1 M_153.2.2.2 37 (oS 1 (s_ii (fun a b => a + b))) := ok_iadd dX11_edgeMeets_37
theorem k_153_38 : mOk M_153.1 M_153.2.1 M_153.2.2.1 M_153.2.2.2 38 (o_iald) := ok_iald dX11_edgeMeets_38
theorem k_153_39 : mOk M_153.1 M_153.2.1 M_153.2.2.1 M_153.2.2.2 39 (oS 1 s_i2l) := ok_i2l dX11_edgeMeets_39
theorem k_153_40 : mOk M_153.1 M_153.2.1 M_153.2.2.1 M_153.2.2.2 40 (o_ls 8 2) := ok_lstore dX11_edgeMeets_40
theorem k_153_42 : mOk M_153.1 M_153.2.1 M_153.2.2.1 M_153.2.2.2 42 (o_al 0 1) := ok_aload_n dX11_edgeMeets_42 rfl
theorem k_153_43 : mOk M_153.1 M_153.2.1 M_153.2.2.1 M_153.2.2.2 43 (o_gP 11 8) := ok_gP dX11_edgeMeets_43 f_RX11_35 rfl
theorem k_153_46 : mOk M_153.1 M_153.2.1 M_153.2.2.1 M_153.2.2.2 46 (oS 2 (s_push (.int 12))) := ok_bipush dX11_edgeMeets_46 (by decide)
theorem k_153_48 : mOk M_153.1 M_153.2.1 M_153.2.2.1 M_153.2.2.2 48 (o_il 1 1) := ok_iload_n dX11_edgeMeets_48 rfl
theorem k_153_49 : mOk M_153.1 M_153.2.1 M_153.2.2.1 M_153.2.2.2 49 (oS 1 (s_ii (fun a b => a * b))) := ok_imul dX11_edgeMeets_49
theorem k_153_50 : mOk M_153.1 M_153.2.1 M_153.2.2.1 M_153.2.2.2 50 (o_il 3 1) := ok_iload_n dX11_edgeMeets_50 rfl
theorem k_153_51 : mOk M_153.1 M_153.2.1 M_153.2.2.1 M_153.2.2.2 51 (oS 1 (s_ii (fun a b => a + b))) := ok_iadd dX11_edgeMeets_51
theorem k_153_52 : mOk M_153.1 M_153.2.1 M_153.2.2.1 M_153.2.2.2 52 (o_iald) := ok_iald dX11_edgeMeets_52
theorem k_153_53 : mOk M_153.1 M_153.2.1 M_153.2.2.1 M_153.2.2.2 53 (oS 1 s_i2l) := ok_i2l dX11_edgeMeets_53
theorem k_153_54 : mOk M_153.1 M_153.2.1 M_153.2.2.1 M_153.2.2.2 54 (o_ls 10 2) := ok_lstore dX11_edgeMeets_54
theorem k_153_56 : mOk M_153.1 M_153.2.1 M_153.2.2.1 M_153.2.2.2 56 (o_ll 4 2) := ok_lload dX11_edgeMeets_56
theorem k_153_58 : mOk M_153.1 M_153.2.1 M_153.2.2.1 M_153.2.2.2 58 (o_al 0 1) := ok_aload_n dX11_edgeMeets_58 rfl
theorem k_153_59 : mOk M_153.1 M_153.2.1 M_153.2.2.1 M_153.2.2.2 59 (o_gP 11 14) := ok_gP dX11_edgeMeets_59 f_RX11_44 rfl
theorem k_153_62 : mOk M_153.1 M_153.2.1 M_153.2.2.1 M_153.2.2.2 62 (oS 1 (s_push (.int 0))) := ok_iconst dX11_edgeMeets_62 (by decide)
theorem k_153_63 : mOk M_153.1 M_153.2.1 M_153.2.2.1 M_153.2.2.2 63 (o_iald) := ok_iald dX11_edgeMeets_63
theorem k_153_64 : mOk M_153.1 M_153.2.1 M_153.2.2.1 M_153.2.2.2 64 (oS 1 s_i2l) := ok_i2l dX11_edgeMeets_64
theorem k_153_65 : mOk M_153.1 M_153.2.1 M_153.2.2.1 M_153.2.2.2 65 (oS 1 s_lcmp) := ok_lcmp dX11_edgeMeets_65
theorem k_153_66 : mOk M_153.1 M_153.2.1 M_153.2.2.1 M_153.2.2.2 66 (o_zge 82) := ok_zge dX11_edgeMeets_66 (by decide)
theorem k_153_69 : mOk M_153.1 M_153.2.1 M_153.2.2.1 M_153.2.2.2 69 (o_ll 8 2) := ok_lload dX11_edgeMeets_69
theorem k_153_71 : mOk M_153.1 M_153.2.1 M_153.2.2.1 M_153.2.2.2 71 (o_al 0 1) := ok_aload_n dX11_edgeMeets_71 rfl
theorem k_153_72 : mOk M_153.1 M_153.2.1 M_153.2.2.1 M_153.2.2.2 72 (o_gP 11 14) := ok_gP dX11_edgeMeets_72 f_RX11_44 rfl
theorem k_153_75 : mOk M_153.1 M_153.2.1 M_153.2.2.1 M_153.2.2.2 75 (oS 1 (s_push (.int 0))) := ok_iconst dX11_edgeMeets_75 (by decide)
theorem k_153_76 : mOk M_153.1 M_153.2.1 M_153.2.2.1 M_153.2.2.2 76 (o_iald) := ok_iald dX11_edgeMeets_76
theorem k_153_77 : mOk M_153.1 M_153.2.1 M_153.2.2.1 M_153.2.2.2 77 (oS 1 s_i2l) := ok_i2l dX11_edgeMeets_77
theorem k_153_78 : mOk M_153.1 M_153.2.1 M_153.2.2.1 M_153.2.2.2 78 (oS 1 s_lcmp) := ok_lcmp dX11_edgeMeets_78
theorem k_153_79 : mOk M_153.1 M_153.2.1 M_153.2.2.1 M_153.2.2.2 79 (o_zlt 160) := ok_zlt dX11_edgeMeets_79 (by decide)
theorem k_153_82 : mOk M_153.1 M_153.2.1 M_153.2.2.1 M_153.2.2.2 82 (o_ll 4 2) := ok_lload dX11_edgeMeets_82
theorem k_153_84 : mOk M_153.1 M_153.2.1 M_153.2.2.1 M_153.2.2.2 84 (o_al 0 1) := ok_aload_n dX11_edgeMeets_84 rfl
theorem k_153_85 : mOk M_153.1 M_153.2.1 M_153.2.2.1 M_153.2.2.2 85 (o_gP 11 14) := ok_gP dX11_edgeMeets_85 f_RX11_44 rfl
theorem k_153_88 : mOk M_153.1 M_153.2.1 M_153.2.2.1 M_153.2.2.2 88 (oS 1 (s_push (.int 2))) := ok_iconst dX11_edgeMeets_88 (by decide)
theorem k_153_89 : mOk M_153.1 M_153.2.1 M_153.2.2.1 M_153.2.2.2 89 (o_iald) := ok_iald dX11_edgeMeets_89
theorem k_153_90 : mOk M_153.1 M_153.2.1 M_153.2.2.1 M_153.2.2.2 90 (oS 1 s_i2l) := ok_i2l dX11_edgeMeets_90
theorem k_153_91 : mOk M_153.1 M_153.2.1 M_153.2.2.1 M_153.2.2.2 91 (oS 1 s_lcmp) := ok_lcmp dX11_edgeMeets_91
theorem k_153_92 : mOk M_153.1 M_153.2.1 M_153.2.2.1 M_153.2.2.2 92 (o_zle 108) := ok_zle dX11_edgeMeets_92 (by decide)
theorem k_153_95 : mOk M_153.1 M_153.2.1 M_153.2.2.1 M_153.2.2.2 95 (o_ll 8 2) := ok_lload dX11_edgeMeets_95
theorem k_153_97 : mOk M_153.1 M_153.2.1 M_153.2.2.1 M_153.2.2.2 97 (o_al 0 1) := ok_aload_n dX11_edgeMeets_97 rfl
theorem k_153_98 : mOk M_153.1 M_153.2.1 M_153.2.2.1 M_153.2.2.2 98 (o_gP 11 14) := ok_gP dX11_edgeMeets_98 f_RX11_44 rfl
theorem k_153_101 : mOk M_153.1 M_153.2.1 M_153.2.2.1 M_153.2.2.2 101 (oS 1 (s_push (.int 2))) := ok_iconst dX11_edgeMeets_101 (by decide)
theorem k_153_102 : mOk M_153.1 M_153.2.1 M_153.2.2.1 M_153.2.2.2 102 (o_iald) := ok_iald dX11_edgeMeets_102
theorem k_153_103 : mOk M_153.1 M_153.2.1 M_153.2.2.1 M_153.2.2.2 103 (oS 1 s_i2l) := ok_i2l dX11_edgeMeets_103
theorem k_153_104 : mOk M_153.1 M_153.2.1 M_153.2.2.1 M_153.2.2.2 104 (oS 1 s_lcmp) := ok_lcmp dX11_edgeMeets_104
theorem k_153_105 : mOk M_153.1 M_153.2.1 M_153.2.2.1 M_153.2.2.2 105 (o_zgt 160) := ok_zgt dX11_edgeMeets_105 (by decide)
theorem k_153_108 : mOk M_153.1 M_153.2.1 M_153.2.2.1 M_153.2.2.2 108 (o_ll 6 2) := ok_lload dX11_edgeMeets_108
theorem k_153_110 : mOk M_153.1 M_153.2.1 M_153.2.2.1 M_153.2.2.2 110 (o_al 0 1) := ok_aload_n dX11_edgeMeets_110 rfl
theorem k_153_111 : mOk M_153.1 M_153.2.1 M_153.2.2.1 M_153.2.2.2 111 (o_gP 11 14) := ok_gP dX11_edgeMeets_111 f_RX11_44 rfl
theorem k_153_114 : mOk M_153.1 M_153.2.1 M_153.2.2.1 M_153.2.2.2 114 (oS 1 (s_push (.int 1))) := ok_iconst dX11_edgeMeets_114 (by decide)
theorem k_153_115 : mOk M_153.1 M_153.2.1 M_153.2.2.1 M_153.2.2.2 115 (o_iald) := ok_iald dX11_edgeMeets_115
theorem k_153_116 : mOk M_153.1 M_153.2.1 M_153.2.2.1 M_153.2.2.2 116 (oS 1 s_i2l) := ok_i2l dX11_edgeMeets_116
theorem k_153_117 : mOk M_153.1 M_153.2.1 M_153.2.2.1 M_153.2.2.2 117 (oS 1 s_lcmp) := ok_lcmp dX11_edgeMeets_117
theorem k_153_118 : mOk M_153.1 M_153.2.1 M_153.2.2.1 M_153.2.2.2 118 (o_zge 134) := ok_zge dX11_edgeMeets_118 (by decide)
theorem k_153_121 : mOk M_153.1 M_153.2.1 M_153.2.2.1 M_153.2.2.2 121 (o_ll 10 2) := ok_lload dX11_edgeMeets_121
theorem k_153_123 : mOk M_153.1 M_153.2.1 M_153.2.2.1 M_153.2.2.2 123 (o_al 0 1) := ok_aload_n dX11_edgeMeets_123 rfl
theorem k_153_124 : mOk M_153.1 M_153.2.1 M_153.2.2.1 M_153.2.2.2 124 (o_gP 11 14) := ok_gP dX11_edgeMeets_124 f_RX11_44 rfl
theorem k_153_127 : mOk M_153.1 M_153.2.1 M_153.2.2.1 M_153.2.2.2 127 (oS 1 (s_push (.int 1))) := ok_iconst dX11_edgeMeets_127 (by decide)
theorem k_153_128 : mOk M_153.1 M_153.2.1 M_153.2.2.1 M_153.2.2.2 128 (o_iald) := ok_iald dX11_edgeMeets_128
theorem k_153_129 : mOk M_153.1 M_153.2.1 M_153.2.2.1 M_153.2.2.2 129 (oS 1 s_i2l) := ok_i2l dX11_edgeMeets_129
theorem k_153_130 : mOk M_153.1 M_153.2.1 M_153.2.2.1 M_153.2.2.2 130 (oS 1 s_lcmp) := ok_lcmp dX11_edgeMeets_130
theorem k_153_131 : mOk M_153.1 M_153.2.1 M_153.2.2.1 M_153.2.2.2 131 (o_zlt 160) := ok_zlt dX11_edgeMeets_131 (by decide)
theorem k_153_134 : mOk M_153.1 M_153.2.1 M_153.2.2.1 M_153.2.2.2 134 (o_ll 6 2) := ok_lload dX11_edgeMeets_134
theorem k_153_136 : mOk M_153.1 M_153.2.1 M_153.2.2.1 M_153.2.2.2 136 (o_al 0 1) := ok_aload_n dX11_edgeMeets_136 rfl
theorem k_153_137 : mOk M_153.1 M_153.2.1 M_153.2.2.1 M_153.2.2.2 137 (o_gP 11 14) := ok_gP dX11_edgeMeets_137 f_RX11_44 rfl
theorem k_153_140 : mOk M_153.1 M_153.2.1 M_153.2.2.1 M_153.2.2.2 140 (oS 1 (s_push (.int 3))) := ok_iconst dX11_edgeMeets_140 (by decide)
theorem k_153_141 : mOk M_153.1 M_153.2.1 M_153.2.2.1 M_153.2.2.2 141 (o_iald) := ok_iald dX11_edgeMeets_141
theorem k_153_142 : mOk M_153.1 M_153.2.1 M_153.2.2.1 M_153.2.2.2 142 (oS 1 s_i2l) := ok_i2l dX11_edgeMeets_142
theorem k_153_143 : mOk M_153.1 M_153.2.1 M_153.2.2.1 M_153.2.2.2 143 (oS 1 s_lcmp) := ok_lcmp dX11_edgeMeets_143
theorem k_153_144 : mOk M_153.1 M_153.2.1 M_153.2.2.1 M_153.2.2.2 144 (o_zle 162) := ok_zle dX11_edgeMeets_144 (by decide)
theorem k_153_147 : mOk M_153.1 M_153.2.1 M_153.2.2.1 M_153.2.2.2 147 (o_ll 10 2) := ok_lload dX11_edgeMeets_147
theorem k_153_149 : mOk M_153.1 M_153.2.1 M_153.2.2.1 M_153.2.2.2 149 (o_al 0 1) := ok_aload_n dX11_edgeMeets_149 rfl
theorem k_153_150 : mOk M_153.1 M_153.2.1 M_153.2.2.1 M_153.2.2.2 150 (o_gP 11 14) := ok_gP dX11_edgeMeets_150 f_RX11_44 rfl
theorem k_153_153 : mOk M_153.1 M_153.2.1 M_153.2.2.1 M_153.2.2.2 153 (oS 1 (s_push (.int 3))) := ok_iconst dX11_edgeMeets_153 (by decide)
theorem k_153_154 : mOk M_153.1 M_153.2.1 M_153.2.2.1 M_153.2.2.2 154 (o_iald) := ok_iald dX11_edgeMeets_154
theorem k_153_155 : mOk M_153.1 M_153.2.1 M_153.2.2.1 M_153.2.2.2 155 (oS 1 s_i2l) := ok_i2l dX11_edgeMeets_155
theorem k_153_156 : mOk M_153.1 M_153.2.1 M_153.2.2.1 M_153.2.2.2 156 (oS 1 s_lcmp) := ok_lcmp dX11_edgeMeets_156
theorem k_153_157 : mOk M_153.1 M_153.2.1 M_153.2.2.1 M_153.2.2.2 157 (o_zle 162) := ok_zle dX11_edgeMeets_157 (by decide)
theorem k_153_160 : mOk M_153.1 M_153.2.1 M_153.2.2.1 M_153.2.2.2 160 (oS 1 (s_push (.int 0))) := ok_iconst dX11_edgeMeets_160 (by decide)
theorem k_153_162 : mOk M_153.1 M_153.2.1 M_153.2.2.1 M_153.2.2.2 162 (oS 1 (s_push (.int 0))) := ok_iconst dX11_edgeMeets_162 (by decide)
theorem k_153_163 : mOk M_153.1 M_153.2.1 M_153.2.2.1 M_153.2.2.2 163 (o_is 12 2) := ok_istore dX11_edgeMeets_163
theorem k_153_165 : mOk M_153.1 M_153.2.1 M_153.2.2.1 M_153.2.2.2 165 (oS 1 (s_push (.int 0))) := ok_iconst dX11_edgeMeets_165 (by decide)
theorem k_153_166 : mOk M_153.1 M_153.2.1 M_153.2.2.1 M_153.2.2.2 166 (o_is 13 2) := ok_istore dX11_edgeMeets_166
theorem k_153_168 : mOk M_153.1 M_153.2.1 M_153.2.2.1 M_153.2.2.2 168 (oS 1 (s_push (.int 0))) := ok_iconst dX11_edgeMeets_168 (by decide)
theorem k_153_169 : mOk M_153.1 M_153.2.1 M_153.2.2.1 M_153.2.2.2 169 (o_is 14 2) := ok_istore dX11_edgeMeets_169
theorem k_153_171 : mOk M_153.1 M_153.2.1 M_153.2.2.1 M_153.2.2.2 171 (o_il 14 2) := ok_iload dX11_edgeMeets_171
theorem k_153_173 : mOk M_153.1 M_153.2.1 M_153.2.2.1 M_153.2.2.2 173 (oS 1 (s_push (.int 4))) := ok_iconst dX11_edgeMeets_173 (by decide)
theorem k_153_174 : mOk M_153.1 M_153.2.1 M_153.2.2.1 M_153.2.2.2 174 (o_cge 250) := ok_cge dX11_edgeMeets_174 (by decide)
theorem k_153_177 : mOk M_153.1 M_153.2.1 M_153.2.2.1 M_153.2.2.2 177 (o_ll 8 2) := ok_lload dX11_edgeMeets_177
theorem k_153_179 : mOk M_153.1 M_153.2.1 M_153.2.2.1 M_153.2.2.2 179 (o_ll 4 2) := ok_lload dX11_edgeMeets_179
theorem k_153_181 : mOk M_153.1 M_153.2.1 M_153.2.2.1 M_153.2.2.2 181 (oS 1 (s_ll (fun a b => a - b))) := ok_lsub dX11_edgeMeets_181
theorem k_153_182 : mOk M_153.1 M_153.2.1 M_153.2.2.1 M_153.2.2.2 182 (o_ll 10 2) := ok_lload dX11_edgeMeets_182
theorem k_153_184 : mOk M_153.1 M_153.2.1 M_153.2.2.1 M_153.2.2.2 184 (o_ll 6 2) := ok_lload dX11_edgeMeets_184
theorem k_153_186 : mOk M_153.1 M_153.2.1 M_153.2.2.1 M_153.2.2.2 186 (oS 1 (s_ll (fun a b => a - b))) := ok_lsub dX11_edgeMeets_186
theorem k_153_187 : mOk M_153.1 M_153.2.1 M_153.2.2.1 M_153.2.2.2 187 (o_al 0 1) := ok_aload_n dX11_edgeMeets_187 rfl
theorem k_153_188 : mOk M_153.1 M_153.2.1 M_153.2.2.1 M_153.2.2.2 188 (o_gP 11 14) := ok_gP dX11_edgeMeets_188 f_RX11_44 rfl
theorem k_153_191 : mOk M_153.1 M_153.2.1 M_153.2.2.1 M_153.2.2.2 191 (o_il 14 2) := ok_iload dX11_edgeMeets_191
theorem k_153_193 : mOk M_153.1 M_153.2.1 M_153.2.2.1 M_153.2.2.2 193 (oS 1 (s_push (.int 2))) := ok_iconst dX11_edgeMeets_193 (by decide)
theorem k_153_194 : mOk M_153.1 M_153.2.1 M_153.2.2.1 M_153.2.2.2 194 (oS 1 (s_iiz (fun a b => a - a / b * b))) := ok_irem dX11_edgeMeets_194
theorem k_153_195 : mOk M_153.1 M_153.2.1 M_153.2.2.1 M_153.2.2.2 195 (oS 1 (s_push (.int 2))) := ok_iconst dX11_edgeMeets_195 (by decide)
theorem k_153_196 : mOk M_153.1 M_153.2.1 M_153.2.2.1 M_153.2.2.2 196 (oS 1 (s_ii (fun a b => a * b))) := ok_imul dX11_edgeMeets_196
theorem k_153_197 : mOk M_153.1 M_153.2.1 M_153.2.2.1 M_153.2.2.2 197 (o_iald) := ok_iald dX11_edgeMeets_197
theorem k_153_198 : mOk M_153.1 M_153.2.1 M_153.2.2.1 M_153.2.2.2 198 (oS 1 s_i2l) := ok_i2l dX11_edgeMeets_198
theorem k_153_199 : mOk M_153.1 M_153.2.1 M_153.2.2.1 M_153.2.2.2 199 (o_ll 4 2) := ok_lload dX11_edgeMeets_199
theorem k_153_201 : mOk M_153.1 M_153.2.1 M_153.2.2.1 M_153.2.2.2 201 (oS 1 (s_ll (fun a b => a - b))) := ok_lsub dX11_edgeMeets_201
theorem k_153_202 : mOk M_153.1 M_153.2.1 M_153.2.2.1 M_153.2.2.2 202 (o_al 0 1) := ok_aload_n dX11_edgeMeets_202 rfl
theorem k_153_203 : mOk M_153.1 M_153.2.1 M_153.2.2.1 M_153.2.2.2 203 (o_gP 11 14) := ok_gP dX11_edgeMeets_203 f_RX11_44 rfl
theorem k_153_206 : mOk M_153.1 M_153.2.1 M_153.2.2.1 M_153.2.2.2 206 (o_il 14 2) := ok_iload dX11_edgeMeets_206
theorem k_153_208 : mOk M_153.1 M_153.2.1 M_153.2.2.1 M_153.2.2.2 208 (oS 1 (s_push (.int 2))) := ok_iconst dX11_edgeMeets_208 (by decide)
theorem k_153_209 : mOk M_153.1 M_153.2.1 M_153.2.2.1 M_153.2.2.2 209 (oS 1 (s_iiz (fun a b => a / b))) := ok_idiv dX11_edgeMeets_209
theorem k_153_210 : mOk M_153.1 M_153.2.1 M_153.2.2.1 M_153.2.2.2 210 (oS 1 (s_push (.int 2))) := ok_iconst dX11_edgeMeets_210 (by decide)
theorem k_153_211 : mOk M_153.1 M_153.2.1 M_153.2.2.1 M_153.2.2.2 211 (oS 1 (s_ii (fun a b => a * b))) := ok_imul dX11_edgeMeets_211
theorem k_153_212 : mOk M_153.1 M_153.2.1 M_153.2.2.1 M_153.2.2.2 212 (oS 1 (s_push (.int 1))) := ok_iconst dX11_edgeMeets_212 (by decide)
theorem k_153_213 : mOk M_153.1 M_153.2.1 M_153.2.2.1 M_153.2.2.2 213 (oS 1 (s_ii (fun a b => a + b))) := ok_iadd dX11_edgeMeets_213
theorem k_153_214 : mOk M_153.1 M_153.2.1 M_153.2.2.1 M_153.2.2.2 214 (o_iald) := ok_iald dX11_edgeMeets_214
theorem k_153_215 : mOk M_153.1 M_153.2.1 M_153.2.2.1 M_153.2.2.2 215 (oS 1 s_i2l) := ok_i2l dX11_edgeMeets_215
theorem k_153_216 : mOk M_153.1 M_153.2.1 M_153.2.2.1 M_153.2.2.2 216 (o_ll 6 2) := ok_lload dX11_edgeMeets_216
theorem k_153_218 : mOk M_153.1 M_153.2.1 M_153.2.2.1 M_153.2.2.2 218 (oS 1 (s_ll (fun a b => a - b))) := ok_lsub dX11_edgeMeets_218
theorem k_153_222 : mOk M_153.1 M_153.2.1 M_153.2.2.1 M_153.2.2.2 222 (o_ls 15 2) := ok_lstore dX11_edgeMeets_222
theorem k_153_224 : mOk M_153.1 M_153.2.1 M_153.2.2.1 M_153.2.2.2 224 (o_ll 15 2) := ok_lload dX11_edgeMeets_224
theorem k_153_226 : mOk M_153.1 M_153.2.1 M_153.2.2.1 M_153.2.2.2 226 (oS 1 (s_push (.long 0))) := ok_lconst dX11_edgeMeets_226 (by decide)
theorem k_153_227 : mOk M_153.1 M_153.2.1 M_153.2.2.1 M_153.2.2.2 227 (oS 1 s_lcmp) := ok_lcmp dX11_edgeMeets_227
theorem k_153_228 : mOk M_153.1 M_153.2.1 M_153.2.2.1 M_153.2.2.2 228 (o_zle 234) := ok_zle dX11_edgeMeets_228 (by decide)
theorem k_153_231 : mOk M_153.1 M_153.2.1 M_153.2.2.1 M_153.2.2.2 231 (o_inc 12 1) := ok_iinc dX11_edgeMeets_231 (by decide)
theorem k_153_234 : mOk M_153.1 M_153.2.1 M_153.2.2.1 M_153.2.2.2 234 (o_ll 15 2) := ok_lload dX11_edgeMeets_234
theorem k_153_236 : mOk M_153.1 M_153.2.1 M_153.2.2.1 M_153.2.2.2 236 (oS 1 (s_push (.long 0))) := ok_lconst dX11_edgeMeets_236 (by decide)
theorem k_153_237 : mOk M_153.1 M_153.2.1 M_153.2.2.1 M_153.2.2.2 237 (oS 1 s_lcmp) := ok_lcmp dX11_edgeMeets_237
theorem k_153_238 : mOk M_153.1 M_153.2.1 M_153.2.2.1 M_153.2.2.2 238 (o_zge 244) := ok_zge dX11_edgeMeets_238 (by decide)
theorem k_153_241 : mOk M_153.1 M_153.2.1 M_153.2.2.1 M_153.2.2.2 241 (o_inc 13 1) := ok_iinc dX11_edgeMeets_241 (by decide)
theorem k_153_244 : mOk M_153.1 M_153.2.1 M_153.2.2.1 M_153.2.2.2 244 (o_inc 14 1) := ok_iinc dX11_edgeMeets_244 (by decide)
theorem k_153_247 : mOk M_153.1 M_153.2.1 M_153.2.2.1 M_153.2.2.2 247 (o_goto 171) := ok_goto dX11_edgeMeets_247 (by decide)
theorem k_153_250 : mOk M_153.1 M_153.2.1 M_153.2.2.1 M_153.2.2.2 250 (o_il 12 2) := ok_iload dX11_edgeMeets_250
theorem k_153_252 : mOk M_153.1 M_153.2.1 M_153.2.2.1 M_153.2.2.2 252 (oS 1 (s_push (.int 4))) := ok_iconst dX11_edgeMeets_252 (by decide)
theorem k_153_253 : mOk M_153.1 M_153.2.1 M_153.2.2.1 M_153.2.2.2 253 (o_cge 266) := ok_cge dX11_edgeMeets_253 (by decide)
theorem k_153_256 : mOk M_153.1 M_153.2.1 M_153.2.2.1 M_153.2.2.2 256 (o_il 13 2) := ok_iload dX11_edgeMeets_256
theorem k_153_258 : mOk M_153.1 M_153.2.1 M_153.2.2.1 M_153.2.2.2 258 (oS 1 (s_push (.int 4))) := ok_iconst dX11_edgeMeets_258 (by decide)
theorem k_153_259 : mOk M_153.1 M_153.2.1 M_153.2.2.1 M_153.2.2.2 259 (o_cge 266) := ok_cge dX11_edgeMeets_259 (by decide)
theorem k_153_262 : mOk M_153.1 M_153.2.1 M_153.2.2.1 M_153.2.2.2 262 (oS 1 (s_push (.int 1))) := ok_iconst dX11_edgeMeets_262 (by decide)
theorem k_153_263 : mOk M_153.1 M_153.2.1 M_153.2.2.1 M_153.2.2.2 263 (o_goto 267) := ok_goto dX11_edgeMeets_263 (by decide)
theorem k_153_266 : mOk M_153.1 M_153.2.1 M_153.2.2.1 M_153.2.2.2 266 (oS 1 (s_push (.int 0))) := ok_iconst dX11_edgeMeets_266 (by decide)
set_option maxRecDepth 20000 in
set_option maxHeartbeats 4000000 in
theorem tk_153 (l : Launch) (H9 : mThr l) (H10 : mSpl l) (pc : Nat) (q : mEnt) (h : tb_153 pc = some q) : EE l 153 pc q := nd h (fun h => nd h (fun h => nd h (fun h => nd h (fun h => nd h (fun h => nd h (fun h => nd h (fun h => lf (P := EE l 153) h k_153_0) (fun h => lf (P := EE l 153) h k_153_1)) (fun h => nd h (fun h => lf (P := EE l 153) h k_153_4) (fun h => nd h (fun h => lf (P := EE l 153) h k_153_6) (fun h => lf (P := EE l 153) h k_153_7)))) (fun h => nd h (fun h => nd h (fun h => lf (P := EE l 153) h k_153_8) (fun h => lf (P := EE l 153) h k_153_9)) (fun h => nd h (fun h => lf (P := EE l 153) h k_153_10) (fun h => nd h (fun h => lf (P := EE l 153) h k_153_11) (fun h => lf (P := EE l 153) h k_153_12))))) (fun h => nd h (fun h => nd h (fun h => nd h (fun h => lf (P := EE l 153) h k_153_14) (fun h => lf (P := EE l 153) h k_153_15)) (fun h => nd h (fun h => lf (P := EE l 153) h k_153_18) (fun h => nd h (fun h => lf (P := EE l 153) h k_153_20) (fun h => lf (P := EE l 153) h k_153_21)))) (fun h => nd h (fun h => nd h (fun h => lf (P := EE l 153) h k_153_22) (fun h => nd h (fun h => lf (P := EE l 153) h k_153_23) (fun h => lf (P := EE l 153) h k_153_24))) (fun h => nd h (fun h => lf (P := EE l 153) h k_153_25) (fun h => nd h (fun h => lf (P := EE l 153) h k_153_26) (fun h => lf (P := EE l 153) h k_153_28)))))) (fun h => nd h (fun h => nd h (fun h => nd h (fun h => nd h (fun h => lf (P := EE l 153) h k_153_29) (fun h => lf (P := EE l 153) h k_153_32)) (fun h => nd h (fun h => lf (P := EE l 153) h k_153_34) (fun h => nd h (fun h => lf (P := EE l 153) h k_153_35) (fun h => lf (P := EE l 153) h k_153_36)))) (fun h => nd h (fun h => nd h (fun h => lf (P := EE l 153) h k_153_37) (fun h => lf (P := EE l 153) h k_153_38)) (fun h => nd h (fun h => lf (P := EE l 153) h k_153_39) (fun h => nd h (fun h => lf (P := EE l 153) h k_153_40) (fun h => lf (P := EE l 153) h k_153_42))))) (fun h => nd h (fun h => nd h (fun h => nd h (fun h => lf (P := EE l 153) h k_153_43) (fun h => lf (P := EE l 153) h k_153_46)) (fun h => nd h (fun h => lf (P := EE l 153) h k_153_48) (fun h => nd h (fun h => lf (P := EE l 153) h k_153_49) (fun h => lf (P := EE l 153) h k_153_50)))) (fun h => nd h (fun h => nd h (fun h => lf (P := EE l 153) h k_153_51) (fun h => nd h (fun h => lf (P := EE l 153) h k_153_52) (fun h => lf (P := EE l 153) h k_153_53))) (fun h => nd h (fun h => lf (P := EE l 153) h k_153_54) (fun h => nd h (fun h => lf (P := EE l 153) h k_153_56) (fun h => lf (P := EE l 153) h k_153_58))))))) (fun h => nd h (fun h => nd h (fun h => nd h (fun h => nd h (fun h => nd h (fun h => lf (P := EE l 153) h k_153_59) (fun h => lf (P := EE l 153) h k_153_62)) (fun h => nd h (fun h => lf (P := EE l 153) h k_153_63) (fun h => nd h (fun h => lf (P := EE l 153) h k_153_64) (fun h => lf (P := EE l 153) h k_153_65)))) (fun h => nd h (fun h => nd h (fun h => lf (P := EE l 153) h k_153_66) (fun h => lf (P := EE l 153) h k_153_69)) (fun h => nd h (fun h => lf (P := EE l 153) h k_153_71) (fun h => nd h (fun h => lf (P := EE l 153) h k_153_72) (fun h => lf (P := EE l 153) h k_153_75))))) (fun h => nd h (fun h => nd h (fun h => nd h (fun h => lf (P := EE l 153) h k_153_76) (fun h => lf (P := EE l 153) h k_153_77)) (fun h => nd h (fun h => lf (P := EE l 153) h k_153_78) (fun h => nd h (fun h => lf (P := EE l 153) h k_153_79) (fun h => lf (P := EE l 153) h k_153_82)))) (fun h => nd h (fun h => nd h (fun h => lf (P := EE l 153) h k_153_84) (fun h => nd h (fun h => lf (P := EE l 153) h k_153_85) (fun h => lf (P := EE l 153) h k_153_88))) (fun h => nd h (fun h => lf (P := EE l 153) h k_153_89) (fun h => nd h (fun h => lf (P := EE l 153) h k_153_90) (fun h => lf (P := EE l 153) h k_153_91)))))) (fun h => nd h (fun h => nd h (fun h => nd h (fun h => nd h (fun h => lf (P := EE l 153) h k_153_92) (fun h => lf (P := EE l 153) h k_153_95)) (fun h => nd h (fun h => lf (P := EE l 153) h k_153_97) (fun h => nd h (fun h => lf (P := EE l 153) h k_153_98) (fun h => lf (P := EE l 153) h k_153_101)))) (fun h => nd h (fun h => nd h (fun h => lf (P := EE l 153) h k_153_102) (fun h => lf (P := EE l 153) h k_153_103)) (fun h => nd h (fun h => lf (P := EE l 153) h k_153_104) (fun h => nd h (fun h => lf (P := EE l 153) h k_153_105) (fun h => lf (P := EE l 153) h k_153_108))))) (fun h => nd h (fun h => nd h (fun h => nd h (fun h => lf (P := EE l 153) h k_153_110) (fun h => lf (P := EE l 153) h k_153_111)) (fun h => nd h (fun h => lf (P := EE l 153) h k_153_114) (fun h => nd h (fun h => lf (P := EE l 153) h k_153_115) (fun h => lf (P := EE l 153) h k_153_116)))) (fun h => nd h (fun h => nd h (fun h => lf (P := EE l 153) h k_153_117) (fun h => nd h (fun h => lf (P := EE l 153) h k_153_118) (fun h => lf (P := EE l 153) h k_153_121))) (fun h => nd h (fun h => lf (P := EE l 153) h k_153_123) (fun h => nd h (fun h => lf (P := EE l 153) h k_153_124) (fun h => lf (P := EE l 153) h k_153_127)))))))) (fun h => nd h (fun h => nd h (fun h => nd h (fun h => nd h (fun h => nd h (fun h => nd h (fun h => lf (P := EE l 153) h k_153_128) (fun h => lf (P := EE l 153) h k_153_129)) (fun h => nd h (fun h => lf (P := EE l 153) h k_153_130) (fun h => nd h (fun h => lf (P := EE l 153) h k_153_131) (fun h => lf (P := EE l 153) h k_153_134)))) (fun h => nd h (fun h => nd h (fun h => lf (P := EE l 153) h k_153_136) (fun h => lf (P := EE l 153) h k_153_137)) (fun h => nd h (fun h => lf (P := EE l 153) h k_153_140) (fun h => nd h (fun h => lf (P := EE l 153) h k_153_141) (fun h => lf (P := EE l 153) h k_153_142))))) (fun h => nd h (fun h => nd h (fun h => nd h (fun h => lf (P := EE l 153) h k_153_143) (fun h => lf (P := EE l 153) h k_153_144)) (fun h => nd h (fun h => lf (P := EE l 153) h k_153_147) (fun h => nd h (fun h => lf (P := EE l 153) h k_153_149) (fun h => lf (P := EE l 153) h k_153_150)))) (fun h => nd h (fun h => nd h (fun h => lf (P := EE l 153) h k_153_153) (fun h => nd h (fun h => lf (P := EE l 153) h k_153_154) (fun h => lf (P := EE l 153) h k_153_155))) (fun h => nd h (fun h => lf (P := EE l 153) h k_153_156) (fun h => nd h (fun h => lf (P := EE l 153) h k_153_157) (fun h => lf (P := EE l 153) h k_153_160)))))) (fun h => nd h (fun h => nd h (fun h => nd h (fun h => nd h (fun h => lf (P := EE l 153) h (EE_re (Or.inr (Or.inl ⟨rfl, dX11_edgeMeets_161, rfl⟩)))) (fun h => lf (P := EE l 153) h k_153_162)) (fun h => nd h (fun h => lf (P := EE l 153) h k_153_163) (fun h => nd h (fun h => lf (P := EE l 153) h k_153_165) (fun h => lf (P := EE l 153) h k_153_166)))) (fun h => nd h (fun h => nd h (fun h => lf (P := EE l 153) h k_153_168) (fun h => lf (P := EE l 153) h k_153_169)) (fun h => nd h (fun h => lf (P := EE l 153) h k_153_171) (fun h => nd h (fun h => lf (P := EE l 153) h k_153_173) (fun h => lf (P := EE l 153) h k_153_174))))) (fun h => nd h (fun h => nd h (fun h => nd h (fun h => lf (P := EE l 153) h k_153_177) (fun h => lf (P := EE l 153) h k_153_179)) (fun h => nd h (fun h => lf (P := EE l 153) h k_153_181) (fun h => nd h (fun h => lf (P := EE l 153) h k_153_182) (fun h => lf (P := EE l 153) h k_153_184)))) (fun h => nd h (fun h => nd h (fun h => lf (P := EE l 153) h k_153_186) (fun h => nd h (fun h => lf (P := EE l 153) h k_153_187) (fun h => lf (P := EE l 153) h k_153_188))) (fun h => nd h (fun h => lf (P := EE l 153) h k_153_191) (fun h => nd h (fun h => lf (P := EE l 153) h k_153_193) (fun h => lf (P := EE l 153) h k_153_194))))))) (fun h => nd h (fun h => nd h (fun h => nd h (fun h => nd h (fun h => nd h (fun h => lf (P := EE l 153) h k_153_195) (fun h => lf (P := EE l 153) h k_153_196)) (fun h => nd h (fun h => lf (P := EE l 153) h k_153_197) (fun h => nd h (fun h => lf (P := EE l 153) h k_153_198) (fun h => lf (P := EE l 153) h k_153_199)))) (fun h => nd h (fun h => nd h (fun h => lf (P := EE l 153) h k_153_201) (fun h => lf (P := EE l 153) h k_153_202)) (fun h => nd h (fun h => lf (P := EE l 153) h k_153_203) (fun h => nd h (fun h => lf (P := EE l 153) h k_153_206) (fun h => lf (P := EE l 153) h k_153_208))))) (fun h => nd h (fun h => nd h (fun h => nd h (fun h => lf (P := EE l 153) h k_153_209) (fun h => lf (P := EE l 153) h k_153_210)) (fun h => nd h (fun h => lf (P := EE l 153) h k_153_211) (fun h => nd h (fun h => lf (P := EE l 153) h k_153_212) (fun h => lf (P := EE l 153) h k_153_213)))) (fun h => nd h (fun h => nd h (fun h => lf (P := EE l 153) h k_153_214) (fun h => nd h (fun h => lf (P := EE l 153) h k_153_215) (fun h => lf (P := EE l 153) h k_153_216))) (fun h => nd h (fun h => lf (P := EE l 153) h k_153_218) (fun h => nd h (fun h => lf (P := EE l 153) h (EE_ca (by decide) (⟨m_1244, m_81, ⟨by decide, by decide⟩, by decide +kernel, ⟨by decide, by decide⟩, 148, 4, by decide +kernel, Or.inl ⟨rfl, rfl, dX11_edgeMeets_219, m_1242, m_1243⟩⟩) rfl)) (fun h => lf (P := EE l 153) h k_153_222)))))) (fun h => nd h (fun h => nd h (fun h => nd h (fun h => nd h (fun h => lf (P := EE l 153) h k_153_224) (fun h => lf (P := EE l 153) h k_153_226)) (fun h => nd h (fun h => lf (P := EE l 153) h k_153_227) (fun h => nd h (fun h => lf (P := EE l 153) h k_153_228) (fun h => lf (P := EE l 153) h k_153_231)))) (fun h => nd h (fun h => nd h (fun h => lf (P := EE l 153) h k_153_234) (fun h => nd h (fun h => lf (P := EE l 153) h k_153_236) (fun h => lf (P := EE l 153) h k_153_237))) (fun h => nd h (fun h => lf (P := EE l 153) h k_153_238) (fun h => nd h (fun h => lf (P := EE l 153) h k_153_241) (fun h => lf (P := EE l 153) h k_153_244))))) (fun h => nd h (fun h => nd h (fun h => nd h (fun h => lf (P := EE l 153) h k_153_247) (fun h => lf (P := EE l 153) h k_153_250)) (fun h => nd h (fun h => lf (P := EE l 153) h k_153_252) (fun h => nd h (fun h => lf (P := EE l 153) h k_153_253) (fun h => lf (P := EE l 153) h k_153_256)))) (fun h => nd h (fun h => nd h (fun h => lf (P := EE l 153) h k_153_258) (fun h => nd h (fun h => lf (P := EE l 153) h k_153_259) (fun h => lf (P := EE l 153) h k_153_262))) (fun h => nd h (fun h => lf (P := EE l 153) h k_153_263) (fun h => nd h (fun h => lf (P := EE l 153) h k_153_266) (fun h => lf (P := EE l 153) h (EE_re (Or.inr (Or.inl ⟨rfl, dX11_edgeMeets_267, rfl⟩)))))))))))
theorem dX11_holdsRegion_0 : decode cX11_holdsRegion 0 = .ok (.iconst 0, 1) := by decide +kernel
theorem dX11_holdsRegion_1 : decode cX11_holdsRegion 1 = .ok (.istore_n 2, 1) := by decide +kernel
theorem dX11_holdsRegion_2 : decode cX11_holdsRegion 2 = .ok (.aload_n 0, 1) := by decide +kernel
theorem dX11_holdsRegion_3 : decode cX11_holdsRegion 3 = .ok (.getfield 44, 3) := by decide +kernel
theorem dX11_holdsRegion_6 : decode cX11_holdsRegion 6 = .ok (.iconst 0, 1) := by decide +kernel
theorem dX11_holdsRegion_7 : decode cX11_holdsRegion 7 = .ok (.iaload, 1) := by decide +kernel
theorem dX11_holdsRegion_8 : decode cX11_holdsRegion 8 = .ok (.i2l, 1) := by decide +kernel
theorem dX11_holdsRegion_9 : decode cX11_holdsRegion 9 = .ok (.lstore_n 3, 1) := by decide +kernel
theorem dX11_holdsRegion_10 : decode cX11_holdsRegion 10 = .ok (.aload_n 0, 1) := by decide +kernel
theorem dX11_holdsRegion_11 : decode cX11_holdsRegion 11 = .ok (.getfield 44, 3) := by decide +kernel
theorem dX11_holdsRegion_14 : decode cX11_holdsRegion 14 = .ok (.iconst 1, 1) := by decide +kernel
theorem dX11_holdsRegion_15 : decode cX11_holdsRegion 15 = .ok (.iaload, 1) := by decide +kernel
theorem dX11_holdsRegion_16 : decode cX11_holdsRegion 16 = .ok (.i2l, 1) := by decide +kernel
theorem dX11_holdsRegion_17 : decode cX11_holdsRegion 17 = .ok (.lstore 5, 2) := by decide +kernel
theorem dX11_holdsRegion_19 : decode cX11_holdsRegion 19 = .ok (.iconst 0, 1) := by decide +kernel
theorem dX11_holdsRegion_20 : decode cX11_holdsRegion 20 = .ok (.istore 7, 2) := by decide +kernel
theorem dX11_holdsRegion_22 : decode cX11_holdsRegion 22 = .ok (.iload 7, 2) := by decide +kernel
theorem dX11_holdsRegion_24 : decode cX11_holdsRegion 24 = .ok (.aload_n 0, 1) := by decide +kernel
theorem dX11_holdsRegion_25 : decode cX11_holdsRegion 25 = .ok (.getfield 29, 3) := by decide +kernel
theorem dX11_holdsRegion_28 : decode cX11_holdsRegion 28 = .ok (.iload_n 1, 1) := by decide +kernel
theorem dX11_holdsRegion_29 : decode cX11_holdsRegion 29 = .ok (.iaload, 1) := by decide +kernel
theorem dX11_holdsRegion_30 : decode cX11_holdsRegion 30 = .ok (.if_icmp .ge 170, 3) := by decide +kernel
theorem dX11_holdsRegion_33 : decode cX11_holdsRegion 33 = .ok (.iload 7, 2) := by decide +kernel
theorem dX11_holdsRegion_35 : decode cX11_holdsRegion 35 = .ok (.iconst 1, 1) := by decide +kernel
theorem dX11_holdsRegion_36 : decode cX11_holdsRegion 36 = .ok (.iadd, 1) := by decide +kernel
theorem dX11_holdsRegion_37 : decode cX11_holdsRegion 37 = .ok (.aload_n 0, 1) := by decide +kernel
theorem dX11_holdsRegion_38 : decode cX11_holdsRegion 38 = .ok (.getfield 29, 3) := by decide +kernel
theorem dX11_holdsRegion_41 : decode cX11_holdsRegion 41 = .ok (.iload_n 1, 1) := by decide +kernel
theorem dX11_holdsRegion_42 : decode cX11_holdsRegion 42 = .ok (.iaload, 1) := by decide +kernel
theorem dX11_holdsRegion_43 : decode cX11_holdsRegion 43 = .ok (.irem, 1) := by decide +kernel
theorem dX11_holdsRegion_44 : decode cX11_holdsRegion 44 = .ok (.istore 8, 2) := by decide +kernel
theorem dX11_holdsRegion_46 : decode cX11_holdsRegion 46 = .ok (.aload_n 0, 1) := by decide +kernel
theorem dX11_holdsRegion_47 : decode cX11_holdsRegion 47 = .ok (.getfield 32, 3) := by decide +kernel
theorem dX11_holdsRegion_50 : decode cX11_holdsRegion 50 = .ok (.bipush 12, 2) := by decide +kernel
theorem dX11_holdsRegion_52 : decode cX11_holdsRegion 52 = .ok (.iload_n 1, 1) := by decide +kernel
theorem dX11_holdsRegion_53 : decode cX11_holdsRegion 53 = .ok (.imul, 1) := by decide +kernel
theorem dX11_holdsRegion_54 : decode cX11_holdsRegion 54 = .ok (.iload 7, 2) := by decide +kernel
theorem dX11_holdsRegion_56 : decode cX11_holdsRegion 56 = .ok (.iadd, 1) := by decide +kernel
theorem dX11_holdsRegion_57 : decode cX11_holdsRegion 57 = .ok (.iaload, 1) := by decide +kernel
theorem dX11_holdsRegion_58 : decode cX11_holdsRegion 58 = .ok (.i2l, 1) := by decide +kernel
theorem dX11_holdsRegion_59 : decode cX11_holdsRegion 59 = .ok (.lstore 9, 2) := by decide +kernel
theorem dX11_holdsRegion_61 : decode cX11_holdsRegion 61 = .ok (.aload_n 0, 1) := by decide +kernel
theorem dX11_holdsRegion_62 : decode cX11_holdsRegion 62 = .ok (.getfield 35, 3) := by decide +kernel
theorem dX11_holdsRegion_65 : decode cX11_holdsRegion 65 = .ok (.bipush 12, 2) := by decide +kernel
theorem dX11_holdsRegion_67 : decode cX11_holdsRegion 67 = .ok (.iload_n 1, 1) := by decide +kernel
theorem dX11_holdsRegion_68 : decode cX11_holdsRegion 68 = .ok (.imul, 1) := by decide +kernel
theorem dX11_holdsRegion_69 : decode cX11_holdsRegion 69 = .ok (.iload 7, 2) := by decide +kernel
theorem dX11_holdsRegion_71 : decode cX11_holdsRegion 71 = .ok (.iadd, 1) := by decide +kernel
theorem dX11_holdsRegion_72 : decode cX11_holdsRegion 72 = .ok (.iaload, 1) := by decide +kernel
theorem dX11_holdsRegion_73 : decode cX11_holdsRegion 73 = .ok (.i2l, 1) := by decide +kernel
theorem dX11_holdsRegion_74 : decode cX11_holdsRegion 74 = .ok (.lstore 11, 2) := by decide +kernel
theorem dX11_holdsRegion_76 : decode cX11_holdsRegion 76 = .ok (.aload_n 0, 1) := by decide +kernel
theorem dX11_holdsRegion_77 : decode cX11_holdsRegion 77 = .ok (.getfield 32, 3) := by decide +kernel
theorem dX11_holdsRegion_80 : decode cX11_holdsRegion 80 = .ok (.bipush 12, 2) := by decide +kernel
theorem dX11_holdsRegion_82 : decode cX11_holdsRegion 82 = .ok (.iload_n 1, 1) := by decide +kernel
theorem dX11_holdsRegion_83 : decode cX11_holdsRegion 83 = .ok (.imul, 1) := by decide +kernel
theorem dX11_holdsRegion_84 : decode cX11_holdsRegion 84 = .ok (.iload 8, 2) := by decide +kernel
theorem dX11_holdsRegion_86 : decode cX11_holdsRegion 86 = .ok (.iadd, 1) := by decide +kernel
theorem dX11_holdsRegion_87 : decode cX11_holdsRegion 87 = .ok (.iaload, 1) := by decide +kernel
theorem dX11_holdsRegion_88 : decode cX11_holdsRegion 88 = .ok (.i2l, 1) := by decide +kernel
theorem dX11_holdsRegion_89 : decode cX11_holdsRegion 89 = .ok (.lstore 13, 2) := by decide +kernel
theorem dX11_holdsRegion_91 : decode cX11_holdsRegion 91 = .ok (.aload_n 0, 1) := by decide +kernel
theorem dX11_holdsRegion_92 : decode cX11_holdsRegion 92 = .ok (.getfield 35, 3) := by decide +kernel
theorem dX11_holdsRegion_95 : decode cX11_holdsRegion 95 = .ok (.bipush 12, 2) := by decide +kernel
theorem dX11_holdsRegion_97 : decode cX11_holdsRegion 97 = .ok (.iload_n 1, 1) := by decide +kernel
theorem dX11_holdsRegion_98 : decode cX11_holdsRegion 98 = .ok (.imul, 1) := by decide +kernel
theorem dX11_holdsRegion_99 : decode cX11_holdsRegion 99 = .ok (.iload 8, 2) := by decide +kernel
theorem dX11_holdsRegion_101 : decode cX11_holdsRegion 101 = .ok (.iadd, 1) := by decide +kernel
theorem dX11_holdsRegion_102 : decode cX11_holdsRegion 102 = .ok (.iaload, 1) := by decide +kernel
theorem dX11_holdsRegion_103 : decode cX11_holdsRegion 103 = .ok (.i2l, 1) := by decide +kernel
theorem dX11_holdsRegion_104 : decode cX11_holdsRegion 104 = .ok (.lstore 15, 2) := by decide +kernel
theorem dX11_holdsRegion_106 : decode cX11_holdsRegion 106 = .ok (.lload 11, 2) := by decide +kernel
theorem dX11_holdsRegion_108 : decode cX11_holdsRegion 108 = .ok (.lload 5, 2) := by decide +kernel
theorem dX11_holdsRegion_110 : decode cX11_holdsRegion 110 = .ok (.lcmp, 1) := by decide +kernel
theorem dX11_holdsRegion_111 : decode cX11_holdsRegion 111 = .ok (.ifCond .le 7, 3) := by decide +kernel
theorem dX11_holdsRegion_114 : decode cX11_holdsRegion 114 = .ok (.iconst 1, 1) := by decide +kernel
theorem dX11_holdsRegion_115 : decode cX11_holdsRegion 115 = .ok (.goto 4, 3) := by decide +kernel
theorem dX11_holdsRegion_118 : decode cX11_holdsRegion 118 = .ok (.iconst 0, 1) := by decide +kernel
theorem dX11_holdsRegion_119 : decode cX11_holdsRegion 119 = .ok (.lload 15, 2) := by decide +kernel
theorem dX11_holdsRegion_121 : decode cX11_holdsRegion 121 = .ok (.lload 5, 2) := by decide +kernel
theorem dX11_holdsRegion_123 : decode cX11_holdsRegion 123 = .ok (.lcmp, 1) := by decide +kernel
theorem dX11_holdsRegion_124 : decode cX11_holdsRegion 124 = .ok (.ifCond .le 7, 3) := by decide +kernel
theorem dX11_holdsRegion_127 : decode cX11_holdsRegion 127 = .ok (.iconst 1, 1) := by decide +kernel
theorem dX11_holdsRegion_128 : decode cX11_holdsRegion 128 = .ok (.goto 4, 3) := by decide +kernel
theorem dX11_holdsRegion_131 : decode cX11_holdsRegion 131 = .ok (.iconst 0, 1) := by decide +kernel
theorem dX11_holdsRegion_132 : decode cX11_holdsRegion 132 = .ok (.if_icmp .eq 62, 3) := by decide +kernel
theorem dX11_holdsRegion_135 : decode cX11_holdsRegion 135 = .ok (.lload 13, 2) := by decide +kernel
theorem dX11_holdsRegion_137 : decode cX11_holdsRegion 137 = .ok (.lload 9, 2) := by decide +kernel
theorem dX11_holdsRegion_139 : decode cX11_holdsRegion 139 = .ok (.lsub, 1) := by decide +kernel
theorem dX11_holdsRegion_140 : decode cX11_holdsRegion 140 = .ok (.lload 15, 2) := by decide +kernel
theorem dX11_holdsRegion_142 : decode cX11_holdsRegion 142 = .ok (.lload 11, 2) := by decide +kernel
theorem dX11_holdsRegion_144 : decode cX11_holdsRegion 144 = .ok (.lsub, 1) := by decide +kernel
theorem dX11_holdsRegion_145 : decode cX11_holdsRegion 145 = .ok (.lload_n 3, 1) := by decide +kernel
theorem dX11_holdsRegion_146 : decode cX11_holdsRegion 146 = .ok (.lload 9, 2) := by decide +kernel
theorem dX11_holdsRegion_148 : decode cX11_holdsRegion 148 = .ok (.lsub, 1) := by decide +kernel
theorem dX11_holdsRegion_149 : decode cX11_holdsRegion 149 = .ok (.lload 5, 2) := by decide +kernel
theorem dX11_holdsRegion_151 : decode cX11_holdsRegion 151 = .ok (.lload 11, 2) := by decide +kernel
theorem dX11_holdsRegion_153 : decode cX11_holdsRegion 153 = .ok (.lsub, 1) := by decide +kernel
theorem dX11_holdsRegion_154 : decode cX11_holdsRegion 154 = .ok (.invokestatic 148, 3) := by decide +kernel
theorem dX11_holdsRegion_157 : decode cX11_holdsRegion 157 = .ok (.lstore 17, 2) := by decide +kernel
theorem dX11_holdsRegion_159 : decode cX11_holdsRegion 159 = .ok (.lload 15, 2) := by decide +kernel
theorem dX11_holdsRegion_161 : decode cX11_holdsRegion 161 = .ok (.lload 11, 2) := by decide +kernel
theorem dX11_holdsRegion_163 : decode cX11_holdsRegion 163 = .ok (.lcmp, 1) := by decide +kernel
theorem dX11_holdsRegion_164 : decode cX11_holdsRegion 164 = .ok (.ifCond .le 13, 3) := by decide +kernel
theorem dX11_holdsRegion_167 : decode cX11_holdsRegion 167 = .ok (.lload 17, 2) := by decide +kernel
theorem dX11_holdsRegion_169 : decode cX11_holdsRegion 169 = .ok (.lconst 0, 1) := by decide +kernel
theorem dX11_holdsRegion_170 : decode cX11_holdsRegion 170 = .ok (.lcmp, 1) := by decide +kernel
theorem dX11_holdsRegion_171 : decode cX11_holdsRegion 171 = .ok (.ifCond .le 23, 3) := by decide +kernel
theorem dX11_holdsRegion_174 : decode cX11_holdsRegion 174 = .ok (.goto 10, 3) := by decide +kernel
theorem dX11_holdsRegion_177 : decode cX11_holdsRegion 177 = .ok (.lload 17, 2) := by decide +kernel
theorem dX11_holdsRegion_179 : decode cX11_holdsRegion 179 = .ok (.lconst 0, 1) := by decide +kernel
theorem dX11_holdsRegion_180 : decode cX11_holdsRegion 180 = .ok (.lcmp, 1) := by decide +kernel
theorem dX11_holdsRegion_181 : decode cX11_holdsRegion 181 = .ok (.ifCond .ge 13, 3) := by decide +kernel
theorem dX11_holdsRegion_184 : decode cX11_holdsRegion 184 = .ok (.iload_n 2, 1) := by decide +kernel
theorem dX11_holdsRegion_185 : decode cX11_holdsRegion 185 = .ok (.ifCond .ne 7, 3) := by decide +kernel
theorem dX11_holdsRegion_188 : decode cX11_holdsRegion 188 = .ok (.iconst 1, 1) := by decide +kernel
theorem dX11_holdsRegion_189 : decode cX11_holdsRegion 189 = .ok (.goto 4, 3) := by decide +kernel
theorem dX11_holdsRegion_192 : decode cX11_holdsRegion 192 = .ok (.iconst 0, 1) := by decide +kernel
theorem dX11_holdsRegion_193 : decode cX11_holdsRegion 193 = .ok (.istore_n 2, 1) := by decide +kernel
theorem dX11_holdsRegion_194 : decode cX11_holdsRegion 194 = .ok (.iinc 7 1, 3) := by decide +kernel
theorem dX11_holdsRegion_197 : decode cX11_holdsRegion 197 = .ok (.goto (-175), 3) := by decide +kernel
theorem dX11_holdsRegion_200 : decode cX11_holdsRegion 200 = .ok (.iload_n 2, 1) := by decide +kernel
theorem dX11_holdsRegion_201 : decode cX11_holdsRegion 201 = .ok (.ireturn, 1) := by decide +kernel
def tb_154 (pc : Nat) : Option mEnt := bif Nat.ble pc 89 then (bif Nat.ble pc 43 then (bif Nat.ble pc 19 then (bif Nat.ble pc 8 then (bif Nat.ble pc 2 then (bif Nat.ble pc 0 then (bif Nat.beq pc 0 then some (.inl (oS 1 (s_push (.int 0)))) else none) else (bif Nat.ble pc 1 then (bif Nat.beq pc 1 then some (.inl (o_is 2 1)) else none) else (bif Nat.beq pc 2 then some (.inl (o_al 0 1)) else none))) else (bif Nat.ble pc 6 then (bif Nat.ble pc 3 then (bif Nat.beq pc 3 then some (.inl (o_gP 11 14)) else none) else (bif Nat.beq pc 6 then some (.inl (oS 1 (s_push (.int 0)))) else none)) else (bif Nat.ble pc 7 then (bif Nat.beq pc 7 then some (.inl (o_iald)) else none) else (bif Nat.beq pc 8 then some (.inl (oS 1 s_i2l)) else none)))) else (bif Nat.ble pc 14 then (bif Nat.ble pc 10 then (bif Nat.ble pc 9 then (bif Nat.beq pc 9 then some (.inl (o_ls 3 1)) else none) else (bif Nat.beq pc 10 then some (.inl (o_al 0 1)) else none)) else (bif Nat.ble pc 11 then (bif Nat.beq pc 11 then some (.inl (o_gP 11 14)) else none) else (bif Nat.beq pc 14 then some (.inl (oS 1 (s_push (.int 1)))) else none))) else (bif Nat.ble pc 16 then (bif Nat.ble pc 15 then (bif Nat.beq pc 15 then some (.inl (o_iald)) else none) else (bif Nat.beq pc 16 then some (.inl (oS 1 s_i2l)) else none)) else (bif Nat.ble pc 17 then (bif Nat.beq pc 17 then some (.inl (o_ls 5 2)) else none) else (bif Nat.beq pc 19 then some (.inl (oS 1 (s_push (.int 0)))) else none))))) else (bif Nat.ble pc 30 then (bif Nat.ble pc 24 then (bif Nat.ble pc 20 then (bif Nat.beq pc 20 then some (.inl (o_is 7 2)) else none) else (bif Nat.ble pc 22 then (bif Nat.beq pc 22 then some (.inl (o_il 7 2)) else none) else (bif Nat.beq pc 24 then some (.inl (o_al 0 1)) else none))) else (bif Nat.ble pc 28 then (bif Nat.ble pc 25 then (bif Nat.beq pc 25 then some (.inl (o_gP 11 6)) else none) else (bif Nat.beq pc 28 then some (.inl (o_il 1 1)) else none)) else (bif Nat.ble pc 29 then (bif Nat.beq pc 29 then some (.inl (o_iald)) else none) else (bif Nat.beq pc 30 then some (.inl (o_cge 200)) else none)))) else (bif Nat.ble pc 37 then (bif Nat.ble pc 35 then (bif Nat.ble pc 33 then (bif Nat.beq pc 33 then some (.inl (o_il 7 2)) else none) else (bif Nat.beq pc 35 then some (.inl (oS 1 (s_push (.int 1)))) else none)) else (bif Nat.ble pc 36 then (bif Nat.beq pc 36 then some (.inl (oS 1 (s_ii (fun a b => a + b)))) else none) else (bif Nat.beq pc 37 then some (.inl (o_al 0 1)) else none))) else (bif Nat.ble pc 41 then (bif Nat.ble pc 38 then (bif Nat.beq pc 38 then some (.inl (o_gP 11 6)) else none) else (bif Nat.beq pc 41 then some (.inl (o_il 1 1)) else none)) else (bif Nat.ble pc 42 then (bif Nat.beq pc 42 then some (.inl (o_iald)) else none) else (bif Nat.beq pc 43 then some (.inl (oS 1 (s_iiz (fun a b => a - a / b * b)))) else none)))))) else (bif Nat.ble pc 67 then (bif Nat.ble pc 54 then (bif Nat.ble pc 47 then (bif Nat.ble pc 44 then (bif Nat.beq pc 44 then some (.inl (o_is 8 2)) else none) else (bif Nat.ble pc 46 then (bif Nat.beq pc 46 then some (.inl (o_al 0 1)) else none) else (bif Nat.beq pc 47 then some (.inl (o_gP 11 7)) else none))) else (bif Nat.ble pc 52 then (bif Nat.ble pc 50 then (bif Nat.beq pc 50 then some (.inl (oS 2 (s_push (.int 12)))) else none) else (bif Nat.beq pc 52 then some (.inl (o_il 1 1)) else none)) else (bif Nat.ble pc 53 then (bif Nat.beq pc 53 then some (.inl (oS 1 (s_ii (fun a b => a * b)))) else none) else (bif Nat.beq pc 54 then some (.inl (o_il 7 2)) else none)))) else (bif Nat.ble pc 59 then (bif Nat.ble pc 57 then (bif Nat.ble pc 56 then (bif Nat.beq pc 56 then some (.inl (oS 1 (s_ii (fun a b => a + b)))) else none) else (bif Nat.beq pc 57 then some (.inl (o_iald)) else none)) else (bif Nat.ble pc 58 then (bif Nat.beq pc 58 then some (.inl (oS 1 s_i2l)) else none) else (bif Nat.beq pc 59 then some (.inl (o_ls 9 2)) else none))) else (bif Nat.ble pc 62 then (bif Nat.ble pc 61 then (bif Nat.beq pc 61 then some (.inl (o_al 0 1)) else none) else (bif Nat.beq pc 62 then some (.inl (o_gP 11 8)) else none)) else (bif Nat.ble pc 65 then (bif Nat.beq pc 65 then some (.inl (oS 2 (s_push (.int 12)))) else none) else (bif Nat.beq pc 67 then some (.inl (o_il 1 1)) else none))))) else (bif Nat.ble pc 77 then (bif Nat.ble pc 72 then (bif Nat.ble pc 69 then (bif Nat.ble pc 68 then (bif Nat.beq pc 68 then some (.inl (oS 1 (s_ii (fun a b => a * b)))) else none) else (bif Nat.beq pc 69 then some (.inl (o_il 7 2)) else none)) else (bif Nat.ble pc 71 then (bif Nat.beq pc 71 then some (.inl (oS 1 (s_ii (fun a b => a + b)))) else none) else (bif Nat.beq pc 72 then some (.inl (o_iald)) else none))) else (bif Nat.ble pc 74 then (bif Nat.ble pc 73 then (bif Nat.beq pc 73 then some (.inl (oS 1 s_i2l)) else none) else (bif Nat.beq pc 74 then some (.inl (o_ls 11 2)) else none)) else (bif Nat.ble pc 76 then (bif Nat.beq pc 76 then some (.inl (o_al 0 1)) else none) else (bif Nat.beq pc 77 then some (.inl (o_gP 11 7)) else none)))) else (bif Nat.ble pc 84 then (bif Nat.ble pc 82 then (bif Nat.ble pc 80 then (bif Nat.beq pc 80 then some (.inl (oS 2 (s_push (.int 12)))) else none) else (bif Nat.beq pc 82 then some (.inl (o_il 1 1)) else none)) else (bif Nat.ble pc 83 then (bif Nat.beq pc 83 then some (.inl (oS 1 (s_ii (fun a b => a * b)))) else none) else (bif Nat.beq pc 84 then some (.inl (o_il 8 2)) else none))) else (bif Nat.ble pc 87 then (bif Nat.ble pc 86 then (bif Nat.beq pc 86 then some (.inl (oS 1 (s_ii (fun a b => a + b)))) else none) else (bif Nat.beq pc 87 then some (.inl (o_iald)) else none)) else (bif Nat.ble pc 88 then (bif Nat.beq pc 88 then some (.inl (oS 1 s_i2l)) else none) else (bif Nat.beq pc 89 then some (.inl (o_ls 13 2)) else none))))))) else (bif Nat.ble pc 144 then (bif Nat.ble pc 114 then (bif Nat.ble pc 101 then (bif Nat.ble pc 95 then (bif Nat.ble pc 91 then (bif Nat.beq pc 91 then some (.inl (o_al 0 1)) else none) else (bif Nat.ble pc 92 then (bif Nat.beq pc 92 then some (.inl (o_gP 11 8)) else none) else (bif Nat.beq pc 95 then some (.inl (oS 2 (s_push (.int 12)))) else none))) else (bif Nat.ble pc 98 then (bif Nat.ble pc 97 then (bif Nat.beq pc 97 then some (.inl (o_il 1 1)) else none) else (bif Nat.beq pc 98 then some (.inl (oS 1 (s_ii (fun a b => a * b)))) else none)) else (bif Nat.ble pc 99 then (bif Nat.beq pc 99 then some (.inl (o_il 8 2)) else none) else (bif Nat.beq pc 101 then some (.inl (oS 1 (s_ii (fun a b => a + b)))) else none)))) else (bif Nat.ble pc 106 then (bif Nat.ble pc 103 then (bif Nat.ble pc 102 then (bif Nat.beq pc 102 then some (.inl (o_iald)) else none) else (bif Nat.beq pc 103 then some (.inl (oS 1 s_i2l)) else none)) else (bif Nat.ble pc 104 then (bif Nat.beq pc 104 then some (.inl (o_ls 15 2)) else none) else (bif Nat.beq pc 106 then some (.inl (o_ll 11 2)) else none))) else (bif Nat.ble pc 110 then (bif Nat.ble pc 108 then (bif Nat.beq pc 108 then some (.inl (o_ll 5 2)) else none) else (bif Nat.beq pc 110 then some (.inl (oS 1 s_lcmp)) else none)) else (bif Nat.ble pc 111 then (bif Nat.beq pc 111 then some (.inl (o_zle 118)) else none) else (bif Nat.beq pc 114 then some (.inl (oS 1 (s_push (.int 1)))) else none))))) else (bif Nat.ble pc 128 then (bif Nat.ble pc 121 then (bif Nat.ble pc 118 then (bif Nat.ble pc 115 then (bif Nat.beq pc 115 then some (.inl (o_goto 119)) else none) else (bif Nat.beq pc 118 then some (.inl (oS 1 (s_push (.int 0)))) else none)) else (bif Nat.ble pc 119 then (bif Nat.beq pc 119 then some (.inl (o_ll 15 2)) else none) else (bif Nat.beq pc 121 then some (.inl (o_ll 5 2)) else none))) else (bif Nat.ble pc 124 then (bif Nat.ble pc 123 then (bif Nat.beq pc 123 then some (.inl (oS 1 s_lcmp)) else none) else (bif Nat.beq pc 124 then some (.inl (o_zle 131)) else none)) else (bif Nat.ble pc 127 then (bif Nat.beq pc 127 then some (.inl (oS 1 (s_push (.int 1)))) else none) else (bif Nat.beq pc 128 then some (.inl (o_goto 132)) else none)))) else (bif Nat.ble pc 137 then (bif Nat.ble pc 132 then (bif Nat.ble pc 131 then (bif Nat.beq pc 131 then some (.inl (oS 1 (s_push (.int 0)))) else none) else (bif Nat.beq pc 132 then some (.inl (o_ceq 194)) else none)) else (bif Nat.ble pc 135 then (bif Nat.beq pc 135 then some (.inl (o_ll 13 2)) else none) else (bif Nat.beq pc 137 then some (.inl (o_ll 9 2)) else none))) else (bif Nat.ble pc 140 then (bif Nat.ble pc 139 then (bif Nat.beq pc 139 then some (.inl (oS 1 (s_ll (fun a b => a - b)))) else none) else (bif Nat.beq pc 140 then some (.inl (o_ll 15 2)) else none)) else (bif Nat.ble pc 142 then (bif Nat.beq pc 142 then some (.inl (o_ll 11 2)) else none) else (bif Nat.beq pc 144 then some (.inl (oS 1 (s_ll (fun a b => a - b)))) else none)))))) else (bif Nat.ble pc 170 then (bif Nat.ble pc 154 then (bif Nat.ble pc 148 then (bif Nat.ble pc 145 then (bif Nat.beq pc 145 then some (.inl (o_ll 3 1)) else none) else (bif Nat.ble pc 146 then (bif Nat.beq pc 146 then some (.inl (o_ll 9 2)) else none) else (bif Nat.beq pc 148 then some (.inl (oS 1 (s_ll (fun a b => a - b)))) else none))) else (bif Nat.ble pc 151 then (bif Nat.ble pc 149 then (bif Nat.beq pc 149 then some (.inl (o_ll 5 2)) else none) else (bif Nat.beq pc 151 then some (.inl (o_ll 11 2)) else none)) else (bif Nat.ble pc 153 then (bif Nat.beq pc 153 then some (.inl (oS 1 (s_ll (fun a b => a - b)))) else none) else (bif Nat.beq pc 154 then some (.inr (2, 119, 4, 0)) else none)))) else (bif Nat.ble pc 163 then (bif Nat.ble pc 159 then (bif Nat.ble pc 157 then (bif Nat.beq pc 157 then some (.inl (o_ls 17 2)) else none) else (bif Nat.beq pc 159 then some (.inl (o_ll 15 2)) else none)) else (bif Nat.ble pc 161 then (bif Nat.beq pc 161 then some (.inl (o_ll 11 2)) else none) else (bif Nat.beq pc 163 then some (.inl (oS 1 s_lcmp)) else none))) else (bif Nat.ble pc 167 then (bif Nat.ble pc 164 then (bif Nat.beq pc 164 then some (.inl (o_zle 177)) else none) else (bif Nat.beq pc 167 then some (.inl (o_ll 17 2)) else none)) else (bif Nat.ble pc 169 then (bif Nat.beq pc 169 then some (.inl (oS 1 (s_push (.long 0)))) else none) else (bif Nat.beq pc 170 then some (.inl (oS 1 s_lcmp)) else none))))) else (bif Nat.ble pc 185 then (bif Nat.ble pc 179 then (bif Nat.ble pc 174 then (bif Nat.ble pc 171 then (bif Nat.beq pc 171 then some (.inl (o_zle 194)) else none) else (bif Nat.beq pc 174 then some (.inl (o_goto 184)) else none)) else (bif Nat.ble pc 177 then (bif Nat.beq pc 177 then some (.inl (o_ll 17 2)) else none) else (bif Nat.beq pc 179 then some (.inl (oS 1 (s_push (.long 0)))) else none))) else (bif Nat.ble pc 181 then (bif Nat.ble pc 180 then (bif Nat.beq pc 180 then some (.inl (oS 1 s_lcmp)) else none) else (bif Nat.beq pc 181 then some (.inl (o_zge 194)) else none)) else (bif Nat.ble pc 184 then (bif Nat.beq pc 184 then some (.inl (o_il 2 1)) else none) else (bif Nat.beq pc 185 then some (.inl (o_zne 192)) else none)))) else (bif Nat.ble pc 193 then (bif Nat.ble pc 189 then (bif Nat.ble pc 188 then (bif Nat.beq pc 188 then some (.inl (oS 1 (s_push (.int 1)))) else none) else (bif Nat.beq pc 189 then some (.inl (o_goto 193)) else none)) else (bif Nat.ble pc 192 then (bif Nat.beq pc 192 then some (.inl (oS 1 (s_push (.int 0)))) else none) else (bif Nat.beq pc 193 then some (.inl (o_is 2 1)) else none))) else (bif Nat.ble pc 197 then (bif Nat.ble pc 194 then (bif Nat.beq pc 194 then some (.inl (o_inc 7 1)) else none) else (bif Nat.beq pc 197 then some (.inl (o_goto 22)) else none)) else (bif Nat.ble pc 200 then (bif Nat.beq pc 200 then some (.inl (o_il 2 1)) else none) else (bif Nat.beq pc 201 then some (.inr (0, 0, 0, 4)) else none)))))))
theorem k_154_0 : mOk M_154.1 M_154.2.1 M_154.2.2.1 M_154.2.2.2 0 (oS 1 (s_push (.int 0))) := ok_iconst dX11_holdsRegion_0 (by decide)
theorem k_154_1 : mOk M_154.1 M_154.2.1 M_154.2.2.1 M_154.2.2.2 1 (o_is 2 1) := ok_istore_n dX11_holdsRegion_1 rfl
theorem k_154_2 : mOk M_154.1 M_154.2.1 M_154.2.2.1 M_154.2.2.2 2 (o_al 0 1) := ok_aload_n dX11_holdsRegion_2 rfl
theorem k_154_3 : mOk M_154.1 M_154.2.1 M_154.2.2.1 M_154.2.2.2 3 (o_gP 11 14) := ok_gP dX11_holdsRegion_3 f_RX11_44 rfl
theorem k_154_6 : mOk M_154.1 M_154.2.1 M_154.2.2.1 M_154.2.2.2 6 (oS 1 (s_push (.int 0))) := ok_iconst dX11_holdsRegion_6 (by decide)
theorem k_154_7 : mOk M_154.1 M_154.2.1 M_154.2.2.1 M_154.2.2.2 7 (o_iald) := ok_iald dX11_holdsRegion_7
theorem k_154_8 : mOk M_154.1 M_154.2.1 M_154.2.2.1 M_154.2.2.2 8 (oS 1 s_i2l) := ok_i2l dX11_holdsRegion_8
theorem k_154_9 : mOk M_154.1 M_154.2.1 M_154.2.2.1 M_154.2.2.2 9 (o_ls 3 1) := ok_lstore_n dX11_holdsRegion_9 rfl
theorem k_154_10 : mOk M_154.1 M_154.2.1 M_154.2.2.1 M_154.2.2.2 10 (o_al 0 1) := ok_aload_n dX11_holdsRegion_10 rfl
theorem k_154_11 : mOk M_154.1 M_154.2.1 M_154.2.2.1 M_154.2.2.2 11 (o_gP 11 14) := ok_gP dX11_holdsRegion_11 f_RX11_44 rfl
theorem k_154_14 : mOk M_154.1 M_154.2.1 M_154.2.2.1 M_154.2.2.2 14 (oS 1 (s_push (.int 1))) := ok_iconst dX11_holdsRegion_14 (by decide)
theorem k_154_15 : mOk M_154.1 M_154.2.1 M_154.2.2.1 M_154.2.2.2 15 (o_iald) := ok_iald dX11_holdsRegion_15
theorem k_154_16 : mOk M_154.1 M_154.2.1 M_154.2.2.1 M_154.2.2.2 16 (oS 1 s_i2l) := ok_i2l dX11_holdsRegion_16
theorem k_154_17 : mOk M_154.1 M_154.2.1 M_154.2.2.1 M_154.2.2.2 17 (o_ls 5 2) := ok_lstore dX11_holdsRegion_17
theorem k_154_19 : mOk M_154.1 M_154.2.1 M_154.2.2.1 M_154.2.2.2 19 (oS 1 (s_push (.int 0))) := ok_iconst dX11_holdsRegion_19 (by decide)
theorem k_154_20 : mOk M_154.1 M_154.2.1 M_154.2.2.1 M_154.2.2.2 20 (o_is 7 2) := ok_istore dX11_holdsRegion_20
theorem k_154_22 : mOk M_154.1 M_154.2.1 M_154.2.2.1 M_154.2.2.2 22 (o_il 7 2) := ok_iload dX11_holdsRegion_22
theorem k_154_24 : mOk M_154.1 M_154.2.1 M_154.2.2.1 M_154.2.2.2 24 (o_al 0 1) := ok_aload_n dX11_holdsRegion_24 rfl
theorem k_154_25 : mOk M_154.1 M_154.2.1 M_154.2.2.1 M_154.2.2.2 25 (o_gP 11 6) := ok_gP dX11_holdsRegion_25 f_RX11_29 rfl
theorem k_154_28 : mOk M_154.1 M_154.2.1 M_154.2.2.1 M_154.2.2.2 28 (o_il 1 1) := ok_iload_n dX11_holdsRegion_28 rfl
theorem k_154_29 : mOk M_154.1 M_154.2.1 M_154.2.2.1 M_154.2.2.2 29 (o_iald) := ok_iald dX11_holdsRegion_29
theorem k_154_30 : mOk M_154.1 M_154.2.1 M_154.2.2.1 M_154.2.2.2 30 (o_cge 200) := ok_cge dX11_holdsRegion_30 (by decide)
theorem k_154_33 : mOk M_154.1 M_154.2.1 M_154.2.2.1 M_154.2.2.2 33 (o_il 7 2) := ok_iload dX11_holdsRegion_33
theorem k_154_35 : mOk M_154.1 M_154.2.1 M_154.2.2.1 M_154.2.2.2 35 (oS 1 (s_push (.int 1))) := ok_iconst dX11_holdsRegion_35 (by decide)
theorem k_154_36 : mOk M_154.1 M_154.2.1 M_154.2.2.1 M_154.2.2.2 36 (oS 1 (s_ii (fun a b => a + b))) := ok_iadd dX11_holdsRegion_36
theorem k_154_37 : mOk M_154.1 M_154.2.1 M_154.2.2.1 M_154.2.2.2 37 (o_al 0 1) := ok_aload_n dX11_holdsRegion_37 rfl
theorem k_154_38 : mOk M_154.1 M_154.2.1 M_154.2.2.1 M_154.2.2.2 38 (o_gP 11 6) := ok_gP dX11_holdsRegion_38 f_RX11_29 rfl
theorem k_154_41 : mOk M_154.1 M_154.2.1 M_154.2.2.1 M_154.2.2.2 41 (o_il 1 1) := ok_iload_n dX11_holdsRegion_41 rfl
theorem k_154_42 : mOk M_154.1 M_154.2.1 M_154.2.2.1 M_154.2.2.2 42 (o_iald) := ok_iald dX11_holdsRegion_42
theorem k_154_43 : mOk M_154.1 M_154.2.1 M_154.2.2.1 M_154.2.2.2 43 (oS 1 (s_iiz (fun a b => a - a / b * b))) := ok_irem dX11_holdsRegion_43
theorem k_154_44 : mOk M_154.1 M_154.2.1 M_154.2.2.1 M_154.2.2.2 44 (o_is 8 2) := ok_istore dX11_holdsRegion_44
theorem k_154_46 : mOk M_154.1 M_154.2.1 M_154.2.2.1 M_154.2.2.2 46 (o_al 0 1) := ok_aload_n dX11_holdsRegion_46 rfl
theorem k_154_47 : mOk M_154.1 M_154.2.1 M_154.2.2.1 M_154.2.2.2 47 (o_gP 11 7) := ok_gP dX11_holdsRegion_47 f_RX11_32 rfl
theorem k_154_50 : mOk M_154.1 M_154.2.1 M_154.2.2.1 M_154.2.2.2 50 (oS 2 (s_push (.int 12))) := ok_bipush dX11_holdsRegion_50 (by decide)
theorem k_154_52 : mOk M_154.1 M_154.2.1 M_154.2.2.1 M_154.2.2.2 52 (o_il 1 1) := ok_iload_n dX11_holdsRegion_52 rfl
theorem k_154_53 : mOk M_154.1 M_154.2.1 M_154.2.2.1 M_154.2.2.2 53 (oS 1 (s_ii (fun a b => a * b))) := ok_imul dX11_holdsRegion_53
theorem k_154_54 : mOk M_154.1 M_154.2.1 M_154.2.2.1 M_154.2.2.2 54 (o_il 7 2) := ok_iload dX11_holdsRegion_54
theorem k_154_56 : mOk M_154.1 M_154.2.1 M_154.2.2.1 M_154.2.2.2 56 (oS 1 (s_ii (fun a b => a + b))) := ok_iadd dX11_holdsRegion_56
theorem k_154_57 : mOk M_154.1 M_154.2.1 M_154.2.2.1 M_154.2.2.2 57 (o_iald) := ok_iald dX11_holdsRegion_57
theorem k_154_58 : mOk M_154.1 M_154.2.1 M_154.2.2.1 M_154.2.2.2 58 (oS 1 s_i2l) := ok_i2l dX11_holdsRegion_58
theorem k_154_59 : mOk M_154.1 M_154.2.1 M_154.2.2.1 M_154.2.2.2 59 (o_ls 9 2) := ok_lstore dX11_holdsRegion_59
theorem k_154_61 : mOk M_154.1 M_154.2.1 M_154.2.2.1 M_154.2.2.2 61 (o_al 0 1) := ok_aload_n dX11_holdsRegion_61 rfl
theorem k_154_62 : mOk M_154.1 M_154.2.1 M_154.2.2.1 M_154.2.2.2 62 (o_gP 11 8) := ok_gP dX11_holdsRegion_62 f_RX11_35 rfl
theorem k_154_65 : mOk M_154.1 M_154.2.1 M_154.2.2.1 M_154.2.2.2 65 (oS 2 (s_push (.int 12))) := ok_bipush dX11_holdsRegion_65 (by decide)
theorem k_154_67 : mOk M_154.1 M_154.2.1 M_154.2.2.1 M_154.2.2.2 67 (o_il 1 1) := ok_iload_n dX11_holdsRegion_67 rfl
theorem k_154_68 : mOk M_154.1 M_154.2.1 M_154.2.2.1 M_154.2.2.2 68 (oS 1 (s_ii (fun a b => a * b))) := ok_imul dX11_holdsRegion_68
theorem k_154_69 : mOk M_154.1 M_154.2.1 M_154.2.2.1 M_154.2.2.2 69 (o_il 7 2) := ok_iload dX11_holdsRegion_69
theorem k_154_71 : mOk M_154.1 M_154.2.1 M_154.2.2.1 M_154.2.2.2 71 (oS 1 (s_ii (fun a b => a + b))) := ok_iadd dX11_holdsRegion_71
theorem k_154_72 : mOk M_154.1 M_154.2.1 M_154.2.2.1 M_154.2.2.2 72 (o_iald) := ok_iald dX11_holdsRegion_72
theorem k_154_73 : mOk M_154.1 M_154.2.1 M_154.2.2.1 M_154.2.2.2 73 (oS 1 s_i2l) := ok_i2l dX11_holdsRegion_73
theorem k_154_74 : mOk M_154.1 M_154.2.1 M_154.2.2.1 M_154.2.2.2 74 (o_ls 11 2) := ok_lstore dX11_holdsRegion_74
theorem k_154_76 : mOk M_154.1 M_154.2.1 M_154.2.2.1 M_154.2.2.2 76 (o_al 0 1) := ok_aload_n dX11_holdsRegion_76 rfl
theorem k_154_77 : mOk M_154.1 M_154.2.1 M_154.2.2.1 M_154.2.2.2 77 (o_gP 11 7) := ok_gP dX11_holdsRegion_77 f_RX11_32 rfl
theorem k_154_80 : mOk M_154.1 M_154.2.1 M_154.2.2.1 M_154.2.2.2 80 (oS 2 (s_push (.int 12))) := ok_bipush dX11_holdsRegion_80 (by decide)
theorem k_154_82 : mOk M_154.1 M_154.2.1 M_154.2.2.1 M_154.2.2.2 82 (o_il 1 1) := ok_iload_n dX11_holdsRegion_82 rfl
theorem k_154_83 : mOk M_154.1 M_154.2.1 M_154.2.2.1 M_154.2.2.2 83 (oS 1 (s_ii (fun a b => a * b))) := ok_imul dX11_holdsRegion_83
theorem k_154_84 : mOk M_154.1 M_154.2.1 M_154.2.2.1 M_154.2.2.2 84 (o_il 8 2) := ok_iload dX11_holdsRegion_84
theorem k_154_86 : mOk M_154.1 M_154.2.1 M_154.2.2.1 M_154.2.2.2 86 (oS 1 (s_ii (fun a b => a + b))) := ok_iadd dX11_holdsRegion_86
theorem k_154_87 : mOk M_154.1 M_154.2.1 M_154.2.2.1 M_154.2.2.2 87 (o_iald) := ok_iald dX11_holdsRegion_87
theorem k_154_88 : mOk M_154.1 M_154.2.1 M_154.2.2.1 M_154.2.2.2 88 (oS 1 s_i2l) := ok_i2l dX11_holdsRegion_88
theorem k_154_89 : mOk M_154.1 M_154.2.1 M_154.2.2.1 M_154.2.2.2 89 (o_ls 13 2) := ok_lstore dX11_holdsRegion_89
theorem k_154_91 : mOk M_154.1 M_154.2.1 M_154.2.2.1 M_154.2.2.2 91 (o_al 0 1) := ok_aload_n dX11_holdsRegion_91 rfl
theorem k_154_92 : mOk M_154.1 M_154.2.1 M_154.2.2.1 M_154.2.2.2 92 (o_gP 11 8) := ok_gP dX11_holdsRegion_92 f_RX11_35 rfl
theorem k_154_95 : mOk M_154.1 M_154.2.1 M_154.2.2.1 M_154.2.2.2 95 (oS 2 (s_push (.int 12))) := ok_bipush dX11_holdsRegion_95 (by decide)
theorem k_154_97 : mOk M_154.1 M_154.2.1 M_154.2.2.1 M_154.2.2.2 97 (o_il 1 1) := ok_iload_n dX11_holdsRegion_97 rfl
theorem k_154_98 : mOk M_154.1 M_154.2.1 M_154.2.2.1 M_154.2.2.2 98 (oS 1 (s_ii (fun a b => a * b))) := ok_imul dX11_holdsRegion_98
theorem k_154_99 : mOk M_154.1 M_154.2.1 M_154.2.2.1 M_154.2.2.2 99 (o_il 8 2) := ok_iload dX11_holdsRegion_99
theorem k_154_101 : mOk M_154.1 M_154.2.1 M_154.2.2.1 M_154.2.2.2 101 (oS 1 (s_ii (fun a b => a + b))) := ok_iadd dX11_holdsRegion_101
theorem k_154_102 : mOk M_154.1 M_154.2.1 M_154.2.2.1 M_154.2.2.2 102 (o_iald) := ok_iald dX11_holdsRegion_102
theorem k_154_103 : mOk M_154.1 M_154.2.1 M_154.2.2.1 M_154.2.2.2 103 (oS 1 s_i2l) := ok_i2l dX11_holdsRegion_103
theorem k_154_104 : mOk M_154.1 M_154.2.1 M_154.2.2.1 M_154.2.2.2 104 (o_ls 15 2) := ok_lstore dX11_holdsRegion_104
theorem k_154_106 : mOk M_154.1 M_154.2.1 M_154.2.2.1 M_154.2.2.2 106 (o_ll 11 2) := ok_lload dX11_holdsRegion_106
theorem k_154_108 : mOk M_154.1 M_154.2.1 M_154.2.2.1 M_154.2.2.2 108 (o_ll 5 2) := ok_lload dX11_holdsRegion_108
theorem k_154_110 : mOk M_154.1 M_154.2.1 M_154.2.2.1 M_154.2.2.2 110 (oS 1 s_lcmp) := ok_lcmp dX11_holdsRegion_110
theorem k_154_111 : mOk M_154.1 M_154.2.1 M_154.2.2.1 M_154.2.2.2 111 (o_zle 118) := ok_zle dX11_holdsRegion_111 (by decide)
theorem k_154_114 : mOk M_154.1 M_154.2.1 M_154.2.2.1 M_154.2.2.2 114 (oS 1 (s_push (.int 1))) := ok_iconst dX11_holdsRegion_114 (by decide)
theorem k_154_115 : mOk M_154.1 M_154.2.1 M_154.2.2.1 M_154.2.2.2 115 (o_goto 119) := ok_goto dX11_holdsRegion_115 (by decide)
theorem k_154_118 : mOk M_154.1 M_154.2.1 M_154.2.2.1 M_154.2.2.2 118 (oS 1 (s_push (.int 0))) := ok_iconst dX11_holdsRegion_118 (by decide)
theorem k_154_119 : mOk M_154.1 M_154.2.1 M_154.2.2.1 M_154.2.2.2 119 (o_ll 15 2) := ok_lload dX11_holdsRegion_119
theorem k_154_121 : mOk M_154.1 M_154.2.1 M_154.2.2.1 M_154.2.2.2 121 (o_ll 5 2) := ok_lload dX11_holdsRegion_121
theorem k_154_123 : mOk M_154.1 M_154.2.1 M_154.2.2.1 M_154.2.2.2 123 (oS 1 s_lcmp) := ok_lcmp dX11_holdsRegion_123
theorem k_154_124 : mOk M_154.1 M_154.2.1 M_154.2.2.1 M_154.2.2.2 124 (o_zle 131) := ok_zle dX11_holdsRegion_124 (by decide)
theorem k_154_127 : mOk M_154.1 M_154.2.1 M_154.2.2.1 M_154.2.2.2 127 (oS 1 (s_push (.int 1))) := ok_iconst dX11_holdsRegion_127 (by decide)
theorem k_154_128 : mOk M_154.1 M_154.2.1 M_154.2.2.1 M_154.2.2.2 128 (o_goto 132) := ok_goto dX11_holdsRegion_128 (by decide)
theorem k_154_131 : mOk M_154.1 M_154.2.1 M_154.2.2.1 M_154.2.2.2 131 (oS 1 (s_push (.int 0))) := ok_iconst dX11_holdsRegion_131 (by decide)
theorem k_154_132 : mOk M_154.1 M_154.2.1 M_154.2.2.1 M_154.2.2.2 132 (o_ceq 194) := ok_ceq dX11_holdsRegion_132 (by decide)
theorem k_154_135 : mOk M_154.1 M_154.2.1 M_154.2.2.1 M_154.2.2.2 135 (o_ll 13 2) := ok_lload dX11_holdsRegion_135
theorem k_154_137 : mOk M_154.1 M_154.2.1 M_154.2.2.1 M_154.2.2.2 137 (o_ll 9 2) := ok_lload dX11_holdsRegion_137
theorem k_154_139 : mOk M_154.1 M_154.2.1 M_154.2.2.1 M_154.2.2.2 139 (oS 1 (s_ll (fun a b => a - b))) := ok_lsub dX11_holdsRegion_139
theorem k_154_140 : mOk M_154.1 M_154.2.1 M_154.2.2.1 M_154.2.2.2 140 (o_ll 15 2) := ok_lload dX11_holdsRegion_140
theorem k_154_142 : mOk M_154.1 M_154.2.1 M_154.2.2.1 M_154.2.2.2 142 (o_ll 11 2) := ok_lload dX11_holdsRegion_142
theorem k_154_144 : mOk M_154.1 M_154.2.1 M_154.2.2.1 M_154.2.2.2 144 (oS 1 (s_ll (fun a b => a - b))) := ok_lsub dX11_holdsRegion_144
theorem k_154_145 : mOk M_154.1 M_154.2.1 M_154.2.2.1 M_154.2.2.2 145 (o_ll 3 1) := ok_lload_n dX11_holdsRegion_145 rfl
theorem k_154_146 : mOk M_154.1 M_154.2.1 M_154.2.2.1 M_154.2.2.2 146 (o_ll 9 2) := ok_lload dX11_holdsRegion_146
theorem k_154_148 : mOk M_154.1 M_154.2.1 M_154.2.2.1 M_154.2.2.2 148 (oS 1 (s_ll (fun a b => a - b))) := ok_lsub dX11_holdsRegion_148
theorem k_154_149 : mOk M_154.1 M_154.2.1 M_154.2.2.1 M_154.2.2.2 149 (o_ll 5 2) := ok_lload dX11_holdsRegion_149
theorem k_154_151 : mOk M_154.1 M_154.2.1 M_154.2.2.1 M_154.2.2.2 151 (o_ll 11 2) := ok_lload dX11_holdsRegion_151
theorem k_154_153 : mOk M_154.1 M_154.2.1 M_154.2.2.1 M_154.2.2.2 153 (oS 1 (s_ll (fun a b => a - b))) := ok_lsub dX11_holdsRegion_153
theorem k_154_157 : mOk M_154.1 M_154.2.1 M_154.2.2.1 M_154.2.2.2 157 (o_ls 17 2) := ok_lstore dX11_holdsRegion_157
theorem k_154_159 : mOk M_154.1 M_154.2.1 M_154.2.2.1 M_154.2.2.2 159 (o_ll 15 2) := ok_lload dX11_holdsRegion_159
theorem k_154_161 : mOk M_154.1 M_154.2.1 M_154.2.2.1 M_154.2.2.2 161 (o_ll 11 2) := ok_lload dX11_holdsRegion_161
theorem k_154_163 : mOk M_154.1 M_154.2.1 M_154.2.2.1 M_154.2.2.2 163 (oS 1 s_lcmp) := ok_lcmp dX11_holdsRegion_163
theorem k_154_164 : mOk M_154.1 M_154.2.1 M_154.2.2.1 M_154.2.2.2 164 (o_zle 177) := ok_zle dX11_holdsRegion_164 (by decide)
theorem k_154_167 : mOk M_154.1 M_154.2.1 M_154.2.2.1 M_154.2.2.2 167 (o_ll 17 2) := ok_lload dX11_holdsRegion_167
theorem k_154_169 : mOk M_154.1 M_154.2.1 M_154.2.2.1 M_154.2.2.2 169 (oS 1 (s_push (.long 0))) := ok_lconst dX11_holdsRegion_169 (by decide)
theorem k_154_170 : mOk M_154.1 M_154.2.1 M_154.2.2.1 M_154.2.2.2 170 (oS 1 s_lcmp) := ok_lcmp dX11_holdsRegion_170
theorem k_154_171 : mOk M_154.1 M_154.2.1 M_154.2.2.1 M_154.2.2.2 171 (o_zle 194) := ok_zle dX11_holdsRegion_171 (by decide)
theorem k_154_174 : mOk M_154.1 M_154.2.1 M_154.2.2.1 M_154.2.2.2 174 (o_goto 184) := ok_goto dX11_holdsRegion_174 (by decide)
theorem k_154_177 : mOk M_154.1 M_154.2.1 M_154.2.2.1 M_154.2.2.2 177 (o_ll 17 2) := ok_lload dX11_holdsRegion_177
theorem k_154_179 : mOk M_154.1 M_154.2.1 M_154.2.2.1 M_154.2.2.2 179 (oS 1 (s_push (.long 0))) := ok_lconst dX11_holdsRegion_179 (by decide)
theorem k_154_180 : mOk M_154.1 M_154.2.1 M_154.2.2.1 M_154.2.2.2 180 (oS 1 s_lcmp) := ok_lcmp dX11_holdsRegion_180
theorem k_154_181 : mOk M_154.1 M_154.2.1 M_154.2.2.1 M_154.2.2.2 181 (o_zge 194) := ok_zge dX11_holdsRegion_181 (by decide)
theorem k_154_184 : mOk M_154.1 M_154.2.1 M_154.2.2.1 M_154.2.2.2 184 (o_il 2 1) := ok_iload_n dX11_holdsRegion_184 rfl
theorem k_154_185 : mOk M_154.1 M_154.2.1 M_154.2.2.1 M_154.2.2.2 185 (o_zne 192) := ok_zne dX11_holdsRegion_185 (by decide)
theorem k_154_188 : mOk M_154.1 M_154.2.1 M_154.2.2.1 M_154.2.2.2 188 (oS 1 (s_push (.int 1))) := ok_iconst dX11_holdsRegion_188 (by decide)
theorem k_154_189 : mOk M_154.1 M_154.2.1 M_154.2.2.1 M_154.2.2.2 189 (o_goto 193) := ok_goto dX11_holdsRegion_189 (by decide)
theorem k_154_192 : mOk M_154.1 M_154.2.1 M_154.2.2.1 M_154.2.2.2 192 (oS 1 (s_push (.int 0))) := ok_iconst dX11_holdsRegion_192 (by decide)
theorem k_154_193 : mOk M_154.1 M_154.2.1 M_154.2.2.1 M_154.2.2.2 193 (o_is 2 1) := ok_istore_n dX11_holdsRegion_193 rfl
theorem k_154_194 : mOk M_154.1 M_154.2.1 M_154.2.2.1 M_154.2.2.2 194 (o_inc 7 1) := ok_iinc dX11_holdsRegion_194 (by decide)
theorem k_154_197 : mOk M_154.1 M_154.2.1 M_154.2.2.1 M_154.2.2.2 197 (o_goto 22) := ok_goto dX11_holdsRegion_197 (by decide)
theorem k_154_200 : mOk M_154.1 M_154.2.1 M_154.2.2.1 M_154.2.2.2 200 (o_il 2 1) := ok_iload_n dX11_holdsRegion_200 rfl
set_option maxRecDepth 20000 in
set_option maxHeartbeats 4000000 in
theorem tk_154 (l : Launch) (H9 : mThr l) (H10 : mSpl l) (pc : Nat) (q : mEnt) (h : tb_154 pc = some q) : EE l 154 pc q := nd h (fun h => nd h (fun h => nd h (fun h => nd h (fun h => nd h (fun h => nd h (fun h => lf (P := EE l 154) h k_154_0) (fun h => nd h (fun h => lf (P := EE l 154) h k_154_1) (fun h => lf (P := EE l 154) h k_154_2))) (fun h => nd h (fun h => nd h (fun h => lf (P := EE l 154) h k_154_3) (fun h => lf (P := EE l 154) h k_154_6)) (fun h => nd h (fun h => lf (P := EE l 154) h k_154_7) (fun h => lf (P := EE l 154) h k_154_8)))) (fun h => nd h (fun h => nd h (fun h => nd h (fun h => lf (P := EE l 154) h k_154_9) (fun h => lf (P := EE l 154) h k_154_10)) (fun h => nd h (fun h => lf (P := EE l 154) h k_154_11) (fun h => lf (P := EE l 154) h k_154_14))) (fun h => nd h (fun h => nd h (fun h => lf (P := EE l 154) h k_154_15) (fun h => lf (P := EE l 154) h k_154_16)) (fun h => nd h (fun h => lf (P := EE l 154) h k_154_17) (fun h => lf (P := EE l 154) h k_154_19))))) (fun h => nd h (fun h => nd h (fun h => nd h (fun h => lf (P := EE l 154) h k_154_20) (fun h => nd h (fun h => lf (P := EE l 154) h k_154_22) (fun h => lf (P := EE l 154) h k_154_24))) (fun h => nd h (fun h => nd h (fun h => lf (P := EE l 154) h k_154_25) (fun h => lf (P := EE l 154) h k_154_28)) (fun h => nd h (fun h => lf (P := EE l 154) h k_154_29) (fun h => lf (P := EE l 154) h k_154_30)))) (fun h => nd h (fun h => nd h (fun h => nd h (fun h => lf (P := EE l 154) h k_154_33) (fun h => lf (P := EE l 154) h k_154_35)) (fun h => nd h (fun h => lf (P := EE l 154) h k_154_36) (fun h => lf (P := EE l 154) h k_154_37))) (fun h => nd h (fun h => nd h (fun h => lf (P := EE l 154) h k_154_38) (fun h => lf (P := EE l 154) h k_154_41)) (fun h => nd h (fun h => lf (P := EE l 154) h k_154_42) (fun h => lf (P := EE l 154) h k_154_43)))))) (fun h => nd h (fun h => nd h (fun h => nd h (fun h => nd h (fun h => lf (P := EE l 154) h k_154_44) (fun h => nd h (fun h => lf (P := EE l 154) h k_154_46) (fun h => lf (P := EE l 154) h k_154_47))) (fun h => nd h (fun h => nd h (fun h => lf (P := EE l 154) h k_154_50) (fun h => lf (P := EE l 154) h k_154_52)) (fun h => nd h (fun h => lf (P := EE l 154) h k_154_53) (fun h => lf (P := EE l 154) h k_154_54)))) (fun h => nd h (fun h => nd h (fun h => nd h (fun h => lf (P := EE l 154) h k_154_56) (fun h => lf (P := EE l 154) h k_154_57)) (fun h => nd h (fun h => lf (P := EE l 154) h k_154_58) (fun h => lf (P := EE l 154) h k_154_59))) (fun h => nd h (fun h => nd h (fun h => lf (P := EE l 154) h k_154_61) (fun h => lf (P := EE l 154) h k_154_62)) (fun h => nd h (fun h => lf (P := EE l 154) h k_154_65) (fun h => lf (P := EE l 154) h k_154_67))))) (fun h => nd h (fun h => nd h (fun h => nd h (fun h => nd h (fun h => lf (P := EE l 154) h k_154_68) (fun h => lf (P := EE l 154) h k_154_69)) (fun h => nd h (fun h => lf (P := EE l 154) h k_154_71) (fun h => lf (P := EE l 154) h k_154_72))) (fun h => nd h (fun h => nd h (fun h => lf (P := EE l 154) h k_154_73) (fun h => lf (P := EE l 154) h k_154_74)) (fun h => nd h (fun h => lf (P := EE l 154) h k_154_76) (fun h => lf (P := EE l 154) h k_154_77)))) (fun h => nd h (fun h => nd h (fun h => nd h (fun h => lf (P := EE l 154) h k_154_80) (fun h => lf (P := EE l 154) h k_154_82)) (fun h => nd h (fun h => lf (P := EE l 154) h k_154_83) (fun h => lf (P := EE l 154) h k_154_84))) (fun h => nd h (fun h => nd h (fun h => lf (P := EE l 154) h k_154_86) (fun h => lf (P := EE l 154) h k_154_87)) (fun h => nd h (fun h => lf (P := EE l 154) h k_154_88) (fun h => lf (P := EE l 154) h k_154_89))))))) (fun h => nd h (fun h => nd h (fun h => nd h (fun h => nd h (fun h => nd h (fun h => lf (P := EE l 154) h k_154_91) (fun h => nd h (fun h => lf (P := EE l 154) h k_154_92) (fun h => lf (P := EE l 154) h k_154_95))) (fun h => nd h (fun h => nd h (fun h => lf (P := EE l 154) h k_154_97) (fun h => lf (P := EE l 154) h k_154_98)) (fun h => nd h (fun h => lf (P := EE l 154) h k_154_99) (fun h => lf (P := EE l 154) h k_154_101)))) (fun h => nd h (fun h => nd h (fun h => nd h (fun h => lf (P := EE l 154) h k_154_102) (fun h => lf (P := EE l 154) h k_154_103)) (fun h => nd h (fun h => lf (P := EE l 154) h k_154_104) (fun h => lf (P := EE l 154) h k_154_106))) (fun h => nd h (fun h => nd h (fun h => lf (P := EE l 154) h k_154_108) (fun h => lf (P := EE l 154) h k_154_110)) (fun h => nd h (fun h => lf (P := EE l 154) h k_154_111) (fun h => lf (P := EE l 154) h k_154_114))))) (fun h => nd h (fun h => nd h (fun h => nd h (fun h => nd h (fun h => lf (P := EE l 154) h k_154_115) (fun h => lf (P := EE l 154) h k_154_118)) (fun h => nd h (fun h => lf (P := EE l 154) h k_154_119) (fun h => lf (P := EE l 154) h k_154_121))) (fun h => nd h (fun h => nd h (fun h => lf (P := EE l 154) h k_154_123) (fun h => lf (P := EE l 154) h k_154_124)) (fun h => nd h (fun h => lf (P := EE l 154) h k_154_127) (fun h => lf (P := EE l 154) h k_154_128)))) (fun h => nd h (fun h => nd h (fun h => nd h (fun h => lf (P := EE l 154) h k_154_131) (fun h => lf (P := EE l 154) h k_154_132)) (fun h => nd h (fun h => lf (P := EE l 154) h k_154_135) (fun h => lf (P := EE l 154) h k_154_137))) (fun h => nd h (fun h => nd h (fun h => lf (P := EE l 154) h k_154_139) (fun h => lf (P := EE l 154) h k_154_140)) (fun h => nd h (fun h => lf (P := EE l 154) h k_154_142) (fun h => lf (P := EE l 154) h k_154_144)))))) (fun h => nd h (fun h => nd h (fun h => nd h (fun h => nd h (fun h => lf (P := EE l 154) h k_154_145) (fun h => nd h (fun h => lf (P := EE l 154) h k_154_146) (fun h => lf (P := EE l 154) h k_154_148))) (fun h => nd h (fun h => nd h (fun h => lf (P := EE l 154) h k_154_149) (fun h => lf (P := EE l 154) h k_154_151)) (fun h => nd h (fun h => lf (P := EE l 154) h k_154_153) (fun h => lf (P := EE l 154) h (EE_ca (by decide) (⟨m_1244, m_81, ⟨by decide, by decide⟩, by decide +kernel, ⟨by decide, by decide⟩, 148, 4, by decide +kernel, Or.inl ⟨rfl, rfl, dX11_holdsRegion_154, m_1242, m_1243⟩⟩) rfl))))) (fun h => nd h (fun h => nd h (fun h => nd h (fun h => lf (P := EE l 154) h k_154_157) (fun h => lf (P := EE l 154) h k_154_159)) (fun h => nd h (fun h => lf (P := EE l 154) h k_154_161) (fun h => lf (P := EE l 154) h k_154_163))) (fun h => nd h (fun h => nd h (fun h => lf (P := EE l 154) h k_154_164) (fun h => lf (P := EE l 154) h k_154_167)) (fun h => nd h (fun h => lf (P := EE l 154) h k_154_169) (fun h => lf (P := EE l 154) h k_154_170))))) (fun h => nd h (fun h => nd h (fun h => nd h (fun h => nd h (fun h => lf (P := EE l 154) h k_154_171) (fun h => lf (P := EE l 154) h k_154_174)) (fun h => nd h (fun h => lf (P := EE l 154) h k_154_177) (fun h => lf (P := EE l 154) h k_154_179))) (fun h => nd h (fun h => nd h (fun h => lf (P := EE l 154) h k_154_180) (fun h => lf (P := EE l 154) h k_154_181)) (fun h => nd h (fun h => lf (P := EE l 154) h k_154_184) (fun h => lf (P := EE l 154) h k_154_185)))) (fun h => nd h (fun h => nd h (fun h => nd h (fun h => lf (P := EE l 154) h k_154_188) (fun h => lf (P := EE l 154) h k_154_189)) (fun h => nd h (fun h => lf (P := EE l 154) h k_154_192) (fun h => lf (P := EE l 154) h k_154_193))) (fun h => nd h (fun h => nd h (fun h => lf (P := EE l 154) h k_154_194) (fun h => lf (P := EE l 154) h k_154_197)) (fun h => nd h (fun h => lf (P := EE l 154) h k_154_200) (fun h => lf (P := EE l 154) h (EE_re (Or.inr (Or.inl ⟨rfl, dX11_holdsRegion_201, rfl⟩))))))))))
theorem dX11_meetsRegion_0 : decode cX11_meetsRegion 0 = .ok (.aload_n 0, 1) := by decide +kernel
theorem dX11_meetsRegion_1 : decode cX11_meetsRegion 1 = .ok (.getfield 29, 3) := by decide +kernel
theorem dX11_meetsRegion_4 : decode cX11_meetsRegion 4 = .ok (.iload_n 1, 1) := by decide +kernel
theorem dX11_meetsRegion_5 : decode cX11_meetsRegion 5 = .ok (.iaload, 1) := by decide +kernel
theorem dX11_meetsRegion_6 : decode cX11_meetsRegion 6 = .ok (.istore_n 2, 1) := by decide +kernel
theorem dX11_meetsRegion_7 : decode cX11_meetsRegion 7 = .ok (.iload_n 2, 1) := by decide +kernel
theorem dX11_meetsRegion_8 : decode cX11_meetsRegion 8 = .ok (.iconst 1, 1) := by decide +kernel
theorem dX11_meetsRegion_9 : decode cX11_meetsRegion 9 = .ok (.if_icmp .ne 11, 3) := by decide +kernel
theorem dX11_meetsRegion_12 : decode cX11_meetsRegion 12 = .ok (.aload_n 0, 1) := by decide +kernel
theorem dX11_meetsRegion_13 : decode cX11_meetsRegion 13 = .ok (.iload_n 1, 1) := by decide +kernel
theorem dX11_meetsRegion_14 : decode cX11_meetsRegion 14 = .ok (.iconst 0, 1) := by decide +kernel
theorem dX11_meetsRegion_15 : decode cX11_meetsRegion 15 = .ok (.iconst 0, 1) := by decide +kernel
theorem dX11_meetsRegion_16 : decode cX11_meetsRegion 16 = .ok (.invokevirtual 277, 3) := by decide +kernel
theorem dX11_meetsRegion_19 : decode cX11_meetsRegion 19 = .ok (.ireturn, 1) := by decide +kernel
theorem dX11_meetsRegion_20 : decode cX11_meetsRegion 20 = .ok (.iconst 0, 1) := by decide +kernel
theorem dX11_meetsRegion_21 : decode cX11_meetsRegion 21 = .ok (.istore_n 3, 1) := by decide +kernel
theorem dX11_meetsRegion_22 : decode cX11_meetsRegion 22 = .ok (.iload_n 3, 1) := by decide +kernel
theorem dX11_meetsRegion_23 : decode cX11_meetsRegion 23 = .ok (.aload_n 0, 1) := by decide +kernel
theorem dX11_meetsRegion_24 : decode cX11_meetsRegion 24 = .ok (.getfield 16, 3) := by decide +kernel
theorem dX11_meetsRegion_27 : decode cX11_meetsRegion 27 = .ok (.iload_n 1, 1) := by decide +kernel
theorem dX11_meetsRegion_28 : decode cX11_meetsRegion 28 = .ok (.iaload, 1) := by decide +kernel
theorem dX11_meetsRegion_29 : decode cX11_meetsRegion 29 = .ok (.iconst 2, 1) := by decide +kernel
theorem dX11_meetsRegion_30 : decode cX11_meetsRegion 30 = .ok (.if_icmp .ne 7, 3) := by decide +kernel
theorem dX11_meetsRegion_33 : decode cX11_meetsRegion 33 = .ok (.iload_n 2, 1) := by decide +kernel
theorem dX11_meetsRegion_34 : decode cX11_meetsRegion 34 = .ok (.goto 6, 3) := by decide +kernel
theorem dX11_meetsRegion_37 : decode cX11_meetsRegion 37 = .ok (.iload_n 2, 1) := by decide +kernel
theorem dX11_meetsRegion_38 : decode cX11_meetsRegion 38 = .ok (.iconst 1, 1) := by decide +kernel
theorem dX11_meetsRegion_39 : decode cX11_meetsRegion 39 = .ok (.isub, 1) := by decide +kernel
theorem dX11_meetsRegion_40 : decode cX11_meetsRegion 40 = .ok (.if_icmp .ge 25, 3) := by decide +kernel
theorem dX11_meetsRegion_43 : decode cX11_meetsRegion 43 = .ok (.aload_n 0, 1) := by decide +kernel
theorem dX11_meetsRegion_44 : decode cX11_meetsRegion 44 = .ok (.iload_n 1, 1) := by decide +kernel
theorem dX11_meetsRegion_45 : decode cX11_meetsRegion 45 = .ok (.iload_n 3, 1) := by decide +kernel
theorem dX11_meetsRegion_46 : decode cX11_meetsRegion 46 = .ok (.iload_n 3, 1) := by decide +kernel
theorem dX11_meetsRegion_47 : decode cX11_meetsRegion 47 = .ok (.iconst 1, 1) := by decide +kernel
theorem dX11_meetsRegion_48 : decode cX11_meetsRegion 48 = .ok (.iadd, 1) := by decide +kernel
theorem dX11_meetsRegion_49 : decode cX11_meetsRegion 49 = .ok (.iload_n 2, 1) := by decide +kernel
theorem dX11_meetsRegion_50 : decode cX11_meetsRegion 50 = .ok (.irem, 1) := by decide +kernel
theorem dX11_meetsRegion_51 : decode cX11_meetsRegion 51 = .ok (.invokevirtual 277, 3) := by decide +kernel
theorem dX11_meetsRegion_54 : decode cX11_meetsRegion 54 = .ok (.ifCond .eq 5, 3) := by decide +kernel
theorem dX11_meetsRegion_57 : decode cX11_meetsRegion 57 = .ok (.iconst 1, 1) := by decide +kernel
theorem dX11_meetsRegion_58 : decode cX11_meetsRegion 58 = .ok (.ireturn, 1) := by decide +kernel
theorem dX11_meetsRegion_59 : decode cX11_meetsRegion 59 = .ok (.iinc 3 1, 3) := by decide +kernel
theorem dX11_meetsRegion_62 : decode cX11_meetsRegion 62 = .ok (.goto (-40), 3) := by decide +kernel
theorem dX11_meetsRegion_65 : decode cX11_meetsRegion 65 = .ok (.aload_n 0, 1) := by decide +kernel
theorem dX11_meetsRegion_66 : decode cX11_meetsRegion 66 = .ok (.getfield 16, 3) := by decide +kernel
theorem dX11_meetsRegion_69 : decode cX11_meetsRegion 69 = .ok (.iload_n 1, 1) := by decide +kernel
theorem dX11_meetsRegion_70 : decode cX11_meetsRegion 70 = .ok (.iaload, 1) := by decide +kernel
theorem dX11_meetsRegion_71 : decode cX11_meetsRegion 71 = .ok (.iconst 2, 1) := by decide +kernel
theorem dX11_meetsRegion_72 : decode cX11_meetsRegion 72 = .ok (.if_icmp .ne 15, 3) := by decide +kernel
theorem dX11_meetsRegion_75 : decode cX11_meetsRegion 75 = .ok (.aload_n 0, 1) := by decide +kernel
theorem dX11_meetsRegion_76 : decode cX11_meetsRegion 76 = .ok (.iload_n 1, 1) := by decide +kernel
theorem dX11_meetsRegion_77 : decode cX11_meetsRegion 77 = .ok (.invokevirtual 280, 3) := by decide +kernel
theorem dX11_meetsRegion_80 : decode cX11_meetsRegion 80 = .ok (.ifCond .eq 7, 3) := by decide +kernel
theorem dX11_meetsRegion_83 : decode cX11_meetsRegion 83 = .ok (.iconst 1, 1) := by decide +kernel
theorem dX11_meetsRegion_84 : decode cX11_meetsRegion 84 = .ok (.goto 4, 3) := by decide +kernel
theorem dX11_meetsRegion_87 : decode cX11_meetsRegion 87 = .ok (.iconst 0, 1) := by decide +kernel
theorem dX11_meetsRegion_88 : decode cX11_meetsRegion 88 = .ok (.ireturn, 1) := by decide +kernel
def tb_155 (pc : Nat) : Option mEnt := bif Nat.ble pc 39 then (bif Nat.ble pc 19 then (bif Nat.ble pc 8 then (bif Nat.ble pc 4 then (bif Nat.ble pc 0 then (bif Nat.beq pc 0 then some (.inl (o_al 0 1)) else none) else (bif Nat.ble pc 1 then (bif Nat.beq pc 1 then some (.inl (o_gP 11 6)) else none) else (bif Nat.beq pc 4 then some (.inl (o_il 1 1)) else none))) else (bif Nat.ble pc 6 then (bif Nat.ble pc 5 then (bif Nat.beq pc 5 then some (.inl (o_iald)) else none) else (bif Nat.beq pc 6 then some (.inl (o_is 2 1)) else none)) else (bif Nat.ble pc 7 then (bif Nat.beq pc 7 then some (.inl (o_il 2 1)) else none) else (bif Nat.beq pc 8 then some (.inl (oS 1 (s_push (.int 1)))) else none)))) else (bif Nat.ble pc 13 then (bif Nat.ble pc 9 then (bif Nat.beq pc 9 then some (.inl (o_cne 20)) else none) else (bif Nat.ble pc 12 then (bif Nat.beq pc 12 then some (.inl (o_al 0 1)) else none) else (bif Nat.beq pc 13 then some (.inl (o_il 1 1)) else none))) else (bif Nat.ble pc 15 then (bif Nat.ble pc 14 then (bif Nat.beq pc 14 then some (.inl (oS 1 (s_push (.int 0)))) else none) else (bif Nat.beq pc 15 then some (.inl (oS 1 (s_push (.int 0)))) else none)) else (bif Nat.ble pc 16 then (bif Nat.beq pc 16 then some (.inr (3, 153, 4, 11)) else none) else (bif Nat.beq pc 19 then some (.inr (0, 0, 0, 4)) else none))))) else (bif Nat.ble pc 28 then (bif Nat.ble pc 22 then (bif Nat.ble pc 20 then (bif Nat.beq pc 20 then some (.inl (oS 1 (s_push (.int 0)))) else none) else (bif Nat.ble pc 21 then (bif Nat.beq pc 21 then some (.inl (o_is 3 1)) else none) else (bif Nat.beq pc 22 then some (.inl (o_il 3 1)) else none))) else (bif Nat.ble pc 24 then (bif Nat.ble pc 23 then (bif Nat.beq pc 23 then some (.inl (o_al 0 1)) else none) else (bif Nat.beq pc 24 then some (.inl (o_gP 11 2)) else none)) else (bif Nat.ble pc 27 then (bif Nat.beq pc 27 then some (.inl (o_il 1 1)) else none) else (bif Nat.beq pc 28 then some (.inl (o_iald)) else none)))) else (bif Nat.ble pc 33 then (bif Nat.ble pc 29 then (bif Nat.beq pc 29 then some (.inl (oS 1 (s_push (.int 2)))) else none) else (bif Nat.ble pc 30 then (bif Nat.beq pc 30 then some (.inl (o_cne 37)) else none) else (bif Nat.beq pc 33 then some (.inl (o_il 2 1)) else none))) else (bif Nat.ble pc 37 then (bif Nat.ble pc 34 then (bif Nat.beq pc 34 then some (.inl (o_goto 40)) else none) else (bif Nat.beq pc 37 then some (.inl (o_il 2 1)) else none)) else (bif Nat.ble pc 38 then (bif Nat.beq pc 38 then some (.inl (oS 1 (s_push (.int 1)))) else none) else (bif Nat.beq pc 39 then some (.inl (oS 1 (s_ii (fun a b => a - b)))) else none)))))) else (bif Nat.ble pc 59 then (bif Nat.ble pc 48 then (bif Nat.ble pc 44 then (bif Nat.ble pc 40 then (bif Nat.beq pc 40 then some (.inl (o_cge 65)) else none) else (bif Nat.ble pc 43 then (bif Nat.beq pc 43 then some (.inl (o_al 0 1)) else none) else (bif Nat.beq pc 44 then some (.inl (o_il 1 1)) else none))) else (bif Nat.ble pc 46 then (bif Nat.ble pc 45 then (bif Nat.beq pc 45 then some (.inl (o_il 3 1)) else none) else (bif Nat.beq pc 46 then some (.inl (o_il 3 1)) else none)) else (bif Nat.ble pc 47 then (bif Nat.beq pc 47 then some (.inl (oS 1 (s_push (.int 1)))) else none) else (bif Nat.beq pc 48 then some (.inl (oS 1 (s_ii (fun a b => a + b)))) else none)))) else (bif Nat.ble pc 51 then (bif Nat.ble pc 49 then (bif Nat.beq pc 49 then some (.inl (o_il 2 1)) else none) else (bif Nat.ble pc 50 then (bif Nat.beq pc 50 then some (.inl (oS 1 (s_iiz (fun a b => a - a / b * b)))) else none) else (bif Nat.beq pc 51 then some (.inr (3, 153, 4, 11)) else none))) else (bif Nat.ble pc 57 then (bif Nat.ble pc 54 then (bif Nat.beq pc 54 then some (.inl (o_zeq 59)) else none) else (bif Nat.beq pc 57 then some (.inl (oS 1 (s_push (.int 1)))) else none)) else (bif Nat.ble pc 58 then (bif Nat.beq pc 58 then some (.inr (0, 0, 0, 4)) else none) else (bif Nat.beq pc 59 then some (.inl (o_inc 3 1)) else none))))) else (bif Nat.ble pc 72 then (bif Nat.ble pc 66 then (bif Nat.ble pc 62 then (bif Nat.beq pc 62 then some (.inl (o_goto 22)) else none) else (bif Nat.ble pc 65 then (bif Nat.beq pc 65 then some (.inl (o_al 0 1)) else none) else (bif Nat.beq pc 66 then some (.inl (o_gP 11 2)) else none))) else (bif Nat.ble pc 70 then (bif Nat.ble pc 69 then (bif Nat.beq pc 69 then some (.inl (o_il 1 1)) else none) else (bif Nat.beq pc 70 then some (.inl (o_iald)) else none)) else (bif Nat.ble pc 71 then (bif Nat.beq pc 71 then some (.inl (oS 1 (s_push (.int 2)))) else none) else (bif Nat.beq pc 72 then some (.inl (o_cne 87)) else none)))) else (bif Nat.ble pc 80 then (bif Nat.ble pc 76 then (bif Nat.ble pc 75 then (bif Nat.beq pc 75 then some (.inl (o_al 0 1)) else none) else (bif Nat.beq pc 76 then some (.inl (o_il 1 1)) else none)) else (bif Nat.ble pc 77 then (bif Nat.beq pc 77 then some (.inr (3, 154, 2, 11)) else none) else (bif Nat.beq pc 80 then some (.inl (o_zeq 87)) else none))) else (bif Nat.ble pc 84 then (bif Nat.ble pc 83 then (bif Nat.beq pc 83 then some (.inl (oS 1 (s_push (.int 1)))) else none) else (bif Nat.beq pc 84 then some (.inl (o_goto 88)) else none)) else (bif Nat.ble pc 87 then (bif Nat.beq pc 87 then some (.inl (oS 1 (s_push (.int 0)))) else none) else (bif Nat.beq pc 88 then some (.inr (0, 0, 0, 4)) else none))))))
theorem k_155_0 : mOk M_155.1 M_155.2.1 M_155.2.2.1 M_155.2.2.2 0 (o_al 0 1) := ok_aload_n dX11_meetsRegion_0 rfl
theorem k_155_1 : mOk M_155.1 M_155.2.1 M_155.2.2.1 M_155.2.2.2 1 (o_gP 11 6) := ok_gP dX11_meetsRegion_1 f_RX11_29 rfl
theorem k_155_4 : mOk M_155.1 M_155.2.1 M_155.2.2.1 M_155.2.2.2 4 (o_il 1 1) := ok_iload_n dX11_meetsRegion_4 rfl
theorem k_155_5 : mOk M_155.1 M_155.2.1 M_155.2.2.1 M_155.2.2.2 5 (o_iald) := ok_iald dX11_meetsRegion_5
theorem k_155_6 : mOk M_155.1 M_155.2.1 M_155.2.2.1 M_155.2.2.2 6 (o_is 2 1) := ok_istore_n dX11_meetsRegion_6 rfl
theorem k_155_7 : mOk M_155.1 M_155.2.1 M_155.2.2.1 M_155.2.2.2 7 (o_il 2 1) := ok_iload_n dX11_meetsRegion_7 rfl
theorem k_155_8 : mOk M_155.1 M_155.2.1 M_155.2.2.1 M_155.2.2.2 8 (oS 1 (s_push (.int 1))) := ok_iconst dX11_meetsRegion_8 (by decide)
theorem k_155_9 : mOk M_155.1 M_155.2.1 M_155.2.2.1 M_155.2.2.2 9 (o_cne 20) := ok_cne dX11_meetsRegion_9 (by decide)
theorem k_155_12 : mOk M_155.1 M_155.2.1 M_155.2.2.1 M_155.2.2.2 12 (o_al 0 1) := ok_aload_n dX11_meetsRegion_12 rfl
theorem k_155_13 : mOk M_155.1 M_155.2.1 M_155.2.2.1 M_155.2.2.2 13 (o_il 1 1) := ok_iload_n dX11_meetsRegion_13 rfl
theorem k_155_14 : mOk M_155.1 M_155.2.1 M_155.2.2.1 M_155.2.2.2 14 (oS 1 (s_push (.int 0))) := ok_iconst dX11_meetsRegion_14 (by decide)
theorem k_155_15 : mOk M_155.1 M_155.2.1 M_155.2.2.1 M_155.2.2.2 15 (oS 1 (s_push (.int 0))) := ok_iconst dX11_meetsRegion_15 (by decide)
theorem k_155_20 : mOk M_155.1 M_155.2.1 M_155.2.2.1 M_155.2.2.2 20 (oS 1 (s_push (.int 0))) := ok_iconst dX11_meetsRegion_20 (by decide)
theorem k_155_21 : mOk M_155.1 M_155.2.1 M_155.2.2.1 M_155.2.2.2 21 (o_is 3 1) := ok_istore_n dX11_meetsRegion_21 rfl
theorem k_155_22 : mOk M_155.1 M_155.2.1 M_155.2.2.1 M_155.2.2.2 22 (o_il 3 1) := ok_iload_n dX11_meetsRegion_22 rfl
theorem k_155_23 : mOk M_155.1 M_155.2.1 M_155.2.2.1 M_155.2.2.2 23 (o_al 0 1) := ok_aload_n dX11_meetsRegion_23 rfl
theorem k_155_24 : mOk M_155.1 M_155.2.1 M_155.2.2.1 M_155.2.2.2 24 (o_gP 11 2) := ok_gP dX11_meetsRegion_24 f_RX11_16 rfl
theorem k_155_27 : mOk M_155.1 M_155.2.1 M_155.2.2.1 M_155.2.2.2 27 (o_il 1 1) := ok_iload_n dX11_meetsRegion_27 rfl
theorem k_155_28 : mOk M_155.1 M_155.2.1 M_155.2.2.1 M_155.2.2.2 28 (o_iald) := ok_iald dX11_meetsRegion_28
theorem k_155_29 : mOk M_155.1 M_155.2.1 M_155.2.2.1 M_155.2.2.2 29 (oS 1 (s_push (.int 2))) := ok_iconst dX11_meetsRegion_29 (by decide)
theorem k_155_30 : mOk M_155.1 M_155.2.1 M_155.2.2.1 M_155.2.2.2 30 (o_cne 37) := ok_cne dX11_meetsRegion_30 (by decide)
theorem k_155_33 : mOk M_155.1 M_155.2.1 M_155.2.2.1 M_155.2.2.2 33 (o_il 2 1) := ok_iload_n dX11_meetsRegion_33 rfl
theorem k_155_34 : mOk M_155.1 M_155.2.1 M_155.2.2.1 M_155.2.2.2 34 (o_goto 40) := ok_goto dX11_meetsRegion_34 (by decide)
theorem k_155_37 : mOk M_155.1 M_155.2.1 M_155.2.2.1 M_155.2.2.2 37 (o_il 2 1) := ok_iload_n dX11_meetsRegion_37 rfl
theorem k_155_38 : mOk M_155.1 M_155.2.1 M_155.2.2.1 M_155.2.2.2 38 (oS 1 (s_push (.int 1))) := ok_iconst dX11_meetsRegion_38 (by decide)
theorem k_155_39 : mOk M_155.1 M_155.2.1 M_155.2.2.1 M_155.2.2.2 39 (oS 1 (s_ii (fun a b => a - b))) := ok_isub dX11_meetsRegion_39
theorem k_155_40 : mOk M_155.1 M_155.2.1 M_155.2.2.1 M_155.2.2.2 40 (o_cge 65) := ok_cge dX11_meetsRegion_40 (by decide)
theorem k_155_43 : mOk M_155.1 M_155.2.1 M_155.2.2.1 M_155.2.2.2 43 (o_al 0 1) := ok_aload_n dX11_meetsRegion_43 rfl
theorem k_155_44 : mOk M_155.1 M_155.2.1 M_155.2.2.1 M_155.2.2.2 44 (o_il 1 1) := ok_iload_n dX11_meetsRegion_44 rfl
theorem k_155_45 : mOk M_155.1 M_155.2.1 M_155.2.2.1 M_155.2.2.2 45 (o_il 3 1) := ok_iload_n dX11_meetsRegion_45 rfl
theorem k_155_46 : mOk M_155.1 M_155.2.1 M_155.2.2.1 M_155.2.2.2 46 (o_il 3 1) := ok_iload_n dX11_meetsRegion_46 rfl
theorem k_155_47 : mOk M_155.1 M_155.2.1 M_155.2.2.1 M_155.2.2.2 47 (oS 1 (s_push (.int 1))) := ok_iconst dX11_meetsRegion_47 (by decide)
theorem k_155_48 : mOk M_155.1 M_155.2.1 M_155.2.2.1 M_155.2.2.2 48 (oS 1 (s_ii (fun a b => a + b))) := ok_iadd dX11_meetsRegion_48
theorem k_155_49 : mOk M_155.1 M_155.2.1 M_155.2.2.1 M_155.2.2.2 49 (o_il 2 1) := ok_iload_n dX11_meetsRegion_49 rfl
theorem k_155_50 : mOk M_155.1 M_155.2.1 M_155.2.2.1 M_155.2.2.2 50 (oS 1 (s_iiz (fun a b => a - a / b * b))) := ok_irem dX11_meetsRegion_50
theorem k_155_54 : mOk M_155.1 M_155.2.1 M_155.2.2.1 M_155.2.2.2 54 (o_zeq 59) := ok_zeq dX11_meetsRegion_54 (by decide)
theorem k_155_57 : mOk M_155.1 M_155.2.1 M_155.2.2.1 M_155.2.2.2 57 (oS 1 (s_push (.int 1))) := ok_iconst dX11_meetsRegion_57 (by decide)
theorem k_155_59 : mOk M_155.1 M_155.2.1 M_155.2.2.1 M_155.2.2.2 59 (o_inc 3 1) := ok_iinc dX11_meetsRegion_59 (by decide)
theorem k_155_62 : mOk M_155.1 M_155.2.1 M_155.2.2.1 M_155.2.2.2 62 (o_goto 22) := ok_goto dX11_meetsRegion_62 (by decide)
theorem k_155_65 : mOk M_155.1 M_155.2.1 M_155.2.2.1 M_155.2.2.2 65 (o_al 0 1) := ok_aload_n dX11_meetsRegion_65 rfl
theorem k_155_66 : mOk M_155.1 M_155.2.1 M_155.2.2.1 M_155.2.2.2 66 (o_gP 11 2) := ok_gP dX11_meetsRegion_66 f_RX11_16 rfl
theorem k_155_69 : mOk M_155.1 M_155.2.1 M_155.2.2.1 M_155.2.2.2 69 (o_il 1 1) := ok_iload_n dX11_meetsRegion_69 rfl
theorem k_155_70 : mOk M_155.1 M_155.2.1 M_155.2.2.1 M_155.2.2.2 70 (o_iald) := ok_iald dX11_meetsRegion_70
theorem k_155_71 : mOk M_155.1 M_155.2.1 M_155.2.2.1 M_155.2.2.2 71 (oS 1 (s_push (.int 2))) := ok_iconst dX11_meetsRegion_71 (by decide)
theorem k_155_72 : mOk M_155.1 M_155.2.1 M_155.2.2.1 M_155.2.2.2 72 (o_cne 87) := ok_cne dX11_meetsRegion_72 (by decide)
theorem k_155_75 : mOk M_155.1 M_155.2.1 M_155.2.2.1 M_155.2.2.2 75 (o_al 0 1) := ok_aload_n dX11_meetsRegion_75 rfl
theorem k_155_76 : mOk M_155.1 M_155.2.1 M_155.2.2.1 M_155.2.2.2 76 (o_il 1 1) := ok_iload_n dX11_meetsRegion_76 rfl
theorem k_155_80 : mOk M_155.1 M_155.2.1 M_155.2.2.1 M_155.2.2.2 80 (o_zeq 87) := ok_zeq dX11_meetsRegion_80 (by decide)
theorem k_155_83 : mOk M_155.1 M_155.2.1 M_155.2.2.1 M_155.2.2.2 83 (oS 1 (s_push (.int 1))) := ok_iconst dX11_meetsRegion_83 (by decide)
theorem k_155_84 : mOk M_155.1 M_155.2.1 M_155.2.2.1 M_155.2.2.2 84 (o_goto 88) := ok_goto dX11_meetsRegion_84 (by decide)
theorem k_155_87 : mOk M_155.1 M_155.2.1 M_155.2.2.1 M_155.2.2.2 87 (oS 1 (s_push (.int 0))) := ok_iconst dX11_meetsRegion_87 (by decide)
set_option maxRecDepth 20000 in
set_option maxHeartbeats 4000000 in
theorem tk_155 (l : Launch) (H9 : mThr l) (H10 : mSpl l) (pc : Nat) (q : mEnt) (h : tb_155 pc = some q) : EE l 155 pc q := nd h (fun h => nd h (fun h => nd h (fun h => nd h (fun h => nd h (fun h => lf (P := EE l 155) h k_155_0) (fun h => nd h (fun h => lf (P := EE l 155) h k_155_1) (fun h => lf (P := EE l 155) h k_155_4))) (fun h => nd h (fun h => nd h (fun h => lf (P := EE l 155) h k_155_5) (fun h => lf (P := EE l 155) h k_155_6)) (fun h => nd h (fun h => lf (P := EE l 155) h k_155_7) (fun h => lf (P := EE l 155) h k_155_8)))) (fun h => nd h (fun h => nd h (fun h => lf (P := EE l 155) h k_155_9) (fun h => nd h (fun h => lf (P := EE l 155) h k_155_12) (fun h => lf (P := EE l 155) h k_155_13))) (fun h => nd h (fun h => nd h (fun h => lf (P := EE l 155) h k_155_14) (fun h => lf (P := EE l 155) h k_155_15)) (fun h => nd h (fun h => lf (P := EE l 155) h (EE_ca (by decide) (⟨m_1392, m_81, ⟨by decide, by decide⟩, by decide +kernel, ⟨by decide, by decide⟩, 277, 3, by decide +kernel, Or.inr (Or.inr (Or.inl ⟨rfl, rfl, dX11_meetsRegion_16, m_1389, m_1391, _, rfl, by decide, m_60⟩))⟩) rfl)) (fun h => lf (P := EE l 155) h (EE_re (Or.inr (Or.inl ⟨rfl, dX11_meetsRegion_19, rfl⟩)))))))) (fun h => nd h (fun h => nd h (fun h => nd h (fun h => lf (P := EE l 155) h k_155_20) (fun h => nd h (fun h => lf (P := EE l 155) h k_155_21) (fun h => lf (P := EE l 155) h k_155_22))) (fun h => nd h (fun h => nd h (fun h => lf (P := EE l 155) h k_155_23) (fun h => lf (P := EE l 155) h k_155_24)) (fun h => nd h (fun h => lf (P := EE l 155) h k_155_27) (fun h => lf (P := EE l 155) h k_155_28)))) (fun h => nd h (fun h => nd h (fun h => lf (P := EE l 155) h k_155_29) (fun h => nd h (fun h => lf (P := EE l 155) h k_155_30) (fun h => lf (P := EE l 155) h k_155_33))) (fun h => nd h (fun h => nd h (fun h => lf (P := EE l 155) h k_155_34) (fun h => lf (P := EE l 155) h k_155_37)) (fun h => nd h (fun h => lf (P := EE l 155) h k_155_38) (fun h => lf (P := EE l 155) h k_155_39)))))) (fun h => nd h (fun h => nd h (fun h => nd h (fun h => nd h (fun h => lf (P := EE l 155) h k_155_40) (fun h => nd h (fun h => lf (P := EE l 155) h k_155_43) (fun h => lf (P := EE l 155) h k_155_44))) (fun h => nd h (fun h => nd h (fun h => lf (P := EE l 155) h k_155_45) (fun h => lf (P := EE l 155) h k_155_46)) (fun h => nd h (fun h => lf (P := EE l 155) h k_155_47) (fun h => lf (P := EE l 155) h k_155_48)))) (fun h => nd h (fun h => nd h (fun h => lf (P := EE l 155) h k_155_49) (fun h => nd h (fun h => lf (P := EE l 155) h k_155_50) (fun h => lf (P := EE l 155) h (EE_ca (by decide) (⟨m_1392, m_81, ⟨by decide, by decide⟩, by decide +kernel, ⟨by decide, by decide⟩, 277, 3, by decide +kernel, Or.inr (Or.inr (Or.inl ⟨rfl, rfl, dX11_meetsRegion_51, m_1389, m_1391, _, rfl, by decide, m_60⟩))⟩) rfl)))) (fun h => nd h (fun h => nd h (fun h => lf (P := EE l 155) h k_155_54) (fun h => lf (P := EE l 155) h k_155_57)) (fun h => nd h (fun h => lf (P := EE l 155) h (EE_re (Or.inr (Or.inl ⟨rfl, dX11_meetsRegion_58, rfl⟩)))) (fun h => lf (P := EE l 155) h k_155_59))))) (fun h => nd h (fun h => nd h (fun h => nd h (fun h => lf (P := EE l 155) h k_155_62) (fun h => nd h (fun h => lf (P := EE l 155) h k_155_65) (fun h => lf (P := EE l 155) h k_155_66))) (fun h => nd h (fun h => nd h (fun h => lf (P := EE l 155) h k_155_69) (fun h => lf (P := EE l 155) h k_155_70)) (fun h => nd h (fun h => lf (P := EE l 155) h k_155_71) (fun h => lf (P := EE l 155) h k_155_72)))) (fun h => nd h (fun h => nd h (fun h => nd h (fun h => lf (P := EE l 155) h k_155_75) (fun h => lf (P := EE l 155) h k_155_76)) (fun h => nd h (fun h => lf (P := EE l 155) h (EE_ca (by decide) (⟨m_1396, m_81, ⟨by decide, by decide⟩, by decide +kernel, ⟨by decide, by decide⟩, 280, 1, by decide +kernel, Or.inr (Or.inr (Or.inl ⟨rfl, rfl, dX11_meetsRegion_77, m_1393, m_1395, _, rfl, by decide, m_61⟩))⟩) rfl)) (fun h => lf (P := EE l 155) h k_155_80))) (fun h => nd h (fun h => nd h (fun h => lf (P := EE l 155) h k_155_83) (fun h => lf (P := EE l 155) h k_155_84)) (fun h => nd h (fun h => lf (P := EE l 155) h k_155_87) (fun h => lf (P := EE l 155) h (EE_re (Or.inr (Or.inl ⟨rfl, dX11_meetsRegion_88, rfl⟩)))))))))
