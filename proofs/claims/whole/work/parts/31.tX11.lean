/-! tables of X11 (written by a program) -/
theorem dX11_init_0 : decode cX11_init 0 = .ok (.aload_n 0, 1) := by decide +kernel
theorem dX11_init_1 : decode cX11_init 1 = .ok (.invokespecial 1, 3) := by decide +kernel
theorem dX11_init_4 : decode cX11_init 4 = .ok (.aload_n 0, 1) := by decide +kernel
theorem dX11_init_5 : decode cX11_init 5 = .ok (.iconst 3, 1) := by decide +kernel
theorem dX11_init_6 : decode cX11_init 6 = .ok (.newarray .int, 2) := by decide +kernel
theorem dX11_init_8 : decode cX11_init 8 = .ok (.putfield 7, 3) := by decide +kernel
theorem dX11_init_11 : decode cX11_init 11 = .ok (.aload_n 0, 1) := by decide +kernel
theorem dX11_init_12 : decode cX11_init 12 = .ok (.bipush 72, 2) := by decide +kernel
theorem dX11_init_14 : decode cX11_init 14 = .ok (.newarray .int, 2) := by decide +kernel
theorem dX11_init_16 : decode cX11_init 16 = .ok (.putfield 13, 3) := by decide +kernel
theorem dX11_init_19 : decode cX11_init 19 = .ok (.aload_n 0, 1) := by decide +kernel
theorem dX11_init_20 : decode cX11_init 20 = .ok (.bipush 72, 2) := by decide +kernel
theorem dX11_init_22 : decode cX11_init 22 = .ok (.newarray .int, 2) := by decide +kernel
theorem dX11_init_24 : decode cX11_init 24 = .ok (.putfield 16, 3) := by decide +kernel
theorem dX11_init_27 : decode cX11_init 27 = .ok (.aload_n 0, 1) := by decide +kernel
theorem dX11_init_28 : decode cX11_init 28 = .ok (.bipush 72, 2) := by decide +kernel
theorem dX11_init_30 : decode cX11_init 30 = .ok (.newarray .int, 2) := by decide +kernel
theorem dX11_init_32 : decode cX11_init 32 = .ok (.putfield 19, 3) := by decide +kernel
theorem dX11_init_35 : decode cX11_init 35 = .ok (.aload_n 0, 1) := by decide +kernel
theorem dX11_init_36 : decode cX11_init 36 = .ok (.bipush 72, 2) := by decide +kernel
theorem dX11_init_38 : decode cX11_init 38 = .ok (.newarray .int, 2) := by decide +kernel
theorem dX11_init_40 : decode cX11_init 40 = .ok (.putfield 22, 3) := by decide +kernel
theorem dX11_init_43 : decode cX11_init 43 = .ok (.aload_n 0, 1) := by decide +kernel
theorem dX11_init_44 : decode cX11_init 44 = .ok (.bipush 72, 2) := by decide +kernel
theorem dX11_init_46 : decode cX11_init 46 = .ok (.newarray .long, 2) := by decide +kernel
theorem dX11_init_48 : decode cX11_init 48 = .ok (.putfield 25, 3) := by decide +kernel
theorem dX11_init_51 : decode cX11_init 51 = .ok (.aload_n 0, 1) := by decide +kernel
theorem dX11_init_52 : decode cX11_init 52 = .ok (.bipush 72, 2) := by decide +kernel
theorem dX11_init_54 : decode cX11_init 54 = .ok (.newarray .int, 2) := by decide +kernel
theorem dX11_init_56 : decode cX11_init 56 = .ok (.putfield 29, 3) := by decide +kernel
theorem dX11_init_59 : decode cX11_init 59 = .ok (.aload_n 0, 1) := by decide +kernel
theorem dX11_init_60 : decode cX11_init 60 = .ok (.sipush 864, 3) := by decide +kernel
theorem dX11_init_63 : decode cX11_init 63 = .ok (.newarray .int, 2) := by decide +kernel
theorem dX11_init_65 : decode cX11_init 65 = .ok (.putfield 32, 3) := by decide +kernel
theorem dX11_init_68 : decode cX11_init 68 = .ok (.aload_n 0, 1) := by decide +kernel
theorem dX11_init_69 : decode cX11_init 69 = .ok (.sipush 864, 3) := by decide +kernel
theorem dX11_init_72 : decode cX11_init 72 = .ok (.newarray .int, 2) := by decide +kernel
theorem dX11_init_74 : decode cX11_init 74 = .ok (.putfield 35, 3) := by decide +kernel
theorem dX11_init_77 : decode cX11_init 77 = .ok (.aload_n 0, 1) := by decide +kernel
theorem dX11_init_78 : decode cX11_init 78 = .ok (.bipush 12, 2) := by decide +kernel
theorem dX11_init_80 : decode cX11_init 80 = .ok (.newarray .int, 2) := by decide +kernel
theorem dX11_init_82 : decode cX11_init 82 = .ok (.putfield 38, 3) := by decide +kernel
theorem dX11_init_85 : decode cX11_init 85 = .ok (.aload_n 0, 1) := by decide +kernel
theorem dX11_init_86 : decode cX11_init 86 = .ok (.bipush 12, 2) := by decide +kernel
theorem dX11_init_88 : decode cX11_init 88 = .ok (.newarray .int, 2) := by decide +kernel
theorem dX11_init_90 : decode cX11_init 90 = .ok (.putfield 41, 3) := by decide +kernel
theorem dX11_init_93 : decode cX11_init 93 = .ok (.aload_n 0, 1) := by decide +kernel
theorem dX11_init_94 : decode cX11_init 94 = .ok (.iconst 5, 1) := by decide +kernel
theorem dX11_init_95 : decode cX11_init 95 = .ok (.newarray .int, 2) := by decide +kernel
theorem dX11_init_97 : decode cX11_init 97 = .ok (.putfield 44, 3) := by decide +kernel
theorem dX11_init_100 : decode cX11_init 100 = .ok (.aload_n 0, 1) := by decide +kernel
theorem dX11_init_101 : decode cX11_init 101 = .ok (.iconst 5, 1) := by decide +kernel
theorem dX11_init_102 : decode cX11_init 102 = .ok (.newarray .boolean, 2) := by decide +kernel
theorem dX11_init_104 : decode cX11_init 104 = .ok (.putfield 47, 3) := by decide +kernel
theorem dX11_init_107 : decode cX11_init 107 = .ok (.aload_n 0, 1) := by decide +kernel
theorem dX11_init_108 : decode cX11_init 108 = .ok (.iconst 5, 1) := by decide +kernel
theorem dX11_init_109 : decode cX11_init 109 = .ok (.newarray .int, 2) := by decide +kernel
theorem dX11_init_111 : decode cX11_init 111 = .ok (.putfield 51, 3) := by decide +kernel
theorem dX11_init_114 : decode cX11_init 114 = .ok (.aload_n 0, 1) := by decide +kernel
theorem dX11_init_115 : decode cX11_init 115 = .ok (.bipush 25, 2) := by decide +kernel
theorem dX11_init_117 : decode cX11_init 117 = .ok (.newarray .int, 2) := by decide +kernel
theorem dX11_init_119 : decode cX11_init 119 = .ok (.putfield 54, 3) := by decide +kernel
theorem dX11_init_122 : decode cX11_init 122 = .ok (.aload_n 0, 1) := by decide +kernel
theorem dX11_init_123 : decode cX11_init 123 = .ok (.iconst 5, 1) := by decide +kernel
theorem dX11_init_124 : decode cX11_init 124 = .ok (.newarray .int, 2) := by decide +kernel
theorem dX11_init_126 : decode cX11_init 126 = .ok (.putfield 57, 3) := by decide +kernel
theorem dX11_init_129 : decode cX11_init 129 = .ok (.aload_n 0, 1) := by decide +kernel
theorem dX11_init_130 : decode cX11_init 130 = .ok (.sipush 500, 3) := by decide +kernel
theorem dX11_init_133 : decode cX11_init 133 = .ok (.newarray .int, 2) := by decide +kernel
theorem dX11_init_135 : decode cX11_init 135 = .ok (.putfield 60, 3) := by decide +kernel
theorem dX11_init_138 : decode cX11_init 138 = .ok (.aload_n 0, 1) := by decide +kernel
theorem dX11_init_139 : decode cX11_init 139 = .ok (.sipush 500, 3) := by decide +kernel
theorem dX11_init_142 : decode cX11_init 142 = .ok (.newarray .int, 2) := by decide +kernel
theorem dX11_init_144 : decode cX11_init 144 = .ok (.putfield 63, 3) := by decide +kernel
theorem dX11_init_147 : decode cX11_init 147 = .ok (.aload_n 0, 1) := by decide +kernel
theorem dX11_init_148 : decode cX11_init 148 = .ok (.sipush 500, 3) := by decide +kernel
theorem dX11_init_151 : decode cX11_init 151 = .ok (.newarray .int, 2) := by decide +kernel
theorem dX11_init_153 : decode cX11_init 153 = .ok (.putfield 66, 3) := by decide +kernel
theorem dX11_init_156 : decode cX11_init 156 = .ok (.aload_n 0, 1) := by decide +kernel
theorem dX11_init_157 : decode cX11_init 157 = .ok (.sipush 500, 3) := by decide +kernel
theorem dX11_init_160 : decode cX11_init 160 = .ok (.newarray .int, 2) := by decide +kernel
theorem dX11_init_162 : decode cX11_init 162 = .ok (.putfield 69, 3) := by decide +kernel
theorem dX11_init_165 : decode cX11_init 165 = .ok (.aload_n 0, 1) := by decide +kernel
theorem dX11_init_166 : decode cX11_init 166 = .ok (.sipush 500, 3) := by decide +kernel
theorem dX11_init_169 : decode cX11_init 169 = .ok (.newarray .int, 2) := by decide +kernel
theorem dX11_init_171 : decode cX11_init 171 = .ok (.putfield 72, 3) := by decide +kernel
theorem dX11_init_174 : decode cX11_init 174 = .ok (.aload_n 0, 1) := by decide +kernel
theorem dX11_init_175 : decode cX11_init 175 = .ok (.sipush 500, 3) := by decide +kernel
theorem dX11_init_178 : decode cX11_init 178 = .ok (.newarray .int, 2) := by decide +kernel
theorem dX11_init_180 : decode cX11_init 180 = .ok (.putfield 75, 3) := by decide +kernel
theorem dX11_init_183 : decode cX11_init 183 = .ok (.aload_n 0, 1) := by decide +kernel
theorem dX11_init_184 : decode cX11_init 184 = .ok (.iconst 5, 1) := by decide +kernel
theorem dX11_init_185 : decode cX11_init 185 = .ok (.newarray .int, 2) := by decide +kernel
theorem dX11_init_187 : decode cX11_init 187 = .ok (.putfield 78, 3) := by decide +kernel
theorem dX11_init_190 : decode cX11_init 190 = .ok (.aload_n 0, 1) := by decide +kernel
theorem dX11_init_191 : decode cX11_init 191 = .ok (.sipush 25000, 3) := by decide +kernel
theorem dX11_init_194 : decode cX11_init 194 = .ok (.newarray .byte, 2) := by decide +kernel
theorem dX11_init_196 : decode cX11_init 196 = .ok (.putfield 81, 3) := by decide +kernel
theorem dX11_init_199 : decode cX11_init 199 = .ok (.aload_n 0, 1) := by decide +kernel
theorem dX11_init_200 : decode cX11_init 200 = .ok (.iconst 5, 1) := by decide +kernel
theorem dX11_init_201 : decode cX11_init 201 = .ok (.newarray .int, 2) := by decide +kernel
theorem dX11_init_203 : decode cX11_init 203 = .ok (.putfield 85, 3) := by decide +kernel
theorem dX11_init_206 : decode cX11_init 206 = .ok (.aload_n 0, 1) := by decide +kernel
theorem dX11_init_207 : decode cX11_init 207 = .ok (.bipush 120, 2) := by decide +kernel
theorem dX11_init_209 : decode cX11_init 209 = .ok (.newarray .int, 2) := by decide +kernel
theorem dX11_init_211 : decode cX11_init 211 = .ok (.putfield 88, 3) := by decide +kernel
theorem dX11_init_214 : decode cX11_init 214 = .ok (.aload_n 0, 1) := by decide +kernel
theorem dX11_init_215 : decode cX11_init 215 = .ok (.bipush 120, 2) := by decide +kernel
theorem dX11_init_217 : decode cX11_init 217 = .ok (.newarray .int, 2) := by decide +kernel
theorem dX11_init_219 : decode cX11_init 219 = .ok (.putfield 91, 3) := by decide +kernel
theorem dX11_init_222 : decode cX11_init 222 = .ok (.aload_n 0, 1) := by decide +kernel
theorem dX11_init_223 : decode cX11_init 223 = .ok (.bipush 120, 2) := by decide +kernel
theorem dX11_init_225 : decode cX11_init 225 = .ok (.newarray .int, 2) := by decide +kernel
theorem dX11_init_227 : decode cX11_init 227 = .ok (.putfield 94, 3) := by decide +kernel
theorem dX11_init_230 : decode cX11_init 230 = .ok (.aload_n 0, 1) := by decide +kernel
theorem dX11_init_231 : decode cX11_init 231 = .ok (.bipush 120, 2) := by decide +kernel
theorem dX11_init_233 : decode cX11_init 233 = .ok (.newarray .long, 2) := by decide +kernel
theorem dX11_init_235 : decode cX11_init 235 = .ok (.putfield 97, 3) := by decide +kernel
theorem dX11_init_238 : decode cX11_init 238 = .ok (.aload_n 0, 1) := by decide +kernel
theorem dX11_init_239 : decode cX11_init 239 = .ok (.bipush 120, 2) := by decide +kernel
theorem dX11_init_241 : decode cX11_init 241 = .ok (.newarray .int, 2) := by decide +kernel
theorem dX11_init_243 : decode cX11_init 243 = .ok (.putfield 100, 3) := by decide +kernel
theorem dX11_init_246 : decode cX11_init 246 = .ok (.aload_n 0, 1) := by decide +kernel
theorem dX11_init_247 : decode cX11_init 247 = .ok (.bipush 120, 2) := by decide +kernel
theorem dX11_init_249 : decode cX11_init 249 = .ok (.newarray .int, 2) := by decide +kernel
theorem dX11_init_251 : decode cX11_init 251 = .ok (.putfield 103, 3) := by decide +kernel
theorem dX11_init_254 : decode cX11_init 254 = .ok (.aload_n 0, 1) := by decide +kernel
theorem dX11_init_255 : decode cX11_init 255 = .ok (.sipush 12000, 3) := by decide +kernel
theorem dX11_init_258 : decode cX11_init 258 = .ok (.newarray .int, 2) := by decide +kernel
theorem dX11_init_260 : decode cX11_init 260 = .ok (.putfield 106, 3) := by decide +kernel
theorem dX11_init_263 : decode cX11_init 263 = .ok (.aload_n 0, 1) := by decide +kernel
theorem dX11_init_264 : decode cX11_init 264 = .ok (.sipush 12000, 3) := by decide +kernel
theorem dX11_init_267 : decode cX11_init 267 = .ok (.newarray .int, 2) := by decide +kernel
theorem dX11_init_269 : decode cX11_init 269 = .ok (.putfield 109, 3) := by decide +kernel
theorem dX11_init_272 : decode cX11_init 272 = .ok (.aload_n 0, 1) := by decide +kernel
theorem dX11_init_273 : decode cX11_init 273 = .ok (.sipush 400, 3) := by decide +kernel
theorem dX11_init_276 : decode cX11_init 276 = .ok (.newarray .int, 2) := by decide +kernel
theorem dX11_init_278 : decode cX11_init 278 = .ok (.putfield 112, 3) := by decide +kernel
theorem dX11_init_281 : decode cX11_init 281 = .ok (.aload_n 0, 1) := by decide +kernel
theorem dX11_init_282 : decode cX11_init 282 = .ok (.sipush 400, 3) := by decide +kernel
theorem dX11_init_285 : decode cX11_init 285 = .ok (.newarray .int, 2) := by decide +kernel
theorem dX11_init_287 : decode cX11_init 287 = .ok (.putfield 115, 3) := by decide +kernel
theorem dX11_init_290 : decode cX11_init 290 = .ok (.aload_n 0, 1) := by decide +kernel
theorem dX11_init_291 : decode cX11_init 291 = .ok (.sipush 400, 3) := by decide +kernel
theorem dX11_init_294 : decode cX11_init 294 = .ok (.newarray .boolean, 2) := by decide +kernel
theorem dX11_init_296 : decode cX11_init 296 = .ok (.putfield 118, 3) := by decide +kernel
theorem dX11_init_299 : decode cX11_init 299 = .ok (.aload_n 0, 1) := by decide +kernel
theorem dX11_init_300 : decode cX11_init 300 = .ok (.sipush 400, 3) := by decide +kernel
theorem dX11_init_303 : decode cX11_init 303 = .ok (.newarray .int, 2) := by decide +kernel
theorem dX11_init_305 : decode cX11_init 305 = .ok (.putfield 121, 3) := by decide +kernel
theorem dX11_init_308 : decode cX11_init 308 = .ok (.aload_n 0, 1) := by decide +kernel
theorem dX11_init_309 : decode cX11_init 309 = .ok (.sipush 400, 3) := by decide +kernel
theorem dX11_init_312 : decode cX11_init 312 = .ok (.newarray .int, 2) := by decide +kernel
theorem dX11_init_314 : decode cX11_init 314 = .ok (.putfield 124, 3) := by decide +kernel
theorem dX11_init_317 : decode cX11_init 317 = .ok (.aload_n 0, 1) := by decide +kernel
theorem dX11_init_318 : decode cX11_init 318 = .ok (.sipush 400, 3) := by decide +kernel
theorem dX11_init_321 : decode cX11_init 321 = .ok (.newarray .boolean, 2) := by decide +kernel
theorem dX11_init_323 : decode cX11_init 323 = .ok (.putfield 127, 3) := by decide +kernel
theorem dX11_init_326 : decode cX11_init 326 = .ok (.aload_n 0, 1) := by decide +kernel
theorem dX11_init_327 : decode cX11_init 327 = .ok (.bipush 16, 2) := by decide +kernel
theorem dX11_init_329 : decode cX11_init 329 = .ok (.newarray .boolean, 2) := by decide +kernel
theorem dX11_init_331 : decode cX11_init 331 = .ok (.putfield 130, 3) := by decide +kernel
theorem dX11_init_334 : decode cX11_init 334 = .ok (.return_, 1) := by decide +kernel
def tb_113 (pc : Nat) : Option mEnt := bif Nat.ble pc 160 then (bif Nat.ble pc 78 then (bif Nat.ble pc 36 then (bif Nat.ble pc 16 then (bif Nat.ble pc 6 then (bif Nat.ble pc 1 then (bif Nat.ble pc 0 then (bif Nat.beq pc 0 then some (.inl (o_al 0 1)) else none) else (bif Nat.beq pc 1 then some (.inr (5, 0, 0, 0)) else none)) else (bif Nat.ble pc 4 then (bif Nat.beq pc 4 then some (.inl (o_al 0 1)) else none) else (bif Nat.ble pc 5 then (bif Nat.beq pc 5 then some (.inl (oS 1 (s_push (.int 3)))) else none) else (bif Nat.beq pc 6 then some (.inl (o_newa 1)) else none)))) else (bif Nat.ble pc 11 then (bif Nat.ble pc 8 then (bif Nat.beq pc 8 then some (.inl (o_pP 11 0)) else none) else (bif Nat.beq pc 11 then some (.inl (o_al 0 1)) else none)) else (bif Nat.ble pc 12 then (bif Nat.beq pc 12 then some (.inl (oS 2 (s_push (.int 72)))) else none) else (bif Nat.ble pc 14 then (bif Nat.beq pc 14 then some (.inl (o_newa 1)) else none) else (bif Nat.beq pc 16 then some (.inl (o_pP 11 1)) else none))))) else (bif Nat.ble pc 27 then (bif Nat.ble pc 20 then (bif Nat.ble pc 19 then (bif Nat.beq pc 19 then some (.inl (o_al 0 1)) else none) else (bif Nat.beq pc 20 then some (.inl (oS 2 (s_push (.int 72)))) else none)) else (bif Nat.ble pc 22 then (bif Nat.beq pc 22 then some (.inl (o_newa 1)) else none) else (bif Nat.ble pc 24 then (bif Nat.beq pc 24 then some (.inl (o_pP 11 2)) else none) else (bif Nat.beq pc 27 then some (.inl (o_al 0 1)) else none)))) else (bif Nat.ble pc 30 then (bif Nat.ble pc 28 then (bif Nat.beq pc 28 then some (.inl (oS 2 (s_push (.int 72)))) else none) else (bif Nat.beq pc 30 then some (.inl (o_newa 1)) else none)) else (bif Nat.ble pc 32 then (bif Nat.beq pc 32 then some (.inl (o_pP 11 3)) else none) else (bif Nat.ble pc 35 then (bif Nat.beq pc 35 then some (.inl (o_al 0 1)) else none) else (bif Nat.beq pc 36 then some (.inl (oS 2 (s_push (.int 72)))) else none)))))) else (bif Nat.ble pc 56 then (bif Nat.ble pc 46 then (bif Nat.ble pc 40 then (bif Nat.ble pc 38 then (bif Nat.beq pc 38 then some (.inl (o_newa 1)) else none) else (bif Nat.beq pc 40 then some (.inl (o_pP 11 4)) else none)) else (bif Nat.ble pc 43 then (bif Nat.beq pc 43 then some (.inl (o_al 0 1)) else none) else (bif Nat.ble pc 44 then (bif Nat.beq pc 44 then some (.inl (oS 2 (s_push (.int 72)))) else none) else (bif Nat.beq pc 46 then some (.inl (o_newa 2)) else none)))) else (bif Nat.ble pc 51 then (bif Nat.ble pc 48 then (bif Nat.beq pc 48 then some (.inl (o_pP 11 5)) else none) else (bif Nat.beq pc 51 then some (.inl (o_al 0 1)) else none)) else (bif Nat.ble pc 52 then (bif Nat.beq pc 52 then some (.inl (oS 2 (s_push (.int 72)))) else none) else (bif Nat.ble pc 54 then (bif Nat.beq pc 54 then some (.inl (o_newa 1)) else none) else (bif Nat.beq pc 56 then some (.inl (o_pP 11 6)) else none))))) else (bif Nat.ble pc 68 then (bif Nat.ble pc 60 then (bif Nat.ble pc 59 then (bif Nat.beq pc 59 then some (.inl (o_al 0 1)) else none) else (bif Nat.beq pc 60 then some (.inl (oS 3 (s_push (.int 864)))) else none)) else (bif Nat.ble pc 63 then (bif Nat.beq pc 63 then some (.inl (o_newa 1)) else none) else (bif Nat.ble pc 65 then (bif Nat.beq pc 65 then some (.inl (o_pP 11 7)) else none) else (bif Nat.beq pc 68 then some (.inl (o_al 0 1)) else none)))) else (bif Nat.ble pc 72 then (bif Nat.ble pc 69 then (bif Nat.beq pc 69 then some (.inl (oS 3 (s_push (.int 864)))) else none) else (bif Nat.beq pc 72 then some (.inl (o_newa 1)) else none)) else (bif Nat.ble pc 74 then (bif Nat.beq pc 74 then some (.inl (o_pP 11 8)) else none) else (bif Nat.ble pc 77 then (bif Nat.beq pc 77 then some (.inl (o_al 0 1)) else none) else (bif Nat.beq pc 78 then some (.inl (oS 2 (s_push (.int 12)))) else none))))))) else (bif Nat.ble pc 115 then (bif Nat.ble pc 97 then (bif Nat.ble pc 88 then (bif Nat.ble pc 82 then (bif Nat.ble pc 80 then (bif Nat.beq pc 80 then some (.inl (o_newa 1)) else none) else (bif Nat.beq pc 82 then some (.inl (o_pP 11 10)) else none)) else (bif Nat.ble pc 85 then (bif Nat.beq pc 85 then some (.inl (o_al 0 1)) else none) else (bif Nat.ble pc 86 then (bif Nat.beq pc 86 then some (.inl (oS 2 (s_push (.int 12)))) else none) else (bif Nat.beq pc 88 then some (.inl (o_newa 1)) else none)))) else (bif Nat.ble pc 93 then (bif Nat.ble pc 90 then (bif Nat.beq pc 90 then some (.inl (o_pP 11 11)) else none) else (bif Nat.beq pc 93 then some (.inl (o_al 0 1)) else none)) else (bif Nat.ble pc 94 then (bif Nat.beq pc 94 then some (.inl (oS 1 (s_push (.int 5)))) else none) else (bif Nat.ble pc 95 then (bif Nat.beq pc 95 then some (.inl (o_newa 1)) else none) else (bif Nat.beq pc 97 then some (.inl (o_pP 11 14)) else none))))) else (bif Nat.ble pc 107 then (bif Nat.ble pc 101 then (bif Nat.ble pc 100 then (bif Nat.beq pc 100 then some (.inl (o_al 0 1)) else none) else (bif Nat.beq pc 101 then some (.inl (oS 1 (s_push (.int 5)))) else none)) else (bif Nat.ble pc 102 then (bif Nat.beq pc 102 then some (.inl (o_newa 3)) else none) else (bif Nat.ble pc 104 then (bif Nat.beq pc 104 then some (.inl (o_pP 11 17)) else none) else (bif Nat.beq pc 107 then some (.inl (o_al 0 1)) else none)))) else (bif Nat.ble pc 109 then (bif Nat.ble pc 108 then (bif Nat.beq pc 108 then some (.inl (oS 1 (s_push (.int 5)))) else none) else (bif Nat.beq pc 109 then some (.inl (o_newa 1)) else none)) else (bif Nat.ble pc 111 then (bif Nat.beq pc 111 then some (.inl (o_pP 11 18)) else none) else (bif Nat.ble pc 114 then (bif Nat.beq pc 114 then some (.inl (o_al 0 1)) else none) else (bif Nat.beq pc 115 then some (.inl (oS 2 (s_push (.int 25)))) else none)))))) else (bif Nat.ble pc 135 then (bif Nat.ble pc 124 then (bif Nat.ble pc 119 then (bif Nat.ble pc 117 then (bif Nat.beq pc 117 then some (.inl (o_newa 1)) else none) else (bif Nat.beq pc 119 then some (.inl (o_pP 11 19)) else none)) else (bif Nat.ble pc 122 then (bif Nat.beq pc 122 then some (.inl (o_al 0 1)) else none) else (bif Nat.ble pc 123 then (bif Nat.beq pc 123 then some (.inl (oS 1 (s_push (.int 5)))) else none) else (bif Nat.beq pc 124 then some (.inl (o_newa 1)) else none)))) else (bif Nat.ble pc 129 then (bif Nat.ble pc 126 then (bif Nat.beq pc 126 then some (.inl (o_pP 11 20)) else none) else (bif Nat.beq pc 129 then some (.inl (o_al 0 1)) else none)) else (bif Nat.ble pc 130 then (bif Nat.beq pc 130 then some (.inl (oS 3 (s_push (.int 500)))) else none) else (bif Nat.ble pc 133 then (bif Nat.beq pc 133 then some (.inl (o_newa 1)) else none) else (bif Nat.beq pc 135 then some (.inl (o_pP 11 21)) else none))))) else (bif Nat.ble pc 147 then (bif Nat.ble pc 139 then (bif Nat.ble pc 138 then (bif Nat.beq pc 138 then some (.inl (o_al 0 1)) else none) else (bif Nat.beq pc 139 then some (.inl (oS 3 (s_push (.int 500)))) else none)) else (bif Nat.ble pc 142 then (bif Nat.beq pc 142 then some (.inl (o_newa 1)) else none) else (bif Nat.ble pc 144 then (bif Nat.beq pc 144 then some (.inl (o_pP 11 22)) else none) else (bif Nat.beq pc 147 then some (.inl (o_al 0 1)) else none)))) else (bif Nat.ble pc 153 then (bif Nat.ble pc 148 then (bif Nat.beq pc 148 then some (.inl (oS 3 (s_push (.int 500)))) else none) else (bif Nat.ble pc 151 then (bif Nat.beq pc 151 then some (.inl (o_newa 1)) else none) else (bif Nat.beq pc 153 then some (.inl (o_pP 11 23)) else none))) else (bif Nat.ble pc 156 then (bif Nat.beq pc 156 then some (.inl (o_al 0 1)) else none) else (bif Nat.ble pc 157 then (bif Nat.beq pc 157 then some (.inl (oS 3 (s_push (.int 500)))) else none) else (bif Nat.beq pc 160 then some (.inl (o_newa 1)) else none)))))))) else (bif Nat.ble pc 243 then (bif Nat.ble pc 201 then (bif Nat.ble pc 183 then (bif Nat.ble pc 171 then (bif Nat.ble pc 165 then (bif Nat.ble pc 162 then (bif Nat.beq pc 162 then some (.inl (o_pP 11 24)) else none) else (bif Nat.beq pc 165 then some (.inl (o_al 0 1)) else none)) else (bif Nat.ble pc 166 then (bif Nat.beq pc 166 then some (.inl (oS 3 (s_push (.int 500)))) else none) else (bif Nat.ble pc 169 then (bif Nat.beq pc 169 then some (.inl (o_newa 1)) else none) else (bif Nat.beq pc 171 then some (.inl (o_pP 11 25)) else none)))) else (bif Nat.ble pc 175 then (bif Nat.ble pc 174 then (bif Nat.beq pc 174 then some (.inl (o_al 0 1)) else none) else (bif Nat.beq pc 175 then some (.inl (oS 3 (s_push (.int 500)))) else none)) else (bif Nat.ble pc 178 then (bif Nat.beq pc 178 then some (.inl (o_newa 1)) else none) else (bif Nat.ble pc 180 then (bif Nat.beq pc 180 then some (.inl (o_pP 11 26)) else none) else (bif Nat.beq pc 183 then some (.inl (o_al 0 1)) else none))))) else (bif Nat.ble pc 191 then (bif Nat.ble pc 185 then (bif Nat.ble pc 184 then (bif Nat.beq pc 184 then some (.inl (oS 1 (s_push (.int 5)))) else none) else (bif Nat.beq pc 185 then some (.inl (o_newa 1)) else none)) else (bif Nat.ble pc 187 then (bif Nat.beq pc 187 then some (.inl (o_pP 11 27)) else none) else (bif Nat.ble pc 190 then (bif Nat.beq pc 190 then some (.inl (o_al 0 1)) else none) else (bif Nat.beq pc 191 then some (.inl (oS 3 (s_push (.int 25000)))) else none)))) else (bif Nat.ble pc 196 then (bif Nat.ble pc 194 then (bif Nat.beq pc 194 then some (.inl (o_newa 0)) else none) else (bif Nat.beq pc 196 then some (.inl (o_pP 11 28)) else none)) else (bif Nat.ble pc 199 then (bif Nat.beq pc 199 then some (.inl (o_al 0 1)) else none) else (bif Nat.ble pc 200 then (bif Nat.beq pc 200 then some (.inl (oS 1 (s_push (.int 5)))) else none) else (bif Nat.beq pc 201 then some (.inl (o_newa 1)) else none)))))) else (bif Nat.ble pc 222 then (bif Nat.ble pc 211 then (bif Nat.ble pc 206 then (bif Nat.ble pc 203 then (bif Nat.beq pc 203 then some (.inl (o_pP 11 29)) else none) else (bif Nat.beq pc 206 then some (.inl (o_al 0 1)) else none)) else (bif Nat.ble pc 207 then (bif Nat.beq pc 207 then some (.inl (oS 2 (s_push (.int 120)))) else none) else (bif Nat.ble pc 209 then (bif Nat.beq pc 209 then some (.inl (o_newa 1)) else none) else (bif Nat.beq pc 211 then some (.inl (o_pP 11 30)) else none)))) else (bif Nat.ble pc 215 then (bif Nat.ble pc 214 then (bif Nat.beq pc 214 then some (.inl (o_al 0 1)) else none) else (bif Nat.beq pc 215 then some (.inl (oS 2 (s_push (.int 120)))) else none)) else (bif Nat.ble pc 217 then (bif Nat.beq pc 217 then some (.inl (o_newa 1)) else none) else (bif Nat.ble pc 219 then (bif Nat.beq pc 219 then some (.inl (o_pP 11 31)) else none) else (bif Nat.beq pc 222 then some (.inl (o_al 0 1)) else none))))) else (bif Nat.ble pc 231 then (bif Nat.ble pc 225 then (bif Nat.ble pc 223 then (bif Nat.beq pc 223 then some (.inl (oS 2 (s_push (.int 120)))) else none) else (bif Nat.beq pc 225 then some (.inl (o_newa 1)) else none)) else (bif Nat.ble pc 227 then (bif Nat.beq pc 227 then some (.inl (o_pP 11 32)) else none) else (bif Nat.ble pc 230 then (bif Nat.beq pc 230 then some (.inl (o_al 0 1)) else none) else (bif Nat.beq pc 231 then some (.inl (oS 2 (s_push (.int 120)))) else none)))) else (bif Nat.ble pc 238 then (bif Nat.ble pc 233 then (bif Nat.beq pc 233 then some (.inl (o_newa 2)) else none) else (bif Nat.ble pc 235 then (bif Nat.beq pc 235 then some (.inl (o_pP 11 33)) else none) else (bif Nat.beq pc 238 then some (.inl (o_al 0 1)) else none))) else (bif Nat.ble pc 239 then (bif Nat.beq pc 239 then some (.inl (oS 2 (s_push (.int 120)))) else none) else (bif Nat.ble pc 241 then (bif Nat.beq pc 241 then some (.inl (o_newa 1)) else none) else (bif Nat.beq pc 243 then some (.inl (o_pP 11 34)) else none))))))) else (bif Nat.ble pc 287 then (bif Nat.ble pc 264 then (bif Nat.ble pc 254 then (bif Nat.ble pc 247 then (bif Nat.ble pc 246 then (bif Nat.beq pc 246 then some (.inl (o_al 0 1)) else none) else (bif Nat.beq pc 247 then some (.inl (oS 2 (s_push (.int 120)))) else none)) else (bif Nat.ble pc 249 then (bif Nat.beq pc 249 then some (.inl (o_newa 1)) else none) else (bif Nat.ble pc 251 then (bif Nat.beq pc 251 then some (.inl (o_pP 11 35)) else none) else (bif Nat.beq pc 254 then some (.inl (o_al 0 1)) else none)))) else (bif Nat.ble pc 258 then (bif Nat.ble pc 255 then (bif Nat.beq pc 255 then some (.inl (oS 3 (s_push (.int 12000)))) else none) else (bif Nat.beq pc 258 then some (.inl (o_newa 1)) else none)) else (bif Nat.ble pc 260 then (bif Nat.beq pc 260 then some (.inl (o_pP 11 36)) else none) else (bif Nat.ble pc 263 then (bif Nat.beq pc 263 then some (.inl (o_al 0 1)) else none) else (bif Nat.beq pc 264 then some (.inl (oS 3 (s_push (.int 12000)))) else none))))) else (bif Nat.ble pc 276 then (bif Nat.ble pc 269 then (bif Nat.ble pc 267 then (bif Nat.beq pc 267 then some (.inl (o_newa 1)) else none) else (bif Nat.beq pc 269 then some (.inl (o_pP 11 38)) else none)) else (bif Nat.ble pc 272 then (bif Nat.beq pc 272 then some (.inl (o_al 0 1)) else none) else (bif Nat.ble pc 273 then (bif Nat.beq pc 273 then some (.inl (oS 3 (s_push (.int 400)))) else none) else (bif Nat.beq pc 276 then some (.inl (o_newa 1)) else none)))) else (bif Nat.ble pc 281 then (bif Nat.ble pc 278 then (bif Nat.beq pc 278 then some (.inl (o_pP 11 40)) else none) else (bif Nat.beq pc 281 then some (.inl (o_al 0 1)) else none)) else (bif Nat.ble pc 282 then (bif Nat.beq pc 282 then some (.inl (oS 3 (s_push (.int 400)))) else none) else (bif Nat.ble pc 285 then (bif Nat.beq pc 285 then some (.inl (o_newa 1)) else none) else (bif Nat.beq pc 287 then some (.inl (o_pP 11 41)) else none)))))) else (bif Nat.ble pc 309 then (bif Nat.ble pc 299 then (bif Nat.ble pc 291 then (bif Nat.ble pc 290 then (bif Nat.beq pc 290 then some (.inl (o_al 0 1)) else none) else (bif Nat.beq pc 291 then some (.inl (oS 3 (s_push (.int 400)))) else none)) else (bif Nat.ble pc 294 then (bif Nat.beq pc 294 then some (.inl (o_newa 3)) else none) else (bif Nat.ble pc 296 then (bif Nat.beq pc 296 then some (.inl (o_pP 11 42)) else none) else (bif Nat.beq pc 299 then some (.inl (o_al 0 1)) else none)))) else (bif Nat.ble pc 303 then (bif Nat.ble pc 300 then (bif Nat.beq pc 300 then some (.inl (oS 3 (s_push (.int 400)))) else none) else (bif Nat.beq pc 303 then some (.inl (o_newa 1)) else none)) else (bif Nat.ble pc 305 then (bif Nat.beq pc 305 then some (.inl (o_pP 11 44)) else none) else (bif Nat.ble pc 308 then (bif Nat.beq pc 308 then some (.inl (o_al 0 1)) else none) else (bif Nat.beq pc 309 then some (.inl (oS 3 (s_push (.int 400)))) else none))))) else (bif Nat.ble pc 321 then (bif Nat.ble pc 314 then (bif Nat.ble pc 312 then (bif Nat.beq pc 312 then some (.inl (o_newa 1)) else none) else (bif Nat.beq pc 314 then some (.inl (o_pP 11 45)) else none)) else (bif Nat.ble pc 317 then (bif Nat.beq pc 317 then some (.inl (o_al 0 1)) else none) else (bif Nat.ble pc 318 then (bif Nat.beq pc 318 then some (.inl (oS 3 (s_push (.int 400)))) else none) else (bif Nat.beq pc 321 then some (.inl (o_newa 3)) else none)))) else (bif Nat.ble pc 327 then (bif Nat.ble pc 323 then (bif Nat.beq pc 323 then some (.inl (o_pP 11 46)) else none) else (bif Nat.ble pc 326 then (bif Nat.beq pc 326 then some (.inl (o_al 0 1)) else none) else (bif Nat.beq pc 327 then some (.inl (oS 2 (s_push (.int 16)))) else none))) else (bif Nat.ble pc 329 then (bif Nat.beq pc 329 then some (.inl (o_newa 3)) else none) else (bif Nat.ble pc 331 then (bif Nat.beq pc 331 then some (.inl (o_pP 11 48)) else none) else (bif Nat.beq pc 334 then some (.inr (0, 0, 0, 3)) else none))))))))
theorem k_113_0 : mOk M_113.1 M_113.2.1 M_113.2.2.1 M_113.2.2.2 0 (o_al 0 1) := ok_aload_n dX11_init_0 rfl
theorem k_113_4 : mOk M_113.1 M_113.2.1 M_113.2.2.1 M_113.2.2.2 4 (o_al 0 1) := ok_aload_n dX11_init_4 rfl
theorem k_113_5 : mOk M_113.1 M_113.2.1 M_113.2.2.1 M_113.2.2.2 5 (oS 1 (s_push (.int 3))) := ok_iconst dX11_init_5 (by decide)
theorem k_113_6 : mOk M_113.1 M_113.2.1 M_113.2.2.1 M_113.2.2.2 6 (o_newa 1) := ok_newa dX11_init_6 (by decide) m_145 (fun _ => rfl) (fun _ _ h => h) (by decide) rfl
theorem k_113_8 : mOk M_113.1 M_113.2.1 M_113.2.2.1 M_113.2.2.2 8 (o_pP 11 0) := ok_pP dX11_init_8 (mFw_of f_RX11_7_c (Or.inr ⟨rfl, rfl, rfl⟩)) rfl
theorem k_113_11 : mOk M_113.1 M_113.2.1 M_113.2.2.1 M_113.2.2.2 11 (o_al 0 1) := ok_aload_n dX11_init_11 rfl
theorem k_113_12 : mOk M_113.1 M_113.2.1 M_113.2.2.1 M_113.2.2.2 12 (oS 2 (s_push (.int 72))) := ok_bipush dX11_init_12 (by decide)
theorem k_113_14 : mOk M_113.1 M_113.2.1 M_113.2.2.1 M_113.2.2.2 14 (o_newa 1) := ok_newa dX11_init_14 (by decide) m_145 (fun _ => rfl) (fun _ _ h => h) (by decide) rfl
theorem k_113_16 : mOk M_113.1 M_113.2.1 M_113.2.2.1 M_113.2.2.2 16 (o_pP 11 1) := ok_pP dX11_init_16 (mFw_of f_RX11_13_c (Or.inr ⟨rfl, rfl, rfl⟩)) rfl
theorem k_113_19 : mOk M_113.1 M_113.2.1 M_113.2.2.1 M_113.2.2.2 19 (o_al 0 1) := ok_aload_n dX11_init_19 rfl
theorem k_113_20 : mOk M_113.1 M_113.2.1 M_113.2.2.1 M_113.2.2.2 20 (oS 2 (s_push (.int 72))) := ok_bipush dX11_init_20 (by decide)
theorem k_113_22 : mOk M_113.1 M_113.2.1 M_113.2.2.1 M_113.2.2.2 22 (o_newa 1) := ok_newa dX11_init_22 (by decide) m_145 (fun _ => rfl) (fun _ _ h => h) (by decide) rfl
theorem k_113_24 : mOk M_113.1 M_113.2.1 M_113.2.2.1 M_113.2.2.2 24 (o_pP 11 2) := ok_pP dX11_init_24 (mFw_of f_RX11_16_c (Or.inr ⟨rfl, rfl, rfl⟩)) rfl
theorem k_113_27 : mOk M_113.1 M_113.2.1 M_113.2.2.1 M_113.2.2.2 27 (o_al 0 1) := ok_aload_n dX11_init_27 rfl
theorem k_113_28 : mOk M_113.1 M_113.2.1 M_113.2.2.1 M_113.2.2.2 28 (oS 2 (s_push (.int 72))) := ok_bipush dX11_init_28 (by decide)
theorem k_113_30 : mOk M_113.1 M_113.2.1 M_113.2.2.1 M_113.2.2.2 30 (o_newa 1) := ok_newa dX11_init_30 (by decide) m_145 (fun _ => rfl) (fun _ _ h => h) (by decide) rfl
theorem k_113_32 : mOk M_113.1 M_113.2.1 M_113.2.2.1 M_113.2.2.2 32 (o_pP 11 3) := ok_pP dX11_init_32 (mFw_of f_RX11_19_c (Or.inr ⟨rfl, rfl, rfl⟩)) rfl
theorem k_113_35 : mOk M_113.1 M_113.2.1 M_113.2.2.1 M_113.2.2.2 35 (o_al 0 1) := ok_aload_n dX11_init_35 rfl
theorem k_113_36 : mOk M_113.1 M_113.2.1 M_113.2.2.1 M_113.2.2.2 36 (oS 2 (s_push (.int 72))) := ok_bipush dX11_init_36 (by decide)
theorem k_113_38 : mOk M_113.1 M_113.2.1 M_113.2.2.1 M_113.2.2.2 38 (o_newa 1) := ok_newa dX11_init_38 (by decide) m_145 (fun _ => rfl) (fun _ _ h => h) (by decide) rfl
theorem k_113_40 : mOk M_113.1 M_113.2.1 M_113.2.2.1 M_113.2.2.2 40 (o_pP 11 4) := ok_pP dX11_init_40 (mFw_of f_RX11_22_c (Or.inr ⟨rfl, rfl, rfl⟩)) rfl
theorem k_113_43 : mOk M_113.1 M_113.2.1 M_113.2.2.1 M_113.2.2.2 43 (o_al 0 1) := ok_aload_n dX11_init_43 rfl
theorem k_113_44 : mOk M_113.1 M_113.2.1 M_113.2.2.1 M_113.2.2.2 44 (oS 2 (s_push (.int 72))) := ok_bipush dX11_init_44 (by decide)
theorem k_113_46 : mOk M_113.1 M_113.2.1 M_113.2.2.1 M_113.2.2.2 46 (o_newa 2) := ok_newa dX11_init_46 (by decide) m_1208 (fun _ => rfl) (fun _ _ h => h) (by decide) rfl
theorem k_113_48 : mOk M_113.1 M_113.2.1 M_113.2.2.1 M_113.2.2.2 48 (o_pP 11 5) := ok_pP dX11_init_48 (mFw_of f_RX11_25_c (Or.inr ⟨rfl, rfl, rfl⟩)) rfl
theorem k_113_51 : mOk M_113.1 M_113.2.1 M_113.2.2.1 M_113.2.2.2 51 (o_al 0 1) := ok_aload_n dX11_init_51 rfl
theorem k_113_52 : mOk M_113.1 M_113.2.1 M_113.2.2.1 M_113.2.2.2 52 (oS 2 (s_push (.int 72))) := ok_bipush dX11_init_52 (by decide)
theorem k_113_54 : mOk M_113.1 M_113.2.1 M_113.2.2.1 M_113.2.2.2 54 (o_newa 1) := ok_newa dX11_init_54 (by decide) m_145 (fun _ => rfl) (fun _ _ h => h) (by decide) rfl
theorem k_113_56 : mOk M_113.1 M_113.2.1 M_113.2.2.1 M_113.2.2.2 56 (o_pP 11 6) := ok_pP dX11_init_56 (mFw_of f_RX11_29_c (Or.inr ⟨rfl, rfl, rfl⟩)) rfl
theorem k_113_59 : mOk M_113.1 M_113.2.1 M_113.2.2.1 M_113.2.2.2 59 (o_al 0 1) := ok_aload_n dX11_init_59 rfl
theorem k_113_60 : mOk M_113.1 M_113.2.1 M_113.2.2.1 M_113.2.2.2 60 (oS 3 (s_push (.int 864))) := ok_sipush dX11_init_60 (by decide)
theorem k_113_63 : mOk M_113.1 M_113.2.1 M_113.2.2.1 M_113.2.2.2 63 (o_newa 1) := ok_newa dX11_init_63 (by decide) m_145 (fun _ => rfl) (fun _ _ h => h) (by decide) rfl
theorem k_113_65 : mOk M_113.1 M_113.2.1 M_113.2.2.1 M_113.2.2.2 65 (o_pP 11 7) := ok_pP dX11_init_65 (mFw_of f_RX11_32_c (Or.inr ⟨rfl, rfl, rfl⟩)) rfl
theorem k_113_68 : mOk M_113.1 M_113.2.1 M_113.2.2.1 M_113.2.2.2 68 (o_al 0 1) := ok_aload_n dX11_init_68 rfl
theorem k_113_69 : mOk M_113.1 M_113.2.1 M_113.2.2.1 M_113.2.2.2 69 (oS 3 (s_push (.int 864))) := ok_sipush dX11_init_69 (by decide)
theorem k_113_72 : mOk M_113.1 M_113.2.1 M_113.2.2.1 M_113.2.2.2 72 (o_newa 1) := ok_newa dX11_init_72 (by decide) m_145 (fun _ => rfl) (fun _ _ h => h) (by decide) rfl
theorem k_113_74 : mOk M_113.1 M_113.2.1 M_113.2.2.1 M_113.2.2.2 74 (o_pP 11 8) := ok_pP dX11_init_74 (mFw_of f_RX11_35_c (Or.inr ⟨rfl, rfl, rfl⟩)) rfl
theorem k_113_77 : mOk M_113.1 M_113.2.1 M_113.2.2.1 M_113.2.2.2 77 (o_al 0 1) := ok_aload_n dX11_init_77 rfl
theorem k_113_78 : mOk M_113.1 M_113.2.1 M_113.2.2.1 M_113.2.2.2 78 (oS 2 (s_push (.int 12))) := ok_bipush dX11_init_78 (by decide)
theorem k_113_80 : mOk M_113.1 M_113.2.1 M_113.2.2.1 M_113.2.2.2 80 (o_newa 1) := ok_newa dX11_init_80 (by decide) m_145 (fun _ => rfl) (fun _ _ h => h) (by decide) rfl
theorem k_113_82 : mOk M_113.1 M_113.2.1 M_113.2.2.1 M_113.2.2.2 82 (o_pP 11 10) := ok_pP dX11_init_82 (mFw_of f_RX11_38_c (Or.inr ⟨rfl, rfl, rfl⟩)) rfl
theorem k_113_85 : mOk M_113.1 M_113.2.1 M_113.2.2.1 M_113.2.2.2 85 (o_al 0 1) := ok_aload_n dX11_init_85 rfl
theorem k_113_86 : mOk M_113.1 M_113.2.1 M_113.2.2.1 M_113.2.2.2 86 (oS 2 (s_push (.int 12))) := ok_bipush dX11_init_86 (by decide)
theorem k_113_88 : mOk M_113.1 M_113.2.1 M_113.2.2.1 M_113.2.2.2 88 (o_newa 1) := ok_newa dX11_init_88 (by decide) m_145 (fun _ => rfl) (fun _ _ h => h) (by decide) rfl
theorem k_113_90 : mOk M_113.1 M_113.2.1 M_113.2.2.1 M_113.2.2.2 90 (o_pP 11 11) := ok_pP dX11_init_90 (mFw_of f_RX11_41_c (Or.inr ⟨rfl, rfl, rfl⟩)) rfl
theorem k_113_93 : mOk M_113.1 M_113.2.1 M_113.2.2.1 M_113.2.2.2 93 (o_al 0 1) := ok_aload_n dX11_init_93 rfl
theorem k_113_94 : mOk M_113.1 M_113.2.1 M_113.2.2.1 M_113.2.2.2 94 (oS 1 (s_push (.int 5))) := ok_iconst dX11_init_94 (by decide)
theorem k_113_95 : mOk M_113.1 M_113.2.1 M_113.2.2.1 M_113.2.2.2 95 (o_newa 1) := ok_newa dX11_init_95 (by decide) m_145 (fun _ => rfl) (fun _ _ h => h) (by decide) rfl
theorem k_113_97 : mOk M_113.1 M_113.2.1 M_113.2.2.1 M_113.2.2.2 97 (o_pP 11 14) := ok_pP dX11_init_97 (mFw_of f_RX11_44_c (Or.inr ⟨rfl, rfl, rfl⟩)) rfl
theorem k_113_100 : mOk M_113.1 M_113.2.1 M_113.2.2.1 M_113.2.2.2 100 (o_al 0 1) := ok_aload_n dX11_init_100 rfl
theorem k_113_101 : mOk M_113.1 M_113.2.1 M_113.2.2.1 M_113.2.2.2 101 (oS 1 (s_push (.int 5))) := ok_iconst dX11_init_101 (by decide)
theorem k_113_102 : mOk M_113.1 M_113.2.1 M_113.2.2.1 M_113.2.2.2 102 (o_newa 3) := ok_newa dX11_init_102 (by decide) m_214 (fun _ => rfl) (fun _ _ h => h) (by decide) rfl
theorem k_113_104 : mOk M_113.1 M_113.2.1 M_113.2.2.1 M_113.2.2.2 104 (o_pP 11 17) := ok_pP dX11_init_104 (mFw_of f_RX11_47_c (Or.inr ⟨rfl, rfl, rfl⟩)) rfl
theorem k_113_107 : mOk M_113.1 M_113.2.1 M_113.2.2.1 M_113.2.2.2 107 (o_al 0 1) := ok_aload_n dX11_init_107 rfl
theorem k_113_108 : mOk M_113.1 M_113.2.1 M_113.2.2.1 M_113.2.2.2 108 (oS 1 (s_push (.int 5))) := ok_iconst dX11_init_108 (by decide)
theorem k_113_109 : mOk M_113.1 M_113.2.1 M_113.2.2.1 M_113.2.2.2 109 (o_newa 1) := ok_newa dX11_init_109 (by decide) m_145 (fun _ => rfl) (fun _ _ h => h) (by decide) rfl
theorem k_113_111 : mOk M_113.1 M_113.2.1 M_113.2.2.1 M_113.2.2.2 111 (o_pP 11 18) := ok_pP dX11_init_111 (mFw_of f_RX11_51_c (Or.inr ⟨rfl, rfl, rfl⟩)) rfl
theorem k_113_114 : mOk M_113.1 M_113.2.1 M_113.2.2.1 M_113.2.2.2 114 (o_al 0 1) := ok_aload_n dX11_init_114 rfl
theorem k_113_115 : mOk M_113.1 M_113.2.1 M_113.2.2.1 M_113.2.2.2 115 (oS 2 (s_push (.int 25))) := ok_bipush dX11_init_115 (by decide)
theorem k_113_117 : mOk M_113.1 M_113.2.1 M_113.2.2.1 M_113.2.2.2 117 (o_newa 1) := ok_newa dX11_init_117 (by decide) m_145 (fun _ => rfl) (fun _ _ h => h) (by decide) rfl
theorem k_113_119 : mOk M_113.1 M_113.2.1 M_113.2.2.1 M_113.2.2.2 119 (o_pP 11 19) := ok_pP dX11_init_119 (mFw_of f_RX11_54_c (Or.inr ⟨rfl, rfl, rfl⟩)) rfl
theorem k_113_122 : mOk M_113.1 M_113.2.1 M_113.2.2.1 M_113.2.2.2 122 (o_al 0 1) := ok_aload_n dX11_init_122 rfl
theorem k_113_123 : mOk M_113.1 M_113.2.1 M_113.2.2.1 M_113.2.2.2 123 (oS 1 (s_push (.int 5))) := ok_iconst dX11_init_123 (by decide)
theorem k_113_124 : mOk M_113.1 M_113.2.1 M_113.2.2.1 M_113.2.2.2 124 (o_newa 1) := ok_newa dX11_init_124 (by decide) m_145 (fun _ => rfl) (fun _ _ h => h) (by decide) rfl
theorem k_113_126 : mOk M_113.1 M_113.2.1 M_113.2.2.1 M_113.2.2.2 126 (o_pP 11 20) := ok_pP dX11_init_126 (mFw_of f_RX11_57_c (Or.inr ⟨rfl, rfl, rfl⟩)) rfl
theorem k_113_129 : mOk M_113.1 M_113.2.1 M_113.2.2.1 M_113.2.2.2 129 (o_al 0 1) := ok_aload_n dX11_init_129 rfl
theorem k_113_130 : mOk M_113.1 M_113.2.1 M_113.2.2.1 M_113.2.2.2 130 (oS 3 (s_push (.int 500))) := ok_sipush dX11_init_130 (by decide)
theorem k_113_133 : mOk M_113.1 M_113.2.1 M_113.2.2.1 M_113.2.2.2 133 (o_newa 1) := ok_newa dX11_init_133 (by decide) m_145 (fun _ => rfl) (fun _ _ h => h) (by decide) rfl
theorem k_113_135 : mOk M_113.1 M_113.2.1 M_113.2.2.1 M_113.2.2.2 135 (o_pP 11 21) := ok_pP dX11_init_135 (mFw_of f_RX11_60_c (Or.inr ⟨rfl, rfl, rfl⟩)) rfl
theorem k_113_138 : mOk M_113.1 M_113.2.1 M_113.2.2.1 M_113.2.2.2 138 (o_al 0 1) := ok_aload_n dX11_init_138 rfl
theorem k_113_139 : mOk M_113.1 M_113.2.1 M_113.2.2.1 M_113.2.2.2 139 (oS 3 (s_push (.int 500))) := ok_sipush dX11_init_139 (by decide)
theorem k_113_142 : mOk M_113.1 M_113.2.1 M_113.2.2.1 M_113.2.2.2 142 (o_newa 1) := ok_newa dX11_init_142 (by decide) m_145 (fun _ => rfl) (fun _ _ h => h) (by decide) rfl
theorem k_113_144 : mOk M_113.1 M_113.2.1 M_113.2.2.1 M_113.2.2.2 144 (o_pP 11 22) := ok_pP dX11_init_144 (mFw_of f_RX11_63_c (Or.inr ⟨rfl, rfl, rfl⟩)) rfl
theorem k_113_147 : mOk M_113.1 M_113.2.1 M_113.2.2.1 M_113.2.2.2 147 (o_al 0 1) := ok_aload_n dX11_init_147 rfl
theorem k_113_148 : mOk M_113.1 M_113.2.1 M_113.2.2.1 M_113.2.2.2 148 (oS 3 (s_push (.int 500))) := ok_sipush dX11_init_148 (by decide)
theorem k_113_151 : mOk M_113.1 M_113.2.1 M_113.2.2.1 M_113.2.2.2 151 (o_newa 1) := ok_newa dX11_init_151 (by decide) m_145 (fun _ => rfl) (fun _ _ h => h) (by decide) rfl
theorem k_113_153 : mOk M_113.1 M_113.2.1 M_113.2.2.1 M_113.2.2.2 153 (o_pP 11 23) := ok_pP dX11_init_153 (mFw_of f_RX11_66_c (Or.inr ⟨rfl, rfl, rfl⟩)) rfl
theorem k_113_156 : mOk M_113.1 M_113.2.1 M_113.2.2.1 M_113.2.2.2 156 (o_al 0 1) := ok_aload_n dX11_init_156 rfl
theorem k_113_157 : mOk M_113.1 M_113.2.1 M_113.2.2.1 M_113.2.2.2 157 (oS 3 (s_push (.int 500))) := ok_sipush dX11_init_157 (by decide)
theorem k_113_160 : mOk M_113.1 M_113.2.1 M_113.2.2.1 M_113.2.2.2 160 (o_newa 1) := ok_newa dX11_init_160 (by decide) m_145 (fun _ => rfl) (fun _ _ h => h) (by decide) rfl
theorem k_113_162 : mOk M_113.1 M_113.2.1 M_113.2.2.1 M_113.2.2.2 162 (o_pP 11 24) := ok_pP dX11_init_162 (mFw_of f_RX11_69_c (Or.inr ⟨rfl, rfl, rfl⟩)) rfl
theorem k_113_165 : mOk M_113.1 M_113.2.1 M_113.2.2.1 M_113.2.2.2 165 (o_al 0 1) := ok_aload_n dX11_init_165 rfl
theorem k_113_166 : mOk M_113.1 M_113.2.1 M_113.2.2.1 M_113.2.2.2 166 (oS 3 (s_push (.int 500))) := ok_sipush dX11_init_166 (by decide)
theorem k_113_169 : mOk M_113.1 M_113.2.1 M_113.2.2.1 M_113.2.2.2 169 (o_newa 1) := ok_newa dX11_init_169 (by decide) m_145 (fun _ => rfl) (fun _ _ h => h) (by decide) rfl
theorem k_113_171 : mOk M_113.1 M_113.2.1 M_113.2.2.1 M_113.2.2.2 171 (o_pP 11 25) := ok_pP dX11_init_171 (mFw_of f_RX11_72_c (Or.inr ⟨rfl, rfl, rfl⟩)) rfl
theorem k_113_174 : mOk M_113.1 M_113.2.1 M_113.2.2.1 M_113.2.2.2 174 (o_al 0 1) := ok_aload_n dX11_init_174 rfl
theorem k_113_175 : mOk M_113.1 M_113.2.1 M_113.2.2.1 M_113.2.2.2 175 (oS 3 (s_push (.int 500))) := ok_sipush dX11_init_175 (by decide)
theorem k_113_178 : mOk M_113.1 M_113.2.1 M_113.2.2.1 M_113.2.2.2 178 (o_newa 1) := ok_newa dX11_init_178 (by decide) m_145 (fun _ => rfl) (fun _ _ h => h) (by decide) rfl
theorem k_113_180 : mOk M_113.1 M_113.2.1 M_113.2.2.1 M_113.2.2.2 180 (o_pP 11 26) := ok_pP dX11_init_180 (mFw_of f_RX11_75_c (Or.inr ⟨rfl, rfl, rfl⟩)) rfl
theorem k_113_183 : mOk M_113.1 M_113.2.1 M_113.2.2.1 M_113.2.2.2 183 (o_al 0 1) := ok_aload_n dX11_init_183 rfl
theorem k_113_184 : mOk M_113.1 M_113.2.1 M_113.2.2.1 M_113.2.2.2 184 (oS 1 (s_push (.int 5))) := ok_iconst dX11_init_184 (by decide)
theorem k_113_185 : mOk M_113.1 M_113.2.1 M_113.2.2.1 M_113.2.2.2 185 (o_newa 1) := ok_newa dX11_init_185 (by decide) m_145 (fun _ => rfl) (fun _ _ h => h) (by decide) rfl
theorem k_113_187 : mOk M_113.1 M_113.2.1 M_113.2.2.1 M_113.2.2.2 187 (o_pP 11 27) := ok_pP dX11_init_187 (mFw_of f_RX11_78_c (Or.inr ⟨rfl, rfl, rfl⟩)) rfl
theorem k_113_190 : mOk M_113.1 M_113.2.1 M_113.2.2.1 M_113.2.2.2 190 (o_al 0 1) := ok_aload_n dX11_init_190 rfl
theorem k_113_191 : mOk M_113.1 M_113.2.1 M_113.2.2.1 M_113.2.2.2 191 (oS 3 (s_push (.int 25000))) := ok_sipush dX11_init_191 (by decide)
theorem k_113_194 : mOk M_113.1 M_113.2.1 M_113.2.2.1 M_113.2.2.2 194 (o_newa 0) := ok_newa dX11_init_194 (by decide) m_274 (fun _ => rfl) (fun _ _ h => h) (by decide) rfl
theorem k_113_196 : mOk M_113.1 M_113.2.1 M_113.2.2.1 M_113.2.2.2 196 (o_pP 11 28) := ok_pP dX11_init_196 (mFw_of f_RX11_81_c (Or.inr ⟨rfl, rfl, rfl⟩)) rfl
theorem k_113_199 : mOk M_113.1 M_113.2.1 M_113.2.2.1 M_113.2.2.2 199 (o_al 0 1) := ok_aload_n dX11_init_199 rfl
theorem k_113_200 : mOk M_113.1 M_113.2.1 M_113.2.2.1 M_113.2.2.2 200 (oS 1 (s_push (.int 5))) := ok_iconst dX11_init_200 (by decide)
theorem k_113_201 : mOk M_113.1 M_113.2.1 M_113.2.2.1 M_113.2.2.2 201 (o_newa 1) := ok_newa dX11_init_201 (by decide) m_145 (fun _ => rfl) (fun _ _ h => h) (by decide) rfl
theorem k_113_203 : mOk M_113.1 M_113.2.1 M_113.2.2.1 M_113.2.2.2 203 (o_pP 11 29) := ok_pP dX11_init_203 (mFw_of f_RX11_85_c (Or.inr ⟨rfl, rfl, rfl⟩)) rfl
theorem k_113_206 : mOk M_113.1 M_113.2.1 M_113.2.2.1 M_113.2.2.2 206 (o_al 0 1) := ok_aload_n dX11_init_206 rfl
theorem k_113_207 : mOk M_113.1 M_113.2.1 M_113.2.2.1 M_113.2.2.2 207 (oS 2 (s_push (.int 120))) := ok_bipush dX11_init_207 (by decide)
theorem k_113_209 : mOk M_113.1 M_113.2.1 M_113.2.2.1 M_113.2.2.2 209 (o_newa 1) := ok_newa dX11_init_209 (by decide) m_145 (fun _ => rfl) (fun _ _ h => h) (by decide) rfl
theorem k_113_211 : mOk M_113.1 M_113.2.1 M_113.2.2.1 M_113.2.2.2 211 (o_pP 11 30) := ok_pP dX11_init_211 (mFw_of f_RX11_88_c (Or.inr ⟨rfl, rfl, rfl⟩)) rfl
theorem k_113_214 : mOk M_113.1 M_113.2.1 M_113.2.2.1 M_113.2.2.2 214 (o_al 0 1) := ok_aload_n dX11_init_214 rfl
theorem k_113_215 : mOk M_113.1 M_113.2.1 M_113.2.2.1 M_113.2.2.2 215 (oS 2 (s_push (.int 120))) := ok_bipush dX11_init_215 (by decide)
theorem k_113_217 : mOk M_113.1 M_113.2.1 M_113.2.2.1 M_113.2.2.2 217 (o_newa 1) := ok_newa dX11_init_217 (by decide) m_145 (fun _ => rfl) (fun _ _ h => h) (by decide) rfl
theorem k_113_219 : mOk M_113.1 M_113.2.1 M_113.2.2.1 M_113.2.2.2 219 (o_pP 11 31) := ok_pP dX11_init_219 (mFw_of f_RX11_91_c (Or.inr ⟨rfl, rfl, rfl⟩)) rfl
theorem k_113_222 : mOk M_113.1 M_113.2.1 M_113.2.2.1 M_113.2.2.2 222 (o_al 0 1) := ok_aload_n dX11_init_222 rfl
theorem k_113_223 : mOk M_113.1 M_113.2.1 M_113.2.2.1 M_113.2.2.2 223 (oS 2 (s_push (.int 120))) := ok_bipush dX11_init_223 (by decide)
theorem k_113_225 : mOk M_113.1 M_113.2.1 M_113.2.2.1 M_113.2.2.2 225 (o_newa 1) := ok_newa dX11_init_225 (by decide) m_145 (fun _ => rfl) (fun _ _ h => h) (by decide) rfl
theorem k_113_227 : mOk M_113.1 M_113.2.1 M_113.2.2.1 M_113.2.2.2 227 (o_pP 11 32) := ok_pP dX11_init_227 (mFw_of f_RX11_94_c (Or.inr ⟨rfl, rfl, rfl⟩)) rfl
theorem k_113_230 : mOk M_113.1 M_113.2.1 M_113.2.2.1 M_113.2.2.2 230 (o_al 0 1) := ok_aload_n dX11_init_230 rfl
theorem k_113_231 : mOk M_113.1 M_113.2.1 M_113.2.2.1 M_113.2.2.2 231 (oS 2 (s_push (.int 120))) := ok_bipush dX11_init_231 (by decide)
theorem k_113_233 : mOk M_113.1 M_113.2.1 M_113.2.2.1 M_113.2.2.2 233 (o_newa 2) := ok_newa dX11_init_233 (by decide) m_1208 (fun _ => rfl) (fun _ _ h => h) (by decide) rfl
theorem k_113_235 : mOk M_113.1 M_113.2.1 M_113.2.2.1 M_113.2.2.2 235 (o_pP 11 33) := ok_pP dX11_init_235 (mFw_of f_RX11_97_c (Or.inr ⟨rfl, rfl, rfl⟩)) rfl
theorem k_113_238 : mOk M_113.1 M_113.2.1 M_113.2.2.1 M_113.2.2.2 238 (o_al 0 1) := ok_aload_n dX11_init_238 rfl
theorem k_113_239 : mOk M_113.1 M_113.2.1 M_113.2.2.1 M_113.2.2.2 239 (oS 2 (s_push (.int 120))) := ok_bipush dX11_init_239 (by decide)
theorem k_113_241 : mOk M_113.1 M_113.2.1 M_113.2.2.1 M_113.2.2.2 241 (o_newa 1) := ok_newa dX11_init_241 (by decide) m_145 (fun _ => rfl) (fun _ _ h => h) (by decide) rfl
theorem k_113_243 : mOk M_113.1 M_113.2.1 M_113.2.2.1 M_113.2.2.2 243 (o_pP 11 34) := ok_pP dX11_init_243 (mFw_of f_RX11_100_c (Or.inr ⟨rfl, rfl, rfl⟩)) rfl
theorem k_113_246 : mOk M_113.1 M_113.2.1 M_113.2.2.1 M_113.2.2.2 246 (o_al 0 1) := ok_aload_n dX11_init_246 rfl
theorem k_113_247 : mOk M_113.1 M_113.2.1 M_113.2.2.1 M_113.2.2.2 247 (oS 2 (s_push (.int 120))) := ok_bipush dX11_init_247 (by decide)
theorem k_113_249 : mOk M_113.1 M_113.2.1 M_113.2.2.1 M_113.2.2.2 249 (o_newa 1) := ok_newa dX11_init_249 (by decide) m_145 (fun _ => rfl) (fun _ _ h => h) (by decide) rfl
theorem k_113_251 : mOk M_113.1 M_113.2.1 M_113.2.2.1 M_113.2.2.2 251 (o_pP 11 35) := ok_pP dX11_init_251 (mFw_of f_RX11_103_c (Or.inr ⟨rfl, rfl, rfl⟩)) rfl
theorem k_113_254 : mOk M_113.1 M_113.2.1 M_113.2.2.1 M_113.2.2.2 254 (o_al 0 1) := ok_aload_n dX11_init_254 rfl
theorem k_113_255 : mOk M_113.1 M_113.2.1 M_113.2.2.1 M_113.2.2.2 255 (oS 3 (s_push (.int 12000))) := ok_sipush dX11_init_255 (by decide)
theorem k_113_258 : mOk M_113.1 M_113.2.1 M_113.2.2.1 M_113.2.2.2 258 (o_newa 1) := ok_newa dX11_init_258 (by decide) m_145 (fun _ => rfl) (fun _ _ h => h) (by decide) rfl
theorem k_113_260 : mOk M_113.1 M_113.2.1 M_113.2.2.1 M_113.2.2.2 260 (o_pP 11 36) := ok_pP dX11_init_260 (mFw_of f_RX11_106_c (Or.inr ⟨rfl, rfl, rfl⟩)) rfl
theorem k_113_263 : mOk M_113.1 M_113.2.1 M_113.2.2.1 M_113.2.2.2 263 (o_al 0 1) := ok_aload_n dX11_init_263 rfl
theorem k_113_264 : mOk M_113.1 M_113.2.1 M_113.2.2.1 M_113.2.2.2 264 (oS 3 (s_push (.int 12000))) := ok_sipush dX11_init_264 (by decide)
theorem k_113_267 : mOk M_113.1 M_113.2.1 M_113.2.2.1 M_113.2.2.2 267 (o_newa 1) := ok_newa dX11_init_267 (by decide) m_145 (fun _ => rfl) (fun _ _ h => h) (by decide) rfl
theorem k_113_269 : mOk M_113.1 M_113.2.1 M_113.2.2.1 M_113.2.2.2 269 (o_pP 11 38) := ok_pP dX11_init_269 (mFw_of f_RX11_109_c (Or.inr ⟨rfl, rfl, rfl⟩)) rfl
theorem k_113_272 : mOk M_113.1 M_113.2.1 M_113.2.2.1 M_113.2.2.2 272 (o_al 0 1) := ok_aload_n dX11_init_272 rfl
theorem k_113_273 : mOk M_113.1 M_113.2.1 M_113.2.2.1 M_113.2.2.2 273 (oS 3 (s_push (.int 400))) := ok_sipush dX11_init_273 (by decide)
theorem k_113_276 : mOk M_113.1 M_113.2.1 M_113.2.2.1 M_113.2.2.2 276 (o_newa 1) := ok_newa dX11_init_276 (by decide) m_145 (fun _ => rfl) (fun _ _ h => h) (by decide) rfl
theorem k_113_278 : mOk M_113.1 M_113.2.1 M_113.2.2.1 M_113.2.2.2 278 (o_pP 11 40) := ok_pP dX11_init_278 (mFw_of f_RX11_112_c (Or.inr ⟨rfl, rfl, rfl⟩)) rfl
theorem k_113_281 : mOk M_113.1 M_113.2.1 M_113.2.2.1 M_113.2.2.2 281 (o_al 0 1) := ok_aload_n dX11_init_281 rfl
theorem k_113_282 : mOk M_113.1 M_113.2.1 M_113.2.2.1 M_113.2.2.2 282 (oS 3 (s_push (.int 400))) := ok_sipush dX11_init_282 (by decide)
theorem k_113_285 : mOk M_113.1 M_113.2.1 M_113.2.2.1 M_113.2.2.2 285 (o_newa 1) := ok_newa dX11_init_285 (by decide) m_145 (fun _ => rfl) (fun _ _ h => h) (by decide) rfl
theorem k_113_287 : mOk M_113.1 M_113.2.1 M_113.2.2.1 M_113.2.2.2 287 (o_pP 11 41) := ok_pP dX11_init_287 (mFw_of f_RX11_115_c (Or.inr ⟨rfl, rfl, rfl⟩)) rfl
theorem k_113_290 : mOk M_113.1 M_113.2.1 M_113.2.2.1 M_113.2.2.2 290 (o_al 0 1) := ok_aload_n dX11_init_290 rfl
theorem k_113_291 : mOk M_113.1 M_113.2.1 M_113.2.2.1 M_113.2.2.2 291 (oS 3 (s_push (.int 400))) := ok_sipush dX11_init_291 (by decide)
theorem k_113_294 : mOk M_113.1 M_113.2.1 M_113.2.2.1 M_113.2.2.2 294 (o_newa 3) := ok_newa dX11_init_294 (by decide) m_214 (fun _ => rfl) (fun _ _ h => h) (by decide) rfl
theorem k_113_296 : mOk M_113.1 M_113.2.1 M_113.2.2.1 M_113.2.2.2 296 (o_pP 11 42) := ok_pP dX11_init_296 (mFw_of f_RX11_118_c (Or.inr ⟨rfl, rfl, rfl⟩)) rfl
theorem k_113_299 : mOk M_113.1 M_113.2.1 M_113.2.2.1 M_113.2.2.2 299 (o_al 0 1) := ok_aload_n dX11_init_299 rfl
theorem k_113_300 : mOk M_113.1 M_113.2.1 M_113.2.2.1 M_113.2.2.2 300 (oS 3 (s_push (.int 400))) := ok_sipush dX11_init_300 (by decide)
theorem k_113_303 : mOk M_113.1 M_113.2.1 M_113.2.2.1 M_113.2.2.2 303 (o_newa 1) := ok_newa dX11_init_303 (by decide) m_145 (fun _ => rfl) (fun _ _ h => h) (by decide) rfl
theorem k_113_305 : mOk M_113.1 M_113.2.1 M_113.2.2.1 M_113.2.2.2 305 (o_pP 11 44) := ok_pP dX11_init_305 (mFw_of f_RX11_121_c (Or.inr ⟨rfl, rfl, rfl⟩)) rfl
theorem k_113_308 : mOk M_113.1 M_113.2.1 M_113.2.2.1 M_113.2.2.2 308 (o_al 0 1) := ok_aload_n dX11_init_308 rfl
theorem k_113_309 : mOk M_113.1 M_113.2.1 M_113.2.2.1 M_113.2.2.2 309 (oS 3 (s_push (.int 400))) := ok_sipush dX11_init_309 (by decide)
theorem k_113_312 : mOk M_113.1 M_113.2.1 M_113.2.2.1 M_113.2.2.2 312 (o_newa 1) := ok_newa dX11_init_312 (by decide) m_145 (fun _ => rfl) (fun _ _ h => h) (by decide) rfl
theorem k_113_314 : mOk M_113.1 M_113.2.1 M_113.2.2.1 M_113.2.2.2 314 (o_pP 11 45) := ok_pP dX11_init_314 (mFw_of f_RX11_124_c (Or.inr ⟨rfl, rfl, rfl⟩)) rfl
theorem k_113_317 : mOk M_113.1 M_113.2.1 M_113.2.2.1 M_113.2.2.2 317 (o_al 0 1) := ok_aload_n dX11_init_317 rfl
theorem k_113_318 : mOk M_113.1 M_113.2.1 M_113.2.2.1 M_113.2.2.2 318 (oS 3 (s_push (.int 400))) := ok_sipush dX11_init_318 (by decide)
theorem k_113_321 : mOk M_113.1 M_113.2.1 M_113.2.2.1 M_113.2.2.2 321 (o_newa 3) := ok_newa dX11_init_321 (by decide) m_214 (fun _ => rfl) (fun _ _ h => h) (by decide) rfl
theorem k_113_323 : mOk M_113.1 M_113.2.1 M_113.2.2.1 M_113.2.2.2 323 (o_pP 11 46) := ok_pP dX11_init_323 (mFw_of f_RX11_127_c (Or.inr ⟨rfl, rfl, rfl⟩)) rfl
theorem k_113_326 : mOk M_113.1 M_113.2.1 M_113.2.2.1 M_113.2.2.2 326 (o_al 0 1) := ok_aload_n dX11_init_326 rfl
theorem k_113_327 : mOk M_113.1 M_113.2.1 M_113.2.2.1 M_113.2.2.2 327 (oS 2 (s_push (.int 16))) := ok_bipush dX11_init_327 (by decide)
theorem k_113_329 : mOk M_113.1 M_113.2.1 M_113.2.2.1 M_113.2.2.2 329 (o_newa 3) := ok_newa dX11_init_329 (by decide) m_214 (fun _ => rfl) (fun _ _ h => h) (by decide) rfl
theorem k_113_331 : mOk M_113.1 M_113.2.1 M_113.2.2.1 M_113.2.2.2 331 (o_pP 11 48) := ok_pP dX11_init_331 (mFw_of f_RX11_130_c (Or.inr ⟨rfl, rfl, rfl⟩)) rfl
set_option maxRecDepth 20000 in
set_option maxHeartbeats 4000000 in
theorem tk_113 (l : Launch) (H9 : mThr l) (H10 : mSpl l) (pc : Nat) (q : mEnt) (h : tb_113 pc = some q) : EE l 113 pc q := nd h (fun h => nd h (fun h => nd h (fun h => nd h (fun h => nd h (fun h => nd h (fun h => nd h (fun h => lf (P := EE l 113) h k_113_0) (fun h => lf (P := EE l 113) h (EE_ob (⟨1, dX11_init_1, m_1053, m_97, m_98, by decide, by decide⟩)))) (fun h => nd h (fun h => lf (P := EE l 113) h k_113_4) (fun h => nd h (fun h => lf (P := EE l 113) h k_113_5) (fun h => lf (P := EE l 113) h k_113_6)))) (fun h => nd h (fun h => nd h (fun h => lf (P := EE l 113) h k_113_8) (fun h => lf (P := EE l 113) h k_113_11)) (fun h => nd h (fun h => lf (P := EE l 113) h k_113_12) (fun h => nd h (fun h => lf (P := EE l 113) h k_113_14) (fun h => lf (P := EE l 113) h k_113_16))))) (fun h => nd h (fun h => nd h (fun h => nd h (fun h => lf (P := EE l 113) h k_113_19) (fun h => lf (P := EE l 113) h k_113_20)) (fun h => nd h (fun h => lf (P := EE l 113) h k_113_22) (fun h => nd h (fun h => lf (P := EE l 113) h k_113_24) (fun h => lf (P := EE l 113) h k_113_27)))) (fun h => nd h (fun h => nd h (fun h => lf (P := EE l 113) h k_113_28) (fun h => lf (P := EE l 113) h k_113_30)) (fun h => nd h (fun h => lf (P := EE l 113) h k_113_32) (fun h => nd h (fun h => lf (P := EE l 113) h k_113_35) (fun h => lf (P := EE l 113) h k_113_36)))))) (fun h => nd h (fun h => nd h (fun h => nd h (fun h => nd h (fun h => lf (P := EE l 113) h k_113_38) (fun h => lf (P := EE l 113) h k_113_40)) (fun h => nd h (fun h => lf (P := EE l 113) h k_113_43) (fun h => nd h (fun h => lf (P := EE l 113) h k_113_44) (fun h => lf (P := EE l 113) h k_113_46)))) (fun h => nd h (fun h => nd h (fun h => lf (P := EE l 113) h k_113_48) (fun h => lf (P := EE l 113) h k_113_51)) (fun h => nd h (fun h => lf (P := EE l 113) h k_113_52) (fun h => nd h (fun h => lf (P := EE l 113) h k_113_54) (fun h => lf (P := EE l 113) h k_113_56))))) (fun h => nd h (fun h => nd h (fun h => nd h (fun h => lf (P := EE l 113) h k_113_59) (fun h => lf (P := EE l 113) h k_113_60)) (fun h => nd h (fun h => lf (P := EE l 113) h k_113_63) (fun h => nd h (fun h => lf (P := EE l 113) h k_113_65) (fun h => lf (P := EE l 113) h k_113_68)))) (fun h => nd h (fun h => nd h (fun h => lf (P := EE l 113) h k_113_69) (fun h => lf (P := EE l 113) h k_113_72)) (fun h => nd h (fun h => lf (P := EE l 113) h k_113_74) (fun h => nd h (fun h => lf (P := EE l 113) h k_113_77) (fun h => lf (P := EE l 113) h k_113_78))))))) (fun h => nd h (fun h => nd h (fun h => nd h (fun h => nd h (fun h => nd h (fun h => lf (P := EE l 113) h k_113_80) (fun h => lf (P := EE l 113) h k_113_82)) (fun h => nd h (fun h => lf (P := EE l 113) h k_113_85) (fun h => nd h (fun h => lf (P := EE l 113) h k_113_86) (fun h => lf (P := EE l 113) h k_113_88)))) (fun h => nd h (fun h => nd h (fun h => lf (P := EE l 113) h k_113_90) (fun h => lf (P := EE l 113) h k_113_93)) (fun h => nd h (fun h => lf (P := EE l 113) h k_113_94) (fun h => nd h (fun h => lf (P := EE l 113) h k_113_95) (fun h => lf (P := EE l 113) h k_113_97))))) (fun h => nd h (fun h => nd h (fun h => nd h (fun h => lf (P := EE l 113) h k_113_100) (fun h => lf (P := EE l 113) h k_113_101)) (fun h => nd h (fun h => lf (P := EE l 113) h k_113_102) (fun h => nd h (fun h => lf (P := EE l 113) h k_113_104) (fun h => lf (P := EE l 113) h k_113_107)))) (fun h => nd h (fun h => nd h (fun h => lf (P := EE l 113) h k_113_108) (fun h => lf (P := EE l 113) h k_113_109)) (fun h => nd h (fun h => lf (P := EE l 113) h k_113_111) (fun h => nd h (fun h => lf (P := EE l 113) h k_113_114) (fun h => lf (P := EE l 113) h k_113_115)))))) (fun h => nd h (fun h => nd h (fun h => nd h (fun h => nd h (fun h => lf (P := EE l 113) h k_113_117) (fun h => lf (P := EE l 113) h k_113_119)) (fun h => nd h (fun h => lf (P := EE l 113) h k_113_122) (fun h => nd h (fun h => lf (P := EE l 113) h k_113_123) (fun h => lf (P := EE l 113) h k_113_124)))) (fun h => nd h (fun h => nd h (fun h => lf (P := EE l 113) h k_113_126) (fun h => lf (P := EE l 113) h k_113_129)) (fun h => nd h (fun h => lf (P := EE l 113) h k_113_130) (fun h => nd h (fun h => lf (P := EE l 113) h k_113_133) (fun h => lf (P := EE l 113) h k_113_135))))) (fun h => nd h (fun h => nd h (fun h => nd h (fun h => lf (P := EE l 113) h k_113_138) (fun h => lf (P := EE l 113) h k_113_139)) (fun h => nd h (fun h => lf (P := EE l 113) h k_113_142) (fun h => nd h (fun h => lf (P := EE l 113) h k_113_144) (fun h => lf (P := EE l 113) h k_113_147)))) (fun h => nd h (fun h => nd h (fun h => lf (P := EE l 113) h k_113_148) (fun h => nd h (fun h => lf (P := EE l 113) h k_113_151) (fun h => lf (P := EE l 113) h k_113_153))) (fun h => nd h (fun h => lf (P := EE l 113) h k_113_156) (fun h => nd h (fun h => lf (P := EE l 113) h k_113_157) (fun h => lf (P := EE l 113) h k_113_160)))))))) (fun h => nd h (fun h => nd h (fun h => nd h (fun h => nd h (fun h => nd h (fun h => nd h (fun h => lf (P := EE l 113) h k_113_162) (fun h => lf (P := EE l 113) h k_113_165)) (fun h => nd h (fun h => lf (P := EE l 113) h k_113_166) (fun h => nd h (fun h => lf (P := EE l 113) h k_113_169) (fun h => lf (P := EE l 113) h k_113_171)))) (fun h => nd h (fun h => nd h (fun h => lf (P := EE l 113) h k_113_174) (fun h => lf (P := EE l 113) h k_113_175)) (fun h => nd h (fun h => lf (P := EE l 113) h k_113_178) (fun h => nd h (fun h => lf (P := EE l 113) h k_113_180) (fun h => lf (P := EE l 113) h k_113_183))))) (fun h => nd h (fun h => nd h (fun h => nd h (fun h => lf (P := EE l 113) h k_113_184) (fun h => lf (P := EE l 113) h k_113_185)) (fun h => nd h (fun h => lf (P := EE l 113) h k_113_187) (fun h => nd h (fun h => lf (P := EE l 113) h k_113_190) (fun h => lf (P := EE l 113) h k_113_191)))) (fun h => nd h (fun h => nd h (fun h => lf (P := EE l 113) h k_113_194) (fun h => lf (P := EE l 113) h k_113_196)) (fun h => nd h (fun h => lf (P := EE l 113) h k_113_199) (fun h => nd h (fun h => lf (P := EE l 113) h k_113_200) (fun h => lf (P := EE l 113) h k_113_201)))))) (fun h => nd h (fun h => nd h (fun h => nd h (fun h => nd h (fun h => lf (P := EE l 113) h k_113_203) (fun h => lf (P := EE l 113) h k_113_206)) (fun h => nd h (fun h => lf (P := EE l 113) h k_113_207) (fun h => nd h (fun h => lf (P := EE l 113) h k_113_209) (fun h => lf (P := EE l 113) h k_113_211)))) (fun h => nd h (fun h => nd h (fun h => lf (P := EE l 113) h k_113_214) (fun h => lf (P := EE l 113) h k_113_215)) (fun h => nd h (fun h => lf (P := EE l 113) h k_113_217) (fun h => nd h (fun h => lf (P := EE l 113) h k_113_219) (fun h => lf (P := EE l 113) h k_113_222))))) (fun h => nd h (fun h => nd h (fun h => nd h (fun h => lf (P := EE l 113) h k_113_223) (fun h => lf (P := EE l 113) h k_113_225)) (fun h => nd h (fun h => lf (P := EE l 113) h k_113_227) (fun h => nd h (fun h => lf (P := EE l 113) h k_113_230) (fun h => lf (P := EE l 113) h k_113_231)))) (fun h => nd h (fun h => nd h (fun h => lf (P := EE l 113) h k_113_233) (fun h => nd h (fun h => lf (P := EE l 113) h k_113_235) (fun h => lf (P := EE l 113) h k_113_238))) (fun h => nd h (fun h => lf (P := EE l 113) h k_113_239) (fun h => nd h (fun h => lf (P := EE l 113) h k_113_241) (fun h => lf (P := EE l 113) h k_113_243))))))) (fun h => nd h (fun h => nd h (fun h => nd h (fun h => nd h (fun h => nd h (fun h => lf (P := EE l 113) h k_113_246) (fun h => lf (P := EE l 113) h k_113_247)) (fun h => nd h (fun h => lf (P := EE l 113) h k_113_249) (fun h => nd h (fun h => lf (P := EE l 113) h k_113_251) (fun h => lf (P := EE l 113) h k_113_254)))) (fun h => nd h (fun h => nd h (fun h => lf (P := EE l 113) h k_113_255) (fun h => lf (P := EE l 113) h k_113_258)) (fun h => nd h (fun h => lf (P := EE l 113) h k_113_260) (fun h => nd h (fun h => lf (P := EE l 113) h k_113_263) (fun h => lf (P := EE l 113) h k_113_264))))) (fun h => nd h (fun h => nd h (fun h => nd h (fun h => lf (P := EE l 113) h k_113_267) (fun h => lf (P := EE l 113) h k_113_269)) (fun h => nd h (fun h => lf (P := EE l 113) h k_113_272) (fun h => nd h (fun h => lf (P := EE l 113) h k_113_273) (fun h => lf (P := EE l 113) h k_113_276)))) (fun h => nd h (fun h => nd h (fun h => lf (P := EE l 113) h k_113_278) (fun h => lf (P := EE l 113) h k_113_281)) (fun h => nd h (fun h => lf (P := EE l 113) h k_113_282) (fun h => nd h (fun h => lf (P := EE l 113) h k_113_285) (fun h => lf (P := EE l 113) h k_113_287)))))) (fun h => nd h (fun h => nd h (fun h => nd h (fun h => nd h (fun h => lf (P := EE l 113) h k_113_290) (fun h => lf (P := EE l 113) h k_113_291)) (fun h => nd h (fun h => lf (P := EE l 113) h k_113_294) (fun h => nd h (fun h => lf (P := EE l 113) h k_113_296) (fun h => lf (P := EE l 113) h k_113_299)))) (fun h => nd h (fun h => nd h (fun h => lf (P := EE l 113) h k_113_300) (fun h => lf (P := EE l 113) h k_113_303)) (fun h => nd h (fun h => lf (P := EE l 113) h k_113_305) (fun h => nd h (fun h => lf (P := EE l 113) h k_113_308) (fun h => lf (P := EE l 113) h k_113_309))))) (fun h => nd h (fun h => nd h (fun h => nd h (fun h => lf (P := EE l 113) h k_113_312) (fun h => lf (P := EE l 113) h k_113_314)) (fun h => nd h (fun h => lf (P := EE l 113) h k_113_317) (fun h => nd h (fun h => lf (P := EE l 113) h k_113_318) (fun h => lf (P := EE l 113) h k_113_321)))) (fun h => nd h (fun h => nd h (fun h => lf (P := EE l 113) h k_113_323) (fun h => nd h (fun h => lf (P := EE l 113) h k_113_326) (fun h => lf (P := EE l 113) h k_113_327))) (fun h => nd h (fun h => lf (P := EE l 113) h k_113_329) (fun h => nd h (fun h => lf (P := EE l 113) h k_113_331) (fun h => lf (P := EE l 113) h (EE_re (Or.inr (Or.inr (Or.inr (Or.inr ⟨rfl, dX11_init_334, rfl⟩)))))))))))))
theorem dX11_thrown_0 : decode cX11_thrown 0 = .ok (.aload_n 0, 1) := by decide +kernel
theorem dX11_thrown_1 : decode cX11_thrown 1 = .ok (.getfield 133, 3) := by decide +kernel
theorem dX11_thrown_4 : decode cX11_thrown 4 = .ok (.ireturn, 1) := by decide +kernel
def tb_114 (pc : Nat) : Option mEnt := bif Nat.ble pc 0 then (bif Nat.beq pc 0 then some (.inl (o_al 0 1)) else none) else (bif Nat.ble pc 1 then (bif Nat.beq pc 1 then some (.inl (o_gI 11 13)) else none) else (bif Nat.beq pc 4 then some (.inr (0, 0, 0, 0)) else none))
theorem k_114_0 : mOk M_114.1 M_114.2.1 M_114.2.2.1 M_114.2.2.2 0 (o_al 0 1) := ok_aload_n dX11_thrown_0 rfl
theorem k_114_1 : mOk M_114.1 M_114.2.1 M_114.2.2.1 M_114.2.2.2 1 (o_gI 11 13) := ok_gI dX11_thrown_1 f_RX11_133 (Or.inl rfl)
set_option maxRecDepth 20000 in
set_option maxHeartbeats 4000000 in
theorem tk_114 (l : Launch) (H9 : mThr l) (H10 : mSpl l) (pc : Nat) (q : mEnt) (h : tb_114 pc = some q) : EE l 114 pc q := nd h (fun h => lf (P := EE l 114) h k_114_0) (fun h => nd h (fun h => lf (P := EE l 114) h k_114_1) (fun h => lf (P := EE l 114) h (EE_re (Or.inl ⟨rfl, dX11_thrown_4, rfl⟩))))
theorem dX11_within_0 : decode cX11_within 0 = .ok (.iload_n 0, 1) := by decide +kernel
theorem dX11_within_1 : decode cX11_within 1 = .ok (.iload_n 1, 1) := by decide +kernel
theorem dX11_within_2 : decode cX11_within 2 = .ok (.if_icmp .lt 12, 3) := by decide +kernel
theorem dX11_within_5 : decode cX11_within 5 = .ok (.iload_n 0, 1) := by decide +kernel
theorem dX11_within_6 : decode cX11_within 6 = .ok (.iload_n 2, 1) := by decide +kernel
theorem dX11_within_7 : decode cX11_within 7 = .ok (.if_icmp .gt 7, 3) := by decide +kernel
theorem dX11_within_10 : decode cX11_within 10 = .ok (.iconst 1, 1) := by decide +kernel
theorem dX11_within_11 : decode cX11_within 11 = .ok (.goto 4, 3) := by decide +kernel
theorem dX11_within_14 : decode cX11_within 14 = .ok (.iconst 0, 1) := by decide +kernel
theorem dX11_within_15 : decode cX11_within 15 = .ok (.ireturn, 1) := by decide +kernel
def tb_115 (pc : Nat) : Option mEnt := bif Nat.ble pc 6 then (bif Nat.ble pc 1 then (bif Nat.ble pc 0 then (bif Nat.beq pc 0 then some (.inl (o_il 0 1)) else none) else (bif Nat.beq pc 1 then some (.inl (o_il 1 1)) else none)) else (bif Nat.ble pc 2 then (bif Nat.beq pc 2 then some (.inl (o_clt 14)) else none) else (bif Nat.ble pc 5 then (bif Nat.beq pc 5 then some (.inl (o_il 0 1)) else none) else (bif Nat.beq pc 6 then some (.inl (o_il 2 1)) else none)))) else (bif Nat.ble pc 10 then (bif Nat.ble pc 7 then (bif Nat.beq pc 7 then some (.inl (o_cgt 14)) else none) else (bif Nat.beq pc 10 then some (.inl (oS 1 (s_push (.int 1)))) else none)) else (bif Nat.ble pc 11 then (bif Nat.beq pc 11 then some (.inl (o_goto 15)) else none) else (bif Nat.ble pc 14 then (bif Nat.beq pc 14 then some (.inl (oS 1 (s_push (.int 0)))) else none) else (bif Nat.beq pc 15 then some (.inr (0, 0, 0, 4)) else none))))
theorem k_115_0 : mOk M_115.1 M_115.2.1 M_115.2.2.1 M_115.2.2.2 0 (o_il 0 1) := ok_iload_n dX11_within_0 rfl
theorem k_115_1 : mOk M_115.1 M_115.2.1 M_115.2.2.1 M_115.2.2.2 1 (o_il 1 1) := ok_iload_n dX11_within_1 rfl
theorem k_115_2 : mOk M_115.1 M_115.2.1 M_115.2.2.1 M_115.2.2.2 2 (o_clt 14) := ok_clt dX11_within_2 (by decide)
theorem k_115_5 : mOk M_115.1 M_115.2.1 M_115.2.2.1 M_115.2.2.2 5 (o_il 0 1) := ok_iload_n dX11_within_5 rfl
theorem k_115_6 : mOk M_115.1 M_115.2.1 M_115.2.2.1 M_115.2.2.2 6 (o_il 2 1) := ok_iload_n dX11_within_6 rfl
theorem k_115_7 : mOk M_115.1 M_115.2.1 M_115.2.2.1 M_115.2.2.2 7 (o_cgt 14) := ok_cgt dX11_within_7 (by decide)
theorem k_115_10 : mOk M_115.1 M_115.2.1 M_115.2.2.1 M_115.2.2.2 10 (oS 1 (s_push (.int 1))) := ok_iconst dX11_within_10 (by decide)
theorem k_115_11 : mOk M_115.1 M_115.2.1 M_115.2.2.1 M_115.2.2.2 11 (o_goto 15) := ok_goto dX11_within_11 (by decide)
theorem k_115_14 : mOk M_115.1 M_115.2.1 M_115.2.2.1 M_115.2.2.2 14 (oS 1 (s_push (.int 0))) := ok_iconst dX11_within_14 (by decide)
set_option maxRecDepth 20000 in
set_option maxHeartbeats 4000000 in
theorem tk_115 (l : Launch) (H9 : mThr l) (H10 : mSpl l) (pc : Nat) (q : mEnt) (h : tb_115 pc = some q) : EE l 115 pc q := nd h (fun h => nd h (fun h => nd h (fun h => lf (P := EE l 115) h k_115_0) (fun h => lf (P := EE l 115) h k_115_1)) (fun h => nd h (fun h => lf (P := EE l 115) h k_115_2) (fun h => nd h (fun h => lf (P := EE l 115) h k_115_5) (fun h => lf (P := EE l 115) h k_115_6)))) (fun h => nd h (fun h => nd h (fun h => lf (P := EE l 115) h k_115_7) (fun h => lf (P := EE l 115) h k_115_10)) (fun h => nd h (fun h => lf (P := EE l 115) h k_115_11) (fun h => nd h (fun h => lf (P := EE l 115) h k_115_14) (fun h => lf (P := EE l 115) h (EE_re (Or.inr (Or.inl ⟨rfl, dX11_within_15, rfl⟩)))))))
theorem dX11_inWorld_0 : decode cX11_inWorld 0 = .ok (.iload_n 0, 1) := by decide +kernel
theorem dX11_inWorld_1 : decode cX11_inWorld 1 = .ok (.iconst 0, 1) := by decide +kernel
theorem dX11_inWorld_2 : decode cX11_inWorld 2 = .ok (.sipush 4095, 3) := by decide +kernel
theorem dX11_inWorld_5 : decode cX11_inWorld 5 = .ok (.invokestatic 137, 3) := by decide +kernel
theorem dX11_inWorld_8 : decode cX11_inWorld 8 = .ok (.ireturn, 1) := by decide +kernel
def tb_116 (pc : Nat) : Option mEnt := bif Nat.ble pc 1 then (bif Nat.ble pc 0 then (bif Nat.beq pc 0 then some (.inl (o_il 0 1)) else none) else (bif Nat.beq pc 1 then some (.inl (oS 1 (s_push (.int 0)))) else none)) else (bif Nat.ble pc 2 then (bif Nat.beq pc 2 then some (.inl (oS 3 (s_push (.int 4095)))) else none) else (bif Nat.ble pc 5 then (bif Nat.beq pc 5 then some (.inr (2, 115, 3, 0)) else none) else (bif Nat.beq pc 8 then some (.inr (0, 0, 0, 4)) else none)))
theorem k_116_0 : mOk M_116.1 M_116.2.1 M_116.2.2.1 M_116.2.2.2 0 (o_il 0 1) := ok_iload_n dX11_inWorld_0 rfl
theorem k_116_1 : mOk M_116.1 M_116.2.1 M_116.2.2.1 M_116.2.2.2 1 (oS 1 (s_push (.int 0))) := ok_iconst dX11_inWorld_1 (by decide)
theorem k_116_2 : mOk M_116.1 M_116.2.1 M_116.2.2.1 M_116.2.2.2 2 (oS 3 (s_push (.int 4095))) := ok_sipush dX11_inWorld_2 (by decide)
set_option maxRecDepth 20000 in
set_option maxHeartbeats 4000000 in
theorem tk_116 (l : Launch) (H9 : mThr l) (H10 : mSpl l) (pc : Nat) (q : mEnt) (h : tb_116 pc = some q) : EE l 116 pc q := nd h (fun h => nd h (fun h => lf (P := EE l 116) h k_116_0) (fun h => lf (P := EE l 116) h k_116_1)) (fun h => nd h (fun h => lf (P := EE l 116) h k_116_2) (fun h => nd h (fun h => lf (P := EE l 116) h (EE_ca (by decide) (⟨m_1222, m_81, ⟨by decide, by decide⟩, by decide +kernel, ⟨by decide, by decide⟩, 137, 3, by decide +kernel, Or.inl ⟨rfl, rfl, dX11_inWorld_5, m_1220, m_1221⟩⟩) rfl)) (fun h => lf (P := EE l 116) h (EE_re (Or.inr (Or.inl ⟨rfl, dX11_inWorld_8, rfl⟩))))))
theorem dX11_corner_0 : decode cX11_corner 0 = .ok (.aload_n 0, 1) := by decide +kernel
theorem dX11_corner_1 : decode cX11_corner 1 = .ok (.iconst 0, 1) := by decide +kernel
theorem dX11_corner_2 : decode cX11_corner 2 = .ok (.putfield 133, 3) := by decide +kernel
theorem dX11_corner_5 : decode cX11_corner 5 = .ok (.iload_n 1, 1) := by decide +kernel
theorem dX11_corner_6 : decode cX11_corner 6 = .ok (.invokestatic 141, 3) := by decide +kernel
theorem dX11_corner_9 : decode cX11_corner 9 = .ok (.ifCond .eq 19, 3) := by decide +kernel
theorem dX11_corner_12 : decode cX11_corner 12 = .ok (.iload_n 2, 1) := by decide +kernel
theorem dX11_corner_13 : decode cX11_corner 13 = .ok (.invokestatic 141, 3) := by decide +kernel
theorem dX11_corner_16 : decode cX11_corner 16 = .ok (.ifCond .eq 12, 3) := by decide +kernel
theorem dX11_corner_19 : decode cX11_corner 19 = .ok (.aload_n 0, 1) := by decide +kernel
theorem dX11_corner_20 : decode cX11_corner 20 = .ok (.getfield 145, 3) := by decide +kernel
theorem dX11_corner_23 : decode cX11_corner 23 = .ok (.bipush 12, 2) := by decide +kernel
theorem dX11_corner_25 : decode cX11_corner 25 = .ok (.if_icmp .ne 5, 3) := by decide +kernel
theorem dX11_corner_28 : decode cX11_corner 28 = .ok (.iconst 0, 1) := by decide +kernel
theorem dX11_corner_29 : decode cX11_corner 29 = .ok (.ireturn, 1) := by decide +kernel
theorem dX11_corner_30 : decode cX11_corner 30 = .ok (.aload_n 0, 1) := by decide +kernel
theorem dX11_corner_31 : decode cX11_corner 31 = .ok (.getfield 38, 3) := by decide +kernel
theorem dX11_corner_34 : decode cX11_corner 34 = .ok (.aload_n 0, 1) := by decide +kernel
theorem dX11_corner_35 : decode cX11_corner 35 = .ok (.getfield 145, 3) := by decide +kernel
theorem dX11_corner_38 : decode cX11_corner 38 = .ok (.iload_n 1, 1) := by decide +kernel
theorem dX11_corner_39 : decode cX11_corner 39 = .ok (.iastore, 1) := by decide +kernel
theorem dX11_corner_40 : decode cX11_corner 40 = .ok (.aload_n 0, 1) := by decide +kernel
theorem dX11_corner_41 : decode cX11_corner 41 = .ok (.getfield 41, 3) := by decide +kernel
theorem dX11_corner_44 : decode cX11_corner 44 = .ok (.aload_n 0, 1) := by decide +kernel
theorem dX11_corner_45 : decode cX11_corner 45 = .ok (.getfield 145, 3) := by decide +kernel
theorem dX11_corner_48 : decode cX11_corner 48 = .ok (.iload_n 2, 1) := by decide +kernel
theorem dX11_corner_49 : decode cX11_corner 49 = .ok (.iastore, 1) := by decide +kernel
theorem dX11_corner_50 : decode cX11_corner 50 = .ok (.aload_n 0, 1) := by decide +kernel
theorem dX11_corner_51 : decode cX11_corner 51 = .ok (.dup, 1) := by decide +kernel
theorem dX11_corner_52 : decode cX11_corner 52 = .ok (.getfield 145, 3) := by decide +kernel
theorem dX11_corner_55 : decode cX11_corner 55 = .ok (.iconst 1, 1) := by decide +kernel
theorem dX11_corner_56 : decode cX11_corner 56 = .ok (.iadd, 1) := by decide +kernel
theorem dX11_corner_57 : decode cX11_corner 57 = .ok (.putfield 145, 3) := by decide +kernel
theorem dX11_corner_60 : decode cX11_corner 60 = .ok (.iconst 1, 1) := by decide +kernel
theorem dX11_corner_61 : decode cX11_corner 61 = .ok (.ireturn, 1) := by decide +kernel
def tb_117 (pc : Nat) : Option mEnt := bif Nat.ble pc 31 then (bif Nat.ble pc 13 then (bif Nat.ble pc 5 then (bif Nat.ble pc 1 then (bif Nat.ble pc 0 then (bif Nat.beq pc 0 then some (.inl (o_al 0 1)) else none) else (bif Nat.beq pc 1 then some (.inl (oS 1 (s_push (.int 0)))) else none)) else (bif Nat.ble pc 2 then (bif Nat.beq pc 2 then some (.inl (o_pI 11 13)) else none) else (bif Nat.beq pc 5 then some (.inl (o_il 1 1)) else none))) else (bif Nat.ble pc 9 then (bif Nat.ble pc 6 then (bif Nat.beq pc 6 then some (.inr (2, 116, 1, 0)) else none) else (bif Nat.beq pc 9 then some (.inl (o_zeq 28)) else none)) else (bif Nat.ble pc 12 then (bif Nat.beq pc 12 then some (.inl (o_il 2 1)) else none) else (bif Nat.beq pc 13 then some (.inr (2, 116, 1, 0)) else none)))) else (bif Nat.ble pc 23 then (bif Nat.ble pc 19 then (bif Nat.ble pc 16 then (bif Nat.beq pc 16 then some (.inl (o_zeq 28)) else none) else (bif Nat.beq pc 19 then some (.inl (o_al 0 1)) else none)) else (bif Nat.ble pc 20 then (bif Nat.beq pc 20 then some (.inl (o_gI 11 12)) else none) else (bif Nat.beq pc 23 then some (.inl (oS 2 (s_push (.int 12)))) else none))) else (bif Nat.ble pc 28 then (bif Nat.ble pc 25 then (bif Nat.beq pc 25 then some (.inl (o_cne 30)) else none) else (bif Nat.beq pc 28 then some (.inl (oS 1 (s_push (.int 0)))) else none)) else (bif Nat.ble pc 29 then (bif Nat.beq pc 29 then some (.inr (0, 0, 0, 4)) else none) else (bif Nat.ble pc 30 then (bif Nat.beq pc 30 then some (.inl (o_al 0 1)) else none) else (bif Nat.beq pc 31 then some (.inl (o_gP 11 10)) else none)))))) else (bif Nat.ble pc 48 then (bif Nat.ble pc 39 then (bif Nat.ble pc 35 then (bif Nat.ble pc 34 then (bif Nat.beq pc 34 then some (.inl (o_al 0 1)) else none) else (bif Nat.beq pc 35 then some (.inl (o_gI 11 12)) else none)) else (bif Nat.ble pc 38 then (bif Nat.beq pc 38 then some (.inl (o_il 1 1)) else none) else (bif Nat.beq pc 39 then some (.inl (o_iast)) else none))) else (bif Nat.ble pc 41 then (bif Nat.ble pc 40 then (bif Nat.beq pc 40 then some (.inl (o_al 0 1)) else none) else (bif Nat.beq pc 41 then some (.inl (o_gP 11 11)) else none)) else (bif Nat.ble pc 44 then (bif Nat.beq pc 44 then some (.inl (o_al 0 1)) else none) else (bif Nat.ble pc 45 then (bif Nat.beq pc 45 then some (.inl (o_gI 11 12)) else none) else (bif Nat.beq pc 48 then some (.inl (o_il 2 1)) else none))))) else (bif Nat.ble pc 52 then (bif Nat.ble pc 50 then (bif Nat.ble pc 49 then (bif Nat.beq pc 49 then some (.inl (o_iast)) else none) else (bif Nat.beq pc 50 then some (.inl (o_al 0 1)) else none)) else (bif Nat.ble pc 51 then (bif Nat.beq pc 51 then some (.inl (oS 1 s_dup)) else none) else (bif Nat.beq pc 52 then some (.inl (o_gI 11 12)) else none))) else (bif Nat.ble pc 56 then (bif Nat.ble pc 55 then (bif Nat.beq pc 55 then some (.inl (oS 1 (s_push (.int 1)))) else none) else (bif Nat.beq pc 56 then some (.inl (oS 1 (s_ii (fun a b => a + b)))) else none)) else (bif Nat.ble pc 57 then (bif Nat.beq pc 57 then some (.inl (o_pI 11 12)) else none) else (bif Nat.ble pc 60 then (bif Nat.beq pc 60 then some (.inl (oS 1 (s_push (.int 1)))) else none) else (bif Nat.beq pc 61 then some (.inr (0, 0, 0, 4)) else none))))))
theorem k_117_0 : mOk M_117.1 M_117.2.1 M_117.2.2.1 M_117.2.2.2 0 (o_al 0 1) := ok_aload_n dX11_corner_0 rfl
theorem k_117_1 : mOk M_117.1 M_117.2.1 M_117.2.2.1 M_117.2.2.2 1 (oS 1 (s_push (.int 0))) := ok_iconst dX11_corner_1 (by decide)
theorem k_117_2 : mOk M_117.1 M_117.2.1 M_117.2.2.1 M_117.2.2.2 2 (o_pI 11 13) := ok_pI dX11_corner_2 (mFw_of f_RX11_133_c (Or.inl rfl)) rfl
theorem k_117_5 : mOk M_117.1 M_117.2.1 M_117.2.2.1 M_117.2.2.2 5 (o_il 1 1) := ok_iload_n dX11_corner_5 rfl
theorem k_117_9 : mOk M_117.1 M_117.2.1 M_117.2.2.1 M_117.2.2.2 9 (o_zeq 28) := ok_zeq dX11_corner_9 (by decide)
theorem k_117_12 : mOk M_117.1 M_117.2.1 M_117.2.2.1 M_117.2.2.2 12 (o_il 2 1) := ok_iload_n dX11_corner_12 rfl
theorem k_117_16 : mOk M_117.1 M_117.2.1 M_117.2.2.1 M_117.2.2.2 16 (o_zeq 28) := ok_zeq dX11_corner_16 (by decide)
theorem k_117_19 : mOk M_117.1 M_117.2.1 M_117.2.2.1 M_117.2.2.2 19 (o_al 0 1) := ok_aload_n dX11_corner_19 rfl
theorem k_117_20 : mOk M_117.1 M_117.2.1 M_117.2.2.1 M_117.2.2.2 20 (o_gI 11 12) := ok_gI dX11_corner_20 f_RX11_145 (Or.inl rfl)
theorem k_117_23 : mOk M_117.1 M_117.2.1 M_117.2.2.1 M_117.2.2.2 23 (oS 2 (s_push (.int 12))) := ok_bipush dX11_corner_23 (by decide)
theorem k_117_25 : mOk M_117.1 M_117.2.1 M_117.2.2.1 M_117.2.2.2 25 (o_cne 30) := ok_cne dX11_corner_25 (by decide)
theorem k_117_28 : mOk M_117.1 M_117.2.1 M_117.2.2.1 M_117.2.2.2 28 (oS 1 (s_push (.int 0))) := ok_iconst dX11_corner_28 (by decide)
theorem k_117_30 : mOk M_117.1 M_117.2.1 M_117.2.2.1 M_117.2.2.2 30 (o_al 0 1) := ok_aload_n dX11_corner_30 rfl
theorem k_117_31 : mOk M_117.1 M_117.2.1 M_117.2.2.1 M_117.2.2.2 31 (o_gP 11 10) := ok_gP dX11_corner_31 f_RX11_38 rfl
theorem k_117_34 : mOk M_117.1 M_117.2.1 M_117.2.2.1 M_117.2.2.2 34 (o_al 0 1) := ok_aload_n dX11_corner_34 rfl
theorem k_117_35 : mOk M_117.1 M_117.2.1 M_117.2.2.1 M_117.2.2.2 35 (o_gI 11 12) := ok_gI dX11_corner_35 f_RX11_145 (Or.inl rfl)
theorem k_117_38 : mOk M_117.1 M_117.2.1 M_117.2.2.1 M_117.2.2.2 38 (o_il 1 1) := ok_iload_n dX11_corner_38 rfl
theorem k_117_39 : mOk M_117.1 M_117.2.1 M_117.2.2.1 M_117.2.2.2 39 (o_iast) := ok_iast dX11_corner_39
theorem k_117_40 : mOk M_117.1 M_117.2.1 M_117.2.2.1 M_117.2.2.2 40 (o_al 0 1) := ok_aload_n dX11_corner_40 rfl
theorem k_117_41 : mOk M_117.1 M_117.2.1 M_117.2.2.1 M_117.2.2.2 41 (o_gP 11 11) := ok_gP dX11_corner_41 f_RX11_41 rfl
theorem k_117_44 : mOk M_117.1 M_117.2.1 M_117.2.2.1 M_117.2.2.2 44 (o_al 0 1) := ok_aload_n dX11_corner_44 rfl
theorem k_117_45 : mOk M_117.1 M_117.2.1 M_117.2.2.1 M_117.2.2.2 45 (o_gI 11 12) := ok_gI dX11_corner_45 f_RX11_145 (Or.inl rfl)
theorem k_117_48 : mOk M_117.1 M_117.2.1 M_117.2.2.1 M_117.2.2.2 48 (o_il 2 1) := ok_iload_n dX11_corner_48 rfl
theorem k_117_49 : mOk M_117.1 M_117.2.1 M_117.2.2.1 M_117.2.2.2 49 (o_iast) := ok_iast dX11_corner_49
theorem k_117_50 : mOk M_117.1 M_117.2.1 M_117.2.2.1 M_117.2.2.2 50 (o_al 0 1) := ok_aload_n dX11_corner_50 rfl
theorem k_117_51 : mOk M_117.1 M_117.2.1 M_117.2.2.1 M_117.2.2.2 51 (oS 1 s_dup) := ok_dup dX11_corner_51
theorem k_117_52 : mOk M_117.1 M_117.2.1 M_117.2.2.1 M_117.2.2.2 52 (o_gI 11 12) := ok_gI dX11_corner_52 f_RX11_145 (Or.inl rfl)
theorem k_117_55 : mOk M_117.1 M_117.2.1 M_117.2.2.1 M_117.2.2.2 55 (oS 1 (s_push (.int 1))) := ok_iconst dX11_corner_55 (by decide)
theorem k_117_56 : mOk M_117.1 M_117.2.1 M_117.2.2.1 M_117.2.2.2 56 (oS 1 (s_ii (fun a b => a + b))) := ok_iadd dX11_corner_56
theorem k_117_57 : mOk M_117.1 M_117.2.1 M_117.2.2.1 M_117.2.2.2 57 (o_pI 11 12) := ok_pI dX11_corner_57 (mFw_of f_RX11_145_c (Or.inl rfl)) rfl
theorem k_117_60 : mOk M_117.1 M_117.2.1 M_117.2.2.1 M_117.2.2.2 60 (oS 1 (s_push (.int 1))) := ok_iconst dX11_corner_60 (by decide)
set_option maxRecDepth 20000 in
set_option maxHeartbeats 4000000 in
theorem tk_117 (l : Launch) (H9 : mThr l) (H10 : mSpl l) (pc : Nat) (q : mEnt) (h : tb_117 pc = some q) : EE l 117 pc q := nd h (fun h => nd h (fun h => nd h (fun h => nd h (fun h => nd h (fun h => lf (P := EE l 117) h k_117_0) (fun h => lf (P := EE l 117) h k_117_1)) (fun h => nd h (fun h => lf (P := EE l 117) h k_117_2) (fun h => lf (P := EE l 117) h k_117_5))) (fun h => nd h (fun h => nd h (fun h => lf (P := EE l 117) h (EE_ca (by decide) (⟨m_1219, m_81, ⟨by decide, by decide⟩, by decide +kernel, ⟨by decide, by decide⟩, 141, 1, by decide +kernel, Or.inl ⟨rfl, rfl, dX11_corner_6, m_1217, m_1218⟩⟩) rfl)) (fun h => lf (P := EE l 117) h k_117_9)) (fun h => nd h (fun h => lf (P := EE l 117) h k_117_12) (fun h => lf (P := EE l 117) h (EE_ca (by decide) (⟨m_1219, m_81, ⟨by decide, by decide⟩, by decide +kernel, ⟨by decide, by decide⟩, 141, 1, by decide +kernel, Or.inl ⟨rfl, rfl, dX11_corner_13, m_1217, m_1218⟩⟩) rfl))))) (fun h => nd h (fun h => nd h (fun h => nd h (fun h => lf (P := EE l 117) h k_117_16) (fun h => lf (P := EE l 117) h k_117_19)) (fun h => nd h (fun h => lf (P := EE l 117) h k_117_20) (fun h => lf (P := EE l 117) h k_117_23))) (fun h => nd h (fun h => nd h (fun h => lf (P := EE l 117) h k_117_25) (fun h => lf (P := EE l 117) h k_117_28)) (fun h => nd h (fun h => lf (P := EE l 117) h (EE_re (Or.inr (Or.inl ⟨rfl, dX11_corner_29, rfl⟩)))) (fun h => nd h (fun h => lf (P := EE l 117) h k_117_30) (fun h => lf (P := EE l 117) h k_117_31)))))) (fun h => nd h (fun h => nd h (fun h => nd h (fun h => nd h (fun h => lf (P := EE l 117) h k_117_34) (fun h => lf (P := EE l 117) h k_117_35)) (fun h => nd h (fun h => lf (P := EE l 117) h k_117_38) (fun h => lf (P := EE l 117) h k_117_39))) (fun h => nd h (fun h => nd h (fun h => lf (P := EE l 117) h k_117_40) (fun h => lf (P := EE l 117) h k_117_41)) (fun h => nd h (fun h => lf (P := EE l 117) h k_117_44) (fun h => nd h (fun h => lf (P := EE l 117) h k_117_45) (fun h => lf (P := EE l 117) h k_117_48))))) (fun h => nd h (fun h => nd h (fun h => nd h (fun h => lf (P := EE l 117) h k_117_49) (fun h => lf (P := EE l 117) h k_117_50)) (fun h => nd h (fun h => lf (P := EE l 117) h k_117_51) (fun h => lf (P := EE l 117) h k_117_52))) (fun h => nd h (fun h => nd h (fun h => lf (P := EE l 117) h k_117_55) (fun h => lf (P := EE l 117) h k_117_56)) (fun h => nd h (fun h => lf (P := EE l 117) h k_117_57) (fun h => nd h (fun h => lf (P := EE l 117) h k_117_60) (fun h => lf (P := EE l 117) h (EE_re (Or.inr (Or.inl ⟨rfl, dX11_corner_61, rfl⟩)))))))))
theorem dX11_isName_0 : decode cX11_isName 0 = .ok (.iconst 0, 1) := by decide +kernel
theorem dX11_isName_1 : decode cX11_isName 1 = .ok (.istore_n 2, 1) := by decide +kernel
theorem dX11_isName_2 : decode cX11_isName 2 = .ok (.bipush 56, 2) := by decide +kernel
theorem dX11_isName_4 : decode cX11_isName 4 = .ok (.istore_n 3, 1) := by decide +kernel
theorem dX11_isName_5 : decode cX11_isName 5 = .ok (.iload_n 3, 1) := by decide +kernel
theorem dX11_isName_6 : decode cX11_isName 6 = .ok (.ifCond .lt 44, 3) := by decide +kernel
theorem dX11_isName_9 : decode cX11_isName 9 = .ok (.lload_n 0, 1) := by decide +kernel
theorem dX11_isName_10 : decode cX11_isName 10 = .ok (.iload_n 3, 1) := by decide +kernel
theorem dX11_isName_11 : decode cX11_isName 11 = .ok (.lushr, 1) := by decide +kernel
theorem dX11_isName_12 : decode cX11_isName 12 = .ok (.l2i, 1) := by decide +kernel
theorem dX11_isName_13 : decode cX11_isName 13 = .ok (.sipush 255, 3) := by decide +kernel
theorem dX11_isName_16 : decode cX11_isName 16 = .ok (.iand, 1) := by decide +kernel
theorem dX11_isName_17 : decode cX11_isName 17 = .ok (.istore 4, 2) := by decide +kernel
theorem dX11_isName_19 : decode cX11_isName 19 = .ok (.iload 4, 2) := by decide +kernel
theorem dX11_isName_21 : decode cX11_isName 21 = .ok (.ifCond .eq 5, 3) := by decide +kernel
theorem dX11_isName_24 : decode cX11_isName 24 = .ok (.iconst 1, 1) := by decide +kernel
theorem dX11_isName_25 : decode cX11_isName 25 = .ok (.istore_n 2, 1) := by decide +kernel
theorem dX11_isName_26 : decode cX11_isName 26 = .ok (.iload_n 2, 1) := by decide +kernel
theorem dX11_isName_27 : decode cX11_isName 27 = .ok (.ifCond .eq 17, 3) := by decide +kernel
theorem dX11_isName_30 : decode cX11_isName 30 = .ok (.iload 4, 2) := by decide +kernel
theorem dX11_isName_32 : decode cX11_isName 32 = .ok (.bipush 97, 2) := by decide +kernel
theorem dX11_isName_34 : decode cX11_isName 34 = .ok (.bipush 122, 2) := by decide +kernel
theorem dX11_isName_36 : decode cX11_isName 36 = .ok (.invokestatic 137, 3) := by decide +kernel
theorem dX11_isName_39 : decode cX11_isName 39 = .ok (.ifCond .ne 5, 3) := by decide +kernel
theorem dX11_isName_42 : decode cX11_isName 42 = .ok (.iconst 0, 1) := by decide +kernel
theorem dX11_isName_43 : decode cX11_isName 43 = .ok (.ireturn, 1) := by decide +kernel
theorem dX11_isName_44 : decode cX11_isName 44 = .ok (.iinc 3 (-8), 3) := by decide +kernel
theorem dX11_isName_47 : decode cX11_isName 47 = .ok (.goto (-42), 3) := by decide +kernel
theorem dX11_isName_50 : decode cX11_isName 50 = .ok (.iconst 1, 1) := by decide +kernel
theorem dX11_isName_51 : decode cX11_isName 51 = .ok (.ireturn, 1) := by decide +kernel
def tb_118 (pc : Nat) : Option mEnt := bif Nat.ble pc 21 then (bif Nat.ble pc 9 then (bif Nat.ble pc 2 then (bif Nat.ble pc 0 then (bif Nat.beq pc 0 then some (.inl (oS 1 (s_push (.int 0)))) else none) else (bif Nat.ble pc 1 then (bif Nat.beq pc 1 then some (.inl (o_is 2 1)) else none) else (bif Nat.beq pc 2 then some (.inl (oS 2 (s_push (.int 56)))) else none))) else (bif Nat.ble pc 5 then (bif Nat.ble pc 4 then (bif Nat.beq pc 4 then some (.inl (o_is 3 1)) else none) else (bif Nat.beq pc 5 then some (.inl (o_il 3 1)) else none)) else (bif Nat.ble pc 6 then (bif Nat.beq pc 6 then some (.inl (o_zlt 50)) else none) else (bif Nat.beq pc 9 then some (.inl (o_ll 0 1)) else none)))) else (bif Nat.ble pc 13 then (bif Nat.ble pc 11 then (bif Nat.ble pc 10 then (bif Nat.beq pc 10 then some (.inl (o_il 3 1)) else none) else (bif Nat.beq pc 11 then some (.inl (oS 1 (s_li (fun a b => (a.toUInt64 >>> (b.toInt64.toUInt64 &&& Int64.toUInt64 63)).toInt64)))) else none)) else (bif Nat.ble pc 12 then (bif Nat.beq pc 12 then some (.inl (oS 1 s_l2i)) else none) else (bif Nat.beq pc 13 then some (.inl (oS 3 (s_push (.int 255)))) else none))) else (bif Nat.ble pc 17 then (bif Nat.ble pc 16 then (bif Nat.beq pc 16 then some (.inl (oS 1 (s_ii (fun a b => a &&& b)))) else none) else (bif Nat.beq pc 17 then some (.inl (o_is 4 2)) else none)) else (bif Nat.ble pc 19 then (bif Nat.beq pc 19 then some (.inl (o_il 4 2)) else none) else (bif Nat.beq pc 21 then some (.inl (o_zeq 26)) else none))))) else (bif Nat.ble pc 34 then (bif Nat.ble pc 26 then (bif Nat.ble pc 24 then (bif Nat.beq pc 24 then some (.inl (oS 1 (s_push (.int 1)))) else none) else (bif Nat.ble pc 25 then (bif Nat.beq pc 25 then some (.inl (o_is 2 1)) else none) else (bif Nat.beq pc 26 then some (.inl (o_il 2 1)) else none))) else (bif Nat.ble pc 30 then (bif Nat.ble pc 27 then (bif Nat.beq pc 27 then some (.inl (o_zeq 44)) else none) else (bif Nat.beq pc 30 then some (.inl (o_il 4 2)) else none)) else (bif Nat.ble pc 32 then (bif Nat.beq pc 32 then some (.inl (oS 2 (s_push (.int 97)))) else none) else (bif Nat.beq pc 34 then some (.inl (oS 2 (s_push (.int 122)))) else none)))) else (bif Nat.ble pc 43 then (bif Nat.ble pc 39 then (bif Nat.ble pc 36 then (bif Nat.beq pc 36 then some (.inr (2, 115, 3, 0)) else none) else (bif Nat.beq pc 39 then some (.inl (o_zne 44)) else none)) else (bif Nat.ble pc 42 then (bif Nat.beq pc 42 then some (.inl (oS 1 (s_push (.int 0)))) else none) else (bif Nat.beq pc 43 then some (.inr (0, 0, 0, 4)) else none))) else (bif Nat.ble pc 47 then (bif Nat.ble pc 44 then (bif Nat.beq pc 44 then some (.inl (o_inc 3 (-8))) else none) else (bif Nat.beq pc 47 then some (.inl (o_goto 5)) else none)) else (bif Nat.ble pc 50 then (bif Nat.beq pc 50 then some (.inl (oS 1 (s_push (.int 1)))) else none) else (bif Nat.beq pc 51 then some (.inr (0, 0, 0, 4)) else none)))))
theorem k_118_0 : mOk M_118.1 M_118.2.1 M_118.2.2.1 M_118.2.2.2 0 (oS 1 (s_push (.int 0))) := ok_iconst dX11_isName_0 (by decide)
theorem k_118_1 : mOk M_118.1 M_118.2.1 M_118.2.2.1 M_118.2.2.2 1 (o_is 2 1) := ok_istore_n dX11_isName_1 rfl
theorem k_118_2 : mOk M_118.1 M_118.2.1 M_118.2.2.1 M_118.2.2.2 2 (oS 2 (s_push (.int 56))) := ok_bipush dX11_isName_2 (by decide)
theorem k_118_4 : mOk M_118.1 M_118.2.1 M_118.2.2.1 M_118.2.2.2 4 (o_is 3 1) := ok_istore_n dX11_isName_4 rfl
theorem k_118_5 : mOk M_118.1 M_118.2.1 M_118.2.2.1 M_118.2.2.2 5 (o_il 3 1) := ok_iload_n dX11_isName_5 rfl
theorem k_118_6 : mOk M_118.1 M_118.2.1 M_118.2.2.1 M_118.2.2.2 6 (o_zlt 50) := ok_zlt dX11_isName_6 (by decide)
theorem k_118_9 : mOk M_118.1 M_118.2.1 M_118.2.2.1 M_118.2.2.2 9 (o_ll 0 1) := ok_lload_n dX11_isName_9 rfl
theorem k_118_10 : mOk M_118.1 M_118.2.1 M_118.2.2.1 M_118.2.2.2 10 (o_il 3 1) := ok_iload_n dX11_isName_10 rfl
theorem k_118_11 : mOk M_118.1 M_118.2.1 M_118.2.2.1 M_118.2.2.2 11 (oS 1 (s_li (fun a b => (a.toUInt64 >>> (b.toInt64.toUInt64 &&& Int64.toUInt64 63)).toInt64))) := ok_lushr dX11_isName_11
theorem k_118_12 : mOk M_118.1 M_118.2.1 M_118.2.2.1 M_118.2.2.2 12 (oS 1 s_l2i) := ok_l2i dX11_isName_12
theorem k_118_13 : mOk M_118.1 M_118.2.1 M_118.2.2.1 M_118.2.2.2 13 (oS 3 (s_push (.int 255))) := ok_sipush dX11_isName_13 (by decide)
theorem k_118_16 : mOk M_118.1 M_118.2.1 M_118.2.2.1 M_118.2.2.2 16 (oS 1 (s_ii (fun a b => a &&& b))) := ok_iand dX11_isName_16
theorem k_118_17 : mOk M_118.1 M_118.2.1 M_118.2.2.1 M_118.2.2.2 17 (o_is 4 2) := ok_istore dX11_isName_17
theorem k_118_19 : mOk M_118.1 M_118.2.1 M_118.2.2.1 M_118.2.2.2 19 (o_il 4 2) := ok_iload dX11_isName_19
theorem k_118_21 : mOk M_118.1 M_118.2.1 M_118.2.2.1 M_118.2.2.2 21 (o_zeq 26) := ok_zeq dX11_isName_21 (by decide)
theorem k_118_24 : mOk M_118.1 M_118.2.1 M_118.2.2.1 M_118.2.2.2 24 (oS 1 (s_push (.int 1))) := ok_iconst dX11_isName_24 (by decide)
theorem k_118_25 : mOk M_118.1 M_118.2.1 M_118.2.2.1 M_118.2.2.2 25 (o_is 2 1) := ok_istore_n dX11_isName_25 rfl
theorem k_118_26 : mOk M_118.1 M_118.2.1 M_118.2.2.1 M_118.2.2.2 26 (o_il 2 1) := ok_iload_n dX11_isName_26 rfl
theorem k_118_27 : mOk M_118.1 M_118.2.1 M_118.2.2.1 M_118.2.2.2 27 (o_zeq 44) := ok_zeq dX11_isName_27 (by decide)
theorem k_118_30 : mOk M_118.1 M_118.2.1 M_118.2.2.1 M_118.2.2.2 30 (o_il 4 2) := ok_iload dX11_isName_30
theorem k_118_32 : mOk M_118.1 M_118.2.1 M_118.2.2.1 M_118.2.2.2 32 (oS 2 (s_push (.int 97))) := ok_bipush dX11_isName_32 (by decide)
theorem k_118_34 : mOk M_118.1 M_118.2.1 M_118.2.2.1 M_118.2.2.2 34 (oS 2 (s_push (.int 122))) := ok_bipush dX11_isName_34 (by decide)
theorem k_118_39 : mOk M_118.1 M_118.2.1 M_118.2.2.1 M_118.2.2.2 39 (o_zne 44) := ok_zne dX11_isName_39 (by decide)
theorem k_118_42 : mOk M_118.1 M_118.2.1 M_118.2.2.1 M_118.2.2.2 42 (oS 1 (s_push (.int 0))) := ok_iconst dX11_isName_42 (by decide)
theorem k_118_44 : mOk M_118.1 M_118.2.1 M_118.2.2.1 M_118.2.2.2 44 (o_inc 3 (-8)) := ok_iinc dX11_isName_44 (by decide)
theorem k_118_47 : mOk M_118.1 M_118.2.1 M_118.2.2.1 M_118.2.2.2 47 (o_goto 5) := ok_goto dX11_isName_47 (by decide)
theorem k_118_50 : mOk M_118.1 M_118.2.1 M_118.2.2.1 M_118.2.2.2 50 (oS 1 (s_push (.int 1))) := ok_iconst dX11_isName_50 (by decide)
set_option maxRecDepth 20000 in
set_option maxHeartbeats 4000000 in
theorem tk_118 (l : Launch) (H9 : mThr l) (H10 : mSpl l) (pc : Nat) (q : mEnt) (h : tb_118 pc = some q) : EE l 118 pc q := nd h (fun h => nd h (fun h => nd h (fun h => nd h (fun h => lf (P := EE l 118) h k_118_0) (fun h => nd h (fun h => lf (P := EE l 118) h k_118_1) (fun h => lf (P := EE l 118) h k_118_2))) (fun h => nd h (fun h => nd h (fun h => lf (P := EE l 118) h k_118_4) (fun h => lf (P := EE l 118) h k_118_5)) (fun h => nd h (fun h => lf (P := EE l 118) h k_118_6) (fun h => lf (P := EE l 118) h k_118_9)))) (fun h => nd h (fun h => nd h (fun h => nd h (fun h => lf (P := EE l 118) h k_118_10) (fun h => lf (P := EE l 118) h k_118_11)) (fun h => nd h (fun h => lf (P := EE l 118) h k_118_12) (fun h => lf (P := EE l 118) h k_118_13))) (fun h => nd h (fun h => nd h (fun h => lf (P := EE l 118) h k_118_16) (fun h => lf (P := EE l 118) h k_118_17)) (fun h => nd h (fun h => lf (P := EE l 118) h k_118_19) (fun h => lf (P := EE l 118) h k_118_21))))) (fun h => nd h (fun h => nd h (fun h => nd h (fun h => lf (P := EE l 118) h k_118_24) (fun h => nd h (fun h => lf (P := EE l 118) h k_118_25) (fun h => lf (P := EE l 118) h k_118_26))) (fun h => nd h (fun h => nd h (fun h => lf (P := EE l 118) h k_118_27) (fun h => lf (P := EE l 118) h k_118_30)) (fun h => nd h (fun h => lf (P := EE l 118) h k_118_32) (fun h => lf (P := EE l 118) h k_118_34)))) (fun h => nd h (fun h => nd h (fun h => nd h (fun h => lf (P := EE l 118) h (EE_ca (by decide) (⟨m_1222, m_81, ⟨by decide, by decide⟩, by decide +kernel, ⟨by decide, by decide⟩, 137, 3, by decide +kernel, Or.inl ⟨rfl, rfl, dX11_isName_36, m_1220, m_1221⟩⟩) rfl)) (fun h => lf (P := EE l 118) h k_118_39)) (fun h => nd h (fun h => lf (P := EE l 118) h k_118_42) (fun h => lf (P := EE l 118) h (EE_re (Or.inr (Or.inl ⟨rfl, dX11_isName_43, rfl⟩)))))) (fun h => nd h (fun h => nd h (fun h => lf (P := EE l 118) h k_118_44) (fun h => lf (P := EE l 118) h k_118_47)) (fun h => nd h (fun h => lf (P := EE l 118) h k_118_50) (fun h => lf (P := EE l 118) h (EE_re (Or.inr (Or.inl ⟨rfl, dX11_isName_51, rfl⟩))))))))
theorem dX11_cross_0 : decode cX11_cross 0 = .ok (.lload_n 0, 1) := by decide +kernel
theorem dX11_cross_1 : decode cX11_cross 1 = .ok (.lload 6, 2) := by decide +kernel
theorem dX11_cross_3 : decode cX11_cross 3 = .ok (.lmul, 1) := by decide +kernel
theorem dX11_cross_4 : decode cX11_cross 4 = .ok (.lload_n 2, 1) := by decide +kernel
theorem dX11_cross_5 : decode cX11_cross 5 = .ok (.lload 4, 2) := by decide +kernel
theorem dX11_cross_7 : decode cX11_cross 7 = .ok (.lmul, 1) := by decide +kernel
theorem dX11_cross_8 : decode cX11_cross 8 = .ok (.lsub, 1) := by decide +kernel
theorem dX11_cross_9 : decode cX11_cross 9 = .ok (.lreturn, 1) := by decide +kernel
def tb_119 (pc : Nat) : Option mEnt := bif Nat.ble pc 4 then (bif Nat.ble pc 1 then (bif Nat.ble pc 0 then (bif Nat.beq pc 0 then some (.inl (o_ll 0 1)) else none) else (bif Nat.beq pc 1 then some (.inl (o_ll 6 2)) else none)) else (bif Nat.ble pc 3 then (bif Nat.beq pc 3 then some (.inl (oS 1 (s_ll (fun a b => a * b)))) else none) else (bif Nat.beq pc 4 then some (.inl (o_ll 2 1)) else none))) else (bif Nat.ble pc 7 then (bif Nat.ble pc 5 then (bif Nat.beq pc 5 then some (.inl (o_ll 4 2)) else none) else (bif Nat.beq pc 7 then some (.inl (oS 1 (s_ll (fun a b => a * b)))) else none)) else (bif Nat.ble pc 8 then (bif Nat.beq pc 8 then some (.inl (oS 1 (s_ll (fun a b => a - b)))) else none) else (bif Nat.beq pc 9 then some (.inr (0, 0, 0, 1)) else none)))
theorem k_119_0 : mOk M_119.1 M_119.2.1 M_119.2.2.1 M_119.2.2.2 0 (o_ll 0 1) := ok_lload_n dX11_cross_0 rfl
theorem k_119_1 : mOk M_119.1 M_119.2.1 M_119.2.2.1 M_119.2.2.2 1 (o_ll 6 2) := ok_lload dX11_cross_1
theorem k_119_3 : mOk M_119.1 M_119.2.1 M_119.2.2.1 M_119.2.2.2 3 (oS 1 (s_ll (fun a b => a * b))) := ok_lmul dX11_cross_3
theorem k_119_4 : mOk M_119.1 M_119.2.1 M_119.2.2.1 M_119.2.2.2 4 (o_ll 2 1) := ok_lload_n dX11_cross_4 rfl
theorem k_119_5 : mOk M_119.1 M_119.2.1 M_119.2.2.1 M_119.2.2.2 5 (o_ll 4 2) := ok_lload dX11_cross_5
theorem k_119_7 : mOk M_119.1 M_119.2.1 M_119.2.2.1 M_119.2.2.2 7 (oS 1 (s_ll (fun a b => a * b))) := ok_lmul dX11_cross_7
theorem k_119_8 : mOk M_119.1 M_119.2.1 M_119.2.2.1 M_119.2.2.2 8 (oS 1 (s_ll (fun a b => a - b))) := ok_lsub dX11_cross_8
set_option maxRecDepth 20000 in
set_option maxHeartbeats 4000000 in
theorem tk_119 (l : Launch) (H9 : mThr l) (H10 : mSpl l) (pc : Nat) (q : mEnt) (h : tb_119 pc = some q) : EE l 119 pc q := nd h (fun h => nd h (fun h => nd h (fun h => lf (P := EE l 119) h k_119_0) (fun h => lf (P := EE l 119) h k_119_1)) (fun h => nd h (fun h => lf (P := EE l 119) h k_119_3) (fun h => lf (P := EE l 119) h k_119_4))) (fun h => nd h (fun h => nd h (fun h => lf (P := EE l 119) h k_119_5) (fun h => lf (P := EE l 119) h k_119_7)) (fun h => nd h (fun h => lf (P := EE l 119) h k_119_8) (fun h => lf (P := EE l 119) h (EE_re (Or.inr (Or.inr (Or.inl ⟨rfl, dX11_cross_9, rfl⟩)))))))
theorem dX11_sideOf_0 : decode cX11_sideOf 0 = .ok (.aload_n 0, 1) := by decide +kernel
theorem dX11_sideOf_1 : decode cX11_sideOf 1 = .ok (.getfield 38, 3) := by decide +kernel
theorem dX11_sideOf_4 : decode cX11_sideOf 4 = .ok (.iload_n 2, 1) := by decide +kernel
theorem dX11_sideOf_5 : decode cX11_sideOf 5 = .ok (.iaload, 1) := by decide +kernel
theorem dX11_sideOf_6 : decode cX11_sideOf 6 = .ok (.aload_n 0, 1) := by decide +kernel
theorem dX11_sideOf_7 : decode cX11_sideOf 7 = .ok (.getfield 38, 3) := by decide +kernel
theorem dX11_sideOf_10 : decode cX11_sideOf 10 = .ok (.iload_n 1, 1) := by decide +kernel
theorem dX11_sideOf_11 : decode cX11_sideOf 11 = .ok (.iaload, 1) := by decide +kernel
theorem dX11_sideOf_12 : decode cX11_sideOf 12 = .ok (.isub, 1) := by decide +kernel
theorem dX11_sideOf_13 : decode cX11_sideOf 13 = .ok (.i2l, 1) := by decide +kernel
theorem dX11_sideOf_14 : decode cX11_sideOf 14 = .ok (.aload_n 0, 1) := by decide +kernel
theorem dX11_sideOf_15 : decode cX11_sideOf 15 = .ok (.getfield 41, 3) := by decide +kernel
theorem dX11_sideOf_18 : decode cX11_sideOf 18 = .ok (.iload_n 2, 1) := by decide +kernel
theorem dX11_sideOf_19 : decode cX11_sideOf 19 = .ok (.iaload, 1) := by decide +kernel
theorem dX11_sideOf_20 : decode cX11_sideOf 20 = .ok (.aload_n 0, 1) := by decide +kernel
theorem dX11_sideOf_21 : decode cX11_sideOf 21 = .ok (.getfield 41, 3) := by decide +kernel
theorem dX11_sideOf_24 : decode cX11_sideOf 24 = .ok (.iload_n 1, 1) := by decide +kernel
theorem dX11_sideOf_25 : decode cX11_sideOf 25 = .ok (.iaload, 1) := by decide +kernel
theorem dX11_sideOf_26 : decode cX11_sideOf 26 = .ok (.isub, 1) := by decide +kernel
theorem dX11_sideOf_27 : decode cX11_sideOf 27 = .ok (.i2l, 1) := by decide +kernel
theorem dX11_sideOf_28 : decode cX11_sideOf 28 = .ok (.aload_n 0, 1) := by decide +kernel
theorem dX11_sideOf_29 : decode cX11_sideOf 29 = .ok (.getfield 38, 3) := by decide +kernel
theorem dX11_sideOf_32 : decode cX11_sideOf 32 = .ok (.iload_n 3, 1) := by decide +kernel
theorem dX11_sideOf_33 : decode cX11_sideOf 33 = .ok (.iaload, 1) := by decide +kernel
theorem dX11_sideOf_34 : decode cX11_sideOf 34 = .ok (.aload_n 0, 1) := by decide +kernel
theorem dX11_sideOf_35 : decode cX11_sideOf 35 = .ok (.getfield 38, 3) := by decide +kernel
theorem dX11_sideOf_38 : decode cX11_sideOf 38 = .ok (.iload_n 1, 1) := by decide +kernel
theorem dX11_sideOf_39 : decode cX11_sideOf 39 = .ok (.iaload, 1) := by decide +kernel
theorem dX11_sideOf_40 : decode cX11_sideOf 40 = .ok (.isub, 1) := by decide +kernel
theorem dX11_sideOf_41 : decode cX11_sideOf 41 = .ok (.i2l, 1) := by decide +kernel
theorem dX11_sideOf_42 : decode cX11_sideOf 42 = .ok (.aload_n 0, 1) := by decide +kernel
theorem dX11_sideOf_43 : decode cX11_sideOf 43 = .ok (.getfield 41, 3) := by decide +kernel
theorem dX11_sideOf_46 : decode cX11_sideOf 46 = .ok (.iload_n 3, 1) := by decide +kernel
theorem dX11_sideOf_47 : decode cX11_sideOf 47 = .ok (.iaload, 1) := by decide +kernel
theorem dX11_sideOf_48 : decode cX11_sideOf 48 = .ok (.aload_n 0, 1) := by decide +kernel
theorem dX11_sideOf_49 : decode cX11_sideOf 49 = .ok (.getfield 41, 3) := by decide +kernel
theorem dX11_sideOf_52 : decode cX11_sideOf 52 = .ok (.iload_n 1, 1) := by decide +kernel
theorem dX11_sideOf_53 : decode cX11_sideOf 53 = .ok (.iaload, 1) := by decide +kernel
theorem dX11_sideOf_54 : decode cX11_sideOf 54 = .ok (.isub, 1) := by decide +kernel
theorem dX11_sideOf_55 : decode cX11_sideOf 55 = .ok (.i2l, 1) := by decide +kernel
theorem dX11_sideOf_56 : decode cX11_sideOf 56 = .ok (.invokestatic 148, 3) := by decide +kernel
theorem dX11_sideOf_59 : decode cX11_sideOf 59 = .ok (.lstore 4, 2) := by decide +kernel
theorem dX11_sideOf_61 : decode cX11_sideOf 61 = .ok (.lload 4, 2) := by decide +kernel
theorem dX11_sideOf_63 : decode cX11_sideOf 63 = .ok (.lconst 0, 1) := by decide +kernel
theorem dX11_sideOf_64 : decode cX11_sideOf 64 = .ok (.lcmp, 1) := by decide +kernel
theorem dX11_sideOf_65 : decode cX11_sideOf 65 = .ok (.ifCond .le 7, 3) := by decide +kernel
theorem dX11_sideOf_68 : decode cX11_sideOf 68 = .ok (.iconst 1, 1) := by decide +kernel
theorem dX11_sideOf_69 : decode cX11_sideOf 69 = .ok (.goto 15, 3) := by decide +kernel
theorem dX11_sideOf_72 : decode cX11_sideOf 72 = .ok (.lload 4, 2) := by decide +kernel
theorem dX11_sideOf_74 : decode cX11_sideOf 74 = .ok (.lconst 0, 1) := by decide +kernel
theorem dX11_sideOf_75 : decode cX11_sideOf 75 = .ok (.lcmp, 1) := by decide +kernel
theorem dX11_sideOf_76 : decode cX11_sideOf 76 = .ok (.ifCond .ge 7, 3) := by decide +kernel
theorem dX11_sideOf_79 : decode cX11_sideOf 79 = .ok (.iconst (-1), 1) := by decide +kernel
theorem dX11_sideOf_80 : decode cX11_sideOf 80 = .ok (.goto 4, 3) := by decide +kernel
theorem dX11_sideOf_83 : decode cX11_sideOf 83 = .ok (.iconst 0, 1) := by decide +kernel
theorem dX11_sideOf_84 : decode cX11_sideOf 84 = .ok (.ireturn, 1) := by decide +kernel
def tb_120 (pc : Nat) : Option mEnt := bif Nat.ble pc 39 then (bif Nat.ble pc 19 then (bif Nat.ble pc 10 then (bif Nat.ble pc 4 then (bif Nat.ble pc 0 then (bif Nat.beq pc 0 then some (.inl (o_al 0 1)) else none) else (bif Nat.ble pc 1 then (bif Nat.beq pc 1 then some (.inl (o_gP 11 10)) else none) else (bif Nat.beq pc 4 then some (.inl (o_il 2 1)) else none))) else (bif Nat.ble pc 6 then (bif Nat.ble pc 5 then (bif Nat.beq pc 5 then some (.inl (o_iald)) else none) else (bif Nat.beq pc 6 then some (.inl (o_al 0 1)) else none)) else (bif Nat.ble pc 7 then (bif Nat.beq pc 7 then some (.inl (o_gP 11 10)) else none) else (bif Nat.beq pc 10 then some (.inl (o_il 1 1)) else none)))) else (bif Nat.ble pc 13 then (bif Nat.ble pc 11 then (bif Nat.beq pc 11 then some (.inl (o_iald)) else none) else (bif Nat.ble pc 12 then (bif Nat.beq pc 12 then some (.inl (oS 1 (s_ii (fun a b => a - b)))) else none) else (bif Nat.beq pc 13 then some (.inl (oS 1 s_i2l)) else none))) else (bif Nat.ble pc 15 then (bif Nat.ble pc 14 then (bif Nat.beq pc 14 then some (.inl (o_al 0 1)) else none) else (bif Nat.beq pc 15 then some (.inl (o_gP 11 11)) else none)) else (bif Nat.ble pc 18 then (bif Nat.beq pc 18 then some (.inl (o_il 2 1)) else none) else (bif Nat.beq pc 19 then some (.inl (o_iald)) else none))))) else (bif Nat.ble pc 28 then (bif Nat.ble pc 24 then (bif Nat.ble pc 20 then (bif Nat.beq pc 20 then some (.inl (o_al 0 1)) else none) else (bif Nat.ble pc 21 then (bif Nat.beq pc 21 then some (.inl (o_gP 11 11)) else none) else (bif Nat.beq pc 24 then some (.inl (o_il 1 1)) else none))) else (bif Nat.ble pc 26 then (bif Nat.ble pc 25 then (bif Nat.beq pc 25 then some (.inl (o_iald)) else none) else (bif Nat.beq pc 26 then some (.inl (oS 1 (s_ii (fun a b => a - b)))) else none)) else (bif Nat.ble pc 27 then (bif Nat.beq pc 27 then some (.inl (oS 1 s_i2l)) else none) else (bif Nat.beq pc 28 then some (.inl (o_al 0 1)) else none)))) else (bif Nat.ble pc 33 then (bif Nat.ble pc 29 then (bif Nat.beq pc 29 then some (.inl (o_gP 11 10)) else none) else (bif Nat.ble pc 32 then (bif Nat.beq pc 32 then some (.inl (o_il 3 1)) else none) else (bif Nat.beq pc 33 then some (.inl (o_iald)) else none))) else (bif Nat.ble pc 35 then (bif Nat.ble pc 34 then (bif Nat.beq pc 34 then some (.inl (o_al 0 1)) else none) else (bif Nat.beq pc 35 then some (.inl (o_gP 11 10)) else none)) else (bif Nat.ble pc 38 then (bif Nat.beq pc 38 then some (.inl (o_il 1 1)) else none) else (bif Nat.beq pc 39 then some (.inl (o_iald)) else none)))))) else (bif Nat.ble pc 59 then (bif Nat.ble pc 48 then (bif Nat.ble pc 42 then (bif Nat.ble pc 40 then (bif Nat.beq pc 40 then some (.inl (oS 1 (s_ii (fun a b => a - b)))) else none) else (bif Nat.ble pc 41 then (bif Nat.beq pc 41 then some (.inl (oS 1 s_i2l)) else none) else (bif Nat.beq pc 42 then some (.inl (o_al 0 1)) else none))) else (bif Nat.ble pc 46 then (bif Nat.ble pc 43 then (bif Nat.beq pc 43 then some (.inl (o_gP 11 11)) else none) else (bif Nat.beq pc 46 then some (.inl (o_il 3 1)) else none)) else (bif Nat.ble pc 47 then (bif Nat.beq pc 47 then some (.inl (o_iald)) else none) else (bif Nat.beq pc 48 then some (.inl (o_al 0 1)) else none)))) else (bif Nat.ble pc 53 then (bif Nat.ble pc 49 then (bif Nat.beq pc 49 then some (.inl (o_gP 11 11)) else none) else (bif Nat.ble pc 52 then (bif Nat.beq pc 52 then some (.inl (o_il 1 1)) else none) else (bif Nat.beq pc 53 then some (.inl (o_iald)) else none))) else (bif Nat.ble pc 55 then (bif Nat.ble pc 54 then (bif Nat.beq pc 54 then some (.inl (oS 1 (s_ii (fun a b => a - b)))) else none) else (bif Nat.beq pc 55 then some (.inl (oS 1 s_i2l)) else none)) else (bif Nat.ble pc 56 then (bif Nat.beq pc 56 then some (.inr (2, 119, 4, 0)) else none) else (bif Nat.beq pc 59 then some (.inl (o_ls 4 2)) else none))))) else (bif Nat.ble pc 72 then (bif Nat.ble pc 64 then (bif Nat.ble pc 61 then (bif Nat.beq pc 61 then some (.inl (o_ll 4 2)) else none) else (bif Nat.ble pc 63 then (bif Nat.beq pc 63 then some (.inl (oS 1 (s_push (.long 0)))) else none) else (bif Nat.beq pc 64 then some (.inl (oS 1 s_lcmp)) else none))) else (bif Nat.ble pc 68 then (bif Nat.ble pc 65 then (bif Nat.beq pc 65 then some (.inl (o_zle 72)) else none) else (bif Nat.beq pc 68 then some (.inl (oS 1 (s_push (.int 1)))) else none)) else (bif Nat.ble pc 69 then (bif Nat.beq pc 69 then some (.inl (o_goto 84)) else none) else (bif Nat.beq pc 72 then some (.inl (o_ll 4 2)) else none)))) else (bif Nat.ble pc 76 then (bif Nat.ble pc 74 then (bif Nat.beq pc 74 then some (.inl (oS 1 (s_push (.long 0)))) else none) else (bif Nat.ble pc 75 then (bif Nat.beq pc 75 then some (.inl (oS 1 s_lcmp)) else none) else (bif Nat.beq pc 76 then some (.inl (o_zge 83)) else none))) else (bif Nat.ble pc 80 then (bif Nat.ble pc 79 then (bif Nat.beq pc 79 then some (.inl (oS 1 (s_push (.int (-1))))) else none) else (bif Nat.beq pc 80 then some (.inl (o_goto 84)) else none)) else (bif Nat.ble pc 83 then (bif Nat.beq pc 83 then some (.inl (oS 1 (s_push (.int 0)))) else none) else (bif Nat.beq pc 84 then some (.inr (0, 0, 0, 0)) else none))))))
theorem k_120_0 : mOk M_120.1 M_120.2.1 M_120.2.2.1 M_120.2.2.2 0 (o_al 0 1) := ok_aload_n dX11_sideOf_0 rfl
theorem k_120_1 : mOk M_120.1 M_120.2.1 M_120.2.2.1 M_120.2.2.2 1 (o_gP 11 10) := ok_gP dX11_sideOf_1 f_RX11_38 rfl
theorem k_120_4 : mOk M_120.1 M_120.2.1 M_120.2.2.1 M_120.2.2.2 4 (o_il 2 1) := ok_iload_n dX11_sideOf_4 rfl
theorem k_120_5 : mOk M_120.1 M_120.2.1 M_120.2.2.1 M_120.2.2.2 5 (o_iald) := ok_iald dX11_sideOf_5
theorem k_120_6 : mOk M_120.1 M_120.2.1 M_120.2.2.1 M_120.2.2.2 6 (o_al 0 1) := ok_aload_n dX11_sideOf_6 rfl
theorem k_120_7 : mOk M_120.1 M_120.2.1 M_120.2.2.1 M_120.2.2.2 7 (o_gP 11 10) := ok_gP dX11_sideOf_7 f_RX11_38 rfl
theorem k_120_10 : mOk M_120.1 M_120.2.1 M_120.2.2.1 M_120.2.2.2 10 (o_il 1 1) := ok_iload_n dX11_sideOf_10 rfl
theorem k_120_11 : mOk M_120.1 M_120.2.1 M_120.2.2.1 M_120.2.2.2 11 (o_iald) := ok_iald dX11_sideOf_11
theorem k_120_12 : mOk M_120.1 M_120.2.1 M_120.2.2.1 M_120.2.2.2 12 (oS 1 (s_ii (fun a b => a - b))) := ok_isub dX11_sideOf_12
theorem k_120_13 : mOk M_120.1 M_120.2.1 M_120.2.2.1 M_120.2.2.2 13 (oS 1 s_i2l) := ok_i2l dX11_sideOf_13
theorem k_120_14 : mOk M_120.1 M_120.2.1 M_120.2.2.1 M_120.2.2.2 14 (o_al 0 1) := ok_aload_n dX11_sideOf_14 rfl
theorem k_120_15 : mOk M_120.1 M_120.2.1 M_120.2.2.1 M_120.2.2.2 15 (o_gP 11 11) := ok_gP dX11_sideOf_15 f_RX11_41 rfl
theorem k_120_18 : mOk M_120.1 M_120.2.1 M_120.2.2.1 M_120.2.2.2 18 (o_il 2 1) := ok_iload_n dX11_sideOf_18 rfl
theorem k_120_19 : mOk M_120.1 M_120.2.1 M_120.2.2.1 M_120.2.2.2 19 (o_iald) := ok_iald dX11_sideOf_19
theorem k_120_20 : mOk M_120.1 M_120.2.1 M_120.2.2.1 M_120.2.2.2 20 (o_al 0 1) := ok_aload_n dX11_sideOf_20 rfl
theorem k_120_21 : mOk M_120.1 M_120.2.1 M_120.2.2.1 M_120.2.2.2 21 (o_gP 11 11) := ok_gP dX11_sideOf_21 f_RX11_41 rfl
theorem k_120_24 : mOk M_120.1 M_120.2.1 M_120.2.2.1 M_120.2.2.2 24 (o_il 1 1) := ok_iload_n dX11_sideOf_24 rfl
theorem k_120_25 : mOk M_120.1 M_120.2.1 M_120.2.2.1 M_120.2.2.2 25 (o_iald) := ok_iald dX11_sideOf_25
theorem k_120_26 : mOk M_120.1 M_120.2.1 M_120.2.2.1 M_120.2.2.2 26 (oS 1 (s_ii (fun a b => a - b))) := ok_isub dX11_sideOf_26
theorem k_120_27 : mOk M_120.1 M_120.2.1 M_120.2.2.1 M_120.2.2.2 27 (oS 1 s_i2l) := ok_i2l dX11_sideOf_27
theorem k_120_28 : mOk M_120.1 M_120.2.1 M_120.2.2.1 M_120.2.2.2 28 (o_al 0 1) := ok_aload_n dX11_sideOf_28 rfl
theorem k_120_29 : mOk M_120.1 M_120.2.1 M_120.2.2.1 M_120.2.2.2 29 (o_gP 11 10) := ok_gP dX11_sideOf_29 f_RX11_38 rfl
theorem k_120_32 : mOk M_120.1 M_120.2.1 M_120.2.2.1 M_120.2.2.2 32 (o_il 3 1) := ok_iload_n dX11_sideOf_32 rfl
theorem k_120_33 : mOk M_120.1 M_120.2.1 M_120.2.2.1 M_120.2.2.2 33 (o_iald) := ok_iald dX11_sideOf_33
theorem k_120_34 : mOk M_120.1 M_120.2.1 M_120.2.2.1 M_120.2.2.2 34 (o_al 0 1) := ok_aload_n dX11_sideOf_34 rfl
theorem k_120_35 : mOk M_120.1 M_120.2.1 M_120.2.2.1 M_120.2.2.2 35 (o_gP 11 10) := ok_gP dX11_sideOf_35 f_RX11_38 rfl
theorem k_120_38 : mOk M_120.1 M_120.2.1 M_120.2.2.1 M_120.2.2.2 38 (o_il 1 1) := ok_iload_n dX11_sideOf_38 rfl
theorem k_120_39 : mOk M_120.1 M_120.2.1 M_120.2.2.1 M_120.2.2.2 39 (o_iald) := ok_iald dX11_sideOf_39
theorem k_120_40 : mOk M_120.1 M_120.2.1 M_120.2.2.1 M_120.2.2.2 40 (oS 1 (s_ii (fun a b => a - b))) := ok_isub dX11_sideOf_40
theorem k_120_41 : mOk M_120.1 M_120.2.1 M_120.2.2.1 M_120.2.2.2 41 (oS 1 s_i2l) := ok_i2l dX11_sideOf_41
theorem k_120_42 : mOk M_120.1 M_120.2.1 M_120.2.2.1 M_120.2.2.2 42 (o_al 0 1) := ok_aload_n dX11_sideOf_42 rfl
theorem k_120_43 : mOk M_120.1 M_120.2.1 M_120.2.2.1 M_120.2.2.2 43 (o_gP 11 11) := ok_gP dX11_sideOf_43 f_RX11_41 rfl
theorem k_120_46 : mOk M_120.1 M_120.2.1 M_120.2.2.1 M_120.2.2.2 46 (o_il 3 1) := ok_iload_n dX11_sideOf_46 rfl
theorem k_120_47 : mOk M_120.1 M_120.2.1 M_120.2.2.1 M_120.2.2.2 47 (o_iald) := ok_iald dX11_sideOf_47
theorem k_120_48 : mOk M_120.1 M_120.2.1 M_120.2.2.1 M_120.2.2.2 48 (o_al 0 1) := ok_aload_n dX11_sideOf_48 rfl
theorem k_120_49 : mOk M_120.1 M_120.2.1 M_120.2.2.1 M_120.2.2.2 49 (o_gP 11 11) := ok_gP dX11_sideOf_49 f_RX11_41 rfl
theorem k_120_52 : mOk M_120.1 M_120.2.1 M_120.2.2.1 M_120.2.2.2 52 (o_il 1 1) := ok_iload_n dX11_sideOf_52 rfl
theorem k_120_53 : mOk M_120.1 M_120.2.1 M_120.2.2.1 M_120.2.2.2 53 (o_iald) := ok_iald dX11_sideOf_53
theorem k_120_54 : mOk M_120.1 M_120.2.1 M_120.2.2.1 M_120.2.2.2 54 (oS 1 (s_ii (fun a b => a - b))) := ok_isub dX11_sideOf_54
theorem k_120_55 : mOk M_120.1 M_120.2.1 M_120.2.2.1 M_120.2.2.2 55 (oS 1 s_i2l) := ok_i2l dX11_sideOf_55
theorem k_120_59 : mOk M_120.1 M_120.2.1 M_120.2.2.1 M_120.2.2.2 59 (o_ls 4 2) := ok_lstore dX11_sideOf_59
theorem k_120_61 : mOk M_120.1 M_120.2.1 M_120.2.2.1 M_120.2.2.2 61 (o_ll 4 2) := ok_lload dX11_sideOf_61
theorem k_120_63 : mOk M_120.1 M_120.2.1 M_120.2.2.1 M_120.2.2.2 63 (oS 1 (s_push (.long 0))) := ok_lconst dX11_sideOf_63 (by decide)
theorem k_120_64 : mOk M_120.1 M_120.2.1 M_120.2.2.1 M_120.2.2.2 64 (oS 1 s_lcmp) := ok_lcmp dX11_sideOf_64
theorem k_120_65 : mOk M_120.1 M_120.2.1 M_120.2.2.1 M_120.2.2.2 65 (o_zle 72) := ok_zle dX11_sideOf_65 (by decide)
theorem k_120_68 : mOk M_120.1 M_120.2.1 M_120.2.2.1 M_120.2.2.2 68 (oS 1 (s_push (.int 1))) := ok_iconst dX11_sideOf_68 (by decide)
theorem k_120_69 : mOk M_120.1 M_120.2.1 M_120.2.2.1 M_120.2.2.2 69 (o_goto 84) := ok_goto dX11_sideOf_69 (by decide)
theorem k_120_72 : mOk M_120.1 M_120.2.1 M_120.2.2.1 M_120.2.2.2 72 (o_ll 4 2) := ok_lload dX11_sideOf_72
theorem k_120_74 : mOk M_120.1 M_120.2.1 M_120.2.2.1 M_120.2.2.2 74 (oS 1 (s_push (.long 0))) := ok_lconst dX11_sideOf_74 (by decide)
theorem k_120_75 : mOk M_120.1 M_120.2.1 M_120.2.2.1 M_120.2.2.2 75 (oS 1 s_lcmp) := ok_lcmp dX11_sideOf_75
theorem k_120_76 : mOk M_120.1 M_120.2.1 M_120.2.2.1 M_120.2.2.2 76 (o_zge 83) := ok_zge dX11_sideOf_76 (by decide)
theorem k_120_79 : mOk M_120.1 M_120.2.1 M_120.2.2.1 M_120.2.2.2 79 (oS 1 (s_push (.int (-1)))) := ok_iconst dX11_sideOf_79 (by decide)
theorem k_120_80 : mOk M_120.1 M_120.2.1 M_120.2.2.1 M_120.2.2.2 80 (o_goto 84) := ok_goto dX11_sideOf_80 (by decide)
theorem k_120_83 : mOk M_120.1 M_120.2.1 M_120.2.2.1 M_120.2.2.2 83 (oS 1 (s_push (.int 0))) := ok_iconst dX11_sideOf_83 (by decide)
set_option maxRecDepth 20000 in
set_option maxHeartbeats 4000000 in
theorem tk_120 (l : Launch) (H9 : mThr l) (H10 : mSpl l) (pc : Nat) (q : mEnt) (h : tb_120 pc = some q) : EE l 120 pc q := nd h (fun h => nd h (fun h => nd h (fun h => nd h (fun h => nd h (fun h => lf (P := EE l 120) h k_120_0) (fun h => nd h (fun h => lf (P := EE l 120) h k_120_1) (fun h => lf (P := EE l 120) h k_120_4))) (fun h => nd h (fun h => nd h (fun h => lf (P := EE l 120) h k_120_5) (fun h => lf (P := EE l 120) h k_120_6)) (fun h => nd h (fun h => lf (P := EE l 120) h k_120_7) (fun h => lf (P := EE l 120) h k_120_10)))) (fun h => nd h (fun h => nd h (fun h => lf (P := EE l 120) h k_120_11) (fun h => nd h (fun h => lf (P := EE l 120) h k_120_12) (fun h => lf (P := EE l 120) h k_120_13))) (fun h => nd h (fun h => nd h (fun h => lf (P := EE l 120) h k_120_14) (fun h => lf (P := EE l 120) h k_120_15)) (fun h => nd h (fun h => lf (P := EE l 120) h k_120_18) (fun h => lf (P := EE l 120) h k_120_19))))) (fun h => nd h (fun h => nd h (fun h => nd h (fun h => lf (P := EE l 120) h k_120_20) (fun h => nd h (fun h => lf (P := EE l 120) h k_120_21) (fun h => lf (P := EE l 120) h k_120_24))) (fun h => nd h (fun h => nd h (fun h => lf (P := EE l 120) h k_120_25) (fun h => lf (P := EE l 120) h k_120_26)) (fun h => nd h (fun h => lf (P := EE l 120) h k_120_27) (fun h => lf (P := EE l 120) h k_120_28)))) (fun h => nd h (fun h => nd h (fun h => lf (P := EE l 120) h k_120_29) (fun h => nd h (fun h => lf (P := EE l 120) h k_120_32) (fun h => lf (P := EE l 120) h k_120_33))) (fun h => nd h (fun h => nd h (fun h => lf (P := EE l 120) h k_120_34) (fun h => lf (P := EE l 120) h k_120_35)) (fun h => nd h (fun h => lf (P := EE l 120) h k_120_38) (fun h => lf (P := EE l 120) h k_120_39)))))) (fun h => nd h (fun h => nd h (fun h => nd h (fun h => nd h (fun h => lf (P := EE l 120) h k_120_40) (fun h => nd h (fun h => lf (P := EE l 120) h k_120_41) (fun h => lf (P := EE l 120) h k_120_42))) (fun h => nd h (fun h => nd h (fun h => lf (P := EE l 120) h k_120_43) (fun h => lf (P := EE l 120) h k_120_46)) (fun h => nd h (fun h => lf (P := EE l 120) h k_120_47) (fun h => lf (P := EE l 120) h k_120_48)))) (fun h => nd h (fun h => nd h (fun h => lf (P := EE l 120) h k_120_49) (fun h => nd h (fun h => lf (P := EE l 120) h k_120_52) (fun h => lf (P := EE l 120) h k_120_53))) (fun h => nd h (fun h => nd h (fun h => lf (P := EE l 120) h k_120_54) (fun h => lf (P := EE l 120) h k_120_55)) (fun h => nd h (fun h => lf (P := EE l 120) h (EE_ca (by decide) (⟨m_1244, m_81, ⟨by decide, by decide⟩, by decide +kernel, ⟨by decide, by decide⟩, 148, 4, by decide +kernel, Or.inl ⟨rfl, rfl, dX11_sideOf_56, m_1242, m_1243⟩⟩) rfl)) (fun h => lf (P := EE l 120) h k_120_59))))) (fun h => nd h (fun h => nd h (fun h => nd h (fun h => lf (P := EE l 120) h k_120_61) (fun h => nd h (fun h => lf (P := EE l 120) h k_120_63) (fun h => lf (P := EE l 120) h k_120_64))) (fun h => nd h (fun h => nd h (fun h => lf (P := EE l 120) h k_120_65) (fun h => lf (P := EE l 120) h k_120_68)) (fun h => nd h (fun h => lf (P := EE l 120) h k_120_69) (fun h => lf (P := EE l 120) h k_120_72)))) (fun h => nd h (fun h => nd h (fun h => lf (P := EE l 120) h k_120_74) (fun h => nd h (fun h => lf (P := EE l 120) h k_120_75) (fun h => lf (P := EE l 120) h k_120_76))) (fun h => nd h (fun h => nd h (fun h => lf (P := EE l 120) h k_120_79) (fun h => lf (P := EE l 120) h k_120_80)) (fun h => nd h (fun h => lf (P := EE l 120) h k_120_83) (fun h => lf (P := EE l 120) h (EE_re (Or.inl ⟨rfl, dX11_sideOf_84, rfl⟩))))))))
theorem dX11_between_0 : decode cX11_between 0 = .ok (.aload_n 0, 1) := by decide +kernel
theorem dX11_between_1 : decode cX11_between 1 = .ok (.getfield 38, 3) := by decide +kernel
theorem dX11_between_4 : decode cX11_between 4 = .ok (.iload_n 3, 1) := by decide +kernel
theorem dX11_between_5 : decode cX11_between 5 = .ok (.iaload, 1) := by decide +kernel
theorem dX11_between_6 : decode cX11_between 6 = .ok (.aload_n 0, 1) := by decide +kernel
theorem dX11_between_7 : decode cX11_between 7 = .ok (.getfield 38, 3) := by decide +kernel
theorem dX11_between_10 : decode cX11_between 10 = .ok (.iload_n 1, 1) := by decide +kernel
theorem dX11_between_11 : decode cX11_between 11 = .ok (.iaload, 1) := by decide +kernel
theorem dX11_between_12 : decode cX11_between 12 = .ok (.if_icmp .lt 18, 3) := by decide +kernel
theorem dX11_between_15 : decode cX11_between 15 = .ok (.aload_n 0, 1) := by decide +kernel
theorem dX11_between_16 : decode cX11_between 16 = .ok (.getfield 38, 3) := by decide +kernel
theorem dX11_between_19 : decode cX11_between 19 = .ok (.iload_n 3, 1) := by decide +kernel
theorem dX11_between_20 : decode cX11_between 20 = .ok (.iaload, 1) := by decide +kernel
theorem dX11_between_21 : decode cX11_between 21 = .ok (.aload_n 0, 1) := by decide +kernel
theorem dX11_between_22 : decode cX11_between 22 = .ok (.getfield 38, 3) := by decide +kernel
theorem dX11_between_25 : decode cX11_between 25 = .ok (.iload_n 2, 1) := by decide +kernel
theorem dX11_between_26 : decode cX11_between 26 = .ok (.iaload, 1) := by decide +kernel
theorem dX11_between_27 : decode cX11_between 27 = .ok (.if_icmp .le 33, 3) := by decide +kernel
theorem dX11_between_30 : decode cX11_between 30 = .ok (.aload_n 0, 1) := by decide +kernel
theorem dX11_between_31 : decode cX11_between 31 = .ok (.getfield 38, 3) := by decide +kernel
theorem dX11_between_34 : decode cX11_between 34 = .ok (.iload_n 3, 1) := by decide +kernel
theorem dX11_between_35 : decode cX11_between 35 = .ok (.iaload, 1) := by decide +kernel
theorem dX11_between_36 : decode cX11_between 36 = .ok (.aload_n 0, 1) := by decide +kernel
theorem dX11_between_37 : decode cX11_between 37 = .ok (.getfield 38, 3) := by decide +kernel
theorem dX11_between_40 : decode cX11_between 40 = .ok (.iload_n 2, 1) := by decide +kernel
theorem dX11_between_41 : decode cX11_between 41 = .ok (.iaload, 1) := by decide +kernel
theorem dX11_between_42 : decode cX11_between 42 = .ok (.if_icmp .lt 22, 3) := by decide +kernel
theorem dX11_between_45 : decode cX11_between 45 = .ok (.aload_n 0, 1) := by decide +kernel
theorem dX11_between_46 : decode cX11_between 46 = .ok (.getfield 38, 3) := by decide +kernel
theorem dX11_between_49 : decode cX11_between 49 = .ok (.iload_n 3, 1) := by decide +kernel
theorem dX11_between_50 : decode cX11_between 50 = .ok (.iaload, 1) := by decide +kernel
theorem dX11_between_51 : decode cX11_between 51 = .ok (.aload_n 0, 1) := by decide +kernel
theorem dX11_between_52 : decode cX11_between 52 = .ok (.getfield 38, 3) := by decide +kernel
theorem dX11_between_55 : decode cX11_between 55 = .ok (.iload_n 1, 1) := by decide +kernel
theorem dX11_between_56 : decode cX11_between 56 = .ok (.iaload, 1) := by decide +kernel
theorem dX11_between_57 : decode cX11_between 57 = .ok (.if_icmp .gt 7, 3) := by decide +kernel
theorem dX11_between_60 : decode cX11_between 60 = .ok (.iconst 1, 1) := by decide +kernel
theorem dX11_between_61 : decode cX11_between 61 = .ok (.goto 4, 3) := by decide +kernel
theorem dX11_between_64 : decode cX11_between 64 = .ok (.iconst 0, 1) := by decide +kernel
theorem dX11_between_65 : decode cX11_between 65 = .ok (.istore 4, 2) := by decide +kernel
theorem dX11_between_67 : decode cX11_between 67 = .ok (.iload 4, 2) := by decide +kernel
theorem dX11_between_69 : decode cX11_between 69 = .ok (.ifCond .eq 67, 3) := by decide +kernel
theorem dX11_between_72 : decode cX11_between 72 = .ok (.aload_n 0, 1) := by decide +kernel
theorem dX11_between_73 : decode cX11_between 73 = .ok (.getfield 41, 3) := by decide +kernel
theorem dX11_between_76 : decode cX11_between 76 = .ok (.iload_n 3, 1) := by decide +kernel
theorem dX11_between_77 : decode cX11_between 77 = .ok (.iaload, 1) := by decide +kernel
theorem dX11_between_78 : decode cX11_between 78 = .ok (.aload_n 0, 1) := by decide +kernel
theorem dX11_between_79 : decode cX11_between 79 = .ok (.getfield 41, 3) := by decide +kernel
theorem dX11_between_82 : decode cX11_between 82 = .ok (.iload_n 1, 1) := by decide +kernel
theorem dX11_between_83 : decode cX11_between 83 = .ok (.iaload, 1) := by decide +kernel
theorem dX11_between_84 : decode cX11_between 84 = .ok (.if_icmp .lt 18, 3) := by decide +kernel
theorem dX11_between_87 : decode cX11_between 87 = .ok (.aload_n 0, 1) := by decide +kernel
theorem dX11_between_88 : decode cX11_between 88 = .ok (.getfield 41, 3) := by decide +kernel
theorem dX11_between_91 : decode cX11_between 91 = .ok (.iload_n 3, 1) := by decide +kernel
theorem dX11_between_92 : decode cX11_between 92 = .ok (.iaload, 1) := by decide +kernel
theorem dX11_between_93 : decode cX11_between 93 = .ok (.aload_n 0, 1) := by decide +kernel
theorem dX11_between_94 : decode cX11_between 94 = .ok (.getfield 41, 3) := by decide +kernel
theorem dX11_between_97 : decode cX11_between 97 = .ok (.iload_n 2, 1) := by decide +kernel
theorem dX11_between_98 : decode cX11_between 98 = .ok (.iaload, 1) := by decide +kernel
theorem dX11_between_99 : decode cX11_between 99 = .ok (.if_icmp .le 33, 3) := by decide +kernel
theorem dX11_between_102 : decode cX11_between 102 = .ok (.aload_n 0, 1) := by decide +kernel
theorem dX11_between_103 : decode cX11_between 103 = .ok (.getfield 41, 3) := by decide +kernel
theorem dX11_between_106 : decode cX11_between 106 = .ok (.iload_n 3, 1) := by decide +kernel
theorem dX11_between_107 : decode cX11_between 107 = .ok (.iaload, 1) := by decide +kernel
theorem dX11_between_108 : decode cX11_between 108 = .ok (.aload_n 0, 1) := by decide +kernel
theorem dX11_between_109 : decode cX11_between 109 = .ok (.getfield 41, 3) := by decide +kernel
theorem dX11_between_112 : decode cX11_between 112 = .ok (.iload_n 2, 1) := by decide +kernel
theorem dX11_between_113 : decode cX11_between 113 = .ok (.iaload, 1) := by decide +kernel
theorem dX11_between_114 : decode cX11_between 114 = .ok (.if_icmp .lt 22, 3) := by decide +kernel
theorem dX11_between_117 : decode cX11_between 117 = .ok (.aload_n 0, 1) := by decide +kernel
theorem dX11_between_118 : decode cX11_between 118 = .ok (.getfield 41, 3) := by decide +kernel
theorem dX11_between_121 : decode cX11_between 121 = .ok (.iload_n 3, 1) := by decide +kernel
theorem dX11_between_122 : decode cX11_between 122 = .ok (.iaload, 1) := by decide +kernel
theorem dX11_between_123 : decode cX11_between 123 = .ok (.aload_n 0, 1) := by decide +kernel
theorem dX11_between_124 : decode cX11_between 124 = .ok (.getfield 41, 3) := by decide +kernel
theorem dX11_between_127 : decode cX11_between 127 = .ok (.iload_n 1, 1) := by decide +kernel
theorem dX11_between_128 : decode cX11_between 128 = .ok (.iaload, 1) := by decide +kernel
theorem dX11_between_129 : decode cX11_between 129 = .ok (.if_icmp .gt 7, 3) := by decide +kernel
theorem dX11_between_132 : decode cX11_between 132 = .ok (.iconst 1, 1) := by decide +kernel
theorem dX11_between_133 : decode cX11_between 133 = .ok (.goto 4, 3) := by decide +kernel
theorem dX11_between_136 : decode cX11_between 136 = .ok (.iconst 0, 1) := by decide +kernel
theorem dX11_between_137 : decode cX11_between 137 = .ok (.ireturn, 1) := by decide +kernel
def tb_121 (pc : Nat) : Option mEnt := bif Nat.ble pc 67 then (bif Nat.ble pc 31 then (bif Nat.ble pc 15 then (bif Nat.ble pc 6 then (bif Nat.ble pc 1 then (bif Nat.ble pc 0 then (bif Nat.beq pc 0 then some (.inl (o_al 0 1)) else none) else (bif Nat.beq pc 1 then some (.inl (o_gP 11 10)) else none)) else (bif Nat.ble pc 4 then (bif Nat.beq pc 4 then some (.inl (o_il 3 1)) else none) else (bif Nat.ble pc 5 then (bif Nat.beq pc 5 then some (.inl (o_iald)) else none) else (bif Nat.beq pc 6 then some (.inl (o_al 0 1)) else none)))) else (bif Nat.ble pc 10 then (bif Nat.ble pc 7 then (bif Nat.beq pc 7 then some (.inl (o_gP 11 10)) else none) else (bif Nat.beq pc 10 then some (.inl (o_il 1 1)) else none)) else (bif Nat.ble pc 11 then (bif Nat.beq pc 11 then some (.inl (o_iald)) else none) else (bif Nat.ble pc 12 then (bif Nat.beq pc 12 then some (.inl (o_clt 30)) else none) else (bif Nat.beq pc 15 then some (.inl (o_al 0 1)) else none))))) else (bif Nat.ble pc 22 then (bif Nat.ble pc 19 then (bif Nat.ble pc 16 then (bif Nat.beq pc 16 then some (.inl (o_gP 11 10)) else none) else (bif Nat.beq pc 19 then some (.inl (o_il 3 1)) else none)) else (bif Nat.ble pc 20 then (bif Nat.beq pc 20 then some (.inl (o_iald)) else none) else (bif Nat.ble pc 21 then (bif Nat.beq pc 21 then some (.inl (o_al 0 1)) else none) else (bif Nat.beq pc 22 then some (.inl (o_gP 11 10)) else none)))) else (bif Nat.ble pc 26 then (bif Nat.ble pc 25 then (bif Nat.beq pc 25 then some (.inl (o_il 2 1)) else none) else (bif Nat.beq pc 26 then some (.inl (o_iald)) else none)) else (bif Nat.ble pc 27 then (bif Nat.beq pc 27 then some (.inl (o_cle 60)) else none) else (bif Nat.ble pc 30 then (bif Nat.beq pc 30 then some (.inl (o_al 0 1)) else none) else (bif Nat.beq pc 31 then some (.inl (o_gP 11 10)) else none)))))) else (bif Nat.ble pc 49 then (bif Nat.ble pc 40 then (bif Nat.ble pc 35 then (bif Nat.ble pc 34 then (bif Nat.beq pc 34 then some (.inl (o_il 3 1)) else none) else (bif Nat.beq pc 35 then some (.inl (o_iald)) else none)) else (bif Nat.ble pc 36 then (bif Nat.beq pc 36 then some (.inl (o_al 0 1)) else none) else (bif Nat.ble pc 37 then (bif Nat.beq pc 37 then some (.inl (o_gP 11 10)) else none) else (bif Nat.beq pc 40 then some (.inl (o_il 2 1)) else none)))) else (bif Nat.ble pc 42 then (bif Nat.ble pc 41 then (bif Nat.beq pc 41 then some (.inl (o_iald)) else none) else (bif Nat.beq pc 42 then some (.inl (o_clt 64)) else none)) else (bif Nat.ble pc 45 then (bif Nat.beq pc 45 then some (.inl (o_al 0 1)) else none) else (bif Nat.ble pc 46 then (bif Nat.beq pc 46 then some (.inl (o_gP 11 10)) else none) else (bif Nat.beq pc 49 then some (.inl (o_il 3 1)) else none))))) else (bif Nat.ble pc 56 then (bif Nat.ble pc 51 then (bif Nat.ble pc 50 then (bif Nat.beq pc 50 then some (.inl (o_iald)) else none) else (bif Nat.beq pc 51 then some (.inl (o_al 0 1)) else none)) else (bif Nat.ble pc 52 then (bif Nat.beq pc 52 then some (.inl (o_gP 11 10)) else none) else (bif Nat.ble pc 55 then (bif Nat.beq pc 55 then some (.inl (o_il 1 1)) else none) else (bif Nat.beq pc 56 then some (.inl (o_iald)) else none)))) else (bif Nat.ble pc 61 then (bif Nat.ble pc 57 then (bif Nat.beq pc 57 then some (.inl (o_cgt 64)) else none) else (bif Nat.ble pc 60 then (bif Nat.beq pc 60 then some (.inl (oS 1 (s_push (.int 1)))) else none) else (bif Nat.beq pc 61 then some (.inl (o_goto 65)) else none))) else (bif Nat.ble pc 64 then (bif Nat.beq pc 64 then some (.inl (oS 1 (s_push (.int 0)))) else none) else (bif Nat.ble pc 65 then (bif Nat.beq pc 65 then some (.inl (o_is 4 2)) else none) else (bif Nat.beq pc 67 then some (.inl (o_il 4 2)) else none))))))) else (bif Nat.ble pc 102 then (bif Nat.ble pc 84 then (bif Nat.ble pc 77 then (bif Nat.ble pc 72 then (bif Nat.ble pc 69 then (bif Nat.beq pc 69 then some (.inl (o_zeq 136)) else none) else (bif Nat.beq pc 72 then some (.inl (o_al 0 1)) else none)) else (bif Nat.ble pc 73 then (bif Nat.beq pc 73 then some (.inl (o_gP 11 11)) else none) else (bif Nat.ble pc 76 then (bif Nat.beq pc 76 then some (.inl (o_il 3 1)) else none) else (bif Nat.beq pc 77 then some (.inl (o_iald)) else none)))) else (bif Nat.ble pc 79 then (bif Nat.ble pc 78 then (bif Nat.beq pc 78 then some (.inl (o_al 0 1)) else none) else (bif Nat.beq pc 79 then some (.inl (o_gP 11 11)) else none)) else (bif Nat.ble pc 82 then (bif Nat.beq pc 82 then some (.inl (o_il 1 1)) else none) else (bif Nat.ble pc 83 then (bif Nat.beq pc 83 then some (.inl (o_iald)) else none) else (bif Nat.beq pc 84 then some (.inl (o_clt 102)) else none))))) else (bif Nat.ble pc 93 then (bif Nat.ble pc 88 then (bif Nat.ble pc 87 then (bif Nat.beq pc 87 then some (.inl (o_al 0 1)) else none) else (bif Nat.beq pc 88 then some (.inl (o_gP 11 11)) else none)) else (bif Nat.ble pc 91 then (bif Nat.beq pc 91 then some (.inl (o_il 3 1)) else none) else (bif Nat.ble pc 92 then (bif Nat.beq pc 92 then some (.inl (o_iald)) else none) else (bif Nat.beq pc 93 then some (.inl (o_al 0 1)) else none)))) else (bif Nat.ble pc 97 then (bif Nat.ble pc 94 then (bif Nat.beq pc 94 then some (.inl (o_gP 11 11)) else none) else (bif Nat.beq pc 97 then some (.inl (o_il 2 1)) else none)) else (bif Nat.ble pc 98 then (bif Nat.beq pc 98 then some (.inl (o_iald)) else none) else (bif Nat.ble pc 99 then (bif Nat.beq pc 99 then some (.inl (o_cle 132)) else none) else (bif Nat.beq pc 102 then some (.inl (o_al 0 1)) else none)))))) else (bif Nat.ble pc 118 then (bif Nat.ble pc 109 then (bif Nat.ble pc 106 then (bif Nat.ble pc 103 then (bif Nat.beq pc 103 then some (.inl (o_gP 11 11)) else none) else (bif Nat.beq pc 106 then some (.inl (o_il 3 1)) else none)) else (bif Nat.ble pc 107 then (bif Nat.beq pc 107 then some (.inl (o_iald)) else none) else (bif Nat.ble pc 108 then (bif Nat.beq pc 108 then some (.inl (o_al 0 1)) else none) else (bif Nat.beq pc 109 then some (.inl (o_gP 11 11)) else none)))) else (bif Nat.ble pc 113 then (bif Nat.ble pc 112 then (bif Nat.beq pc 112 then some (.inl (o_il 2 1)) else none) else (bif Nat.beq pc 113 then some (.inl (o_iald)) else none)) else (bif Nat.ble pc 114 then (bif Nat.beq pc 114 then some (.inl (o_clt 136)) else none) else (bif Nat.ble pc 117 then (bif Nat.beq pc 117 then some (.inl (o_al 0 1)) else none) else (bif Nat.beq pc 118 then some (.inl (o_gP 11 11)) else none))))) else (bif Nat.ble pc 127 then (bif Nat.ble pc 122 then (bif Nat.ble pc 121 then (bif Nat.beq pc 121 then some (.inl (o_il 3 1)) else none) else (bif Nat.beq pc 122 then some (.inl (o_iald)) else none)) else (bif Nat.ble pc 123 then (bif Nat.beq pc 123 then some (.inl (o_al 0 1)) else none) else (bif Nat.ble pc 124 then (bif Nat.beq pc 124 then some (.inl (o_gP 11 11)) else none) else (bif Nat.beq pc 127 then some (.inl (o_il 1 1)) else none)))) else (bif Nat.ble pc 132 then (bif Nat.ble pc 128 then (bif Nat.beq pc 128 then some (.inl (o_iald)) else none) else (bif Nat.ble pc 129 then (bif Nat.beq pc 129 then some (.inl (o_cgt 136)) else none) else (bif Nat.beq pc 132 then some (.inl (oS 1 (s_push (.int 1)))) else none))) else (bif Nat.ble pc 133 then (bif Nat.beq pc 133 then some (.inl (o_goto 137)) else none) else (bif Nat.ble pc 136 then (bif Nat.beq pc 136 then some (.inl (oS 1 (s_push (.int 0)))) else none) else (bif Nat.beq pc 137 then some (.inr (0, 0, 0, 4)) else none)))))))
theorem k_121_0 : mOk M_121.1 M_121.2.1 M_121.2.2.1 M_121.2.2.2 0 (o_al 0 1) := ok_aload_n dX11_between_0 rfl
theorem k_121_1 : mOk M_121.1 M_121.2.1 M_121.2.2.1 M_121.2.2.2 1 (o_gP 11 10) := ok_gP dX11_between_1 f_RX11_38 rfl
theorem k_121_4 : mOk M_121.1 M_121.2.1 M_121.2.2.1 M_121.2.2.2 4 (o_il 3 1) := ok_iload_n dX11_between_4 rfl
theorem k_121_5 : mOk M_121.1 M_121.2.1 M_121.2.2.1 M_121.2.2.2 5 (o_iald) := ok_iald dX11_between_5
theorem k_121_6 : mOk M_121.1 M_121.2.1 M_121.2.2.1 M_121.2.2.2 6 (o_al 0 1) := ok_aload_n dX11_between_6 rfl
theorem k_121_7 : mOk M_121.1 M_121.2.1 M_121.2.2.1 M_121.2.2.2 7 (o_gP 11 10) := ok_gP dX11_between_7 f_RX11_38 rfl
theorem k_121_10 : mOk M_121.1 M_121.2.1 M_121.2.2.1 M_121.2.2.2 10 (o_il 1 1) := ok_iload_n dX11_between_10 rfl
theorem k_121_11 : mOk M_121.1 M_121.2.1 M_121.2.2.1 M_121.2.2.2 11 (o_iald) := ok_iald dX11_between_11
theorem k_121_12 : mOk M_121.1 M_121.2.1 M_121.2.2.1 M_121.2.2.2 12 (o_clt 30) := ok_clt dX11_between_12 (by decide)
theorem k_121_15 : mOk M_121.1 M_121.2.1 M_121.2.2.1 M_121.2.2.2 15 (o_al 0 1) := ok_aload_n dX11_between_15 rfl
theorem k_121_16 : mOk M_121.1 M_121.2.1 M_121.2.2.1 M_121.2.2.2 16 (o_gP 11 10) := ok_gP dX11_between_16 f_RX11_38 rfl
theorem k_121_19 : mOk M_121.1 M_121.2.1 M_121.2.2.1 M_121.2.2.2 19 (o_il 3 1) := ok_iload_n dX11_between_19 rfl
theorem k_121_20 : mOk M_121.1 M_121.2.1 M_121.2.2.1 M_121.2.2.2 20 (o_iald) := ok_iald dX11_between_20
theorem k_121_21 : mOk M_121.1 M_121.2.1 M_121.2.2.1 M_121.2.2.2 21 (o_al 0 1) := ok_aload_n dX11_between_21 rfl
theorem k_121_22 : mOk M_121.1 M_121.2.1 M_121.2.2.1 M_121.2.2.2 22 (o_gP 11 10) := ok_gP dX11_between_22 f_RX11_38 rfl
theorem k_121_25 : mOk M_121.1 M_121.2.1 M_121.2.2.1 M_121.2.2.2 25 (o_il 2 1) := ok_iload_n dX11_between_25 rfl
theorem k_121_26 : mOk M_121.1 M_121.2.1 M_121.2.2.1 M_121.2.2.2 26 (o_iald) := ok_iald dX11_between_26
theorem k_121_27 : mOk M_121.1 M_121.2.1 M_121.2.2.1 M_121.2.2.2 27 (o_cle 60) := ok_cle dX11_between_27 (by decide)
theorem k_121_30 : mOk M_121.1 M_121.2.1 M_121.2.2.1 M_121.2.2.2 30 (o_al 0 1) := ok_aload_n dX11_between_30 rfl
theorem k_121_31 : mOk M_121.1 M_121.2.1 M_121.2.2.1 M_121.2.2.2 31 (o_gP 11 10) := ok_gP dX11_between_31 f_RX11_38 rfl
theorem k_121_34 : mOk M_121.1 M_121.2.1 M_121.2.2.1 M_121.2.2.2 34 (o_il 3 1) := ok_iload_n dX11_between_34 rfl
theorem k_121_35 : mOk M_121.1 M_121.2.1 M_121.2.2.1 M_121.2.2.2 35 (o_iald) := ok_iald dX11_between_35
theorem k_121_36 : mOk M_121.1 M_121.2.1 M_121.2.2.1 M_121.2.2.2 36 (o_al 0 1) := ok_aload_n dX11_between_36 rfl
theorem k_121_37 : mOk M_121.1 M_121.2.1 M_121.2.2.1 M_121.2.2.2 37 (o_gP 11 10) := ok_gP dX11_between_37 f_RX11_38 rfl
theorem k_121_40 : mOk M_121.1 M_121.2.1 M_121.2.2.1 M_121.2.2.2 40 (o_il 2 1) := ok_iload_n dX11_between_40 rfl
theorem k_121_41 : mOk M_121.1 M_121.2.1 M_121.2.2.1 M_121.2.2.2 41 (o_iald) := ok_iald dX11_between_41
theorem k_121_42 : mOk M_121.1 M_121.2.1 M_121.2.2.1 M_121.2.2.2 42 (o_clt 64) := ok_clt dX11_between_42 (by decide)
theorem k_121_45 : mOk M_121.1 M_121.2.1 M_121.2.2.1 M_121.2.2.2 45 (o_al 0 1) := ok_aload_n dX11_between_45 rfl
theorem k_121_46 : mOk M_121.1 M_121.2.1 M_121.2.2.1 M_121.2.2.2 46 (o_gP 11 10) := ok_gP dX11_between_46 f_RX11_38 rfl
theorem k_121_49 : mOk M_121.1 M_121.2.1 M_121.2.2.1 M_121.2.2.2 49 (o_il 3 1) := ok_iload_n dX11_between_49 rfl
theorem k_121_50 : mOk M_121.1 M_121.2.1 M_121.2.2.1 M_121.2.2.2 50 (o_iald) := ok_iald dX11_between_50
theorem k_121_51 : mOk M_121.1 M_121.2.1 M_121.2.2.1 M_121.2.2.2 51 (o_al 0 1) := ok_aload_n dX11_between_51 rfl
theorem k_121_52 : mOk M_121.1 M_121.2.1 M_121.2.2.1 M_121.2.2.2 52 (o_gP 11 10) := ok_gP dX11_between_52 f_RX11_38 rfl
theorem k_121_55 : mOk M_121.1 M_121.2.1 M_121.2.2.1 M_121.2.2.2 55 (o_il 1 1) := ok_iload_n dX11_between_55 rfl
theorem k_121_56 : mOk M_121.1 M_121.2.1 M_121.2.2.1 M_121.2.2.2 56 (o_iald) := ok_iald dX11_between_56
theorem k_121_57 : mOk M_121.1 M_121.2.1 M_121.2.2.1 M_121.2.2.2 57 (o_cgt 64) := ok_cgt dX11_between_57 (by decide)
theorem k_121_60 : mOk M_121.1 M_121.2.1 M_121.2.2.1 M_121.2.2.2 60 (oS 1 (s_push (.int 1))) := ok_iconst dX11_between_60 (by decide)
theorem k_121_61 : mOk M_121.1 M_121.2.1 M_121.2.2.1 M_121.2.2.2 61 (o_goto 65) := ok_goto dX11_between_61 (by decide)
theorem k_121_64 : mOk M_121.1 M_121.2.1 M_121.2.2.1 M_121.2.2.2 64 (oS 1 (s_push (.int 0))) := ok_iconst dX11_between_64 (by decide)
theorem k_121_65 : mOk M_121.1 M_121.2.1 M_121.2.2.1 M_121.2.2.2 65 (o_is 4 2) := ok_istore dX11_between_65
theorem k_121_67 : mOk M_121.1 M_121.2.1 M_121.2.2.1 M_121.2.2.2 67 (o_il 4 2) := ok_iload dX11_between_67
theorem k_121_69 : mOk M_121.1 M_121.2.1 M_121.2.2.1 M_121.2.2.2 69 (o_zeq 136) := ok_zeq dX11_between_69 (by decide)
theorem k_121_72 : mOk M_121.1 M_121.2.1 M_121.2.2.1 M_121.2.2.2 72 (o_al 0 1) := ok_aload_n dX11_between_72 rfl
theorem k_121_73 : mOk M_121.1 M_121.2.1 M_121.2.2.1 M_121.2.2.2 73 (o_gP 11 11) := ok_gP dX11_between_73 f_RX11_41 rfl
theorem k_121_76 : mOk M_121.1 M_121.2.1 M_121.2.2.1 M_121.2.2.2 76 (o_il 3 1) := ok_iload_n dX11_between_76 rfl
theorem k_121_77 : mOk M_121.1 M_121.2.1 M_121.2.2.1 M_121.2.2.2 77 (o_iald) := ok_iald dX11_between_77
theorem k_121_78 : mOk M_121.1 M_121.2.1 M_121.2.2.1 M_121.2.2.2 78 (o_al 0 1) := ok_aload_n dX11_between_78 rfl
theorem k_121_79 : mOk M_121.1 M_121.2.1 M_121.2.2.1 M_121.2.2.2 79 (o_gP 11 11) := ok_gP dX11_between_79 f_RX11_41 rfl
theorem k_121_82 : mOk M_121.1 M_121.2.1 M_121.2.2.1 M_121.2.2.2 82 (o_il 1 1) := ok_iload_n dX11_between_82 rfl
theorem k_121_83 : mOk M_121.1 M_121.2.1 M_121.2.2.1 M_121.2.2.2 83 (o_iald) := ok_iald dX11_between_83
theorem k_121_84 : mOk M_121.1 M_121.2.1 M_121.2.2.1 M_121.2.2.2 84 (o_clt 102) := ok_clt dX11_between_84 (by decide)
theorem k_121_87 : mOk M_121.1 M_121.2.1 M_121.2.2.1 M_121.2.2.2 87 (o_al 0 1) := ok_aload_n dX11_between_87 rfl
theorem k_121_88 : mOk M_121.1 M_121.2.1 M_121.2.2.1 M_121.2.2.2 88 (o_gP 11 11) := ok_gP dX11_between_88 f_RX11_41 rfl
theorem k_121_91 : mOk M_121.1 M_121.2.1 M_121.2.2.1 M_121.2.2.2 91 (o_il 3 1) := ok_iload_n dX11_between_91 rfl
theorem k_121_92 : mOk M_121.1 M_121.2.1 M_121.2.2.1 M_121.2.2.2 92 (o_iald) := ok_iald dX11_between_92
theorem k_121_93 : mOk M_121.1 M_121.2.1 M_121.2.2.1 M_121.2.2.2 93 (o_al 0 1) := ok_aload_n dX11_between_93 rfl
theorem k_121_94 : mOk M_121.1 M_121.2.1 M_121.2.2.1 M_121.2.2.2 94 (o_gP 11 11) := ok_gP dX11_between_94 f_RX11_41 rfl
theorem k_121_97 : mOk M_121.1 M_121.2.1 M_121.2.2.1 M_121.2.2.2 97 (o_il 2 1) := ok_iload_n dX11_between_97 rfl
theorem k_121_98 : mOk M_121.1 M_121.2.1 M_121.2.2.1 M_121.2.2.2 98 (o_iald) := ok_iald dX11_between_98
theorem k_121_99 : mOk M_121.1 M_121.2.1 M_121.2.2.1 M_121.2.2.2 99 (o_cle 132) := ok_cle dX11_between_99 (by decide)
theorem k_121_102 : mOk M_121.1 M_121.2.1 M_121.2.2.1 M_121.2.2.2 102 (o_al 0 1) := ok_aload_n dX11_between_102 rfl
theorem k_121_103 : mOk M_121.1 M_121.2.1 M_121.2.2.1 M_121.2.2.2 103 (o_gP 11 11) := ok_gP dX11_between_103 f_RX11_41 rfl
theorem k_121_106 : mOk M_121.1 M_121.2.1 M_121.2.2.1 M_121.2.2.2 106 (o_il 3 1) := ok_iload_n dX11_between_106 rfl
theorem k_121_107 : mOk M_121.1 M_121.2.1 M_121.2.2.1 M_121.2.2.2 107 (o_iald) := ok_iald dX11_between_107
theorem k_121_108 : mOk M_121.1 M_121.2.1 M_121.2.2.1 M_121.2.2.2 108 (o_al 0 1) := ok_aload_n dX11_between_108 rfl
theorem k_121_109 : mOk M_121.1 M_121.2.1 M_121.2.2.1 M_121.2.2.2 109 (o_gP 11 11) := ok_gP dX11_between_109 f_RX11_41 rfl
theorem k_121_112 : mOk M_121.1 M_121.2.1 M_121.2.2.1 M_121.2.2.2 112 (o_il 2 1) := ok_iload_n dX11_between_112 rfl
theorem k_121_113 : mOk M_121.1 M_121.2.1 M_121.2.2.1 M_121.2.2.2 113 (o_iald) := ok_iald dX11_between_113
theorem k_121_114 : mOk M_121.1 M_121.2.1 M_121.2.2.1 M_121.2.2.2 114 (o_clt 136) := ok_clt dX11_between_114 (by decide)
theorem k_121_117 : mOk M_121.1 M_121.2.1 M_121.2.2.1 M_121.2.2.2 117 (o_al 0 1) := ok_aload_n dX11_between_117 rfl
theorem k_121_118 : mOk M_121.1 M_121.2.1 M_121.2.2.1 M_121.2.2.2 118 (o_gP 11 11) := ok_gP dX11_between_118 f_RX11_41 rfl
theorem k_121_121 : mOk M_121.1 M_121.2.1 M_121.2.2.1 M_121.2.2.2 121 (o_il 3 1) := ok_iload_n dX11_between_121 rfl
theorem k_121_122 : mOk M_121.1 M_121.2.1 M_121.2.2.1 M_121.2.2.2 122 (o_iald) := ok_iald dX11_between_122
theorem k_121_123 : mOk M_121.1 M_121.2.1 M_121.2.2.1 M_121.2.2.2 123 (o_al 0 1) := ok_aload_n dX11_between_123 rfl
theorem k_121_124 : mOk M_121.1 M_121.2.1 M_121.2.2.1 M_121.2.2.2 124 (o_gP 11 11) := ok_gP dX11_between_124 f_RX11_41 rfl
theorem k_121_127 : mOk M_121.1 M_121.2.1 M_121.2.2.1 M_121.2.2.2 127 (o_il 1 1) := ok_iload_n dX11_between_127 rfl
theorem k_121_128 : mOk M_121.1 M_121.2.1 M_121.2.2.1 M_121.2.2.2 128 (o_iald) := ok_iald dX11_between_128
theorem k_121_129 : mOk M_121.1 M_121.2.1 M_121.2.2.1 M_121.2.2.2 129 (o_cgt 136) := ok_cgt dX11_between_129 (by decide)
theorem k_121_132 : mOk M_121.1 M_121.2.1 M_121.2.2.1 M_121.2.2.2 132 (oS 1 (s_push (.int 1))) := ok_iconst dX11_between_132 (by decide)
theorem k_121_133 : mOk M_121.1 M_121.2.1 M_121.2.2.1 M_121.2.2.2 133 (o_goto 137) := ok_goto dX11_between_133 (by decide)
theorem k_121_136 : mOk M_121.1 M_121.2.1 M_121.2.2.1 M_121.2.2.2 136 (oS 1 (s_push (.int 0))) := ok_iconst dX11_between_136 (by decide)
set_option maxRecDepth 20000 in
set_option maxHeartbeats 4000000 in
theorem tk_121 (l : Launch) (H9 : mThr l) (H10 : mSpl l) (pc : Nat) (q : mEnt) (h : tb_121 pc = some q) : EE l 121 pc q := nd h (fun h => nd h (fun h => nd h (fun h => nd h (fun h => nd h (fun h => nd h (fun h => lf (P := EE l 121) h k_121_0) (fun h => lf (P := EE l 121) h k_121_1)) (fun h => nd h (fun h => lf (P := EE l 121) h k_121_4) (fun h => nd h (fun h => lf (P := EE l 121) h k_121_5) (fun h => lf (P := EE l 121) h k_121_6)))) (fun h => nd h (fun h => nd h (fun h => lf (P := EE l 121) h k_121_7) (fun h => lf (P := EE l 121) h k_121_10)) (fun h => nd h (fun h => lf (P := EE l 121) h k_121_11) (fun h => nd h (fun h => lf (P := EE l 121) h k_121_12) (fun h => lf (P := EE l 121) h k_121_15))))) (fun h => nd h (fun h => nd h (fun h => nd h (fun h => lf (P := EE l 121) h k_121_16) (fun h => lf (P := EE l 121) h k_121_19)) (fun h => nd h (fun h => lf (P := EE l 121) h k_121_20) (fun h => nd h (fun h => lf (P := EE l 121) h k_121_21) (fun h => lf (P := EE l 121) h k_121_22)))) (fun h => nd h (fun h => nd h (fun h => lf (P := EE l 121) h k_121_25) (fun h => lf (P := EE l 121) h k_121_26)) (fun h => nd h (fun h => lf (P := EE l 121) h k_121_27) (fun h => nd h (fun h => lf (P := EE l 121) h k_121_30) (fun h => lf (P := EE l 121) h k_121_31)))))) (fun h => nd h (fun h => nd h (fun h => nd h (fun h => nd h (fun h => lf (P := EE l 121) h k_121_34) (fun h => lf (P := EE l 121) h k_121_35)) (fun h => nd h (fun h => lf (P := EE l 121) h k_121_36) (fun h => nd h (fun h => lf (P := EE l 121) h k_121_37) (fun h => lf (P := EE l 121) h k_121_40)))) (fun h => nd h (fun h => nd h (fun h => lf (P := EE l 121) h k_121_41) (fun h => lf (P := EE l 121) h k_121_42)) (fun h => nd h (fun h => lf (P := EE l 121) h k_121_45) (fun h => nd h (fun h => lf (P := EE l 121) h k_121_46) (fun h => lf (P := EE l 121) h k_121_49))))) (fun h => nd h (fun h => nd h (fun h => nd h (fun h => lf (P := EE l 121) h k_121_50) (fun h => lf (P := EE l 121) h k_121_51)) (fun h => nd h (fun h => lf (P := EE l 121) h k_121_52) (fun h => nd h (fun h => lf (P := EE l 121) h k_121_55) (fun h => lf (P := EE l 121) h k_121_56)))) (fun h => nd h (fun h => nd h (fun h => lf (P := EE l 121) h k_121_57) (fun h => nd h (fun h => lf (P := EE l 121) h k_121_60) (fun h => lf (P := EE l 121) h k_121_61))) (fun h => nd h (fun h => lf (P := EE l 121) h k_121_64) (fun h => nd h (fun h => lf (P := EE l 121) h k_121_65) (fun h => lf (P := EE l 121) h k_121_67))))))) (fun h => nd h (fun h => nd h (fun h => nd h (fun h => nd h (fun h => nd h (fun h => lf (P := EE l 121) h k_121_69) (fun h => lf (P := EE l 121) h k_121_72)) (fun h => nd h (fun h => lf (P := EE l 121) h k_121_73) (fun h => nd h (fun h => lf (P := EE l 121) h k_121_76) (fun h => lf (P := EE l 121) h k_121_77)))) (fun h => nd h (fun h => nd h (fun h => lf (P := EE l 121) h k_121_78) (fun h => lf (P := EE l 121) h k_121_79)) (fun h => nd h (fun h => lf (P := EE l 121) h k_121_82) (fun h => nd h (fun h => lf (P := EE l 121) h k_121_83) (fun h => lf (P := EE l 121) h k_121_84))))) (fun h => nd h (fun h => nd h (fun h => nd h (fun h => lf (P := EE l 121) h k_121_87) (fun h => lf (P := EE l 121) h k_121_88)) (fun h => nd h (fun h => lf (P := EE l 121) h k_121_91) (fun h => nd h (fun h => lf (P := EE l 121) h k_121_92) (fun h => lf (P := EE l 121) h k_121_93)))) (fun h => nd h (fun h => nd h (fun h => lf (P := EE l 121) h k_121_94) (fun h => lf (P := EE l 121) h k_121_97)) (fun h => nd h (fun h => lf (P := EE l 121) h k_121_98) (fun h => nd h (fun h => lf (P := EE l 121) h k_121_99) (fun h => lf (P := EE l 121) h k_121_102)))))) (fun h => nd h (fun h => nd h (fun h => nd h (fun h => nd h (fun h => lf (P := EE l 121) h k_121_103) (fun h => lf (P := EE l 121) h k_121_106)) (fun h => nd h (fun h => lf (P := EE l 121) h k_121_107) (fun h => nd h (fun h => lf (P := EE l 121) h k_121_108) (fun h => lf (P := EE l 121) h k_121_109)))) (fun h => nd h (fun h => nd h (fun h => lf (P := EE l 121) h k_121_112) (fun h => lf (P := EE l 121) h k_121_113)) (fun h => nd h (fun h => lf (P := EE l 121) h k_121_114) (fun h => nd h (fun h => lf (P := EE l 121) h k_121_117) (fun h => lf (P := EE l 121) h k_121_118))))) (fun h => nd h (fun h => nd h (fun h => nd h (fun h => lf (P := EE l 121) h k_121_121) (fun h => lf (P := EE l 121) h k_121_122)) (fun h => nd h (fun h => lf (P := EE l 121) h k_121_123) (fun h => nd h (fun h => lf (P := EE l 121) h k_121_124) (fun h => lf (P := EE l 121) h k_121_127)))) (fun h => nd h (fun h => nd h (fun h => lf (P := EE l 121) h k_121_128) (fun h => nd h (fun h => lf (P := EE l 121) h k_121_129) (fun h => lf (P := EE l 121) h k_121_132))) (fun h => nd h (fun h => lf (P := EE l 121) h k_121_133) (fun h => nd h (fun h => lf (P := EE l 121) h k_121_136) (fun h => lf (P := EE l 121) h (EE_re (Or.inr (Or.inl ⟨rfl, dX11_between_137, rfl⟩))))))))))
theorem dX11_meet_0 : decode cX11_meet 0 = .ok (.aload_n 0, 1) := by decide +kernel
theorem dX11_meet_1 : decode cX11_meet 1 = .ok (.iload_n 1, 1) := by decide +kernel
theorem dX11_meet_2 : decode cX11_meet 2 = .ok (.iload_n 2, 1) := by decide +kernel
theorem dX11_meet_3 : decode cX11_meet 3 = .ok (.iload_n 3, 1) := by decide +kernel
theorem dX11_meet_4 : decode cX11_meet 4 = .ok (.invokevirtual 152, 3) := by decide +kernel
theorem dX11_meet_7 : decode cX11_meet 7 = .ok (.istore 5, 2) := by decide +kernel
theorem dX11_meet_9 : decode cX11_meet 9 = .ok (.aload_n 0, 1) := by decide +kernel
theorem dX11_meet_10 : decode cX11_meet 10 = .ok (.iload_n 1, 1) := by decide +kernel
theorem dX11_meet_11 : decode cX11_meet 11 = .ok (.iload_n 2, 1) := by decide +kernel
theorem dX11_meet_12 : decode cX11_meet 12 = .ok (.iload 4, 2) := by decide +kernel
theorem dX11_meet_14 : decode cX11_meet 14 = .ok (.invokevirtual 152, 3) := by decide +kernel
theorem dX11_meet_17 : decode cX11_meet 17 = .ok (.istore 6, 2) := by decide +kernel
theorem dX11_meet_19 : decode cX11_meet 19 = .ok (.aload_n 0, 1) := by decide +kernel
theorem dX11_meet_20 : decode cX11_meet 20 = .ok (.iload_n 3, 1) := by decide +kernel
theorem dX11_meet_21 : decode cX11_meet 21 = .ok (.iload 4, 2) := by decide +kernel
theorem dX11_meet_23 : decode cX11_meet 23 = .ok (.iload_n 1, 1) := by decide +kernel
theorem dX11_meet_24 : decode cX11_meet 24 = .ok (.invokevirtual 152, 3) := by decide +kernel
theorem dX11_meet_27 : decode cX11_meet 27 = .ok (.istore 7, 2) := by decide +kernel
theorem dX11_meet_29 : decode cX11_meet 29 = .ok (.aload_n 0, 1) := by decide +kernel
theorem dX11_meet_30 : decode cX11_meet 30 = .ok (.iload_n 3, 1) := by decide +kernel
theorem dX11_meet_31 : decode cX11_meet 31 = .ok (.iload 4, 2) := by decide +kernel
theorem dX11_meet_33 : decode cX11_meet 33 = .ok (.iload_n 2, 1) := by decide +kernel
theorem dX11_meet_34 : decode cX11_meet 34 = .ok (.invokevirtual 152, 3) := by decide +kernel
theorem dX11_meet_37 : decode cX11_meet 37 = .ok (.istore 8, 2) := by decide +kernel
theorem dX11_meet_39 : decode cX11_meet 39 = .ok (.iload 5, 2) := by decide +kernel
theorem dX11_meet_41 : decode cX11_meet 41 = .ok (.iload 6, 2) := by decide +kernel
theorem dX11_meet_43 : decode cX11_meet 43 = .ok (.imul, 1) := by decide +kernel
theorem dX11_meet_44 : decode cX11_meet 44 = .ok (.ifCond .ge 13, 3) := by decide +kernel
theorem dX11_meet_47 : decode cX11_meet 47 = .ok (.iload 7, 2) := by decide +kernel
theorem dX11_meet_49 : decode cX11_meet 49 = .ok (.iload 8, 2) := by decide +kernel
theorem dX11_meet_51 : decode cX11_meet 51 = .ok (.imul, 1) := by decide +kernel
theorem dX11_meet_52 : decode cX11_meet 52 = .ok (.ifCond .ge 5, 3) := by decide +kernel
theorem dX11_meet_55 : decode cX11_meet 55 = .ok (.iconst 1, 1) := by decide +kernel
theorem dX11_meet_56 : decode cX11_meet 56 = .ok (.ireturn, 1) := by decide +kernel
theorem dX11_meet_57 : decode cX11_meet 57 = .ok (.iload 5, 2) := by decide +kernel
theorem dX11_meet_59 : decode cX11_meet 59 = .ok (.ifCond .ne 13, 3) := by decide +kernel
theorem dX11_meet_62 : decode cX11_meet 62 = .ok (.aload_n 0, 1) := by decide +kernel
theorem dX11_meet_63 : decode cX11_meet 63 = .ok (.iload_n 1, 1) := by decide +kernel
theorem dX11_meet_64 : decode cX11_meet 64 = .ok (.iload_n 2, 1) := by decide +kernel
theorem dX11_meet_65 : decode cX11_meet 65 = .ok (.iload_n 3, 1) := by decide +kernel
theorem dX11_meet_66 : decode cX11_meet 66 = .ok (.invokevirtual 156, 3) := by decide +kernel
theorem dX11_meet_69 : decode cX11_meet 69 = .ok (.ifCond .ne 51, 3) := by decide +kernel
theorem dX11_meet_72 : decode cX11_meet 72 = .ok (.iload 6, 2) := by decide +kernel
theorem dX11_meet_74 : decode cX11_meet 74 = .ok (.ifCond .ne 14, 3) := by decide +kernel
theorem dX11_meet_77 : decode cX11_meet 77 = .ok (.aload_n 0, 1) := by decide +kernel
theorem dX11_meet_78 : decode cX11_meet 78 = .ok (.iload_n 1, 1) := by decide +kernel
theorem dX11_meet_79 : decode cX11_meet 79 = .ok (.iload_n 2, 1) := by decide +kernel
theorem dX11_meet_80 : decode cX11_meet 80 = .ok (.iload 4, 2) := by decide +kernel
theorem dX11_meet_82 : decode cX11_meet 82 = .ok (.invokevirtual 156, 3) := by decide +kernel
theorem dX11_meet_85 : decode cX11_meet 85 = .ok (.ifCond .ne 35, 3) := by decide +kernel
theorem dX11_meet_88 : decode cX11_meet 88 = .ok (.iload 7, 2) := by decide +kernel
theorem dX11_meet_90 : decode cX11_meet 90 = .ok (.ifCond .ne 14, 3) := by decide +kernel
theorem dX11_meet_93 : decode cX11_meet 93 = .ok (.aload_n 0, 1) := by decide +kernel
theorem dX11_meet_94 : decode cX11_meet 94 = .ok (.iload_n 3, 1) := by decide +kernel
theorem dX11_meet_95 : decode cX11_meet 95 = .ok (.iload 4, 2) := by decide +kernel
theorem dX11_meet_97 : decode cX11_meet 97 = .ok (.iload_n 1, 1) := by decide +kernel
theorem dX11_meet_98 : decode cX11_meet 98 = .ok (.invokevirtual 156, 3) := by decide +kernel
theorem dX11_meet_101 : decode cX11_meet 101 = .ok (.ifCond .ne 19, 3) := by decide +kernel
theorem dX11_meet_104 : decode cX11_meet 104 = .ok (.iload 8, 2) := by decide +kernel
theorem dX11_meet_106 : decode cX11_meet 106 = .ok (.ifCond .ne 18, 3) := by decide +kernel
theorem dX11_meet_109 : decode cX11_meet 109 = .ok (.aload_n 0, 1) := by decide +kernel
theorem dX11_meet_110 : decode cX11_meet 110 = .ok (.iload_n 3, 1) := by decide +kernel
theorem dX11_meet_111 : decode cX11_meet 111 = .ok (.iload 4, 2) := by decide +kernel
theorem dX11_meet_113 : decode cX11_meet 113 = .ok (.iload_n 2, 1) := by decide +kernel
theorem dX11_meet_114 : decode cX11_meet 114 = .ok (.invokevirtual 156, 3) := by decide +kernel
theorem dX11_meet_117 : decode cX11_meet 117 = .ok (.ifCond .eq 7, 3) := by decide +kernel
theorem dX11_meet_120 : decode cX11_meet 120 = .ok (.iconst 1, 1) := by decide +kernel
theorem dX11_meet_121 : decode cX11_meet 121 = .ok (.goto 4, 3) := by decide +kernel
theorem dX11_meet_124 : decode cX11_meet 124 = .ok (.iconst 0, 1) := by decide +kernel
theorem dX11_meet_125 : decode cX11_meet 125 = .ok (.ireturn, 1) := by decide +kernel
def tb_122 (pc : Nat) : Option mEnt := bif Nat.ble pc 57 then (bif Nat.ble pc 24 then (bif Nat.ble pc 10 then (bif Nat.ble pc 3 then (bif Nat.ble pc 1 then (bif Nat.ble pc 0 then (bif Nat.beq pc 0 then some (.inl (o_al 0 1)) else none) else (bif Nat.beq pc 1 then some (.inl (o_il 1 1)) else none)) else (bif Nat.ble pc 2 then (bif Nat.beq pc 2 then some (.inl (o_il 2 1)) else none) else (bif Nat.beq pc 3 then some (.inl (o_il 3 1)) else none))) else (bif Nat.ble pc 7 then (bif Nat.ble pc 4 then (bif Nat.beq pc 4 then some (.inr (3, 120, 4, 11)) else none) else (bif Nat.beq pc 7 then some (.inl (o_is 5 2)) else none)) else (bif Nat.ble pc 9 then (bif Nat.beq pc 9 then some (.inl (o_al 0 1)) else none) else (bif Nat.beq pc 10 then some (.inl (o_il 1 1)) else none)))) else (bif Nat.ble pc 17 then (bif Nat.ble pc 12 then (bif Nat.ble pc 11 then (bif Nat.beq pc 11 then some (.inl (o_il 2 1)) else none) else (bif Nat.beq pc 12 then some (.inl (o_il 4 2)) else none)) else (bif Nat.ble pc 14 then (bif Nat.beq pc 14 then some (.inr (3, 120, 4, 11)) else none) else (bif Nat.beq pc 17 then some (.inl (o_is 6 2)) else none))) else (bif Nat.ble pc 20 then (bif Nat.ble pc 19 then (bif Nat.beq pc 19 then some (.inl (o_al 0 1)) else none) else (bif Nat.beq pc 20 then some (.inl (o_il 3 1)) else none)) else (bif Nat.ble pc 21 then (bif Nat.beq pc 21 then some (.inl (o_il 4 2)) else none) else (bif Nat.ble pc 23 then (bif Nat.beq pc 23 then some (.inl (o_il 1 1)) else none) else (bif Nat.beq pc 24 then some (.inr (3, 120, 4, 11)) else none)))))) else (bif Nat.ble pc 41 then (bif Nat.ble pc 31 then (bif Nat.ble pc 29 then (bif Nat.ble pc 27 then (bif Nat.beq pc 27 then some (.inl (o_is 7 2)) else none) else (bif Nat.beq pc 29 then some (.inl (o_al 0 1)) else none)) else (bif Nat.ble pc 30 then (bif Nat.beq pc 30 then some (.inl (o_il 3 1)) else none) else (bif Nat.beq pc 31 then some (.inl (o_il 4 2)) else none))) else (bif Nat.ble pc 34 then (bif Nat.ble pc 33 then (bif Nat.beq pc 33 then some (.inl (o_il 2 1)) else none) else (bif Nat.beq pc 34 then some (.inr (3, 120, 4, 11)) else none)) else (bif Nat.ble pc 37 then (bif Nat.beq pc 37 then some (.inl (o_is 8 2)) else none) else (bif Nat.ble pc 39 then (bif Nat.beq pc 39 then some (.inl (o_il 5 2)) else none) else (bif Nat.beq pc 41 then some (.inl (o_il 6 2)) else none))))) else (bif Nat.ble pc 49 then (bif Nat.ble pc 44 then (bif Nat.ble pc 43 then (bif Nat.beq pc 43 then some (.inl (oS 1 (s_ii (fun a b => a * b)))) else none) else (bif Nat.beq pc 44 then some (.inl (o_zge 57)) else none)) else (bif Nat.ble pc 47 then (bif Nat.beq pc 47 then some (.inl (o_il 7 2)) else none) else (bif Nat.beq pc 49 then some (.inl (o_il 8 2)) else none))) else (bif Nat.ble pc 52 then (bif Nat.ble pc 51 then (bif Nat.beq pc 51 then some (.inl (oS 1 (s_ii (fun a b => a * b)))) else none) else (bif Nat.beq pc 52 then some (.inl (o_zge 57)) else none)) else (bif Nat.ble pc 55 then (bif Nat.beq pc 55 then some (.inl (oS 1 (s_push (.int 1)))) else none) else (bif Nat.ble pc 56 then (bif Nat.beq pc 56 then some (.inr (0, 0, 0, 4)) else none) else (bif Nat.beq pc 57 then some (.inl (o_il 5 2)) else none))))))) else (bif Nat.ble pc 90 then (bif Nat.ble pc 72 then (bif Nat.ble pc 64 then (bif Nat.ble pc 62 then (bif Nat.ble pc 59 then (bif Nat.beq pc 59 then some (.inl (o_zne 72)) else none) else (bif Nat.beq pc 62 then some (.inl (o_al 0 1)) else none)) else (bif Nat.ble pc 63 then (bif Nat.beq pc 63 then some (.inl (o_il 1 1)) else none) else (bif Nat.beq pc 64 then some (.inl (o_il 2 1)) else none))) else (bif Nat.ble pc 66 then (bif Nat.ble pc 65 then (bif Nat.beq pc 65 then some (.inl (o_il 3 1)) else none) else (bif Nat.beq pc 66 then some (.inr (3, 121, 4, 11)) else none)) else (bif Nat.ble pc 69 then (bif Nat.beq pc 69 then some (.inl (o_zne 120)) else none) else (bif Nat.beq pc 72 then some (.inl (o_il 6 2)) else none)))) else (bif Nat.ble pc 79 then (bif Nat.ble pc 77 then (bif Nat.ble pc 74 then (bif Nat.beq pc 74 then some (.inl (o_zne 88)) else none) else (bif Nat.beq pc 77 then some (.inl (o_al 0 1)) else none)) else (bif Nat.ble pc 78 then (bif Nat.beq pc 78 then some (.inl (o_il 1 1)) else none) else (bif Nat.beq pc 79 then some (.inl (o_il 2 1)) else none))) else (bif Nat.ble pc 82 then (bif Nat.ble pc 80 then (bif Nat.beq pc 80 then some (.inl (o_il 4 2)) else none) else (bif Nat.beq pc 82 then some (.inr (3, 121, 4, 11)) else none)) else (bif Nat.ble pc 85 then (bif Nat.beq pc 85 then some (.inl (o_zne 120)) else none) else (bif Nat.ble pc 88 then (bif Nat.beq pc 88 then some (.inl (o_il 7 2)) else none) else (bif Nat.beq pc 90 then some (.inl (o_zne 104)) else none)))))) else (bif Nat.ble pc 109 then (bif Nat.ble pc 97 then (bif Nat.ble pc 94 then (bif Nat.ble pc 93 then (bif Nat.beq pc 93 then some (.inl (o_al 0 1)) else none) else (bif Nat.beq pc 94 then some (.inl (o_il 3 1)) else none)) else (bif Nat.ble pc 95 then (bif Nat.beq pc 95 then some (.inl (o_il 4 2)) else none) else (bif Nat.beq pc 97 then some (.inl (o_il 1 1)) else none))) else (bif Nat.ble pc 101 then (bif Nat.ble pc 98 then (bif Nat.beq pc 98 then some (.inr (3, 121, 4, 11)) else none) else (bif Nat.beq pc 101 then some (.inl (o_zne 120)) else none)) else (bif Nat.ble pc 104 then (bif Nat.beq pc 104 then some (.inl (o_il 8 2)) else none) else (bif Nat.ble pc 106 then (bif Nat.beq pc 106 then some (.inl (o_zne 124)) else none) else (bif Nat.beq pc 109 then some (.inl (o_al 0 1)) else none))))) else (bif Nat.ble pc 114 then (bif Nat.ble pc 111 then (bif Nat.ble pc 110 then (bif Nat.beq pc 110 then some (.inl (o_il 3 1)) else none) else (bif Nat.beq pc 111 then some (.inl (o_il 4 2)) else none)) else (bif Nat.ble pc 113 then (bif Nat.beq pc 113 then some (.inl (o_il 2 1)) else none) else (bif Nat.beq pc 114 then some (.inr (3, 121, 4, 11)) else none))) else (bif Nat.ble pc 120 then (bif Nat.ble pc 117 then (bif Nat.beq pc 117 then some (.inl (o_zeq 124)) else none) else (bif Nat.beq pc 120 then some (.inl (oS 1 (s_push (.int 1)))) else none)) else (bif Nat.ble pc 121 then (bif Nat.beq pc 121 then some (.inl (o_goto 125)) else none) else (bif Nat.ble pc 124 then (bif Nat.beq pc 124 then some (.inl (oS 1 (s_push (.int 0)))) else none) else (bif Nat.beq pc 125 then some (.inr (0, 0, 0, 4)) else none)))))))
theorem k_122_0 : mOk M_122.1 M_122.2.1 M_122.2.2.1 M_122.2.2.2 0 (o_al 0 1) := ok_aload_n dX11_meet_0 rfl
theorem k_122_1 : mOk M_122.1 M_122.2.1 M_122.2.2.1 M_122.2.2.2 1 (o_il 1 1) := ok_iload_n dX11_meet_1 rfl
theorem k_122_2 : mOk M_122.1 M_122.2.1 M_122.2.2.1 M_122.2.2.2 2 (o_il 2 1) := ok_iload_n dX11_meet_2 rfl
theorem k_122_3 : mOk M_122.1 M_122.2.1 M_122.2.2.1 M_122.2.2.2 3 (o_il 3 1) := ok_iload_n dX11_meet_3 rfl
theorem k_122_7 : mOk M_122.1 M_122.2.1 M_122.2.2.1 M_122.2.2.2 7 (o_is 5 2) := ok_istore dX11_meet_7
theorem k_122_9 : mOk M_122.1 M_122.2.1 M_122.2.2.1 M_122.2.2.2 9 (o_al 0 1) := ok_aload_n dX11_meet_9 rfl
theorem k_122_10 : mOk M_122.1 M_122.2.1 M_122.2.2.1 M_122.2.2.2 10 (o_il 1 1) := ok_iload_n dX11_meet_10 rfl
theorem k_122_11 : mOk M_122.1 M_122.2.1 M_122.2.2.1 M_122.2.2.2 11 (o_il 2 1) := ok_iload_n dX11_meet_11 rfl
theorem k_122_12 : mOk M_122.1 M_122.2.1 M_122.2.2.1 M_122.2.2.2 12 (o_il 4 2) := ok_iload dX11_meet_12
theorem k_122_17 : mOk M_122.1 M_122.2.1 M_122.2.2.1 M_122.2.2.2 17 (o_is 6 2) := ok_istore dX11_meet_17
theorem k_122_19 : mOk M_122.1 M_122.2.1 M_122.2.2.1 M_122.2.2.2 19 (o_al 0 1) := ok_aload_n dX11_meet_19 rfl
theorem k_122_20 : mOk M_122.1 M_122.2.1 M_122.2.2.1 M_122.2.2.2 20 (o_il 3 1) := ok_iload_n dX11_meet_20 rfl
theorem k_122_21 : mOk M_122.1 M_122.2.1 M_122.2.2.1 M_122.2.2.2 21 (o_il 4 2) := ok_iload dX11_meet_21
theorem k_122_23 : mOk M_122.1 M_122.2.1 M_122.2.2.1 M_122.2.2.2 23 (o_il 1 1) := ok_iload_n dX11_meet_23 rfl
theorem k_122_27 : mOk M_122.1 M_122.2.1 M_122.2.2.1 M_122.2.2.2 27 (o_is 7 2) := ok_istore dX11_meet_27
theorem k_122_29 : mOk M_122.1 M_122.2.1 M_122.2.2.1 M_122.2.2.2 29 (o_al 0 1) := ok_aload_n dX11_meet_29 rfl
theorem k_122_30 : mOk M_122.1 M_122.2.1 M_122.2.2.1 M_122.2.2.2 30 (o_il 3 1) := ok_iload_n dX11_meet_30 rfl
theorem k_122_31 : mOk M_122.1 M_122.2.1 M_122.2.2.1 M_122.2.2.2 31 (o_il 4 2) := ok_iload dX11_meet_31
theorem k_122_33 : mOk M_122.1 M_122.2.1 M_122.2.2.1 M_122.2.2.2 33 (o_il 2 1) := ok_iload_n dX11_meet_33 rfl
theorem k_122_37 : mOk M_122.1 M_122.2.1 M_122.2.2.1 M_122.2.2.2 37 (o_is 8 2) := ok_istore dX11_meet_37
theorem k_122_39 : mOk M_122.1 M_122.2.1 M_122.2.2.1 M_122.2.2.2 39 (o_il 5 2) := ok_iload dX11_meet_39
theorem k_122_41 : mOk M_122.1 M_122.2.1 M_122.2.2.1 M_122.2.2.2 41 (o_il 6 2) := ok_iload dX11_meet_41
theorem k_122_43 : mOk M_122.1 M_122.2.1 M_122.2.2.1 M_122.2.2.2 43 (oS 1 (s_ii (fun a b => a * b))) := ok_imul dX11_meet_43
theorem k_122_44 : mOk M_122.1 M_122.2.1 M_122.2.2.1 M_122.2.2.2 44 (o_zge 57) := ok_zge dX11_meet_44 (by decide)
theorem k_122_47 : mOk M_122.1 M_122.2.1 M_122.2.2.1 M_122.2.2.2 47 (o_il 7 2) := ok_iload dX11_meet_47
theorem k_122_49 : mOk M_122.1 M_122.2.1 M_122.2.2.1 M_122.2.2.2 49 (o_il 8 2) := ok_iload dX11_meet_49
theorem k_122_51 : mOk M_122.1 M_122.2.1 M_122.2.2.1 M_122.2.2.2 51 (oS 1 (s_ii (fun a b => a * b))) := ok_imul dX11_meet_51
theorem k_122_52 : mOk M_122.1 M_122.2.1 M_122.2.2.1 M_122.2.2.2 52 (o_zge 57) := ok_zge dX11_meet_52 (by decide)
theorem k_122_55 : mOk M_122.1 M_122.2.1 M_122.2.2.1 M_122.2.2.2 55 (oS 1 (s_push (.int 1))) := ok_iconst dX11_meet_55 (by decide)
theorem k_122_57 : mOk M_122.1 M_122.2.1 M_122.2.2.1 M_122.2.2.2 57 (o_il 5 2) := ok_iload dX11_meet_57
theorem k_122_59 : mOk M_122.1 M_122.2.1 M_122.2.2.1 M_122.2.2.2 59 (o_zne 72) := ok_zne dX11_meet_59 (by decide)
theorem k_122_62 : mOk M_122.1 M_122.2.1 M_122.2.2.1 M_122.2.2.2 62 (o_al 0 1) := ok_aload_n dX11_meet_62 rfl
theorem k_122_63 : mOk M_122.1 M_122.2.1 M_122.2.2.1 M_122.2.2.2 63 (o_il 1 1) := ok_iload_n dX11_meet_63 rfl
theorem k_122_64 : mOk M_122.1 M_122.2.1 M_122.2.2.1 M_122.2.2.2 64 (o_il 2 1) := ok_iload_n dX11_meet_64 rfl
theorem k_122_65 : mOk M_122.1 M_122.2.1 M_122.2.2.1 M_122.2.2.2 65 (o_il 3 1) := ok_iload_n dX11_meet_65 rfl
theorem k_122_69 : mOk M_122.1 M_122.2.1 M_122.2.2.1 M_122.2.2.2 69 (o_zne 120) := ok_zne dX11_meet_69 (by decide)
theorem k_122_72 : mOk M_122.1 M_122.2.1 M_122.2.2.1 M_122.2.2.2 72 (o_il 6 2) := ok_iload dX11_meet_72
theorem k_122_74 : mOk M_122.1 M_122.2.1 M_122.2.2.1 M_122.2.2.2 74 (o_zne 88) := ok_zne dX11_meet_74 (by decide)
theorem k_122_77 : mOk M_122.1 M_122.2.1 M_122.2.2.1 M_122.2.2.2 77 (o_al 0 1) := ok_aload_n dX11_meet_77 rfl
theorem k_122_78 : mOk M_122.1 M_122.2.1 M_122.2.2.1 M_122.2.2.2 78 (o_il 1 1) := ok_iload_n dX11_meet_78 rfl
theorem k_122_79 : mOk M_122.1 M_122.2.1 M_122.2.2.1 M_122.2.2.2 79 (o_il 2 1) := ok_iload_n dX11_meet_79 rfl
theorem k_122_80 : mOk M_122.1 M_122.2.1 M_122.2.2.1 M_122.2.2.2 80 (o_il 4 2) := ok_iload dX11_meet_80
theorem k_122_85 : mOk M_122.1 M_122.2.1 M_122.2.2.1 M_122.2.2.2 85 (o_zne 120) := ok_zne dX11_meet_85 (by decide)
theorem k_122_88 : mOk M_122.1 M_122.2.1 M_122.2.2.1 M_122.2.2.2 88 (o_il 7 2) := ok_iload dX11_meet_88
theorem k_122_90 : mOk M_122.1 M_122.2.1 M_122.2.2.1 M_122.2.2.2 90 (o_zne 104) := ok_zne dX11_meet_90 (by decide)
theorem k_122_93 : mOk M_122.1 M_122.2.1 M_122.2.2.1 M_122.2.2.2 93 (o_al 0 1) := ok_aload_n dX11_meet_93 rfl
theorem k_122_94 : mOk M_122.1 M_122.2.1 M_122.2.2.1 M_122.2.2.2 94 (o_il 3 1) := ok_iload_n dX11_meet_94 rfl
theorem k_122_95 : mOk M_122.1 M_122.2.1 M_122.2.2.1 M_122.2.2.2 95 (o_il 4 2) := ok_iload dX11_meet_95
theorem k_122_97 : mOk M_122.1 M_122.2.1 M_122.2.2.1 M_122.2.2.2 97 (o_il 1 1) := ok_iload_n dX11_meet_97 rfl
theorem k_122_101 : mOk M_122.1 M_122.2.1 M_122.2.2.1 M_122.2.2.2 101 (o_zne 120) := ok_zne dX11_meet_101 (by decide)
theorem k_122_104 : mOk M_122.1 M_122.2.1 M_122.2.2.1 M_122.2.2.2 104 (o_il 8 2) := ok_iload dX11_meet_104
theorem k_122_106 : mOk M_122.1 M_122.2.1 M_122.2.2.1 M_122.2.2.2 106 (o_zne 124) := ok_zne dX11_meet_106 (by decide)
theorem k_122_109 : mOk M_122.1 M_122.2.1 M_122.2.2.1 M_122.2.2.2 109 (o_al 0 1) := ok_aload_n dX11_meet_109 rfl
theorem k_122_110 : mOk M_122.1 M_122.2.1 M_122.2.2.1 M_122.2.2.2 110 (o_il 3 1) := ok_iload_n dX11_meet_110 rfl
theorem k_122_111 : mOk M_122.1 M_122.2.1 M_122.2.2.1 M_122.2.2.2 111 (o_il 4 2) := ok_iload dX11_meet_111
theorem k_122_113 : mOk M_122.1 M_122.2.1 M_122.2.2.1 M_122.2.2.2 113 (o_il 2 1) := ok_iload_n dX11_meet_113 rfl
theorem k_122_117 : mOk M_122.1 M_122.2.1 M_122.2.2.1 M_122.2.2.2 117 (o_zeq 124) := ok_zeq dX11_meet_117 (by decide)
theorem k_122_120 : mOk M_122.1 M_122.2.1 M_122.2.2.1 M_122.2.2.2 120 (oS 1 (s_push (.int 1))) := ok_iconst dX11_meet_120 (by decide)
theorem k_122_121 : mOk M_122.1 M_122.2.1 M_122.2.2.1 M_122.2.2.2 121 (o_goto 125) := ok_goto dX11_meet_121 (by decide)
theorem k_122_124 : mOk M_122.1 M_122.2.1 M_122.2.2.1 M_122.2.2.2 124 (oS 1 (s_push (.int 0))) := ok_iconst dX11_meet_124 (by decide)
set_option maxRecDepth 20000 in
set_option maxHeartbeats 4000000 in
theorem tk_122 (l : Launch) (H9 : mThr l) (H10 : mSpl l) (pc : Nat) (q : mEnt) (h : tb_122 pc = some q) : EE l 122 pc q := nd h (fun h => nd h (fun h => nd h (fun h => nd h (fun h => nd h (fun h => nd h (fun h => lf (P := EE l 122) h k_122_0) (fun h => lf (P := EE l 122) h k_122_1)) (fun h => nd h (fun h => lf (P := EE l 122) h k_122_2) (fun h => lf (P := EE l 122) h k_122_3))) (fun h => nd h (fun h => nd h (fun h => lf (P := EE l 122) h (EE_ca (by decide) (⟨m_1241, m_81, ⟨by decide, by decide⟩, by decide +kernel, ⟨by decide, by decide⟩, 152, 3, by decide +kernel, Or.inr (Or.inr (Or.inl ⟨rfl, rfl, dX11_meet_4, m_1238, m_1240, _, rfl, by decide, m_31⟩))⟩) rfl)) (fun h => lf (P := EE l 122) h k_122_7)) (fun h => nd h (fun h => lf (P := EE l 122) h k_122_9) (fun h => lf (P := EE l 122) h k_122_10)))) (fun h => nd h (fun h => nd h (fun h => nd h (fun h => lf (P := EE l 122) h k_122_11) (fun h => lf (P := EE l 122) h k_122_12)) (fun h => nd h (fun h => lf (P := EE l 122) h (EE_ca (by decide) (⟨m_1241, m_81, ⟨by decide, by decide⟩, by decide +kernel, ⟨by decide, by decide⟩, 152, 3, by decide +kernel, Or.inr (Or.inr (Or.inl ⟨rfl, rfl, dX11_meet_14, m_1238, m_1240, _, rfl, by decide, m_31⟩))⟩) rfl)) (fun h => lf (P := EE l 122) h k_122_17))) (fun h => nd h (fun h => nd h (fun h => lf (P := EE l 122) h k_122_19) (fun h => lf (P := EE l 122) h k_122_20)) (fun h => nd h (fun h => lf (P := EE l 122) h k_122_21) (fun h => nd h (fun h => lf (P := EE l 122) h k_122_23) (fun h => lf (P := EE l 122) h (EE_ca (by decide) (⟨m_1241, m_81, ⟨by decide, by decide⟩, by decide +kernel, ⟨by decide, by decide⟩, 152, 3, by decide +kernel, Or.inr (Or.inr (Or.inl ⟨rfl, rfl, dX11_meet_24, m_1238, m_1240, _, rfl, by decide, m_31⟩))⟩) rfl))))))) (fun h => nd h (fun h => nd h (fun h => nd h (fun h => nd h (fun h => lf (P := EE l 122) h k_122_27) (fun h => lf (P := EE l 122) h k_122_29)) (fun h => nd h (fun h => lf (P := EE l 122) h k_122_30) (fun h => lf (P := EE l 122) h k_122_31))) (fun h => nd h (fun h => nd h (fun h => lf (P := EE l 122) h k_122_33) (fun h => lf (P := EE l 122) h (EE_ca (by decide) (⟨m_1241, m_81, ⟨by decide, by decide⟩, by decide +kernel, ⟨by decide, by decide⟩, 152, 3, by decide +kernel, Or.inr (Or.inr (Or.inl ⟨rfl, rfl, dX11_meet_34, m_1238, m_1240, _, rfl, by decide, m_31⟩))⟩) rfl))) (fun h => nd h (fun h => lf (P := EE l 122) h k_122_37) (fun h => nd h (fun h => lf (P := EE l 122) h k_122_39) (fun h => lf (P := EE l 122) h k_122_41))))) (fun h => nd h (fun h => nd h (fun h => nd h (fun h => lf (P := EE l 122) h k_122_43) (fun h => lf (P := EE l 122) h k_122_44)) (fun h => nd h (fun h => lf (P := EE l 122) h k_122_47) (fun h => lf (P := EE l 122) h k_122_49))) (fun h => nd h (fun h => nd h (fun h => lf (P := EE l 122) h k_122_51) (fun h => lf (P := EE l 122) h k_122_52)) (fun h => nd h (fun h => lf (P := EE l 122) h k_122_55) (fun h => nd h (fun h => lf (P := EE l 122) h (EE_re (Or.inr (Or.inl ⟨rfl, dX11_meet_56, rfl⟩)))) (fun h => lf (P := EE l 122) h k_122_57))))))) (fun h => nd h (fun h => nd h (fun h => nd h (fun h => nd h (fun h => nd h (fun h => lf (P := EE l 122) h k_122_59) (fun h => lf (P := EE l 122) h k_122_62)) (fun h => nd h (fun h => lf (P := EE l 122) h k_122_63) (fun h => lf (P := EE l 122) h k_122_64))) (fun h => nd h (fun h => nd h (fun h => lf (P := EE l 122) h k_122_65) (fun h => lf (P := EE l 122) h (EE_ca (by decide) (⟨m_1252, m_81, ⟨by decide, by decide⟩, by decide +kernel, ⟨by decide, by decide⟩, 156, 3, by decide +kernel, Or.inr (Or.inr (Or.inl ⟨rfl, rfl, dX11_meet_66, m_1249, m_1251, _, rfl, by decide, m_33⟩))⟩) rfl))) (fun h => nd h (fun h => lf (P := EE l 122) h k_122_69) (fun h => lf (P := EE l 122) h k_122_72)))) (fun h => nd h (fun h => nd h (fun h => nd h (fun h => lf (P := EE l 122) h k_122_74) (fun h => lf (P := EE l 122) h k_122_77)) (fun h => nd h (fun h => lf (P := EE l 122) h k_122_78) (fun h => lf (P := EE l 122) h k_122_79))) (fun h => nd h (fun h => nd h (fun h => lf (P := EE l 122) h k_122_80) (fun h => lf (P := EE l 122) h (EE_ca (by decide) (⟨m_1252, m_81, ⟨by decide, by decide⟩, by decide +kernel, ⟨by decide, by decide⟩, 156, 3, by decide +kernel, Or.inr (Or.inr (Or.inl ⟨rfl, rfl, dX11_meet_82, m_1249, m_1251, _, rfl, by decide, m_33⟩))⟩) rfl))) (fun h => nd h (fun h => lf (P := EE l 122) h k_122_85) (fun h => nd h (fun h => lf (P := EE l 122) h k_122_88) (fun h => lf (P := EE l 122) h k_122_90)))))) (fun h => nd h (fun h => nd h (fun h => nd h (fun h => nd h (fun h => lf (P := EE l 122) h k_122_93) (fun h => lf (P := EE l 122) h k_122_94)) (fun h => nd h (fun h => lf (P := EE l 122) h k_122_95) (fun h => lf (P := EE l 122) h k_122_97))) (fun h => nd h (fun h => nd h (fun h => lf (P := EE l 122) h (EE_ca (by decide) (⟨m_1252, m_81, ⟨by decide, by decide⟩, by decide +kernel, ⟨by decide, by decide⟩, 156, 3, by decide +kernel, Or.inr (Or.inr (Or.inl ⟨rfl, rfl, dX11_meet_98, m_1249, m_1251, _, rfl, by decide, m_33⟩))⟩) rfl)) (fun h => lf (P := EE l 122) h k_122_101)) (fun h => nd h (fun h => lf (P := EE l 122) h k_122_104) (fun h => nd h (fun h => lf (P := EE l 122) h k_122_106) (fun h => lf (P := EE l 122) h k_122_109))))) (fun h => nd h (fun h => nd h (fun h => nd h (fun h => lf (P := EE l 122) h k_122_110) (fun h => lf (P := EE l 122) h k_122_111)) (fun h => nd h (fun h => lf (P := EE l 122) h k_122_113) (fun h => lf (P := EE l 122) h (EE_ca (by decide) (⟨m_1252, m_81, ⟨by decide, by decide⟩, by decide +kernel, ⟨by decide, by decide⟩, 156, 3, by decide +kernel, Or.inr (Or.inr (Or.inl ⟨rfl, rfl, dX11_meet_114, m_1249, m_1251, _, rfl, by decide, m_33⟩))⟩) rfl)))) (fun h => nd h (fun h => nd h (fun h => lf (P := EE l 122) h k_122_117) (fun h => lf (P := EE l 122) h k_122_120)) (fun h => nd h (fun h => lf (P := EE l 122) h k_122_121) (fun h => nd h (fun h => lf (P := EE l 122) h k_122_124) (fun h => lf (P := EE l 122) h (EE_re (Or.inr (Or.inl ⟨rfl, dX11_meet_125, rfl⟩))))))))))
theorem dX11_isRing_0 : decode cX11_isRing 0 = .ok (.aload_n 0, 1) := by decide +kernel
theorem dX11_isRing_1 : decode cX11_isRing 1 = .ok (.getfield 145, 3) := by decide +kernel
theorem dX11_isRing_4 : decode cX11_isRing 4 = .ok (.istore_n 1, 1) := by decide +kernel
theorem dX11_isRing_5 : decode cX11_isRing 5 = .ok (.iconst 0, 1) := by decide +kernel
theorem dX11_isRing_6 : decode cX11_isRing 6 = .ok (.istore_n 2, 1) := by decide +kernel
theorem dX11_isRing_7 : decode cX11_isRing 7 = .ok (.iload_n 2, 1) := by decide +kernel
theorem dX11_isRing_8 : decode cX11_isRing 8 = .ok (.iload_n 1, 1) := by decide +kernel
theorem dX11_isRing_9 : decode cX11_isRing 9 = .ok (.if_icmp .ge 196, 3) := by decide +kernel
theorem dX11_isRing_12 : decode cX11_isRing 12 = .ok (.iconst 0, 1) := by decide +kernel
theorem dX11_isRing_13 : decode cX11_isRing 13 = .ok (.istore_n 3, 1) := by decide +kernel
theorem dX11_isRing_14 : decode cX11_isRing 14 = .ok (.iload_n 3, 1) := by decide +kernel
theorem dX11_isRing_15 : decode cX11_isRing 15 = .ok (.iload_n 2, 1) := by decide +kernel
theorem dX11_isRing_16 : decode cX11_isRing 16 = .ok (.if_icmp .ge 41, 3) := by decide +kernel
theorem dX11_isRing_19 : decode cX11_isRing 19 = .ok (.aload_n 0, 1) := by decide +kernel
theorem dX11_isRing_20 : decode cX11_isRing 20 = .ok (.getfield 38, 3) := by decide +kernel
theorem dX11_isRing_23 : decode cX11_isRing 23 = .ok (.iload_n 2, 1) := by decide +kernel
theorem dX11_isRing_24 : decode cX11_isRing 24 = .ok (.iaload, 1) := by decide +kernel
theorem dX11_isRing_25 : decode cX11_isRing 25 = .ok (.aload_n 0, 1) := by decide +kernel
theorem dX11_isRing_26 : decode cX11_isRing 26 = .ok (.getfield 38, 3) := by decide +kernel
theorem dX11_isRing_29 : decode cX11_isRing 29 = .ok (.iload_n 3, 1) := by decide +kernel
theorem dX11_isRing_30 : decode cX11_isRing 30 = .ok (.iaload, 1) := by decide +kernel
theorem dX11_isRing_31 : decode cX11_isRing 31 = .ok (.if_icmp .ne 20, 3) := by decide +kernel
theorem dX11_isRing_34 : decode cX11_isRing 34 = .ok (.aload_n 0, 1) := by decide +kernel
theorem dX11_isRing_35 : decode cX11_isRing 35 = .ok (.getfield 41, 3) := by decide +kernel
theorem dX11_isRing_38 : decode cX11_isRing 38 = .ok (.iload_n 2, 1) := by decide +kernel
theorem dX11_isRing_39 : decode cX11_isRing 39 = .ok (.iaload, 1) := by decide +kernel
theorem dX11_isRing_40 : decode cX11_isRing 40 = .ok (.aload_n 0, 1) := by decide +kernel
theorem dX11_isRing_41 : decode cX11_isRing 41 = .ok (.getfield 41, 3) := by decide +kernel
theorem dX11_isRing_44 : decode cX11_isRing 44 = .ok (.iload_n 3, 1) := by decide +kernel
theorem dX11_isRing_45 : decode cX11_isRing 45 = .ok (.iaload, 1) := by decide +kernel
theorem dX11_isRing_46 : decode cX11_isRing 46 = .ok (.if_icmp .ne 5, 3) := by decide +kernel
theorem dX11_isRing_49 : decode cX11_isRing 49 = .ok (.iconst 0, 1) := by decide +kernel
theorem dX11_isRing_50 : decode cX11_isRing 50 = .ok (.ireturn, 1) := by decide +kernel
theorem dX11_isRing_51 : decode cX11_isRing 51 = .ok (.iinc 3 1, 3) := by decide +kernel
theorem dX11_isRing_54 : decode cX11_isRing 54 = .ok (.goto (-40), 3) := by decide +kernel
theorem dX11_isRing_57 : decode cX11_isRing 57 = .ok (.iload_n 2, 1) := by decide +kernel
theorem dX11_isRing_58 : decode cX11_isRing 58 = .ok (.iconst 1, 1) := by decide +kernel
theorem dX11_isRing_59 : decode cX11_isRing 59 = .ok (.iadd, 1) := by decide +kernel
theorem dX11_isRing_60 : decode cX11_isRing 60 = .ok (.iload_n 1, 1) := by decide +kernel
theorem dX11_isRing_61 : decode cX11_isRing 61 = .ok (.irem, 1) := by decide +kernel
theorem dX11_isRing_62 : decode cX11_isRing 62 = .ok (.istore_n 3, 1) := by decide +kernel
theorem dX11_isRing_63 : decode cX11_isRing 63 = .ok (.iload_n 2, 1) := by decide +kernel
theorem dX11_isRing_64 : decode cX11_isRing 64 = .ok (.iconst 2, 1) := by decide +kernel
theorem dX11_isRing_65 : decode cX11_isRing 65 = .ok (.iadd, 1) := by decide +kernel
theorem dX11_isRing_66 : decode cX11_isRing 66 = .ok (.iload_n 1, 1) := by decide +kernel
theorem dX11_isRing_67 : decode cX11_isRing 67 = .ok (.irem, 1) := by decide +kernel
theorem dX11_isRing_68 : decode cX11_isRing 68 = .ok (.istore 4, 2) := by decide +kernel
theorem dX11_isRing_70 : decode cX11_isRing 70 = .ok (.aload_n 0, 1) := by decide +kernel
theorem dX11_isRing_71 : decode cX11_isRing 71 = .ok (.getfield 38, 3) := by decide +kernel
theorem dX11_isRing_74 : decode cX11_isRing 74 = .ok (.iload_n 2, 1) := by decide +kernel
theorem dX11_isRing_75 : decode cX11_isRing 75 = .ok (.iaload, 1) := by decide +kernel
theorem dX11_isRing_76 : decode cX11_isRing 76 = .ok (.aload_n 0, 1) := by decide +kernel
theorem dX11_isRing_77 : decode cX11_isRing 77 = .ok (.getfield 38, 3) := by decide +kernel
theorem dX11_isRing_80 : decode cX11_isRing 80 = .ok (.iload_n 3, 1) := by decide +kernel
theorem dX11_isRing_81 : decode cX11_isRing 81 = .ok (.iaload, 1) := by decide +kernel
theorem dX11_isRing_82 : decode cX11_isRing 82 = .ok (.isub, 1) := by decide +kernel
theorem dX11_isRing_83 : decode cX11_isRing 83 = .ok (.i2l, 1) := by decide +kernel
theorem dX11_isRing_84 : decode cX11_isRing 84 = .ok (.aload_n 0, 1) := by decide +kernel
theorem dX11_isRing_85 : decode cX11_isRing 85 = .ok (.getfield 38, 3) := by decide +kernel
theorem dX11_isRing_88 : decode cX11_isRing 88 = .ok (.iload 4, 2) := by decide +kernel
theorem dX11_isRing_90 : decode cX11_isRing 90 = .ok (.iaload, 1) := by decide +kernel
theorem dX11_isRing_91 : decode cX11_isRing 91 = .ok (.aload_n 0, 1) := by decide +kernel
theorem dX11_isRing_92 : decode cX11_isRing 92 = .ok (.getfield 38, 3) := by decide +kernel
theorem dX11_isRing_95 : decode cX11_isRing 95 = .ok (.iload_n 3, 1) := by decide +kernel
theorem dX11_isRing_96 : decode cX11_isRing 96 = .ok (.iaload, 1) := by decide +kernel
theorem dX11_isRing_97 : decode cX11_isRing 97 = .ok (.isub, 1) := by decide +kernel
theorem dX11_isRing_98 : decode cX11_isRing 98 = .ok (.i2l, 1) := by decide +kernel
theorem dX11_isRing_99 : decode cX11_isRing 99 = .ok (.lmul, 1) := by decide +kernel
theorem dX11_isRing_100 : decode cX11_isRing 100 = .ok (.aload_n 0, 1) := by decide +kernel
theorem dX11_isRing_101 : decode cX11_isRing 101 = .ok (.getfield 41, 3) := by decide +kernel
theorem dX11_isRing_104 : decode cX11_isRing 104 = .ok (.iload_n 2, 1) := by decide +kernel
theorem dX11_isRing_105 : decode cX11_isRing 105 = .ok (.iaload, 1) := by decide +kernel
theorem dX11_isRing_106 : decode cX11_isRing 106 = .ok (.aload_n 0, 1) := by decide +kernel
theorem dX11_isRing_107 : decode cX11_isRing 107 = .ok (.getfield 41, 3) := by decide +kernel
theorem dX11_isRing_110 : decode cX11_isRing 110 = .ok (.iload_n 3, 1) := by decide +kernel
theorem dX11_isRing_111 : decode cX11_isRing 111 = .ok (.iaload, 1) := by decide +kernel
theorem dX11_isRing_112 : decode cX11_isRing 112 = .ok (.isub, 1) := by decide +kernel
theorem dX11_isRing_113 : decode cX11_isRing 113 = .ok (.i2l, 1) := by decide +kernel
theorem dX11_isRing_114 : decode cX11_isRing 114 = .ok (.aload_n 0, 1) := by decide +kernel
theorem dX11_isRing_115 : decode cX11_isRing 115 = .ok (.getfield 41, 3) := by decide +kernel
theorem dX11_isRing_118 : decode cX11_isRing 118 = .ok (.iload 4, 2) := by decide +kernel
theorem dX11_isRing_120 : decode cX11_isRing 120 = .ok (.iaload, 1) := by decide +kernel
theorem dX11_isRing_121 : decode cX11_isRing 121 = .ok (.aload_n 0, 1) := by decide +kernel
theorem dX11_isRing_122 : decode cX11_isRing 122 = .ok (.getfield 41, 3) := by decide +kernel
theorem dX11_isRing_125 : decode cX11_isRing 125 = .ok (.iload_n 3, 1) := by decide +kernel
theorem dX11_isRing_126 : decode cX11_isRing 126 = .ok (.iaload, 1) := by decide +kernel
theorem dX11_isRing_127 : decode cX11_isRing 127 = .ok (.isub, 1) := by decide +kernel
theorem dX11_isRing_128 : decode cX11_isRing 128 = .ok (.i2l, 1) := by decide +kernel
theorem dX11_isRing_129 : decode cX11_isRing 129 = .ok (.lmul, 1) := by decide +kernel
theorem dX11_isRing_130 : decode cX11_isRing 130 = .ok (.ladd, 1) := by decide +kernel
theorem dX11_isRing_131 : decode cX11_isRing 131 = .ok (.lstore 5, 2) := by decide +kernel
theorem dX11_isRing_133 : decode cX11_isRing 133 = .ok (.aload_n 0, 1) := by decide +kernel
theorem dX11_isRing_134 : decode cX11_isRing 134 = .ok (.iload_n 2, 1) := by decide +kernel
theorem dX11_isRing_135 : decode cX11_isRing 135 = .ok (.iload_n 3, 1) := by decide +kernel
theorem dX11_isRing_136 : decode cX11_isRing 136 = .ok (.iload 4, 2) := by decide +kernel
theorem dX11_isRing_138 : decode cX11_isRing 138 = .ok (.invokevirtual 152, 3) := by decide +kernel
theorem dX11_isRing_141 : decode cX11_isRing 141 = .ok (.ifCond .ne 12, 3) := by decide +kernel
theorem dX11_isRing_144 : decode cX11_isRing 144 = .ok (.lload 5, 2) := by decide +kernel
theorem dX11_isRing_146 : decode cX11_isRing 146 = .ok (.lconst 0, 1) := by decide +kernel
theorem dX11_isRing_147 : decode cX11_isRing 147 = .ok (.lcmp, 1) := by decide +kernel
theorem dX11_isRing_148 : decode cX11_isRing 148 = .ok (.ifCond .le 5, 3) := by decide +kernel
theorem dX11_isRing_151 : decode cX11_isRing 151 = .ok (.iconst 0, 1) := by decide +kernel
theorem dX11_isRing_152 : decode cX11_isRing 152 = .ok (.ireturn, 1) := by decide +kernel
theorem dX11_isRing_153 : decode cX11_isRing 153 = .ok (.iload_n 2, 1) := by decide +kernel
theorem dX11_isRing_154 : decode cX11_isRing 154 = .ok (.iconst 2, 1) := by decide +kernel
theorem dX11_isRing_155 : decode cX11_isRing 155 = .ok (.iadd, 1) := by decide +kernel
theorem dX11_isRing_156 : decode cX11_isRing 156 = .ok (.istore 7, 2) := by decide +kernel
theorem dX11_isRing_158 : decode cX11_isRing 158 = .ok (.iload 7, 2) := by decide +kernel
theorem dX11_isRing_160 : decode cX11_isRing 160 = .ok (.iload_n 1, 1) := by decide +kernel
theorem dX11_isRing_161 : decode cX11_isRing 161 = .ok (.if_icmp .ge 38, 3) := by decide +kernel
theorem dX11_isRing_164 : decode cX11_isRing 164 = .ok (.iload 7, 2) := by decide +kernel
theorem dX11_isRing_166 : decode cX11_isRing 166 = .ok (.iconst 1, 1) := by decide +kernel
theorem dX11_isRing_167 : decode cX11_isRing 167 = .ok (.iadd, 1) := by decide +kernel
theorem dX11_isRing_168 : decode cX11_isRing 168 = .ok (.iload_n 1, 1) := by decide +kernel
theorem dX11_isRing_169 : decode cX11_isRing 169 = .ok (.irem, 1) := by decide +kernel
theorem dX11_isRing_170 : decode cX11_isRing 170 = .ok (.iload_n 2, 1) := by decide +kernel
theorem dX11_isRing_171 : decode cX11_isRing 171 = .ok (.if_icmp .eq 22, 3) := by decide +kernel
theorem dX11_isRing_174 : decode cX11_isRing 174 = .ok (.aload_n 0, 1) := by decide +kernel
theorem dX11_isRing_175 : decode cX11_isRing 175 = .ok (.iload_n 2, 1) := by decide +kernel
theorem dX11_isRing_176 : decode cX11_isRing 176 = .ok (.iload_n 3, 1) := by decide +kernel
theorem dX11_isRing_177 : decode cX11_isRing 177 = .ok (.iload 7, 2) := by decide +kernel
theorem dX11_isRing_179 : decode cX11_isRing 179 = .ok (.iload 7, 2) := by decide +kernel
theorem dX11_isRing_181 : decode cX11_isRing 181 = .ok (.iconst 1, 1) := by decide +kernel
theorem dX11_isRing_182 : decode cX11_isRing 182 = .ok (.iadd, 1) := by decide +kernel
theorem dX11_isRing_183 : decode cX11_isRing 183 = .ok (.iload_n 1, 1) := by decide +kernel
theorem dX11_isRing_184 : decode cX11_isRing 184 = .ok (.irem, 1) := by decide +kernel
theorem dX11_isRing_185 : decode cX11_isRing 185 = .ok (.invokevirtual 159, 3) := by decide +kernel
theorem dX11_isRing_188 : decode cX11_isRing 188 = .ok (.ifCond .eq 5, 3) := by decide +kernel
theorem dX11_isRing_191 : decode cX11_isRing 191 = .ok (.iconst 0, 1) := by decide +kernel
theorem dX11_isRing_192 : decode cX11_isRing 192 = .ok (.ireturn, 1) := by decide +kernel
theorem dX11_isRing_193 : decode cX11_isRing 193 = .ok (.iinc 7 1, 3) := by decide +kernel
theorem dX11_isRing_196 : decode cX11_isRing 196 = .ok (.goto (-38), 3) := by decide +kernel
theorem dX11_isRing_199 : decode cX11_isRing 199 = .ok (.iinc 2 1, 3) := by decide +kernel
theorem dX11_isRing_202 : decode cX11_isRing 202 = .ok (.goto (-195), 3) := by decide +kernel
theorem dX11_isRing_205 : decode cX11_isRing 205 = .ok (.iconst 1, 1) := by decide +kernel
theorem dX11_isRing_206 : decode cX11_isRing 206 = .ok (.ireturn, 1) := by decide +kernel
def tb_123 (pc : Nat) : Option mEnt := bif Nat.ble pc 99 then (bif Nat.ble pc 51 then (bif Nat.ble pc 24 then (bif Nat.ble pc 9 then (bif Nat.ble pc 5 then (bif Nat.ble pc 1 then (bif Nat.ble pc 0 then (bif Nat.beq pc 0 then some (.inl (o_al 0 1)) else none) else (bif Nat.beq pc 1 then some (.inl (o_gI 11 12)) else none)) else (bif Nat.ble pc 4 then (bif Nat.beq pc 4 then some (.inl (o_is 1 1)) else none) else (bif Nat.beq pc 5 then some (.inl (oS 1 (s_push (.int 0)))) else none))) else (bif Nat.ble pc 7 then (bif Nat.ble pc 6 then (bif Nat.beq pc 6 then some (.inl (o_is 2 1)) else none) else (bif Nat.beq pc 7 then some (.inl (o_il 2 1)) else none)) else (bif Nat.ble pc 8 then (bif Nat.beq pc 8 then some (.inl (o_il 1 1)) else none) else (bif Nat.beq pc 9 then some (.inl (o_cge 205)) else none)))) else (bif Nat.ble pc 15 then (bif Nat.ble pc 13 then (bif Nat.ble pc 12 then (bif Nat.beq pc 12 then some (.inl (oS 1 (s_push (.int 0)))) else none) else (bif Nat.beq pc 13 then some (.inl (o_is 3 1)) else none)) else (bif Nat.ble pc 14 then (bif Nat.beq pc 14 then some (.inl (o_il 3 1)) else none) else (bif Nat.beq pc 15 then some (.inl (o_il 2 1)) else none))) else (bif Nat.ble pc 19 then (bif Nat.ble pc 16 then (bif Nat.beq pc 16 then some (.inl (o_cge 57)) else none) else (bif Nat.beq pc 19 then some (.inl (o_al 0 1)) else none)) else (bif Nat.ble pc 20 then (bif Nat.beq pc 20 then some (.inl (o_gP 11 10)) else none) else (bif Nat.ble pc 23 then (bif Nat.beq pc 23 then some (.inl (o_il 2 1)) else none) else (bif Nat.beq pc 24 then some (.inl (o_iald)) else none)))))) else (bif Nat.ble pc 38 then (bif Nat.ble pc 30 then (bif Nat.ble pc 26 then (bif Nat.ble pc 25 then (bif Nat.beq pc 25 then some (.inl (o_al 0 1)) else none) else (bif Nat.beq pc 26 then some (.inl (o_gP 11 10)) else none)) else (bif Nat.ble pc 29 then (bif Nat.beq pc 29 then some (.inl (o_il 3 1)) else none) else (bif Nat.beq pc 30 then some (.inl (o_iald)) else none))) else (bif Nat.ble pc 34 then (bif Nat.ble pc 31 then (bif Nat.beq pc 31 then some (.inl (o_cne 51)) else none) else (bif Nat.beq pc 34 then some (.inl (o_al 0 1)) else none)) else (bif Nat.ble pc 35 then (bif Nat.beq pc 35 then some (.inl (o_gP 11 11)) else none) else (bif Nat.beq pc 38 then some (.inl (o_il 2 1)) else none)))) else (bif Nat.ble pc 44 then (bif Nat.ble pc 40 then (bif Nat.ble pc 39 then (bif Nat.beq pc 39 then some (.inl (o_iald)) else none) else (bif Nat.beq pc 40 then some (.inl (o_al 0 1)) else none)) else (bif Nat.ble pc 41 then (bif Nat.beq pc 41 then some (.inl (o_gP 11 11)) else none) else (bif Nat.beq pc 44 then some (.inl (o_il 3 1)) else none))) else (bif Nat.ble pc 46 then (bif Nat.ble pc 45 then (bif Nat.beq pc 45 then some (.inl (o_iald)) else none) else (bif Nat.beq pc 46 then some (.inl (o_cne 51)) else none)) else (bif Nat.ble pc 49 then (bif Nat.beq pc 49 then some (.inl (oS 1 (s_push (.int 0)))) else none) else (bif Nat.ble pc 50 then (bif Nat.beq pc 50 then some (.inr (0, 0, 0, 4)) else none) else (bif Nat.beq pc 51 then some (.inl (o_inc 3 1)) else none))))))) else (bif Nat.ble pc 75 then (bif Nat.ble pc 63 then (bif Nat.ble pc 59 then (bif Nat.ble pc 57 then (bif Nat.ble pc 54 then (bif Nat.beq pc 54 then some (.inl (o_goto 14)) else none) else (bif Nat.beq pc 57 then some (.inl (o_il 2 1)) else none)) else (bif Nat.ble pc 58 then (bif Nat.beq pc 58 then some (.inl (oS 1 (s_push (.int 1)))) else none) else (bif Nat.beq pc 59 then some (.inl (oS 1 (s_ii (fun a b => a + b)))) else none))) else (bif Nat.ble pc 61 then (bif Nat.ble pc 60 then (bif Nat.beq pc 60 then some (.inl (o_il 1 1)) else none) else (bif Nat.beq pc 61 then some (.inl (oS 1 (s_iiz (fun a b => a - a / b * b)))) else none)) else (bif Nat.ble pc 62 then (bif Nat.beq pc 62 then some (.inl (o_is 3 1)) else none) else (bif Nat.beq pc 63 then some (.inl (o_il 2 1)) else none)))) else (bif Nat.ble pc 67 then (bif Nat.ble pc 65 then (bif Nat.ble pc 64 then (bif Nat.beq pc 64 then some (.inl (oS 1 (s_push (.int 2)))) else none) else (bif Nat.beq pc 65 then some (.inl (oS 1 (s_ii (fun a b => a + b)))) else none)) else (bif Nat.ble pc 66 then (bif Nat.beq pc 66 then some (.inl (o_il 1 1)) else none) else (bif Nat.beq pc 67 then some (.inl (oS 1 (s_iiz (fun a b => a - a / b * b)))) else none))) else (bif Nat.ble pc 70 then (bif Nat.ble pc 68 then (bif Nat.beq pc 68 then some (.inl (o_is 4 2)) else none) else (bif Nat.beq pc 70 then some (.inl (o_al 0 1)) else none)) else (bif Nat.ble pc 71 then (bif Nat.beq pc 71 then some (.inl (o_gP 11 10)) else none) else (bif Nat.ble pc 74 then (bif Nat.beq pc 74 then some (.inl (o_il 2 1)) else none) else (bif Nat.beq pc 75 then some (.inl (o_iald)) else none)))))) else (bif Nat.ble pc 85 then (bif Nat.ble pc 81 then (bif Nat.ble pc 77 then (bif Nat.ble pc 76 then (bif Nat.beq pc 76 then some (.inl (o_al 0 1)) else none) else (bif Nat.beq pc 77 then some (.inl (o_gP 11 10)) else none)) else (bif Nat.ble pc 80 then (bif Nat.beq pc 80 then some (.inl (o_il 3 1)) else none) else (bif Nat.beq pc 81 then some (.inl (o_iald)) else none))) else (bif Nat.ble pc 83 then (bif Nat.ble pc 82 then (bif Nat.beq pc 82 then some (.inl (oS 1 (s_ii (fun a b => a - b)))) else none) else (bif Nat.beq pc 83 then some (.inl (oS 1 s_i2l)) else none)) else (bif Nat.ble pc 84 then (bif Nat.beq pc 84 then some (.inl (o_al 0 1)) else none) else (bif Nat.beq pc 85 then some (.inl (o_gP 11 10)) else none)))) else (bif Nat.ble pc 92 then (bif Nat.ble pc 90 then (bif Nat.ble pc 88 then (bif Nat.beq pc 88 then some (.inl (o_il 4 2)) else none) else (bif Nat.beq pc 90 then some (.inl (o_iald)) else none)) else (bif Nat.ble pc 91 then (bif Nat.beq pc 91 then some (.inl (o_al 0 1)) else none) else (bif Nat.beq pc 92 then some (.inl (o_gP 11 10)) else none))) else (bif Nat.ble pc 96 then (bif Nat.ble pc 95 then (bif Nat.beq pc 95 then some (.inl (o_il 3 1)) else none) else (bif Nat.beq pc 96 then some (.inl (o_iald)) else none)) else (bif Nat.ble pc 97 then (bif Nat.beq pc 97 then some (.inl (oS 1 (s_ii (fun a b => a - b)))) else none) else (bif Nat.ble pc 98 then (bif Nat.beq pc 98 then some (.inl (oS 1 s_i2l)) else none) else (bif Nat.beq pc 99 then some (.inl (oS 1 (s_ll (fun a b => a * b)))) else none)))))))) else (bif Nat.ble pc 151 then (bif Nat.ble pc 125 then (bif Nat.ble pc 111 then (bif Nat.ble pc 105 then (bif Nat.ble pc 101 then (bif Nat.ble pc 100 then (bif Nat.beq pc 100 then some (.inl (o_al 0 1)) else none) else (bif Nat.beq pc 101 then some (.inl (o_gP 11 11)) else none)) else (bif Nat.ble pc 104 then (bif Nat.beq pc 104 then some (.inl (o_il 2 1)) else none) else (bif Nat.beq pc 105 then some (.inl (o_iald)) else none))) else (bif Nat.ble pc 107 then (bif Nat.ble pc 106 then (bif Nat.beq pc 106 then some (.inl (o_al 0 1)) else none) else (bif Nat.beq pc 107 then some (.inl (o_gP 11 11)) else none)) else (bif Nat.ble pc 110 then (bif Nat.beq pc 110 then some (.inl (o_il 3 1)) else none) else (bif Nat.beq pc 111 then some (.inl (o_iald)) else none)))) else (bif Nat.ble pc 115 then (bif Nat.ble pc 113 then (bif Nat.ble pc 112 then (bif Nat.beq pc 112 then some (.inl (oS 1 (s_ii (fun a b => a - b)))) else none) else (bif Nat.beq pc 113 then some (.inl (oS 1 s_i2l)) else none)) else (bif Nat.ble pc 114 then (bif Nat.beq pc 114 then some (.inl (o_al 0 1)) else none) else (bif Nat.beq pc 115 then some (.inl (o_gP 11 11)) else none))) else (bif Nat.ble pc 120 then (bif Nat.ble pc 118 then (bif Nat.beq pc 118 then some (.inl (o_il 4 2)) else none) else (bif Nat.beq pc 120 then some (.inl (o_iald)) else none)) else (bif Nat.ble pc 121 then (bif Nat.beq pc 121 then some (.inl (o_al 0 1)) else none) else (bif Nat.ble pc 122 then (bif Nat.beq pc 122 then some (.inl (o_gP 11 11)) else none) else (bif Nat.beq pc 125 then some (.inl (o_il 3 1)) else none)))))) else (bif Nat.ble pc 134 then (bif Nat.ble pc 129 then (bif Nat.ble pc 127 then (bif Nat.ble pc 126 then (bif Nat.beq pc 126 then some (.inl (o_iald)) else none) else (bif Nat.beq pc 127 then some (.inl (oS 1 (s_ii (fun a b => a - b)))) else none)) else (bif Nat.ble pc 128 then (bif Nat.beq pc 128 then some (.inl (oS 1 s_i2l)) else none) else (bif Nat.beq pc 129 then some (.inl (oS 1 (s_ll (fun a b => a * b)))) else none))) else (bif Nat.ble pc 131 then (bif Nat.ble pc 130 then (bif Nat.beq pc 130 then some (.inl (oS 1 (s_ll (fun a b => a + b)))) else none) else (bif Nat.beq pc 131 then some (.inl (o_ls 5 2)) else none)) else (bif Nat.ble pc 133 then (bif Nat.beq pc 133 then some (.inl (o_al 0 1)) else none) else (bif Nat.beq pc 134 then some (.inl (o_il 2 1)) else none)))) else (bif Nat.ble pc 141 then (bif Nat.ble pc 136 then (bif Nat.ble pc 135 then (bif Nat.beq pc 135 then some (.inl (o_il 3 1)) else none) else (bif Nat.beq pc 136 then some (.inl (o_il 4 2)) else none)) else (bif Nat.ble pc 138 then (bif Nat.beq pc 138 then some (.inr (3, 120, 4, 11)) else none) else (bif Nat.beq pc 141 then some (.inl (o_zne 153)) else none))) else (bif Nat.ble pc 146 then (bif Nat.ble pc 144 then (bif Nat.beq pc 144 then some (.inl (o_ll 5 2)) else none) else (bif Nat.beq pc 146 then some (.inl (oS 1 (s_push (.long 0)))) else none)) else (bif Nat.ble pc 147 then (bif Nat.beq pc 147 then some (.inl (oS 1 s_lcmp)) else none) else (bif Nat.ble pc 148 then (bif Nat.beq pc 148 then some (.inl (o_zle 153)) else none) else (bif Nat.beq pc 151 then some (.inl (oS 1 (s_push (.int 0)))) else none))))))) else (bif Nat.ble pc 175 then (bif Nat.ble pc 161 then (bif Nat.ble pc 155 then (bif Nat.ble pc 153 then (bif Nat.ble pc 152 then (bif Nat.beq pc 152 then some (.inr (0, 0, 0, 4)) else none) else (bif Nat.beq pc 153 then some (.inl (o_il 2 1)) else none)) else (bif Nat.ble pc 154 then (bif Nat.beq pc 154 then some (.inl (oS 1 (s_push (.int 2)))) else none) else (bif Nat.beq pc 155 then some (.inl (oS 1 (s_ii (fun a b => a + b)))) else none))) else (bif Nat.ble pc 158 then (bif Nat.ble pc 156 then (bif Nat.beq pc 156 then some (.inl (o_is 7 2)) else none) else (bif Nat.beq pc 158 then some (.inl (o_il 7 2)) else none)) else (bif Nat.ble pc 160 then (bif Nat.beq pc 160 then some (.inl (o_il 1 1)) else none) else (bif Nat.beq pc 161 then some (.inl (o_cge 199)) else none)))) else (bif Nat.ble pc 168 then (bif Nat.ble pc 166 then (bif Nat.ble pc 164 then (bif Nat.beq pc 164 then some (.inl (o_il 7 2)) else none) else (bif Nat.beq pc 166 then some (.inl (oS 1 (s_push (.int 1)))) else none)) else (bif Nat.ble pc 167 then (bif Nat.beq pc 167 then some (.inl (oS 1 (s_ii (fun a b => a + b)))) else none) else (bif Nat.beq pc 168 then some (.inl (o_il 1 1)) else none))) else (bif Nat.ble pc 170 then (bif Nat.ble pc 169 then (bif Nat.beq pc 169 then some (.inl (oS 1 (s_iiz (fun a b => a - a / b * b)))) else none) else (bif Nat.beq pc 170 then some (.inl (o_il 2 1)) else none)) else (bif Nat.ble pc 171 then (bif Nat.beq pc 171 then some (.inl (o_ceq 193)) else none) else (bif Nat.ble pc 174 then (bif Nat.beq pc 174 then some (.inl (o_al 0 1)) else none) else (bif Nat.beq pc 175 then some (.inl (o_il 2 1)) else none)))))) else (bif Nat.ble pc 185 then (bif Nat.ble pc 181 then (bif Nat.ble pc 177 then (bif Nat.ble pc 176 then (bif Nat.beq pc 176 then some (.inl (o_il 3 1)) else none) else (bif Nat.beq pc 177 then some (.inl (o_il 7 2)) else none)) else (bif Nat.ble pc 179 then (bif Nat.beq pc 179 then some (.inl (o_il 7 2)) else none) else (bif Nat.beq pc 181 then some (.inl (oS 1 (s_push (.int 1)))) else none))) else (bif Nat.ble pc 183 then (bif Nat.ble pc 182 then (bif Nat.beq pc 182 then some (.inl (oS 1 (s_ii (fun a b => a + b)))) else none) else (bif Nat.beq pc 183 then some (.inl (o_il 1 1)) else none)) else (bif Nat.ble pc 184 then (bif Nat.beq pc 184 then some (.inl (oS 1 (s_iiz (fun a b => a - a / b * b)))) else none) else (bif Nat.beq pc 185 then some (.inr (3, 122, 5, 11)) else none)))) else (bif Nat.ble pc 193 then (bif Nat.ble pc 191 then (bif Nat.ble pc 188 then (bif Nat.beq pc 188 then some (.inl (o_zeq 193)) else none) else (bif Nat.beq pc 191 then some (.inl (oS 1 (s_push (.int 0)))) else none)) else (bif Nat.ble pc 192 then (bif Nat.beq pc 192 then some (.inr (0, 0, 0, 4)) else none) else (bif Nat.beq pc 193 then some (.inl (o_inc 7 1)) else none))) else (bif Nat.ble pc 199 then (bif Nat.ble pc 196 then (bif Nat.beq pc 196 then some (.inl (o_goto 158)) else none) else (bif Nat.beq pc 199 then some (.inl (o_inc 2 1)) else none)) else (bif Nat.ble pc 202 then (bif Nat.beq pc 202 then some (.inl (o_goto 7)) else none) else (bif Nat.ble pc 205 then (bif Nat.beq pc 205 then some (.inl (oS 1 (s_push (.int 1)))) else none) else (bif Nat.beq pc 206 then some (.inr (0, 0, 0, 4)) else none))))))))
theorem k_123_0 : mOk M_123.1 M_123.2.1 M_123.2.2.1 M_123.2.2.2 0 (o_al 0 1) := ok_aload_n dX11_isRing_0 rfl
theorem k_123_1 : mOk M_123.1 M_123.2.1 M_123.2.2.1 M_123.2.2.2 1 (o_gI 11 12) := ok_gI dX11_isRing_1 f_RX11_145 (Or.inl rfl)
theorem k_123_4 : mOk M_123.1 M_123.2.1 M_123.2.2.1 M_123.2.2.2 4 (o_is 1 1) := ok_istore_n dX11_isRing_4 rfl
theorem k_123_5 : mOk M_123.1 M_123.2.1 M_123.2.2.1 M_123.2.2.2 5 (oS 1 (s_push (.int 0))) := ok_iconst dX11_isRing_5 (by decide)
theorem k_123_6 : mOk M_123.1 M_123.2.1 M_123.2.2.1 M_123.2.2.2 6 (o_is 2 1) := ok_istore_n dX11_isRing_6 rfl
theorem k_123_7 : mOk M_123.1 M_123.2.1 M_123.2.2.1 M_123.2.2.2 7 (o_il 2 1) := ok_iload_n dX11_isRing_7 rfl
theorem k_123_8 : mOk M_123.1 M_123.2.1 M_123.2.2.1 M_123.2.2.2 8 (o_il 1 1) := ok_iload_n dX11_isRing_8 rfl
theorem k_123_9 : mOk M_123.1 M_123.2.1 M_123.2.2.1 M_123.2.2.2 9 (o_cge 205) := ok_cge dX11_isRing_9 (by decide)
theorem k_123_12 : mOk M_123.1 M_123.2.1 M_123.2.2.1 M_123.2.2.2 12 (oS 1 (s_push (.int 0))) := ok_iconst dX11_isRing_12 (by decide)
theorem k_123_13 : mOk M_123.1 M_123.2.1 M_123.2.2.1 M_123.2.2.2 13 (o_is 3 1) := ok_istore_n dX11_isRing_13 rfl
theorem k_123_14 : mOk M_123.1 M_123.2.1 M_123.2.2.1 M_123.2.2.2 14 (o_il 3 1) := ok_iload_n dX11_isRing_14 rfl
theorem k_123_15 : mOk M_123.1 M_123.2.1 M_123.2.2.1 M_123.2.2.2 15 (o_il 2 1) := ok_iload_n dX11_isRing_15 rfl
theorem k_123_16 : mOk M_123.1 M_123.2.1 M_123.2.2.1 M_123.2.2.2 16 (o_cge 57) := ok_cge dX11_isRing_16 (by decide)
theorem k_123_19 : mOk M_123.1 M_123.2.1 M_123.2.2.1 M_123.2.2.2 19 (o_al 0 1) := ok_aload_n dX11_isRing_19 rfl
theorem k_123_20 : mOk M_123.1 M_123.2.1 M_123.2.2.1 M_123.2.2.2 20 (o_gP 11 10) := ok_gP dX11_isRing_20 f_RX11_38 rfl
theorem k_123_23 : mOk M_123.1 M_123.2.1 M_123.2.2.1 M_123.2.2.2 23 (o_il 2 1) := ok_iload_n dX11_isRing_23 rfl
theorem k_123_24 : mOk M_123.1 M_123.2.1 M_123.2.2.1 M_123.2.2.2 24 (o_iald) := ok_iald dX11_isRing_24
theorem k_123_25 : mOk M_123.1 M_123.2.1 M_123.2.2.1 M_123.2.2.2 25 (o_al 0 1) := ok_aload_n dX11_isRing_25 rfl
theorem k_123_26 : mOk M_123.1 M_123.2.1 M_123.2.2.1 M_123.2.2.2 26 (o_gP 11 10) := ok_gP dX11_isRing_26 f_RX11_38 rfl
theorem k_123_29 : mOk M_123.1 M_123.2.1 M_123.2.2.1 M_123.2.2.2 29 (o_il 3 1) := ok_iload_n dX11_isRing_29 rfl
theorem k_123_30 : mOk M_123.1 M_123.2.1 M_123.2.2.1 M_123.2.2.2 30 (o_iald) := ok_iald dX11_isRing_30
theorem k_123_31 : mOk M_123.1 M_123.2.1 M_123.2.2.1 M_123.2.2.2 31 (o_cne 51) := ok_cne dX11_isRing_31 (by decide)
theorem k_123_34 : mOk M_123.1 M_123.2.1 M_123.2.2.1 M_123.2.2.2 34 (o_al 0 1) := ok_aload_n dX11_isRing_34 rfl
theorem k_123_35 : mOk M_123.1 M_123.2.1 M_123.2.2.1 M_123.2.2.2 35 (o_gP 11 11) := ok_gP dX11_isRing_35 f_RX11_41 rfl
theorem k_123_38 : mOk M_123.1 M_123.2.1 M_123.2.2.1 M_123.2.2.2 38 (o_il 2 1) := ok_iload_n dX11_isRing_38 rfl
theorem k_123_39 : mOk M_123.1 M_123.2.1 M_123.2.2.1 M_123.2.2.2 39 (o_iald) := ok_iald dX11_isRing_39
theorem k_123_40 : mOk M_123.1 M_123.2.1 M_123.2.2.1 M_123.2.2.2 40 (o_al 0 1) := ok_aload_n dX11_isRing_40 rfl
theorem k_123_41 : mOk M_123.1 M_123.2.1 M_123.2.2.1 M_123.2.2.2 41 (o_gP 11 11) := ok_gP dX11_isRing_41 f_RX11_41 rfl
theorem k_123_44 : mOk M_123.1 M_123.2.1 M_123.2.2.1 M_123.2.2.2 44 (o_il 3 1) := ok_iload_n dX11_isRing_44 rfl
theorem k_123_45 : mOk M_123.1 M_123.2.1 M_123.2.2.1 M_123.2.2.2 45 (o_iald) := ok_iald dX11_isRing_45
theorem k_123_46 : mOk M_123.1 M_123.2.1 M_123.2.2.1 M_123.2.2.2 46 (o_cne 51) := ok_cne dX11_isRing_46 (by decide)
theorem k_123_49 : mOk M_123.1 M_123.2.1 M_123.2.2.1 M_123.2.2.2 49 (oS 1 (s_push (.int 0))) := ok_iconst dX11_isRing_49 (by decide)
theorem k_123_51 : mOk M_123.1 M_123.2.1 M_123.2.2.1 M_123.2.2.2 51 (o_inc 3 1) := ok_iinc dX11_isRing_51 (by decide)
theorem k_123_54 : mOk M_123.1 M_123.2.1 M_123.2.2.1 M_123.2.2.2 54 (o_goto 14) := ok_goto dX11_isRing_54 (by decide)
theorem k_123_57 : mOk M_123.1 M_123.2.1 M_123.2.2.1 M_123.2.2.2 57 (o_il 2 1) := ok_iload_n dX11_isRing_57 rfl
theorem k_123_58 : mOk M_123.1 M_123.2.1 M_123.2.2.1 M_123.2.2.2 58 (oS 1 (s_push (.int 1))) := ok_iconst dX11_isRing_58 (by decide)
theorem k_123_59 : mOk M_123.1 M_123.2.1 M_123.2.2.1 M_123.2.2.2 59 (oS 1 (s_ii (fun a b => a + b))) := ok_iadd dX11_isRing_59
theorem k_123_60 : mOk M_123.1 M_123.2.1 M_123.2.2.1 M_123.2.2.2 60 (o_il 1 1) := ok_iload_n dX11_isRing_60 rfl
theorem k_123_61 : mOk M_123.1 M_123.2.1 M_123.2.2.1 M_123.2.2.2 61 (oS 1 (s_iiz (fun a b => a - a / b * b))) := ok_irem dX11_isRing_61
theorem k_123_62 : mOk M_123.1 M_123.2.1 M_123.2.2.1 M_123.2.2.2 62 (o_is 3 1) := ok_istore_n dX11_isRing_62 rfl
theorem k_123_63 : mOk M_123.1 M_123.2.1 M_123.2.2.1 M_123.2.2.2 63 (o_il 2 1) := ok_iload_n dX11_isRing_63 rfl
theorem k_123_64 : mOk M_123.1 M_123.2.1 M_123.2.2.1 M_123.2.2.2 64 (oS 1 (s_push (.int 2))) := ok_iconst dX11_isRing_64 (by decide)
theorem k_123_65 : mOk M_123.1 M_123.2.1 M_123.2.2.1 M_123.2.2.2 65 (oS 1 (s_ii (fun a b => a + b))) := ok_iadd dX11_isRing_65
theorem k_123_66 : mOk M_123.1 M_123.2.1 M_123.2.2.1 M_123.2.2.2 66 (o_il 1 1) := ok_iload_n dX11_isRing_66 rfl
theorem k_123_67 : mOk M_123.1 M_123.2.1 M_123.2.2.1 M_123.2.2.2 67 (oS 1 (s_iiz (fun a b => a - a / b * b))) := ok_irem dX11_isRing_67
theorem k_123_68 : mOk M_123.1 M_123.2.1 M_123.2.2.1 M_123.2.2.2 68 (o_is 4 2) := ok_istore dX11_isRing_68
theorem k_123_70 : mOk M_123.1 M_123.2.1 M_123.2.2.1 M_123.2.2.2 70 (o_al 0 1) := ok_aload_n dX11_isRing_70 rfl
theorem k_123_71 : mOk M_123.1 M_123.2.1 M_123.2.2.1 M_123.2.2.2 71 (o_gP 11 10) := ok_gP dX11_isRing_71 f_RX11_38 rfl
theorem k_123_74 : mOk M_123.1 M_123.2.1 M_123.2.2.1 M_123.2.2.2 74 (o_il 2 1) := ok_iload_n dX11_isRing_74 rfl
theorem k_123_75 : mOk M_123.1 M_123.2.1 M_123.2.2.1 M_123.2.2.2 75 (o_iald) := ok_iald dX11_isRing_75
theorem k_123_76 : mOk M_123.1 M_123.2.1 M_123.2.2.1 M_123.2.2.2 76 (o_al 0 1) := ok_aload_n dX11_isRing_76 rfl
theorem k_123_77 : mOk M_123.1 M_123.2.1 M_123.2.2.1 M_123.2.2.2 77 (o_gP 11 10) := ok_gP dX11_isRing_77 f_RX11_38 rfl
theorem k_123_80 : mOk M_123.1 M_123.2.1 M_123.2.2.1 M_123.2.2.2 80 (o_il 3 1) := ok_iload_n dX11_isRing_80 rfl
theorem k_123_81 : mOk M_123.1 M_123.2.1 M_123.2.2.1 M_123.2.2.2 81 (o_iald) := ok_iald dX11_isRing_81
theorem k_123_82 : mOk M_123.1 M_123.2.1 M_123.2.2.1 M_123.2.2.2 82 (oS 1 (s_ii (fun a b => a - b))) := ok_isub dX11_isRing_82
theorem k_123_83 : mOk M_123.1 M_123.2.1 M_123.2.2.1 M_123.2.2.2 83 (oS 1 s_i2l) := ok_i2l dX11_isRing_83
theorem k_123_84 : mOk M_123.1 M_123.2.1 M_123.2.2.1 M_123.2.2.2 84 (o_al 0 1) := ok_aload_n dX11_isRing_84 rfl
theorem k_123_85 : mOk M_123.1 M_123.2.1 M_123.2.2.1 M_123.2.2.2 85 (o_gP 11 10) := ok_gP dX11_isRing_85 f_RX11_38 rfl
theorem k_123_88 : mOk M_123.1 M_123.2.1 M_123.2.2.1 M_123.2.2.2 88 (o_il 4 2) := ok_iload dX11_isRing_88
theorem k_123_90 : mOk M_123.1 M_123.2.1 M_123.2.2.1 M_123.2.2.2 90 (o_iald) := ok_iald dX11_isRing_90
theorem k_123_91 : mOk M_123.1 M_123.2.1 M_123.2.2.1 M_123.2.2.2 91 (o_al 0 1) := ok_aload_n dX11_isRing_91 rfl
theorem k_123_92 : mOk M_123.1 M_123.2.1 M_123.2.2.1 M_123.2.2.2 92 (o_gP 11 10) := ok_gP dX11_isRing_92 f_RX11_38 rfl
theorem k_123_95 : mOk M_123.1 M_123.2.1 M_123.2.2.1 M_123.2.2.2 95 (o_il 3 1) := ok_iload_n dX11_isRing_95 rfl
theorem k_123_96 : mOk M_123.1 M_123.2.1 M_123.2.2.1 M_123.2.2.2 96 (o_iald) := ok_iald dX11_isRing_96
theorem k_123_97 : mOk M_123.1 M_123.2.1 M_123.2.2.1 M_123.2.2.2 97 (oS 1 (s_ii (fun a b => a - b))) := ok_isub dX11_isRing_97
theorem k_123_98 : mOk M_123.1 M_123.2.1 M_123.2.2.1 M_123.2.2.2 98 (oS 1 s_i2l) := ok_i2l dX11_isRing_98
theorem k_123_99 : mOk M_123.1 M_123.2.1 M_123.2.2.1 M_123.2.2.2 99 (oS 1 (s_ll (fun a b => a * b))) := ok_lmul dX11_isRing_99
theorem k_123_100 : mOk M_123.1 M_123.2.1 M_123.2.2.1 M_123.2.2.2 100 (o_al 0 1) := ok_aload_n dX11_isRing_100 rfl
theorem k_123_101 : mOk M_123.1 M_123.2.1 M_123.2.2.1 M_123.2.2.2 101 (o_gP 11 11) := ok_gP dX11_isRing_101 f_RX11_41 rfl
theorem k_123_104 : mOk M_123.1 M_123.2.1 M_123.2.2.1 M_123.2.2.2 104 (o_il 2 1) := ok_iload_n dX11_isRing_104 rfl
theorem k_123_105 : mOk M_123.1 M_123.2.1 M_123.2.2.1 M_123.2.2.2 105 (o_iald) := ok_iald dX11_isRing_105
theorem k_123_106 : mOk M_123.1 M_123.2.1 M_123.2.2.1 M_123.2.2.2 106 (o_al 0 1) := ok_aload_n dX11_isRing_106 rfl
theorem k_123_107 : mOk M_123.1 M_123.2.1 M_123.2.2.1 M_123.2.2.2 107 (o_gP 11 11) := ok_gP dX11_isRing_107 f_RX11_41 rfl
theorem k_123_110 : mOk M_123.1 M_123.2.1 M_123.2.2.1 M_123.2.2.2 110 (o_il 3 1) := ok_iload_n dX11_isRing_110 rfl
theorem k_123_111 : mOk M_123.1 M_123.2.1 M_123.2.2.1 M_123.2.2.2 111 (o_iald) := ok_iald dX11_isRing_111
theorem k_123_112 : mOk M_123.1 M_123.2.1 M_123.2.2.1 M_123.2.2.2 112 (oS 1 (s_ii (fun a b => a - b))) := ok_isub dX11_isRing_112
theorem k_123_113 : mOk M_123.1 M_123.2.1 M_123.2.2.1 M_123.2.2.2 113 (oS 1 s_i2l) := ok_i2l dX11_isRing_113
theorem k_123_114 : mOk M_123.1 M_123.2.1 M_123.2.2.1 M_123.2.2.2 114 (o_al 0 1) := ok_aload_n dX11_isRing_114 rfl
theorem k_123_115 : mOk M_123.1 M_123.2.1 M_123.2.2.1 M_123.2.2.2 115 (o_gP 11 11) := ok_gP dX11_isRing_115 f_RX11_41 rfl
theorem k_123_118 : mOk M_123.1 M_123.2.1 M_123.2.2.1 M_123.2.2.2 118 (o_il 4 2) := ok_iload dX11_isRing_118
theorem k_123_120 : mOk M_123.1 M_123.2.1 M_123.2.2.1 M_123.2.2.2 120 (o_iald) := ok_iald dX11_isRing_120
theorem k_123_121 : mOk M_123.1 M_123.2.1 M_123.2.2.1 M_123.2.2.2 121 (o_al 0 1) := ok_aload_n dX11_isRing_121 rfl
theorem k_123_122 : mOk M_123.1 M_123.2.1 M_123.2.2.1 M_123.2.2.2 122 (o_gP 11 11) := ok_gP dX11_isRing_122 f_RX11_41 rfl
theorem k_123_125 : mOk M_123.1 M_123.2.1 M_123.2.2.1 M_123.2.2.2 125 (o_il 3 1) := ok_iload_n dX11_isRing_125 rfl
theorem k_123_126 : mOk M_123.1 M_123.2.1 M_123.2.2.1 M_123.2.2.2 126 (o_iald) := ok_iald dX11_isRing_126
theorem k_123_127 : mOk M_123.1 M_123.2.1 M_123.2.2.1 M_123.2.2.2 127 (oS 1 (s_ii (fun a b => a - b))) := ok_isub dX11_isRing_127
theorem k_123_128 : mOk M_123.1 M_123.2.1 M_123.2.2.1 M_123.2.2.2 128 (oS 1 s_i2l) := ok_i2l dX11_isRing_128
theorem k_123_129 : mOk M_123.1 M_123.2.1 M_123.2.2.1 M_123.2.2.2 129 (oS 1 (s_ll (fun a b => a * b))) := ok_lmul dX11_isRing_129
theorem k_123_130 : mOk M_123.1 M_123.2.1 M_123.2.2.1 M_123.2.2.2 130 (oS 1 (s_ll (fun a b => a + b))) := ok_ladd dX11_isRing_130
theorem k_123_131 : mOk M_123.1 M_123.2.1 M_123.2.2.1 M_123.2.2.2 131 (o_ls 5 2) := ok_lstore dX11_isRing_131
theorem k_123_133 : mOk M_123.1 M_123.2.1 M_123.2.2.1 M_123.2.2.2 133 (o_al 0 1) := ok_aload_n dX11_isRing_133 rfl
theorem k_123_134 : mOk M_123.1 M_123.2.1 M_123.2.2.1 M_123.2.2.2 134 (o_il 2 1) := ok_iload_n dX11_isRing_134 rfl
theorem k_123_135 : mOk M_123.1 M_123.2.1 M_123.2.2.1 M_123.2.2.2 135 (o_il 3 1) := ok_iload_n dX11_isRing_135 rfl
theorem k_123_136 : mOk M_123.1 M_123.2.1 M_123.2.2.1 M_123.2.2.2 136 (o_il 4 2) := ok_iload dX11_isRing_136
theorem k_123_141 : mOk M_123.1 M_123.2.1 M_123.2.2.1 M_123.2.2.2 141 (o_zne 153) := ok_zne dX11_isRing_141 (by decide)
theorem k_123_144 : mOk M_123.1 M_123.2.1 M_123.2.2.1 M_123.2.2.2 144 (o_ll 5 2) := ok_lload dX11_isRing_144
theorem k_123_146 : mOk M_123.1 M_123.2.1 M_123.2.2.1 M_123.2.2.2 146 (oS 1 (s_push (.long 0))) := ok_lconst dX11_isRing_146 (by decide)
theorem k_123_147 : mOk M_123.1 M_123.2.1 M_123.2.2.1 M_123.2.2.2 147 (oS 1 s_lcmp) := ok_lcmp dX11_isRing_147
theorem k_123_148 : mOk M_123.1 M_123.2.1 M_123.2.2.1 M_123.2.2.2 148 (o_zle 153) := ok_zle dX11_isRing_148 (by decide)
theorem k_123_151 : mOk M_123.1 M_123.2.1 M_123.2.2.1 M_123.2.2.2 151 (oS 1 (s_push (.int 0))) := ok_iconst dX11_isRing_151 (by decide)
theorem k_123_153 : mOk M_123.1 M_123.2.1 M_123.2.2.1 M_123.2.2.2 153 (o_il 2 1) := ok_iload_n dX11_isRing_153 rfl
theorem k_123_154 : mOk M_123.1 M_123.2.1 M_123.2.2.1 M_123.2.2.2 154 (oS 1 (s_push (.int 2))) := ok_iconst dX11_isRing_154 (by decide)
theorem k_123_155 : mOk M_123.1 M_123.2.1 M_123.2.2.1 M_123.2.2.2 155 (oS 1 (s_ii (fun a b => a + b))) := ok_iadd dX11_isRing_155
theorem k_123_156 : mOk M_123.1 M_123.2.1 M_123.2.2.1 M_123.2.2.2 156 (o_is 7 2) := ok_istore dX11_isRing_156
theorem k_123_158 : mOk M_123.1 M_123.2.1 M_123.2.2.1 M_123.2.2.2 158 (o_il 7 2) := ok_iload dX11_isRing_158
theorem k_123_160 : mOk M_123.1 M_123.2.1 M_123.2.2.1 M_123.2.2.2 160 (o_il 1 1) := ok_iload_n dX11_isRing_160 rfl
theorem k_123_161 : mOk M_123.1 M_123.2.1 M_123.2.2.1 M_123.2.2.2 161 (o_cge 199) := ok_cge dX11_isRing_161 (by decide)
theorem k_123_164 : mOk M_123.1 M_123.2.1 M_123.2.2.1 M_123.2.2.2 164 (o_il 7 2) := ok_iload dX11_isRing_164
theorem k_123_166 : mOk M_123.1 M_123.2.1 M_123.2.2.1 M_123.2.2.2 166 (oS 1 (s_push (.int 1))) := ok_iconst dX11_isRing_166 (by decide)
theorem k_123_167 : mOk M_123.1 M_123.2.1 M_123.2.2.1 M_123.2.2.2 167 (oS 1 (s_ii (fun a b => a + b))) := ok_iadd dX11_isRing_167
theorem k_123_168 : mOk M_123.1 M_123.2.1 M_123.2.2.1 M_123.2.2.2 168 (o_il 1 1) := ok_iload_n dX11_isRing_168 rfl
theorem k_123_169 : mOk M_123.1 M_123.2.1 M_123.2.2.1 M_123.2.2.2 169 (oS 1 (s_iiz (fun a b => a - a / b * b))) := ok_irem dX11_isRing_169
theorem k_123_170 : mOk M_123.1 M_123.2.1 M_123.2.2.1 M_123.2.2.2 170 (o_il 2 1) := ok_iload_n dX11_isRing_170 rfl
theorem k_123_171 : mOk M_123.1 M_123.2.1 M_123.2.2.1 M_123.2.2.2 171 (o_ceq 193) := ok_ceq dX11_isRing_171 (by decide)
theorem k_123_174 : mOk M_123.1 M_123.2.1 M_123.2.2.1 M_123.2.2.2 174 (o_al 0 1) := ok_aload_n dX11_isRing_174 rfl
theorem k_123_175 : mOk M_123.1 M_123.2.1 M_123.2.2.1 M_123.2.2.2 175 (o_il 2 1) := ok_iload_n dX11_isRing_175 rfl
theorem k_123_176 : mOk M_123.1 M_123.2.1 M_123.2.2.1 M_123.2.2.2 176 (o_il 3 1) := ok_iload_n dX11_isRing_176 rfl
theorem k_123_177 : mOk M_123.1 M_123.2.1 M_123.2.2.1 M_123.2.2.2 177 (o_il 7 2) := ok_iload dX11_isRing_177
theorem k_123_179 : mOk M_123.1 M_123.2.1 M_123.2.2.1 M_123.2.2.2 179 (o_il 7 2) := ok_iload dX11_isRing_179
theorem k_123_181 : mOk M_123.1 M_123.2.1 M_123.2.2.1 M_123.2.2.2 181 (oS 1 (s_push (.int 1))) := ok_iconst dX11_isRing_181 (by decide)
theorem k_123_182 : mOk M_123.1 M_123.2.1 M_123.2.2.1 M_123.2.2.2 182 (oS 1 (s_ii (fun a b => a + b))) := ok_iadd dX11_isRing_182
theorem k_123_183 : mOk M_123.1 M_123.2.1 M_123.2.2.1 M_123.2.2.2 183 (o_il 1 1) := ok_iload_n dX11_isRing_183 rfl
theorem k_123_184 : mOk M_123.1 M_123.2.1 M_123.2.2.1 M_123.2.2.2 184 (oS 1 (s_iiz (fun a b => a - a / b * b))) := ok_irem dX11_isRing_184
theorem k_123_188 : mOk M_123.1 M_123.2.1 M_123.2.2.1 M_123.2.2.2 188 (o_zeq 193) := ok_zeq dX11_isRing_188 (by decide)
theorem k_123_191 : mOk M_123.1 M_123.2.1 M_123.2.2.1 M_123.2.2.2 191 (oS 1 (s_push (.int 0))) := ok_iconst dX11_isRing_191 (by decide)
theorem k_123_193 : mOk M_123.1 M_123.2.1 M_123.2.2.1 M_123.2.2.2 193 (o_inc 7 1) := ok_iinc dX11_isRing_193 (by decide)
theorem k_123_196 : mOk M_123.1 M_123.2.1 M_123.2.2.1 M_123.2.2.2 196 (o_goto 158) := ok_goto dX11_isRing_196 (by decide)
theorem k_123_199 : mOk M_123.1 M_123.2.1 M_123.2.2.1 M_123.2.2.2 199 (o_inc 2 1) := ok_iinc dX11_isRing_199 (by decide)
theorem k_123_202 : mOk M_123.1 M_123.2.1 M_123.2.2.1 M_123.2.2.2 202 (o_goto 7) := ok_goto dX11_isRing_202 (by decide)
theorem k_123_205 : mOk M_123.1 M_123.2.1 M_123.2.2.1 M_123.2.2.2 205 (oS 1 (s_push (.int 1))) := ok_iconst dX11_isRing_205 (by decide)
set_option maxRecDepth 20000 in
set_option maxHeartbeats 4000000 in
theorem tk_123 (l : Launch) (H9 : mThr l) (H10 : mSpl l) (pc : Nat) (q : mEnt) (h : tb_123 pc = some q) : EE l 123 pc q := nd h (fun h => nd h (fun h => nd h (fun h => nd h (fun h => nd h (fun h => nd h (fun h => nd h (fun h => lf (P := EE l 123) h k_123_0) (fun h => lf (P := EE l 123) h k_123_1)) (fun h => nd h (fun h => lf (P := EE l 123) h k_123_4) (fun h => lf (P := EE l 123) h k_123_5))) (fun h => nd h (fun h => nd h (fun h => lf (P := EE l 123) h k_123_6) (fun h => lf (P := EE l 123) h k_123_7)) (fun h => nd h (fun h => lf (P := EE l 123) h k_123_8) (fun h => lf (P := EE l 123) h k_123_9)))) (fun h => nd h (fun h => nd h (fun h => nd h (fun h => lf (P := EE l 123) h k_123_12) (fun h => lf (P := EE l 123) h k_123_13)) (fun h => nd h (fun h => lf (P := EE l 123) h k_123_14) (fun h => lf (P := EE l 123) h k_123_15))) (fun h => nd h (fun h => nd h (fun h => lf (P := EE l 123) h k_123_16) (fun h => lf (P := EE l 123) h k_123_19)) (fun h => nd h (fun h => lf (P := EE l 123) h k_123_20) (fun h => nd h (fun h => lf (P := EE l 123) h k_123_23) (fun h => lf (P := EE l 123) h k_123_24)))))) (fun h => nd h (fun h => nd h (fun h => nd h (fun h => nd h (fun h => lf (P := EE l 123) h k_123_25) (fun h => lf (P := EE l 123) h k_123_26)) (fun h => nd h (fun h => lf (P := EE l 123) h k_123_29) (fun h => lf (P := EE l 123) h k_123_30))) (fun h => nd h (fun h => nd h (fun h => lf (P := EE l 123) h k_123_31) (fun h => lf (P := EE l 123) h k_123_34)) (fun h => nd h (fun h => lf (P := EE l 123) h k_123_35) (fun h => lf (P := EE l 123) h k_123_38)))) (fun h => nd h (fun h => nd h (fun h => nd h (fun h => lf (P := EE l 123) h k_123_39) (fun h => lf (P := EE l 123) h k_123_40)) (fun h => nd h (fun h => lf (P := EE l 123) h k_123_41) (fun h => lf (P := EE l 123) h k_123_44))) (fun h => nd h (fun h => nd h (fun h => lf (P := EE l 123) h k_123_45) (fun h => lf (P := EE l 123) h k_123_46)) (fun h => nd h (fun h => lf (P := EE l 123) h k_123_49) (fun h => nd h (fun h => lf (P := EE l 123) h (EE_re (Or.inr (Or.inl ⟨rfl, dX11_isRing_50, rfl⟩)))) (fun h => lf (P := EE l 123) h k_123_51))))))) (fun h => nd h (fun h => nd h (fun h => nd h (fun h => nd h (fun h => nd h (fun h => lf (P := EE l 123) h k_123_54) (fun h => lf (P := EE l 123) h k_123_57)) (fun h => nd h (fun h => lf (P := EE l 123) h k_123_58) (fun h => lf (P := EE l 123) h k_123_59))) (fun h => nd h (fun h => nd h (fun h => lf (P := EE l 123) h k_123_60) (fun h => lf (P := EE l 123) h k_123_61)) (fun h => nd h (fun h => lf (P := EE l 123) h k_123_62) (fun h => lf (P := EE l 123) h k_123_63)))) (fun h => nd h (fun h => nd h (fun h => nd h (fun h => lf (P := EE l 123) h k_123_64) (fun h => lf (P := EE l 123) h k_123_65)) (fun h => nd h (fun h => lf (P := EE l 123) h k_123_66) (fun h => lf (P := EE l 123) h k_123_67))) (fun h => nd h (fun h => nd h (fun h => lf (P := EE l 123) h k_123_68) (fun h => lf (P := EE l 123) h k_123_70)) (fun h => nd h (fun h => lf (P := EE l 123) h k_123_71) (fun h => nd h (fun h => lf (P := EE l 123) h k_123_74) (fun h => lf (P := EE l 123) h k_123_75)))))) (fun h => nd h (fun h => nd h (fun h => nd h (fun h => nd h (fun h => lf (P := EE l 123) h k_123_76) (fun h => lf (P := EE l 123) h k_123_77)) (fun h => nd h (fun h => lf (P := EE l 123) h k_123_80) (fun h => lf (P := EE l 123) h k_123_81))) (fun h => nd h (fun h => nd h (fun h => lf (P := EE l 123) h k_123_82) (fun h => lf (P := EE l 123) h k_123_83)) (fun h => nd h (fun h => lf (P := EE l 123) h k_123_84) (fun h => lf (P := EE l 123) h k_123_85)))) (fun h => nd h (fun h => nd h (fun h => nd h (fun h => lf (P := EE l 123) h k_123_88) (fun h => lf (P := EE l 123) h k_123_90)) (fun h => nd h (fun h => lf (P := EE l 123) h k_123_91) (fun h => lf (P := EE l 123) h k_123_92))) (fun h => nd h (fun h => nd h (fun h => lf (P := EE l 123) h k_123_95) (fun h => lf (P := EE l 123) h k_123_96)) (fun h => nd h (fun h => lf (P := EE l 123) h k_123_97) (fun h => nd h (fun h => lf (P := EE l 123) h k_123_98) (fun h => lf (P := EE l 123) h k_123_99)))))))) (fun h => nd h (fun h => nd h (fun h => nd h (fun h => nd h (fun h => nd h (fun h => nd h (fun h => lf (P := EE l 123) h k_123_100) (fun h => lf (P := EE l 123) h k_123_101)) (fun h => nd h (fun h => lf (P := EE l 123) h k_123_104) (fun h => lf (P := EE l 123) h k_123_105))) (fun h => nd h (fun h => nd h (fun h => lf (P := EE l 123) h k_123_106) (fun h => lf (P := EE l 123) h k_123_107)) (fun h => nd h (fun h => lf (P := EE l 123) h k_123_110) (fun h => lf (P := EE l 123) h k_123_111)))) (fun h => nd h (fun h => nd h (fun h => nd h (fun h => lf (P := EE l 123) h k_123_112) (fun h => lf (P := EE l 123) h k_123_113)) (fun h => nd h (fun h => lf (P := EE l 123) h k_123_114) (fun h => lf (P := EE l 123) h k_123_115))) (fun h => nd h (fun h => nd h (fun h => lf (P := EE l 123) h k_123_118) (fun h => lf (P := EE l 123) h k_123_120)) (fun h => nd h (fun h => lf (P := EE l 123) h k_123_121) (fun h => nd h (fun h => lf (P := EE l 123) h k_123_122) (fun h => lf (P := EE l 123) h k_123_125)))))) (fun h => nd h (fun h => nd h (fun h => nd h (fun h => nd h (fun h => lf (P := EE l 123) h k_123_126) (fun h => lf (P := EE l 123) h k_123_127)) (fun h => nd h (fun h => lf (P := EE l 123) h k_123_128) (fun h => lf (P := EE l 123) h k_123_129))) (fun h => nd h (fun h => nd h (fun h => lf (P := EE l 123) h k_123_130) (fun h => lf (P := EE l 123) h k_123_131)) (fun h => nd h (fun h => lf (P := EE l 123) h k_123_133) (fun h => lf (P := EE l 123) h k_123_134)))) (fun h => nd h (fun h => nd h (fun h => nd h (fun h => lf (P := EE l 123) h k_123_135) (fun h => lf (P := EE l 123) h k_123_136)) (fun h => nd h (fun h => lf (P := EE l 123) h (EE_ca (by decide) (⟨m_1241, m_81, ⟨by decide, by decide⟩, by decide +kernel, ⟨by decide, by decide⟩, 152, 3, by decide +kernel, Or.inr (Or.inr (Or.inl ⟨rfl, rfl, dX11_isRing_138, m_1238, m_1240, _, rfl, by decide, m_31⟩))⟩) rfl)) (fun h => lf (P := EE l 123) h k_123_141))) (fun h => nd h (fun h => nd h (fun h => lf (P := EE l 123) h k_123_144) (fun h => lf (P := EE l 123) h k_123_146)) (fun h => nd h (fun h => lf (P := EE l 123) h k_123_147) (fun h => nd h (fun h => lf (P := EE l 123) h k_123_148) (fun h => lf (P := EE l 123) h k_123_151))))))) (fun h => nd h (fun h => nd h (fun h => nd h (fun h => nd h (fun h => nd h (fun h => lf (P := EE l 123) h (EE_re (Or.inr (Or.inl ⟨rfl, dX11_isRing_152, rfl⟩)))) (fun h => lf (P := EE l 123) h k_123_153)) (fun h => nd h (fun h => lf (P := EE l 123) h k_123_154) (fun h => lf (P := EE l 123) h k_123_155))) (fun h => nd h (fun h => nd h (fun h => lf (P := EE l 123) h k_123_156) (fun h => lf (P := EE l 123) h k_123_158)) (fun h => nd h (fun h => lf (P := EE l 123) h k_123_160) (fun h => lf (P := EE l 123) h k_123_161)))) (fun h => nd h (fun h => nd h (fun h => nd h (fun h => lf (P := EE l 123) h k_123_164) (fun h => lf (P := EE l 123) h k_123_166)) (fun h => nd h (fun h => lf (P := EE l 123) h k_123_167) (fun h => lf (P := EE l 123) h k_123_168))) (fun h => nd h (fun h => nd h (fun h => lf (P := EE l 123) h k_123_169) (fun h => lf (P := EE l 123) h k_123_170)) (fun h => nd h (fun h => lf (P := EE l 123) h k_123_171) (fun h => nd h (fun h => lf (P := EE l 123) h k_123_174) (fun h => lf (P := EE l 123) h k_123_175)))))) (fun h => nd h (fun h => nd h (fun h => nd h (fun h => nd h (fun h => lf (P := EE l 123) h k_123_176) (fun h => lf (P := EE l 123) h k_123_177)) (fun h => nd h (fun h => lf (P := EE l 123) h k_123_179) (fun h => lf (P := EE l 123) h k_123_181))) (fun h => nd h (fun h => nd h (fun h => lf (P := EE l 123) h k_123_182) (fun h => lf (P := EE l 123) h k_123_183)) (fun h => nd h (fun h => lf (P := EE l 123) h k_123_184) (fun h => lf (P := EE l 123) h (EE_ca (by decide) (⟨m_1248, m_81, ⟨by decide, by decide⟩, by decide +kernel, ⟨by decide, by decide⟩, 159, 4, by decide +kernel, Or.inr (Or.inr (Or.inl ⟨rfl, rfl, dX11_isRing_185, m_1245, m_1247, _, rfl, by decide, m_32⟩))⟩) rfl))))) (fun h => nd h (fun h => nd h (fun h => nd h (fun h => lf (P := EE l 123) h k_123_188) (fun h => lf (P := EE l 123) h k_123_191)) (fun h => nd h (fun h => lf (P := EE l 123) h (EE_re (Or.inr (Or.inl ⟨rfl, dX11_isRing_192, rfl⟩)))) (fun h => lf (P := EE l 123) h k_123_193))) (fun h => nd h (fun h => nd h (fun h => lf (P := EE l 123) h k_123_196) (fun h => lf (P := EE l 123) h k_123_199)) (fun h => nd h (fun h => lf (P := EE l 123) h k_123_202) (fun h => nd h (fun h => lf (P := EE l 123) h k_123_205) (fun h => lf (P := EE l 123) h (EE_re (Or.inr (Or.inl ⟨rfl, dX11_isRing_206, rfl⟩)))))))))))
theorem dX11_cornersGood_0 : decode cX11_cornersGood 0 = .ok (.iload_n 1, 1) := by decide +kernel
theorem dX11_cornersGood_1 : decode cX11_cornersGood 1 = .ok (.ifCond .ne 17, 3) := by decide +kernel
theorem dX11_cornersGood_4 : decode cX11_cornersGood 4 = .ok (.aload_n 0, 1) := by decide +kernel
theorem dX11_cornersGood_5 : decode cX11_cornersGood 5 = .ok (.getfield 145, 3) := by decide +kernel
theorem dX11_cornersGood_8 : decode cX11_cornersGood 8 = .ok (.iconst 1, 1) := by decide +kernel
theorem dX11_cornersGood_9 : decode cX11_cornersGood 9 = .ok (.if_icmp .ne 7, 3) := by decide +kernel
theorem dX11_cornersGood_12 : decode cX11_cornersGood 12 = .ok (.iconst 1, 1) := by decide +kernel
theorem dX11_cornersGood_13 : decode cX11_cornersGood 13 = .ok (.goto 4, 3) := by decide +kernel
theorem dX11_cornersGood_16 : decode cX11_cornersGood 16 = .ok (.iconst 0, 1) := by decide +kernel
theorem dX11_cornersGood_17 : decode cX11_cornersGood 17 = .ok (.ireturn, 1) := by decide +kernel
theorem dX11_cornersGood_18 : decode cX11_cornersGood 18 = .ok (.iload_n 1, 1) := by decide +kernel
theorem dX11_cornersGood_19 : decode cX11_cornersGood 19 = .ok (.iconst 2, 1) := by decide +kernel
theorem dX11_cornersGood_20 : decode cX11_cornersGood 20 = .ok (.if_icmp .ne 24, 3) := by decide +kernel
theorem dX11_cornersGood_23 : decode cX11_cornersGood 23 = .ok (.aload_n 0, 1) := by decide +kernel
theorem dX11_cornersGood_24 : decode cX11_cornersGood 24 = .ok (.getfield 145, 3) := by decide +kernel
theorem dX11_cornersGood_27 : decode cX11_cornersGood 27 = .ok (.iconst 3, 1) := by decide +kernel
theorem dX11_cornersGood_28 : decode cX11_cornersGood 28 = .ok (.if_icmp .lt 14, 3) := by decide +kernel
theorem dX11_cornersGood_31 : decode cX11_cornersGood 31 = .ok (.aload_n 0, 1) := by decide +kernel
theorem dX11_cornersGood_32 : decode cX11_cornersGood 32 = .ok (.invokevirtual 163, 3) := by decide +kernel
theorem dX11_cornersGood_35 : decode cX11_cornersGood 35 = .ok (.ifCond .eq 7, 3) := by decide +kernel
theorem dX11_cornersGood_38 : decode cX11_cornersGood 38 = .ok (.iconst 1, 1) := by decide +kernel
theorem dX11_cornersGood_39 : decode cX11_cornersGood 39 = .ok (.goto 4, 3) := by decide +kernel
theorem dX11_cornersGood_42 : decode cX11_cornersGood 42 = .ok (.iconst 0, 1) := by decide +kernel
theorem dX11_cornersGood_43 : decode cX11_cornersGood 43 = .ok (.ireturn, 1) := by decide +kernel
theorem dX11_cornersGood_44 : decode cX11_cornersGood 44 = .ok (.aload_n 0, 1) := by decide +kernel
theorem dX11_cornersGood_45 : decode cX11_cornersGood 45 = .ok (.getfield 145, 3) := by decide +kernel
theorem dX11_cornersGood_48 : decode cX11_cornersGood 48 = .ok (.iconst 2, 1) := by decide +kernel
theorem dX11_cornersGood_49 : decode cX11_cornersGood 49 = .ok (.if_icmp .ge 5, 3) := by decide +kernel
theorem dX11_cornersGood_52 : decode cX11_cornersGood 52 = .ok (.iconst 0, 1) := by decide +kernel
theorem dX11_cornersGood_53 : decode cX11_cornersGood 53 = .ok (.ireturn, 1) := by decide +kernel
theorem dX11_cornersGood_54 : decode cX11_cornersGood 54 = .ok (.iconst 1, 1) := by decide +kernel
theorem dX11_cornersGood_55 : decode cX11_cornersGood 55 = .ok (.istore_n 2, 1) := by decide +kernel
theorem dX11_cornersGood_56 : decode cX11_cornersGood 56 = .ok (.iload_n 2, 1) := by decide +kernel
theorem dX11_cornersGood_57 : decode cX11_cornersGood 57 = .ok (.aload_n 0, 1) := by decide +kernel
theorem dX11_cornersGood_58 : decode cX11_cornersGood 58 = .ok (.getfield 145, 3) := by decide +kernel
theorem dX11_cornersGood_61 : decode cX11_cornersGood 61 = .ok (.if_icmp .ge 45, 3) := by decide +kernel
theorem dX11_cornersGood_64 : decode cX11_cornersGood 64 = .ok (.aload_n 0, 1) := by decide +kernel
theorem dX11_cornersGood_65 : decode cX11_cornersGood 65 = .ok (.getfield 38, 3) := by decide +kernel
theorem dX11_cornersGood_68 : decode cX11_cornersGood 68 = .ok (.iload_n 2, 1) := by decide +kernel
theorem dX11_cornersGood_69 : decode cX11_cornersGood 69 = .ok (.iaload, 1) := by decide +kernel
theorem dX11_cornersGood_70 : decode cX11_cornersGood 70 = .ok (.aload_n 0, 1) := by decide +kernel
theorem dX11_cornersGood_71 : decode cX11_cornersGood 71 = .ok (.getfield 38, 3) := by decide +kernel
theorem dX11_cornersGood_74 : decode cX11_cornersGood 74 = .ok (.iload_n 2, 1) := by decide +kernel
theorem dX11_cornersGood_75 : decode cX11_cornersGood 75 = .ok (.iconst 1, 1) := by decide +kernel
theorem dX11_cornersGood_76 : decode cX11_cornersGood 76 = .ok (.isub, 1) := by decide +kernel
theorem dX11_cornersGood_77 : decode cX11_cornersGood 77 = .ok (.iaload, 1) := by decide +kernel
theorem dX11_cornersGood_78 : decode cX11_cornersGood 78 = .ok (.if_icmp .ne 22, 3) := by decide +kernel
theorem dX11_cornersGood_81 : decode cX11_cornersGood 81 = .ok (.aload_n 0, 1) := by decide +kernel
theorem dX11_cornersGood_82 : decode cX11_cornersGood 82 = .ok (.getfield 41, 3) := by decide +kernel
theorem dX11_cornersGood_85 : decode cX11_cornersGood 85 = .ok (.iload_n 2, 1) := by decide +kernel
theorem dX11_cornersGood_86 : decode cX11_cornersGood 86 = .ok (.iaload, 1) := by decide +kernel
theorem dX11_cornersGood_87 : decode cX11_cornersGood 87 = .ok (.aload_n 0, 1) := by decide +kernel
theorem dX11_cornersGood_88 : decode cX11_cornersGood 88 = .ok (.getfield 41, 3) := by decide +kernel
theorem dX11_cornersGood_91 : decode cX11_cornersGood 91 = .ok (.iload_n 2, 1) := by decide +kernel
theorem dX11_cornersGood_92 : decode cX11_cornersGood 92 = .ok (.iconst 1, 1) := by decide +kernel
theorem dX11_cornersGood_93 : decode cX11_cornersGood 93 = .ok (.isub, 1) := by decide +kernel
theorem dX11_cornersGood_94 : decode cX11_cornersGood 94 = .ok (.iaload, 1) := by decide +kernel
theorem dX11_cornersGood_95 : decode cX11_cornersGood 95 = .ok (.if_icmp .ne 5, 3) := by decide +kernel
theorem dX11_cornersGood_98 : decode cX11_cornersGood 98 = .ok (.iconst 0, 1) := by decide +kernel
theorem dX11_cornersGood_99 : decode cX11_cornersGood 99 = .ok (.ireturn, 1) := by decide +kernel
theorem dX11_cornersGood_100 : decode cX11_cornersGood 100 = .ok (.iinc 2 1, 3) := by decide +kernel
theorem dX11_cornersGood_103 : decode cX11_cornersGood 103 = .ok (.goto (-47), 3) := by decide +kernel
theorem dX11_cornersGood_106 : decode cX11_cornersGood 106 = .ok (.iconst 1, 1) := by decide +kernel
theorem dX11_cornersGood_107 : decode cX11_cornersGood 107 = .ok (.ireturn, 1) := by decide +kernel
def tb_124 (pc : Nat) : Option mEnt := bif Nat.ble pc 55 then (bif Nat.ble pc 27 then (bif Nat.ble pc 13 then (bif Nat.ble pc 5 then (bif Nat.ble pc 1 then (bif Nat.ble pc 0 then (bif Nat.beq pc 0 then some (.inl (o_il 1 1)) else none) else (bif Nat.beq pc 1 then some (.inl (o_zne 18)) else none)) else (bif Nat.ble pc 4 then (bif Nat.beq pc 4 then some (.inl (o_al 0 1)) else none) else (bif Nat.beq pc 5 then some (.inl (o_gI 11 12)) else none))) else (bif Nat.ble pc 9 then (bif Nat.ble pc 8 then (bif Nat.beq pc 8 then some (.inl (oS 1 (s_push (.int 1)))) else none) else (bif Nat.beq pc 9 then some (.inl (o_cne 16)) else none)) else (bif Nat.ble pc 12 then (bif Nat.beq pc 12 then some (.inl (oS 1 (s_push (.int 1)))) else none) else (bif Nat.beq pc 13 then some (.inl (o_goto 17)) else none)))) else (bif Nat.ble pc 19 then (bif Nat.ble pc 17 then (bif Nat.ble pc 16 then (bif Nat.beq pc 16 then some (.inl (oS 1 (s_push (.int 0)))) else none) else (bif Nat.beq pc 17 then some (.inr (0, 0, 0, 4)) else none)) else (bif Nat.ble pc 18 then (bif Nat.beq pc 18 then some (.inl (o_il 1 1)) else none) else (bif Nat.beq pc 19 then some (.inl (oS 1 (s_push (.int 2)))) else none))) else (bif Nat.ble pc 23 then (bif Nat.ble pc 20 then (bif Nat.beq pc 20 then some (.inl (o_cne 44)) else none) else (bif Nat.beq pc 23 then some (.inl (o_al 0 1)) else none)) else (bif Nat.ble pc 24 then (bif Nat.beq pc 24 then some (.inl (o_gI 11 12)) else none) else (bif Nat.beq pc 27 then some (.inl (oS 1 (s_push (.int 3)))) else none))))) else (bif Nat.ble pc 43 then (bif Nat.ble pc 35 then (bif Nat.ble pc 31 then (bif Nat.ble pc 28 then (bif Nat.beq pc 28 then some (.inl (o_clt 42)) else none) else (bif Nat.beq pc 31 then some (.inl (o_al 0 1)) else none)) else (bif Nat.ble pc 32 then (bif Nat.beq pc 32 then some (.inr (3, 123, 1, 11)) else none) else (bif Nat.beq pc 35 then some (.inl (o_zeq 42)) else none))) else (bif Nat.ble pc 39 then (bif Nat.ble pc 38 then (bif Nat.beq pc 38 then some (.inl (oS 1 (s_push (.int 1)))) else none) else (bif Nat.beq pc 39 then some (.inl (o_goto 43)) else none)) else (bif Nat.ble pc 42 then (bif Nat.beq pc 42 then some (.inl (oS 1 (s_push (.int 0)))) else none) else (bif Nat.beq pc 43 then some (.inr (0, 0, 0, 4)) else none)))) else (bif Nat.ble pc 49 then (bif Nat.ble pc 45 then (bif Nat.ble pc 44 then (bif Nat.beq pc 44 then some (.inl (o_al 0 1)) else none) else (bif Nat.beq pc 45 then some (.inl (o_gI 11 12)) else none)) else (bif Nat.ble pc 48 then (bif Nat.beq pc 48 then some (.inl (oS 1 (s_push (.int 2)))) else none) else (bif Nat.beq pc 49 then some (.inl (o_cge 54)) else none))) else (bif Nat.ble pc 53 then (bif Nat.ble pc 52 then (bif Nat.beq pc 52 then some (.inl (oS 1 (s_push (.int 0)))) else none) else (bif Nat.beq pc 53 then some (.inr (0, 0, 0, 4)) else none)) else (bif Nat.ble pc 54 then (bif Nat.beq pc 54 then some (.inl (oS 1 (s_push (.int 1)))) else none) else (bif Nat.beq pc 55 then some (.inl (o_is 2 1)) else none)))))) else (bif Nat.ble pc 81 then (bif Nat.ble pc 69 then (bif Nat.ble pc 61 then (bif Nat.ble pc 57 then (bif Nat.ble pc 56 then (bif Nat.beq pc 56 then some (.inl (o_il 2 1)) else none) else (bif Nat.beq pc 57 then some (.inl (o_al 0 1)) else none)) else (bif Nat.ble pc 58 then (bif Nat.beq pc 58 then some (.inl (o_gI 11 12)) else none) else (bif Nat.beq pc 61 then some (.inl (o_cge 106)) else none))) else (bif Nat.ble pc 65 then (bif Nat.ble pc 64 then (bif Nat.beq pc 64 then some (.inl (o_al 0 1)) else none) else (bif Nat.beq pc 65 then some (.inl (o_gP 11 10)) else none)) else (bif Nat.ble pc 68 then (bif Nat.beq pc 68 then some (.inl (o_il 2 1)) else none) else (bif Nat.beq pc 69 then some (.inl (o_iald)) else none)))) else (bif Nat.ble pc 75 then (bif Nat.ble pc 71 then (bif Nat.ble pc 70 then (bif Nat.beq pc 70 then some (.inl (o_al 0 1)) else none) else (bif Nat.beq pc 71 then some (.inl (o_gP 11 10)) else none)) else (bif Nat.ble pc 74 then (bif Nat.beq pc 74 then some (.inl (o_il 2 1)) else none) else (bif Nat.beq pc 75 then some (.inl (oS 1 (s_push (.int 1)))) else none))) else (bif Nat.ble pc 77 then (bif Nat.ble pc 76 then (bif Nat.beq pc 76 then some (.inl (oS 1 (s_ii (fun a b => a - b)))) else none) else (bif Nat.beq pc 77 then some (.inl (o_iald)) else none)) else (bif Nat.ble pc 78 then (bif Nat.beq pc 78 then some (.inl (o_cne 100)) else none) else (bif Nat.beq pc 81 then some (.inl (o_al 0 1)) else none))))) else (bif Nat.ble pc 93 then (bif Nat.ble pc 87 then (bif Nat.ble pc 85 then (bif Nat.ble pc 82 then (bif Nat.beq pc 82 then some (.inl (o_gP 11 11)) else none) else (bif Nat.beq pc 85 then some (.inl (o_il 2 1)) else none)) else (bif Nat.ble pc 86 then (bif Nat.beq pc 86 then some (.inl (o_iald)) else none) else (bif Nat.beq pc 87 then some (.inl (o_al 0 1)) else none))) else (bif Nat.ble pc 91 then (bif Nat.ble pc 88 then (bif Nat.beq pc 88 then some (.inl (o_gP 11 11)) else none) else (bif Nat.beq pc 91 then some (.inl (o_il 2 1)) else none)) else (bif Nat.ble pc 92 then (bif Nat.beq pc 92 then some (.inl (oS 1 (s_push (.int 1)))) else none) else (bif Nat.beq pc 93 then some (.inl (oS 1 (s_ii (fun a b => a - b)))) else none)))) else (bif Nat.ble pc 99 then (bif Nat.ble pc 95 then (bif Nat.ble pc 94 then (bif Nat.beq pc 94 then some (.inl (o_iald)) else none) else (bif Nat.beq pc 95 then some (.inl (o_cne 100)) else none)) else (bif Nat.ble pc 98 then (bif Nat.beq pc 98 then some (.inl (oS 1 (s_push (.int 0)))) else none) else (bif Nat.beq pc 99 then some (.inr (0, 0, 0, 4)) else none))) else (bif Nat.ble pc 103 then (bif Nat.ble pc 100 then (bif Nat.beq pc 100 then some (.inl (o_inc 2 1)) else none) else (bif Nat.beq pc 103 then some (.inl (o_goto 56)) else none)) else (bif Nat.ble pc 106 then (bif Nat.beq pc 106 then some (.inl (oS 1 (s_push (.int 1)))) else none) else (bif Nat.beq pc 107 then some (.inr (0, 0, 0, 4)) else none))))))
theorem k_124_0 : mOk M_124.1 M_124.2.1 M_124.2.2.1 M_124.2.2.2 0 (o_il 1 1) := ok_iload_n dX11_cornersGood_0 rfl
theorem k_124_1 : mOk M_124.1 M_124.2.1 M_124.2.2.1 M_124.2.2.2 1 (o_zne 18) := ok_zne dX11_cornersGood_1 (by decide)
theorem k_124_4 : mOk M_124.1 M_124.2.1 M_124.2.2.1 M_124.2.2.2 4 (o_al 0 1) := ok_aload_n dX11_cornersGood_4 rfl
theorem k_124_5 : mOk M_124.1 M_124.2.1 M_124.2.2.1 M_124.2.2.2 5 (o_gI 11 12) := ok_gI dX11_cornersGood_5 f_RX11_145 (Or.inl rfl)
theorem k_124_8 : mOk M_124.1 M_124.2.1 M_124.2.2.1 M_124.2.2.2 8 (oS 1 (s_push (.int 1))) := ok_iconst dX11_cornersGood_8 (by decide)
theorem k_124_9 : mOk M_124.1 M_124.2.1 M_124.2.2.1 M_124.2.2.2 9 (o_cne 16) := ok_cne dX11_cornersGood_9 (by decide)
theorem k_124_12 : mOk M_124.1 M_124.2.1 M_124.2.2.1 M_124.2.2.2 12 (oS 1 (s_push (.int 1))) := ok_iconst dX11_cornersGood_12 (by decide)
theorem k_124_13 : mOk M_124.1 M_124.2.1 M_124.2.2.1 M_124.2.2.2 13 (o_goto 17) := ok_goto dX11_cornersGood_13 (by decide)
theorem k_124_16 : mOk M_124.1 M_124.2.1 M_124.2.2.1 M_124.2.2.2 16 (oS 1 (s_push (.int 0))) := ok_iconst dX11_cornersGood_16 (by decide)
theorem k_124_18 : mOk M_124.1 M_124.2.1 M_124.2.2.1 M_124.2.2.2 18 (o_il 1 1) := ok_iload_n dX11_cornersGood_18 rfl
theorem k_124_19 : mOk M_124.1 M_124.2.1 M_124.2.2.1 M_124.2.2.2 19 (oS 1 (s_push (.int 2))) := ok_iconst dX11_cornersGood_19 (by decide)
theorem k_124_20 : mOk M_124.1 M_124.2.1 M_124.2.2.1 M_124.2.2.2 20 (o_cne 44) := ok_cne dX11_cornersGood_20 (by decide)
theorem k_124_23 : mOk M_124.1 M_124.2.1 M_124.2.2.1 M_124.2.2.2 23 (o_al 0 1) := ok_aload_n dX11_cornersGood_23 rfl
theorem k_124_24 : mOk M_124.1 M_124.2.1 M_124.2.2.1 M_124.2.2.2 24 (o_gI 11 12) := ok_gI dX11_cornersGood_24 f_RX11_145 (Or.inl rfl)
theorem k_124_27 : mOk M_124.1 M_124.2.1 M_124.2.2.1 M_124.2.2.2 27 (oS 1 (s_push (.int 3))) := ok_iconst dX11_cornersGood_27 (by decide)
theorem k_124_28 : mOk M_124.1 M_124.2.1 M_124.2.2.1 M_124.2.2.2 28 (o_clt 42) := ok_clt dX11_cornersGood_28 (by decide)
theorem k_124_31 : mOk M_124.1 M_124.2.1 M_124.2.2.1 M_124.2.2.2 31 (o_al 0 1) := ok_aload_n dX11_cornersGood_31 rfl
theorem k_124_35 : mOk M_124.1 M_124.2.1 M_124.2.2.1 M_124.2.2.2 35 (o_zeq 42) := ok_zeq dX11_cornersGood_35 (by decide)
theorem k_124_38 : mOk M_124.1 M_124.2.1 M_124.2.2.1 M_124.2.2.2 38 (oS 1 (s_push (.int 1))) := ok_iconst dX11_cornersGood_38 (by decide)
theorem k_124_39 : mOk M_124.1 M_124.2.1 M_124.2.2.1 M_124.2.2.2 39 (o_goto 43) := ok_goto dX11_cornersGood_39 (by decide)
theorem k_124_42 : mOk M_124.1 M_124.2.1 M_124.2.2.1 M_124.2.2.2 42 (oS 1 (s_push (.int 0))) := ok_iconst dX11_cornersGood_42 (by decide)
theorem k_124_44 : mOk M_124.1 M_124.2.1 M_124.2.2.1 M_124.2.2.2 44 (o_al 0 1) := ok_aload_n dX11_cornersGood_44 rfl
theorem k_124_45 : mOk M_124.1 M_124.2.1 M_124.2.2.1 M_124.2.2.2 45 (o_gI 11 12) := ok_gI dX11_cornersGood_45 f_RX11_145 (Or.inl rfl)
theorem k_124_48 : mOk M_124.1 M_124.2.1 M_124.2.2.1 M_124.2.2.2 48 (oS 1 (s_push (.int 2))) := ok_iconst dX11_cornersGood_48 (by decide)
theorem k_124_49 : mOk M_124.1 M_124.2.1 M_124.2.2.1 M_124.2.2.2 49 (o_cge 54) := ok_cge dX11_cornersGood_49 (by decide)
theorem k_124_52 : mOk M_124.1 M_124.2.1 M_124.2.2.1 M_124.2.2.2 52 (oS 1 (s_push (.int 0))) := ok_iconst dX11_cornersGood_52 (by decide)
theorem k_124_54 : mOk M_124.1 M_124.2.1 M_124.2.2.1 M_124.2.2.2 54 (oS 1 (s_push (.int 1))) := ok_iconst dX11_cornersGood_54 (by decide)
theorem k_124_55 : mOk M_124.1 M_124.2.1 M_124.2.2.1 M_124.2.2.2 55 (o_is 2 1) := ok_istore_n dX11_cornersGood_55 rfl
theorem k_124_56 : mOk M_124.1 M_124.2.1 M_124.2.2.1 M_124.2.2.2 56 (o_il 2 1) := ok_iload_n dX11_cornersGood_56 rfl
theorem k_124_57 : mOk M_124.1 M_124.2.1 M_124.2.2.1 M_124.2.2.2 57 (o_al 0 1) := ok_aload_n dX11_cornersGood_57 rfl
theorem k_124_58 : mOk M_124.1 M_124.2.1 M_124.2.2.1 M_124.2.2.2 58 (o_gI 11 12) := ok_gI dX11_cornersGood_58 f_RX11_145 (Or.inl rfl)
theorem k_124_61 : mOk M_124.1 M_124.2.1 M_124.2.2.1 M_124.2.2.2 61 (o_cge 106) := ok_cge dX11_cornersGood_61 (by decide)
theorem k_124_64 : mOk M_124.1 M_124.2.1 M_124.2.2.1 M_124.2.2.2 64 (o_al 0 1) := ok_aload_n dX11_cornersGood_64 rfl
theorem k_124_65 : mOk M_124.1 M_124.2.1 M_124.2.2.1 M_124.2.2.2 65 (o_gP 11 10) := ok_gP dX11_cornersGood_65 f_RX11_38 rfl
theorem k_124_68 : mOk M_124.1 M_124.2.1 M_124.2.2.1 M_124.2.2.2 68 (o_il 2 1) := ok_iload_n dX11_cornersGood_68 rfl
theorem k_124_69 : mOk M_124.1 M_124.2.1 M_124.2.2.1 M_124.2.2.2 69 (o_iald) := ok_iald dX11_cornersGood_69
theorem k_124_70 : mOk M_124.1 M_124.2.1 M_124.2.2.1 M_124.2.2.2 70 (o_al 0 1) := ok_aload_n dX11_cornersGood_70 rfl
theorem k_124_71 : mOk M_124.1 M_124.2.1 M_124.2.2.1 M_124.2.2.2 71 (o_gP 11 10) := ok_gP dX11_cornersGood_71 f_RX11_38 rfl
theorem k_124_74 : mOk M_124.1 M_124.2.1 M_124.2.2.1 M_124.2.2.2 74 (o_il 2 1) := ok_iload_n dX11_cornersGood_74 rfl
theorem k_124_75 : mOk M_124.1 M_124.2.1 M_124.2.2.1 M_124.2.2.2 75 (oS 1 (s_push (.int 1))) := ok_iconst dX11_cornersGood_75 (by decide)
theorem k_124_76 : mOk M_124.1 M_124.2.1 M_124.2.2.1 M_124.2.2.2 76 (oS 1 (s_ii (fun a b => a - b))) := ok_isub dX11_cornersGood_76
theorem k_124_77 : mOk M_124.1 M_124.2.1 M_124.2.2.1 M_124.2.2.2 77 (o_iald) := ok_iald dX11_cornersGood_77
theorem k_124_78 : mOk M_124.1 M_124.2.1 M_124.2.2.1 M_124.2.2.2 78 (o_cne 100) := ok_cne dX11_cornersGood_78 (by decide)
theorem k_124_81 : mOk M_124.1 M_124.2.1 M_124.2.2.1 M_124.2.2.2 81 (o_al 0 1) := ok_aload_n dX11_cornersGood_81 rfl
theorem k_124_82 : mOk M_124.1 M_124.2.1 M_124.2.2.1 M_124.2.2.2 82 (o_gP 11 11) := ok_gP dX11_cornersGood_82 f_RX11_41 rfl
theorem k_124_85 : mOk M_124.1 M_124.2.1 M_124.2.2.1 M_124.2.2.2 85 (o_il 2 1) := ok_iload_n dX11_cornersGood_85 rfl
theorem k_124_86 : mOk M_124.1 M_124.2.1 M_124.2.2.1 M_124.2.2.2 86 (o_iald) := ok_iald dX11_cornersGood_86
theorem k_124_87 : mOk M_124.1 M_124.2.1 M_124.2.2.1 M_124.2.2.2 87 (o_al 0 1) := ok_aload_n dX11_cornersGood_87 rfl
theorem k_124_88 : mOk M_124.1 M_124.2.1 M_124.2.2.1 M_124.2.2.2 88 (o_gP 11 11) := ok_gP dX11_cornersGood_88 f_RX11_41 rfl
theorem k_124_91 : mOk M_124.1 M_124.2.1 M_124.2.2.1 M_124.2.2.2 91 (o_il 2 1) := ok_iload_n dX11_cornersGood_91 rfl
theorem k_124_92 : mOk M_124.1 M_124.2.1 M_124.2.2.1 M_124.2.2.2 92 (oS 1 (s_push (.int 1))) := ok_iconst dX11_cornersGood_92 (by decide)
theorem k_124_93 : mOk M_124.1 M_124.2.1 M_124.2.2.1 M_124.2.2.2 93 (oS 1 (s_ii (fun a b => a - b))) := ok_isub dX11_cornersGood_93
theorem k_124_94 : mOk M_124.1 M_124.2.1 M_124.2.2.1 M_124.2.2.2 94 (o_iald) := ok_iald dX11_cornersGood_94
theorem k_124_95 : mOk M_124.1 M_124.2.1 M_124.2.2.1 M_124.2.2.2 95 (o_cne 100) := ok_cne dX11_cornersGood_95 (by decide)
theorem k_124_98 : mOk M_124.1 M_124.2.1 M_124.2.2.1 M_124.2.2.2 98 (oS 1 (s_push (.int 0))) := ok_iconst dX11_cornersGood_98 (by decide)
theorem k_124_100 : mOk M_124.1 M_124.2.1 M_124.2.2.1 M_124.2.2.2 100 (o_inc 2 1) := ok_iinc dX11_cornersGood_100 (by decide)
theorem k_124_103 : mOk M_124.1 M_124.2.1 M_124.2.2.1 M_124.2.2.2 103 (o_goto 56) := ok_goto dX11_cornersGood_103 (by decide)
theorem k_124_106 : mOk M_124.1 M_124.2.1 M_124.2.2.1 M_124.2.2.2 106 (oS 1 (s_push (.int 1))) := ok_iconst dX11_cornersGood_106 (by decide)
set_option maxRecDepth 20000 in
set_option maxHeartbeats 4000000 in
theorem tk_124 (l : Launch) (H9 : mThr l) (H10 : mSpl l) (pc : Nat) (q : mEnt) (h : tb_124 pc = some q) : EE l 124 pc q := nd h (fun h => nd h (fun h => nd h (fun h => nd h (fun h => nd h (fun h => nd h (fun h => lf (P := EE l 124) h k_124_0) (fun h => lf (P := EE l 124) h k_124_1)) (fun h => nd h (fun h => lf (P := EE l 124) h k_124_4) (fun h => lf (P := EE l 124) h k_124_5))) (fun h => nd h (fun h => nd h (fun h => lf (P := EE l 124) h k_124_8) (fun h => lf (P := EE l 124) h k_124_9)) (fun h => nd h (fun h => lf (P := EE l 124) h k_124_12) (fun h => lf (P := EE l 124) h k_124_13)))) (fun h => nd h (fun h => nd h (fun h => nd h (fun h => lf (P := EE l 124) h k_124_16) (fun h => lf (P := EE l 124) h (EE_re (Or.inr (Or.inl ⟨rfl, dX11_cornersGood_17, rfl⟩))))) (fun h => nd h (fun h => lf (P := EE l 124) h k_124_18) (fun h => lf (P := EE l 124) h k_124_19))) (fun h => nd h (fun h => nd h (fun h => lf (P := EE l 124) h k_124_20) (fun h => lf (P := EE l 124) h k_124_23)) (fun h => nd h (fun h => lf (P := EE l 124) h k_124_24) (fun h => lf (P := EE l 124) h k_124_27))))) (fun h => nd h (fun h => nd h (fun h => nd h (fun h => nd h (fun h => lf (P := EE l 124) h k_124_28) (fun h => lf (P := EE l 124) h k_124_31)) (fun h => nd h (fun h => lf (P := EE l 124) h (EE_ca (by decide) (⟨m_1237, m_81, ⟨by decide, by decide⟩, by decide +kernel, ⟨by decide, by decide⟩, 163, 0, by decide +kernel, Or.inr (Or.inr (Or.inl ⟨rfl, rfl, dX11_cornersGood_32, m_1234, m_1236, _, rfl, by decide, m_30⟩))⟩) rfl)) (fun h => lf (P := EE l 124) h k_124_35))) (fun h => nd h (fun h => nd h (fun h => lf (P := EE l 124) h k_124_38) (fun h => lf (P := EE l 124) h k_124_39)) (fun h => nd h (fun h => lf (P := EE l 124) h k_124_42) (fun h => lf (P := EE l 124) h (EE_re (Or.inr (Or.inl ⟨rfl, dX11_cornersGood_43, rfl⟩))))))) (fun h => nd h (fun h => nd h (fun h => nd h (fun h => lf (P := EE l 124) h k_124_44) (fun h => lf (P := EE l 124) h k_124_45)) (fun h => nd h (fun h => lf (P := EE l 124) h k_124_48) (fun h => lf (P := EE l 124) h k_124_49))) (fun h => nd h (fun h => nd h (fun h => lf (P := EE l 124) h k_124_52) (fun h => lf (P := EE l 124) h (EE_re (Or.inr (Or.inl ⟨rfl, dX11_cornersGood_53, rfl⟩))))) (fun h => nd h (fun h => lf (P := EE l 124) h k_124_54) (fun h => lf (P := EE l 124) h k_124_55)))))) (fun h => nd h (fun h => nd h (fun h => nd h (fun h => nd h (fun h => nd h (fun h => lf (P := EE l 124) h k_124_56) (fun h => lf (P := EE l 124) h k_124_57)) (fun h => nd h (fun h => lf (P := EE l 124) h k_124_58) (fun h => lf (P := EE l 124) h k_124_61))) (fun h => nd h (fun h => nd h (fun h => lf (P := EE l 124) h k_124_64) (fun h => lf (P := EE l 124) h k_124_65)) (fun h => nd h (fun h => lf (P := EE l 124) h k_124_68) (fun h => lf (P := EE l 124) h k_124_69)))) (fun h => nd h (fun h => nd h (fun h => nd h (fun h => lf (P := EE l 124) h k_124_70) (fun h => lf (P := EE l 124) h k_124_71)) (fun h => nd h (fun h => lf (P := EE l 124) h k_124_74) (fun h => lf (P := EE l 124) h k_124_75))) (fun h => nd h (fun h => nd h (fun h => lf (P := EE l 124) h k_124_76) (fun h => lf (P := EE l 124) h k_124_77)) (fun h => nd h (fun h => lf (P := EE l 124) h k_124_78) (fun h => lf (P := EE l 124) h k_124_81))))) (fun h => nd h (fun h => nd h (fun h => nd h (fun h => nd h (fun h => lf (P := EE l 124) h k_124_82) (fun h => lf (P := EE l 124) h k_124_85)) (fun h => nd h (fun h => lf (P := EE l 124) h k_124_86) (fun h => lf (P := EE l 124) h k_124_87))) (fun h => nd h (fun h => nd h (fun h => lf (P := EE l 124) h k_124_88) (fun h => lf (P := EE l 124) h k_124_91)) (fun h => nd h (fun h => lf (P := EE l 124) h k_124_92) (fun h => lf (P := EE l 124) h k_124_93)))) (fun h => nd h (fun h => nd h (fun h => nd h (fun h => lf (P := EE l 124) h k_124_94) (fun h => lf (P := EE l 124) h k_124_95)) (fun h => nd h (fun h => lf (P := EE l 124) h k_124_98) (fun h => lf (P := EE l 124) h (EE_re (Or.inr (Or.inl ⟨rfl, dX11_cornersGood_99, rfl⟩)))))) (fun h => nd h (fun h => nd h (fun h => lf (P := EE l 124) h k_124_100) (fun h => lf (P := EE l 124) h k_124_103)) (fun h => nd h (fun h => lf (P := EE l 124) h k_124_106) (fun h => lf (P := EE l 124) h (EE_re (Or.inr (Or.inl ⟨rfl, dX11_cornersGood_107, rfl⟩)))))))))
theorem dX11_find_0 : decode cX11_find 0 = .ok (.iconst 0, 1) := by decide +kernel
theorem dX11_find_1 : decode cX11_find 1 = .ok (.istore_n 3, 1) := by decide +kernel
theorem dX11_find_2 : decode cX11_find 2 = .ok (.iload_n 3, 1) := by decide +kernel
theorem dX11_find_3 : decode cX11_find 3 = .ok (.aload_n 0, 1) := by decide +kernel
theorem dX11_find_4 : decode cX11_find 4 = .ok (.getfield 7, 3) := by decide +kernel
theorem dX11_find_7 : decode cX11_find 7 = .ok (.iload_n 1, 1) := by decide +kernel
theorem dX11_find_8 : decode cX11_find 8 = .ok (.iaload, 1) := by decide +kernel
theorem dX11_find_9 : decode cX11_find 9 = .ok (.if_icmp .ge 26, 3) := by decide +kernel
theorem dX11_find_12 : decode cX11_find 12 = .ok (.aload_n 0, 1) := by decide +kernel
theorem dX11_find_13 : decode cX11_find 13 = .ok (.getfield 13, 3) := by decide +kernel
theorem dX11_find_16 : decode cX11_find 16 = .ok (.bipush 24, 2) := by decide +kernel
theorem dX11_find_18 : decode cX11_find 18 = .ok (.iload_n 1, 1) := by decide +kernel
theorem dX11_find_19 : decode cX11_find 19 = .ok (.imul, 1) := by decide +kernel
theorem dX11_find_20 : decode cX11_find 20 = .ok (.iload_n 3, 1) := by decide +kernel
theorem dX11_find_21 : decode cX11_find 21 = .ok (.iadd, 1) := by decide +kernel
theorem dX11_find_22 : decode cX11_find 22 = .ok (.iaload, 1) := by decide +kernel
theorem dX11_find_23 : decode cX11_find 23 = .ok (.iload_n 2, 1) := by decide +kernel
theorem dX11_find_24 : decode cX11_find 24 = .ok (.if_icmp .ne 5, 3) := by decide +kernel
theorem dX11_find_27 : decode cX11_find 27 = .ok (.iload_n 3, 1) := by decide +kernel
theorem dX11_find_28 : decode cX11_find 28 = .ok (.ireturn, 1) := by decide +kernel
theorem dX11_find_29 : decode cX11_find 29 = .ok (.iinc 3 1, 3) := by decide +kernel
theorem dX11_find_32 : decode cX11_find 32 = .ok (.goto (-30), 3) := by decide +kernel
theorem dX11_find_35 : decode cX11_find 35 = .ok (.iconst (-1), 1) := by decide +kernel
theorem dX11_find_36 : decode cX11_find 36 = .ok (.ireturn, 1) := by decide +kernel
def tb_125 (pc : Nat) : Option mEnt := bif Nat.ble pc 18 then (bif Nat.ble pc 7 then (bif Nat.ble pc 2 then (bif Nat.ble pc 0 then (bif Nat.beq pc 0 then some (.inl (oS 1 (s_push (.int 0)))) else none) else (bif Nat.ble pc 1 then (bif Nat.beq pc 1 then some (.inl (o_is 3 1)) else none) else (bif Nat.beq pc 2 then some (.inl (o_il 3 1)) else none))) else (bif Nat.ble pc 3 then (bif Nat.beq pc 3 then some (.inl (o_al 0 1)) else none) else (bif Nat.ble pc 4 then (bif Nat.beq pc 4 then some (.inl (o_gP 11 0)) else none) else (bif Nat.beq pc 7 then some (.inl (o_il 1 1)) else none)))) else (bif Nat.ble pc 12 then (bif Nat.ble pc 8 then (bif Nat.beq pc 8 then some (.inl (o_iald)) else none) else (bif Nat.ble pc 9 then (bif Nat.beq pc 9 then some (.inl (o_cge 35)) else none) else (bif Nat.beq pc 12 then some (.inl (o_al 0 1)) else none))) else (bif Nat.ble pc 13 then (bif Nat.beq pc 13 then some (.inl (o_gP 11 1)) else none) else (bif Nat.ble pc 16 then (bif Nat.beq pc 16 then some (.inl (oS 2 (s_push (.int 24)))) else none) else (bif Nat.beq pc 18 then some (.inl (o_il 1 1)) else none))))) else (bif Nat.ble pc 24 then (bif Nat.ble pc 21 then (bif Nat.ble pc 19 then (bif Nat.beq pc 19 then some (.inl (oS 1 (s_ii (fun a b => a * b)))) else none) else (bif Nat.ble pc 20 then (bif Nat.beq pc 20 then some (.inl (o_il 3 1)) else none) else (bif Nat.beq pc 21 then some (.inl (oS 1 (s_ii (fun a b => a + b)))) else none))) else (bif Nat.ble pc 22 then (bif Nat.beq pc 22 then some (.inl (o_iald)) else none) else (bif Nat.ble pc 23 then (bif Nat.beq pc 23 then some (.inl (o_il 2 1)) else none) else (bif Nat.beq pc 24 then some (.inl (o_cne 29)) else none)))) else (bif Nat.ble pc 29 then (bif Nat.ble pc 27 then (bif Nat.beq pc 27 then some (.inl (o_il 3 1)) else none) else (bif Nat.ble pc 28 then (bif Nat.beq pc 28 then some (.inr (0, 0, 0, 0)) else none) else (bif Nat.beq pc 29 then some (.inl (o_inc 3 1)) else none))) else (bif Nat.ble pc 32 then (bif Nat.beq pc 32 then some (.inl (o_goto 2)) else none) else (bif Nat.ble pc 35 then (bif Nat.beq pc 35 then some (.inl (oS 1 (s_push (.int (-1))))) else none) else (bif Nat.beq pc 36 then some (.inr (0, 0, 0, 0)) else none)))))
theorem k_125_0 : mOk M_125.1 M_125.2.1 M_125.2.2.1 M_125.2.2.2 0 (oS 1 (s_push (.int 0))) := ok_iconst dX11_find_0 (by decide)
theorem k_125_1 : mOk M_125.1 M_125.2.1 M_125.2.2.1 M_125.2.2.2 1 (o_is 3 1) := ok_istore_n dX11_find_1 rfl
theorem k_125_2 : mOk M_125.1 M_125.2.1 M_125.2.2.1 M_125.2.2.2 2 (o_il 3 1) := ok_iload_n dX11_find_2 rfl
theorem k_125_3 : mOk M_125.1 M_125.2.1 M_125.2.2.1 M_125.2.2.2 3 (o_al 0 1) := ok_aload_n dX11_find_3 rfl
theorem k_125_4 : mOk M_125.1 M_125.2.1 M_125.2.2.1 M_125.2.2.2 4 (o_gP 11 0) := ok_gP dX11_find_4 f_RX11_7 rfl
theorem k_125_7 : mOk M_125.1 M_125.2.1 M_125.2.2.1 M_125.2.2.2 7 (o_il 1 1) := ok_iload_n dX11_find_7 rfl
theorem k_125_8 : mOk M_125.1 M_125.2.1 M_125.2.2.1 M_125.2.2.2 8 (o_iald) := ok_iald dX11_find_8
theorem k_125_9 : mOk M_125.1 M_125.2.1 M_125.2.2.1 M_125.2.2.2 9 (o_cge 35) := ok_cge dX11_find_9 (by decide)
theorem k_125_12 : mOk M_125.1 M_125.2.1 M_125.2.2.1 M_125.2.2.2 12 (o_al 0 1) := ok_aload_n dX11_find_12 rfl
theorem k_125_13 : mOk M_125.1 M_125.2.1 M_125.2.2.1 M_125.2.2.2 13 (o_gP 11 1) := ok_gP dX11_find_13 f_RX11_13 rfl
theorem k_125_16 : mOk M_125.1 M_125.2.1 M_125.2.2.1 M_125.2.2.2 16 (oS 2 (s_push (.int 24))) := ok_bipush dX11_find_16 (by decide)
theorem k_125_18 : mOk M_125.1 M_125.2.1 M_125.2.2.1 M_125.2.2.2 18 (o_il 1 1) := ok_iload_n dX11_find_18 rfl
theorem k_125_19 : mOk M_125.1 M_125.2.1 M_125.2.2.1 M_125.2.2.2 19 (oS 1 (s_ii (fun a b => a * b))) := ok_imul dX11_find_19
theorem k_125_20 : mOk M_125.1 M_125.2.1 M_125.2.2.1 M_125.2.2.2 20 (o_il 3 1) := ok_iload_n dX11_find_20 rfl
theorem k_125_21 : mOk M_125.1 M_125.2.1 M_125.2.2.1 M_125.2.2.2 21 (oS 1 (s_ii (fun a b => a + b))) := ok_iadd dX11_find_21
theorem k_125_22 : mOk M_125.1 M_125.2.1 M_125.2.2.1 M_125.2.2.2 22 (o_iald) := ok_iald dX11_find_22
theorem k_125_23 : mOk M_125.1 M_125.2.1 M_125.2.2.1 M_125.2.2.2 23 (o_il 2 1) := ok_iload_n dX11_find_23 rfl
theorem k_125_24 : mOk M_125.1 M_125.2.1 M_125.2.2.1 M_125.2.2.2 24 (o_cne 29) := ok_cne dX11_find_24 (by decide)
theorem k_125_27 : mOk M_125.1 M_125.2.1 M_125.2.2.1 M_125.2.2.2 27 (o_il 3 1) := ok_iload_n dX11_find_27 rfl
theorem k_125_29 : mOk M_125.1 M_125.2.1 M_125.2.2.1 M_125.2.2.2 29 (o_inc 3 1) := ok_iinc dX11_find_29 (by decide)
theorem k_125_32 : mOk M_125.1 M_125.2.1 M_125.2.2.1 M_125.2.2.2 32 (o_goto 2) := ok_goto dX11_find_32 (by decide)
theorem k_125_35 : mOk M_125.1 M_125.2.1 M_125.2.2.1 M_125.2.2.2 35 (oS 1 (s_push (.int (-1)))) := ok_iconst dX11_find_35 (by decide)
set_option maxRecDepth 20000 in
set_option maxHeartbeats 4000000 in
theorem tk_125 (l : Launch) (H9 : mThr l) (H10 : mSpl l) (pc : Nat) (q : mEnt) (h : tb_125 pc = some q) : EE l 125 pc q := nd h (fun h => nd h (fun h => nd h (fun h => nd h (fun h => lf (P := EE l 125) h k_125_0) (fun h => nd h (fun h => lf (P := EE l 125) h k_125_1) (fun h => lf (P := EE l 125) h k_125_2))) (fun h => nd h (fun h => lf (P := EE l 125) h k_125_3) (fun h => nd h (fun h => lf (P := EE l 125) h k_125_4) (fun h => lf (P := EE l 125) h k_125_7)))) (fun h => nd h (fun h => nd h (fun h => lf (P := EE l 125) h k_125_8) (fun h => nd h (fun h => lf (P := EE l 125) h k_125_9) (fun h => lf (P := EE l 125) h k_125_12))) (fun h => nd h (fun h => lf (P := EE l 125) h k_125_13) (fun h => nd h (fun h => lf (P := EE l 125) h k_125_16) (fun h => lf (P := EE l 125) h k_125_18))))) (fun h => nd h (fun h => nd h (fun h => nd h (fun h => lf (P := EE l 125) h k_125_19) (fun h => nd h (fun h => lf (P := EE l 125) h k_125_20) (fun h => lf (P := EE l 125) h k_125_21))) (fun h => nd h (fun h => lf (P := EE l 125) h k_125_22) (fun h => nd h (fun h => lf (P := EE l 125) h k_125_23) (fun h => lf (P := EE l 125) h k_125_24)))) (fun h => nd h (fun h => nd h (fun h => lf (P := EE l 125) h k_125_27) (fun h => nd h (fun h => lf (P := EE l 125) h (EE_re (Or.inl ⟨rfl, dX11_find_28, rfl⟩))) (fun h => lf (P := EE l 125) h k_125_29))) (fun h => nd h (fun h => lf (P := EE l 125) h k_125_32) (fun h => nd h (fun h => lf (P := EE l 125) h k_125_35) (fun h => lf (P := EE l 125) h (EE_re (Or.inl ⟨rfl, dX11_find_36, rfl⟩)))))))
theorem dX11_copyFeature_0 : decode cX11_copyFeature 0 = .ok (.aload_n 0, 1) := by decide +kernel
theorem dX11_copyFeature_1 : decode cX11_copyFeature 1 = .ok (.getfield 13, 3) := by decide +kernel
theorem dX11_copyFeature_4 : decode cX11_copyFeature 4 = .ok (.iload_n 2, 1) := by decide +kernel
theorem dX11_copyFeature_5 : decode cX11_copyFeature 5 = .ok (.aload_n 0, 1) := by decide +kernel
theorem dX11_copyFeature_6 : decode cX11_copyFeature 6 = .ok (.getfield 13, 3) := by decide +kernel
theorem dX11_copyFeature_9 : decode cX11_copyFeature 9 = .ok (.iload_n 1, 1) := by decide +kernel
theorem dX11_copyFeature_10 : decode cX11_copyFeature 10 = .ok (.iaload, 1) := by decide +kernel
theorem dX11_copyFeature_11 : decode cX11_copyFeature 11 = .ok (.iastore, 1) := by decide +kernel
theorem dX11_copyFeature_12 : decode cX11_copyFeature 12 = .ok (.aload_n 0, 1) := by decide +kernel
theorem dX11_copyFeature_13 : decode cX11_copyFeature 13 = .ok (.getfield 16, 3) := by decide +kernel
theorem dX11_copyFeature_16 : decode cX11_copyFeature 16 = .ok (.iload_n 2, 1) := by decide +kernel
theorem dX11_copyFeature_17 : decode cX11_copyFeature 17 = .ok (.aload_n 0, 1) := by decide +kernel
theorem dX11_copyFeature_18 : decode cX11_copyFeature 18 = .ok (.getfield 16, 3) := by decide +kernel
theorem dX11_copyFeature_21 : decode cX11_copyFeature 21 = .ok (.iload_n 1, 1) := by decide +kernel
theorem dX11_copyFeature_22 : decode cX11_copyFeature 22 = .ok (.iaload, 1) := by decide +kernel
theorem dX11_copyFeature_23 : decode cX11_copyFeature 23 = .ok (.iastore, 1) := by decide +kernel
theorem dX11_copyFeature_24 : decode cX11_copyFeature 24 = .ok (.aload_n 0, 1) := by decide +kernel
theorem dX11_copyFeature_25 : decode cX11_copyFeature 25 = .ok (.getfield 19, 3) := by decide +kernel
theorem dX11_copyFeature_28 : decode cX11_copyFeature 28 = .ok (.iload_n 2, 1) := by decide +kernel
theorem dX11_copyFeature_29 : decode cX11_copyFeature 29 = .ok (.aload_n 0, 1) := by decide +kernel
theorem dX11_copyFeature_30 : decode cX11_copyFeature 30 = .ok (.getfield 19, 3) := by decide +kernel
theorem dX11_copyFeature_33 : decode cX11_copyFeature 33 = .ok (.iload_n 1, 1) := by decide +kernel
theorem dX11_copyFeature_34 : decode cX11_copyFeature 34 = .ok (.iaload, 1) := by decide +kernel
theorem dX11_copyFeature_35 : decode cX11_copyFeature 35 = .ok (.iastore, 1) := by decide +kernel
theorem dX11_copyFeature_36 : decode cX11_copyFeature 36 = .ok (.aload_n 0, 1) := by decide +kernel
theorem dX11_copyFeature_37 : decode cX11_copyFeature 37 = .ok (.getfield 22, 3) := by decide +kernel
theorem dX11_copyFeature_40 : decode cX11_copyFeature 40 = .ok (.iload_n 2, 1) := by decide +kernel
theorem dX11_copyFeature_41 : decode cX11_copyFeature 41 = .ok (.aload_n 0, 1) := by decide +kernel
theorem dX11_copyFeature_42 : decode cX11_copyFeature 42 = .ok (.getfield 22, 3) := by decide +kernel
theorem dX11_copyFeature_45 : decode cX11_copyFeature 45 = .ok (.iload_n 1, 1) := by decide +kernel
theorem dX11_copyFeature_46 : decode cX11_copyFeature 46 = .ok (.iaload, 1) := by decide +kernel
theorem dX11_copyFeature_47 : decode cX11_copyFeature 47 = .ok (.iastore, 1) := by decide +kernel
theorem dX11_copyFeature_48 : decode cX11_copyFeature 48 = .ok (.aload_n 0, 1) := by decide +kernel
theorem dX11_copyFeature_49 : decode cX11_copyFeature 49 = .ok (.getfield 25, 3) := by decide +kernel
theorem dX11_copyFeature_52 : decode cX11_copyFeature 52 = .ok (.iload_n 2, 1) := by decide +kernel
theorem dX11_copyFeature_53 : decode cX11_copyFeature 53 = .ok (.aload_n 0, 1) := by decide +kernel
theorem dX11_copyFeature_54 : decode cX11_copyFeature 54 = .ok (.getfield 25, 3) := by decide +kernel
theorem dX11_copyFeature_57 : decode cX11_copyFeature 57 = .ok (.iload_n 1, 1) := by decide +kernel
theorem dX11_copyFeature_58 : decode cX11_copyFeature 58 = .ok (.laload, 1) := by decide +kernel
theorem dX11_copyFeature_59 : decode cX11_copyFeature 59 = .ok (.lastore, 1) := by decide +kernel
theorem dX11_copyFeature_60 : decode cX11_copyFeature 60 = .ok (.aload_n 0, 1) := by decide +kernel
theorem dX11_copyFeature_61 : decode cX11_copyFeature 61 = .ok (.getfield 29, 3) := by decide +kernel
theorem dX11_copyFeature_64 : decode cX11_copyFeature 64 = .ok (.iload_n 2, 1) := by decide +kernel
theorem dX11_copyFeature_65 : decode cX11_copyFeature 65 = .ok (.aload_n 0, 1) := by decide +kernel
theorem dX11_copyFeature_66 : decode cX11_copyFeature 66 = .ok (.getfield 29, 3) := by decide +kernel
theorem dX11_copyFeature_69 : decode cX11_copyFeature 69 = .ok (.iload_n 1, 1) := by decide +kernel
theorem dX11_copyFeature_70 : decode cX11_copyFeature 70 = .ok (.iaload, 1) := by decide +kernel
theorem dX11_copyFeature_71 : decode cX11_copyFeature 71 = .ok (.iastore, 1) := by decide +kernel
theorem dX11_copyFeature_72 : decode cX11_copyFeature 72 = .ok (.iconst 0, 1) := by decide +kernel
theorem dX11_copyFeature_73 : decode cX11_copyFeature 73 = .ok (.istore_n 3, 1) := by decide +kernel
theorem dX11_copyFeature_74 : decode cX11_copyFeature 74 = .ok (.iload_n 3, 1) := by decide +kernel
theorem dX11_copyFeature_75 : decode cX11_copyFeature 75 = .ok (.bipush 12, 2) := by decide +kernel
theorem dX11_copyFeature_77 : decode cX11_copyFeature 77 = .ok (.if_icmp .ge 53, 3) := by decide +kernel
theorem dX11_copyFeature_80 : decode cX11_copyFeature 80 = .ok (.aload_n 0, 1) := by decide +kernel
theorem dX11_copyFeature_81 : decode cX11_copyFeature 81 = .ok (.getfield 32, 3) := by decide +kernel
theorem dX11_copyFeature_84 : decode cX11_copyFeature 84 = .ok (.bipush 12, 2) := by decide +kernel
theorem dX11_copyFeature_86 : decode cX11_copyFeature 86 = .ok (.iload_n 2, 1) := by decide +kernel
theorem dX11_copyFeature_87 : decode cX11_copyFeature 87 = .ok (.imul, 1) := by decide +kernel
theorem dX11_copyFeature_88 : decode cX11_copyFeature 88 = .ok (.iload_n 3, 1) := by decide +kernel
theorem dX11_copyFeature_89 : decode cX11_copyFeature 89 = .ok (.iadd, 1) := by decide +kernel
theorem dX11_copyFeature_90 : decode cX11_copyFeature 90 = .ok (.aload_n 0, 1) := by decide +kernel
theorem dX11_copyFeature_91 : decode cX11_copyFeature 91 = .ok (.getfield 32, 3) := by decide +kernel
theorem dX11_copyFeature_94 : decode cX11_copyFeature 94 = .ok (.bipush 12, 2) := by decide +kernel
theorem dX11_copyFeature_96 : decode cX11_copyFeature 96 = .ok (.iload_n 1, 1) := by decide +kernel
theorem dX11_copyFeature_97 : decode cX11_copyFeature 97 = .ok (.imul, 1) := by decide +kernel
theorem dX11_copyFeature_98 : decode cX11_copyFeature 98 = .ok (.iload_n 3, 1) := by decide +kernel
theorem dX11_copyFeature_99 : decode cX11_copyFeature 99 = .ok (.iadd, 1) := by decide +kernel
theorem dX11_copyFeature_100 : decode cX11_copyFeature 100 = .ok (.iaload, 1) := by decide +kernel
theorem dX11_copyFeature_101 : decode cX11_copyFeature 101 = .ok (.iastore, 1) := by decide +kernel
theorem dX11_copyFeature_102 : decode cX11_copyFeature 102 = .ok (.aload_n 0, 1) := by decide +kernel
theorem dX11_copyFeature_103 : decode cX11_copyFeature 103 = .ok (.getfield 35, 3) := by decide +kernel
theorem dX11_copyFeature_106 : decode cX11_copyFeature 106 = .ok (.bipush 12, 2) := by decide +kernel
theorem dX11_copyFeature_108 : decode cX11_copyFeature 108 = .ok (.iload_n 2, 1) := by decide +kernel
theorem dX11_copyFeature_109 : decode cX11_copyFeature 109 = .ok (.imul, 1) := by decide +kernel
theorem dX11_copyFeature_110 : decode cX11_copyFeature 110 = .ok (.iload_n 3, 1) := by decide +kernel
theorem dX11_copyFeature_111 : decode cX11_copyFeature 111 = .ok (.iadd, 1) := by decide +kernel
theorem dX11_copyFeature_112 : decode cX11_copyFeature 112 = .ok (.aload_n 0, 1) := by decide +kernel
theorem dX11_copyFeature_113 : decode cX11_copyFeature 113 = .ok (.getfield 35, 3) := by decide +kernel
theorem dX11_copyFeature_116 : decode cX11_copyFeature 116 = .ok (.bipush 12, 2) := by decide +kernel
theorem dX11_copyFeature_118 : decode cX11_copyFeature 118 = .ok (.iload_n 1, 1) := by decide +kernel
theorem dX11_copyFeature_119 : decode cX11_copyFeature 119 = .ok (.imul, 1) := by decide +kernel
theorem dX11_copyFeature_120 : decode cX11_copyFeature 120 = .ok (.iload_n 3, 1) := by decide +kernel
theorem dX11_copyFeature_121 : decode cX11_copyFeature 121 = .ok (.iadd, 1) := by decide +kernel
theorem dX11_copyFeature_122 : decode cX11_copyFeature 122 = .ok (.iaload, 1) := by decide +kernel
theorem dX11_copyFeature_123 : decode cX11_copyFeature 123 = .ok (.iastore, 1) := by decide +kernel
theorem dX11_copyFeature_124 : decode cX11_copyFeature 124 = .ok (.iinc 3 1, 3) := by decide +kernel
theorem dX11_copyFeature_127 : decode cX11_copyFeature 127 = .ok (.goto (-53), 3) := by decide +kernel
theorem dX11_copyFeature_130 : decode cX11_copyFeature 130 = .ok (.return_, 1) := by decide +kernel
def tb_126 (pc : Nat) : Option mEnt := bif Nat.ble pc 65 then (bif Nat.ble pc 33 then (bif Nat.ble pc 16 then (bif Nat.ble pc 6 then (bif Nat.ble pc 1 then (bif Nat.ble pc 0 then (bif Nat.beq pc 0 then some (.inl (o_al 0 1)) else none) else (bif Nat.beq pc 1 then some (.inl (o_gP 11 1)) else none)) else (bif Nat.ble pc 4 then (bif Nat.beq pc 4 then some (.inl (o_il 2 1)) else none) else (bif Nat.ble pc 5 then (bif Nat.beq pc 5 then some (.inl (o_al 0 1)) else none) else (bif Nat.beq pc 6 then some (.inl (o_gP 11 1)) else none)))) else (bif Nat.ble pc 11 then (bif Nat.ble pc 9 then (bif Nat.beq pc 9 then some (.inl (o_il 1 1)) else none) else (bif Nat.ble pc 10 then (bif Nat.beq pc 10 then some (.inl (o_iald)) else none) else (bif Nat.beq pc 11 then some (.inl (o_iast)) else none))) else (bif Nat.ble pc 12 then (bif Nat.beq pc 12 then some (.inl (o_al 0 1)) else none) else (bif Nat.ble pc 13 then (bif Nat.beq pc 13 then some (.inl (o_gP 11 2)) else none) else (bif Nat.beq pc 16 then some (.inl (o_il 2 1)) else none))))) else (bif Nat.ble pc 23 then (bif Nat.ble pc 18 then (bif Nat.ble pc 17 then (bif Nat.beq pc 17 then some (.inl (o_al 0 1)) else none) else (bif Nat.beq pc 18 then some (.inl (o_gP 11 2)) else none)) else (bif Nat.ble pc 21 then (bif Nat.beq pc 21 then some (.inl (o_il 1 1)) else none) else (bif Nat.ble pc 22 then (bif Nat.beq pc 22 then some (.inl (o_iald)) else none) else (bif Nat.beq pc 23 then some (.inl (o_iast)) else none)))) else (bif Nat.ble pc 28 then (bif Nat.ble pc 24 then (bif Nat.beq pc 24 then some (.inl (o_al 0 1)) else none) else (bif Nat.ble pc 25 then (bif Nat.beq pc 25 then some (.inl (o_gP 11 3)) else none) else (bif Nat.beq pc 28 then some (.inl (o_il 2 1)) else none))) else (bif Nat.ble pc 29 then (bif Nat.beq pc 29 then some (.inl (o_al 0 1)) else none) else (bif Nat.ble pc 30 then (bif Nat.beq pc 30 then some (.inl (o_gP 11 3)) else none) else (bif Nat.beq pc 33 then some (.inl (o_il 1 1)) else none)))))) else (bif Nat.ble pc 48 then (bif Nat.ble pc 40 then (bif Nat.ble pc 35 then (bif Nat.ble pc 34 then (bif Nat.beq pc 34 then some (.inl (o_iald)) else none) else (bif Nat.beq pc 35 then some (.inl (o_iast)) else none)) else (bif Nat.ble pc 36 then (bif Nat.beq pc 36 then some (.inl (o_al 0 1)) else none) else (bif Nat.ble pc 37 then (bif Nat.beq pc 37 then some (.inl (o_gP 11 4)) else none) else (bif Nat.beq pc 40 then some (.inl (o_il 2 1)) else none)))) else (bif Nat.ble pc 45 then (bif Nat.ble pc 41 then (bif Nat.beq pc 41 then some (.inl (o_al 0 1)) else none) else (bif Nat.ble pc 42 then (bif Nat.beq pc 42 then some (.inl (o_gP 11 4)) else none) else (bif Nat.beq pc 45 then some (.inl (o_il 1 1)) else none))) else (bif Nat.ble pc 46 then (bif Nat.beq pc 46 then some (.inl (o_iald)) else none) else (bif Nat.ble pc 47 then (bif Nat.beq pc 47 then some (.inl (o_iast)) else none) else (bif Nat.beq pc 48 then some (.inl (o_al 0 1)) else none))))) else (bif Nat.ble pc 57 then (bif Nat.ble pc 52 then (bif Nat.ble pc 49 then (bif Nat.beq pc 49 then some (.inl (o_gP 11 5)) else none) else (bif Nat.beq pc 52 then some (.inl (o_il 2 1)) else none)) else (bif Nat.ble pc 53 then (bif Nat.beq pc 53 then some (.inl (o_al 0 1)) else none) else (bif Nat.ble pc 54 then (bif Nat.beq pc 54 then some (.inl (o_gP 11 5)) else none) else (bif Nat.beq pc 57 then some (.inl (o_il 1 1)) else none)))) else (bif Nat.ble pc 60 then (bif Nat.ble pc 58 then (bif Nat.beq pc 58 then some (.inl (o_lald)) else none) else (bif Nat.ble pc 59 then (bif Nat.beq pc 59 then some (.inl (o_last)) else none) else (bif Nat.beq pc 60 then some (.inl (o_al 0 1)) else none))) else (bif Nat.ble pc 61 then (bif Nat.beq pc 61 then some (.inl (o_gP 11 6)) else none) else (bif Nat.ble pc 64 then (bif Nat.beq pc 64 then some (.inl (o_il 2 1)) else none) else (bif Nat.beq pc 65 then some (.inl (o_al 0 1)) else none))))))) else (bif Nat.ble pc 98 then (bif Nat.ble pc 81 then (bif Nat.ble pc 72 then (bif Nat.ble pc 69 then (bif Nat.ble pc 66 then (bif Nat.beq pc 66 then some (.inl (o_gP 11 6)) else none) else (bif Nat.beq pc 69 then some (.inl (o_il 1 1)) else none)) else (bif Nat.ble pc 70 then (bif Nat.beq pc 70 then some (.inl (o_iald)) else none) else (bif Nat.ble pc 71 then (bif Nat.beq pc 71 then some (.inl (o_iast)) else none) else (bif Nat.beq pc 72 then some (.inl (oS 1 (s_push (.int 0)))) else none)))) else (bif Nat.ble pc 75 then (bif Nat.ble pc 73 then (bif Nat.beq pc 73 then some (.inl (o_is 3 1)) else none) else (bif Nat.ble pc 74 then (bif Nat.beq pc 74 then some (.inl (o_il 3 1)) else none) else (bif Nat.beq pc 75 then some (.inl (oS 2 (s_push (.int 12)))) else none))) else (bif Nat.ble pc 77 then (bif Nat.beq pc 77 then some (.inl (o_cge 130)) else none) else (bif Nat.ble pc 80 then (bif Nat.beq pc 80 then some (.inl (o_al 0 1)) else none) else (bif Nat.beq pc 81 then some (.inl (o_gP 11 7)) else none))))) else (bif Nat.ble pc 89 then (bif Nat.ble pc 86 then (bif Nat.ble pc 84 then (bif Nat.beq pc 84 then some (.inl (oS 2 (s_push (.int 12)))) else none) else (bif Nat.beq pc 86 then some (.inl (o_il 2 1)) else none)) else (bif Nat.ble pc 87 then (bif Nat.beq pc 87 then some (.inl (oS 1 (s_ii (fun a b => a * b)))) else none) else (bif Nat.ble pc 88 then (bif Nat.beq pc 88 then some (.inl (o_il 3 1)) else none) else (bif Nat.beq pc 89 then some (.inl (oS 1 (s_ii (fun a b => a + b)))) else none)))) else (bif Nat.ble pc 94 then (bif Nat.ble pc 90 then (bif Nat.beq pc 90 then some (.inl (o_al 0 1)) else none) else (bif Nat.ble pc 91 then (bif Nat.beq pc 91 then some (.inl (o_gP 11 7)) else none) else (bif Nat.beq pc 94 then some (.inl (oS 2 (s_push (.int 12)))) else none))) else (bif Nat.ble pc 96 then (bif Nat.beq pc 96 then some (.inl (o_il 1 1)) else none) else (bif Nat.ble pc 97 then (bif Nat.beq pc 97 then some (.inl (oS 1 (s_ii (fun a b => a * b)))) else none) else (bif Nat.beq pc 98 then some (.inl (o_il 3 1)) else none)))))) else (bif Nat.ble pc 112 then (bif Nat.ble pc 103 then (bif Nat.ble pc 100 then (bif Nat.ble pc 99 then (bif Nat.beq pc 99 then some (.inl (oS 1 (s_ii (fun a b => a + b)))) else none) else (bif Nat.beq pc 100 then some (.inl (o_iald)) else none)) else (bif Nat.ble pc 101 then (bif Nat.beq pc 101 then some (.inl (o_iast)) else none) else (bif Nat.ble pc 102 then (bif Nat.beq pc 102 then some (.inl (o_al 0 1)) else none) else (bif Nat.beq pc 103 then some (.inl (o_gP 11 8)) else none)))) else (bif Nat.ble pc 109 then (bif Nat.ble pc 106 then (bif Nat.beq pc 106 then some (.inl (oS 2 (s_push (.int 12)))) else none) else (bif Nat.ble pc 108 then (bif Nat.beq pc 108 then some (.inl (o_il 2 1)) else none) else (bif Nat.beq pc 109 then some (.inl (oS 1 (s_ii (fun a b => a * b)))) else none))) else (bif Nat.ble pc 110 then (bif Nat.beq pc 110 then some (.inl (o_il 3 1)) else none) else (bif Nat.ble pc 111 then (bif Nat.beq pc 111 then some (.inl (oS 1 (s_ii (fun a b => a + b)))) else none) else (bif Nat.beq pc 112 then some (.inl (o_al 0 1)) else none))))) else (bif Nat.ble pc 120 then (bif Nat.ble pc 116 then (bif Nat.ble pc 113 then (bif Nat.beq pc 113 then some (.inl (o_gP 11 8)) else none) else (bif Nat.beq pc 116 then some (.inl (oS 2 (s_push (.int 12)))) else none)) else (bif Nat.ble pc 118 then (bif Nat.beq pc 118 then some (.inl (o_il 1 1)) else none) else (bif Nat.ble pc 119 then (bif Nat.beq pc 119 then some (.inl (oS 1 (s_ii (fun a b => a * b)))) else none) else (bif Nat.beq pc 120 then some (.inl (o_il 3 1)) else none)))) else (bif Nat.ble pc 123 then (bif Nat.ble pc 121 then (bif Nat.beq pc 121 then some (.inl (oS 1 (s_ii (fun a b => a + b)))) else none) else (bif Nat.ble pc 122 then (bif Nat.beq pc 122 then some (.inl (o_iald)) else none) else (bif Nat.beq pc 123 then some (.inl (o_iast)) else none))) else (bif Nat.ble pc 124 then (bif Nat.beq pc 124 then some (.inl (o_inc 3 1)) else none) else (bif Nat.ble pc 127 then (bif Nat.beq pc 127 then some (.inl (o_goto 74)) else none) else (bif Nat.beq pc 130 then some (.inr (0, 0, 0, 3)) else none)))))))
theorem k_126_0 : mOk M_126.1 M_126.2.1 M_126.2.2.1 M_126.2.2.2 0 (o_al 0 1) := ok_aload_n dX11_copyFeature_0 rfl
theorem k_126_1 : mOk M_126.1 M_126.2.1 M_126.2.2.1 M_126.2.2.2 1 (o_gP 11 1) := ok_gP dX11_copyFeature_1 f_RX11_13 rfl
theorem k_126_4 : mOk M_126.1 M_126.2.1 M_126.2.2.1 M_126.2.2.2 4 (o_il 2 1) := ok_iload_n dX11_copyFeature_4 rfl
theorem k_126_5 : mOk M_126.1 M_126.2.1 M_126.2.2.1 M_126.2.2.2 5 (o_al 0 1) := ok_aload_n dX11_copyFeature_5 rfl
theorem k_126_6 : mOk M_126.1 M_126.2.1 M_126.2.2.1 M_126.2.2.2 6 (o_gP 11 1) := ok_gP dX11_copyFeature_6 f_RX11_13 rfl
theorem k_126_9 : mOk M_126.1 M_126.2.1 M_126.2.2.1 M_126.2.2.2 9 (o_il 1 1) := ok_iload_n dX11_copyFeature_9 rfl
theorem k_126_10 : mOk M_126.1 M_126.2.1 M_126.2.2.1 M_126.2.2.2 10 (o_iald) := ok_iald dX11_copyFeature_10
theorem k_126_11 : mOk M_126.1 M_126.2.1 M_126.2.2.1 M_126.2.2.2 11 (o_iast) := ok_iast dX11_copyFeature_11
theorem k_126_12 : mOk M_126.1 M_126.2.1 M_126.2.2.1 M_126.2.2.2 12 (o_al 0 1) := ok_aload_n dX11_copyFeature_12 rfl
theorem k_126_13 : mOk M_126.1 M_126.2.1 M_126.2.2.1 M_126.2.2.2 13 (o_gP 11 2) := ok_gP dX11_copyFeature_13 f_RX11_16 rfl
theorem k_126_16 : mOk M_126.1 M_126.2.1 M_126.2.2.1 M_126.2.2.2 16 (o_il 2 1) := ok_iload_n dX11_copyFeature_16 rfl
theorem k_126_17 : mOk M_126.1 M_126.2.1 M_126.2.2.1 M_126.2.2.2 17 (o_al 0 1) := ok_aload_n dX11_copyFeature_17 rfl
theorem k_126_18 : mOk M_126.1 M_126.2.1 M_126.2.2.1 M_126.2.2.2 18 (o_gP 11 2) := ok_gP dX11_copyFeature_18 f_RX11_16 rfl
theorem k_126_21 : mOk M_126.1 M_126.2.1 M_126.2.2.1 M_126.2.2.2 21 (o_il 1 1) := ok_iload_n dX11_copyFeature_21 rfl
theorem k_126_22 : mOk M_126.1 M_126.2.1 M_126.2.2.1 M_126.2.2.2 22 (o_iald) := ok_iald dX11_copyFeature_22
theorem k_126_23 : mOk M_126.1 M_126.2.1 M_126.2.2.1 M_126.2.2.2 23 (o_iast) := ok_iast dX11_copyFeature_23
theorem k_126_24 : mOk M_126.1 M_126.2.1 M_126.2.2.1 M_126.2.2.2 24 (o_al 0 1) := ok_aload_n dX11_copyFeature_24 rfl
theorem k_126_25 : mOk M_126.1 M_126.2.1 M_126.2.2.1 M_126.2.2.2 25 (o_gP 11 3) := ok_gP dX11_copyFeature_25 f_RX11_19 rfl
theorem k_126_28 : mOk M_126.1 M_126.2.1 M_126.2.2.1 M_126.2.2.2 28 (o_il 2 1) := ok_iload_n dX11_copyFeature_28 rfl
theorem k_126_29 : mOk M_126.1 M_126.2.1 M_126.2.2.1 M_126.2.2.2 29 (o_al 0 1) := ok_aload_n dX11_copyFeature_29 rfl
theorem k_126_30 : mOk M_126.1 M_126.2.1 M_126.2.2.1 M_126.2.2.2 30 (o_gP 11 3) := ok_gP dX11_copyFeature_30 f_RX11_19 rfl
theorem k_126_33 : mOk M_126.1 M_126.2.1 M_126.2.2.1 M_126.2.2.2 33 (o_il 1 1) := ok_iload_n dX11_copyFeature_33 rfl
theorem k_126_34 : mOk M_126.1 M_126.2.1 M_126.2.2.1 M_126.2.2.2 34 (o_iald) := ok_iald dX11_copyFeature_34
theorem k_126_35 : mOk M_126.1 M_126.2.1 M_126.2.2.1 M_126.2.2.2 35 (o_iast) := ok_iast dX11_copyFeature_35
theorem k_126_36 : mOk M_126.1 M_126.2.1 M_126.2.2.1 M_126.2.2.2 36 (o_al 0 1) := ok_aload_n dX11_copyFeature_36 rfl
theorem k_126_37 : mOk M_126.1 M_126.2.1 M_126.2.2.1 M_126.2.2.2 37 (o_gP 11 4) := ok_gP dX11_copyFeature_37 f_RX11_22 rfl
theorem k_126_40 : mOk M_126.1 M_126.2.1 M_126.2.2.1 M_126.2.2.2 40 (o_il 2 1) := ok_iload_n dX11_copyFeature_40 rfl
theorem k_126_41 : mOk M_126.1 M_126.2.1 M_126.2.2.1 M_126.2.2.2 41 (o_al 0 1) := ok_aload_n dX11_copyFeature_41 rfl
theorem k_126_42 : mOk M_126.1 M_126.2.1 M_126.2.2.1 M_126.2.2.2 42 (o_gP 11 4) := ok_gP dX11_copyFeature_42 f_RX11_22 rfl
theorem k_126_45 : mOk M_126.1 M_126.2.1 M_126.2.2.1 M_126.2.2.2 45 (o_il 1 1) := ok_iload_n dX11_copyFeature_45 rfl
theorem k_126_46 : mOk M_126.1 M_126.2.1 M_126.2.2.1 M_126.2.2.2 46 (o_iald) := ok_iald dX11_copyFeature_46
theorem k_126_47 : mOk M_126.1 M_126.2.1 M_126.2.2.1 M_126.2.2.2 47 (o_iast) := ok_iast dX11_copyFeature_47
theorem k_126_48 : mOk M_126.1 M_126.2.1 M_126.2.2.1 M_126.2.2.2 48 (o_al 0 1) := ok_aload_n dX11_copyFeature_48 rfl
theorem k_126_49 : mOk M_126.1 M_126.2.1 M_126.2.2.1 M_126.2.2.2 49 (o_gP 11 5) := ok_gP dX11_copyFeature_49 f_RX11_25 rfl
theorem k_126_52 : mOk M_126.1 M_126.2.1 M_126.2.2.1 M_126.2.2.2 52 (o_il 2 1) := ok_iload_n dX11_copyFeature_52 rfl
theorem k_126_53 : mOk M_126.1 M_126.2.1 M_126.2.2.1 M_126.2.2.2 53 (o_al 0 1) := ok_aload_n dX11_copyFeature_53 rfl
theorem k_126_54 : mOk M_126.1 M_126.2.1 M_126.2.2.1 M_126.2.2.2 54 (o_gP 11 5) := ok_gP dX11_copyFeature_54 f_RX11_25 rfl
theorem k_126_57 : mOk M_126.1 M_126.2.1 M_126.2.2.1 M_126.2.2.2 57 (o_il 1 1) := ok_iload_n dX11_copyFeature_57 rfl
theorem k_126_58 : mOk M_126.1 M_126.2.1 M_126.2.2.1 M_126.2.2.2 58 (o_lald) := ok_lald dX11_copyFeature_58
theorem k_126_59 : mOk M_126.1 M_126.2.1 M_126.2.2.1 M_126.2.2.2 59 (o_last) := ok_last dX11_copyFeature_59
theorem k_126_60 : mOk M_126.1 M_126.2.1 M_126.2.2.1 M_126.2.2.2 60 (o_al 0 1) := ok_aload_n dX11_copyFeature_60 rfl
theorem k_126_61 : mOk M_126.1 M_126.2.1 M_126.2.2.1 M_126.2.2.2 61 (o_gP 11 6) := ok_gP dX11_copyFeature_61 f_RX11_29 rfl
theorem k_126_64 : mOk M_126.1 M_126.2.1 M_126.2.2.1 M_126.2.2.2 64 (o_il 2 1) := ok_iload_n dX11_copyFeature_64 rfl
theorem k_126_65 : mOk M_126.1 M_126.2.1 M_126.2.2.1 M_126.2.2.2 65 (o_al 0 1) := ok_aload_n dX11_copyFeature_65 rfl
theorem k_126_66 : mOk M_126.1 M_126.2.1 M_126.2.2.1 M_126.2.2.2 66 (o_gP 11 6) := ok_gP dX11_copyFeature_66 f_RX11_29 rfl
theorem k_126_69 : mOk M_126.1 M_126.2.1 M_126.2.2.1 M_126.2.2.2 69 (o_il 1 1) := ok_iload_n dX11_copyFeature_69 rfl
theorem k_126_70 : mOk M_126.1 M_126.2.1 M_126.2.2.1 M_126.2.2.2 70 (o_iald) := ok_iald dX11_copyFeature_70
theorem k_126_71 : mOk M_126.1 M_126.2.1 M_126.2.2.1 M_126.2.2.2 71 (o_iast) := ok_iast dX11_copyFeature_71
theorem k_126_72 : mOk M_126.1 M_126.2.1 M_126.2.2.1 M_126.2.2.2 72 (oS 1 (s_push (.int 0))) := ok_iconst dX11_copyFeature_72 (by decide)
theorem k_126_73 : mOk M_126.1 M_126.2.1 M_126.2.2.1 M_126.2.2.2 73 (o_is 3 1) := ok_istore_n dX11_copyFeature_73 rfl
theorem k_126_74 : mOk M_126.1 M_126.2.1 M_126.2.2.1 M_126.2.2.2 74 (o_il 3 1) := ok_iload_n dX11_copyFeature_74 rfl
theorem k_126_75 : mOk M_126.1 M_126.2.1 M_126.2.2.1 M_126.2.2.2 75 (oS 2 (s_push (.int 12))) := ok_bipush dX11_copyFeature_75 (by decide)
theorem k_126_77 : mOk M_126.1 M_126.2.1 M_126.2.2.1 M_126.2.2.2 77 (o_cge 130) := ok_cge dX11_copyFeature_77 (by decide)
theorem k_126_80 : mOk M_126.1 M_126.2.1 M_126.2.2.1 M_126.2.2.2 80 (o_al 0 1) := ok_aload_n dX11_copyFeature_80 rfl
theorem k_126_81 : mOk M_126.1 M_126.2.1 M_126.2.2.1 M_126.2.2.2 81 (o_gP 11 7) := ok_gP dX11_copyFeature_81 f_RX11_32 rfl
theorem k_126_84 : mOk M_126.1 M_126.2.1 M_126.2.2.1 M_126.2.2.2 84 (oS 2 (s_push (.int 12))) := ok_bipush dX11_copyFeature_84 (by decide)
theorem k_126_86 : mOk M_126.1 M_126.2.1 M_126.2.2.1 M_126.2.2.2 86 (o_il 2 1) := ok_iload_n dX11_copyFeature_86 rfl
theorem k_126_87 : mOk M_126.1 M_126.2.1 M_126.2.2.1 M_126.2.2.2 87 (oS 1 (s_ii (fun a b => a * b))) := ok_imul dX11_copyFeature_87
theorem k_126_88 : mOk M_126.1 M_126.2.1 M_126.2.2.1 M_126.2.2.2 88 (o_il 3 1) := ok_iload_n dX11_copyFeature_88 rfl
theorem k_126_89 : mOk M_126.1 M_126.2.1 M_126.2.2.1 M_126.2.2.2 89 (oS 1 (s_ii (fun a b => a + b))) := ok_iadd dX11_copyFeature_89
theorem k_126_90 : mOk M_126.1 M_126.2.1 M_126.2.2.1 M_126.2.2.2 90 (o_al 0 1) := ok_aload_n dX11_copyFeature_90 rfl
theorem k_126_91 : mOk M_126.1 M_126.2.1 M_126.2.2.1 M_126.2.2.2 91 (o_gP 11 7) := ok_gP dX11_copyFeature_91 f_RX11_32 rfl
theorem k_126_94 : mOk M_126.1 M_126.2.1 M_126.2.2.1 M_126.2.2.2 94 (oS 2 (s_push (.int 12))) := ok_bipush dX11_copyFeature_94 (by decide)
theorem k_126_96 : mOk M_126.1 M_126.2.1 M_126.2.2.1 M_126.2.2.2 96 (o_il 1 1) := ok_iload_n dX11_copyFeature_96 rfl
theorem k_126_97 : mOk M_126.1 M_126.2.1 M_126.2.2.1 M_126.2.2.2 97 (oS 1 (s_ii (fun a b => a * b))) := ok_imul dX11_copyFeature_97
theorem k_126_98 : mOk M_126.1 M_126.2.1 M_126.2.2.1 M_126.2.2.2 98 (o_il 3 1) := ok_iload_n dX11_copyFeature_98 rfl
theorem k_126_99 : mOk M_126.1 M_126.2.1 M_126.2.2.1 M_126.2.2.2 99 (oS 1 (s_ii (fun a b => a + b))) := ok_iadd dX11_copyFeature_99
theorem k_126_100 : mOk M_126.1 M_126.2.1 M_126.2.2.1 M_126.2.2.2 100 (o_iald) := ok_iald dX11_copyFeature_100
theorem k_126_101 : mOk M_126.1 M_126.2.1 M_126.2.2.1 M_126.2.2.2 101 (o_iast) := ok_iast dX11_copyFeature_101
theorem k_126_102 : mOk M_126.1 M_126.2.1 M_126.2.2.1 M_126.2.2.2 102 (o_al 0 1) := ok_aload_n dX11_copyFeature_102 rfl
theorem k_126_103 : mOk M_126.1 M_126.2.1 M_126.2.2.1 M_126.2.2.2 103 (o_gP 11 8) := ok_gP dX11_copyFeature_103 f_RX11_35 rfl
theorem k_126_106 : mOk M_126.1 M_126.2.1 M_126.2.2.1 M_126.2.2.2 106 (oS 2 (s_push (.int 12))) := ok_bipush dX11_copyFeature_106 (by decide)
theorem k_126_108 : mOk M_126.1 M_126.2.1 M_126.2.2.1 M_126.2.2.2 108 (o_il 2 1) := ok_iload_n dX11_copyFeature_108 rfl
theorem k_126_109 : mOk M_126.1 M_126.2.1 M_126.2.2.1 M_126.2.2.2 109 (oS 1 (s_ii (fun a b => a * b))) := ok_imul dX11_copyFeature_109
theorem k_126_110 : mOk M_126.1 M_126.2.1 M_126.2.2.1 M_126.2.2.2 110 (o_il 3 1) := ok_iload_n dX11_copyFeature_110 rfl
theorem k_126_111 : mOk M_126.1 M_126.2.1 M_126.2.2.1 M_126.2.2.2 111 (oS 1 (s_ii (fun a b => a + b))) := ok_iadd dX11_copyFeature_111
theorem k_126_112 : mOk M_126.1 M_126.2.1 M_126.2.2.1 M_126.2.2.2 112 (o_al 0 1) := ok_aload_n dX11_copyFeature_112 rfl
theorem k_126_113 : mOk M_126.1 M_126.2.1 M_126.2.2.1 M_126.2.2.2 113 (o_gP 11 8) := ok_gP dX11_copyFeature_113 f_RX11_35 rfl
theorem k_126_116 : mOk M_126.1 M_126.2.1 M_126.2.2.1 M_126.2.2.2 116 (oS 2 (s_push (.int 12))) := ok_bipush dX11_copyFeature_116 (by decide)
theorem k_126_118 : mOk M_126.1 M_126.2.1 M_126.2.2.1 M_126.2.2.2 118 (o_il 1 1) := ok_iload_n dX11_copyFeature_118 rfl
theorem k_126_119 : mOk M_126.1 M_126.2.1 M_126.2.2.1 M_126.2.2.2 119 (oS 1 (s_ii (fun a b => a * b))) := ok_imul dX11_copyFeature_119
theorem k_126_120 : mOk M_126.1 M_126.2.1 M_126.2.2.1 M_126.2.2.2 120 (o_il 3 1) := ok_iload_n dX11_copyFeature_120 rfl
theorem k_126_121 : mOk M_126.1 M_126.2.1 M_126.2.2.1 M_126.2.2.2 121 (oS 1 (s_ii (fun a b => a + b))) := ok_iadd dX11_copyFeature_121
theorem k_126_122 : mOk M_126.1 M_126.2.1 M_126.2.2.1 M_126.2.2.2 122 (o_iald) := ok_iald dX11_copyFeature_122
theorem k_126_123 : mOk M_126.1 M_126.2.1 M_126.2.2.1 M_126.2.2.2 123 (o_iast) := ok_iast dX11_copyFeature_123
theorem k_126_124 : mOk M_126.1 M_126.2.1 M_126.2.2.1 M_126.2.2.2 124 (o_inc 3 1) := ok_iinc dX11_copyFeature_124 (by decide)
theorem k_126_127 : mOk M_126.1 M_126.2.1 M_126.2.2.1 M_126.2.2.2 127 (o_goto 74) := ok_goto dX11_copyFeature_127 (by decide)
set_option maxRecDepth 20000 in
set_option maxHeartbeats 4000000 in
theorem tk_126 (l : Launch) (H9 : mThr l) (H10 : mSpl l) (pc : Nat) (q : mEnt) (h : tb_126 pc = some q) : EE l 126 pc q := nd h (fun h => nd h (fun h => nd h (fun h => nd h (fun h => nd h (fun h => nd h (fun h => lf (P := EE l 126) h k_126_0) (fun h => lf (P := EE l 126) h k_126_1)) (fun h => nd h (fun h => lf (P := EE l 126) h k_126_4) (fun h => nd h (fun h => lf (P := EE l 126) h k_126_5) (fun h => lf (P := EE l 126) h k_126_6)))) (fun h => nd h (fun h => nd h (fun h => lf (P := EE l 126) h k_126_9) (fun h => nd h (fun h => lf (P := EE l 126) h k_126_10) (fun h => lf (P := EE l 126) h k_126_11))) (fun h => nd h (fun h => lf (P := EE l 126) h k_126_12) (fun h => nd h (fun h => lf (P := EE l 126) h k_126_13) (fun h => lf (P := EE l 126) h k_126_16))))) (fun h => nd h (fun h => nd h (fun h => nd h (fun h => lf (P := EE l 126) h k_126_17) (fun h => lf (P := EE l 126) h k_126_18)) (fun h => nd h (fun h => lf (P := EE l 126) h k_126_21) (fun h => nd h (fun h => lf (P := EE l 126) h k_126_22) (fun h => lf (P := EE l 126) h k_126_23)))) (fun h => nd h (fun h => nd h (fun h => lf (P := EE l 126) h k_126_24) (fun h => nd h (fun h => lf (P := EE l 126) h k_126_25) (fun h => lf (P := EE l 126) h k_126_28))) (fun h => nd h (fun h => lf (P := EE l 126) h k_126_29) (fun h => nd h (fun h => lf (P := EE l 126) h k_126_30) (fun h => lf (P := EE l 126) h k_126_33)))))) (fun h => nd h (fun h => nd h (fun h => nd h (fun h => nd h (fun h => lf (P := EE l 126) h k_126_34) (fun h => lf (P := EE l 126) h k_126_35)) (fun h => nd h (fun h => lf (P := EE l 126) h k_126_36) (fun h => nd h (fun h => lf (P := EE l 126) h k_126_37) (fun h => lf (P := EE l 126) h k_126_40)))) (fun h => nd h (fun h => nd h (fun h => lf (P := EE l 126) h k_126_41) (fun h => nd h (fun h => lf (P := EE l 126) h k_126_42) (fun h => lf (P := EE l 126) h k_126_45))) (fun h => nd h (fun h => lf (P := EE l 126) h k_126_46) (fun h => nd h (fun h => lf (P := EE l 126) h k_126_47) (fun h => lf (P := EE l 126) h k_126_48))))) (fun h => nd h (fun h => nd h (fun h => nd h (fun h => lf (P := EE l 126) h k_126_49) (fun h => lf (P := EE l 126) h k_126_52)) (fun h => nd h (fun h => lf (P := EE l 126) h k_126_53) (fun h => nd h (fun h => lf (P := EE l 126) h k_126_54) (fun h => lf (P := EE l 126) h k_126_57)))) (fun h => nd h (fun h => nd h (fun h => lf (P := EE l 126) h k_126_58) (fun h => nd h (fun h => lf (P := EE l 126) h k_126_59) (fun h => lf (P := EE l 126) h k_126_60))) (fun h => nd h (fun h => lf (P := EE l 126) h k_126_61) (fun h => nd h (fun h => lf (P := EE l 126) h k_126_64) (fun h => lf (P := EE l 126) h k_126_65))))))) (fun h => nd h (fun h => nd h (fun h => nd h (fun h => nd h (fun h => nd h (fun h => lf (P := EE l 126) h k_126_66) (fun h => lf (P := EE l 126) h k_126_69)) (fun h => nd h (fun h => lf (P := EE l 126) h k_126_70) (fun h => nd h (fun h => lf (P := EE l 126) h k_126_71) (fun h => lf (P := EE l 126) h k_126_72)))) (fun h => nd h (fun h => nd h (fun h => lf (P := EE l 126) h k_126_73) (fun h => nd h (fun h => lf (P := EE l 126) h k_126_74) (fun h => lf (P := EE l 126) h k_126_75))) (fun h => nd h (fun h => lf (P := EE l 126) h k_126_77) (fun h => nd h (fun h => lf (P := EE l 126) h k_126_80) (fun h => lf (P := EE l 126) h k_126_81))))) (fun h => nd h (fun h => nd h (fun h => nd h (fun h => lf (P := EE l 126) h k_126_84) (fun h => lf (P := EE l 126) h k_126_86)) (fun h => nd h (fun h => lf (P := EE l 126) h k_126_87) (fun h => nd h (fun h => lf (P := EE l 126) h k_126_88) (fun h => lf (P := EE l 126) h k_126_89)))) (fun h => nd h (fun h => nd h (fun h => lf (P := EE l 126) h k_126_90) (fun h => nd h (fun h => lf (P := EE l 126) h k_126_91) (fun h => lf (P := EE l 126) h k_126_94))) (fun h => nd h (fun h => lf (P := EE l 126) h k_126_96) (fun h => nd h (fun h => lf (P := EE l 126) h k_126_97) (fun h => lf (P := EE l 126) h k_126_98)))))) (fun h => nd h (fun h => nd h (fun h => nd h (fun h => nd h (fun h => lf (P := EE l 126) h k_126_99) (fun h => lf (P := EE l 126) h k_126_100)) (fun h => nd h (fun h => lf (P := EE l 126) h k_126_101) (fun h => nd h (fun h => lf (P := EE l 126) h k_126_102) (fun h => lf (P := EE l 126) h k_126_103)))) (fun h => nd h (fun h => nd h (fun h => lf (P := EE l 126) h k_126_106) (fun h => nd h (fun h => lf (P := EE l 126) h k_126_108) (fun h => lf (P := EE l 126) h k_126_109))) (fun h => nd h (fun h => lf (P := EE l 126) h k_126_110) (fun h => nd h (fun h => lf (P := EE l 126) h k_126_111) (fun h => lf (P := EE l 126) h k_126_112))))) (fun h => nd h (fun h => nd h (fun h => nd h (fun h => lf (P := EE l 126) h k_126_113) (fun h => lf (P := EE l 126) h k_126_116)) (fun h => nd h (fun h => lf (P := EE l 126) h k_126_118) (fun h => nd h (fun h => lf (P := EE l 126) h k_126_119) (fun h => lf (P := EE l 126) h k_126_120)))) (fun h => nd h (fun h => nd h (fun h => lf (P := EE l 126) h k_126_121) (fun h => nd h (fun h => lf (P := EE l 126) h k_126_122) (fun h => lf (P := EE l 126) h k_126_123))) (fun h => nd h (fun h => lf (P := EE l 126) h k_126_124) (fun h => nd h (fun h => lf (P := EE l 126) h k_126_127) (fun h => lf (P := EE l 126) h (EE_re (Or.inr (Or.inr (Or.inr (Or.inr ⟨rfl, dX11_copyFeature_130, rfl⟩))))))))))))
theorem dX11_feature_0 : decode cX11_feature 0 = .ok (.iload_n 1, 1) := by decide +kernel
theorem dX11_feature_1 : decode cX11_feature 1 = .ok (.iconst 1, 1) := by decide +kernel
theorem dX11_feature_2 : decode cX11_feature 2 = .ok (.sipush 9999, 3) := by decide +kernel
theorem dX11_feature_5 : decode cX11_feature 5 = .ok (.invokestatic 137, 3) := by decide +kernel
theorem dX11_feature_8 : decode cX11_feature 8 = .ok (.ifCond .eq 44, 3) := by decide +kernel
theorem dX11_feature_11 : decode cX11_feature 11 = .ok (.iload_n 2, 1) := by decide +kernel
theorem dX11_feature_12 : decode cX11_feature 12 = .ok (.iconst 0, 1) := by decide +kernel
theorem dX11_feature_13 : decode cX11_feature 13 = .ok (.iconst 2, 1) := by decide +kernel
theorem dX11_feature_14 : decode cX11_feature 14 = .ok (.invokestatic 137, 3) := by decide +kernel
theorem dX11_feature_17 : decode cX11_feature 17 = .ok (.ifCond .eq 35, 3) := by decide +kernel
theorem dX11_feature_20 : decode cX11_feature 20 = .ok (.iload_n 3, 1) := by decide +kernel
theorem dX11_feature_21 : decode cX11_feature 21 = .ok (.iconst 0, 1) := by decide +kernel
theorem dX11_feature_22 : decode cX11_feature 22 = .ok (.bipush 9, 2) := by decide +kernel
theorem dX11_feature_24 : decode cX11_feature 24 = .ok (.invokestatic 137, 3) := by decide +kernel
theorem dX11_feature_27 : decode cX11_feature 27 = .ok (.ifCond .eq 25, 3) := by decide +kernel
theorem dX11_feature_30 : decode cX11_feature 30 = .ok (.iload 4, 2) := by decide +kernel
theorem dX11_feature_32 : decode cX11_feature 32 = .ok (.iconst 0, 1) := by decide +kernel
theorem dX11_feature_33 : decode cX11_feature 33 = .ok (.iconst 4, 1) := by decide +kernel
theorem dX11_feature_34 : decode cX11_feature 34 = .ok (.invokestatic 137, 3) := by decide +kernel
theorem dX11_feature_37 : decode cX11_feature 37 = .ok (.ifCond .eq 15, 3) := by decide +kernel
theorem dX11_feature_40 : decode cX11_feature 40 = .ok (.lload 5, 2) := by decide +kernel
theorem dX11_feature_42 : decode cX11_feature 42 = .ok (.invokestatic 167, 3) := by decide +kernel
theorem dX11_feature_45 : decode cX11_feature 45 = .ok (.ifCond .eq 7, 3) := by decide +kernel
theorem dX11_feature_48 : decode cX11_feature 48 = .ok (.iconst 1, 1) := by decide +kernel
theorem dX11_feature_49 : decode cX11_feature 49 = .ok (.goto 4, 3) := by decide +kernel
theorem dX11_feature_52 : decode cX11_feature 52 = .ok (.iconst 0, 1) := by decide +kernel
theorem dX11_feature_53 : decode cX11_feature 53 = .ok (.istore 7, 2) := by decide +kernel
theorem dX11_feature_55 : decode cX11_feature 55 = .ok (.iload 7, 2) := by decide +kernel
theorem dX11_feature_57 : decode cX11_feature 57 = .ok (.ifCond .eq 14, 3) := by decide +kernel
theorem dX11_feature_60 : decode cX11_feature 60 = .ok (.aload_n 0, 1) := by decide +kernel
theorem dX11_feature_61 : decode cX11_feature 61 = .ok (.iload_n 2, 1) := by decide +kernel
theorem dX11_feature_62 : decode cX11_feature 62 = .ok (.invokevirtual 171, 3) := by decide +kernel
theorem dX11_feature_65 : decode cX11_feature 65 = .ok (.ifCond .ne 6, 3) := by decide +kernel
theorem dX11_feature_68 : decode cX11_feature 68 = .ok (.iconst 0, 1) := by decide +kernel
theorem dX11_feature_69 : decode cX11_feature 69 = .ok (.istore 7, 2) := by decide +kernel
theorem dX11_feature_71 : decode cX11_feature 71 = .ok (.aload_n 0, 1) := by decide +kernel
theorem dX11_feature_72 : decode cX11_feature 72 = .ok (.getfield 145, 3) := by decide +kernel
theorem dX11_feature_75 : decode cX11_feature 75 = .ok (.istore 8, 2) := by decide +kernel
theorem dX11_feature_77 : decode cX11_feature 77 = .ok (.aload_n 0, 1) := by decide +kernel
theorem dX11_feature_78 : decode cX11_feature 78 = .ok (.iconst 0, 1) := by decide +kernel
theorem dX11_feature_79 : decode cX11_feature 79 = .ok (.putfield 145, 3) := by decide +kernel
theorem dX11_feature_82 : decode cX11_feature 82 = .ok (.aload_n 0, 1) := by decide +kernel
theorem dX11_feature_83 : decode cX11_feature 83 = .ok (.iconst 0, 1) := by decide +kernel
theorem dX11_feature_84 : decode cX11_feature 84 = .ok (.iload_n 1, 1) := by decide +kernel
theorem dX11_feature_85 : decode cX11_feature 85 = .ok (.invokevirtual 174, 3) := by decide +kernel
theorem dX11_feature_88 : decode cX11_feature 88 = .ok (.istore 9, 2) := by decide +kernel
theorem dX11_feature_90 : decode cX11_feature 90 = .ok (.aload_n 0, 1) := by decide +kernel
theorem dX11_feature_91 : decode cX11_feature 91 = .ok (.iload 7, 2) := by decide +kernel
theorem dX11_feature_93 : decode cX11_feature 93 = .ok (.ifCond .ne 7, 3) := by decide +kernel
theorem dX11_feature_96 : decode cX11_feature 96 = .ok (.iconst 1, 1) := by decide +kernel
theorem dX11_feature_97 : decode cX11_feature 97 = .ok (.goto 25, 3) := by decide +kernel
theorem dX11_feature_100 : decode cX11_feature 100 = .ok (.iload 9, 2) := by decide +kernel
theorem dX11_feature_102 : decode cX11_feature 102 = .ok (.iconst (-1), 1) := by decide +kernel
theorem dX11_feature_103 : decode cX11_feature 103 = .ok (.if_icmp .ne 18, 3) := by decide +kernel
theorem dX11_feature_106 : decode cX11_feature 106 = .ok (.aload_n 0, 1) := by decide +kernel
theorem dX11_feature_107 : decode cX11_feature 107 = .ok (.getfield 7, 3) := by decide +kernel
theorem dX11_feature_110 : decode cX11_feature 110 = .ok (.iconst 0, 1) := by decide +kernel
theorem dX11_feature_111 : decode cX11_feature 111 = .ok (.iaload, 1) := by decide +kernel
theorem dX11_feature_112 : decode cX11_feature 112 = .ok (.bipush 24, 2) := by decide +kernel
theorem dX11_feature_114 : decode cX11_feature 114 = .ok (.if_icmp .ne 7, 3) := by decide +kernel
theorem dX11_feature_117 : decode cX11_feature 117 = .ok (.iconst 2, 1) := by decide +kernel
theorem dX11_feature_118 : decode cX11_feature 118 = .ok (.goto 4, 3) := by decide +kernel
theorem dX11_feature_121 : decode cX11_feature 121 = .ok (.iconst 0, 1) := by decide +kernel
theorem dX11_feature_122 : decode cX11_feature 122 = .ok (.putfield 133, 3) := by decide +kernel
theorem dX11_feature_125 : decode cX11_feature 125 = .ok (.aload_n 0, 1) := by decide +kernel
theorem dX11_feature_126 : decode cX11_feature 126 = .ok (.getfield 133, 3) := by decide +kernel
theorem dX11_feature_129 : decode cX11_feature 129 = .ok (.ifCond .eq 5, 3) := by decide +kernel
theorem dX11_feature_132 : decode cX11_feature 132 = .ok (.iconst 0, 1) := by decide +kernel
theorem dX11_feature_133 : decode cX11_feature 133 = .ok (.ireturn, 1) := by decide +kernel
theorem dX11_feature_134 : decode cX11_feature 134 = .ok (.iload 9, 2) := by decide +kernel
theorem dX11_feature_136 : decode cX11_feature 136 = .ok (.iconst (-1), 1) := by decide +kernel
theorem dX11_feature_137 : decode cX11_feature 137 = .ok (.if_icmp .ne 55, 3) := by decide +kernel
theorem dX11_feature_140 : decode cX11_feature 140 = .ok (.aload_n 0, 1) := by decide +kernel
theorem dX11_feature_141 : decode cX11_feature 141 = .ok (.getfield 7, 3) := by decide +kernel
theorem dX11_feature_144 : decode cX11_feature 144 = .ok (.iconst 0, 1) := by decide +kernel
theorem dX11_feature_145 : decode cX11_feature 145 = .ok (.iaload, 1) := by decide +kernel
theorem dX11_feature_146 : decode cX11_feature 146 = .ok (.istore 9, 2) := by decide +kernel
theorem dX11_feature_148 : decode cX11_feature 148 = .ok (.iload 9, 2) := by decide +kernel
theorem dX11_feature_150 : decode cX11_feature 150 = .ok (.ifCond .le 32, 3) := by decide +kernel
theorem dX11_feature_153 : decode cX11_feature 153 = .ok (.aload_n 0, 1) := by decide +kernel
theorem dX11_feature_154 : decode cX11_feature 154 = .ok (.getfield 13, 3) := by decide +kernel
theorem dX11_feature_157 : decode cX11_feature 157 = .ok (.iload 9, 2) := by decide +kernel
theorem dX11_feature_159 : decode cX11_feature 159 = .ok (.iconst 1, 1) := by decide +kernel
theorem dX11_feature_160 : decode cX11_feature 160 = .ok (.isub, 1) := by decide +kernel
theorem dX11_feature_161 : decode cX11_feature 161 = .ok (.iaload, 1) := by decide +kernel
theorem dX11_feature_162 : decode cX11_feature 162 = .ok (.iload_n 1, 1) := by decide +kernel
theorem dX11_feature_163 : decode cX11_feature 163 = .ok (.if_icmp .le 19, 3) := by decide +kernel
theorem dX11_feature_166 : decode cX11_feature 166 = .ok (.aload_n 0, 1) := by decide +kernel
theorem dX11_feature_167 : decode cX11_feature 167 = .ok (.iload 9, 2) := by decide +kernel
theorem dX11_feature_169 : decode cX11_feature 169 = .ok (.iconst 1, 1) := by decide +kernel
theorem dX11_feature_170 : decode cX11_feature 170 = .ok (.isub, 1) := by decide +kernel
theorem dX11_feature_171 : decode cX11_feature 171 = .ok (.iload 9, 2) := by decide +kernel
theorem dX11_feature_173 : decode cX11_feature 173 = .ok (.invokevirtual 178, 3) := by decide +kernel
theorem dX11_feature_176 : decode cX11_feature 176 = .ok (.iinc 9 (-1), 3) := by decide +kernel
theorem dX11_feature_179 : decode cX11_feature 179 = .ok (.goto (-31), 3) := by decide +kernel
theorem dX11_feature_182 : decode cX11_feature 182 = .ok (.aload_n 0, 1) := by decide +kernel
theorem dX11_feature_183 : decode cX11_feature 183 = .ok (.getfield 7, 3) := by decide +kernel
theorem dX11_feature_186 : decode cX11_feature 186 = .ok (.iconst 0, 1) := by decide +kernel
theorem dX11_feature_187 : decode cX11_feature 187 = .ok (.dup2, 1) := by decide +kernel
theorem dX11_feature_188 : decode cX11_feature 188 = .ok (.iaload, 1) := by decide +kernel
theorem dX11_feature_189 : decode cX11_feature 189 = .ok (.iconst 1, 1) := by decide +kernel
theorem dX11_feature_190 : decode cX11_feature 190 = .ok (.iadd, 1) := by decide +kernel
theorem dX11_feature_191 : decode cX11_feature 191 = .ok (.iastore, 1) := by decide +kernel
theorem dX11_feature_192 : decode cX11_feature 192 = .ok (.aload_n 0, 1) := by decide +kernel
theorem dX11_feature_193 : decode cX11_feature 193 = .ok (.getfield 13, 3) := by decide +kernel
theorem dX11_feature_196 : decode cX11_feature 196 = .ok (.iload 9, 2) := by decide +kernel
theorem dX11_feature_198 : decode cX11_feature 198 = .ok (.iload_n 1, 1) := by decide +kernel
theorem dX11_feature_199 : decode cX11_feature 199 = .ok (.iastore, 1) := by decide +kernel
theorem dX11_feature_200 : decode cX11_feature 200 = .ok (.aload_n 0, 1) := by decide +kernel
theorem dX11_feature_201 : decode cX11_feature 201 = .ok (.getfield 16, 3) := by decide +kernel
theorem dX11_feature_204 : decode cX11_feature 204 = .ok (.iload 9, 2) := by decide +kernel
theorem dX11_feature_206 : decode cX11_feature 206 = .ok (.iload_n 2, 1) := by decide +kernel
theorem dX11_feature_207 : decode cX11_feature 207 = .ok (.iastore, 1) := by decide +kernel
theorem dX11_feature_208 : decode cX11_feature 208 = .ok (.aload_n 0, 1) := by decide +kernel
theorem dX11_feature_209 : decode cX11_feature 209 = .ok (.getfield 19, 3) := by decide +kernel
theorem dX11_feature_212 : decode cX11_feature 212 = .ok (.iload 9, 2) := by decide +kernel
theorem dX11_feature_214 : decode cX11_feature 214 = .ok (.iload_n 3, 1) := by decide +kernel
theorem dX11_feature_215 : decode cX11_feature 215 = .ok (.iastore, 1) := by decide +kernel
theorem dX11_feature_216 : decode cX11_feature 216 = .ok (.aload_n 0, 1) := by decide +kernel
theorem dX11_feature_217 : decode cX11_feature 217 = .ok (.getfield 22, 3) := by decide +kernel
theorem dX11_feature_220 : decode cX11_feature 220 = .ok (.iload 9, 2) := by decide +kernel
theorem dX11_feature_222 : decode cX11_feature 222 = .ok (.iload 4, 2) := by decide +kernel
theorem dX11_feature_224 : decode cX11_feature 224 = .ok (.iastore, 1) := by decide +kernel
theorem dX11_feature_225 : decode cX11_feature 225 = .ok (.aload_n 0, 1) := by decide +kernel
theorem dX11_feature_226 : decode cX11_feature 226 = .ok (.getfield 25, 3) := by decide +kernel
theorem dX11_feature_229 : decode cX11_feature 229 = .ok (.iload 9, 2) := by decide +kernel
theorem dX11_feature_231 : decode cX11_feature 231 = .ok (.lload 5, 2) := by decide +kernel
theorem dX11_feature_233 : decode cX11_feature 233 = .ok (.lastore, 1) := by decide +kernel
theorem dX11_feature_234 : decode cX11_feature 234 = .ok (.aload_n 0, 1) := by decide +kernel
theorem dX11_feature_235 : decode cX11_feature 235 = .ok (.getfield 29, 3) := by decide +kernel
theorem dX11_feature_238 : decode cX11_feature 238 = .ok (.iload 9, 2) := by decide +kernel
theorem dX11_feature_240 : decode cX11_feature 240 = .ok (.iload 8, 2) := by decide +kernel
theorem dX11_feature_242 : decode cX11_feature 242 = .ok (.iastore, 1) := by decide +kernel
theorem dX11_feature_243 : decode cX11_feature 243 = .ok (.iconst 0, 1) := by decide +kernel
theorem dX11_feature_244 : decode cX11_feature 244 = .ok (.istore 10, 2) := by decide +kernel
theorem dX11_feature_246 : decode cX11_feature 246 = .ok (.iload 10, 2) := by decide +kernel
theorem dX11_feature_248 : decode cX11_feature 248 = .ok (.iload 8, 2) := by decide +kernel
theorem dX11_feature_250 : decode cX11_feature 250 = .ok (.if_icmp .ge 49, 3) := by decide +kernel
theorem dX11_feature_253 : decode cX11_feature 253 = .ok (.aload_n 0, 1) := by decide +kernel
theorem dX11_feature_254 : decode cX11_feature 254 = .ok (.getfield 32, 3) := by decide +kernel
theorem dX11_feature_257 : decode cX11_feature 257 = .ok (.bipush 12, 2) := by decide +kernel
theorem dX11_feature_259 : decode cX11_feature 259 = .ok (.iload 9, 2) := by decide +kernel
theorem dX11_feature_261 : decode cX11_feature 261 = .ok (.imul, 1) := by decide +kernel
theorem dX11_feature_262 : decode cX11_feature 262 = .ok (.iload 10, 2) := by decide +kernel
theorem dX11_feature_264 : decode cX11_feature 264 = .ok (.iadd, 1) := by decide +kernel
theorem dX11_feature_265 : decode cX11_feature 265 = .ok (.aload_n 0, 1) := by decide +kernel
theorem dX11_feature_266 : decode cX11_feature 266 = .ok (.getfield 38, 3) := by decide +kernel
theorem dX11_feature_269 : decode cX11_feature 269 = .ok (.iload 10, 2) := by decide +kernel
theorem dX11_feature_271 : decode cX11_feature 271 = .ok (.iaload, 1) := by decide +kernel
theorem dX11_feature_272 : decode cX11_feature 272 = .ok (.iastore, 1) := by decide +kernel
theorem dX11_feature_273 : decode cX11_feature 273 = .ok (.aload_n 0, 1) := by decide +kernel
theorem dX11_feature_274 : decode cX11_feature 274 = .ok (.getfield 35, 3) := by decide +kernel
theorem dX11_feature_277 : decode cX11_feature 277 = .ok (.bipush 12, 2) := by decide +kernel
theorem dX11_feature_279 : decode cX11_feature 279 = .ok (.iload 9, 2) := by decide +kernel
theorem dX11_feature_281 : decode cX11_feature 281 = .ok (.imul, 1) := by decide +kernel
theorem dX11_feature_282 : decode cX11_feature 282 = .ok (.iload 10, 2) := by decide +kernel
theorem dX11_feature_284 : decode cX11_feature 284 = .ok (.iadd, 1) := by decide +kernel
theorem dX11_feature_285 : decode cX11_feature 285 = .ok (.aload_n 0, 1) := by decide +kernel
theorem dX11_feature_286 : decode cX11_feature 286 = .ok (.getfield 41, 3) := by decide +kernel
theorem dX11_feature_289 : decode cX11_feature 289 = .ok (.iload 10, 2) := by decide +kernel
theorem dX11_feature_291 : decode cX11_feature 291 = .ok (.iaload, 1) := by decide +kernel
theorem dX11_feature_292 : decode cX11_feature 292 = .ok (.iastore, 1) := by decide +kernel
theorem dX11_feature_293 : decode cX11_feature 293 = .ok (.iinc 10 1, 3) := by decide +kernel
theorem dX11_feature_296 : decode cX11_feature 296 = .ok (.goto (-50), 3) := by decide +kernel
theorem dX11_feature_299 : decode cX11_feature 299 = .ok (.aload_n 0, 1) := by decide +kernel
theorem dX11_feature_300 : decode cX11_feature 300 = .ok (.getfield 7, 3) := by decide +kernel
theorem dX11_feature_303 : decode cX11_feature 303 = .ok (.iconst 0, 1) := by decide +kernel
theorem dX11_feature_304 : decode cX11_feature 304 = .ok (.iaload, 1) := by decide +kernel
theorem dX11_feature_305 : decode cX11_feature 305 = .ok (.ireturn, 1) := by decide +kernel
def tb_127 (pc : Nat) : Option mEnt := bif Nat.ble pc 160 then (bif Nat.ble pc 82 then (bif Nat.ble pc 40 then (bif Nat.ble pc 17 then (bif Nat.ble pc 8 then (bif Nat.ble pc 1 then (bif Nat.ble pc 0 then (bif Nat.beq pc 0 then some (.inl (o_il 1 1)) else none) else (bif Nat.beq pc 1 then some (.inl (oS 1 (s_push (.int 1)))) else none)) else (bif Nat.ble pc 2 then (bif Nat.beq pc 2 then some (.inl (oS 3 (s_push (.int 9999)))) else none) else (bif Nat.ble pc 5 then (bif Nat.beq pc 5 then some (.inr (2, 115, 3, 0)) else none) else (bif Nat.beq pc 8 then some (.inl (o_zeq 52)) else none)))) else (bif Nat.ble pc 12 then (bif Nat.ble pc 11 then (bif Nat.beq pc 11 then some (.inl (o_il 2 1)) else none) else (bif Nat.beq pc 12 then some (.inl (oS 1 (s_push (.int 0)))) else none)) else (bif Nat.ble pc 13 then (bif Nat.beq pc 13 then some (.inl (oS 1 (s_push (.int 2)))) else none) else (bif Nat.ble pc 14 then (bif Nat.beq pc 14 then some (.inr (2, 115, 3, 0)) else none) else (bif Nat.beq pc 17 then some (.inl (o_zeq 52)) else none))))) else (bif Nat.ble pc 27 then (bif Nat.ble pc 21 then (bif Nat.ble pc 20 then (bif Nat.beq pc 20 then some (.inl (o_il 3 1)) else none) else (bif Nat.beq pc 21 then some (.inl (oS 1 (s_push (.int 0)))) else none)) else (bif Nat.ble pc 22 then (bif Nat.beq pc 22 then some (.inl (oS 2 (s_push (.int 9)))) else none) else (bif Nat.ble pc 24 then (bif Nat.beq pc 24 then some (.inr (2, 115, 3, 0)) else none) else (bif Nat.beq pc 27 then some (.inl (o_zeq 52)) else none)))) else (bif Nat.ble pc 33 then (bif Nat.ble pc 30 then (bif Nat.beq pc 30 then some (.inl (o_il 4 2)) else none) else (bif Nat.ble pc 32 then (bif Nat.beq pc 32 then some (.inl (oS 1 (s_push (.int 0)))) else none) else (bif Nat.beq pc 33 then some (.inl (oS 1 (s_push (.int 4)))) else none))) else (bif Nat.ble pc 34 then (bif Nat.beq pc 34 then some (.inr (2, 115, 3, 0)) else none) else (bif Nat.ble pc 37 then (bif Nat.beq pc 37 then some (.inl (o_zeq 52)) else none) else (bif Nat.beq pc 40 then some (.inl (o_ll 5 2)) else none)))))) else (bif Nat.ble pc 61 then (bif Nat.ble pc 52 then (bif Nat.ble pc 45 then (bif Nat.ble pc 42 then (bif Nat.beq pc 42 then some (.inr (2, 118, 1, 0)) else none) else (bif Nat.beq pc 45 then some (.inl (o_zeq 52)) else none)) else (bif Nat.ble pc 48 then (bif Nat.beq pc 48 then some (.inl (oS 1 (s_push (.int 1)))) else none) else (bif Nat.ble pc 49 then (bif Nat.beq pc 49 then some (.inl (o_goto 53)) else none) else (bif Nat.beq pc 52 then some (.inl (oS 1 (s_push (.int 0)))) else none)))) else (bif Nat.ble pc 55 then (bif Nat.ble pc 53 then (bif Nat.beq pc 53 then some (.inl (o_is 7 2)) else none) else (bif Nat.beq pc 55 then some (.inl (o_il 7 2)) else none)) else (bif Nat.ble pc 57 then (bif Nat.beq pc 57 then some (.inl (o_zeq 71)) else none) else (bif Nat.ble pc 60 then (bif Nat.beq pc 60 then some (.inl (o_al 0 1)) else none) else (bif Nat.beq pc 61 then some (.inl (o_il 2 1)) else none))))) else (bif Nat.ble pc 71 then (bif Nat.ble pc 65 then (bif Nat.ble pc 62 then (bif Nat.beq pc 62 then some (.inr (3, 124, 2, 11)) else none) else (bif Nat.beq pc 65 then some (.inl (o_zne 71)) else none)) else (bif Nat.ble pc 68 then (bif Nat.beq pc 68 then some (.inl (oS 1 (s_push (.int 0)))) else none) else (bif Nat.ble pc 69 then (bif Nat.beq pc 69 then some (.inl (o_is 7 2)) else none) else (bif Nat.beq pc 71 then some (.inl (o_al 0 1)) else none)))) else (bif Nat.ble pc 77 then (bif Nat.ble pc 72 then (bif Nat.beq pc 72 then some (.inl (o_gI 11 12)) else none) else (bif Nat.ble pc 75 then (bif Nat.beq pc 75 then some (.inl (o_is 8 2)) else none) else (bif Nat.beq pc 77 then some (.inl (o_al 0 1)) else none))) else (bif Nat.ble pc 78 then (bif Nat.beq pc 78 then some (.inl (oS 1 (s_push (.int 0)))) else none) else (bif Nat.ble pc 79 then (bif Nat.beq pc 79 then some (.inl (o_pI 11 12)) else none) else (bif Nat.beq pc 82 then some (.inl (o_al 0 1)) else none))))))) else (bif Nat.ble pc 121 then (bif Nat.ble pc 100 then (bif Nat.ble pc 90 then (bif Nat.ble pc 84 then (bif Nat.ble pc 83 then (bif Nat.beq pc 83 then some (.inl (oS 1 (s_push (.int 0)))) else none) else (bif Nat.beq pc 84 then some (.inl (o_il 1 1)) else none)) else (bif Nat.ble pc 85 then (bif Nat.beq pc 85 then some (.inr (3, 125, 3, 11)) else none) else (bif Nat.ble pc 88 then (bif Nat.beq pc 88 then some (.inl (o_is 9 2)) else none) else (bif Nat.beq pc 90 then some (.inl (o_al 0 1)) else none)))) else (bif Nat.ble pc 93 then (bif Nat.ble pc 91 then (bif Nat.beq pc 91 then some (.inl (o_il 7 2)) else none) else (bif Nat.beq pc 93 then some (.inl (o_zne 100)) else none)) else (bif Nat.ble pc 96 then (bif Nat.beq pc 96 then some (.inl (oS 1 (s_push (.int 1)))) else none) else (bif Nat.ble pc 97 then (bif Nat.beq pc 97 then some (.inl (o_goto 122)) else none) else (bif Nat.beq pc 100 then some (.inl (o_il 9 2)) else none))))) else (bif Nat.ble pc 110 then (bif Nat.ble pc 103 then (bif Nat.ble pc 102 then (bif Nat.beq pc 102 then some (.inl (oS 1 (s_push (.int (-1))))) else none) else (bif Nat.beq pc 103 then some (.inl (o_cne 121)) else none)) else (bif Nat.ble pc 106 then (bif Nat.beq pc 106 then some (.inl (o_al 0 1)) else none) else (bif Nat.ble pc 107 then (bif Nat.beq pc 107 then some (.inl (o_gP 11 0)) else none) else (bif Nat.beq pc 110 then some (.inl (oS 1 (s_push (.int 0)))) else none)))) else (bif Nat.ble pc 114 then (bif Nat.ble pc 111 then (bif Nat.beq pc 111 then some (.inl (o_iald)) else none) else (bif Nat.ble pc 112 then (bif Nat.beq pc 112 then some (.inl (oS 2 (s_push (.int 24)))) else none) else (bif Nat.beq pc 114 then some (.inl (o_cne 121)) else none))) else (bif Nat.ble pc 117 then (bif Nat.beq pc 117 then some (.inl (oS 1 (s_push (.int 2)))) else none) else (bif Nat.ble pc 118 then (bif Nat.beq pc 118 then some (.inl (o_goto 122)) else none) else (bif Nat.beq pc 121 then some (.inl (oS 1 (s_push (.int 0)))) else none)))))) else (bif Nat.ble pc 140 then (bif Nat.ble pc 132 then (bif Nat.ble pc 125 then (bif Nat.ble pc 122 then (bif Nat.beq pc 122 then some (.inl (o_pI 11 13)) else none) else (bif Nat.beq pc 125 then some (.inl (o_al 0 1)) else none)) else (bif Nat.ble pc 126 then (bif Nat.beq pc 126 then some (.inl (o_gI 11 13)) else none) else (bif Nat.ble pc 129 then (bif Nat.beq pc 129 then some (.inl (o_zeq 134)) else none) else (bif Nat.beq pc 132 then some (.inl (oS 1 (s_push (.int 0)))) else none)))) else (bif Nat.ble pc 134 then (bif Nat.ble pc 133 then (bif Nat.beq pc 133 then some (.inr (0, 0, 0, 0)) else none) else (bif Nat.beq pc 134 then some (.inl (o_il 9 2)) else none)) else (bif Nat.ble pc 136 then (bif Nat.beq pc 136 then some (.inl (oS 1 (s_push (.int (-1))))) else none) else (bif Nat.ble pc 137 then (bif Nat.beq pc 137 then some (.inl (o_cne 192)) else none) else (bif Nat.beq pc 140 then some (.inl (o_al 0 1)) else none))))) else (bif Nat.ble pc 148 then (bif Nat.ble pc 144 then (bif Nat.ble pc 141 then (bif Nat.beq pc 141 then some (.inl (o_gP 11 0)) else none) else (bif Nat.beq pc 144 then some (.inl (oS 1 (s_push (.int 0)))) else none)) else (bif Nat.ble pc 145 then (bif Nat.beq pc 145 then some (.inl (o_iald)) else none) else (bif Nat.ble pc 146 then (bif Nat.beq pc 146 then some (.inl (o_is 9 2)) else none) else (bif Nat.beq pc 148 then some (.inl (o_il 9 2)) else none)))) else (bif Nat.ble pc 154 then (bif Nat.ble pc 150 then (bif Nat.beq pc 150 then some (.inl (o_zle 182)) else none) else (bif Nat.ble pc 153 then (bif Nat.beq pc 153 then some (.inl (o_al 0 1)) else none) else (bif Nat.beq pc 154 then some (.inl (o_gP 11 1)) else none))) else (bif Nat.ble pc 157 then (bif Nat.beq pc 157 then some (.inl (o_il 9 2)) else none) else (bif Nat.ble pc 159 then (bif Nat.beq pc 159 then some (.inl (oS 1 (s_push (.int 1)))) else none) else (bif Nat.beq pc 160 then some (.inl (oS 1 (s_ii (fun a b => a - b)))) else none)))))))) else (bif Nat.ble pc 229 then (bif Nat.ble pc 193 then (bif Nat.ble pc 176 then (bif Nat.ble pc 167 then (bif Nat.ble pc 162 then (bif Nat.ble pc 161 then (bif Nat.beq pc 161 then some (.inl (o_iald)) else none) else (bif Nat.beq pc 162 then some (.inl (o_il 1 1)) else none)) else (bif Nat.ble pc 163 then (bif Nat.beq pc 163 then some (.inl (o_cle 182)) else none) else (bif Nat.ble pc 166 then (bif Nat.beq pc 166 then some (.inl (o_al 0 1)) else none) else (bif Nat.beq pc 167 then some (.inl (o_il 9 2)) else none)))) else (bif Nat.ble pc 170 then (bif Nat.ble pc 169 then (bif Nat.beq pc 169 then some (.inl (oS 1 (s_push (.int 1)))) else none) else (bif Nat.beq pc 170 then some (.inl (oS 1 (s_ii (fun a b => a - b)))) else none)) else (bif Nat.ble pc 171 then (bif Nat.beq pc 171 then some (.inl (o_il 9 2)) else none) else (bif Nat.ble pc 173 then (bif Nat.beq pc 173 then some (.inr (3, 126, 3, 11)) else none) else (bif Nat.beq pc 176 then some (.inl (o_inc 9 (-1))) else none))))) else (bif Nat.ble pc 187 then (bif Nat.ble pc 182 then (bif Nat.ble pc 179 then (bif Nat.beq pc 179 then some (.inl (o_goto 148)) else none) else (bif Nat.beq pc 182 then some (.inl (o_al 0 1)) else none)) else (bif Nat.ble pc 183 then (bif Nat.beq pc 183 then some (.inl (o_gP 11 0)) else none) else (bif Nat.ble pc 186 then (bif Nat.beq pc 186 then some (.inl (oS 1 (s_push (.int 0)))) else none) else (bif Nat.beq pc 187 then some (.inl (oS 1 s_dup2)) else none)))) else (bif Nat.ble pc 190 then (bif Nat.ble pc 188 then (bif Nat.beq pc 188 then some (.inl (o_iald)) else none) else (bif Nat.ble pc 189 then (bif Nat.beq pc 189 then some (.inl (oS 1 (s_push (.int 1)))) else none) else (bif Nat.beq pc 190 then some (.inl (oS 1 (s_ii (fun a b => a + b)))) else none))) else (bif Nat.ble pc 191 then (bif Nat.beq pc 191 then some (.inl (o_iast)) else none) else (bif Nat.ble pc 192 then (bif Nat.beq pc 192 then some (.inl (o_al 0 1)) else none) else (bif Nat.beq pc 193 then some (.inl (o_gP 11 1)) else none)))))) else (bif Nat.ble pc 209 then (bif Nat.ble pc 201 then (bif Nat.ble pc 198 then (bif Nat.ble pc 196 then (bif Nat.beq pc 196 then some (.inl (o_il 9 2)) else none) else (bif Nat.beq pc 198 then some (.inl (o_il 1 1)) else none)) else (bif Nat.ble pc 199 then (bif Nat.beq pc 199 then some (.inl (o_iast)) else none) else (bif Nat.ble pc 200 then (bif Nat.beq pc 200 then some (.inl (o_al 0 1)) else none) else (bif Nat.beq pc 201 then some (.inl (o_gP 11 2)) else none)))) else (bif Nat.ble pc 206 then (bif Nat.ble pc 204 then (bif Nat.beq pc 204 then some (.inl (o_il 9 2)) else none) else (bif Nat.beq pc 206 then some (.inl (o_il 2 1)) else none)) else (bif Nat.ble pc 207 then (bif Nat.beq pc 207 then some (.inl (o_iast)) else none) else (bif Nat.ble pc 208 then (bif Nat.beq pc 208 then some (.inl (o_al 0 1)) else none) else (bif Nat.beq pc 209 then some (.inl (o_gP 11 3)) else none))))) else (bif Nat.ble pc 217 then (bif Nat.ble pc 214 then (bif Nat.ble pc 212 then (bif Nat.beq pc 212 then some (.inl (o_il 9 2)) else none) else (bif Nat.beq pc 214 then some (.inl (o_il 3 1)) else none)) else (bif Nat.ble pc 215 then (bif Nat.beq pc 215 then some (.inl (o_iast)) else none) else (bif Nat.ble pc 216 then (bif Nat.beq pc 216 then some (.inl (o_al 0 1)) else none) else (bif Nat.beq pc 217 then some (.inl (o_gP 11 4)) else none)))) else (bif Nat.ble pc 224 then (bif Nat.ble pc 220 then (bif Nat.beq pc 220 then some (.inl (o_il 9 2)) else none) else (bif Nat.ble pc 222 then (bif Nat.beq pc 222 then some (.inl (o_il 4 2)) else none) else (bif Nat.beq pc 224 then some (.inl (o_iast)) else none))) else (bif Nat.ble pc 225 then (bif Nat.beq pc 225 then some (.inl (o_al 0 1)) else none) else (bif Nat.ble pc 226 then (bif Nat.beq pc 226 then some (.inl (o_gP 11 5)) else none) else (bif Nat.beq pc 229 then some (.inl (o_il 9 2)) else none))))))) else (bif Nat.ble pc 266 then (bif Nat.ble pc 246 then (bif Nat.ble pc 238 then (bif Nat.ble pc 233 then (bif Nat.ble pc 231 then (bif Nat.beq pc 231 then some (.inl (o_ll 5 2)) else none) else (bif Nat.beq pc 233 then some (.inl (o_last)) else none)) else (bif Nat.ble pc 234 then (bif Nat.beq pc 234 then some (.inl (o_al 0 1)) else none) else (bif Nat.ble pc 235 then (bif Nat.beq pc 235 then some (.inl (o_gP 11 6)) else none) else (bif Nat.beq pc 238 then some (.inl (o_il 9 2)) else none)))) else (bif Nat.ble pc 242 then (bif Nat.ble pc 240 then (bif Nat.beq pc 240 then some (.inl (o_il 8 2)) else none) else (bif Nat.beq pc 242 then some (.inl (o_iast)) else none)) else (bif Nat.ble pc 243 then (bif Nat.beq pc 243 then some (.inl (oS 1 (s_push (.int 0)))) else none) else (bif Nat.ble pc 244 then (bif Nat.beq pc 244 then some (.inl (o_is 10 2)) else none) else (bif Nat.beq pc 246 then some (.inl (o_il 10 2)) else none))))) else (bif Nat.ble pc 257 then (bif Nat.ble pc 250 then (bif Nat.ble pc 248 then (bif Nat.beq pc 248 then some (.inl (o_il 8 2)) else none) else (bif Nat.beq pc 250 then some (.inl (o_cge 299)) else none)) else (bif Nat.ble pc 253 then (bif Nat.beq pc 253 then some (.inl (o_al 0 1)) else none) else (bif Nat.ble pc 254 then (bif Nat.beq pc 254 then some (.inl (o_gP 11 7)) else none) else (bif Nat.beq pc 257 then some (.inl (oS 2 (s_push (.int 12)))) else none)))) else (bif Nat.ble pc 262 then (bif Nat.ble pc 259 then (bif Nat.beq pc 259 then some (.inl (o_il 9 2)) else none) else (bif Nat.ble pc 261 then (bif Nat.beq pc 261 then some (.inl (oS 1 (s_ii (fun a b => a * b)))) else none) else (bif Nat.beq pc 262 then some (.inl (o_il 10 2)) else none))) else (bif Nat.ble pc 264 then (bif Nat.beq pc 264 then some (.inl (oS 1 (s_ii (fun a b => a + b)))) else none) else (bif Nat.ble pc 265 then (bif Nat.beq pc 265 then some (.inl (o_al 0 1)) else none) else (bif Nat.beq pc 266 then some (.inl (o_gP 11 10)) else none)))))) else (bif Nat.ble pc 285 then (bif Nat.ble pc 274 then (bif Nat.ble pc 271 then (bif Nat.ble pc 269 then (bif Nat.beq pc 269 then some (.inl (o_il 10 2)) else none) else (bif Nat.beq pc 271 then some (.inl (o_iald)) else none)) else (bif Nat.ble pc 272 then (bif Nat.beq pc 272 then some (.inl (o_iast)) else none) else (bif Nat.ble pc 273 then (bif Nat.beq pc 273 then some (.inl (o_al 0 1)) else none) else (bif Nat.beq pc 274 then some (.inl (o_gP 11 8)) else none)))) else (bif Nat.ble pc 281 then (bif Nat.ble pc 277 then (bif Nat.beq pc 277 then some (.inl (oS 2 (s_push (.int 12)))) else none) else (bif Nat.ble pc 279 then (bif Nat.beq pc 279 then some (.inl (o_il 9 2)) else none) else (bif Nat.beq pc 281 then some (.inl (oS 1 (s_ii (fun a b => a * b)))) else none))) else (bif Nat.ble pc 282 then (bif Nat.beq pc 282 then some (.inl (o_il 10 2)) else none) else (bif Nat.ble pc 284 then (bif Nat.beq pc 284 then some (.inl (oS 1 (s_ii (fun a b => a + b)))) else none) else (bif Nat.beq pc 285 then some (.inl (o_al 0 1)) else none))))) else (bif Nat.ble pc 293 then (bif Nat.ble pc 289 then (bif Nat.ble pc 286 then (bif Nat.beq pc 286 then some (.inl (o_gP 11 11)) else none) else (bif Nat.beq pc 289 then some (.inl (o_il 10 2)) else none)) else (bif Nat.ble pc 291 then (bif Nat.beq pc 291 then some (.inl (o_iald)) else none) else (bif Nat.ble pc 292 then (bif Nat.beq pc 292 then some (.inl (o_iast)) else none) else (bif Nat.beq pc 293 then some (.inl (o_inc 10 1)) else none)))) else (bif Nat.ble pc 300 then (bif Nat.ble pc 296 then (bif Nat.beq pc 296 then some (.inl (o_goto 246)) else none) else (bif Nat.ble pc 299 then (bif Nat.beq pc 299 then some (.inl (o_al 0 1)) else none) else (bif Nat.beq pc 300 then some (.inl (o_gP 11 0)) else none))) else (bif Nat.ble pc 303 then (bif Nat.beq pc 303 then some (.inl (oS 1 (s_push (.int 0)))) else none) else (bif Nat.ble pc 304 then (bif Nat.beq pc 304 then some (.inl (o_iald)) else none) else (bif Nat.beq pc 305 then some (.inr (0, 0, 0, 0)) else none))))))))
theorem k_127_0 : mOk M_127.1 M_127.2.1 M_127.2.2.1 M_127.2.2.2 0 (o_il 1 1) := ok_iload_n dX11_feature_0 rfl
theorem k_127_1 : mOk M_127.1 M_127.2.1 M_127.2.2.1 M_127.2.2.2 1 (oS 1 (s_push (.int 1))) := ok_iconst dX11_feature_1 (by decide)
theorem k_127_2 : mOk M_127.1 M_127.2.1 M_127.2.2.1 M_127.2.2.2 2 (oS 3 (s_push (.int 9999))) := ok_sipush dX11_feature_2 (by decide)
theorem k_127_8 : mOk M_127.1 M_127.2.1 M_127.2.2.1 M_127.2.2.2 8 (o_zeq 52) := ok_zeq dX11_feature_8 (by decide)
theorem k_127_11 : mOk M_127.1 M_127.2.1 M_127.2.2.1 M_127.2.2.2 11 (o_il 2 1) := ok_iload_n dX11_feature_11 rfl
theorem k_127_12 : mOk M_127.1 M_127.2.1 M_127.2.2.1 M_127.2.2.2 12 (oS 1 (s_push (.int 0))) := ok_iconst dX11_feature_12 (by decide)
theorem k_127_13 : mOk M_127.1 M_127.2.1 M_127.2.2.1 M_127.2.2.2 13 (oS 1 (s_push (.int 2))) := ok_iconst dX11_feature_13 (by decide)
theorem k_127_17 : mOk M_127.1 M_127.2.1 M_127.2.2.1 M_127.2.2.2 17 (o_zeq 52) := ok_zeq dX11_feature_17 (by decide)
theorem k_127_20 : mOk M_127.1 M_127.2.1 M_127.2.2.1 M_127.2.2.2 20 (o_il 3 1) := ok_iload_n dX11_feature_20 rfl
theorem k_127_21 : mOk M_127.1 M_127.2.1 M_127.2.2.1 M_127.2.2.2 21 (oS 1 (s_push (.int 0))) := ok_iconst dX11_feature_21 (by decide)
theorem k_127_22 : mOk M_127.1 M_127.2.1 M_127.2.2.1 M_127.2.2.2 22 (oS 2 (s_push (.int 9))) := ok_bipush dX11_feature_22 (by decide)
theorem k_127_27 : mOk M_127.1 M_127.2.1 M_127.2.2.1 M_127.2.2.2 27 (o_zeq 52) := ok_zeq dX11_feature_27 (by decide)
theorem k_127_30 : mOk M_127.1 M_127.2.1 M_127.2.2.1 M_127.2.2.2 30 (o_il 4 2) := ok_iload dX11_feature_30
theorem k_127_32 : mOk M_127.1 M_127.2.1 M_127.2.2.1 M_127.2.2.2 32 (oS 1 (s_push (.int 0))) := ok_iconst dX11_feature_32 (by decide)
theorem k_127_33 : mOk M_127.1 M_127.2.1 M_127.2.2.1 M_127.2.2.2 33 (oS 1 (s_push (.int 4))) := ok_iconst dX11_feature_33 (by decide)
theorem k_127_37 : mOk M_127.1 M_127.2.1 M_127.2.2.1 M_127.2.2.2 37 (o_zeq 52) := ok_zeq dX11_feature_37 (by decide)
theorem k_127_40 : mOk M_127.1 M_127.2.1 M_127.2.2.1 M_127.2.2.2 40 (o_ll 5 2) := ok_lload dX11_feature_40
theorem k_127_45 : mOk M_127.1 M_127.2.1 M_127.2.2.1 M_127.2.2.2 45 (o_zeq 52) := ok_zeq dX11_feature_45 (by decide)
theorem k_127_48 : mOk M_127.1 M_127.2.1 M_127.2.2.1 M_127.2.2.2 48 (oS 1 (s_push (.int 1))) := ok_iconst dX11_feature_48 (by decide)
theorem k_127_49 : mOk M_127.1 M_127.2.1 M_127.2.2.1 M_127.2.2.2 49 (o_goto 53) := ok_goto dX11_feature_49 (by decide)
theorem k_127_52 : mOk M_127.1 M_127.2.1 M_127.2.2.1 M_127.2.2.2 52 (oS 1 (s_push (.int 0))) := ok_iconst dX11_feature_52 (by decide)
theorem k_127_53 : mOk M_127.1 M_127.2.1 M_127.2.2.1 M_127.2.2.2 53 (o_is 7 2) := ok_istore dX11_feature_53
theorem k_127_55 : mOk M_127.1 M_127.2.1 M_127.2.2.1 M_127.2.2.2 55 (o_il 7 2) := ok_iload dX11_feature_55
theorem k_127_57 : mOk M_127.1 M_127.2.1 M_127.2.2.1 M_127.2.2.2 57 (o_zeq 71) := ok_zeq dX11_feature_57 (by decide)
theorem k_127_60 : mOk M_127.1 M_127.2.1 M_127.2.2.1 M_127.2.2.2 60 (o_al 0 1) := ok_aload_n dX11_feature_60 rfl
theorem k_127_61 : mOk M_127.1 M_127.2.1 M_127.2.2.1 M_127.2.2.2 61 (o_il 2 1) := ok_iload_n dX11_feature_61 rfl
theorem k_127_65 : mOk M_127.1 M_127.2.1 M_127.2.2.1 M_127.2.2.2 65 (o_zne 71) := ok_zne dX11_feature_65 (by decide)
theorem k_127_68 : mOk M_127.1 M_127.2.1 M_127.2.2.1 M_127.2.2.2 68 (oS 1 (s_push (.int 0))) := ok_iconst dX11_feature_68 (by decide)
theorem k_127_69 : mOk M_127.1 M_127.2.1 M_127.2.2.1 M_127.2.2.2 69 (o_is 7 2) := ok_istore dX11_feature_69
theorem k_127_71 : mOk M_127.1 M_127.2.1 M_127.2.2.1 M_127.2.2.2 71 (o_al 0 1) := ok_aload_n dX11_feature_71 rfl
theorem k_127_72 : mOk M_127.1 M_127.2.1 M_127.2.2.1 M_127.2.2.2 72 (o_gI 11 12) := ok_gI dX11_feature_72 f_RX11_145 (Or.inl rfl)
theorem k_127_75 : mOk M_127.1 M_127.2.1 M_127.2.2.1 M_127.2.2.2 75 (o_is 8 2) := ok_istore dX11_feature_75
theorem k_127_77 : mOk M_127.1 M_127.2.1 M_127.2.2.1 M_127.2.2.2 77 (o_al 0 1) := ok_aload_n dX11_feature_77 rfl
theorem k_127_78 : mOk M_127.1 M_127.2.1 M_127.2.2.1 M_127.2.2.2 78 (oS 1 (s_push (.int 0))) := ok_iconst dX11_feature_78 (by decide)
theorem k_127_79 : mOk M_127.1 M_127.2.1 M_127.2.2.1 M_127.2.2.2 79 (o_pI 11 12) := ok_pI dX11_feature_79 (mFw_of f_RX11_145_c (Or.inl rfl)) rfl
theorem k_127_82 : mOk M_127.1 M_127.2.1 M_127.2.2.1 M_127.2.2.2 82 (o_al 0 1) := ok_aload_n dX11_feature_82 rfl
theorem k_127_83 : mOk M_127.1 M_127.2.1 M_127.2.2.1 M_127.2.2.2 83 (oS 1 (s_push (.int 0))) := ok_iconst dX11_feature_83 (by decide)
theorem k_127_84 : mOk M_127.1 M_127.2.1 M_127.2.2.1 M_127.2.2.2 84 (o_il 1 1) := ok_iload_n dX11_feature_84 rfl
theorem k_127_88 : mOk M_127.1 M_127.2.1 M_127.2.2.1 M_127.2.2.2 88 (o_is 9 2) := ok_istore dX11_feature_88
theorem k_127_90 : mOk M_127.1 M_127.2.1 M_127.2.2.1 M_127.2.2.2 90 (o_al 0 1) := ok_aload_n dX11_feature_90 rfl
theorem k_127_91 : mOk M_127.1 M_127.2.1 M_127.2.2.1 M_127.2.2.2 91 (o_il 7 2) := ok_iload dX11_feature_91
theorem k_127_93 : mOk M_127.1 M_127.2.1 M_127.2.2.1 M_127.2.2.2 93 (o_zne 100) := ok_zne dX11_feature_93 (by decide)
theorem k_127_96 : mOk M_127.1 M_127.2.1 M_127.2.2.1 M_127.2.2.2 96 (oS 1 (s_push (.int 1))) := ok_iconst dX11_feature_96 (by decide)
theorem k_127_97 : mOk M_127.1 M_127.2.1 M_127.2.2.1 M_127.2.2.2 97 (o_goto 122) := ok_goto dX11_feature_97 (by decide)
theorem k_127_100 : mOk M_127.1 M_127.2.1 M_127.2.2.1 M_127.2.2.2 100 (o_il 9 2) := ok_iload dX11_feature_100
theorem k_127_102 : mOk M_127.1 M_127.2.1 M_127.2.2.1 M_127.2.2.2 102 (oS 1 (s_push (.int (-1)))) := ok_iconst dX11_feature_102 (by decide)
theorem k_127_103 : mOk M_127.1 M_127.2.1 M_127.2.2.1 M_127.2.2.2 103 (o_cne 121) := ok_cne dX11_feature_103 (by decide)
theorem k_127_106 : mOk M_127.1 M_127.2.1 M_127.2.2.1 M_127.2.2.2 106 (o_al 0 1) := ok_aload_n dX11_feature_106 rfl
theorem k_127_107 : mOk M_127.1 M_127.2.1 M_127.2.2.1 M_127.2.2.2 107 (o_gP 11 0) := ok_gP dX11_feature_107 f_RX11_7 rfl
theorem k_127_110 : mOk M_127.1 M_127.2.1 M_127.2.2.1 M_127.2.2.2 110 (oS 1 (s_push (.int 0))) := ok_iconst dX11_feature_110 (by decide)
theorem k_127_111 : mOk M_127.1 M_127.2.1 M_127.2.2.1 M_127.2.2.2 111 (o_iald) := ok_iald dX11_feature_111
theorem k_127_112 : mOk M_127.1 M_127.2.1 M_127.2.2.1 M_127.2.2.2 112 (oS 2 (s_push (.int 24))) := ok_bipush dX11_feature_112 (by decide)
theorem k_127_114 : mOk M_127.1 M_127.2.1 M_127.2.2.1 M_127.2.2.2 114 (o_cne 121) := ok_cne dX11_feature_114 (by decide)
theorem k_127_117 : mOk M_127.1 M_127.2.1 M_127.2.2.1 M_127.2.2.2 117 (oS 1 (s_push (.int 2))) := ok_iconst dX11_feature_117 (by decide)
theorem k_127_118 : mOk M_127.1 M_127.2.1 M_127.2.2.1 M_127.2.2.2 118 (o_goto 122) := ok_goto dX11_feature_118 (by decide)
theorem k_127_121 : mOk M_127.1 M_127.2.1 M_127.2.2.1 M_127.2.2.2 121 (oS 1 (s_push (.int 0))) := ok_iconst dX11_feature_121 (by decide)
theorem k_127_122 : mOk M_127.1 M_127.2.1 M_127.2.2.1 M_127.2.2.2 122 (o_pI 11 13) := ok_pI dX11_feature_122 (mFw_of f_RX11_133_c (Or.inl rfl)) rfl
theorem k_127_125 : mOk M_127.1 M_127.2.1 M_127.2.2.1 M_127.2.2.2 125 (o_al 0 1) := ok_aload_n dX11_feature_125 rfl
theorem k_127_126 : mOk M_127.1 M_127.2.1 M_127.2.2.1 M_127.2.2.2 126 (o_gI 11 13) := ok_gI dX11_feature_126 f_RX11_133 (Or.inl rfl)
theorem k_127_129 : mOk M_127.1 M_127.2.1 M_127.2.2.1 M_127.2.2.2 129 (o_zeq 134) := ok_zeq dX11_feature_129 (by decide)
theorem k_127_132 : mOk M_127.1 M_127.2.1 M_127.2.2.1 M_127.2.2.2 132 (oS 1 (s_push (.int 0))) := ok_iconst dX11_feature_132 (by decide)
theorem k_127_134 : mOk M_127.1 M_127.2.1 M_127.2.2.1 M_127.2.2.2 134 (o_il 9 2) := ok_iload dX11_feature_134
theorem k_127_136 : mOk M_127.1 M_127.2.1 M_127.2.2.1 M_127.2.2.2 136 (oS 1 (s_push (.int (-1)))) := ok_iconst dX11_feature_136 (by decide)
theorem k_127_137 : mOk M_127.1 M_127.2.1 M_127.2.2.1 M_127.2.2.2 137 (o_cne 192) := ok_cne dX11_feature_137 (by decide)
theorem k_127_140 : mOk M_127.1 M_127.2.1 M_127.2.2.1 M_127.2.2.2 140 (o_al 0 1) := ok_aload_n dX11_feature_140 rfl
theorem k_127_141 : mOk M_127.1 M_127.2.1 M_127.2.2.1 M_127.2.2.2 141 (o_gP 11 0) := ok_gP dX11_feature_141 f_RX11_7 rfl
theorem k_127_144 : mOk M_127.1 M_127.2.1 M_127.2.2.1 M_127.2.2.2 144 (oS 1 (s_push (.int 0))) := ok_iconst dX11_feature_144 (by decide)
theorem k_127_145 : mOk M_127.1 M_127.2.1 M_127.2.2.1 M_127.2.2.2 145 (o_iald) := ok_iald dX11_feature_145
theorem k_127_146 : mOk M_127.1 M_127.2.1 M_127.2.2.1 M_127.2.2.2 146 (o_is 9 2) := ok_istore dX11_feature_146
theorem k_127_148 : mOk M_127.1 M_127.2.1 M_127.2.2.1 M_127.2.2.2 148 (o_il 9 2) := ok_iload dX11_feature_148
theorem k_127_150 : mOk M_127.1 M_127.2.1 M_127.2.2.1 M_127.2.2.2 150 (o_zle 182) := ok_zle dX11_feature_150 (by decide)
theorem k_127_153 : mOk M_127.1 M_127.2.1 M_127.2.2.1 M_127.2.2.2 153 (o_al 0 1) := ok_aload_n dX11_feature_153 rfl
theorem k_127_154 : mOk M_127.1 M_127.2.1 M_127.2.2.1 M_127.2.2.2 154 (o_gP 11 1) := ok_gP dX11_feature_154 f_RX11_13 rfl
theorem k_127_157 : mOk M_127.1 M_127.2.1 M_127.2.2.1 M_127.2.2.2 157 (o_il 9 2) := ok_iload dX11_feature_157
theorem k_127_159 : mOk M_127.1 M_127.2.1 M_127.2.2.1 M_127.2.2.2 159 (oS 1 (s_push (.int 1))) := ok_iconst dX11_feature_159 (by decide)
theorem k_127_160 : mOk M_127.1 M_127.2.1 M_127.2.2.1 M_127.2.2.2 160 (oS 1 (s_ii (fun a b => a - b))) := ok_isub dX11_feature_160
theorem k_127_161 : mOk M_127.1 M_127.2.1 M_127.2.2.1 M_127.2.2.2 161 (o_iald) := ok_iald dX11_feature_161
theorem k_127_162 : mOk M_127.1 M_127.2.1 M_127.2.2.1 M_127.2.2.2 162 (o_il 1 1) := ok_iload_n dX11_feature_162 rfl
theorem k_127_163 : mOk M_127.1 M_127.2.1 M_127.2.2.1 M_127.2.2.2 163 (o_cle 182) := ok_cle dX11_feature_163 (by decide)
theorem k_127_166 : mOk M_127.1 M_127.2.1 M_127.2.2.1 M_127.2.2.2 166 (o_al 0 1) := ok_aload_n dX11_feature_166 rfl
theorem k_127_167 : mOk M_127.1 M_127.2.1 M_127.2.2.1 M_127.2.2.2 167 (o_il 9 2) := ok_iload dX11_feature_167
theorem k_127_169 : mOk M_127.1 M_127.2.1 M_127.2.2.1 M_127.2.2.2 169 (oS 1 (s_push (.int 1))) := ok_iconst dX11_feature_169 (by decide)
theorem k_127_170 : mOk M_127.1 M_127.2.1 M_127.2.2.1 M_127.2.2.2 170 (oS 1 (s_ii (fun a b => a - b))) := ok_isub dX11_feature_170
theorem k_127_171 : mOk M_127.1 M_127.2.1 M_127.2.2.1 M_127.2.2.2 171 (o_il 9 2) := ok_iload dX11_feature_171
theorem k_127_176 : mOk M_127.1 M_127.2.1 M_127.2.2.1 M_127.2.2.2 176 (o_inc 9 (-1)) := ok_iinc dX11_feature_176 (by decide)
theorem k_127_179 : mOk M_127.1 M_127.2.1 M_127.2.2.1 M_127.2.2.2 179 (o_goto 148) := ok_goto dX11_feature_179 (by decide)
theorem k_127_182 : mOk M_127.1 M_127.2.1 M_127.2.2.1 M_127.2.2.2 182 (o_al 0 1) := ok_aload_n dX11_feature_182 rfl
theorem k_127_183 : mOk M_127.1 M_127.2.1 M_127.2.2.1 M_127.2.2.2 183 (o_gP 11 0) := ok_gP dX11_feature_183 f_RX11_7 rfl
theorem k_127_186 : mOk M_127.1 M_127.2.1 M_127.2.2.1 M_127.2.2.2 186 (oS 1 (s_push (.int 0))) := ok_iconst dX11_feature_186 (by decide)
theorem k_127_187 : mOk M_127.1 M_127.2.1 M_127.2.2.1 M_127.2.2.2 187 (oS 1 s_dup2) := ok_dup2 dX11_feature_187
theorem k_127_188 : mOk M_127.1 M_127.2.1 M_127.2.2.1 M_127.2.2.2 188 (o_iald) := ok_iald dX11_feature_188
theorem k_127_189 : mOk M_127.1 M_127.2.1 M_127.2.2.1 M_127.2.2.2 189 (oS 1 (s_push (.int 1))) := ok_iconst dX11_feature_189 (by decide)
theorem k_127_190 : mOk M_127.1 M_127.2.1 M_127.2.2.1 M_127.2.2.2 190 (oS 1 (s_ii (fun a b => a + b))) := ok_iadd dX11_feature_190
theorem k_127_191 : mOk M_127.1 M_127.2.1 M_127.2.2.1 M_127.2.2.2 191 (o_iast) := ok_iast dX11_feature_191
theorem k_127_192 : mOk M_127.1 M_127.2.1 M_127.2.2.1 M_127.2.2.2 192 (o_al 0 1) := ok_aload_n dX11_feature_192 rfl
theorem k_127_193 : mOk M_127.1 M_127.2.1 M_127.2.2.1 M_127.2.2.2 193 (o_gP 11 1) := ok_gP dX11_feature_193 f_RX11_13 rfl
theorem k_127_196 : mOk M_127.1 M_127.2.1 M_127.2.2.1 M_127.2.2.2 196 (o_il 9 2) := ok_iload dX11_feature_196
theorem k_127_198 : mOk M_127.1 M_127.2.1 M_127.2.2.1 M_127.2.2.2 198 (o_il 1 1) := ok_iload_n dX11_feature_198 rfl
theorem k_127_199 : mOk M_127.1 M_127.2.1 M_127.2.2.1 M_127.2.2.2 199 (o_iast) := ok_iast dX11_feature_199
theorem k_127_200 : mOk M_127.1 M_127.2.1 M_127.2.2.1 M_127.2.2.2 200 (o_al 0 1) := ok_aload_n dX11_feature_200 rfl
theorem k_127_201 : mOk M_127.1 M_127.2.1 M_127.2.2.1 M_127.2.2.2 201 (o_gP 11 2) := ok_gP dX11_feature_201 f_RX11_16 rfl
theorem k_127_204 : mOk M_127.1 M_127.2.1 M_127.2.2.1 M_127.2.2.2 204 (o_il 9 2) := ok_iload dX11_feature_204
theorem k_127_206 : mOk M_127.1 M_127.2.1 M_127.2.2.1 M_127.2.2.2 206 (o_il 2 1) := ok_iload_n dX11_feature_206 rfl
theorem k_127_207 : mOk M_127.1 M_127.2.1 M_127.2.2.1 M_127.2.2.2 207 (o_iast) := ok_iast dX11_feature_207
theorem k_127_208 : mOk M_127.1 M_127.2.1 M_127.2.2.1 M_127.2.2.2 208 (o_al 0 1) := ok_aload_n dX11_feature_208 rfl
theorem k_127_209 : mOk M_127.1 M_127.2.1 M_127.2.2.1 M_127.2.2.2 209 (o_gP 11 3) := ok_gP dX11_feature_209 f_RX11_19 rfl
theorem k_127_212 : mOk M_127.1 M_127.2.1 M_127.2.2.1 M_127.2.2.2 212 (o_il 9 2) := ok_iload dX11_feature_212
theorem k_127_214 : mOk M_127.1 M_127.2.1 M_127.2.2.1 M_127.2.2.2 214 (o_il 3 1) := ok_iload_n dX11_feature_214 rfl
theorem k_127_215 : mOk M_127.1 M_127.2.1 M_127.2.2.1 M_127.2.2.2 215 (o_iast) := ok_iast dX11_feature_215
theorem k_127_216 : mOk M_127.1 M_127.2.1 M_127.2.2.1 M_127.2.2.2 216 (o_al 0 1) := ok_aload_n dX11_feature_216 rfl
theorem k_127_217 : mOk M_127.1 M_127.2.1 M_127.2.2.1 M_127.2.2.2 217 (o_gP 11 4) := ok_gP dX11_feature_217 f_RX11_22 rfl
theorem k_127_220 : mOk M_127.1 M_127.2.1 M_127.2.2.1 M_127.2.2.2 220 (o_il 9 2) := ok_iload dX11_feature_220
theorem k_127_222 : mOk M_127.1 M_127.2.1 M_127.2.2.1 M_127.2.2.2 222 (o_il 4 2) := ok_iload dX11_feature_222
theorem k_127_224 : mOk M_127.1 M_127.2.1 M_127.2.2.1 M_127.2.2.2 224 (o_iast) := ok_iast dX11_feature_224
theorem k_127_225 : mOk M_127.1 M_127.2.1 M_127.2.2.1 M_127.2.2.2 225 (o_al 0 1) := ok_aload_n dX11_feature_225 rfl
theorem k_127_226 : mOk M_127.1 M_127.2.1 M_127.2.2.1 M_127.2.2.2 226 (o_gP 11 5) := ok_gP dX11_feature_226 f_RX11_25 rfl
theorem k_127_229 : mOk M_127.1 M_127.2.1 M_127.2.2.1 M_127.2.2.2 229 (o_il 9 2) := ok_iload dX11_feature_229
theorem k_127_231 : mOk M_127.1 M_127.2.1 M_127.2.2.1 M_127.2.2.2 231 (o_ll 5 2) := ok_lload dX11_feature_231
theorem k_127_233 : mOk M_127.1 M_127.2.1 M_127.2.2.1 M_127.2.2.2 233 (o_last) := ok_last dX11_feature_233
theorem k_127_234 : mOk M_127.1 M_127.2.1 M_127.2.2.1 M_127.2.2.2 234 (o_al 0 1) := ok_aload_n dX11_feature_234 rfl
theorem k_127_235 : mOk M_127.1 M_127.2.1 M_127.2.2.1 M_127.2.2.2 235 (o_gP 11 6) := ok_gP dX11_feature_235 f_RX11_29 rfl
theorem k_127_238 : mOk M_127.1 M_127.2.1 M_127.2.2.1 M_127.2.2.2 238 (o_il 9 2) := ok_iload dX11_feature_238
theorem k_127_240 : mOk M_127.1 M_127.2.1 M_127.2.2.1 M_127.2.2.2 240 (o_il 8 2) := ok_iload dX11_feature_240
theorem k_127_242 : mOk M_127.1 M_127.2.1 M_127.2.2.1 M_127.2.2.2 242 (o_iast) := ok_iast dX11_feature_242
theorem k_127_243 : mOk M_127.1 M_127.2.1 M_127.2.2.1 M_127.2.2.2 243 (oS 1 (s_push (.int 0))) := ok_iconst dX11_feature_243 (by decide)
theorem k_127_244 : mOk M_127.1 M_127.2.1 M_127.2.2.1 M_127.2.2.2 244 (o_is 10 2) := ok_istore dX11_feature_244
theorem k_127_246 : mOk M_127.1 M_127.2.1 M_127.2.2.1 M_127.2.2.2 246 (o_il 10 2) := ok_iload dX11_feature_246
theorem k_127_248 : mOk M_127.1 M_127.2.1 M_127.2.2.1 M_127.2.2.2 248 (o_il 8 2) := ok_iload dX11_feature_248
theorem k_127_250 : mOk M_127.1 M_127.2.1 M_127.2.2.1 M_127.2.2.2 250 (o_cge 299) := ok_cge dX11_feature_250 (by decide)
theorem k_127_253 : mOk M_127.1 M_127.2.1 M_127.2.2.1 M_127.2.2.2 253 (o_al 0 1) := ok_aload_n dX11_feature_253 rfl
theorem k_127_254 : mOk M_127.1 M_127.2.1 M_127.2.2.1 M_127.2.2.2 254 (o_gP 11 7) := ok_gP dX11_feature_254 f_RX11_32 rfl
theorem k_127_257 : mOk M_127.1 M_127.2.1 M_127.2.2.1 M_127.2.2.2 257 (oS 2 (s_push (.int 12))) := ok_bipush dX11_feature_257 (by decide)
theorem k_127_259 : mOk M_127.1 M_127.2.1 M_127.2.2.1 M_127.2.2.2 259 (o_il 9 2) := ok_iload dX11_feature_259
theorem k_127_261 : mOk M_127.1 M_127.2.1 M_127.2.2.1 M_127.2.2.2 261 (oS 1 (s_ii (fun a b => a * b))) := ok_imul dX11_feature_261
theorem k_127_262 : mOk M_127.1 M_127.2.1 M_127.2.2.1 M_127.2.2.2 262 (o_il 10 2) := ok_iload dX11_feature_262
theorem k_127_264 : mOk M_127.1 M_127.2.1 M_127.2.2.1 M_127.2.2.2 264 (oS 1 (s_ii (fun a b => a + b))) := ok_iadd dX11_feature_264
theorem k_127_265 : mOk M_127.1 M_127.2.1 M_127.2.2.1 M_127.2.2.2 265 (o_al 0 1) := ok_aload_n dX11_feature_265 rfl
theorem k_127_266 : mOk M_127.1 M_127.2.1 M_127.2.2.1 M_127.2.2.2 266 (o_gP 11 10) := ok_gP dX11_feature_266 f_RX11_38 rfl
theorem k_127_269 : mOk M_127.1 M_127.2.1 M_127.2.2.1 M_127.2.2.2 269 (o_il 10 2) := ok_iload dX11_feature_269
theorem k_127_271 : mOk M_127.1 M_127.2.1 M_127.2.2.1 M_127.2.2.2 271 (o_iald) := ok_iald dX11_feature_271
theorem k_127_272 : mOk M_127.1 M_127.2.1 M_127.2.2.1 M_127.2.2.2 272 (o_iast) := ok_iast dX11_feature_272
theorem k_127_273 : mOk M_127.1 M_127.2.1 M_127.2.2.1 M_127.2.2.2 273 (o_al 0 1) := ok_aload_n dX11_feature_273 rfl
theorem k_127_274 : mOk M_127.1 M_127.2.1 M_127.2.2.1 M_127.2.2.2 274 (o_gP 11 8) := ok_gP dX11_feature_274 f_RX11_35 rfl
theorem k_127_277 : mOk M_127.1 M_127.2.1 M_127.2.2.1 M_127.2.2.2 277 (oS 2 (s_push (.int 12))) := ok_bipush dX11_feature_277 (by decide)
theorem k_127_279 : mOk M_127.1 M_127.2.1 M_127.2.2.1 M_127.2.2.2 279 (o_il 9 2) := ok_iload dX11_feature_279
theorem k_127_281 : mOk M_127.1 M_127.2.1 M_127.2.2.1 M_127.2.2.2 281 (oS 1 (s_ii (fun a b => a * b))) := ok_imul dX11_feature_281
theorem k_127_282 : mOk M_127.1 M_127.2.1 M_127.2.2.1 M_127.2.2.2 282 (o_il 10 2) := ok_iload dX11_feature_282
theorem k_127_284 : mOk M_127.1 M_127.2.1 M_127.2.2.1 M_127.2.2.2 284 (oS 1 (s_ii (fun a b => a + b))) := ok_iadd dX11_feature_284
theorem k_127_285 : mOk M_127.1 M_127.2.1 M_127.2.2.1 M_127.2.2.2 285 (o_al 0 1) := ok_aload_n dX11_feature_285 rfl
theorem k_127_286 : mOk M_127.1 M_127.2.1 M_127.2.2.1 M_127.2.2.2 286 (o_gP 11 11) := ok_gP dX11_feature_286 f_RX11_41 rfl
theorem k_127_289 : mOk M_127.1 M_127.2.1 M_127.2.2.1 M_127.2.2.2 289 (o_il 10 2) := ok_iload dX11_feature_289
theorem k_127_291 : mOk M_127.1 M_127.2.1 M_127.2.2.1 M_127.2.2.2 291 (o_iald) := ok_iald dX11_feature_291
theorem k_127_292 : mOk M_127.1 M_127.2.1 M_127.2.2.1 M_127.2.2.2 292 (o_iast) := ok_iast dX11_feature_292
theorem k_127_293 : mOk M_127.1 M_127.2.1 M_127.2.2.1 M_127.2.2.2 293 (o_inc 10 1) := ok_iinc dX11_feature_293 (by decide)
theorem k_127_296 : mOk M_127.1 M_127.2.1 M_127.2.2.1 M_127.2.2.2 296 (o_goto 246) := ok_goto dX11_feature_296 (by decide)
theorem k_127_299 : mOk M_127.1 M_127.2.1 M_127.2.2.1 M_127.2.2.2 299 (o_al 0 1) := ok_aload_n dX11_feature_299 rfl
theorem k_127_300 : mOk M_127.1 M_127.2.1 M_127.2.2.1 M_127.2.2.2 300 (o_gP 11 0) := ok_gP dX11_feature_300 f_RX11_7 rfl
theorem k_127_303 : mOk M_127.1 M_127.2.1 M_127.2.2.1 M_127.2.2.2 303 (oS 1 (s_push (.int 0))) := ok_iconst dX11_feature_303 (by decide)
theorem k_127_304 : mOk M_127.1 M_127.2.1 M_127.2.2.1 M_127.2.2.2 304 (o_iald) := ok_iald dX11_feature_304
set_option maxRecDepth 20000 in
set_option maxHeartbeats 4000000 in
theorem tk_127 (l : Launch) (H9 : mThr l) (H10 : mSpl l) (pc : Nat) (q : mEnt) (h : tb_127 pc = some q) : EE l 127 pc q := nd h (fun h => nd h (fun h => nd h (fun h => nd h (fun h => nd h (fun h => nd h (fun h => nd h (fun h => lf (P := EE l 127) h k_127_0) (fun h => lf (P := EE l 127) h k_127_1)) (fun h => nd h (fun h => lf (P := EE l 127) h k_127_2) (fun h => nd h (fun h => lf (P := EE l 127) h (EE_ca (by decide) (⟨m_1222, m_81, ⟨by decide, by decide⟩, by decide +kernel, ⟨by decide, by decide⟩, 137, 3, by decide +kernel, Or.inl ⟨rfl, rfl, dX11_feature_5, m_1220, m_1221⟩⟩) rfl)) (fun h => lf (P := EE l 127) h k_127_8)))) (fun h => nd h (fun h => nd h (fun h => lf (P := EE l 127) h k_127_11) (fun h => lf (P := EE l 127) h k_127_12)) (fun h => nd h (fun h => lf (P := EE l 127) h k_127_13) (fun h => nd h (fun h => lf (P := EE l 127) h (EE_ca (by decide) (⟨m_1222, m_81, ⟨by decide, by decide⟩, by decide +kernel, ⟨by decide, by decide⟩, 137, 3, by decide +kernel, Or.inl ⟨rfl, rfl, dX11_feature_14, m_1220, m_1221⟩⟩) rfl)) (fun h => lf (P := EE l 127) h k_127_17))))) (fun h => nd h (fun h => nd h (fun h => nd h (fun h => lf (P := EE l 127) h k_127_20) (fun h => lf (P := EE l 127) h k_127_21)) (fun h => nd h (fun h => lf (P := EE l 127) h k_127_22) (fun h => nd h (fun h => lf (P := EE l 127) h (EE_ca (by decide) (⟨m_1222, m_81, ⟨by decide, by decide⟩, by decide +kernel, ⟨by decide, by decide⟩, 137, 3, by decide +kernel, Or.inl ⟨rfl, rfl, dX11_feature_24, m_1220, m_1221⟩⟩) rfl)) (fun h => lf (P := EE l 127) h k_127_27)))) (fun h => nd h (fun h => nd h (fun h => lf (P := EE l 127) h k_127_30) (fun h => nd h (fun h => lf (P := EE l 127) h k_127_32) (fun h => lf (P := EE l 127) h k_127_33))) (fun h => nd h (fun h => lf (P := EE l 127) h (EE_ca (by decide) (⟨m_1222, m_81, ⟨by decide, by decide⟩, by decide +kernel, ⟨by decide, by decide⟩, 137, 3, by decide +kernel, Or.inl ⟨rfl, rfl, dX11_feature_34, m_1220, m_1221⟩⟩) rfl)) (fun h => nd h (fun h => lf (P := EE l 127) h k_127_37) (fun h => lf (P := EE l 127) h k_127_40)))))) (fun h => nd h (fun h => nd h (fun h => nd h (fun h => nd h (fun h => lf (P := EE l 127) h (EE_ca (by decide) (⟨m_1229, m_81, ⟨by decide, by decide⟩, by decide +kernel, ⟨by decide, by decide⟩, 167, 1, by decide +kernel, Or.inl ⟨rfl, rfl, dX11_feature_42, m_1227, m_1228⟩⟩) rfl)) (fun h => lf (P := EE l 127) h k_127_45)) (fun h => nd h (fun h => lf (P := EE l 127) h k_127_48) (fun h => nd h (fun h => lf (P := EE l 127) h k_127_49) (fun h => lf (P := EE l 127) h k_127_52)))) (fun h => nd h (fun h => nd h (fun h => lf (P := EE l 127) h k_127_53) (fun h => lf (P := EE l 127) h k_127_55)) (fun h => nd h (fun h => lf (P := EE l 127) h k_127_57) (fun h => nd h (fun h => lf (P := EE l 127) h k_127_60) (fun h => lf (P := EE l 127) h k_127_61))))) (fun h => nd h (fun h => nd h (fun h => nd h (fun h => lf (P := EE l 127) h (EE_ca (by decide) (⟨m_1233, m_81, ⟨by decide, by decide⟩, by decide +kernel, ⟨by decide, by decide⟩, 171, 1, by decide +kernel, Or.inr (Or.inr (Or.inl ⟨rfl, rfl, dX11_feature_62, m_1230, m_1232, _, rfl, by decide, m_29⟩))⟩) rfl)) (fun h => lf (P := EE l 127) h k_127_65)) (fun h => nd h (fun h => lf (P := EE l 127) h k_127_68) (fun h => nd h (fun h => lf (P := EE l 127) h k_127_69) (fun h => lf (P := EE l 127) h k_127_71)))) (fun h => nd h (fun h => nd h (fun h => lf (P := EE l 127) h k_127_72) (fun h => nd h (fun h => lf (P := EE l 127) h k_127_75) (fun h => lf (P := EE l 127) h k_127_77))) (fun h => nd h (fun h => lf (P := EE l 127) h k_127_78) (fun h => nd h (fun h => lf (P := EE l 127) h k_127_79) (fun h => lf (P := EE l 127) h k_127_82))))))) (fun h => nd h (fun h => nd h (fun h => nd h (fun h => nd h (fun h => nd h (fun h => lf (P := EE l 127) h k_127_83) (fun h => lf (P := EE l 127) h k_127_84)) (fun h => nd h (fun h => lf (P := EE l 127) h (EE_ca (by decide) (⟨m_1256, m_81, ⟨by decide, by decide⟩, by decide +kernel, ⟨by decide, by decide⟩, 174, 2, by decide +kernel, Or.inr (Or.inr (Or.inl ⟨rfl, rfl, dX11_feature_85, m_1253, m_1255, _, rfl, by decide, m_34⟩))⟩) rfl)) (fun h => nd h (fun h => lf (P := EE l 127) h k_127_88) (fun h => lf (P := EE l 127) h k_127_90)))) (fun h => nd h (fun h => nd h (fun h => lf (P := EE l 127) h k_127_91) (fun h => lf (P := EE l 127) h k_127_93)) (fun h => nd h (fun h => lf (P := EE l 127) h k_127_96) (fun h => nd h (fun h => lf (P := EE l 127) h k_127_97) (fun h => lf (P := EE l 127) h k_127_100))))) (fun h => nd h (fun h => nd h (fun h => nd h (fun h => lf (P := EE l 127) h k_127_102) (fun h => lf (P := EE l 127) h k_127_103)) (fun h => nd h (fun h => lf (P := EE l 127) h k_127_106) (fun h => nd h (fun h => lf (P := EE l 127) h k_127_107) (fun h => lf (P := EE l 127) h k_127_110)))) (fun h => nd h (fun h => nd h (fun h => lf (P := EE l 127) h k_127_111) (fun h => nd h (fun h => lf (P := EE l 127) h k_127_112) (fun h => lf (P := EE l 127) h k_127_114))) (fun h => nd h (fun h => lf (P := EE l 127) h k_127_117) (fun h => nd h (fun h => lf (P := EE l 127) h k_127_118) (fun h => lf (P := EE l 127) h k_127_121)))))) (fun h => nd h (fun h => nd h (fun h => nd h (fun h => nd h (fun h => lf (P := EE l 127) h k_127_122) (fun h => lf (P := EE l 127) h k_127_125)) (fun h => nd h (fun h => lf (P := EE l 127) h k_127_126) (fun h => nd h (fun h => lf (P := EE l 127) h k_127_129) (fun h => lf (P := EE l 127) h k_127_132)))) (fun h => nd h (fun h => nd h (fun h => lf (P := EE l 127) h (EE_re (Or.inl ⟨rfl, dX11_feature_133, rfl⟩))) (fun h => lf (P := EE l 127) h k_127_134)) (fun h => nd h (fun h => lf (P := EE l 127) h k_127_136) (fun h => nd h (fun h => lf (P := EE l 127) h k_127_137) (fun h => lf (P := EE l 127) h k_127_140))))) (fun h => nd h (fun h => nd h (fun h => nd h (fun h => lf (P := EE l 127) h k_127_141) (fun h => lf (P := EE l 127) h k_127_144)) (fun h => nd h (fun h => lf (P := EE l 127) h k_127_145) (fun h => nd h (fun h => lf (P := EE l 127) h k_127_146) (fun h => lf (P := EE l 127) h k_127_148)))) (fun h => nd h (fun h => nd h (fun h => lf (P := EE l 127) h k_127_150) (fun h => nd h (fun h => lf (P := EE l 127) h k_127_153) (fun h => lf (P := EE l 127) h k_127_154))) (fun h => nd h (fun h => lf (P := EE l 127) h k_127_157) (fun h => nd h (fun h => lf (P := EE l 127) h k_127_159) (fun h => lf (P := EE l 127) h k_127_160)))))))) (fun h => nd h (fun h => nd h (fun h => nd h (fun h => nd h (fun h => nd h (fun h => nd h (fun h => lf (P := EE l 127) h k_127_161) (fun h => lf (P := EE l 127) h k_127_162)) (fun h => nd h (fun h => lf (P := EE l 127) h k_127_163) (fun h => nd h (fun h => lf (P := EE l 127) h k_127_166) (fun h => lf (P := EE l 127) h k_127_167)))) (fun h => nd h (fun h => nd h (fun h => lf (P := EE l 127) h k_127_169) (fun h => lf (P := EE l 127) h k_127_170)) (fun h => nd h (fun h => lf (P := EE l 127) h k_127_171) (fun h => nd h (fun h => lf (P := EE l 127) h (EE_ca (by decide) (⟨m_1260, m_81, ⟨by decide, by decide⟩, by decide +kernel, ⟨by decide, by decide⟩, 178, 2, by decide +kernel, Or.inr (Or.inr (Or.inl ⟨rfl, rfl, dX11_feature_173, m_1257, m_1259, _, rfl, by decide, m_35⟩))⟩) rfl)) (fun h => lf (P := EE l 127) h k_127_176))))) (fun h => nd h (fun h => nd h (fun h => nd h (fun h => lf (P := EE l 127) h k_127_179) (fun h => lf (P := EE l 127) h k_127_182)) (fun h => nd h (fun h => lf (P := EE l 127) h k_127_183) (fun h => nd h (fun h => lf (P := EE l 127) h k_127_186) (fun h => lf (P := EE l 127) h k_127_187)))) (fun h => nd h (fun h => nd h (fun h => lf (P := EE l 127) h k_127_188) (fun h => nd h (fun h => lf (P := EE l 127) h k_127_189) (fun h => lf (P := EE l 127) h k_127_190))) (fun h => nd h (fun h => lf (P := EE l 127) h k_127_191) (fun h => nd h (fun h => lf (P := EE l 127) h k_127_192) (fun h => lf (P := EE l 127) h k_127_193)))))) (fun h => nd h (fun h => nd h (fun h => nd h (fun h => nd h (fun h => lf (P := EE l 127) h k_127_196) (fun h => lf (P := EE l 127) h k_127_198)) (fun h => nd h (fun h => lf (P := EE l 127) h k_127_199) (fun h => nd h (fun h => lf (P := EE l 127) h k_127_200) (fun h => lf (P := EE l 127) h k_127_201)))) (fun h => nd h (fun h => nd h (fun h => lf (P := EE l 127) h k_127_204) (fun h => lf (P := EE l 127) h k_127_206)) (fun h => nd h (fun h => lf (P := EE l 127) h k_127_207) (fun h => nd h (fun h => lf (P := EE l 127) h k_127_208) (fun h => lf (P := EE l 127) h k_127_209))))) (fun h => nd h (fun h => nd h (fun h => nd h (fun h => lf (P := EE l 127) h k_127_212) (fun h => lf (P := EE l 127) h k_127_214)) (fun h => nd h (fun h => lf (P := EE l 127) h k_127_215) (fun h => nd h (fun h => lf (P := EE l 127) h k_127_216) (fun h => lf (P := EE l 127) h k_127_217)))) (fun h => nd h (fun h => nd h (fun h => lf (P := EE l 127) h k_127_220) (fun h => nd h (fun h => lf (P := EE l 127) h k_127_222) (fun h => lf (P := EE l 127) h k_127_224))) (fun h => nd h (fun h => lf (P := EE l 127) h k_127_225) (fun h => nd h (fun h => lf (P := EE l 127) h k_127_226) (fun h => lf (P := EE l 127) h k_127_229))))))) (fun h => nd h (fun h => nd h (fun h => nd h (fun h => nd h (fun h => nd h (fun h => lf (P := EE l 127) h k_127_231) (fun h => lf (P := EE l 127) h k_127_233)) (fun h => nd h (fun h => lf (P := EE l 127) h k_127_234) (fun h => nd h (fun h => lf (P := EE l 127) h k_127_235) (fun h => lf (P := EE l 127) h k_127_238)))) (fun h => nd h (fun h => nd h (fun h => lf (P := EE l 127) h k_127_240) (fun h => lf (P := EE l 127) h k_127_242)) (fun h => nd h (fun h => lf (P := EE l 127) h k_127_243) (fun h => nd h (fun h => lf (P := EE l 127) h k_127_244) (fun h => lf (P := EE l 127) h k_127_246))))) (fun h => nd h (fun h => nd h (fun h => nd h (fun h => lf (P := EE l 127) h k_127_248) (fun h => lf (P := EE l 127) h k_127_250)) (fun h => nd h (fun h => lf (P := EE l 127) h k_127_253) (fun h => nd h (fun h => lf (P := EE l 127) h k_127_254) (fun h => lf (P := EE l 127) h k_127_257)))) (fun h => nd h (fun h => nd h (fun h => lf (P := EE l 127) h k_127_259) (fun h => nd h (fun h => lf (P := EE l 127) h k_127_261) (fun h => lf (P := EE l 127) h k_127_262))) (fun h => nd h (fun h => lf (P := EE l 127) h k_127_264) (fun h => nd h (fun h => lf (P := EE l 127) h k_127_265) (fun h => lf (P := EE l 127) h k_127_266)))))) (fun h => nd h (fun h => nd h (fun h => nd h (fun h => nd h (fun h => lf (P := EE l 127) h k_127_269) (fun h => lf (P := EE l 127) h k_127_271)) (fun h => nd h (fun h => lf (P := EE l 127) h k_127_272) (fun h => nd h (fun h => lf (P := EE l 127) h k_127_273) (fun h => lf (P := EE l 127) h k_127_274)))) (fun h => nd h (fun h => nd h (fun h => lf (P := EE l 127) h k_127_277) (fun h => nd h (fun h => lf (P := EE l 127) h k_127_279) (fun h => lf (P := EE l 127) h k_127_281))) (fun h => nd h (fun h => lf (P := EE l 127) h k_127_282) (fun h => nd h (fun h => lf (P := EE l 127) h k_127_284) (fun h => lf (P := EE l 127) h k_127_285))))) (fun h => nd h (fun h => nd h (fun h => nd h (fun h => lf (P := EE l 127) h k_127_286) (fun h => lf (P := EE l 127) h k_127_289)) (fun h => nd h (fun h => lf (P := EE l 127) h k_127_291) (fun h => nd h (fun h => lf (P := EE l 127) h k_127_292) (fun h => lf (P := EE l 127) h k_127_293)))) (fun h => nd h (fun h => nd h (fun h => lf (P := EE l 127) h k_127_296) (fun h => nd h (fun h => lf (P := EE l 127) h k_127_299) (fun h => lf (P := EE l 127) h k_127_300))) (fun h => nd h (fun h => lf (P := EE l 127) h k_127_303) (fun h => nd h (fun h => lf (P := EE l 127) h k_127_304) (fun h => lf (P := EE l 127) h (EE_re (Or.inl ⟨rfl, dX11_feature_305, rfl⟩))))))))))
