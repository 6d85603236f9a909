/-! the constructor of the reference (by program) -/
theorem fo_X13_169 : Jvm.Cond.methodLink RX13 169 objectInit ∈ qTw := qm6 (List.mem_of_getElem? (i := 158) (by decide +kernel)) (by decide +kernel)
theorem fn_X13_180 : Jvm.Cond.classLink RX13 180 RX12 ∈ qTw := qm6 (List.mem_of_getElem? (i := 159) (by decide +kernel)) (by decide +kernel)
theorem fi_ParentEveModel_Stop : Jvm.Cond.instantiable RX12 6 ∈ qTw := qm6 (List.mem_of_getElem? (i := 160) (by decide +kernel)) (by decide +kernel)
theorem in_ParentEveModel_Stop : Jvm.Cond.initialized "ParentEveModel$Stop" ∈ qTw := qm1 (List.mem_of_getElem? (i := 16) (by decide +kernel)) (by decide +kernel)
theorem im_X12_init : Jvm.Cond.instanceMethod yX12_init ∈ qTw := qm6 (List.mem_of_getElem? (i := 197) (by decide +kernel)) (by decide +kernel)
theorem co_X12_init : Jvm.Cond.code yX12_init cX12_init 1 none ∈ qTw := qm6 (List.mem_of_getElem? (i := 198) (by decide +kernel)) (by decide +kernel)
theorem yk_X12_init : qYk yX12_init 0 := ⟨⟨by decide +kernel, by decide +kernel⟩, by decide +kernel⟩
theorem ml_X13_182 : Jvm.Cond.methodLink RX13 182 yX12_init ∈ qTw := qm6 (List.mem_of_getElem? (i := 196) (by decide +kernel)) (by decide +kernel)
theorem kd_X13_182 {C : qCx} {w : qWp} {cc : ByteArray} {nL dp n0 n1 pc : Nat} (h : qOk C w RX13 cc nL dp n0 n1) (d : decode cc pc = .ok (.invokespecial 182, 3)) : qCallOk C w nL dp n0 n1 pc 1 2 yX12_init (.code yX12_init cX12_init 1 none) := kindI h d ml_X13_182 im_X12_init in_ParentEveModel_Stop co_X12_init yk_X12_init (by decide) rfl
theorem dX13_init_0 : decode cX13_init 0 = .ok (.aload_n 0, 1) := by decide +kernel
theorem dX13_init_1 : decode cX13_init 1 = .ok (.invokespecial 169, 3) := by decide +kernel
theorem dX13_init_4 : decode cX13_init 4 = .ok (.aload_n 0, 1) := by decide +kernel
theorem dX13_init_5 : decode cX13_init 5 = .ok (.bipush 6, 2) := by decide +kernel
theorem dX13_init_7 : decode cX13_init 7 = .ok (.newarray .int, 2) := by decide +kernel
theorem dX13_init_9 : decode cX13_init 9 = .ok (.dup, 1) := by decide +kernel
theorem dX13_init_10 : decode cX13_init 10 = .ok (.iconst 0, 1) := by decide +kernel
theorem dX13_init_11 : decode cX13_init 11 = .ok (.bipush 10, 2) := by decide +kernel
theorem dX13_init_13 : decode cX13_init 13 = .ok (.iastore, 1) := by decide +kernel
theorem dX13_init_14 : decode cX13_init 14 = .ok (.dup, 1) := by decide +kernel
theorem dX13_init_15 : decode cX13_init 15 = .ok (.iconst 1, 1) := by decide +kernel
theorem dX13_init_16 : decode cX13_init 16 = .ok (.iconst 2, 1) := by decide +kernel
theorem dX13_init_17 : decode cX13_init 17 = .ok (.iastore, 1) := by decide +kernel
theorem dX13_init_18 : decode cX13_init 18 = .ok (.dup, 1) := by decide +kernel
theorem dX13_init_19 : decode cX13_init 19 = .ok (.iconst 2, 1) := by decide +kernel
theorem dX13_init_20 : decode cX13_init 20 = .ok (.iconst 1, 1) := by decide +kernel
theorem dX13_init_21 : decode cX13_init 21 = .ok (.iastore, 1) := by decide +kernel
theorem dX13_init_22 : decode cX13_init 22 = .ok (.dup, 1) := by decide +kernel
theorem dX13_init_23 : decode cX13_init 23 = .ok (.iconst 3, 1) := by decide +kernel
theorem dX13_init_24 : decode cX13_init 24 = .ok (.bipush 15, 2) := by decide +kernel
theorem dX13_init_26 : decode cX13_init 26 = .ok (.iastore, 1) := by decide +kernel
theorem dX13_init_27 : decode cX13_init 27 = .ok (.dup, 1) := by decide +kernel
theorem dX13_init_28 : decode cX13_init 28 = .ok (.iconst 4, 1) := by decide +kernel
theorem dX13_init_29 : decode cX13_init 29 = .ok (.iconst 0, 1) := by decide +kernel
theorem dX13_init_30 : decode cX13_init 30 = .ok (.iastore, 1) := by decide +kernel
theorem dX13_init_31 : decode cX13_init 31 = .ok (.dup, 1) := by decide +kernel
theorem dX13_init_32 : decode cX13_init 32 = .ok (.iconst 5, 1) := by decide +kernel
theorem dX13_init_33 : decode cX13_init 33 = .ok (.iconst 0, 1) := by decide +kernel
theorem dX13_init_34 : decode cX13_init 34 = .ok (.iastore, 1) := by decide +kernel
theorem dX13_init_35 : decode cX13_init 35 = .ok (.putfield 174, 3) := by decide +kernel
theorem dX13_init_38 : decode cX13_init 38 = .ok (.aload_n 0, 1) := by decide +kernel
theorem dX13_init_39 : decode cX13_init 39 = .ok (.bipush 6, 2) := by decide +kernel
theorem dX13_init_41 : decode cX13_init 41 = .ok (.newarray .int, 2) := by decide +kernel
theorem dX13_init_43 : decode cX13_init 43 = .ok (.putfield 85, 3) := by decide +kernel
theorem dX13_init_46 : decode cX13_init 46 = .ok (.aload_n 0, 1) := by decide +kernel
theorem dX13_init_47 : decode cX13_init 47 = .ok (.iconst 5, 1) := by decide +kernel
theorem dX13_init_48 : decode cX13_init 48 = .ok (.newarray .int, 2) := by decide +kernel
theorem dX13_init_50 : decode cX13_init 50 = .ok (.putfield 106, 3) := by decide +kernel
theorem dX13_init_53 : decode cX13_init 53 = .ok (.aload_n 0, 1) := by decide +kernel
theorem dX13_init_54 : decode cX13_init 54 = .ok (.bipush 40, 2) := by decide +kernel
theorem dX13_init_56 : decode cX13_init 56 = .ok (.newarray .int, 2) := by decide +kernel
theorem dX13_init_58 : decode cX13_init 58 = .ok (.putfield 163, 3) := by decide +kernel
theorem dX13_init_61 : decode cX13_init 61 = .ok (.aload_n 0, 1) := by decide +kernel
theorem dX13_init_62 : decode cX13_init 62 = .ok (.bipush 40, 2) := by decide +kernel
theorem dX13_init_64 : decode cX13_init 64 = .ok (.newarray .int, 2) := by decide +kernel
theorem dX13_init_66 : decode cX13_init 66 = .ok (.putfield 166, 3) := by decide +kernel
theorem dX13_init_69 : decode cX13_init 69 = .ok (.aload_n 0, 1) := by decide +kernel
theorem dX13_init_70 : decode cX13_init 70 = .ok (.bipush 40, 2) := by decide +kernel
theorem dX13_init_72 : decode cX13_init 72 = .ok (.newarray .int, 2) := by decide +kernel
theorem dX13_init_74 : decode cX13_init 74 = .ok (.putfield 111, 3) := by decide +kernel
theorem dX13_init_77 : decode cX13_init 77 = .ok (.aload_n 0, 1) := by decide +kernel
theorem dX13_init_78 : decode cX13_init 78 = .ok (.sipush 160, 3) := by decide +kernel
theorem dX13_init_81 : decode cX13_init 81 = .ok (.newarray .int, 2) := by decide +kernel
theorem dX13_init_83 : decode cX13_init 83 = .ok (.putfield 142, 3) := by decide +kernel
theorem dX13_init_86 : decode cX13_init 86 = .ok (.aload_n 0, 1) := by decide +kernel
theorem dX13_init_87 : decode cX13_init 87 = .ok (.sipush 160, 3) := by decide +kernel
theorem dX13_init_90 : decode cX13_init 90 = .ok (.newarray .int, 2) := by decide +kernel
theorem dX13_init_92 : decode cX13_init 92 = .ok (.putfield 145, 3) := by decide +kernel
theorem dX13_init_95 : decode cX13_init 95 = .ok (.aload_n 0, 1) := by decide +kernel
theorem dX13_init_96 : decode cX13_init 96 = .ok (.sipush 160, 3) := by decide +kernel
theorem dX13_init_99 : decode cX13_init 99 = .ok (.newarray .int, 2) := by decide +kernel
theorem dX13_init_101 : decode cX13_init 101 = .ok (.putfield 148, 3) := by decide +kernel
theorem dX13_init_104 : decode cX13_init 104 = .ok (.aload_n 0, 1) := by decide +kernel
theorem dX13_init_105 : decode cX13_init 105 = .ok (.bipush 10, 2) := by decide +kernel
theorem dX13_init_107 : decode cX13_init 107 = .ok (.newarray .int, 2) := by decide +kernel
theorem dX13_init_109 : decode cX13_init 109 = .ok (.putfield 177, 3) := by decide +kernel
theorem dX13_init_112 : decode cX13_init 112 = .ok (.aload_n 0, 1) := by decide +kernel
theorem dX13_init_113 : decode cX13_init 113 = .ok (.new 180, 3) := by decide +kernel
theorem dX13_init_116 : decode cX13_init 116 = .ok (.dup, 1) := by decide +kernel
theorem dX13_init_117 : decode cX13_init 117 = .ok (.invokespecial 182, 3) := by decide +kernel
theorem dX13_init_120 : decode cX13_init 120 = .ok (.putfield 13, 3) := by decide +kernel
theorem dX13_init_123 : decode cX13_init 123 = .ok (.aload_n 0, 1) := by decide +kernel
theorem dX13_init_124 : decode cX13_init 124 = .ok (.sipush 400, 3) := by decide +kernel
theorem dX13_init_127 : decode cX13_init 127 = .ok (.newarray .byte, 2) := by decide +kernel
theorem dX13_init_129 : decode cX13_init 129 = .ok (.putfield 20, 3) := by decide +kernel
theorem dX13_init_132 : decode cX13_init 132 = .ok (.aload_n 0, 1) := by decide +kernel
theorem dX13_init_133 : decode cX13_init 133 = .ok (.iconst (-1), 1) := by decide +kernel
theorem dX13_init_134 : decode cX13_init 134 = .ok (.putfield 10, 3) := by decide +kernel
theorem dX13_init_137 : decode cX13_init 137 = .ok (.aload_n 0, 1) := by decide +kernel
theorem dX13_init_138 : decode cX13_init 138 = .ok (.bipush 6, 2) := by decide +kernel
theorem dX13_init_140 : decode cX13_init 140 = .ok (.newarray .boolean, 2) := by decide +kernel
theorem dX13_init_142 : decode cX13_init 142 = .ok (.putfield 89, 3) := by decide +kernel
theorem dX13_init_145 : decode cX13_init 145 = .ok (.aload_n 0, 1) := by decide +kernel
theorem dX13_init_146 : decode cX13_init 146 = .ok (.bipush 10, 2) := by decide +kernel
theorem dX13_init_148 : decode cX13_init 148 = .ok (.newarray .int, 2) := by decide +kernel
theorem dX13_init_150 : decode cX13_init 150 = .ok (.putfield 183, 3) := by decide +kernel
theorem dX13_init_153 : decode cX13_init 153 = .ok (.aload_n 0, 1) := by decide +kernel
theorem dX13_init_154 : decode cX13_init 154 = .ok (.bipush 10, 2) := by decide +kernel
theorem dX13_init_156 : decode cX13_init 156 = .ok (.newarray .int, 2) := by decide +kernel
theorem dX13_init_158 : decode cX13_init 158 = .ok (.putfield 186, 3) := by decide +kernel
theorem dX13_init_161 : decode cX13_init 161 = .ok (.aload_n 0, 1) := by decide +kernel
theorem dX13_init_162 : decode cX13_init 162 = .ok (.bipush 10, 2) := by decide +kernel
theorem dX13_init_164 : decode cX13_init 164 = .ok (.newarray .int, 2) := by decide +kernel
theorem dX13_init_166 : decode cX13_init 166 = .ok (.putfield 188, 3) := by decide +kernel
theorem dX13_init_169 : decode cX13_init 169 = .ok (.aload_n 0, 1) := by decide +kernel
theorem dX13_init_170 : decode cX13_init 170 = .ok (.bipush 10, 2) := by decide +kernel
theorem dX13_init_172 : decode cX13_init 172 = .ok (.newarray .int, 2) := by decide +kernel
theorem dX13_init_174 : decode cX13_init 174 = .ok (.putfield 191, 3) := by decide +kernel
theorem dX13_init_177 : decode cX13_init 177 = .ok (.aload_n 0, 1) := by decide +kernel
theorem dX13_init_178 : decode cX13_init 178 = .ok (.bipush 15, 2) := by decide +kernel
theorem dX13_init_180 : decode cX13_init 180 = .ok (.newarray .int, 2) := by decide +kernel
theorem dX13_init_182 : decode cX13_init 182 = .ok (.putfield 194, 3) := by decide +kernel
theorem dX13_init_185 : decode cX13_init 185 = .ok (.aload_n 0, 1) := by decide +kernel
theorem dX13_init_186 : decode cX13_init 186 = .ok (.bipush 15, 2) := by decide +kernel
theorem dX13_init_188 : decode cX13_init 188 = .ok (.newarray .int, 2) := by decide +kernel
theorem dX13_init_190 : decode cX13_init 190 = .ok (.putfield 197, 3) := by decide +kernel
theorem dX13_init_193 : decode cX13_init 193 = .ok (.aload_n 0, 1) := by decide +kernel
theorem dX13_init_194 : decode cX13_init 194 = .ok (.bipush 15, 2) := by decide +kernel
theorem dX13_init_196 : decode cX13_init 196 = .ok (.newarray .int, 2) := by decide +kernel
theorem dX13_init_198 : decode cX13_init 198 = .ok (.putfield 200, 3) := by decide +kernel
theorem dX13_init_201 : decode cX13_init 201 = .ok (.aload_n 0, 1) := by decide +kernel
theorem dX13_init_202 : decode cX13_init 202 = .ok (.bipush 15, 2) := by decide +kernel
theorem dX13_init_204 : decode cX13_init 204 = .ok (.newarray .int, 2) := by decide +kernel
theorem dX13_init_206 : decode cX13_init 206 = .ok (.putfield 203, 3) := by decide +kernel
theorem dX13_init_209 : decode cX13_init 209 = .ok (.aload_n 0, 1) := by decide +kernel
theorem dX13_init_210 : decode cX13_init 210 = .ok (.bipush 15, 2) := by decide +kernel
theorem dX13_init_212 : decode cX13_init 212 = .ok (.newarray .int, 2) := by decide +kernel
theorem dX13_init_214 : decode cX13_init 214 = .ok (.putfield 206, 3) := by decide +kernel
theorem dX13_init_217 : decode cX13_init 217 = .ok (.aload_n 0, 1) := by decide +kernel
theorem dX13_init_218 : decode cX13_init 218 = .ok (.bipush 15, 2) := by decide +kernel
theorem dX13_init_220 : decode cX13_init 220 = .ok (.newarray .int, 2) := by decide +kernel
theorem dX13_init_222 : decode cX13_init 222 = .ok (.putfield 209, 3) := by decide +kernel
theorem dX13_init_225 : decode cX13_init 225 = .ok (.aload_n 0, 1) := by decide +kernel
theorem dX13_init_226 : decode cX13_init 226 = .ok (.sipush 225, 3) := by decide +kernel
theorem dX13_init_229 : decode cX13_init 229 = .ok (.newarray .boolean, 2) := by decide +kernel
theorem dX13_init_231 : decode cX13_init 231 = .ok (.putfield 212, 3) := by decide +kernel
theorem dX13_init_234 : decode cX13_init 234 = .ok (.aload_n 0, 1) := by decide +kernel
theorem dX13_init_235 : decode cX13_init 235 = .ok (.bipush 40, 2) := by decide +kernel
theorem dX13_init_237 : decode cX13_init 237 = .ok (.newarray .int, 2) := by decide +kernel
theorem dX13_init_239 : decode cX13_init 239 = .ok (.putfield 215, 3) := by decide +kernel
theorem dX13_init_242 : decode cX13_init 242 = .ok (.aload_n 0, 1) := by decide +kernel
theorem dX13_init_243 : decode cX13_init 243 = .ok (.bipush 40, 2) := by decide +kernel
theorem dX13_init_245 : decode cX13_init 245 = .ok (.newarray .int, 2) := by decide +kernel
theorem dX13_init_247 : decode cX13_init 247 = .ok (.putfield 218, 3) := by decide +kernel
theorem dX13_init_250 : decode cX13_init 250 = .ok (.aload_n 0, 1) := by decide +kernel
theorem dX13_init_251 : decode cX13_init 251 = .ok (.bipush 40, 2) := by decide +kernel
theorem dX13_init_253 : decode cX13_init 253 = .ok (.newarray .int, 2) := by decide +kernel
theorem dX13_init_255 : decode cX13_init 255 = .ok (.putfield 221, 3) := by decide +kernel
theorem dX13_init_258 : decode cX13_init 258 = .ok (.aload_n 0, 1) := by decide +kernel
theorem dX13_init_259 : decode cX13_init 259 = .ok (.bipush 40, 2) := by decide +kernel
theorem dX13_init_261 : decode cX13_init 261 = .ok (.newarray .boolean, 2) := by decide +kernel
theorem dX13_init_263 : decode cX13_init 263 = .ok (.putfield 223, 3) := by decide +kernel
theorem dX13_init_266 : decode cX13_init 266 = .ok (.aload_n 0, 1) := by decide +kernel
theorem dX13_init_267 : decode cX13_init 267 = .ok (.iconst 4, 1) := by decide +kernel
theorem dX13_init_268 : decode cX13_init 268 = .ok (.newarray .int, 2) := by decide +kernel
theorem dX13_init_270 : decode cX13_init 270 = .ok (.putfield 226, 3) := by decide +kernel
theorem dX13_init_273 : decode cX13_init 273 = .ok (.aload_n 0, 1) := by decide +kernel
theorem dX13_init_274 : decode cX13_init 274 = .ok (.iconst 4, 1) := by decide +kernel
theorem dX13_init_275 : decode cX13_init 275 = .ok (.newarray .int, 2) := by decide +kernel
theorem dX13_init_277 : decode cX13_init 277 = .ok (.putfield 229, 3) := by decide +kernel
theorem dX13_init_280 : decode cX13_init 280 = .ok (.aload_n 0, 1) := by decide +kernel
theorem dX13_init_281 : decode cX13_init 281 = .ok (.iconst 4, 1) := by decide +kernel
theorem dX13_init_282 : decode cX13_init 282 = .ok (.newarray .int, 2) := by decide +kernel
theorem dX13_init_284 : decode cX13_init 284 = .ok (.putfield 232, 3) := by decide +kernel
theorem dX13_init_287 : decode cX13_init 287 = .ok (.aload_n 0, 1) := by decide +kernel
theorem dX13_init_288 : decode cX13_init 288 = .ok (.iconst 4, 1) := by decide +kernel
theorem dX13_init_289 : decode cX13_init 289 = .ok (.newarray .int, 2) := by decide +kernel
theorem dX13_init_291 : decode cX13_init 291 = .ok (.putfield 235, 3) := by decide +kernel
theorem dX13_init_294 : decode cX13_init 294 = .ok (.aload_n 0, 1) := by decide +kernel
theorem dX13_init_295 : decode cX13_init 295 = .ok (.iconst 4, 1) := by decide +kernel
theorem dX13_init_296 : decode cX13_init 296 = .ok (.newarray .int, 2) := by decide +kernel
theorem dX13_init_298 : decode cX13_init 298 = .ok (.putfield 238, 3) := by decide +kernel
theorem dX13_init_301 : decode cX13_init 301 = .ok (.aload_n 0, 1) := by decide +kernel
theorem dX13_init_302 : decode cX13_init 302 = .ok (.bipush 10, 2) := by decide +kernel
theorem dX13_init_304 : decode cX13_init 304 = .ok (.newarray .int, 2) := by decide +kernel
theorem dX13_init_306 : decode cX13_init 306 = .ok (.putfield 241, 3) := by decide +kernel
theorem dX13_init_309 : decode cX13_init 309 = .ok (.aload_n 0, 1) := by decide +kernel
theorem dX13_init_310 : decode cX13_init 310 = .ok (.sipush 200, 3) := by decide +kernel
theorem dX13_init_313 : decode cX13_init 313 = .ok (.newarray .int, 2) := by decide +kernel
theorem dX13_init_315 : decode cX13_init 315 = .ok (.putfield 244, 3) := by decide +kernel
theorem dX13_init_318 : decode cX13_init 318 = .ok (.aload_n 0, 1) := by decide +kernel
theorem dX13_init_319 : decode cX13_init 319 = .ok (.bipush 80, 2) := by decide +kernel
theorem dX13_init_321 : decode cX13_init 321 = .ok (.newarray .int, 2) := by decide +kernel
theorem dX13_init_323 : decode cX13_init 323 = .ok (.putfield 247, 3) := by decide +kernel
theorem dX13_init_326 : decode cX13_init 326 = .ok (.aload_n 0, 1) := by decide +kernel
theorem dX13_init_327 : decode cX13_init 327 = .ok (.bipush 80, 2) := by decide +kernel
theorem dX13_init_329 : decode cX13_init 329 = .ok (.newarray .int, 2) := by decide +kernel
theorem dX13_init_331 : decode cX13_init 331 = .ok (.putfield 250, 3) := by decide +kernel
theorem dX13_init_334 : decode cX13_init 334 = .ok (.aload_n 0, 1) := by decide +kernel
theorem dX13_init_335 : decode cX13_init 335 = .ok (.bipush 80, 2) := by decide +kernel
theorem dX13_init_337 : decode cX13_init 337 = .ok (.newarray .int, 2) := by decide +kernel
theorem dX13_init_339 : decode cX13_init 339 = .ok (.putfield 253, 3) := by decide +kernel
theorem dX13_init_342 : decode cX13_init 342 = .ok (.aload_n 0, 1) := by decide +kernel
theorem dX13_init_343 : decode cX13_init 343 = .ok (.bipush 80, 2) := by decide +kernel
theorem dX13_init_345 : decode cX13_init 345 = .ok (.newarray .int, 2) := by decide +kernel
theorem dX13_init_347 : decode cX13_init 347 = .ok (.putfield 256, 3) := by decide +kernel
theorem dX13_init_350 : decode cX13_init 350 = .ok (.aload_n 0, 1) := by decide +kernel
theorem dX13_init_351 : decode cX13_init 351 = .ok (.bipush 80, 2) := by decide +kernel
theorem dX13_init_353 : decode cX13_init 353 = .ok (.newarray .int, 2) := by decide +kernel
theorem dX13_init_355 : decode cX13_init 355 = .ok (.putfield 259, 3) := by decide +kernel
theorem dX13_init_358 : decode cX13_init 358 = .ok (.aload_n 0, 1) := by decide +kernel
theorem dX13_init_359 : decode cX13_init 359 = .ok (.bipush 40, 2) := by decide +kernel
theorem dX13_init_361 : decode cX13_init 361 = .ok (.newarray .int, 2) := by decide +kernel
theorem dX13_init_363 : decode cX13_init 363 = .ok (.putfield 262, 3) := by decide +kernel
theorem dX13_init_366 : decode cX13_init 366 = .ok (.aload_n 0, 1) := by decide +kernel
theorem dX13_init_367 : decode cX13_init 367 = .ok (.bipush 15, 2) := by decide +kernel
theorem dX13_init_369 : decode cX13_init 369 = .ok (.newarray .int, 2) := by decide +kernel
theorem dX13_init_371 : decode cX13_init 371 = .ok (.putfield 265, 3) := by decide +kernel
theorem dX13_init_374 : decode cX13_init 374 = .ok (.aload_n 0, 1) := by decide +kernel
theorem dX13_init_375 : decode cX13_init 375 = .ok (.bipush 40, 2) := by decide +kernel
theorem dX13_init_377 : decode cX13_init 377 = .ok (.newarray .int, 2) := by decide +kernel
theorem dX13_init_379 : decode cX13_init 379 = .ok (.putfield 268, 3) := by decide +kernel
theorem dX13_init_382 : decode cX13_init 382 = .ok (.aload_n 0, 1) := by decide +kernel
theorem dX13_init_383 : decode cX13_init 383 = .ok (.bipush 40, 2) := by decide +kernel
theorem dX13_init_385 : decode cX13_init 385 = .ok (.newarray .int, 2) := by decide +kernel
theorem dX13_init_387 : decode cX13_init 387 = .ok (.putfield 271, 3) := by decide +kernel
theorem dX13_init_390 : decode cX13_init 390 = .ok (.aload_n 0, 1) := by decide +kernel
theorem dX13_init_391 : decode cX13_init 391 = .ok (.bipush 10, 2) := by decide +kernel
theorem dX13_init_393 : decode cX13_init 393 = .ok (.newarray .int, 2) := by decide +kernel
theorem dX13_init_395 : decode cX13_init 395 = .ok (.putfield 274, 3) := by decide +kernel
theorem dX13_init_398 : decode cX13_init 398 = .ok (.aload_n 0, 1) := by decide +kernel
theorem dX13_init_399 : decode cX13_init 399 = .ok (.bipush 10, 2) := by decide +kernel
theorem dX13_init_401 : decode cX13_init 401 = .ok (.newarray .int, 2) := by decide +kernel
theorem dX13_init_403 : decode cX13_init 403 = .ok (.putfield 277, 3) := by decide +kernel
theorem dX13_init_406 : decode cX13_init 406 = .ok (.aload_n 0, 1) := by decide +kernel
theorem dX13_init_407 : decode cX13_init 407 = .ok (.bipush 15, 2) := by decide +kernel
theorem dX13_init_409 : decode cX13_init 409 = .ok (.newarray .int, 2) := by decide +kernel
theorem dX13_init_411 : decode cX13_init 411 = .ok (.putfield 280, 3) := by decide +kernel
theorem dX13_init_414 : decode cX13_init 414 = .ok (.aload_n 0, 1) := by decide +kernel
theorem dX13_init_415 : decode cX13_init 415 = .ok (.bipush 15, 2) := by decide +kernel
theorem dX13_init_417 : decode cX13_init 417 = .ok (.newarray .int, 2) := by decide +kernel
theorem dX13_init_419 : decode cX13_init 419 = .ok (.putfield 283, 3) := by decide +kernel
theorem dX13_init_422 : decode cX13_init 422 = .ok (.aload_n 0, 1) := by decide +kernel
theorem dX13_init_423 : decode cX13_init 423 = .ok (.iconst 4, 1) := by decide +kernel
theorem dX13_init_424 : decode cX13_init 424 = .ok (.newarray .int, 2) := by decide +kernel
theorem dX13_init_426 : decode cX13_init 426 = .ok (.putfield 286, 3) := by decide +kernel
theorem dX13_init_429 : decode cX13_init 429 = .ok (.aload_n 0, 1) := by decide +kernel
theorem dX13_init_430 : decode cX13_init 430 = .ok (.bipush 40, 2) := by decide +kernel
theorem dX13_init_432 : decode cX13_init 432 = .ok (.newarray .boolean, 2) := by decide +kernel
theorem dX13_init_434 : decode cX13_init 434 = .ok (.putfield 289, 3) := by decide +kernel
theorem dX13_init_437 : decode cX13_init 437 = .ok (.aload_n 0, 1) := by decide +kernel
theorem dX13_init_438 : decode cX13_init 438 = .ok (.bipush 40, 2) := by decide +kernel
theorem dX13_init_440 : decode cX13_init 440 = .ok (.newarray .boolean, 2) := by decide +kernel
theorem dX13_init_442 : decode cX13_init 442 = .ok (.putfield 292, 3) := by decide +kernel
theorem dX13_init_445 : decode cX13_init 445 = .ok (.aload_n 0, 1) := by decide +kernel
theorem dX13_init_446 : decode cX13_init 446 = .ok (.bipush 40, 2) := by decide +kernel
theorem dX13_init_448 : decode cX13_init 448 = .ok (.newarray .int, 2) := by decide +kernel
theorem dX13_init_450 : decode cX13_init 450 = .ok (.putfield 295, 3) := by decide +kernel
theorem dX13_init_453 : decode cX13_init 453 = .ok (.aload_n 0, 1) := by decide +kernel
theorem dX13_init_454 : decode cX13_init 454 = .ok (.bipush 40, 2) := by decide +kernel
theorem dX13_init_456 : decode cX13_init 456 = .ok (.newarray .int, 2) := by decide +kernel
theorem dX13_init_458 : decode cX13_init 458 = .ok (.putfield 298, 3) := by decide +kernel
theorem dX13_init_461 : decode cX13_init 461 = .ok (.aload_n 0, 1) := by decide +kernel
theorem dX13_init_462 : decode cX13_init 462 = .ok (.bipush 40, 2) := by decide +kernel
theorem dX13_init_464 : decode cX13_init 464 = .ok (.newarray .int, 2) := by decide +kernel
theorem dX13_init_466 : decode cX13_init 466 = .ok (.putfield 301, 3) := by decide +kernel
theorem dX13_init_469 : decode cX13_init 469 = .ok (.aload_n 0, 1) := by decide +kernel
theorem dX13_init_470 : decode cX13_init 470 = .ok (.sipush 2400, 3) := by decide +kernel
theorem dX13_init_473 : decode cX13_init 473 = .ok (.newarray .byte, 2) := by decide +kernel
theorem dX13_init_475 : decode cX13_init 475 = .ok (.putfield 304, 3) := by decide +kernel
theorem dX13_init_478 : decode cX13_init 478 = .ok (.aload_n 0, 1) := by decide +kernel
theorem dX13_init_479 : decode cX13_init 479 = .ok (.sipush 400, 3) := by decide +kernel
theorem dX13_init_482 : decode cX13_init 482 = .ok (.newarray .boolean, 2) := by decide +kernel
theorem dX13_init_484 : decode cX13_init 484 = .ok (.putfield 307, 3) := by decide +kernel
theorem dX13_init_487 : decode cX13_init 487 = .ok (.iconst 0, 1) := by decide +kernel
theorem dX13_init_488 : decode cX13_init 488 = .ok (.istore_n 1, 1) := by decide +kernel
theorem dX13_init_489 : decode cX13_init 489 = .ok (.iload_n 1, 1) := by decide +kernel
theorem dX13_init_490 : decode cX13_init 490 = .ok (.bipush 10, 2) := by decide +kernel
theorem dX13_init_492 : decode cX13_init 492 = .ok (.if_icmp .ge 24, 3) := by decide +kernel
theorem dX13_init_495 : decode cX13_init 495 = .ok (.aload_n 0, 1) := by decide +kernel
theorem dX13_init_496 : decode cX13_init 496 = .ok (.getfield 191, 3) := by decide +kernel
theorem dX13_init_499 : decode cX13_init 499 = .ok (.iload_n 1, 1) := by decide +kernel
theorem dX13_init_500 : decode cX13_init 500 = .ok (.bipush 19, 2) := by decide +kernel
theorem dX13_init_502 : decode cX13_init 502 = .ok (.iastore, 1) := by decide +kernel
theorem dX13_init_503 : decode cX13_init 503 = .ok (.aload_n 0, 1) := by decide +kernel
theorem dX13_init_504 : decode cX13_init 504 = .ok (.getfield 177, 3) := by decide +kernel
theorem dX13_init_507 : decode cX13_init 507 = .ok (.iload_n 1, 1) := by decide +kernel
theorem dX13_init_508 : decode cX13_init 508 = .ok (.iconst (-1), 1) := by decide +kernel
theorem dX13_init_509 : decode cX13_init 509 = .ok (.iastore, 1) := by decide +kernel
theorem dX13_init_510 : decode cX13_init 510 = .ok (.iinc 1 1, 3) := by decide +kernel
theorem dX13_init_513 : decode cX13_init 513 = .ok (.goto (-24), 3) := by decide +kernel
theorem dX13_init_516 : decode cX13_init 516 = .ok (.iconst 0, 1) := by decide +kernel
theorem dX13_init_517 : decode cX13_init 517 = .ok (.istore_n 1, 1) := by decide +kernel
theorem dX13_init_518 : decode cX13_init 518 = .ok (.iload_n 1, 1) := by decide +kernel
theorem dX13_init_519 : decode cX13_init 519 = .ok (.bipush 15, 2) := by decide +kernel
theorem dX13_init_521 : decode cX13_init 521 = .ok (.if_icmp .ge 25, 3) := by decide +kernel
theorem dX13_init_524 : decode cX13_init 524 = .ok (.aload_n 0, 1) := by decide +kernel
theorem dX13_init_525 : decode cX13_init 525 = .ok (.getfield 197, 3) := by decide +kernel
theorem dX13_init_528 : decode cX13_init 528 = .ok (.iload_n 1, 1) := by decide +kernel
theorem dX13_init_529 : decode cX13_init 529 = .ok (.bipush 19, 2) := by decide +kernel
theorem dX13_init_531 : decode cX13_init 531 = .ok (.iastore, 1) := by decide +kernel
theorem dX13_init_532 : decode cX13_init 532 = .ok (.aload_n 0, 1) := by decide +kernel
theorem dX13_init_533 : decode cX13_init 533 = .ok (.getfield 206, 3) := by decide +kernel
theorem dX13_init_536 : decode cX13_init 536 = .ok (.iload_n 1, 1) := by decide +kernel
theorem dX13_init_537 : decode cX13_init 537 = .ok (.bipush 19, 2) := by decide +kernel
theorem dX13_init_539 : decode cX13_init 539 = .ok (.iastore, 1) := by decide +kernel
theorem dX13_init_540 : decode cX13_init 540 = .ok (.iinc 1 1, 3) := by decide +kernel
theorem dX13_init_543 : decode cX13_init 543 = .ok (.goto (-25), 3) := by decide +kernel
theorem dX13_init_546 : decode cX13_init 546 = .ok (.return_, 1) := by decide +kernel
noncomputable def fX13_init_256 (k273 : Int32 → qM → Option (Unit × qM)) : Nat → Int32 → qM → Option (Unit × qM)
  | 0, _, _ => none
  | n + 1, a1, m =>
    bif leb ((10 : Int32)) a1 then k273 ((0 : Int32)) m else qbN (gR m 98 24) (fun q121 => bif Nat.beq q121 115 then bif inb a1 10 then let m122 := (sI m 115 (ix a1) ((19 : Int32))); qbN (gR m122 98 9) (fun q123 => bif Nat.beq q123 108 then bif inb a1 10 then let m124 := (sI m122 108 (ix a1) ((-1 : Int32))); (fX13_init_256 k273 n) ((a1 + (1 : Int32))) m124 else none else none) none else none else none) none
noncomputable def tX13_init_256 (j273 : qT (Unit × qM)) (j256 : qT (Unit × qM)) : qT (Unit × qM) :=
  oLi 1 (oC (.int (10 : Int32)) (oCGe (oC (.int (0 : Int32)) (oSi 1 (j273))) (oLa 0 (oGr 98 24 (oIs 115 (oLi 1 (oC (.int (19 : Int32)) (oWi 115 10 (oLa 0 (oGr 98 9 (oIs 108 (oLi 1 (oC (.int (-1 : Int32)) (oWi 108 10 (oInc 1 (1 : Int32) (j256))))))))))))))))
noncomputable def wX13_init_256 (k : Int32 → qM → Option (Unit × qM)) : qT (Unit × qM) := fun lo st m => match lo, st with
  | [some (.ref 98), some (.int a1)], [] => k a1 m
  | _, _ => none
noncomputable def wX13_init_273 (k : Int32 → qM → Option (Unit × qM)) : qT (Unit × qM) := fun lo st m => match lo, st with
  | [some (.ref 98), some (.int a1)], [] => k a1 m
  | _, _ => none
set_option maxRecDepth 20000 in
theorem sX13_init_256 {C : qCx} {w : qWp} (h : qOk C w RX13 cX13_init 2 4 99 155) (hm : qMt C none) (hx : qNx C) (hin : C.2.2.2.2.2.2.2.2.1.name = "<init>") {j273 : qT (Unit × qM)} {j256 : qT (Unit × qM)} (k273 : qSnd C w 2 99 (qQf C w 99 155 jV) qf0 155 518 j273) (k256 : qSnd C w 2 99 (qQf C w 99 155 jV) qf0 155 489 j256) : qSnd C w 2 99 (qQf C w 99 155 jV) qf0 155 489 (tX13_init_256 j273 j256) :=
  cLi (pc := 489) h dX13_init_489 rfl (cB (pc := 490) h dX13_init_490 rfl (jCGe (pc := 492) h dX13_init_492 rfl (cC (pc := 516) h dX13_init_516 rfl (cSi (pc := 517) h dX13_init_517 rfl (k273))) (cLa (pc := 495) h dX13_init_495 rfl (gGr (pc := 496) h dX13_init_496 ff_X13_191_98 (Nat.le_of_ble_eq_true rfl) (Nat.le_of_ble_eq_true rfl) rfl (nIs (cLi (pc := 499) h dX13_init_499 rfl (cB (pc := 500) h dX13_init_500 rfl (rWi (pc := 502) h dX13_init_502 rfl (Nat.le_of_ble_eq_true rfl) (Nat.le_of_ble_eq_true rfl) (cLa (pc := 503) h dX13_init_503 rfl (gGr (pc := 504) h dX13_init_504 ff_X13_177_98 (Nat.le_of_ble_eq_true rfl) (Nat.le_of_ble_eq_true rfl) rfl (nIs (cLi (pc := 507) h dX13_init_507 rfl (cC (pc := 508) h dX13_init_508 rfl (rWi (pc := 509) h dX13_init_509 rfl (Nat.le_of_ble_eq_true rfl) (Nat.le_of_ble_eq_true rfl) (cInc (pc := 510) h dX13_init_510 rfl (jGo (pc := 513) h dX13_init_513 rfl (k256)))))))))))))))))
set_option maxRecDepth 20000 in
theorem lX13_init_256 (k273 : Int32 → qM → Option (Unit × qM)) (n : Nat) (a1 : Int32) (m : qM) : tX13_init_256 (wX13_init_273 k273) (wX13_init_256 ((fX13_init_256 k273 n))) [some (.ref 98), some (.int a1)] [] m = fX13_init_256 k273 (n + 1) a1 m := rfl
theorem bX13_init_256 {C : qCx} {w : qWp} (h : qOk C w RX13 cX13_init 2 4 99 155) (hm : qMt C none) (hx : qNx C) (hin : C.2.2.2.2.2.2.2.2.1.name = "<init>") {k273 : Int32 → qM → Option (Unit × qM)} (h273 : qSnd C w 2 99 (qQf C w 99 155 jV) qf0 155 518 (wX13_init_273 k273)) : ∀ n : Nat, qSnd C w 2 99 (qQf C w 99 155 jV) qf0 155 489 (wX13_init_256 (fX13_init_256 k273 n))
  | 0 => qSnd_of0 (fun lo st m x hr0 => by
    unfold wX13_init_256 at hr0
    split at hr0
    · cases hr0
    · cases hr0)
  | n + 1 => by
    have ih := bX13_init_256 h hm hx hin h273 n
    exact qSnd_of (fun lo st m x hr0 => by
    unfold wX13_init_256 at hr0
    split at hr0
    · exact ⟨_, (qsub_e (qsub_e qsub_nil)), (lX13_init_256 _ n _ _).trans hr0⟩
    · cases hr0) (sX13_init_256 h hm hx hin h273 ih)
noncomputable def fX13_init_273 : Nat → Int32 → qM → Option (Unit × qM)
  | 0, _, _ => none
  | n + 1, a1, m =>
    bif leb ((15 : Int32)) a1 then some ((), m) else qbN (gR m 98 26) (fun q125 => bif Nat.beq q125 117 then bif inb a1 15 then let m126 := (sI m 117 (ix a1) ((19 : Int32))); qbN (gR m126 98 29) (fun q127 => bif Nat.beq q127 120 then bif inb a1 15 then let m128 := (sI m126 120 (ix a1) ((19 : Int32))); (fX13_init_273 n) ((a1 + (1 : Int32))) m128 else none else none) none else none else none) none
noncomputable def tX13_init_273 (j273 : qT (Unit × qM)) : qT (Unit × qM) :=
  oLi 1 (oC (.int (15 : Int32)) (oCGe (eV) (oLa 0 (oGr 98 26 (oIs 117 (oLi 1 (oC (.int (19 : Int32)) (oWi 117 15 (oLa 0 (oGr 98 29 (oIs 120 (oLi 1 (oC (.int (19 : Int32)) (oWi 120 15 (oInc 1 (1 : Int32) (j273))))))))))))))))
set_option maxRecDepth 20000 in
theorem sX13_init_273 {C : qCx} {w : qWp} (h : qOk C w RX13 cX13_init 2 4 99 155) (hm : qMt C none) (hx : qNx C) (hin : C.2.2.2.2.2.2.2.2.1.name = "<init>") {j273 : qT (Unit × qM)} (k273 : qSnd C w 2 99 (qQf C w 99 155 jV) qf0 155 518 j273) : qSnd C w 2 99 (qQf C w 99 155 jV) qf0 155 518 (tX13_init_273 j273) :=
  cLi (pc := 518) h dX13_init_518 rfl (cB (pc := 519) h dX13_init_519 rfl (jCGe (pc := 521) h dX13_init_521 rfl (zV (pc := 546) h hm (by decide) dX13_init_546) (cLa (pc := 524) h dX13_init_524 rfl (gGr (pc := 525) h dX13_init_525 ff_X13_197_98 (Nat.le_of_ble_eq_true rfl) (Nat.le_of_ble_eq_true rfl) rfl (nIs (cLi (pc := 528) h dX13_init_528 rfl (cB (pc := 529) h dX13_init_529 rfl (rWi (pc := 531) h dX13_init_531 rfl (Nat.le_of_ble_eq_true rfl) (Nat.le_of_ble_eq_true rfl) (cLa (pc := 532) h dX13_init_532 rfl (gGr (pc := 533) h dX13_init_533 ff_X13_206_98 (Nat.le_of_ble_eq_true rfl) (Nat.le_of_ble_eq_true rfl) rfl (nIs (cLi (pc := 536) h dX13_init_536 rfl (cB (pc := 537) h dX13_init_537 rfl (rWi (pc := 539) h dX13_init_539 rfl (Nat.le_of_ble_eq_true rfl) (Nat.le_of_ble_eq_true rfl) (cInc (pc := 540) h dX13_init_540 rfl (jGo (pc := 543) h dX13_init_543 rfl (k273)))))))))))))))))
set_option maxRecDepth 20000 in
theorem lX13_init_273 (n : Nat) (a1 : Int32) (m : qM) : tX13_init_273 (wX13_init_273 ((fX13_init_273 n))) [some (.ref 98), some (.int a1)] [] m = fX13_init_273 (n + 1) a1 m := rfl
theorem bX13_init_273 {C : qCx} {w : qWp} (h : qOk C w RX13 cX13_init 2 4 99 155) (hm : qMt C none) (hx : qNx C) (hin : C.2.2.2.2.2.2.2.2.1.name = "<init>") : ∀ n : Nat, qSnd C w 2 99 (qQf C w 99 155 jV) qf0 155 518 (wX13_init_273 (fX13_init_273 n))
  | 0 => qSnd_of0 (fun lo st m x hr0 => by
    unfold wX13_init_273 at hr0
    split at hr0
    · cases hr0
    · cases hr0)
  | n + 1 => by
    have ih := bX13_init_273 h hm hx hin n
    exact qSnd_of (fun lo st m x hr0 => by
    unfold wX13_init_273 at hr0
    split at hr0
    · exact ⟨_, (qsub_e (qsub_e qsub_nil)), (lX13_init_273 n _ _).trans hr0⟩
    · cases hr0) (sX13_init_273 h hm hx hin ih)
noncomputable def fX13_init_250 (m : qM) : Option (Unit × qM) :=
  bif Nat.beq (Int32.toNatClampNeg ((400 : Int32))) 400 then (bif Nat.beq 400 0 then none else (let m119 := (qz m 154); let m120 := (sR m119 98 74 (some 154)); fX13_init_256 (fX13_init_273 FU) FU ((0 : Int32)) m120)) else none
noncomputable def tX13_init_250 (j256 : qT (Unit × qM)) : qT (Unit × qM) :=
  oLa 0 (oC (.int (400 : Int32)) (oNewa 154 400 (oPr 98 74 (oC (.int (0 : Int32)) (oSi 1 (j256))))))
noncomputable def wX13_init_250 (k : qM → Option (Unit × qM)) : qT (Unit × qM) := fun lo st m => match lo, st with
  | [some (.ref 98), _], [] => k m
  | _, _ => none
set_option maxRecDepth 20000 in
theorem sX13_init_250 {C : qCx} {w : qWp} (h : qOk C w RX13 cX13_init 2 4 99 155) (hm : qMt C none) (hx : qNx C) (hin : C.2.2.2.2.2.2.2.2.1.name = "<init>") {j256 : qT (Unit × qM)} (k256 : qSnd C w 2 99 (qQf C w 99 155 jV) qf0 155 489 j256) : qSnd C w 2 99 (qQf C w 99 155 jV) qf0 154 478 (tX13_init_250 j256) :=
  cLa (pc := 478) h dX13_init_478 rfl (cS (pc := 479) h dX13_init_479 rfl (nNewz (pc := 482) h dX13_init_482 rfl ac_boolean (by decide) (by decide) (by decide) (by decide) (gPr (pc := 484) h dX13_init_484 ff_X13_307_98 (Or.inr ⟨rfl, hin, rfl⟩) (Nat.le_of_ble_eq_true rfl) (Nat.le_of_ble_eq_true rfl) rfl (cC (pc := 487) h dX13_init_487 rfl (cSi (pc := 488) h dX13_init_488 rfl (k256))))))
set_option maxRecDepth 20000 in
theorem lX13_init_250 (m : qM) : tX13_init_250 (wX13_init_256 (fX13_init_256 (fX13_init_273 FU) FU)) [some (.ref 98), none] [] m = fX13_init_250 m := rfl
theorem bX13_init_250 {C : qCx} {w : qWp} (h : qOk C w RX13 cX13_init 2 4 99 155) (hm : qMt C none) (hx : qNx C) (hin : C.2.2.2.2.2.2.2.2.1.name = "<init>") : qSnd C w 2 99 (qQf C w 99 155 jV) qf0 154 478 (wX13_init_250 fX13_init_250) :=
  qSnd_of (fun lo st m x hr0 => by
    unfold wX13_init_250 at hr0
    split at hr0
    · exact ⟨_, (qsub_e (qsub_n qsub_nil)), (lX13_init_250 _).trans hr0⟩
    · cases hr0) (sX13_init_250 h hm hx hin (bX13_init_256 h hm hx hin (bX13_init_273 h hm hx hin FU) FU))
noncomputable def fX13_init_226 (m : qM) : Option (Unit × qM) :=
  bif Nat.beq (Int32.toNatClampNeg ((40 : Int32))) 40 then (bif Nat.beq 40 0 then none else (let m107 := (qz m 148); let m108 := (sR m107 98 67 (some 148)); bif Nat.beq (Int32.toNatClampNeg ((40 : Int32))) 40 then (bif Nat.beq 40 0 then none else (let m109 := (qz m108 149); let m110 := (sR m109 98 68 (some 149)); bif Nat.beq (Int32.toNatClampNeg ((40 : Int32))) 40 then (bif Nat.beq 40 0 then none else (let m111 := (qz m110 150); let m112 := (sR m111 98 69 (some 150)); bif Nat.beq (Int32.toNatClampNeg ((40 : Int32))) 40 then (bif Nat.beq 40 0 then none else (let m113 := (qz m112 151); let m114 := (sR m113 98 71 (some 151)); bif Nat.beq (Int32.toNatClampNeg ((40 : Int32))) 40 then (bif Nat.beq 40 0 then none else (let m115 := (qz m114 152); let m116 := (sR m115 98 72 (some 152)); bif Nat.beq (Int32.toNatClampNeg ((2400 : Int32))) 2400 then (bif Nat.beq 2400 0 then none else (let m117 := (qz m116 153); let m118 := (sR m117 98 73 (some 153)); fX13_init_250 m118)) else none)) else none)) else none)) else none)) else none)) else none
noncomputable def tX13_init_226 (j250 : qT (Unit × qM)) : qT (Unit × qM) :=
  oLa 0 (oC (.int (40 : Int32)) (oNewa 148 40 (oPr 98 67 (oLa 0 (oC (.int (40 : Int32)) (oNewa 149 40 (oPr 98 68 (oLa 0 (oC (.int (40 : Int32)) (oNewa 150 40 (oPr 98 69 (oLa 0 (oC (.int (40 : Int32)) (oNewa 151 40 (oPr 98 71 (oLa 0 (oC (.int (40 : Int32)) (oNewa 152 40 (oPr 98 72 (oLa 0 (oC (.int (2400 : Int32)) (oNewa 153 2400 (oPr 98 73 (j250))))))))))))))))))))))))
noncomputable def wX13_init_226 (k : qM → Option (Unit × qM)) : qT (Unit × qM) := fun lo st m => match lo, st with
  | [some (.ref 98), _], [] => k m
  | _, _ => none
set_option maxRecDepth 20000 in
theorem sX13_init_226 {C : qCx} {w : qWp} (h : qOk C w RX13 cX13_init 2 4 99 155) (hm : qMt C none) (hx : qNx C) (hin : C.2.2.2.2.2.2.2.2.1.name = "<init>") {j250 : qT (Unit × qM)} (k250 : qSnd C w 2 99 (qQf C w 99 155 jV) qf0 154 478 j250) : qSnd C w 2 99 (qQf C w 99 155 jV) qf0 148 429 (tX13_init_226 j250) :=
  cLa (pc := 429) h dX13_init_429 rfl (cB (pc := 430) h dX13_init_430 rfl (nNewz (pc := 432) h dX13_init_432 rfl ac_boolean (by decide) (by decide) (by decide) (by decide) (gPr (pc := 434) h dX13_init_434 ff_X13_289_98 (Or.inr ⟨rfl, hin, rfl⟩) (Nat.le_of_ble_eq_true rfl) (Nat.le_of_ble_eq_true rfl) rfl (cLa (pc := 437) h dX13_init_437 rfl (cB (pc := 438) h dX13_init_438 rfl (nNewz (pc := 440) h dX13_init_440 rfl ac_boolean (by decide) (by decide) (by decide) (by decide) (gPr (pc := 442) h dX13_init_442 ff_X13_292_98 (Or.inr ⟨rfl, hin, rfl⟩) (Nat.le_of_ble_eq_true rfl) (Nat.le_of_ble_eq_true rfl) rfl (cLa (pc := 445) h dX13_init_445 rfl (cB (pc := 446) h dX13_init_446 rfl (nNewi (pc := 448) h dX13_init_448 rfl ac_int (by decide) (by decide) (by decide) (by decide) (gPr (pc := 450) h dX13_init_450 ff_X13_295_98 (Or.inr ⟨rfl, hin, rfl⟩) (Nat.le_of_ble_eq_true rfl) (Nat.le_of_ble_eq_true rfl) rfl (cLa (pc := 453) h dX13_init_453 rfl (cB (pc := 454) h dX13_init_454 rfl (nNewi (pc := 456) h dX13_init_456 rfl ac_int (by decide) (by decide) (by decide) (by decide) (gPr (pc := 458) h dX13_init_458 ff_X13_298_98 (Or.inr ⟨rfl, hin, rfl⟩) (Nat.le_of_ble_eq_true rfl) (Nat.le_of_ble_eq_true rfl) rfl (cLa (pc := 461) h dX13_init_461 rfl (cB (pc := 462) h dX13_init_462 rfl (nNewi (pc := 464) h dX13_init_464 rfl ac_int (by decide) (by decide) (by decide) (by decide) (gPr (pc := 466) h dX13_init_466 ff_X13_301_98 (Or.inr ⟨rfl, hin, rfl⟩) (Nat.le_of_ble_eq_true rfl) (Nat.le_of_ble_eq_true rfl) rfl (cLa (pc := 469) h dX13_init_469 rfl (cS (pc := 470) h dX13_init_470 rfl (nNewb (pc := 473) h dX13_init_473 rfl ac_byte (by decide) (by decide) (by decide) (by decide) (gPr (pc := 475) h dX13_init_475 ff_X13_304_98 (Or.inr ⟨rfl, hin, rfl⟩) (Nat.le_of_ble_eq_true rfl) (Nat.le_of_ble_eq_true rfl) rfl (k250))))))))))))))))))))))))
set_option maxRecDepth 20000 in
theorem lX13_init_226 (m : qM) : tX13_init_226 (wX13_init_250 fX13_init_250) [some (.ref 98), none] [] m = fX13_init_226 m := rfl
theorem bX13_init_226 {C : qCx} {w : qWp} (h : qOk C w RX13 cX13_init 2 4 99 155) (hm : qMt C none) (hx : qNx C) (hin : C.2.2.2.2.2.2.2.2.1.name = "<init>") : qSnd C w 2 99 (qQf C w 99 155 jV) qf0 148 429 (wX13_init_226 fX13_init_226) :=
  qSnd_of (fun lo st m x hr0 => by
    unfold wX13_init_226 at hr0
    split at hr0
    · exact ⟨_, (qsub_e (qsub_n qsub_nil)), (lX13_init_226 _).trans hr0⟩
    · cases hr0) (sX13_init_226 h hm hx hin (bX13_init_250 h hm hx hin))
noncomputable def fX13_init_198 (m : qM) : Option (Unit × qM) :=
  bif Nat.beq (Int32.toNatClampNeg ((40 : Int32))) 40 then (bif Nat.beq 40 0 then none else (let m93 := (qz m 141); let m94 := (sR m93 98 60 (some 141)); bif Nat.beq (Int32.toNatClampNeg ((40 : Int32))) 40 then (bif Nat.beq 40 0 then none else (let m95 := (qz m94 142); let m96 := (sR m95 98 61 (some 142)); bif Nat.beq (Int32.toNatClampNeg ((10 : Int32))) 10 then (bif Nat.beq 10 0 then none else (let m97 := (qz m96 143); let m98 := (sR m97 98 62 (some 143)); bif Nat.beq (Int32.toNatClampNeg ((10 : Int32))) 10 then (bif Nat.beq 10 0 then none else (let m99 := (qz m98 144); let m100 := (sR m99 98 63 (some 144)); bif Nat.beq (Int32.toNatClampNeg ((15 : Int32))) 15 then (bif Nat.beq 15 0 then none else (let m101 := (qz m100 145); let m102 := (sR m101 98 64 (some 145)); bif Nat.beq (Int32.toNatClampNeg ((15 : Int32))) 15 then (bif Nat.beq 15 0 then none else (let m103 := (qz m102 146); let m104 := (sR m103 98 65 (some 146)); bif Nat.beq (Int32.toNatClampNeg ((4 : Int32))) 4 then (bif Nat.beq 4 0 then none else (let m105 := (qz m104 147); let m106 := (sR m105 98 66 (some 147)); fX13_init_226 m106)) else none)) else none)) else none)) else none)) else none)) else none)) else none
noncomputable def tX13_init_198 (j226 : qT (Unit × qM)) : qT (Unit × qM) :=
  oLa 0 (oC (.int (40 : Int32)) (oNewa 141 40 (oPr 98 60 (oLa 0 (oC (.int (40 : Int32)) (oNewa 142 40 (oPr 98 61 (oLa 0 (oC (.int (10 : Int32)) (oNewa 143 10 (oPr 98 62 (oLa 0 (oC (.int (10 : Int32)) (oNewa 144 10 (oPr 98 63 (oLa 0 (oC (.int (15 : Int32)) (oNewa 145 15 (oPr 98 64 (oLa 0 (oC (.int (15 : Int32)) (oNewa 146 15 (oPr 98 65 (oLa 0 (oC (.int (4 : Int32)) (oNewa 147 4 (oPr 98 66 (j226))))))))))))))))))))))))))))
noncomputable def wX13_init_198 (k : qM → Option (Unit × qM)) : qT (Unit × qM) := fun lo st m => match lo, st with
  | [some (.ref 98), _], [] => k m
  | _, _ => none
set_option maxRecDepth 20000 in
theorem sX13_init_198 {C : qCx} {w : qWp} (h : qOk C w RX13 cX13_init 2 4 99 155) (hm : qMt C none) (hx : qNx C) (hin : C.2.2.2.2.2.2.2.2.1.name = "<init>") {j226 : qT (Unit × qM)} (k226 : qSnd C w 2 99 (qQf C w 99 155 jV) qf0 148 429 j226) : qSnd C w 2 99 (qQf C w 99 155 jV) qf0 141 374 (tX13_init_198 j226) :=
  cLa (pc := 374) h dX13_init_374 rfl (cB (pc := 375) h dX13_init_375 rfl (nNewi (pc := 377) h dX13_init_377 rfl ac_int (by decide) (by decide) (by decide) (by decide) (gPr (pc := 379) h dX13_init_379 ff_X13_268_98 (Or.inr ⟨rfl, hin, rfl⟩) (Nat.le_of_ble_eq_true rfl) (Nat.le_of_ble_eq_true rfl) rfl (cLa (pc := 382) h dX13_init_382 rfl (cB (pc := 383) h dX13_init_383 rfl (nNewi (pc := 385) h dX13_init_385 rfl ac_int (by decide) (by decide) (by decide) (by decide) (gPr (pc := 387) h dX13_init_387 ff_X13_271_98 (Or.inr ⟨rfl, hin, rfl⟩) (Nat.le_of_ble_eq_true rfl) (Nat.le_of_ble_eq_true rfl) rfl (cLa (pc := 390) h dX13_init_390 rfl (cB (pc := 391) h dX13_init_391 rfl (nNewi (pc := 393) h dX13_init_393 rfl ac_int (by decide) (by decide) (by decide) (by decide) (gPr (pc := 395) h dX13_init_395 ff_X13_274_98 (Or.inr ⟨rfl, hin, rfl⟩) (Nat.le_of_ble_eq_true rfl) (Nat.le_of_ble_eq_true rfl) rfl (cLa (pc := 398) h dX13_init_398 rfl (cB (pc := 399) h dX13_init_399 rfl (nNewi (pc := 401) h dX13_init_401 rfl ac_int (by decide) (by decide) (by decide) (by decide) (gPr (pc := 403) h dX13_init_403 ff_X13_277_98 (Or.inr ⟨rfl, hin, rfl⟩) (Nat.le_of_ble_eq_true rfl) (Nat.le_of_ble_eq_true rfl) rfl (cLa (pc := 406) h dX13_init_406 rfl (cB (pc := 407) h dX13_init_407 rfl (nNewi (pc := 409) h dX13_init_409 rfl ac_int (by decide) (by decide) (by decide) (by decide) (gPr (pc := 411) h dX13_init_411 ff_X13_280_98 (Or.inr ⟨rfl, hin, rfl⟩) (Nat.le_of_ble_eq_true rfl) (Nat.le_of_ble_eq_true rfl) rfl (cLa (pc := 414) h dX13_init_414 rfl (cB (pc := 415) h dX13_init_415 rfl (nNewi (pc := 417) h dX13_init_417 rfl ac_int (by decide) (by decide) (by decide) (by decide) (gPr (pc := 419) h dX13_init_419 ff_X13_283_98 (Or.inr ⟨rfl, hin, rfl⟩) (Nat.le_of_ble_eq_true rfl) (Nat.le_of_ble_eq_true rfl) rfl (cLa (pc := 422) h dX13_init_422 rfl (cC (pc := 423) h dX13_init_423 rfl (nNewi (pc := 424) h dX13_init_424 rfl ac_int (by decide) (by decide) (by decide) (by decide) (gPr (pc := 426) h dX13_init_426 ff_X13_286_98 (Or.inr ⟨rfl, hin, rfl⟩) (Nat.le_of_ble_eq_true rfl) (Nat.le_of_ble_eq_true rfl) rfl (k226))))))))))))))))))))))))))))
set_option maxRecDepth 20000 in
theorem lX13_init_198 (m : qM) : tX13_init_198 (wX13_init_226 fX13_init_226) [some (.ref 98), none] [] m = fX13_init_198 m := rfl
theorem bX13_init_198 {C : qCx} {w : qWp} (h : qOk C w RX13 cX13_init 2 4 99 155) (hm : qMt C none) (hx : qNx C) (hin : C.2.2.2.2.2.2.2.2.1.name = "<init>") : qSnd C w 2 99 (qQf C w 99 155 jV) qf0 141 374 (wX13_init_198 fX13_init_198) :=
  qSnd_of (fun lo st m x hr0 => by
    unfold wX13_init_198 at hr0
    split at hr0
    · exact ⟨_, (qsub_e (qsub_n qsub_nil)), (lX13_init_198 _).trans hr0⟩
    · cases hr0) (sX13_init_198 h hm hx hin (bX13_init_226 h hm hx hin))
noncomputable def fX13_init_170 (m : qM) : Option (Unit × qM) :=
  bif Nat.beq (Int32.toNatClampNeg ((80 : Int32))) 80 then (bif Nat.beq 80 0 then none else (let m79 := (qz m 134); let m80 := (sR m79 98 53 (some 134)); bif Nat.beq (Int32.toNatClampNeg ((80 : Int32))) 80 then (bif Nat.beq 80 0 then none else (let m81 := (qz m80 135); let m82 := (sR m81 98 54 (some 135)); bif Nat.beq (Int32.toNatClampNeg ((80 : Int32))) 80 then (bif Nat.beq 80 0 then none else (let m83 := (qz m82 136); let m84 := (sR m83 98 55 (some 136)); bif Nat.beq (Int32.toNatClampNeg ((80 : Int32))) 80 then (bif Nat.beq 80 0 then none else (let m85 := (qz m84 137); let m86 := (sR m85 98 56 (some 137)); bif Nat.beq (Int32.toNatClampNeg ((80 : Int32))) 80 then (bif Nat.beq 80 0 then none else (let m87 := (qz m86 138); let m88 := (sR m87 98 57 (some 138)); bif Nat.beq (Int32.toNatClampNeg ((40 : Int32))) 40 then (bif Nat.beq 40 0 then none else (let m89 := (qz m88 139); let m90 := (sR m89 98 58 (some 139)); bif Nat.beq (Int32.toNatClampNeg ((15 : Int32))) 15 then (bif Nat.beq 15 0 then none else (let m91 := (qz m90 140); let m92 := (sR m91 98 59 (some 140)); fX13_init_198 m92)) else none)) else none)) else none)) else none)) else none)) else none)) else none
noncomputable def tX13_init_170 (j198 : qT (Unit × qM)) : qT (Unit × qM) :=
  oLa 0 (oC (.int (80 : Int32)) (oNewa 134 80 (oPr 98 53 (oLa 0 (oC (.int (80 : Int32)) (oNewa 135 80 (oPr 98 54 (oLa 0 (oC (.int (80 : Int32)) (oNewa 136 80 (oPr 98 55 (oLa 0 (oC (.int (80 : Int32)) (oNewa 137 80 (oPr 98 56 (oLa 0 (oC (.int (80 : Int32)) (oNewa 138 80 (oPr 98 57 (oLa 0 (oC (.int (40 : Int32)) (oNewa 139 40 (oPr 98 58 (oLa 0 (oC (.int (15 : Int32)) (oNewa 140 15 (oPr 98 59 (j198))))))))))))))))))))))))))))
noncomputable def wX13_init_170 (k : qM → Option (Unit × qM)) : qT (Unit × qM) := fun lo st m => match lo, st with
  | [some (.ref 98), _], [] => k m
  | _, _ => none
set_option maxRecDepth 20000 in
theorem sX13_init_170 {C : qCx} {w : qWp} (h : qOk C w RX13 cX13_init 2 4 99 155) (hm : qMt C none) (hx : qNx C) (hin : C.2.2.2.2.2.2.2.2.1.name = "<init>") {j198 : qT (Unit × qM)} (k198 : qSnd C w 2 99 (qQf C w 99 155 jV) qf0 141 374 j198) : qSnd C w 2 99 (qQf C w 99 155 jV) qf0 134 318 (tX13_init_170 j198) :=
  cLa (pc := 318) h dX13_init_318 rfl (cB (pc := 319) h dX13_init_319 rfl (nNewi (pc := 321) h dX13_init_321 rfl ac_int (by decide) (by decide) (by decide) (by decide) (gPr (pc := 323) h dX13_init_323 ff_X13_247_98 (Or.inr ⟨rfl, hin, rfl⟩) (Nat.le_of_ble_eq_true rfl) (Nat.le_of_ble_eq_true rfl) rfl (cLa (pc := 326) h dX13_init_326 rfl (cB (pc := 327) h dX13_init_327 rfl (nNewi (pc := 329) h dX13_init_329 rfl ac_int (by decide) (by decide) (by decide) (by decide) (gPr (pc := 331) h dX13_init_331 ff_X13_250_98 (Or.inr ⟨rfl, hin, rfl⟩) (Nat.le_of_ble_eq_true rfl) (Nat.le_of_ble_eq_true rfl) rfl (cLa (pc := 334) h dX13_init_334 rfl (cB (pc := 335) h dX13_init_335 rfl (nNewi (pc := 337) h dX13_init_337 rfl ac_int (by decide) (by decide) (by decide) (by decide) (gPr (pc := 339) h dX13_init_339 ff_X13_253_98 (Or.inr ⟨rfl, hin, rfl⟩) (Nat.le_of_ble_eq_true rfl) (Nat.le_of_ble_eq_true rfl) rfl (cLa (pc := 342) h dX13_init_342 rfl (cB (pc := 343) h dX13_init_343 rfl (nNewi (pc := 345) h dX13_init_345 rfl ac_int (by decide) (by decide) (by decide) (by decide) (gPr (pc := 347) h dX13_init_347 ff_X13_256_98 (Or.inr ⟨rfl, hin, rfl⟩) (Nat.le_of_ble_eq_true rfl) (Nat.le_of_ble_eq_true rfl) rfl (cLa (pc := 350) h dX13_init_350 rfl (cB (pc := 351) h dX13_init_351 rfl (nNewi (pc := 353) h dX13_init_353 rfl ac_int (by decide) (by decide) (by decide) (by decide) (gPr (pc := 355) h dX13_init_355 ff_X13_259_98 (Or.inr ⟨rfl, hin, rfl⟩) (Nat.le_of_ble_eq_true rfl) (Nat.le_of_ble_eq_true rfl) rfl (cLa (pc := 358) h dX13_init_358 rfl (cB (pc := 359) h dX13_init_359 rfl (nNewi (pc := 361) h dX13_init_361 rfl ac_int (by decide) (by decide) (by decide) (by decide) (gPr (pc := 363) h dX13_init_363 ff_X13_262_98 (Or.inr ⟨rfl, hin, rfl⟩) (Nat.le_of_ble_eq_true rfl) (Nat.le_of_ble_eq_true rfl) rfl (cLa (pc := 366) h dX13_init_366 rfl (cB (pc := 367) h dX13_init_367 rfl (nNewi (pc := 369) h dX13_init_369 rfl ac_int (by decide) (by decide) (by decide) (by decide) (gPr (pc := 371) h dX13_init_371 ff_X13_265_98 (Or.inr ⟨rfl, hin, rfl⟩) (Nat.le_of_ble_eq_true rfl) (Nat.le_of_ble_eq_true rfl) rfl (k198))))))))))))))))))))))))))))
set_option maxRecDepth 20000 in
theorem lX13_init_170 (m : qM) : tX13_init_170 (wX13_init_198 fX13_init_198) [some (.ref 98), none] [] m = fX13_init_170 m := rfl
theorem bX13_init_170 {C : qCx} {w : qWp} (h : qOk C w RX13 cX13_init 2 4 99 155) (hm : qMt C none) (hx : qNx C) (hin : C.2.2.2.2.2.2.2.2.1.name = "<init>") : qSnd C w 2 99 (qQf C w 99 155 jV) qf0 134 318 (wX13_init_170 fX13_init_170) :=
  qSnd_of (fun lo st m x hr0 => by
    unfold wX13_init_170 at hr0
    split at hr0
    · exact ⟨_, (qsub_e (qsub_n qsub_nil)), (lX13_init_170 _).trans hr0⟩
    · cases hr0) (sX13_init_170 h hm hx hin (bX13_init_198 h hm hx hin))
noncomputable def fX13_init_142 (m : qM) : Option (Unit × qM) :=
  bif Nat.beq (Int32.toNatClampNeg ((4 : Int32))) 4 then (bif Nat.beq 4 0 then none else (let m65 := (qz m 127); let m66 := (sR m65 98 38 (some 127)); bif Nat.beq (Int32.toNatClampNeg ((4 : Int32))) 4 then (bif Nat.beq 4 0 then none else (let m67 := (qz m66 128); let m68 := (sR m67 98 39 (some 128)); bif Nat.beq (Int32.toNatClampNeg ((4 : Int32))) 4 then (bif Nat.beq 4 0 then none else (let m69 := (qz m68 129); let m70 := (sR m69 98 40 (some 129)); bif Nat.beq (Int32.toNatClampNeg ((4 : Int32))) 4 then (bif Nat.beq 4 0 then none else (let m71 := (qz m70 130); let m72 := (sR m71 98 41 (some 130)); bif Nat.beq (Int32.toNatClampNeg ((4 : Int32))) 4 then (bif Nat.beq 4 0 then none else (let m73 := (qz m72 131); let m74 := (sR m73 98 42 (some 131)); bif Nat.beq (Int32.toNatClampNeg ((10 : Int32))) 10 then (bif Nat.beq 10 0 then none else (let m75 := (qz m74 132); let m76 := (sR m75 98 50 (some 132)); bif Nat.beq (Int32.toNatClampNeg ((200 : Int32))) 200 then (bif Nat.beq 200 0 then none else (let m77 := (qz m76 133); let m78 := (sR m77 98 51 (some 133)); fX13_init_170 m78)) else none)) else none)) else none)) else none)) else none)) else none)) else none
noncomputable def tX13_init_142 (j170 : qT (Unit × qM)) : qT (Unit × qM) :=
  oLa 0 (oC (.int (4 : Int32)) (oNewa 127 4 (oPr 98 38 (oLa 0 (oC (.int (4 : Int32)) (oNewa 128 4 (oPr 98 39 (oLa 0 (oC (.int (4 : Int32)) (oNewa 129 4 (oPr 98 40 (oLa 0 (oC (.int (4 : Int32)) (oNewa 130 4 (oPr 98 41 (oLa 0 (oC (.int (4 : Int32)) (oNewa 131 4 (oPr 98 42 (oLa 0 (oC (.int (10 : Int32)) (oNewa 132 10 (oPr 98 50 (oLa 0 (oC (.int (200 : Int32)) (oNewa 133 200 (oPr 98 51 (j170))))))))))))))))))))))))))))
noncomputable def wX13_init_142 (k : qM → Option (Unit × qM)) : qT (Unit × qM) := fun lo st m => match lo, st with
  | [some (.ref 98), _], [] => k m
  | _, _ => none
set_option maxRecDepth 20000 in
theorem sX13_init_142 {C : qCx} {w : qWp} (h : qOk C w RX13 cX13_init 2 4 99 155) (hm : qMt C none) (hx : qNx C) (hin : C.2.2.2.2.2.2.2.2.1.name = "<init>") {j170 : qT (Unit × qM)} (k170 : qSnd C w 2 99 (qQf C w 99 155 jV) qf0 134 318 j170) : qSnd C w 2 99 (qQf C w 99 155 jV) qf0 127 266 (tX13_init_142 j170) :=
  cLa (pc := 266) h dX13_init_266 rfl (cC (pc := 267) h dX13_init_267 rfl (nNewi (pc := 268) h dX13_init_268 rfl ac_int (by decide) (by decide) (by decide) (by decide) (gPr (pc := 270) h dX13_init_270 ff_X13_226_98 (Or.inr ⟨rfl, hin, rfl⟩) (Nat.le_of_ble_eq_true rfl) (Nat.le_of_ble_eq_true rfl) rfl (cLa (pc := 273) h dX13_init_273 rfl (cC (pc := 274) h dX13_init_274 rfl (nNewi (pc := 275) h dX13_init_275 rfl ac_int (by decide) (by decide) (by decide) (by decide) (gPr (pc := 277) h dX13_init_277 ff_X13_229_98 (Or.inr ⟨rfl, hin, rfl⟩) (Nat.le_of_ble_eq_true rfl) (Nat.le_of_ble_eq_true rfl) rfl (cLa (pc := 280) h dX13_init_280 rfl (cC (pc := 281) h dX13_init_281 rfl (nNewi (pc := 282) h dX13_init_282 rfl ac_int (by decide) (by decide) (by decide) (by decide) (gPr (pc := 284) h dX13_init_284 ff_X13_232_98 (Or.inr ⟨rfl, hin, rfl⟩) (Nat.le_of_ble_eq_true rfl) (Nat.le_of_ble_eq_true rfl) rfl (cLa (pc := 287) h dX13_init_287 rfl (cC (pc := 288) h dX13_init_288 rfl (nNewi (pc := 289) h dX13_init_289 rfl ac_int (by decide) (by decide) (by decide) (by decide) (gPr (pc := 291) h dX13_init_291 ff_X13_235_98 (Or.inr ⟨rfl, hin, rfl⟩) (Nat.le_of_ble_eq_true rfl) (Nat.le_of_ble_eq_true rfl) rfl (cLa (pc := 294) h dX13_init_294 rfl (cC (pc := 295) h dX13_init_295 rfl (nNewi (pc := 296) h dX13_init_296 rfl ac_int (by decide) (by decide) (by decide) (by decide) (gPr (pc := 298) h dX13_init_298 ff_X13_238_98 (Or.inr ⟨rfl, hin, rfl⟩) (Nat.le_of_ble_eq_true rfl) (Nat.le_of_ble_eq_true rfl) rfl (cLa (pc := 301) h dX13_init_301 rfl (cB (pc := 302) h dX13_init_302 rfl (nNewi (pc := 304) h dX13_init_304 rfl ac_int (by decide) (by decide) (by decide) (by decide) (gPr (pc := 306) h dX13_init_306 ff_X13_241_98 (Or.inr ⟨rfl, hin, rfl⟩) (Nat.le_of_ble_eq_true rfl) (Nat.le_of_ble_eq_true rfl) rfl (cLa (pc := 309) h dX13_init_309 rfl (cS (pc := 310) h dX13_init_310 rfl (nNewi (pc := 313) h dX13_init_313 rfl ac_int (by decide) (by decide) (by decide) (by decide) (gPr (pc := 315) h dX13_init_315 ff_X13_244_98 (Or.inr ⟨rfl, hin, rfl⟩) (Nat.le_of_ble_eq_true rfl) (Nat.le_of_ble_eq_true rfl) rfl (k170))))))))))))))))))))))))))))
set_option maxRecDepth 20000 in
theorem lX13_init_142 (m : qM) : tX13_init_142 (wX13_init_170 fX13_init_170) [some (.ref 98), none] [] m = fX13_init_142 m := rfl
theorem bX13_init_142 {C : qCx} {w : qWp} (h : qOk C w RX13 cX13_init 2 4 99 155) (hm : qMt C none) (hx : qNx C) (hin : C.2.2.2.2.2.2.2.2.1.name = "<init>") : qSnd C w 2 99 (qQf C w 99 155 jV) qf0 127 266 (wX13_init_142 fX13_init_142) :=
  qSnd_of (fun lo st m x hr0 => by
    unfold wX13_init_142 at hr0
    split at hr0
    · exact ⟨_, (qsub_e (qsub_n qsub_nil)), (lX13_init_142 _).trans hr0⟩
    · cases hr0) (sX13_init_142 h hm hx hin (bX13_init_170 h hm hx hin))
noncomputable def fX13_init_114 (m : qM) : Option (Unit × qM) :=
  bif Nat.beq (Int32.toNatClampNeg ((15 : Int32))) 15 then (bif Nat.beq 15 0 then none else (let m51 := (qz m 120); let m52 := (sR m51 98 29 (some 120)); bif Nat.beq (Int32.toNatClampNeg ((15 : Int32))) 15 then (bif Nat.beq 15 0 then none else (let m53 := (qz m52 121); let m54 := (sR m53 98 30 (some 121)); bif Nat.beq (Int32.toNatClampNeg ((225 : Int32))) 225 then (bif Nat.beq 225 0 then none else (let m55 := (qz m54 122); let m56 := (sR m55 98 31 (some 122)); bif Nat.beq (Int32.toNatClampNeg ((40 : Int32))) 40 then (bif Nat.beq 40 0 then none else (let m57 := (qz m56 123); let m58 := (sR m57 98 34 (some 123)); bif Nat.beq (Int32.toNatClampNeg ((40 : Int32))) 40 then (bif Nat.beq 40 0 then none else (let m59 := (qz m58 124); let m60 := (sR m59 98 35 (some 124)); bif Nat.beq (Int32.toNatClampNeg ((40 : Int32))) 40 then (bif Nat.beq 40 0 then none else (let m61 := (qz m60 125); let m62 := (sR m61 98 36 (some 125)); bif Nat.beq (Int32.toNatClampNeg ((40 : Int32))) 40 then (bif Nat.beq 40 0 then none else (let m63 := (qz m62 126); let m64 := (sR m63 98 37 (some 126)); fX13_init_142 m64)) else none)) else none)) else none)) else none)) else none)) else none)) else none
noncomputable def tX13_init_114 (j142 : qT (Unit × qM)) : qT (Unit × qM) :=
  oLa 0 (oC (.int (15 : Int32)) (oNewa 120 15 (oPr 98 29 (oLa 0 (oC (.int (15 : Int32)) (oNewa 121 15 (oPr 98 30 (oLa 0 (oC (.int (225 : Int32)) (oNewa 122 225 (oPr 98 31 (oLa 0 (oC (.int (40 : Int32)) (oNewa 123 40 (oPr 98 34 (oLa 0 (oC (.int (40 : Int32)) (oNewa 124 40 (oPr 98 35 (oLa 0 (oC (.int (40 : Int32)) (oNewa 125 40 (oPr 98 36 (oLa 0 (oC (.int (40 : Int32)) (oNewa 126 40 (oPr 98 37 (j142))))))))))))))))))))))))))))
noncomputable def wX13_init_114 (k : qM → Option (Unit × qM)) : qT (Unit × qM) := fun lo st m => match lo, st with
  | [some (.ref 98), _], [] => k m
  | _, _ => none
set_option maxRecDepth 20000 in
theorem sX13_init_114 {C : qCx} {w : qWp} (h : qOk C w RX13 cX13_init 2 4 99 155) (hm : qMt C none) (hx : qNx C) (hin : C.2.2.2.2.2.2.2.2.1.name = "<init>") {j142 : qT (Unit × qM)} (k142 : qSnd C w 2 99 (qQf C w 99 155 jV) qf0 127 266 j142) : qSnd C w 2 99 (qQf C w 99 155 jV) qf0 120 209 (tX13_init_114 j142) :=
  cLa (pc := 209) h dX13_init_209 rfl (cB (pc := 210) h dX13_init_210 rfl (nNewi (pc := 212) h dX13_init_212 rfl ac_int (by decide) (by decide) (by decide) (by decide) (gPr (pc := 214) h dX13_init_214 ff_X13_206_98 (Or.inr ⟨rfl, hin, rfl⟩) (Nat.le_of_ble_eq_true rfl) (Nat.le_of_ble_eq_true rfl) rfl (cLa (pc := 217) h dX13_init_217 rfl (cB (pc := 218) h dX13_init_218 rfl (nNewi (pc := 220) h dX13_init_220 rfl ac_int (by decide) (by decide) (by decide) (by decide) (gPr (pc := 222) h dX13_init_222 ff_X13_209_98 (Or.inr ⟨rfl, hin, rfl⟩) (Nat.le_of_ble_eq_true rfl) (Nat.le_of_ble_eq_true rfl) rfl (cLa (pc := 225) h dX13_init_225 rfl (cS (pc := 226) h dX13_init_226 rfl (nNewz (pc := 229) h dX13_init_229 rfl ac_boolean (by decide) (by decide) (by decide) (by decide) (gPr (pc := 231) h dX13_init_231 ff_X13_212_98 (Or.inr ⟨rfl, hin, rfl⟩) (Nat.le_of_ble_eq_true rfl) (Nat.le_of_ble_eq_true rfl) rfl (cLa (pc := 234) h dX13_init_234 rfl (cB (pc := 235) h dX13_init_235 rfl (nNewi (pc := 237) h dX13_init_237 rfl ac_int (by decide) (by decide) (by decide) (by decide) (gPr (pc := 239) h dX13_init_239 ff_X13_215_98 (Or.inr ⟨rfl, hin, rfl⟩) (Nat.le_of_ble_eq_true rfl) (Nat.le_of_ble_eq_true rfl) rfl (cLa (pc := 242) h dX13_init_242 rfl (cB (pc := 243) h dX13_init_243 rfl (nNewi (pc := 245) h dX13_init_245 rfl ac_int (by decide) (by decide) (by decide) (by decide) (gPr (pc := 247) h dX13_init_247 ff_X13_218_98 (Or.inr ⟨rfl, hin, rfl⟩) (Nat.le_of_ble_eq_true rfl) (Nat.le_of_ble_eq_true rfl) rfl (cLa (pc := 250) h dX13_init_250 rfl (cB (pc := 251) h dX13_init_251 rfl (nNewi (pc := 253) h dX13_init_253 rfl ac_int (by decide) (by decide) (by decide) (by decide) (gPr (pc := 255) h dX13_init_255 ff_X13_221_98 (Or.inr ⟨rfl, hin, rfl⟩) (Nat.le_of_ble_eq_true rfl) (Nat.le_of_ble_eq_true rfl) rfl (cLa (pc := 258) h dX13_init_258 rfl (cB (pc := 259) h dX13_init_259 rfl (nNewz (pc := 261) h dX13_init_261 rfl ac_boolean (by decide) (by decide) (by decide) (by decide) (gPr (pc := 263) h dX13_init_263 ff_X13_223_98 (Or.inr ⟨rfl, hin, rfl⟩) (Nat.le_of_ble_eq_true rfl) (Nat.le_of_ble_eq_true rfl) rfl (k142))))))))))))))))))))))))))))
set_option maxRecDepth 20000 in
theorem lX13_init_114 (m : qM) : tX13_init_114 (wX13_init_142 fX13_init_142) [some (.ref 98), none] [] m = fX13_init_114 m := rfl
theorem bX13_init_114 {C : qCx} {w : qWp} (h : qOk C w RX13 cX13_init 2 4 99 155) (hm : qMt C none) (hx : qNx C) (hin : C.2.2.2.2.2.2.2.2.1.name = "<init>") : qSnd C w 2 99 (qQf C w 99 155 jV) qf0 120 209 (wX13_init_114 fX13_init_114) :=
  qSnd_of (fun lo st m x hr0 => by
    unfold wX13_init_114 at hr0
    split at hr0
    · exact ⟨_, (qsub_e (qsub_n qsub_nil)), (lX13_init_114 _).trans hr0⟩
    · cases hr0) (sX13_init_114 h hm hx hin (bX13_init_142 h hm hx hin))
noncomputable def fX13_init_86 (m : qM) : Option (Unit × qM) :=
  bif Nat.beq (Int32.toNatClampNeg ((10 : Int32))) 10 then (bif Nat.beq 10 0 then none else (let m37 := (qz m 113); let m38 := (sR m37 98 22 (some 113)); bif Nat.beq (Int32.toNatClampNeg ((10 : Int32))) 10 then (bif Nat.beq 10 0 then none else (let m39 := (qz m38 114); let m40 := (sR m39 98 23 (some 114)); bif Nat.beq (Int32.toNatClampNeg ((10 : Int32))) 10 then (bif Nat.beq 10 0 then none else (let m41 := (qz m40 115); let m42 := (sR m41 98 24 (some 115)); bif Nat.beq (Int32.toNatClampNeg ((15 : Int32))) 15 then (bif Nat.beq 15 0 then none else (let m43 := (qz m42 116); let m44 := (sR m43 98 25 (some 116)); bif Nat.beq (Int32.toNatClampNeg ((15 : Int32))) 15 then (bif Nat.beq 15 0 then none else (let m45 := (qz m44 117); let m46 := (sR m45 98 26 (some 117)); bif Nat.beq (Int32.toNatClampNeg ((15 : Int32))) 15 then (bif Nat.beq 15 0 then none else (let m47 := (qz m46 118); let m48 := (sR m47 98 27 (some 118)); bif Nat.beq (Int32.toNatClampNeg ((15 : Int32))) 15 then (bif Nat.beq 15 0 then none else (let m49 := (qz m48 119); let m50 := (sR m49 98 28 (some 119)); fX13_init_114 m50)) else none)) else none)) else none)) else none)) else none)) else none)) else none
noncomputable def tX13_init_86 (j114 : qT (Unit × qM)) : qT (Unit × qM) :=
  oLa 0 (oC (.int (10 : Int32)) (oNewa 113 10 (oPr 98 22 (oLa 0 (oC (.int (10 : Int32)) (oNewa 114 10 (oPr 98 23 (oLa 0 (oC (.int (10 : Int32)) (oNewa 115 10 (oPr 98 24 (oLa 0 (oC (.int (15 : Int32)) (oNewa 116 15 (oPr 98 25 (oLa 0 (oC (.int (15 : Int32)) (oNewa 117 15 (oPr 98 26 (oLa 0 (oC (.int (15 : Int32)) (oNewa 118 15 (oPr 98 27 (oLa 0 (oC (.int (15 : Int32)) (oNewa 119 15 (oPr 98 28 (j114))))))))))))))))))))))))))))
noncomputable def wX13_init_86 (k : qM → Option (Unit × qM)) : qT (Unit × qM) := fun lo st m => match lo, st with
  | [some (.ref 98), _], [] => k m
  | _, _ => none
set_option maxRecDepth 20000 in
theorem sX13_init_86 {C : qCx} {w : qWp} (h : qOk C w RX13 cX13_init 2 4 99 155) (hm : qMt C none) (hx : qNx C) (hin : C.2.2.2.2.2.2.2.2.1.name = "<init>") {j114 : qT (Unit × qM)} (k114 : qSnd C w 2 99 (qQf C w 99 155 jV) qf0 120 209 j114) : qSnd C w 2 99 (qQf C w 99 155 jV) qf0 113 153 (tX13_init_86 j114) :=
  cLa (pc := 153) h dX13_init_153 rfl (cB (pc := 154) h dX13_init_154 rfl (nNewi (pc := 156) h dX13_init_156 rfl ac_int (by decide) (by decide) (by decide) (by decide) (gPr (pc := 158) h dX13_init_158 ff_X13_186_98 (Or.inr ⟨rfl, hin, rfl⟩) (Nat.le_of_ble_eq_true rfl) (Nat.le_of_ble_eq_true rfl) rfl (cLa (pc := 161) h dX13_init_161 rfl (cB (pc := 162) h dX13_init_162 rfl (nNewi (pc := 164) h dX13_init_164 rfl ac_int (by decide) (by decide) (by decide) (by decide) (gPr (pc := 166) h dX13_init_166 ff_X13_188_98 (Or.inr ⟨rfl, hin, rfl⟩) (Nat.le_of_ble_eq_true rfl) (Nat.le_of_ble_eq_true rfl) rfl (cLa (pc := 169) h dX13_init_169 rfl (cB (pc := 170) h dX13_init_170 rfl (nNewi (pc := 172) h dX13_init_172 rfl ac_int (by decide) (by decide) (by decide) (by decide) (gPr (pc := 174) h dX13_init_174 ff_X13_191_98 (Or.inr ⟨rfl, hin, rfl⟩) (Nat.le_of_ble_eq_true rfl) (Nat.le_of_ble_eq_true rfl) rfl (cLa (pc := 177) h dX13_init_177 rfl (cB (pc := 178) h dX13_init_178 rfl (nNewi (pc := 180) h dX13_init_180 rfl ac_int (by decide) (by decide) (by decide) (by decide) (gPr (pc := 182) h dX13_init_182 ff_X13_194_98 (Or.inr ⟨rfl, hin, rfl⟩) (Nat.le_of_ble_eq_true rfl) (Nat.le_of_ble_eq_true rfl) rfl (cLa (pc := 185) h dX13_init_185 rfl (cB (pc := 186) h dX13_init_186 rfl (nNewi (pc := 188) h dX13_init_188 rfl ac_int (by decide) (by decide) (by decide) (by decide) (gPr (pc := 190) h dX13_init_190 ff_X13_197_98 (Or.inr ⟨rfl, hin, rfl⟩) (Nat.le_of_ble_eq_true rfl) (Nat.le_of_ble_eq_true rfl) rfl (cLa (pc := 193) h dX13_init_193 rfl (cB (pc := 194) h dX13_init_194 rfl (nNewi (pc := 196) h dX13_init_196 rfl ac_int (by decide) (by decide) (by decide) (by decide) (gPr (pc := 198) h dX13_init_198 ff_X13_200_98 (Or.inr ⟨rfl, hin, rfl⟩) (Nat.le_of_ble_eq_true rfl) (Nat.le_of_ble_eq_true rfl) rfl (cLa (pc := 201) h dX13_init_201 rfl (cB (pc := 202) h dX13_init_202 rfl (nNewi (pc := 204) h dX13_init_204 rfl ac_int (by decide) (by decide) (by decide) (by decide) (gPr (pc := 206) h dX13_init_206 ff_X13_203_98 (Or.inr ⟨rfl, hin, rfl⟩) (Nat.le_of_ble_eq_true rfl) (Nat.le_of_ble_eq_true rfl) rfl (k114))))))))))))))))))))))))))))
set_option maxRecDepth 20000 in
theorem lX13_init_86 (m : qM) : tX13_init_86 (wX13_init_114 fX13_init_114) [some (.ref 98), none] [] m = fX13_init_86 m := rfl
theorem bX13_init_86 {C : qCx} {w : qWp} (h : qOk C w RX13 cX13_init 2 4 99 155) (hm : qMt C none) (hx : qNx C) (hin : C.2.2.2.2.2.2.2.2.1.name = "<init>") : qSnd C w 2 99 (qQf C w 99 155 jV) qf0 113 153 (wX13_init_86 fX13_init_86) :=
  qSnd_of (fun lo st m x hr0 => by
    unfold wX13_init_86 at hr0
    split at hr0
    · exact ⟨_, (qsub_e (qsub_n qsub_nil)), (lX13_init_86 _).trans hr0⟩
    · cases hr0) (sX13_init_86 h hm hx hin (bX13_init_114 h hm hx hin))
noncomputable def fX13_init_58 (m : qM) : Option (Unit × qM) :=
  bif Nat.beq (Int32.toNatClampNeg ((160 : Int32))) 160 then (bif Nat.beq 160 0 then none else (let m23 := (qz m 107); let m24 := (sR m23 98 8 (some 107)); bif Nat.beq (Int32.toNatClampNeg ((10 : Int32))) 10 then (bif Nat.beq 10 0 then none else (let m25 := (qz m24 108); let m26 := (sR m25 98 9 (some 108)); let m27 := (qz m26 109); qbV (fX12_init m27) (fun m28 => let m29 := (sR m28 98 10 (some 109)); bif Nat.beq (Int32.toNatClampNeg ((400 : Int32))) 400 then (bif Nat.beq 400 0 then none else (let m30 := (qz m29 110); let m31 := (sR m30 98 11 (some 110)); let m32 := (sI m31 98 19 ((-1 : Int32))); bif Nat.beq (Int32.toNatClampNeg ((6 : Int32))) 6 then (bif Nat.beq 6 0 then none else (let m33 := (qz m32 111); let m34 := (sR m33 98 20 (some 111)); bif Nat.beq (Int32.toNatClampNeg ((10 : Int32))) 10 then (bif Nat.beq 10 0 then none else (let m35 := (qz m34 112); let m36 := (sR m35 98 21 (some 112)); fX13_init_86 m36)) else none)) else none)) else none))) else none)) else none
noncomputable def tX13_init_58 (j86 : qT (Unit × qM)) : qT (Unit × qM) :=
  oLa 0 (oC (.int (160 : Int32)) (oNewa 107 160 (oPr 98 8 (oLa 0 (oC (.int (10 : Int32)) (oNewa 108 10 (oPr 98 9 (oLa 0 (oNew 109 (oDup (oCv GX12_init 1 (oPr 98 10 (oLa 0 (oC (.int (400 : Int32)) (oNewa 110 400 (oPr 98 11 (oLa 0 (oC (.int (-1 : Int32)) (oPi 98 19 (oLa 0 (oC (.int (6 : Int32)) (oNewa 111 6 (oPr 98 20 (oLa 0 (oC (.int (10 : Int32)) (oNewa 112 10 (oPr 98 21 (j86))))))))))))))))))))))))))))
noncomputable def wX13_init_58 (k : qM → Option (Unit × qM)) : qT (Unit × qM) := fun lo st m => match lo, st with
  | [some (.ref 98), _], [] => k m
  | _, _ => none
set_option maxRecDepth 20000 in
theorem sX13_init_58 {C : qCx} {w : qWp} (h : qOk C w RX13 cX13_init 2 4 99 155) (hm : qMt C none) (hx : qNx C) (hin : C.2.2.2.2.2.2.2.2.1.name = "<init>") {j86 : qT (Unit × qM)} (k86 : qSnd C w 2 99 (qQf C w 99 155 jV) qf0 113 153 j86) : qSnd C w 2 99 (qQf C w 99 155 jV) qf0 107 95 (tX13_init_58 j86) :=
  cLa (pc := 95) h dX13_init_95 rfl (cS (pc := 96) h dX13_init_96 rfl (nNewi (pc := 99) h dX13_init_99 rfl ac_int (by decide) (by decide) (by decide) (by decide) (gPr (pc := 101) h dX13_init_101 ff_X13_148_98 (Or.inr ⟨rfl, hin, rfl⟩) (Nat.le_of_ble_eq_true rfl) (Nat.le_of_ble_eq_true rfl) rfl (cLa (pc := 104) h dX13_init_104 rfl (cB (pc := 105) h dX13_init_105 rfl (nNewi (pc := 107) h dX13_init_107 rfl ac_int (by decide) (by decide) (by decide) (by decide) (gPr (pc := 109) h dX13_init_109 ff_X13_177_98 (Or.inr ⟨rfl, hin, rfl⟩) (Nat.le_of_ble_eq_true rfl) (Nat.le_of_ble_eq_true rfl) rfl (cLa (pc := 112) h dX13_init_112 rfl (nNew (pc := 113) h dX13_init_113 qCk_12 k4_12 rfl fn_X13_180 fi_ParentEveModel_Stop in_ParentEveModel_Stop (by decide) (by decide) (by decide) (fun _ => rfl) (aDup (pc := 116) h dX13_init_116 (kCv (pc := 117) h (kd_X13_182 h dX13_init_117) spX12_init (by decide) (by decide) (by decide) (by decide) (gPr (pc := 120) h dX13_init_120 ff_X13_13_98 (Or.inr ⟨rfl, hin, rfl⟩) (Nat.le_of_ble_eq_true rfl) (Nat.le_of_ble_eq_true rfl) rfl (cLa (pc := 123) h dX13_init_123 rfl (cS (pc := 124) h dX13_init_124 rfl (nNewb (pc := 127) h dX13_init_127 rfl ac_byte (by decide) (by decide) (by decide) (by decide) (gPr (pc := 129) h dX13_init_129 ff_X13_20_98 (Or.inr ⟨rfl, hin, rfl⟩) (Nat.le_of_ble_eq_true rfl) (Nat.le_of_ble_eq_true rfl) rfl (cLa (pc := 132) h dX13_init_132 rfl (cC (pc := 133) h dX13_init_133 rfl (gPi (pc := 134) h dX13_init_134 ff_X13_10_98 (Or.inl rfl) (Nat.le_of_ble_eq_true rfl) (Nat.le_of_ble_eq_true rfl) (cLa (pc := 137) h dX13_init_137 rfl (cB (pc := 138) h dX13_init_138 rfl (nNewz (pc := 140) h dX13_init_140 rfl ac_boolean (by decide) (by decide) (by decide) (by decide) (gPr (pc := 142) h dX13_init_142 ff_X13_89_98 (Or.inr ⟨rfl, hin, rfl⟩) (Nat.le_of_ble_eq_true rfl) (Nat.le_of_ble_eq_true rfl) rfl (cLa (pc := 145) h dX13_init_145 rfl (cB (pc := 146) h dX13_init_146 rfl (nNewi (pc := 148) h dX13_init_148 rfl ac_int (by decide) (by decide) (by decide) (by decide) (gPr (pc := 150) h dX13_init_150 ff_X13_183_98 (Or.inr ⟨rfl, hin, rfl⟩) (Nat.le_of_ble_eq_true rfl) (Nat.le_of_ble_eq_true rfl) rfl (k86))))))))))))))))))))))))))))
set_option maxRecDepth 20000 in
theorem lX13_init_58 (m : qM) : tX13_init_58 (wX13_init_86 fX13_init_86) [some (.ref 98), none] [] m = fX13_init_58 m := rfl
theorem bX13_init_58 {C : qCx} {w : qWp} (h : qOk C w RX13 cX13_init 2 4 99 155) (hm : qMt C none) (hx : qNx C) (hin : C.2.2.2.2.2.2.2.2.1.name = "<init>") : qSnd C w 2 99 (qQf C w 99 155 jV) qf0 107 95 (wX13_init_58 fX13_init_58) :=
  qSnd_of (fun lo st m x hr0 => by
    unfold wX13_init_58 at hr0
    split at hr0
    · exact ⟨_, (qsub_e (qsub_n qsub_nil)), (lX13_init_58 _).trans hr0⟩
    · cases hr0) (sX13_init_58 h hm hx hin (bX13_init_86 h hm hx hin))
noncomputable def fX13_init_30 (m : qM) : Option (Unit × qM) :=
  bif Nat.beq (Int32.toNatClampNeg ((6 : Int32))) 6 then (bif Nat.beq 6 0 then none else (let m9 := (qz m 100); let m10 := (sR m9 98 1 (some 100)); bif Nat.beq (Int32.toNatClampNeg ((5 : Int32))) 5 then (bif Nat.beq 5 0 then none else (let m11 := (qz m10 101); let m12 := (sR m11 98 2 (some 101)); bif Nat.beq (Int32.toNatClampNeg ((40 : Int32))) 40 then (bif Nat.beq 40 0 then none else (let m13 := (qz m12 102); let m14 := (sR m13 98 3 (some 102)); bif Nat.beq (Int32.toNatClampNeg ((40 : Int32))) 40 then (bif Nat.beq 40 0 then none else (let m15 := (qz m14 103); let m16 := (sR m15 98 4 (some 103)); bif Nat.beq (Int32.toNatClampNeg ((40 : Int32))) 40 then (bif Nat.beq 40 0 then none else (let m17 := (qz m16 104); let m18 := (sR m17 98 5 (some 104)); bif Nat.beq (Int32.toNatClampNeg ((160 : Int32))) 160 then (bif Nat.beq 160 0 then none else (let m19 := (qz m18 105); let m20 := (sR m19 98 6 (some 105)); bif Nat.beq (Int32.toNatClampNeg ((160 : Int32))) 160 then (bif Nat.beq 160 0 then none else (let m21 := (qz m20 106); let m22 := (sR m21 98 7 (some 106)); fX13_init_58 m22)) else none)) else none)) else none)) else none)) else none)) else none)) else none
noncomputable def tX13_init_30 (j58 : qT (Unit × qM)) : qT (Unit × qM) :=
  oLa 0 (oC (.int (6 : Int32)) (oNewa 100 6 (oPr 98 1 (oLa 0 (oC (.int (5 : Int32)) (oNewa 101 5 (oPr 98 2 (oLa 0 (oC (.int (40 : Int32)) (oNewa 102 40 (oPr 98 3 (oLa 0 (oC (.int (40 : Int32)) (oNewa 103 40 (oPr 98 4 (oLa 0 (oC (.int (40 : Int32)) (oNewa 104 40 (oPr 98 5 (oLa 0 (oC (.int (160 : Int32)) (oNewa 105 160 (oPr 98 6 (oLa 0 (oC (.int (160 : Int32)) (oNewa 106 160 (oPr 98 7 (j58))))))))))))))))))))))))))))
noncomputable def wX13_init_30 (k : qM → Option (Unit × qM)) : qT (Unit × qM) := fun lo st m => match lo, st with
  | [some (.ref 98), _], [] => k m
  | _, _ => none
set_option maxRecDepth 20000 in
theorem sX13_init_30 {C : qCx} {w : qWp} (h : qOk C w RX13 cX13_init 2 4 99 155) (hm : qMt C none) (hx : qNx C) (hin : C.2.2.2.2.2.2.2.2.1.name = "<init>") {j58 : qT (Unit × qM)} (k58 : qSnd C w 2 99 (qQf C w 99 155 jV) qf0 107 95 j58) : qSnd C w 2 99 (qQf C w 99 155 jV) qf0 100 38 (tX13_init_30 j58) :=
  cLa (pc := 38) h dX13_init_38 rfl (cB (pc := 39) h dX13_init_39 rfl (nNewi (pc := 41) h dX13_init_41 rfl ac_int (by decide) (by decide) (by decide) (by decide) (gPr (pc := 43) h dX13_init_43 ff_X13_85_98 (Or.inr ⟨rfl, hin, rfl⟩) (Nat.le_of_ble_eq_true rfl) (Nat.le_of_ble_eq_true rfl) rfl (cLa (pc := 46) h dX13_init_46 rfl (cC (pc := 47) h dX13_init_47 rfl (nNewi (pc := 48) h dX13_init_48 rfl ac_int (by decide) (by decide) (by decide) (by decide) (gPr (pc := 50) h dX13_init_50 ff_X13_106_98 (Or.inr ⟨rfl, hin, rfl⟩) (Nat.le_of_ble_eq_true rfl) (Nat.le_of_ble_eq_true rfl) rfl (cLa (pc := 53) h dX13_init_53 rfl (cB (pc := 54) h dX13_init_54 rfl (nNewi (pc := 56) h dX13_init_56 rfl ac_int (by decide) (by decide) (by decide) (by decide) (gPr (pc := 58) h dX13_init_58 ff_X13_163_98 (Or.inr ⟨rfl, hin, rfl⟩) (Nat.le_of_ble_eq_true rfl) (Nat.le_of_ble_eq_true rfl) rfl (cLa (pc := 61) h dX13_init_61 rfl (cB (pc := 62) h dX13_init_62 rfl (nNewi (pc := 64) h dX13_init_64 rfl ac_int (by decide) (by decide) (by decide) (by decide) (gPr (pc := 66) h dX13_init_66 ff_X13_166_98 (Or.inr ⟨rfl, hin, rfl⟩) (Nat.le_of_ble_eq_true rfl) (Nat.le_of_ble_eq_true rfl) rfl (cLa (pc := 69) h dX13_init_69 rfl (cB (pc := 70) h dX13_init_70 rfl (nNewi (pc := 72) h dX13_init_72 rfl ac_int (by decide) (by decide) (by decide) (by decide) (gPr (pc := 74) h dX13_init_74 ff_X13_111_98 (Or.inr ⟨rfl, hin, rfl⟩) (Nat.le_of_ble_eq_true rfl) (Nat.le_of_ble_eq_true rfl) rfl (cLa (pc := 77) h dX13_init_77 rfl (cS (pc := 78) h dX13_init_78 rfl (nNewi (pc := 81) h dX13_init_81 rfl ac_int (by decide) (by decide) (by decide) (by decide) (gPr (pc := 83) h dX13_init_83 ff_X13_142_98 (Or.inr ⟨rfl, hin, rfl⟩) (Nat.le_of_ble_eq_true rfl) (Nat.le_of_ble_eq_true rfl) rfl (cLa (pc := 86) h dX13_init_86 rfl (cS (pc := 87) h dX13_init_87 rfl (nNewi (pc := 90) h dX13_init_90 rfl ac_int (by decide) (by decide) (by decide) (by decide) (gPr (pc := 92) h dX13_init_92 ff_X13_145_98 (Or.inr ⟨rfl, hin, rfl⟩) (Nat.le_of_ble_eq_true rfl) (Nat.le_of_ble_eq_true rfl) rfl (k58))))))))))))))))))))))))))))
set_option maxRecDepth 20000 in
theorem lX13_init_30 (m : qM) : tX13_init_30 (wX13_init_58 fX13_init_58) [some (.ref 98), none] [] m = fX13_init_30 m := rfl
theorem bX13_init_30 {C : qCx} {w : qWp} (h : qOk C w RX13 cX13_init 2 4 99 155) (hm : qMt C none) (hx : qNx C) (hin : C.2.2.2.2.2.2.2.2.1.name = "<init>") : qSnd C w 2 99 (qQf C w 99 155 jV) qf0 100 38 (wX13_init_30 fX13_init_30) :=
  qSnd_of (fun lo st m x hr0 => by
    unfold wX13_init_30 at hr0
    split at hr0
    · exact ⟨_, (qsub_e (qsub_n qsub_nil)), (lX13_init_30 _).trans hr0⟩
    · cases hr0) (sX13_init_30 h hm hx hin (bX13_init_58 h hm hx hin))
noncomputable def fX13_init_0 (m : qM) : Option (Unit × qM) :=
  bif Nat.beq (Int32.toNatClampNeg ((6 : Int32))) 6 then (bif Nat.beq 6 0 then none else (let m1 := (qz m 99); bif inb ((0 : Int32)) 6 then let m2 := (sI m1 99 (ix ((0 : Int32))) ((10 : Int32))); bif inb ((1 : Int32)) 6 then let m3 := (sI m2 99 (ix ((1 : Int32))) ((2 : Int32))); bif inb ((2 : Int32)) 6 then let m4 := (sI m3 99 (ix ((2 : Int32))) ((1 : Int32))); bif inb ((3 : Int32)) 6 then let m5 := (sI m4 99 (ix ((3 : Int32))) ((15 : Int32))); bif inb ((4 : Int32)) 6 then let m6 := (sI m5 99 (ix ((4 : Int32))) ((0 : Int32))); bif inb ((5 : Int32)) 6 then let m7 := (sI m6 99 (ix ((5 : Int32))) ((0 : Int32))); let m8 := (sR m7 98 0 (some 99)); fX13_init_30 m8 else none else none else none else none else none else none)) else none
noncomputable def tX13_init_0 (j30 : qT (Unit × qM)) : qT (Unit × qM) :=
  oLa 0 (oObj (oLa 0 (oC (.int (6 : Int32)) (oNewa 99 6 (oDup (oC (.int (0 : Int32)) (oC (.int (10 : Int32)) (oWi 99 6 (oDup (oC (.int (1 : Int32)) (oC (.int (2 : Int32)) (oWi 99 6 (oDup (oC (.int (2 : Int32)) (oC (.int (1 : Int32)) (oWi 99 6 (oDup (oC (.int (3 : Int32)) (oC (.int (15 : Int32)) (oWi 99 6 (oDup (oC (.int (4 : Int32)) (oC (.int (0 : Int32)) (oWi 99 6 (oDup (oC (.int (5 : Int32)) (oC (.int (0 : Int32)) (oWi 99 6 (oPr 98 0 (j30))))))))))))))))))))))))))))))
set_option maxRecDepth 20000 in
theorem sX13_init_0 {C : qCx} {w : qWp} (h : qOk C w RX13 cX13_init 2 4 99 155) (hm : qMt C none) (hx : qNx C) (hin : C.2.2.2.2.2.2.2.2.1.name = "<init>") {j30 : qT (Unit × qM)} (k30 : qSnd C w 2 99 (qQf C w 99 155 jV) qf0 100 38 j30) : qSnd C w 2 99 (qQf C w 99 155 jV) qf0 99 0 (tX13_init_0 j30) :=
  cLa (pc := 0) h dX13_init_0 rfl (nObj (pc := 1) h dX13_init_1 fo_X13_169 fo_inst fo_code (by decide) (cLa (pc := 4) h dX13_init_4 rfl (cB (pc := 5) h dX13_init_5 rfl (nNewi (pc := 7) h dX13_init_7 rfl ac_int (by decide) (by decide) (by decide) (by decide) (aDup (pc := 9) h dX13_init_9 (cC (pc := 10) h dX13_init_10 rfl (cB (pc := 11) h dX13_init_11 rfl (rWi (pc := 13) h dX13_init_13 rfl (Nat.le_of_ble_eq_true rfl) (Nat.le_of_ble_eq_true rfl) (aDup (pc := 14) h dX13_init_14 (cC (pc := 15) h dX13_init_15 rfl (cC (pc := 16) h dX13_init_16 rfl (rWi (pc := 17) h dX13_init_17 rfl (Nat.le_of_ble_eq_true rfl) (Nat.le_of_ble_eq_true rfl) (aDup (pc := 18) h dX13_init_18 (cC (pc := 19) h dX13_init_19 rfl (cC (pc := 20) h dX13_init_20 rfl (rWi (pc := 21) h dX13_init_21 rfl (Nat.le_of_ble_eq_true rfl) (Nat.le_of_ble_eq_true rfl) (aDup (pc := 22) h dX13_init_22 (cC (pc := 23) h dX13_init_23 rfl (cB (pc := 24) h dX13_init_24 rfl (rWi (pc := 26) h dX13_init_26 rfl (Nat.le_of_ble_eq_true rfl) (Nat.le_of_ble_eq_true rfl) (aDup (pc := 27) h dX13_init_27 (cC (pc := 28) h dX13_init_28 rfl (cC (pc := 29) h dX13_init_29 rfl (rWi (pc := 30) h dX13_init_30 rfl (Nat.le_of_ble_eq_true rfl) (Nat.le_of_ble_eq_true rfl) (aDup (pc := 31) h dX13_init_31 (cC (pc := 32) h dX13_init_32 rfl (cC (pc := 33) h dX13_init_33 rfl (rWi (pc := 34) h dX13_init_34 rfl (Nat.le_of_ble_eq_true rfl) (Nat.le_of_ble_eq_true rfl) (gPr (pc := 35) h dX13_init_35 ff_X13_174_98 (Or.inr ⟨rfl, hin, rfl⟩) (Nat.le_of_ble_eq_true rfl) (Nat.le_of_ble_eq_true rfl) rfl (k30))))))))))))))))))))))))))))) (fun _ _ => trivial))
set_option maxRecDepth 20000 in
theorem lX13_init_0 (m : qM) : tX13_init_0 (wX13_init_30 fX13_init_30) [some (.ref 98), none] [] m = fX13_init_0 m := rfl
theorem fX13_init_x : ∃ f : qM → Option (Unit × qM), f = fun m => fX13_init_0 m := ⟨_, rfl⟩
noncomputable def fX13_init : qM → Option (Unit × qM) := Classical.choose fX13_init_x
theorem fX13_init_d : fX13_init = fun m => fX13_init_0 m := Classical.choose_spec fX13_init_x
noncomputable def GX13_init : qG Unit := fun av m => match av with
  | [.ref 98] => fX13_init m
  | _ => none
theorem spX13_init : qSpV yX13_init (.code yX13_init cX13_init 2 none) 4 qf0 99 155 2 GX13_init := by
  intro av m m' hG
  unfold GX13_init at hG
  split at hG
  · rw [fX13_init_d] at hG
    exact ⟨qmeet (J := jV) (r := ((), m')) (av := [.ref 98]) (by decide +kernel) (Nat.le_of_ble_eq_true rfl) (fun C w h hm hx hn => sX13_init_0 h hm hx (by rw [hn]; rfl) (bX13_init_30 h hm hx (by rw [hn]; rfl))) ((lX13_init_0 _).trans hG) (Nat.le_of_ble_eq_true rfl), ⟨98, _, rfl, by decide⟩⟩
  · cases hG
