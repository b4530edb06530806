def lzddL_law_0 : List (Nat × Instr × Nat) := [(0, .new 8, 3), (3, .dup, 1), (4, .invokespecial 15, 3), (7, .astore_n 1, 1), (8, .new 16, 3), (11, .dup, 1), (12, .invokespecial 18, 3), (15, .astore_n 2, 1), (16, .iconst 1, 1)]
theorem zddL_law_0 : dqW lzddL_law_0 (cL_law.data.toList.drop 0) 0 = true := by decide +kernel
theorem dL_law_0 : decode cL_law 0 = .ok (.new 8, 3) := dq_get (L := lzddL_law_0) 0 rfl zddL_law_0 rfl
theorem dL_law_3 : decode cL_law 3 = .ok (.dup, 1) := dq_get (L := lzddL_law_0) 1 rfl zddL_law_0 rfl
theorem dL_law_4 : decode cL_law 4 = .ok (.invokespecial 15, 3) := dq_get (L := lzddL_law_0) 2 rfl zddL_law_0 rfl
theorem dL_law_7 : decode cL_law 7 = .ok (.astore_n 1, 1) := dq_get (L := lzddL_law_0) 3 rfl zddL_law_0 rfl
theorem dL_law_8 : decode cL_law 8 = .ok (.new 16, 3) := dq_get (L := lzddL_law_0) 4 rfl zddL_law_0 rfl
theorem dL_law_11 : decode cL_law 11 = .ok (.dup, 1) := dq_get (L := lzddL_law_0) 5 rfl zddL_law_0 rfl
theorem dL_law_12 : decode cL_law 12 = .ok (.invokespecial 18, 3) := dq_get (L := lzddL_law_0) 6 rfl zddL_law_0 rfl
theorem dL_law_15 : decode cL_law 15 = .ok (.astore_n 2, 1) := dq_get (L := lzddL_law_0) 7 rfl zddL_law_0 rfl
theorem dL_law_16 : decode cL_law 16 = .ok (.iconst 1, 1) := dq_get (L := lzddL_law_0) 8 rfl zddL_law_0 rfl
theorem dL_law_17 : decode cL_law 17 = .ok (.newarray .long, 2) := by decide +kernel
def lzddL_law_19 : List (Nat × Instr × Nat) := [(19, .astore_n 3, 1), (20, .iconst 0, 1), (21, .istore 4, 2), (23, .iload 4, 2), (25, .aload_n 0, 1), (26, .arraylength, 1), (27, .bipush 6, 2), (29, .isub, 1), (30, .if_icmp .gt 1368, 3), (33, .aload_n 0, 1), (34, .iload 4, 2), (36, .iaload, 1), (37, .bipush 63, 2), (39, .iand, 1)]
theorem zddL_law_19 : dqW lzddL_law_19 (cL_law.data.toList.drop 19) 19 = true := by decide +kernel
theorem dL_law_19 : decode cL_law 19 = .ok (.astore_n 3, 1) := dq_get (L := lzddL_law_19) 0 rfl zddL_law_19 rfl
theorem dL_law_20 : decode cL_law 20 = .ok (.iconst 0, 1) := dq_get (L := lzddL_law_19) 1 rfl zddL_law_19 rfl
theorem dL_law_21 : decode cL_law 21 = .ok (.istore 4, 2) := dq_get (L := lzddL_law_19) 2 rfl zddL_law_19 rfl
theorem dL_law_23 : decode cL_law 23 = .ok (.iload 4, 2) := dq_get (L := lzddL_law_19) 3 rfl zddL_law_19 rfl
theorem dL_law_25 : decode cL_law 25 = .ok (.aload_n 0, 1) := dq_get (L := lzddL_law_19) 4 rfl zddL_law_19 rfl
theorem dL_law_26 : decode cL_law 26 = .ok (.arraylength, 1) := dq_get (L := lzddL_law_19) 5 rfl zddL_law_19 rfl
theorem dL_law_27 : decode cL_law 27 = .ok (.bipush 6, 2) := dq_get (L := lzddL_law_19) 6 rfl zddL_law_19 rfl
theorem dL_law_29 : decode cL_law 29 = .ok (.isub, 1) := dq_get (L := lzddL_law_19) 7 rfl zddL_law_19 rfl
theorem dL_law_30 : decode cL_law 30 = .ok (.if_icmp .gt 1368, 3) := dq_get (L := lzddL_law_19) 8 rfl zddL_law_19 rfl
theorem dL_law_33 : decode cL_law 33 = .ok (.aload_n 0, 1) := dq_get (L := lzddL_law_19) 9 rfl zddL_law_19 rfl
theorem dL_law_34 : decode cL_law 34 = .ok (.iload 4, 2) := dq_get (L := lzddL_law_19) 10 rfl zddL_law_19 rfl
theorem dL_law_36 : decode cL_law 36 = .ok (.iaload, 1) := dq_get (L := lzddL_law_19) 11 rfl zddL_law_19 rfl
theorem dL_law_37 : decode cL_law 37 = .ok (.bipush 63, 2) := dq_get (L := lzddL_law_19) 12 rfl zddL_law_19 rfl
theorem dL_law_39 : decode cL_law 39 = .ok (.iand, 1) := dq_get (L := lzddL_law_19) 13 rfl zddL_law_19 rfl
theorem dL_law_40 : decode cL_law 40 = .ok (.tableswitch 1352 0 40 #[180, 253, 278, 291, 304, 329, 394, 447, 484, 497, 522, 559, 608, 645, 670, 707, 744, 781, 818, 855, 868, 893, 906, 919, 932, 945, 970, 995, 1044, 1097, 1110, 1147, 1160, 1173, 1198, 1211, 1224, 1249, 1286, 1314, 1339], 180) := by decide +kernel
def lzddL_law_220 : List (Nat × Instr × Nat) := [(220, .aload_n 1, 1), (221, .aload_n 0, 1), (222, .iload 4, 2), (224, .iconst 1, 1), (225, .iadd, 1), (226, .iaload, 1), (227, .aload_n 0, 1), (228, .iload 4, 2), (230, .iconst 2, 1), (231, .iadd, 1), (232, .iaload, 1), (233, .aload_n 0, 1), (234, .iload 4, 2), (236, .iconst 3, 1), (237, .iadd, 1), (238, .iaload, 1), (239, .aload_n 0, 1), (240, .iload 4, 2), (242, .iconst 4, 1), (243, .iadd, 1)]
theorem zddL_law_220 : dqW lzddL_law_220 (cL_law.data.toList.drop 220) 220 = true := by decide +kernel
theorem dL_law_220 : decode cL_law 220 = .ok (.aload_n 1, 1) := dq_get (L := lzddL_law_220) 0 rfl zddL_law_220 rfl
theorem dL_law_221 : decode cL_law 221 = .ok (.aload_n 0, 1) := dq_get (L := lzddL_law_220) 1 rfl zddL_law_220 rfl
theorem dL_law_222 : decode cL_law 222 = .ok (.iload 4, 2) := dq_get (L := lzddL_law_220) 2 rfl zddL_law_220 rfl
theorem dL_law_224 : decode cL_law 224 = .ok (.iconst 1, 1) := dq_get (L := lzddL_law_220) 3 rfl zddL_law_220 rfl
theorem dL_law_225 : decode cL_law 225 = .ok (.iadd, 1) := dq_get (L := lzddL_law_220) 4 rfl zddL_law_220 rfl
theorem dL_law_226 : decode cL_law 226 = .ok (.iaload, 1) := dq_get (L := lzddL_law_220) 5 rfl zddL_law_220 rfl
theorem dL_law_227 : decode cL_law 227 = .ok (.aload_n 0, 1) := dq_get (L := lzddL_law_220) 6 rfl zddL_law_220 rfl
theorem dL_law_228 : decode cL_law 228 = .ok (.iload 4, 2) := dq_get (L := lzddL_law_220) 7 rfl zddL_law_220 rfl
theorem dL_law_230 : decode cL_law 230 = .ok (.iconst 2, 1) := dq_get (L := lzddL_law_220) 8 rfl zddL_law_220 rfl
theorem dL_law_231 : decode cL_law 231 = .ok (.iadd, 1) := dq_get (L := lzddL_law_220) 9 rfl zddL_law_220 rfl
theorem dL_law_232 : decode cL_law 232 = .ok (.iaload, 1) := dq_get (L := lzddL_law_220) 10 rfl zddL_law_220 rfl
theorem dL_law_233 : decode cL_law 233 = .ok (.aload_n 0, 1) := dq_get (L := lzddL_law_220) 11 rfl zddL_law_220 rfl
theorem dL_law_234 : decode cL_law 234 = .ok (.iload 4, 2) := dq_get (L := lzddL_law_220) 12 rfl zddL_law_220 rfl
theorem dL_law_236 : decode cL_law 236 = .ok (.iconst 3, 1) := dq_get (L := lzddL_law_220) 13 rfl zddL_law_220 rfl
theorem dL_law_237 : decode cL_law 237 = .ok (.iadd, 1) := dq_get (L := lzddL_law_220) 14 rfl zddL_law_220 rfl
theorem dL_law_238 : decode cL_law 238 = .ok (.iaload, 1) := dq_get (L := lzddL_law_220) 15 rfl zddL_law_220 rfl
theorem dL_law_239 : decode cL_law 239 = .ok (.aload_n 0, 1) := dq_get (L := lzddL_law_220) 16 rfl zddL_law_220 rfl
theorem dL_law_240 : decode cL_law 240 = .ok (.iload 4, 2) := dq_get (L := lzddL_law_220) 17 rfl zddL_law_220 rfl
theorem dL_law_242 : decode cL_law 242 = .ok (.iconst 4, 1) := dq_get (L := lzddL_law_220) 18 rfl zddL_law_220 rfl
theorem dL_law_243 : decode cL_law 243 = .ok (.iadd, 1) := dq_get (L := lzddL_law_220) 19 rfl zddL_law_220 rfl
def lzddL_law_244 : List (Nat × Instr × Nat) := [(244, .iaload, 1), (245, .aload_n 0, 1), (246, .iload 4, 2), (248, .iconst 5, 1), (249, .iadd, 1), (250, .iaload, 1), (251, .invokevirtual 19, 3), (254, .pop, 1), (255, .aload_n 2, 1), (256, .aload_n 0, 1), (257, .iload 4, 2), (259, .iconst 1, 1), (260, .iadd, 1), (261, .iaload, 1), (262, .aload_n 0, 1), (263, .iload 4, 2), (265, .iconst 2, 1), (266, .iadd, 1), (267, .iaload, 1), (268, .aload_n 0, 1)]
theorem zddL_law_244 : dqW lzddL_law_244 (cL_law.data.toList.drop 244) 244 = true := by decide +kernel
theorem dL_law_244 : decode cL_law 244 = .ok (.iaload, 1) := dq_get (L := lzddL_law_244) 0 rfl zddL_law_244 rfl
theorem dL_law_245 : decode cL_law 245 = .ok (.aload_n 0, 1) := dq_get (L := lzddL_law_244) 1 rfl zddL_law_244 rfl
theorem dL_law_246 : decode cL_law 246 = .ok (.iload 4, 2) := dq_get (L := lzddL_law_244) 2 rfl zddL_law_244 rfl
theorem dL_law_248 : decode cL_law 248 = .ok (.iconst 5, 1) := dq_get (L := lzddL_law_244) 3 rfl zddL_law_244 rfl
theorem dL_law_249 : decode cL_law 249 = .ok (.iadd, 1) := dq_get (L := lzddL_law_244) 4 rfl zddL_law_244 rfl
theorem dL_law_250 : decode cL_law 250 = .ok (.iaload, 1) := dq_get (L := lzddL_law_244) 5 rfl zddL_law_244 rfl
theorem dL_law_251 : decode cL_law 251 = .ok (.invokevirtual 19, 3) := dq_get (L := lzddL_law_244) 6 rfl zddL_law_244 rfl
theorem dL_law_254 : decode cL_law 254 = .ok (.pop, 1) := dq_get (L := lzddL_law_244) 7 rfl zddL_law_244 rfl
theorem dL_law_255 : decode cL_law 255 = .ok (.aload_n 2, 1) := dq_get (L := lzddL_law_244) 8 rfl zddL_law_244 rfl
theorem dL_law_256 : decode cL_law 256 = .ok (.aload_n 0, 1) := dq_get (L := lzddL_law_244) 9 rfl zddL_law_244 rfl
theorem dL_law_257 : decode cL_law 257 = .ok (.iload 4, 2) := dq_get (L := lzddL_law_244) 10 rfl zddL_law_244 rfl
theorem dL_law_259 : decode cL_law 259 = .ok (.iconst 1, 1) := dq_get (L := lzddL_law_244) 11 rfl zddL_law_244 rfl
theorem dL_law_260 : decode cL_law 260 = .ok (.iadd, 1) := dq_get (L := lzddL_law_244) 12 rfl zddL_law_244 rfl
theorem dL_law_261 : decode cL_law 261 = .ok (.iaload, 1) := dq_get (L := lzddL_law_244) 13 rfl zddL_law_244 rfl
theorem dL_law_262 : decode cL_law 262 = .ok (.aload_n 0, 1) := dq_get (L := lzddL_law_244) 14 rfl zddL_law_244 rfl
theorem dL_law_263 : decode cL_law 263 = .ok (.iload 4, 2) := dq_get (L := lzddL_law_244) 15 rfl zddL_law_244 rfl
theorem dL_law_265 : decode cL_law 265 = .ok (.iconst 2, 1) := dq_get (L := lzddL_law_244) 16 rfl zddL_law_244 rfl
theorem dL_law_266 : decode cL_law 266 = .ok (.iadd, 1) := dq_get (L := lzddL_law_244) 17 rfl zddL_law_244 rfl
theorem dL_law_267 : decode cL_law 267 = .ok (.iaload, 1) := dq_get (L := lzddL_law_244) 18 rfl zddL_law_244 rfl
theorem dL_law_268 : decode cL_law 268 = .ok (.aload_n 0, 1) := dq_get (L := lzddL_law_244) 19 rfl zddL_law_244 rfl
def lzddL_law_269 : List (Nat × Instr × Nat) := [(269, .iload 4, 2), (271, .iconst 3, 1), (272, .iadd, 1), (273, .iaload, 1), (274, .aload_n 0, 1), (275, .iload 4, 2), (277, .iconst 4, 1), (278, .iadd, 1), (279, .iaload, 1), (280, .aload_n 0, 1), (281, .iload 4, 2), (283, .iconst 5, 1), (284, .iadd, 1), (285, .iaload, 1), (286, .invokevirtual 23, 3), (289, .pop, 1), (290, .goto 1102, 3), (293, .aload_n 1, 1), (294, .aload_n 0, 1), (295, .iload 4, 2)]
theorem zddL_law_269 : dqW lzddL_law_269 (cL_law.data.toList.drop 269) 269 = true := by decide +kernel
theorem dL_law_269 : decode cL_law 269 = .ok (.iload 4, 2) := dq_get (L := lzddL_law_269) 0 rfl zddL_law_269 rfl
theorem dL_law_271 : decode cL_law 271 = .ok (.iconst 3, 1) := dq_get (L := lzddL_law_269) 1 rfl zddL_law_269 rfl
theorem dL_law_272 : decode cL_law 272 = .ok (.iadd, 1) := dq_get (L := lzddL_law_269) 2 rfl zddL_law_269 rfl
theorem dL_law_273 : decode cL_law 273 = .ok (.iaload, 1) := dq_get (L := lzddL_law_269) 3 rfl zddL_law_269 rfl
theorem dL_law_274 : decode cL_law 274 = .ok (.aload_n 0, 1) := dq_get (L := lzddL_law_269) 4 rfl zddL_law_269 rfl
theorem dL_law_275 : decode cL_law 275 = .ok (.iload 4, 2) := dq_get (L := lzddL_law_269) 5 rfl zddL_law_269 rfl
theorem dL_law_277 : decode cL_law 277 = .ok (.iconst 4, 1) := dq_get (L := lzddL_law_269) 6 rfl zddL_law_269 rfl
theorem dL_law_278 : decode cL_law 278 = .ok (.iadd, 1) := dq_get (L := lzddL_law_269) 7 rfl zddL_law_269 rfl
theorem dL_law_279 : decode cL_law 279 = .ok (.iaload, 1) := dq_get (L := lzddL_law_269) 8 rfl zddL_law_269 rfl
theorem dL_law_280 : decode cL_law 280 = .ok (.aload_n 0, 1) := dq_get (L := lzddL_law_269) 9 rfl zddL_law_269 rfl
theorem dL_law_281 : decode cL_law 281 = .ok (.iload 4, 2) := dq_get (L := lzddL_law_269) 10 rfl zddL_law_269 rfl
theorem dL_law_283 : decode cL_law 283 = .ok (.iconst 5, 1) := dq_get (L := lzddL_law_269) 11 rfl zddL_law_269 rfl
theorem dL_law_284 : decode cL_law 284 = .ok (.iadd, 1) := dq_get (L := lzddL_law_269) 12 rfl zddL_law_269 rfl
theorem dL_law_285 : decode cL_law 285 = .ok (.iaload, 1) := dq_get (L := lzddL_law_269) 13 rfl zddL_law_269 rfl
theorem dL_law_286 : decode cL_law 286 = .ok (.invokevirtual 23, 3) := dq_get (L := lzddL_law_269) 14 rfl zddL_law_269 rfl
theorem dL_law_289 : decode cL_law 289 = .ok (.pop, 1) := dq_get (L := lzddL_law_269) 15 rfl zddL_law_269 rfl
theorem dL_law_290 : decode cL_law 290 = .ok (.goto 1102, 3) := dq_get (L := lzddL_law_269) 16 rfl zddL_law_269 rfl
theorem dL_law_293 : decode cL_law 293 = .ok (.aload_n 1, 1) := dq_get (L := lzddL_law_269) 17 rfl zddL_law_269 rfl
theorem dL_law_294 : decode cL_law 294 = .ok (.aload_n 0, 1) := dq_get (L := lzddL_law_269) 18 rfl zddL_law_269 rfl
theorem dL_law_295 : decode cL_law 295 = .ok (.iload 4, 2) := dq_get (L := lzddL_law_269) 19 rfl zddL_law_269 rfl
def lzddL_law_297 : List (Nat × Instr × Nat) := [(297, .iconst 1, 1), (298, .iadd, 1), (299, .iaload, 1), (300, .invokevirtual 24, 3), (303, .pop, 1), (304, .aload_n 2, 1), (305, .aload_n 0, 1), (306, .iload 4, 2), (308, .iconst 1, 1), (309, .iadd, 1), (310, .iaload, 1), (311, .invokevirtual 27, 3), (314, .pop, 1), (315, .goto 1077, 3), (318, .aload_n 1, 1), (319, .invokevirtual 28, 3), (322, .pop, 1), (323, .aload_n 2, 1), (324, .invokevirtual 32, 3), (327, .pop, 1)]
theorem zddL_law_297 : dqW lzddL_law_297 (cL_law.data.toList.drop 297) 297 = true := by decide +kernel
theorem dL_law_297 : decode cL_law 297 = .ok (.iconst 1, 1) := dq_get (L := lzddL_law_297) 0 rfl zddL_law_297 rfl
theorem dL_law_298 : decode cL_law 298 = .ok (.iadd, 1) := dq_get (L := lzddL_law_297) 1 rfl zddL_law_297 rfl
theorem dL_law_299 : decode cL_law 299 = .ok (.iaload, 1) := dq_get (L := lzddL_law_297) 2 rfl zddL_law_297 rfl
theorem dL_law_300 : decode cL_law 300 = .ok (.invokevirtual 24, 3) := dq_get (L := lzddL_law_297) 3 rfl zddL_law_297 rfl
theorem dL_law_303 : decode cL_law 303 = .ok (.pop, 1) := dq_get (L := lzddL_law_297) 4 rfl zddL_law_297 rfl
theorem dL_law_304 : decode cL_law 304 = .ok (.aload_n 2, 1) := dq_get (L := lzddL_law_297) 5 rfl zddL_law_297 rfl
theorem dL_law_305 : decode cL_law 305 = .ok (.aload_n 0, 1) := dq_get (L := lzddL_law_297) 6 rfl zddL_law_297 rfl
theorem dL_law_306 : decode cL_law 306 = .ok (.iload 4, 2) := dq_get (L := lzddL_law_297) 7 rfl zddL_law_297 rfl
theorem dL_law_308 : decode cL_law 308 = .ok (.iconst 1, 1) := dq_get (L := lzddL_law_297) 8 rfl zddL_law_297 rfl
theorem dL_law_309 : decode cL_law 309 = .ok (.iadd, 1) := dq_get (L := lzddL_law_297) 9 rfl zddL_law_297 rfl
theorem dL_law_310 : decode cL_law 310 = .ok (.iaload, 1) := dq_get (L := lzddL_law_297) 10 rfl zddL_law_297 rfl
theorem dL_law_311 : decode cL_law 311 = .ok (.invokevirtual 27, 3) := dq_get (L := lzddL_law_297) 11 rfl zddL_law_297 rfl
theorem dL_law_314 : decode cL_law 314 = .ok (.pop, 1) := dq_get (L := lzddL_law_297) 12 rfl zddL_law_297 rfl
theorem dL_law_315 : decode cL_law 315 = .ok (.goto 1077, 3) := dq_get (L := lzddL_law_297) 13 rfl zddL_law_297 rfl
theorem dL_law_318 : decode cL_law 318 = .ok (.aload_n 1, 1) := dq_get (L := lzddL_law_297) 14 rfl zddL_law_297 rfl
theorem dL_law_319 : decode cL_law 319 = .ok (.invokevirtual 28, 3) := dq_get (L := lzddL_law_297) 15 rfl zddL_law_297 rfl
theorem dL_law_322 : decode cL_law 322 = .ok (.pop, 1) := dq_get (L := lzddL_law_297) 16 rfl zddL_law_297 rfl
theorem dL_law_323 : decode cL_law 323 = .ok (.aload_n 2, 1) := dq_get (L := lzddL_law_297) 17 rfl zddL_law_297 rfl
theorem dL_law_324 : decode cL_law 324 = .ok (.invokevirtual 32, 3) := dq_get (L := lzddL_law_297) 18 rfl zddL_law_297 rfl
theorem dL_law_327 : decode cL_law 327 = .ok (.pop, 1) := dq_get (L := lzddL_law_297) 19 rfl zddL_law_297 rfl
def lzddL_law_328 : List (Nat × Instr × Nat) := [(328, .goto 1064, 3), (331, .aload_n 1, 1), (332, .invokevirtual 33, 3), (335, .pop, 1), (336, .aload_n 2, 1), (337, .invokevirtual 36, 3), (340, .pop, 1), (341, .goto 1051, 3), (344, .aload_n 1, 1), (345, .aload_n 0, 1), (346, .iload 4, 2), (348, .iconst 1, 1), (349, .iadd, 1), (350, .iaload, 1), (351, .invokevirtual 37, 3), (354, .pop, 1), (355, .aload_n 2, 1), (356, .aload_n 0, 1), (357, .iload 4, 2), (359, .iconst 1, 1)]
theorem zddL_law_328 : dqW lzddL_law_328 (cL_law.data.toList.drop 328) 328 = true := by decide +kernel
theorem dL_law_328 : decode cL_law 328 = .ok (.goto 1064, 3) := dq_get (L := lzddL_law_328) 0 rfl zddL_law_328 rfl
theorem dL_law_331 : decode cL_law 331 = .ok (.aload_n 1, 1) := dq_get (L := lzddL_law_328) 1 rfl zddL_law_328 rfl
theorem dL_law_332 : decode cL_law 332 = .ok (.invokevirtual 33, 3) := dq_get (L := lzddL_law_328) 2 rfl zddL_law_328 rfl
theorem dL_law_335 : decode cL_law 335 = .ok (.pop, 1) := dq_get (L := lzddL_law_328) 3 rfl zddL_law_328 rfl
theorem dL_law_336 : decode cL_law 336 = .ok (.aload_n 2, 1) := dq_get (L := lzddL_law_328) 4 rfl zddL_law_328 rfl
theorem dL_law_337 : decode cL_law 337 = .ok (.invokevirtual 36, 3) := dq_get (L := lzddL_law_328) 5 rfl zddL_law_328 rfl
theorem dL_law_340 : decode cL_law 340 = .ok (.pop, 1) := dq_get (L := lzddL_law_328) 6 rfl zddL_law_328 rfl
theorem dL_law_341 : decode cL_law 341 = .ok (.goto 1051, 3) := dq_get (L := lzddL_law_328) 7 rfl zddL_law_328 rfl
theorem dL_law_344 : decode cL_law 344 = .ok (.aload_n 1, 1) := dq_get (L := lzddL_law_328) 8 rfl zddL_law_328 rfl
theorem dL_law_345 : decode cL_law 345 = .ok (.aload_n 0, 1) := dq_get (L := lzddL_law_328) 9 rfl zddL_law_328 rfl
theorem dL_law_346 : decode cL_law 346 = .ok (.iload 4, 2) := dq_get (L := lzddL_law_328) 10 rfl zddL_law_328 rfl
theorem dL_law_348 : decode cL_law 348 = .ok (.iconst 1, 1) := dq_get (L := lzddL_law_328) 11 rfl zddL_law_328 rfl
theorem dL_law_349 : decode cL_law 349 = .ok (.iadd, 1) := dq_get (L := lzddL_law_328) 12 rfl zddL_law_328 rfl
theorem dL_law_350 : decode cL_law 350 = .ok (.iaload, 1) := dq_get (L := lzddL_law_328) 13 rfl zddL_law_328 rfl
theorem dL_law_351 : decode cL_law 351 = .ok (.invokevirtual 37, 3) := dq_get (L := lzddL_law_328) 14 rfl zddL_law_328 rfl
theorem dL_law_354 : decode cL_law 354 = .ok (.pop, 1) := dq_get (L := lzddL_law_328) 15 rfl zddL_law_328 rfl
theorem dL_law_355 : decode cL_law 355 = .ok (.aload_n 2, 1) := dq_get (L := lzddL_law_328) 16 rfl zddL_law_328 rfl
theorem dL_law_356 : decode cL_law 356 = .ok (.aload_n 0, 1) := dq_get (L := lzddL_law_328) 17 rfl zddL_law_328 rfl
theorem dL_law_357 : decode cL_law 357 = .ok (.iload 4, 2) := dq_get (L := lzddL_law_328) 18 rfl zddL_law_328 rfl
theorem dL_law_359 : decode cL_law 359 = .ok (.iconst 1, 1) := dq_get (L := lzddL_law_328) 19 rfl zddL_law_328 rfl
def lzddL_law_360 : List (Nat × Instr × Nat) := [(360, .iadd, 1), (361, .iaload, 1), (362, .invokevirtual 40, 3), (365, .pop, 1), (366, .goto 1026, 3), (369, .aload_n 1, 1), (370, .aload_n 0, 1), (371, .iload 4, 2), (373, .iconst 1, 1), (374, .iadd, 1), (375, .iaload, 1), (376, .aload_n 0, 1), (377, .iload 4, 2), (379, .iconst 2, 1), (380, .iadd, 1), (381, .iaload, 1), (382, .aload_n 0, 1), (383, .iload 4, 2), (385, .iconst 3, 1), (386, .iadd, 1)]
theorem zddL_law_360 : dqW lzddL_law_360 (cL_law.data.toList.drop 360) 360 = true := by decide +kernel
theorem dL_law_360 : decode cL_law 360 = .ok (.iadd, 1) := dq_get (L := lzddL_law_360) 0 rfl zddL_law_360 rfl
theorem dL_law_361 : decode cL_law 361 = .ok (.iaload, 1) := dq_get (L := lzddL_law_360) 1 rfl zddL_law_360 rfl
theorem dL_law_362 : decode cL_law 362 = .ok (.invokevirtual 40, 3) := dq_get (L := lzddL_law_360) 2 rfl zddL_law_360 rfl
theorem dL_law_365 : decode cL_law 365 = .ok (.pop, 1) := dq_get (L := lzddL_law_360) 3 rfl zddL_law_360 rfl
theorem dL_law_366 : decode cL_law 366 = .ok (.goto 1026, 3) := dq_get (L := lzddL_law_360) 4 rfl zddL_law_360 rfl
theorem dL_law_369 : decode cL_law 369 = .ok (.aload_n 1, 1) := dq_get (L := lzddL_law_360) 5 rfl zddL_law_360 rfl
theorem dL_law_370 : decode cL_law 370 = .ok (.aload_n 0, 1) := dq_get (L := lzddL_law_360) 6 rfl zddL_law_360 rfl
theorem dL_law_371 : decode cL_law 371 = .ok (.iload 4, 2) := dq_get (L := lzddL_law_360) 7 rfl zddL_law_360 rfl
theorem dL_law_373 : decode cL_law 373 = .ok (.iconst 1, 1) := dq_get (L := lzddL_law_360) 8 rfl zddL_law_360 rfl
theorem dL_law_374 : decode cL_law 374 = .ok (.iadd, 1) := dq_get (L := lzddL_law_360) 9 rfl zddL_law_360 rfl
theorem dL_law_375 : decode cL_law 375 = .ok (.iaload, 1) := dq_get (L := lzddL_law_360) 10 rfl zddL_law_360 rfl
theorem dL_law_376 : decode cL_law 376 = .ok (.aload_n 0, 1) := dq_get (L := lzddL_law_360) 11 rfl zddL_law_360 rfl
theorem dL_law_377 : decode cL_law 377 = .ok (.iload 4, 2) := dq_get (L := lzddL_law_360) 12 rfl zddL_law_360 rfl
theorem dL_law_379 : decode cL_law 379 = .ok (.iconst 2, 1) := dq_get (L := lzddL_law_360) 13 rfl zddL_law_360 rfl
theorem dL_law_380 : decode cL_law 380 = .ok (.iadd, 1) := dq_get (L := lzddL_law_360) 14 rfl zddL_law_360 rfl
theorem dL_law_381 : decode cL_law 381 = .ok (.iaload, 1) := dq_get (L := lzddL_law_360) 15 rfl zddL_law_360 rfl
theorem dL_law_382 : decode cL_law 382 = .ok (.aload_n 0, 1) := dq_get (L := lzddL_law_360) 16 rfl zddL_law_360 rfl
theorem dL_law_383 : decode cL_law 383 = .ok (.iload 4, 2) := dq_get (L := lzddL_law_360) 17 rfl zddL_law_360 rfl
theorem dL_law_385 : decode cL_law 385 = .ok (.iconst 3, 1) := dq_get (L := lzddL_law_360) 18 rfl zddL_law_360 rfl
theorem dL_law_386 : decode cL_law 386 = .ok (.iadd, 1) := dq_get (L := lzddL_law_360) 19 rfl zddL_law_360 rfl
def lzddL_law_387 : List (Nat × Instr × Nat) := [(387, .iaload, 1), (388, .ifCond .eq 7, 3), (391, .iconst 1, 1), (392, .goto 4, 3), (395, .iconst 0, 1), (396, .invokevirtual 41, 3), (399, .pop, 1), (400, .aload_n 2, 1), (401, .aload_n 0, 1), (402, .iload 4, 2), (404, .iconst 1, 1), (405, .iadd, 1), (406, .iaload, 1), (407, .aload_n 0, 1), (408, .iload 4, 2), (410, .iconst 2, 1), (411, .iadd, 1), (412, .iaload, 1), (413, .aload_n 0, 1), (414, .iload 4, 2)]
theorem zddL_law_387 : dqW lzddL_law_387 (cL_law.data.toList.drop 387) 387 = true := by decide +kernel
theorem dL_law_387 : decode cL_law 387 = .ok (.iaload, 1) := dq_get (L := lzddL_law_387) 0 rfl zddL_law_387 rfl
theorem dL_law_388 : decode cL_law 388 = .ok (.ifCond .eq 7, 3) := dq_get (L := lzddL_law_387) 1 rfl zddL_law_387 rfl
theorem dL_law_391 : decode cL_law 391 = .ok (.iconst 1, 1) := dq_get (L := lzddL_law_387) 2 rfl zddL_law_387 rfl
theorem dL_law_392 : decode cL_law 392 = .ok (.goto 4, 3) := dq_get (L := lzddL_law_387) 3 rfl zddL_law_387 rfl
theorem dL_law_395 : decode cL_law 395 = .ok (.iconst 0, 1) := dq_get (L := lzddL_law_387) 4 rfl zddL_law_387 rfl
theorem dL_law_396 : decode cL_law 396 = .ok (.invokevirtual 41, 3) := dq_get (L := lzddL_law_387) 5 rfl zddL_law_387 rfl
theorem dL_law_399 : decode cL_law 399 = .ok (.pop, 1) := dq_get (L := lzddL_law_387) 6 rfl zddL_law_387 rfl
theorem dL_law_400 : decode cL_law 400 = .ok (.aload_n 2, 1) := dq_get (L := lzddL_law_387) 7 rfl zddL_law_387 rfl
theorem dL_law_401 : decode cL_law 401 = .ok (.aload_n 0, 1) := dq_get (L := lzddL_law_387) 8 rfl zddL_law_387 rfl
theorem dL_law_402 : decode cL_law 402 = .ok (.iload 4, 2) := dq_get (L := lzddL_law_387) 9 rfl zddL_law_387 rfl
theorem dL_law_404 : decode cL_law 404 = .ok (.iconst 1, 1) := dq_get (L := lzddL_law_387) 10 rfl zddL_law_387 rfl
theorem dL_law_405 : decode cL_law 405 = .ok (.iadd, 1) := dq_get (L := lzddL_law_387) 11 rfl zddL_law_387 rfl
theorem dL_law_406 : decode cL_law 406 = .ok (.iaload, 1) := dq_get (L := lzddL_law_387) 12 rfl zddL_law_387 rfl
theorem dL_law_407 : decode cL_law 407 = .ok (.aload_n 0, 1) := dq_get (L := lzddL_law_387) 13 rfl zddL_law_387 rfl
theorem dL_law_408 : decode cL_law 408 = .ok (.iload 4, 2) := dq_get (L := lzddL_law_387) 14 rfl zddL_law_387 rfl
theorem dL_law_410 : decode cL_law 410 = .ok (.iconst 2, 1) := dq_get (L := lzddL_law_387) 15 rfl zddL_law_387 rfl
theorem dL_law_411 : decode cL_law 411 = .ok (.iadd, 1) := dq_get (L := lzddL_law_387) 16 rfl zddL_law_387 rfl
theorem dL_law_412 : decode cL_law 412 = .ok (.iaload, 1) := dq_get (L := lzddL_law_387) 17 rfl zddL_law_387 rfl
theorem dL_law_413 : decode cL_law 413 = .ok (.aload_n 0, 1) := dq_get (L := lzddL_law_387) 18 rfl zddL_law_387 rfl
theorem dL_law_414 : decode cL_law 414 = .ok (.iload 4, 2) := dq_get (L := lzddL_law_387) 19 rfl zddL_law_387 rfl
def lzddL_law_416 : List (Nat × Instr × Nat) := [(416, .iconst 3, 1), (417, .iadd, 1), (418, .iaload, 1), (419, .ifCond .eq 7, 3), (422, .iconst 1, 1), (423, .goto 4, 3), (426, .iconst 0, 1), (427, .invokevirtual 45, 3), (430, .pop, 1), (431, .goto 961, 3), (434, .aload_n 1, 1), (435, .aload_n 0, 1), (436, .iload 4, 2), (438, .iconst 1, 1), (439, .iadd, 1), (440, .iaload, 1), (441, .aload_n 0, 1), (442, .iload 4, 2), (444, .iconst 2, 1), (445, .iadd, 1)]
theorem zddL_law_416 : dqW lzddL_law_416 (cL_law.data.toList.drop 416) 416 = true := by decide +kernel
theorem dL_law_416 : decode cL_law 416 = .ok (.iconst 3, 1) := dq_get (L := lzddL_law_416) 0 rfl zddL_law_416 rfl
theorem dL_law_417 : decode cL_law 417 = .ok (.iadd, 1) := dq_get (L := lzddL_law_416) 1 rfl zddL_law_416 rfl
theorem dL_law_418 : decode cL_law 418 = .ok (.iaload, 1) := dq_get (L := lzddL_law_416) 2 rfl zddL_law_416 rfl
theorem dL_law_419 : decode cL_law 419 = .ok (.ifCond .eq 7, 3) := dq_get (L := lzddL_law_416) 3 rfl zddL_law_416 rfl
theorem dL_law_422 : decode cL_law 422 = .ok (.iconst 1, 1) := dq_get (L := lzddL_law_416) 4 rfl zddL_law_416 rfl
theorem dL_law_423 : decode cL_law 423 = .ok (.goto 4, 3) := dq_get (L := lzddL_law_416) 5 rfl zddL_law_416 rfl
theorem dL_law_426 : decode cL_law 426 = .ok (.iconst 0, 1) := dq_get (L := lzddL_law_416) 6 rfl zddL_law_416 rfl
theorem dL_law_427 : decode cL_law 427 = .ok (.invokevirtual 45, 3) := dq_get (L := lzddL_law_416) 7 rfl zddL_law_416 rfl
theorem dL_law_430 : decode cL_law 430 = .ok (.pop, 1) := dq_get (L := lzddL_law_416) 8 rfl zddL_law_416 rfl
theorem dL_law_431 : decode cL_law 431 = .ok (.goto 961, 3) := dq_get (L := lzddL_law_416) 9 rfl zddL_law_416 rfl
theorem dL_law_434 : decode cL_law 434 = .ok (.aload_n 1, 1) := dq_get (L := lzddL_law_416) 10 rfl zddL_law_416 rfl
theorem dL_law_435 : decode cL_law 435 = .ok (.aload_n 0, 1) := dq_get (L := lzddL_law_416) 11 rfl zddL_law_416 rfl
theorem dL_law_436 : decode cL_law 436 = .ok (.iload 4, 2) := dq_get (L := lzddL_law_416) 12 rfl zddL_law_416 rfl
theorem dL_law_438 : decode cL_law 438 = .ok (.iconst 1, 1) := dq_get (L := lzddL_law_416) 13 rfl zddL_law_416 rfl
theorem dL_law_439 : decode cL_law 439 = .ok (.iadd, 1) := dq_get (L := lzddL_law_416) 14 rfl zddL_law_416 rfl
theorem dL_law_440 : decode cL_law 440 = .ok (.iaload, 1) := dq_get (L := lzddL_law_416) 15 rfl zddL_law_416 rfl
theorem dL_law_441 : decode cL_law 441 = .ok (.aload_n 0, 1) := dq_get (L := lzddL_law_416) 16 rfl zddL_law_416 rfl
theorem dL_law_442 : decode cL_law 442 = .ok (.iload 4, 2) := dq_get (L := lzddL_law_416) 17 rfl zddL_law_416 rfl
theorem dL_law_444 : decode cL_law 444 = .ok (.iconst 2, 1) := dq_get (L := lzddL_law_416) 18 rfl zddL_law_416 rfl
theorem dL_law_445 : decode cL_law 445 = .ok (.iadd, 1) := dq_get (L := lzddL_law_416) 19 rfl zddL_law_416 rfl
def lzddL_law_446 : List (Nat × Instr × Nat) := [(446, .iaload, 1), (447, .ifCond .eq 7, 3), (450, .iconst 1, 1), (451, .goto 4, 3), (454, .iconst 0, 1), (455, .invokevirtual 46, 3), (458, .pop, 1), (459, .aload_n 2, 1), (460, .aload_n 0, 1), (461, .iload 4, 2), (463, .iconst 1, 1), (464, .iadd, 1), (465, .iaload, 1), (466, .aload_n 0, 1), (467, .iload 4, 2), (469, .iconst 2, 1), (470, .iadd, 1), (471, .iaload, 1), (472, .ifCond .eq 7, 3), (475, .iconst 1, 1)]
theorem zddL_law_446 : dqW lzddL_law_446 (cL_law.data.toList.drop 446) 446 = true := by decide +kernel
theorem dL_law_446 : decode cL_law 446 = .ok (.iaload, 1) := dq_get (L := lzddL_law_446) 0 rfl zddL_law_446 rfl
theorem dL_law_447 : decode cL_law 447 = .ok (.ifCond .eq 7, 3) := dq_get (L := lzddL_law_446) 1 rfl zddL_law_446 rfl
theorem dL_law_450 : decode cL_law 450 = .ok (.iconst 1, 1) := dq_get (L := lzddL_law_446) 2 rfl zddL_law_446 rfl
theorem dL_law_451 : decode cL_law 451 = .ok (.goto 4, 3) := dq_get (L := lzddL_law_446) 3 rfl zddL_law_446 rfl
theorem dL_law_454 : decode cL_law 454 = .ok (.iconst 0, 1) := dq_get (L := lzddL_law_446) 4 rfl zddL_law_446 rfl
theorem dL_law_455 : decode cL_law 455 = .ok (.invokevirtual 46, 3) := dq_get (L := lzddL_law_446) 5 rfl zddL_law_446 rfl
theorem dL_law_458 : decode cL_law 458 = .ok (.pop, 1) := dq_get (L := lzddL_law_446) 6 rfl zddL_law_446 rfl
theorem dL_law_459 : decode cL_law 459 = .ok (.aload_n 2, 1) := dq_get (L := lzddL_law_446) 7 rfl zddL_law_446 rfl
theorem dL_law_460 : decode cL_law 460 = .ok (.aload_n 0, 1) := dq_get (L := lzddL_law_446) 8 rfl zddL_law_446 rfl
theorem dL_law_461 : decode cL_law 461 = .ok (.iload 4, 2) := dq_get (L := lzddL_law_446) 9 rfl zddL_law_446 rfl
theorem dL_law_463 : decode cL_law 463 = .ok (.iconst 1, 1) := dq_get (L := lzddL_law_446) 10 rfl zddL_law_446 rfl
theorem dL_law_464 : decode cL_law 464 = .ok (.iadd, 1) := dq_get (L := lzddL_law_446) 11 rfl zddL_law_446 rfl
theorem dL_law_465 : decode cL_law 465 = .ok (.iaload, 1) := dq_get (L := lzddL_law_446) 12 rfl zddL_law_446 rfl
theorem dL_law_466 : decode cL_law 466 = .ok (.aload_n 0, 1) := dq_get (L := lzddL_law_446) 13 rfl zddL_law_446 rfl
theorem dL_law_467 : decode cL_law 467 = .ok (.iload 4, 2) := dq_get (L := lzddL_law_446) 14 rfl zddL_law_446 rfl
theorem dL_law_469 : decode cL_law 469 = .ok (.iconst 2, 1) := dq_get (L := lzddL_law_446) 15 rfl zddL_law_446 rfl
theorem dL_law_470 : decode cL_law 470 = .ok (.iadd, 1) := dq_get (L := lzddL_law_446) 16 rfl zddL_law_446 rfl
theorem dL_law_471 : decode cL_law 471 = .ok (.iaload, 1) := dq_get (L := lzddL_law_446) 17 rfl zddL_law_446 rfl
theorem dL_law_472 : decode cL_law 472 = .ok (.ifCond .eq 7, 3) := dq_get (L := lzddL_law_446) 18 rfl zddL_law_446 rfl
theorem dL_law_475 : decode cL_law 475 = .ok (.iconst 1, 1) := dq_get (L := lzddL_law_446) 19 rfl zddL_law_446 rfl
def lzddL_law_476 : List (Nat × Instr × Nat) := [(476, .goto 4, 3), (479, .iconst 0, 1), (480, .invokevirtual 50, 3), (483, .pop, 1), (484, .goto 908, 3), (487, .aload_n 1, 1), (488, .aload_n 0, 1), (489, .iload 4, 2), (491, .iconst 1, 1), (492, .iadd, 1), (493, .iaload, 1), (494, .aload_n 0, 1), (495, .iload 4, 2), (497, .iconst 2, 1), (498, .iadd, 1), (499, .iaload, 1), (500, .invokevirtual 51, 3), (503, .pop, 1), (504, .aload_n 2, 1), (505, .aload_n 0, 1)]
theorem zddL_law_476 : dqW lzddL_law_476 (cL_law.data.toList.drop 476) 476 = true := by decide +kernel
theorem dL_law_476 : decode cL_law 476 = .ok (.goto 4, 3) := dq_get (L := lzddL_law_476) 0 rfl zddL_law_476 rfl
theorem dL_law_479 : decode cL_law 479 = .ok (.iconst 0, 1) := dq_get (L := lzddL_law_476) 1 rfl zddL_law_476 rfl
theorem dL_law_480 : decode cL_law 480 = .ok (.invokevirtual 50, 3) := dq_get (L := lzddL_law_476) 2 rfl zddL_law_476 rfl
theorem dL_law_483 : decode cL_law 483 = .ok (.pop, 1) := dq_get (L := lzddL_law_476) 3 rfl zddL_law_476 rfl
theorem dL_law_484 : decode cL_law 484 = .ok (.goto 908, 3) := dq_get (L := lzddL_law_476) 4 rfl zddL_law_476 rfl
theorem dL_law_487 : decode cL_law 487 = .ok (.aload_n 1, 1) := dq_get (L := lzddL_law_476) 5 rfl zddL_law_476 rfl
theorem dL_law_488 : decode cL_law 488 = .ok (.aload_n 0, 1) := dq_get (L := lzddL_law_476) 6 rfl zddL_law_476 rfl
theorem dL_law_489 : decode cL_law 489 = .ok (.iload 4, 2) := dq_get (L := lzddL_law_476) 7 rfl zddL_law_476 rfl
theorem dL_law_491 : decode cL_law 491 = .ok (.iconst 1, 1) := dq_get (L := lzddL_law_476) 8 rfl zddL_law_476 rfl
theorem dL_law_492 : decode cL_law 492 = .ok (.iadd, 1) := dq_get (L := lzddL_law_476) 9 rfl zddL_law_476 rfl
theorem dL_law_493 : decode cL_law 493 = .ok (.iaload, 1) := dq_get (L := lzddL_law_476) 10 rfl zddL_law_476 rfl
theorem dL_law_494 : decode cL_law 494 = .ok (.aload_n 0, 1) := dq_get (L := lzddL_law_476) 11 rfl zddL_law_476 rfl
theorem dL_law_495 : decode cL_law 495 = .ok (.iload 4, 2) := dq_get (L := lzddL_law_476) 12 rfl zddL_law_476 rfl
theorem dL_law_497 : decode cL_law 497 = .ok (.iconst 2, 1) := dq_get (L := lzddL_law_476) 13 rfl zddL_law_476 rfl
theorem dL_law_498 : decode cL_law 498 = .ok (.iadd, 1) := dq_get (L := lzddL_law_476) 14 rfl zddL_law_476 rfl
theorem dL_law_499 : decode cL_law 499 = .ok (.iaload, 1) := dq_get (L := lzddL_law_476) 15 rfl zddL_law_476 rfl
theorem dL_law_500 : decode cL_law 500 = .ok (.invokevirtual 51, 3) := dq_get (L := lzddL_law_476) 16 rfl zddL_law_476 rfl
theorem dL_law_503 : decode cL_law 503 = .ok (.pop, 1) := dq_get (L := lzddL_law_476) 17 rfl zddL_law_476 rfl
theorem dL_law_504 : decode cL_law 504 = .ok (.aload_n 2, 1) := dq_get (L := lzddL_law_476) 18 rfl zddL_law_476 rfl
theorem dL_law_505 : decode cL_law 505 = .ok (.aload_n 0, 1) := dq_get (L := lzddL_law_476) 19 rfl zddL_law_476 rfl
def lzddL_law_506 : List (Nat × Instr × Nat) := [(506, .iload 4, 2), (508, .iconst 1, 1), (509, .iadd, 1), (510, .iaload, 1), (511, .aload_n 0, 1), (512, .iload 4, 2), (514, .iconst 2, 1), (515, .iadd, 1), (516, .iaload, 1), (517, .invokevirtual 55, 3), (520, .pop, 1), (521, .goto 871, 3), (524, .aload_n 1, 1), (525, .invokevirtual 56, 3), (528, .pop, 1), (529, .aload_n 2, 1), (530, .invokevirtual 59, 3), (533, .pop, 1), (534, .goto 858, 3), (537, .aload_n 1, 1)]
theorem zddL_law_506 : dqW lzddL_law_506 (cL_law.data.toList.drop 506) 506 = true := by decide +kernel
theorem dL_law_506 : decode cL_law 506 = .ok (.iload 4, 2) := dq_get (L := lzddL_law_506) 0 rfl zddL_law_506 rfl
theorem dL_law_508 : decode cL_law 508 = .ok (.iconst 1, 1) := dq_get (L := lzddL_law_506) 1 rfl zddL_law_506 rfl
theorem dL_law_509 : decode cL_law 509 = .ok (.iadd, 1) := dq_get (L := lzddL_law_506) 2 rfl zddL_law_506 rfl
theorem dL_law_510 : decode cL_law 510 = .ok (.iaload, 1) := dq_get (L := lzddL_law_506) 3 rfl zddL_law_506 rfl
theorem dL_law_511 : decode cL_law 511 = .ok (.aload_n 0, 1) := dq_get (L := lzddL_law_506) 4 rfl zddL_law_506 rfl
theorem dL_law_512 : decode cL_law 512 = .ok (.iload 4, 2) := dq_get (L := lzddL_law_506) 5 rfl zddL_law_506 rfl
theorem dL_law_514 : decode cL_law 514 = .ok (.iconst 2, 1) := dq_get (L := lzddL_law_506) 6 rfl zddL_law_506 rfl
theorem dL_law_515 : decode cL_law 515 = .ok (.iadd, 1) := dq_get (L := lzddL_law_506) 7 rfl zddL_law_506 rfl
theorem dL_law_516 : decode cL_law 516 = .ok (.iaload, 1) := dq_get (L := lzddL_law_506) 8 rfl zddL_law_506 rfl
theorem dL_law_517 : decode cL_law 517 = .ok (.invokevirtual 55, 3) := dq_get (L := lzddL_law_506) 9 rfl zddL_law_506 rfl
theorem dL_law_520 : decode cL_law 520 = .ok (.pop, 1) := dq_get (L := lzddL_law_506) 10 rfl zddL_law_506 rfl
theorem dL_law_521 : decode cL_law 521 = .ok (.goto 871, 3) := dq_get (L := lzddL_law_506) 11 rfl zddL_law_506 rfl
theorem dL_law_524 : decode cL_law 524 = .ok (.aload_n 1, 1) := dq_get (L := lzddL_law_506) 12 rfl zddL_law_506 rfl
theorem dL_law_525 : decode cL_law 525 = .ok (.invokevirtual 56, 3) := dq_get (L := lzddL_law_506) 13 rfl zddL_law_506 rfl
theorem dL_law_528 : decode cL_law 528 = .ok (.pop, 1) := dq_get (L := lzddL_law_506) 14 rfl zddL_law_506 rfl
theorem dL_law_529 : decode cL_law 529 = .ok (.aload_n 2, 1) := dq_get (L := lzddL_law_506) 15 rfl zddL_law_506 rfl
theorem dL_law_530 : decode cL_law 530 = .ok (.invokevirtual 59, 3) := dq_get (L := lzddL_law_506) 16 rfl zddL_law_506 rfl
theorem dL_law_533 : decode cL_law 533 = .ok (.pop, 1) := dq_get (L := lzddL_law_506) 17 rfl zddL_law_506 rfl
theorem dL_law_534 : decode cL_law 534 = .ok (.goto 858, 3) := dq_get (L := lzddL_law_506) 18 rfl zddL_law_506 rfl
theorem dL_law_537 : decode cL_law 537 = .ok (.aload_n 1, 1) := dq_get (L := lzddL_law_506) 19 rfl zddL_law_506 rfl
def lzddL_law_538 : List (Nat × Instr × Nat) := [(538, .aload_n 0, 1), (539, .iload 4, 2), (541, .iconst 1, 1), (542, .iadd, 1), (543, .iaload, 1), (544, .invokevirtual 60, 3), (547, .pop, 1), (548, .aload_n 2, 1), (549, .aload_n 0, 1), (550, .iload 4, 2), (552, .iconst 1, 1), (553, .iadd, 1), (554, .iaload, 1), (555, .invokevirtual 63, 3), (558, .pop, 1), (559, .goto 833, 3), (562, .aload_n 1, 1), (563, .aload_n 0, 1), (564, .iload 4, 2), (566, .iconst 1, 1)]
theorem zddL_law_538 : dqW lzddL_law_538 (cL_law.data.toList.drop 538) 538 = true := by decide +kernel
theorem dL_law_538 : decode cL_law 538 = .ok (.aload_n 0, 1) := dq_get (L := lzddL_law_538) 0 rfl zddL_law_538 rfl
theorem dL_law_539 : decode cL_law 539 = .ok (.iload 4, 2) := dq_get (L := lzddL_law_538) 1 rfl zddL_law_538 rfl
theorem dL_law_541 : decode cL_law 541 = .ok (.iconst 1, 1) := dq_get (L := lzddL_law_538) 2 rfl zddL_law_538 rfl
theorem dL_law_542 : decode cL_law 542 = .ok (.iadd, 1) := dq_get (L := lzddL_law_538) 3 rfl zddL_law_538 rfl
theorem dL_law_543 : decode cL_law 543 = .ok (.iaload, 1) := dq_get (L := lzddL_law_538) 4 rfl zddL_law_538 rfl
theorem dL_law_544 : decode cL_law 544 = .ok (.invokevirtual 60, 3) := dq_get (L := lzddL_law_538) 5 rfl zddL_law_538 rfl
theorem dL_law_547 : decode cL_law 547 = .ok (.pop, 1) := dq_get (L := lzddL_law_538) 6 rfl zddL_law_538 rfl
theorem dL_law_548 : decode cL_law 548 = .ok (.aload_n 2, 1) := dq_get (L := lzddL_law_538) 7 rfl zddL_law_538 rfl
theorem dL_law_549 : decode cL_law 549 = .ok (.aload_n 0, 1) := dq_get (L := lzddL_law_538) 8 rfl zddL_law_538 rfl
theorem dL_law_550 : decode cL_law 550 = .ok (.iload 4, 2) := dq_get (L := lzddL_law_538) 9 rfl zddL_law_538 rfl
theorem dL_law_552 : decode cL_law 552 = .ok (.iconst 1, 1) := dq_get (L := lzddL_law_538) 10 rfl zddL_law_538 rfl
theorem dL_law_553 : decode cL_law 553 = .ok (.iadd, 1) := dq_get (L := lzddL_law_538) 11 rfl zddL_law_538 rfl
theorem dL_law_554 : decode cL_law 554 = .ok (.iaload, 1) := dq_get (L := lzddL_law_538) 12 rfl zddL_law_538 rfl
theorem dL_law_555 : decode cL_law 555 = .ok (.invokevirtual 63, 3) := dq_get (L := lzddL_law_538) 13 rfl zddL_law_538 rfl
theorem dL_law_558 : decode cL_law 558 = .ok (.pop, 1) := dq_get (L := lzddL_law_538) 14 rfl zddL_law_538 rfl
theorem dL_law_559 : decode cL_law 559 = .ok (.goto 833, 3) := dq_get (L := lzddL_law_538) 15 rfl zddL_law_538 rfl
theorem dL_law_562 : decode cL_law 562 = .ok (.aload_n 1, 1) := dq_get (L := lzddL_law_538) 16 rfl zddL_law_538 rfl
theorem dL_law_563 : decode cL_law 563 = .ok (.aload_n 0, 1) := dq_get (L := lzddL_law_538) 17 rfl zddL_law_538 rfl
theorem dL_law_564 : decode cL_law 564 = .ok (.iload 4, 2) := dq_get (L := lzddL_law_538) 18 rfl zddL_law_538 rfl
theorem dL_law_566 : decode cL_law 566 = .ok (.iconst 1, 1) := dq_get (L := lzddL_law_538) 19 rfl zddL_law_538 rfl
def lzddL_law_567 : List (Nat × Instr × Nat) := [(567, .iadd, 1), (568, .iaload, 1), (569, .aload_n 0, 1), (570, .iload 4, 2), (572, .iconst 2, 1), (573, .iadd, 1), (574, .iaload, 1), (575, .invokevirtual 64, 3), (578, .pop, 1), (579, .aload_n 2, 1), (580, .aload_n 0, 1), (581, .iload 4, 2), (583, .iconst 1, 1), (584, .iadd, 1), (585, .iaload, 1), (586, .aload_n 0, 1), (587, .iload 4, 2), (589, .iconst 2, 1), (590, .iadd, 1), (591, .iaload, 1)]
theorem zddL_law_567 : dqW lzddL_law_567 (cL_law.data.toList.drop 567) 567 = true := by decide +kernel
theorem dL_law_567 : decode cL_law 567 = .ok (.iadd, 1) := dq_get (L := lzddL_law_567) 0 rfl zddL_law_567 rfl
theorem dL_law_568 : decode cL_law 568 = .ok (.iaload, 1) := dq_get (L := lzddL_law_567) 1 rfl zddL_law_567 rfl
theorem dL_law_569 : decode cL_law 569 = .ok (.aload_n 0, 1) := dq_get (L := lzddL_law_567) 2 rfl zddL_law_567 rfl
theorem dL_law_570 : decode cL_law 570 = .ok (.iload 4, 2) := dq_get (L := lzddL_law_567) 3 rfl zddL_law_567 rfl
theorem dL_law_572 : decode cL_law 572 = .ok (.iconst 2, 1) := dq_get (L := lzddL_law_567) 4 rfl zddL_law_567 rfl
theorem dL_law_573 : decode cL_law 573 = .ok (.iadd, 1) := dq_get (L := lzddL_law_567) 5 rfl zddL_law_567 rfl
theorem dL_law_574 : decode cL_law 574 = .ok (.iaload, 1) := dq_get (L := lzddL_law_567) 6 rfl zddL_law_567 rfl
theorem dL_law_575 : decode cL_law 575 = .ok (.invokevirtual 64, 3) := dq_get (L := lzddL_law_567) 7 rfl zddL_law_567 rfl
theorem dL_law_578 : decode cL_law 578 = .ok (.pop, 1) := dq_get (L := lzddL_law_567) 8 rfl zddL_law_567 rfl
theorem dL_law_579 : decode cL_law 579 = .ok (.aload_n 2, 1) := dq_get (L := lzddL_law_567) 9 rfl zddL_law_567 rfl
theorem dL_law_580 : decode cL_law 580 = .ok (.aload_n 0, 1) := dq_get (L := lzddL_law_567) 10 rfl zddL_law_567 rfl
theorem dL_law_581 : decode cL_law 581 = .ok (.iload 4, 2) := dq_get (L := lzddL_law_567) 11 rfl zddL_law_567 rfl
theorem dL_law_583 : decode cL_law 583 = .ok (.iconst 1, 1) := dq_get (L := lzddL_law_567) 12 rfl zddL_law_567 rfl
theorem dL_law_584 : decode cL_law 584 = .ok (.iadd, 1) := dq_get (L := lzddL_law_567) 13 rfl zddL_law_567 rfl
theorem dL_law_585 : decode cL_law 585 = .ok (.iaload, 1) := dq_get (L := lzddL_law_567) 14 rfl zddL_law_567 rfl
theorem dL_law_586 : decode cL_law 586 = .ok (.aload_n 0, 1) := dq_get (L := lzddL_law_567) 15 rfl zddL_law_567 rfl
theorem dL_law_587 : decode cL_law 587 = .ok (.iload 4, 2) := dq_get (L := lzddL_law_567) 16 rfl zddL_law_567 rfl
theorem dL_law_589 : decode cL_law 589 = .ok (.iconst 2, 1) := dq_get (L := lzddL_law_567) 17 rfl zddL_law_567 rfl
theorem dL_law_590 : decode cL_law 590 = .ok (.iadd, 1) := dq_get (L := lzddL_law_567) 18 rfl zddL_law_567 rfl
theorem dL_law_591 : decode cL_law 591 = .ok (.iaload, 1) := dq_get (L := lzddL_law_567) 19 rfl zddL_law_567 rfl
def lzddL_law_592 : List (Nat × Instr × Nat) := [(592, .invokevirtual 67, 3), (595, .pop, 1), (596, .goto 796, 3), (599, .aload_n 1, 1), (600, .aload_n 0, 1), (601, .iload 4, 2), (603, .iconst 1, 1), (604, .iadd, 1), (605, .iaload, 1), (606, .aload_n 0, 1), (607, .iload 4, 2), (609, .iconst 2, 1), (610, .iadd, 1), (611, .iaload, 1), (612, .aload_n 0, 1), (613, .iload 4, 2), (615, .iconst 3, 1), (616, .iadd, 1), (617, .iaload, 1), (618, .invokevirtual 68, 3)]
theorem zddL_law_592 : dqW lzddL_law_592 (cL_law.data.toList.drop 592) 592 = true := by decide +kernel
theorem dL_law_592 : decode cL_law 592 = .ok (.invokevirtual 67, 3) := dq_get (L := lzddL_law_592) 0 rfl zddL_law_592 rfl
theorem dL_law_595 : decode cL_law 595 = .ok (.pop, 1) := dq_get (L := lzddL_law_592) 1 rfl zddL_law_592 rfl
theorem dL_law_596 : decode cL_law 596 = .ok (.goto 796, 3) := dq_get (L := lzddL_law_592) 2 rfl zddL_law_592 rfl
theorem dL_law_599 : decode cL_law 599 = .ok (.aload_n 1, 1) := dq_get (L := lzddL_law_592) 3 rfl zddL_law_592 rfl
theorem dL_law_600 : decode cL_law 600 = .ok (.aload_n 0, 1) := dq_get (L := lzddL_law_592) 4 rfl zddL_law_592 rfl
theorem dL_law_601 : decode cL_law 601 = .ok (.iload 4, 2) := dq_get (L := lzddL_law_592) 5 rfl zddL_law_592 rfl
theorem dL_law_603 : decode cL_law 603 = .ok (.iconst 1, 1) := dq_get (L := lzddL_law_592) 6 rfl zddL_law_592 rfl
theorem dL_law_604 : decode cL_law 604 = .ok (.iadd, 1) := dq_get (L := lzddL_law_592) 7 rfl zddL_law_592 rfl
theorem dL_law_605 : decode cL_law 605 = .ok (.iaload, 1) := dq_get (L := lzddL_law_592) 8 rfl zddL_law_592 rfl
theorem dL_law_606 : decode cL_law 606 = .ok (.aload_n 0, 1) := dq_get (L := lzddL_law_592) 9 rfl zddL_law_592 rfl
theorem dL_law_607 : decode cL_law 607 = .ok (.iload 4, 2) := dq_get (L := lzddL_law_592) 10 rfl zddL_law_592 rfl
theorem dL_law_609 : decode cL_law 609 = .ok (.iconst 2, 1) := dq_get (L := lzddL_law_592) 11 rfl zddL_law_592 rfl
theorem dL_law_610 : decode cL_law 610 = .ok (.iadd, 1) := dq_get (L := lzddL_law_592) 12 rfl zddL_law_592 rfl
theorem dL_law_611 : decode cL_law 611 = .ok (.iaload, 1) := dq_get (L := lzddL_law_592) 13 rfl zddL_law_592 rfl
theorem dL_law_612 : decode cL_law 612 = .ok (.aload_n 0, 1) := dq_get (L := lzddL_law_592) 14 rfl zddL_law_592 rfl
theorem dL_law_613 : decode cL_law 613 = .ok (.iload 4, 2) := dq_get (L := lzddL_law_592) 15 rfl zddL_law_592 rfl
theorem dL_law_615 : decode cL_law 615 = .ok (.iconst 3, 1) := dq_get (L := lzddL_law_592) 16 rfl zddL_law_592 rfl
theorem dL_law_616 : decode cL_law 616 = .ok (.iadd, 1) := dq_get (L := lzddL_law_592) 17 rfl zddL_law_592 rfl
theorem dL_law_617 : decode cL_law 617 = .ok (.iaload, 1) := dq_get (L := lzddL_law_592) 18 rfl zddL_law_592 rfl
theorem dL_law_618 : decode cL_law 618 = .ok (.invokevirtual 68, 3) := dq_get (L := lzddL_law_592) 19 rfl zddL_law_592 rfl
def lzddL_law_621 : List (Nat × Instr × Nat) := [(621, .pop, 1), (622, .aload_n 2, 1), (623, .aload_n 0, 1), (624, .iload 4, 2), (626, .iconst 1, 1), (627, .iadd, 1), (628, .iaload, 1), (629, .aload_n 0, 1), (630, .iload 4, 2), (632, .iconst 2, 1), (633, .iadd, 1), (634, .iaload, 1), (635, .aload_n 0, 1), (636, .iload 4, 2), (638, .iconst 3, 1), (639, .iadd, 1), (640, .iaload, 1), (641, .invokevirtual 72, 3), (644, .pop, 1), (645, .goto 747, 3)]
theorem zddL_law_621 : dqW lzddL_law_621 (cL_law.data.toList.drop 621) 621 = true := by decide +kernel
theorem dL_law_621 : decode cL_law 621 = .ok (.pop, 1) := dq_get (L := lzddL_law_621) 0 rfl zddL_law_621 rfl
theorem dL_law_622 : decode cL_law 622 = .ok (.aload_n 2, 1) := dq_get (L := lzddL_law_621) 1 rfl zddL_law_621 rfl
theorem dL_law_623 : decode cL_law 623 = .ok (.aload_n 0, 1) := dq_get (L := lzddL_law_621) 2 rfl zddL_law_621 rfl
theorem dL_law_624 : decode cL_law 624 = .ok (.iload 4, 2) := dq_get (L := lzddL_law_621) 3 rfl zddL_law_621 rfl
theorem dL_law_626 : decode cL_law 626 = .ok (.iconst 1, 1) := dq_get (L := lzddL_law_621) 4 rfl zddL_law_621 rfl
theorem dL_law_627 : decode cL_law 627 = .ok (.iadd, 1) := dq_get (L := lzddL_law_621) 5 rfl zddL_law_621 rfl
theorem dL_law_628 : decode cL_law 628 = .ok (.iaload, 1) := dq_get (L := lzddL_law_621) 6 rfl zddL_law_621 rfl
theorem dL_law_629 : decode cL_law 629 = .ok (.aload_n 0, 1) := dq_get (L := lzddL_law_621) 7 rfl zddL_law_621 rfl
theorem dL_law_630 : decode cL_law 630 = .ok (.iload 4, 2) := dq_get (L := lzddL_law_621) 8 rfl zddL_law_621 rfl
theorem dL_law_632 : decode cL_law 632 = .ok (.iconst 2, 1) := dq_get (L := lzddL_law_621) 9 rfl zddL_law_621 rfl
theorem dL_law_633 : decode cL_law 633 = .ok (.iadd, 1) := dq_get (L := lzddL_law_621) 10 rfl zddL_law_621 rfl
theorem dL_law_634 : decode cL_law 634 = .ok (.iaload, 1) := dq_get (L := lzddL_law_621) 11 rfl zddL_law_621 rfl
theorem dL_law_635 : decode cL_law 635 = .ok (.aload_n 0, 1) := dq_get (L := lzddL_law_621) 12 rfl zddL_law_621 rfl
theorem dL_law_636 : decode cL_law 636 = .ok (.iload 4, 2) := dq_get (L := lzddL_law_621) 13 rfl zddL_law_621 rfl
theorem dL_law_638 : decode cL_law 638 = .ok (.iconst 3, 1) := dq_get (L := lzddL_law_621) 14 rfl zddL_law_621 rfl
theorem dL_law_639 : decode cL_law 639 = .ok (.iadd, 1) := dq_get (L := lzddL_law_621) 15 rfl zddL_law_621 rfl
theorem dL_law_640 : decode cL_law 640 = .ok (.iaload, 1) := dq_get (L := lzddL_law_621) 16 rfl zddL_law_621 rfl
theorem dL_law_641 : decode cL_law 641 = .ok (.invokevirtual 72, 3) := dq_get (L := lzddL_law_621) 17 rfl zddL_law_621 rfl
theorem dL_law_644 : decode cL_law 644 = .ok (.pop, 1) := dq_get (L := lzddL_law_621) 18 rfl zddL_law_621 rfl
theorem dL_law_645 : decode cL_law 645 = .ok (.goto 747, 3) := dq_get (L := lzddL_law_621) 19 rfl zddL_law_621 rfl
def lzddL_law_648 : List (Nat × Instr × Nat) := [(648, .aload_n 1, 1), (649, .aload_n 0, 1), (650, .iload 4, 2), (652, .iconst 1, 1), (653, .iadd, 1), (654, .iaload, 1), (655, .aload_n 0, 1), (656, .iload 4, 2), (658, .iconst 2, 1), (659, .iadd, 1), (660, .iaload, 1), (661, .invokevirtual 73, 3), (664, .pop, 1), (665, .aload_n 2, 1), (666, .aload_n 0, 1), (667, .iload 4, 2), (669, .iconst 1, 1), (670, .iadd, 1), (671, .iaload, 1), (672, .aload_n 0, 1)]
theorem zddL_law_648 : dqW lzddL_law_648 (cL_law.data.toList.drop 648) 648 = true := by decide +kernel
theorem dL_law_648 : decode cL_law 648 = .ok (.aload_n 1, 1) := dq_get (L := lzddL_law_648) 0 rfl zddL_law_648 rfl
theorem dL_law_649 : decode cL_law 649 = .ok (.aload_n 0, 1) := dq_get (L := lzddL_law_648) 1 rfl zddL_law_648 rfl
theorem dL_law_650 : decode cL_law 650 = .ok (.iload 4, 2) := dq_get (L := lzddL_law_648) 2 rfl zddL_law_648 rfl
theorem dL_law_652 : decode cL_law 652 = .ok (.iconst 1, 1) := dq_get (L := lzddL_law_648) 3 rfl zddL_law_648 rfl
theorem dL_law_653 : decode cL_law 653 = .ok (.iadd, 1) := dq_get (L := lzddL_law_648) 4 rfl zddL_law_648 rfl
theorem dL_law_654 : decode cL_law 654 = .ok (.iaload, 1) := dq_get (L := lzddL_law_648) 5 rfl zddL_law_648 rfl
theorem dL_law_655 : decode cL_law 655 = .ok (.aload_n 0, 1) := dq_get (L := lzddL_law_648) 6 rfl zddL_law_648 rfl
theorem dL_law_656 : decode cL_law 656 = .ok (.iload 4, 2) := dq_get (L := lzddL_law_648) 7 rfl zddL_law_648 rfl
theorem dL_law_658 : decode cL_law 658 = .ok (.iconst 2, 1) := dq_get (L := lzddL_law_648) 8 rfl zddL_law_648 rfl
theorem dL_law_659 : decode cL_law 659 = .ok (.iadd, 1) := dq_get (L := lzddL_law_648) 9 rfl zddL_law_648 rfl
theorem dL_law_660 : decode cL_law 660 = .ok (.iaload, 1) := dq_get (L := lzddL_law_648) 10 rfl zddL_law_648 rfl
theorem dL_law_661 : decode cL_law 661 = .ok (.invokevirtual 73, 3) := dq_get (L := lzddL_law_648) 11 rfl zddL_law_648 rfl
theorem dL_law_664 : decode cL_law 664 = .ok (.pop, 1) := dq_get (L := lzddL_law_648) 12 rfl zddL_law_648 rfl
theorem dL_law_665 : decode cL_law 665 = .ok (.aload_n 2, 1) := dq_get (L := lzddL_law_648) 13 rfl zddL_law_648 rfl
theorem dL_law_666 : decode cL_law 666 = .ok (.aload_n 0, 1) := dq_get (L := lzddL_law_648) 14 rfl zddL_law_648 rfl
theorem dL_law_667 : decode cL_law 667 = .ok (.iload 4, 2) := dq_get (L := lzddL_law_648) 15 rfl zddL_law_648 rfl
theorem dL_law_669 : decode cL_law 669 = .ok (.iconst 1, 1) := dq_get (L := lzddL_law_648) 16 rfl zddL_law_648 rfl
theorem dL_law_670 : decode cL_law 670 = .ok (.iadd, 1) := dq_get (L := lzddL_law_648) 17 rfl zddL_law_648 rfl
theorem dL_law_671 : decode cL_law 671 = .ok (.iaload, 1) := dq_get (L := lzddL_law_648) 18 rfl zddL_law_648 rfl
theorem dL_law_672 : decode cL_law 672 = .ok (.aload_n 0, 1) := dq_get (L := lzddL_law_648) 19 rfl zddL_law_648 rfl
def lzddL_law_673 : List (Nat × Instr × Nat) := [(673, .iload 4, 2), (675, .iconst 2, 1), (676, .iadd, 1), (677, .iaload, 1), (678, .invokevirtual 76, 3), (681, .pop, 1), (682, .goto 710, 3), (685, .aload_n 1, 1), (686, .aload_n 0, 1), (687, .iload 4, 2), (689, .iconst 1, 1), (690, .iadd, 1), (691, .iaload, 1), (692, .invokevirtual 77, 3), (695, .pop, 1), (696, .aload_n 2, 1), (697, .aload_n 0, 1), (698, .iload 4, 2), (700, .iconst 1, 1), (701, .iadd, 1)]
theorem zddL_law_673 : dqW lzddL_law_673 (cL_law.data.toList.drop 673) 673 = true := by decide +kernel
theorem dL_law_673 : decode cL_law 673 = .ok (.iload 4, 2) := dq_get (L := lzddL_law_673) 0 rfl zddL_law_673 rfl
theorem dL_law_675 : decode cL_law 675 = .ok (.iconst 2, 1) := dq_get (L := lzddL_law_673) 1 rfl zddL_law_673 rfl
theorem dL_law_676 : decode cL_law 676 = .ok (.iadd, 1) := dq_get (L := lzddL_law_673) 2 rfl zddL_law_673 rfl
theorem dL_law_677 : decode cL_law 677 = .ok (.iaload, 1) := dq_get (L := lzddL_law_673) 3 rfl zddL_law_673 rfl
theorem dL_law_678 : decode cL_law 678 = .ok (.invokevirtual 76, 3) := dq_get (L := lzddL_law_673) 4 rfl zddL_law_673 rfl
theorem dL_law_681 : decode cL_law 681 = .ok (.pop, 1) := dq_get (L := lzddL_law_673) 5 rfl zddL_law_673 rfl
theorem dL_law_682 : decode cL_law 682 = .ok (.goto 710, 3) := dq_get (L := lzddL_law_673) 6 rfl zddL_law_673 rfl
theorem dL_law_685 : decode cL_law 685 = .ok (.aload_n 1, 1) := dq_get (L := lzddL_law_673) 7 rfl zddL_law_673 rfl
theorem dL_law_686 : decode cL_law 686 = .ok (.aload_n 0, 1) := dq_get (L := lzddL_law_673) 8 rfl zddL_law_673 rfl
theorem dL_law_687 : decode cL_law 687 = .ok (.iload 4, 2) := dq_get (L := lzddL_law_673) 9 rfl zddL_law_673 rfl
theorem dL_law_689 : decode cL_law 689 = .ok (.iconst 1, 1) := dq_get (L := lzddL_law_673) 10 rfl zddL_law_673 rfl
theorem dL_law_690 : decode cL_law 690 = .ok (.iadd, 1) := dq_get (L := lzddL_law_673) 11 rfl zddL_law_673 rfl
theorem dL_law_691 : decode cL_law 691 = .ok (.iaload, 1) := dq_get (L := lzddL_law_673) 12 rfl zddL_law_673 rfl
theorem dL_law_692 : decode cL_law 692 = .ok (.invokevirtual 77, 3) := dq_get (L := lzddL_law_673) 13 rfl zddL_law_673 rfl
theorem dL_law_695 : decode cL_law 695 = .ok (.pop, 1) := dq_get (L := lzddL_law_673) 14 rfl zddL_law_673 rfl
theorem dL_law_696 : decode cL_law 696 = .ok (.aload_n 2, 1) := dq_get (L := lzddL_law_673) 15 rfl zddL_law_673 rfl
theorem dL_law_697 : decode cL_law 697 = .ok (.aload_n 0, 1) := dq_get (L := lzddL_law_673) 16 rfl zddL_law_673 rfl
theorem dL_law_698 : decode cL_law 698 = .ok (.iload 4, 2) := dq_get (L := lzddL_law_673) 17 rfl zddL_law_673 rfl
theorem dL_law_700 : decode cL_law 700 = .ok (.iconst 1, 1) := dq_get (L := lzddL_law_673) 18 rfl zddL_law_673 rfl
theorem dL_law_701 : decode cL_law 701 = .ok (.iadd, 1) := dq_get (L := lzddL_law_673) 19 rfl zddL_law_673 rfl
def lzddL_law_702 : List (Nat × Instr × Nat) := [(702, .iaload, 1), (703, .invokevirtual 80, 3), (706, .pop, 1), (707, .goto 685, 3), (710, .aload_n 1, 1), (711, .aload_n 0, 1), (712, .iload 4, 2), (714, .iconst 1, 1), (715, .iadd, 1), (716, .iaload, 1), (717, .aload_n 0, 1), (718, .iload 4, 2), (720, .iconst 2, 1), (721, .iadd, 1), (722, .iaload, 1), (723, .invokevirtual 81, 3), (726, .pop, 1), (727, .aload_n 2, 1), (728, .aload_n 0, 1), (729, .iload 4, 2)]
theorem zddL_law_702 : dqW lzddL_law_702 (cL_law.data.toList.drop 702) 702 = true := by decide +kernel
theorem dL_law_702 : decode cL_law 702 = .ok (.iaload, 1) := dq_get (L := lzddL_law_702) 0 rfl zddL_law_702 rfl
theorem dL_law_703 : decode cL_law 703 = .ok (.invokevirtual 80, 3) := dq_get (L := lzddL_law_702) 1 rfl zddL_law_702 rfl
theorem dL_law_706 : decode cL_law 706 = .ok (.pop, 1) := dq_get (L := lzddL_law_702) 2 rfl zddL_law_702 rfl
theorem dL_law_707 : decode cL_law 707 = .ok (.goto 685, 3) := dq_get (L := lzddL_law_702) 3 rfl zddL_law_702 rfl
theorem dL_law_710 : decode cL_law 710 = .ok (.aload_n 1, 1) := dq_get (L := lzddL_law_702) 4 rfl zddL_law_702 rfl
theorem dL_law_711 : decode cL_law 711 = .ok (.aload_n 0, 1) := dq_get (L := lzddL_law_702) 5 rfl zddL_law_702 rfl
theorem dL_law_712 : decode cL_law 712 = .ok (.iload 4, 2) := dq_get (L := lzddL_law_702) 6 rfl zddL_law_702 rfl
theorem dL_law_714 : decode cL_law 714 = .ok (.iconst 1, 1) := dq_get (L := lzddL_law_702) 7 rfl zddL_law_702 rfl
theorem dL_law_715 : decode cL_law 715 = .ok (.iadd, 1) := dq_get (L := lzddL_law_702) 8 rfl zddL_law_702 rfl
theorem dL_law_716 : decode cL_law 716 = .ok (.iaload, 1) := dq_get (L := lzddL_law_702) 9 rfl zddL_law_702 rfl
theorem dL_law_717 : decode cL_law 717 = .ok (.aload_n 0, 1) := dq_get (L := lzddL_law_702) 10 rfl zddL_law_702 rfl
theorem dL_law_718 : decode cL_law 718 = .ok (.iload 4, 2) := dq_get (L := lzddL_law_702) 11 rfl zddL_law_702 rfl
theorem dL_law_720 : decode cL_law 720 = .ok (.iconst 2, 1) := dq_get (L := lzddL_law_702) 12 rfl zddL_law_702 rfl
theorem dL_law_721 : decode cL_law 721 = .ok (.iadd, 1) := dq_get (L := lzddL_law_702) 13 rfl zddL_law_702 rfl
theorem dL_law_722 : decode cL_law 722 = .ok (.iaload, 1) := dq_get (L := lzddL_law_702) 14 rfl zddL_law_702 rfl
theorem dL_law_723 : decode cL_law 723 = .ok (.invokevirtual 81, 3) := dq_get (L := lzddL_law_702) 15 rfl zddL_law_702 rfl
theorem dL_law_726 : decode cL_law 726 = .ok (.pop, 1) := dq_get (L := lzddL_law_702) 16 rfl zddL_law_702 rfl
theorem dL_law_727 : decode cL_law 727 = .ok (.aload_n 2, 1) := dq_get (L := lzddL_law_702) 17 rfl zddL_law_702 rfl
theorem dL_law_728 : decode cL_law 728 = .ok (.aload_n 0, 1) := dq_get (L := lzddL_law_702) 18 rfl zddL_law_702 rfl
theorem dL_law_729 : decode cL_law 729 = .ok (.iload 4, 2) := dq_get (L := lzddL_law_702) 19 rfl zddL_law_702 rfl
def lzddL_law_731 : List (Nat × Instr × Nat) := [(731, .iconst 1, 1), (732, .iadd, 1), (733, .iaload, 1), (734, .aload_n 0, 1), (735, .iload 4, 2), (737, .iconst 2, 1), (738, .iadd, 1), (739, .iaload, 1), (740, .invokevirtual 84, 3), (743, .pop, 1), (744, .goto 648, 3), (747, .aload_n 1, 1), (748, .aload_n 0, 1), (749, .iload 4, 2), (751, .iconst 1, 1), (752, .iadd, 1), (753, .iaload, 1), (754, .aload_n 0, 1), (755, .iload 4, 2), (757, .iconst 2, 1)]
theorem zddL_law_731 : dqW lzddL_law_731 (cL_law.data.toList.drop 731) 731 = true := by decide +kernel
theorem dL_law_731 : decode cL_law 731 = .ok (.iconst 1, 1) := dq_get (L := lzddL_law_731) 0 rfl zddL_law_731 rfl
theorem dL_law_732 : decode cL_law 732 = .ok (.iadd, 1) := dq_get (L := lzddL_law_731) 1 rfl zddL_law_731 rfl
theorem dL_law_733 : decode cL_law 733 = .ok (.iaload, 1) := dq_get (L := lzddL_law_731) 2 rfl zddL_law_731 rfl
theorem dL_law_734 : decode cL_law 734 = .ok (.aload_n 0, 1) := dq_get (L := lzddL_law_731) 3 rfl zddL_law_731 rfl
theorem dL_law_735 : decode cL_law 735 = .ok (.iload 4, 2) := dq_get (L := lzddL_law_731) 4 rfl zddL_law_731 rfl
theorem dL_law_737 : decode cL_law 737 = .ok (.iconst 2, 1) := dq_get (L := lzddL_law_731) 5 rfl zddL_law_731 rfl
theorem dL_law_738 : decode cL_law 738 = .ok (.iadd, 1) := dq_get (L := lzddL_law_731) 6 rfl zddL_law_731 rfl
theorem dL_law_739 : decode cL_law 739 = .ok (.iaload, 1) := dq_get (L := lzddL_law_731) 7 rfl zddL_law_731 rfl
theorem dL_law_740 : decode cL_law 740 = .ok (.invokevirtual 84, 3) := dq_get (L := lzddL_law_731) 8 rfl zddL_law_731 rfl
theorem dL_law_743 : decode cL_law 743 = .ok (.pop, 1) := dq_get (L := lzddL_law_731) 9 rfl zddL_law_731 rfl
theorem dL_law_744 : decode cL_law 744 = .ok (.goto 648, 3) := dq_get (L := lzddL_law_731) 10 rfl zddL_law_731 rfl
theorem dL_law_747 : decode cL_law 747 = .ok (.aload_n 1, 1) := dq_get (L := lzddL_law_731) 11 rfl zddL_law_731 rfl
theorem dL_law_748 : decode cL_law 748 = .ok (.aload_n 0, 1) := dq_get (L := lzddL_law_731) 12 rfl zddL_law_731 rfl
theorem dL_law_749 : decode cL_law 749 = .ok (.iload 4, 2) := dq_get (L := lzddL_law_731) 13 rfl zddL_law_731 rfl
theorem dL_law_751 : decode cL_law 751 = .ok (.iconst 1, 1) := dq_get (L := lzddL_law_731) 14 rfl zddL_law_731 rfl
theorem dL_law_752 : decode cL_law 752 = .ok (.iadd, 1) := dq_get (L := lzddL_law_731) 15 rfl zddL_law_731 rfl
theorem dL_law_753 : decode cL_law 753 = .ok (.iaload, 1) := dq_get (L := lzddL_law_731) 16 rfl zddL_law_731 rfl
theorem dL_law_754 : decode cL_law 754 = .ok (.aload_n 0, 1) := dq_get (L := lzddL_law_731) 17 rfl zddL_law_731 rfl
theorem dL_law_755 : decode cL_law 755 = .ok (.iload 4, 2) := dq_get (L := lzddL_law_731) 18 rfl zddL_law_731 rfl
theorem dL_law_757 : decode cL_law 757 = .ok (.iconst 2, 1) := dq_get (L := lzddL_law_731) 19 rfl zddL_law_731 rfl
def lzddL_law_758 : List (Nat × Instr × Nat) := [(758, .iadd, 1), (759, .iaload, 1), (760, .invokevirtual 85, 3), (763, .pop, 1), (764, .aload_n 2, 1), (765, .aload_n 0, 1), (766, .iload 4, 2), (768, .iconst 1, 1), (769, .iadd, 1), (770, .iaload, 1), (771, .aload_n 0, 1), (772, .iload 4, 2), (774, .iconst 2, 1), (775, .iadd, 1), (776, .iaload, 1), (777, .invokevirtual 88, 3), (780, .pop, 1), (781, .goto 611, 3), (784, .aload_n 1, 1), (785, .aload_n 0, 1)]
theorem zddL_law_758 : dqW lzddL_law_758 (cL_law.data.toList.drop 758) 758 = true := by decide +kernel
theorem dL_law_758 : decode cL_law 758 = .ok (.iadd, 1) := dq_get (L := lzddL_law_758) 0 rfl zddL_law_758 rfl
theorem dL_law_759 : decode cL_law 759 = .ok (.iaload, 1) := dq_get (L := lzddL_law_758) 1 rfl zddL_law_758 rfl
theorem dL_law_760 : decode cL_law 760 = .ok (.invokevirtual 85, 3) := dq_get (L := lzddL_law_758) 2 rfl zddL_law_758 rfl
theorem dL_law_763 : decode cL_law 763 = .ok (.pop, 1) := dq_get (L := lzddL_law_758) 3 rfl zddL_law_758 rfl
theorem dL_law_764 : decode cL_law 764 = .ok (.aload_n 2, 1) := dq_get (L := lzddL_law_758) 4 rfl zddL_law_758 rfl
theorem dL_law_765 : decode cL_law 765 = .ok (.aload_n 0, 1) := dq_get (L := lzddL_law_758) 5 rfl zddL_law_758 rfl
theorem dL_law_766 : decode cL_law 766 = .ok (.iload 4, 2) := dq_get (L := lzddL_law_758) 6 rfl zddL_law_758 rfl
theorem dL_law_768 : decode cL_law 768 = .ok (.iconst 1, 1) := dq_get (L := lzddL_law_758) 7 rfl zddL_law_758 rfl
theorem dL_law_769 : decode cL_law 769 = .ok (.iadd, 1) := dq_get (L := lzddL_law_758) 8 rfl zddL_law_758 rfl
theorem dL_law_770 : decode cL_law 770 = .ok (.iaload, 1) := dq_get (L := lzddL_law_758) 9 rfl zddL_law_758 rfl
theorem dL_law_771 : decode cL_law 771 = .ok (.aload_n 0, 1) := dq_get (L := lzddL_law_758) 10 rfl zddL_law_758 rfl
theorem dL_law_772 : decode cL_law 772 = .ok (.iload 4, 2) := dq_get (L := lzddL_law_758) 11 rfl zddL_law_758 rfl
theorem dL_law_774 : decode cL_law 774 = .ok (.iconst 2, 1) := dq_get (L := lzddL_law_758) 12 rfl zddL_law_758 rfl
theorem dL_law_775 : decode cL_law 775 = .ok (.iadd, 1) := dq_get (L := lzddL_law_758) 13 rfl zddL_law_758 rfl
theorem dL_law_776 : decode cL_law 776 = .ok (.iaload, 1) := dq_get (L := lzddL_law_758) 14 rfl zddL_law_758 rfl
theorem dL_law_777 : decode cL_law 777 = .ok (.invokevirtual 88, 3) := dq_get (L := lzddL_law_758) 15 rfl zddL_law_758 rfl
theorem dL_law_780 : decode cL_law 780 = .ok (.pop, 1) := dq_get (L := lzddL_law_758) 16 rfl zddL_law_758 rfl
theorem dL_law_781 : decode cL_law 781 = .ok (.goto 611, 3) := dq_get (L := lzddL_law_758) 17 rfl zddL_law_758 rfl
theorem dL_law_784 : decode cL_law 784 = .ok (.aload_n 1, 1) := dq_get (L := lzddL_law_758) 18 rfl zddL_law_758 rfl
theorem dL_law_785 : decode cL_law 785 = .ok (.aload_n 0, 1) := dq_get (L := lzddL_law_758) 19 rfl zddL_law_758 rfl
def lzddL_law_786 : List (Nat × Instr × Nat) := [(786, .iload 4, 2), (788, .iconst 1, 1), (789, .iadd, 1), (790, .iaload, 1), (791, .aload_n 0, 1), (792, .iload 4, 2), (794, .iconst 2, 1), (795, .iadd, 1), (796, .iaload, 1), (797, .invokevirtual 89, 3), (800, .pop, 1), (801, .aload_n 2, 1), (802, .aload_n 0, 1), (803, .iload 4, 2), (805, .iconst 1, 1), (806, .iadd, 1), (807, .iaload, 1), (808, .aload_n 0, 1), (809, .iload 4, 2), (811, .iconst 2, 1)]
theorem zddL_law_786 : dqW lzddL_law_786 (cL_law.data.toList.drop 786) 786 = true := by decide +kernel
theorem dL_law_786 : decode cL_law 786 = .ok (.iload 4, 2) := dq_get (L := lzddL_law_786) 0 rfl zddL_law_786 rfl
theorem dL_law_788 : decode cL_law 788 = .ok (.iconst 1, 1) := dq_get (L := lzddL_law_786) 1 rfl zddL_law_786 rfl
theorem dL_law_789 : decode cL_law 789 = .ok (.iadd, 1) := dq_get (L := lzddL_law_786) 2 rfl zddL_law_786 rfl
theorem dL_law_790 : decode cL_law 790 = .ok (.iaload, 1) := dq_get (L := lzddL_law_786) 3 rfl zddL_law_786 rfl
theorem dL_law_791 : decode cL_law 791 = .ok (.aload_n 0, 1) := dq_get (L := lzddL_law_786) 4 rfl zddL_law_786 rfl
theorem dL_law_792 : decode cL_law 792 = .ok (.iload 4, 2) := dq_get (L := lzddL_law_786) 5 rfl zddL_law_786 rfl
theorem dL_law_794 : decode cL_law 794 = .ok (.iconst 2, 1) := dq_get (L := lzddL_law_786) 6 rfl zddL_law_786 rfl
theorem dL_law_795 : decode cL_law 795 = .ok (.iadd, 1) := dq_get (L := lzddL_law_786) 7 rfl zddL_law_786 rfl
theorem dL_law_796 : decode cL_law 796 = .ok (.iaload, 1) := dq_get (L := lzddL_law_786) 8 rfl zddL_law_786 rfl
theorem dL_law_797 : decode cL_law 797 = .ok (.invokevirtual 89, 3) := dq_get (L := lzddL_law_786) 9 rfl zddL_law_786 rfl
theorem dL_law_800 : decode cL_law 800 = .ok (.pop, 1) := dq_get (L := lzddL_law_786) 10 rfl zddL_law_786 rfl
theorem dL_law_801 : decode cL_law 801 = .ok (.aload_n 2, 1) := dq_get (L := lzddL_law_786) 11 rfl zddL_law_786 rfl
theorem dL_law_802 : decode cL_law 802 = .ok (.aload_n 0, 1) := dq_get (L := lzddL_law_786) 12 rfl zddL_law_786 rfl
theorem dL_law_803 : decode cL_law 803 = .ok (.iload 4, 2) := dq_get (L := lzddL_law_786) 13 rfl zddL_law_786 rfl
theorem dL_law_805 : decode cL_law 805 = .ok (.iconst 1, 1) := dq_get (L := lzddL_law_786) 14 rfl zddL_law_786 rfl
theorem dL_law_806 : decode cL_law 806 = .ok (.iadd, 1) := dq_get (L := lzddL_law_786) 15 rfl zddL_law_786 rfl
theorem dL_law_807 : decode cL_law 807 = .ok (.iaload, 1) := dq_get (L := lzddL_law_786) 16 rfl zddL_law_786 rfl
theorem dL_law_808 : decode cL_law 808 = .ok (.aload_n 0, 1) := dq_get (L := lzddL_law_786) 17 rfl zddL_law_786 rfl
theorem dL_law_809 : decode cL_law 809 = .ok (.iload 4, 2) := dq_get (L := lzddL_law_786) 18 rfl zddL_law_786 rfl
theorem dL_law_811 : decode cL_law 811 = .ok (.iconst 2, 1) := dq_get (L := lzddL_law_786) 19 rfl zddL_law_786 rfl
def lzddL_law_812 : List (Nat × Instr × Nat) := [(812, .iadd, 1), (813, .iaload, 1), (814, .invokevirtual 92, 3), (817, .pop, 1), (818, .goto 574, 3), (821, .aload_n 1, 1), (822, .aload_n 0, 1), (823, .iload 4, 2), (825, .iconst 1, 1), (826, .iadd, 1), (827, .iaload, 1), (828, .aload_n 0, 1), (829, .iload 4, 2), (831, .iconst 2, 1), (832, .iadd, 1), (833, .iaload, 1), (834, .invokevirtual 93, 3), (837, .pop, 1), (838, .aload_n 2, 1), (839, .aload_n 0, 1)]
theorem zddL_law_812 : dqW lzddL_law_812 (cL_law.data.toList.drop 812) 812 = true := by decide +kernel
theorem dL_law_812 : decode cL_law 812 = .ok (.iadd, 1) := dq_get (L := lzddL_law_812) 0 rfl zddL_law_812 rfl
theorem dL_law_813 : decode cL_law 813 = .ok (.iaload, 1) := dq_get (L := lzddL_law_812) 1 rfl zddL_law_812 rfl
theorem dL_law_814 : decode cL_law 814 = .ok (.invokevirtual 92, 3) := dq_get (L := lzddL_law_812) 2 rfl zddL_law_812 rfl
theorem dL_law_817 : decode cL_law 817 = .ok (.pop, 1) := dq_get (L := lzddL_law_812) 3 rfl zddL_law_812 rfl
theorem dL_law_818 : decode cL_law 818 = .ok (.goto 574, 3) := dq_get (L := lzddL_law_812) 4 rfl zddL_law_812 rfl
theorem dL_law_821 : decode cL_law 821 = .ok (.aload_n 1, 1) := dq_get (L := lzddL_law_812) 5 rfl zddL_law_812 rfl
theorem dL_law_822 : decode cL_law 822 = .ok (.aload_n 0, 1) := dq_get (L := lzddL_law_812) 6 rfl zddL_law_812 rfl
theorem dL_law_823 : decode cL_law 823 = .ok (.iload 4, 2) := dq_get (L := lzddL_law_812) 7 rfl zddL_law_812 rfl
theorem dL_law_825 : decode cL_law 825 = .ok (.iconst 1, 1) := dq_get (L := lzddL_law_812) 8 rfl zddL_law_812 rfl
theorem dL_law_826 : decode cL_law 826 = .ok (.iadd, 1) := dq_get (L := lzddL_law_812) 9 rfl zddL_law_812 rfl
theorem dL_law_827 : decode cL_law 827 = .ok (.iaload, 1) := dq_get (L := lzddL_law_812) 10 rfl zddL_law_812 rfl
theorem dL_law_828 : decode cL_law 828 = .ok (.aload_n 0, 1) := dq_get (L := lzddL_law_812) 11 rfl zddL_law_812 rfl
theorem dL_law_829 : decode cL_law 829 = .ok (.iload 4, 2) := dq_get (L := lzddL_law_812) 12 rfl zddL_law_812 rfl
theorem dL_law_831 : decode cL_law 831 = .ok (.iconst 2, 1) := dq_get (L := lzddL_law_812) 13 rfl zddL_law_812 rfl
theorem dL_law_832 : decode cL_law 832 = .ok (.iadd, 1) := dq_get (L := lzddL_law_812) 14 rfl zddL_law_812 rfl
theorem dL_law_833 : decode cL_law 833 = .ok (.iaload, 1) := dq_get (L := lzddL_law_812) 15 rfl zddL_law_812 rfl
theorem dL_law_834 : decode cL_law 834 = .ok (.invokevirtual 93, 3) := dq_get (L := lzddL_law_812) 16 rfl zddL_law_812 rfl
theorem dL_law_837 : decode cL_law 837 = .ok (.pop, 1) := dq_get (L := lzddL_law_812) 17 rfl zddL_law_812 rfl
theorem dL_law_838 : decode cL_law 838 = .ok (.aload_n 2, 1) := dq_get (L := lzddL_law_812) 18 rfl zddL_law_812 rfl
theorem dL_law_839 : decode cL_law 839 = .ok (.aload_n 0, 1) := dq_get (L := lzddL_law_812) 19 rfl zddL_law_812 rfl
def lzddL_law_840 : List (Nat × Instr × Nat) := [(840, .iload 4, 2), (842, .iconst 1, 1), (843, .iadd, 1), (844, .iaload, 1), (845, .aload_n 0, 1), (846, .iload 4, 2), (848, .iconst 2, 1), (849, .iadd, 1), (850, .iaload, 1), (851, .invokevirtual 96, 3), (854, .pop, 1), (855, .goto 537, 3), (858, .aload_n 1, 1), (859, .aload_n 0, 1), (860, .iload 4, 2), (862, .iconst 1, 1), (863, .iadd, 1), (864, .iaload, 1), (865, .aload_n 0, 1), (866, .iload 4, 2)]
theorem zddL_law_840 : dqW lzddL_law_840 (cL_law.data.toList.drop 840) 840 = true := by decide +kernel
theorem dL_law_840 : decode cL_law 840 = .ok (.iload 4, 2) := dq_get (L := lzddL_law_840) 0 rfl zddL_law_840 rfl
theorem dL_law_842 : decode cL_law 842 = .ok (.iconst 1, 1) := dq_get (L := lzddL_law_840) 1 rfl zddL_law_840 rfl
theorem dL_law_843 : decode cL_law 843 = .ok (.iadd, 1) := dq_get (L := lzddL_law_840) 2 rfl zddL_law_840 rfl
theorem dL_law_844 : decode cL_law 844 = .ok (.iaload, 1) := dq_get (L := lzddL_law_840) 3 rfl zddL_law_840 rfl
theorem dL_law_845 : decode cL_law 845 = .ok (.aload_n 0, 1) := dq_get (L := lzddL_law_840) 4 rfl zddL_law_840 rfl
theorem dL_law_846 : decode cL_law 846 = .ok (.iload 4, 2) := dq_get (L := lzddL_law_840) 5 rfl zddL_law_840 rfl
theorem dL_law_848 : decode cL_law 848 = .ok (.iconst 2, 1) := dq_get (L := lzddL_law_840) 6 rfl zddL_law_840 rfl
theorem dL_law_849 : decode cL_law 849 = .ok (.iadd, 1) := dq_get (L := lzddL_law_840) 7 rfl zddL_law_840 rfl
theorem dL_law_850 : decode cL_law 850 = .ok (.iaload, 1) := dq_get (L := lzddL_law_840) 8 rfl zddL_law_840 rfl
theorem dL_law_851 : decode cL_law 851 = .ok (.invokevirtual 96, 3) := dq_get (L := lzddL_law_840) 9 rfl zddL_law_840 rfl
theorem dL_law_854 : decode cL_law 854 = .ok (.pop, 1) := dq_get (L := lzddL_law_840) 10 rfl zddL_law_840 rfl
theorem dL_law_855 : decode cL_law 855 = .ok (.goto 537, 3) := dq_get (L := lzddL_law_840) 11 rfl zddL_law_840 rfl
theorem dL_law_858 : decode cL_law 858 = .ok (.aload_n 1, 1) := dq_get (L := lzddL_law_840) 12 rfl zddL_law_840 rfl
theorem dL_law_859 : decode cL_law 859 = .ok (.aload_n 0, 1) := dq_get (L := lzddL_law_840) 13 rfl zddL_law_840 rfl
theorem dL_law_860 : decode cL_law 860 = .ok (.iload 4, 2) := dq_get (L := lzddL_law_840) 14 rfl zddL_law_840 rfl
theorem dL_law_862 : decode cL_law 862 = .ok (.iconst 1, 1) := dq_get (L := lzddL_law_840) 15 rfl zddL_law_840 rfl
theorem dL_law_863 : decode cL_law 863 = .ok (.iadd, 1) := dq_get (L := lzddL_law_840) 16 rfl zddL_law_840 rfl
theorem dL_law_864 : decode cL_law 864 = .ok (.iaload, 1) := dq_get (L := lzddL_law_840) 17 rfl zddL_law_840 rfl
theorem dL_law_865 : decode cL_law 865 = .ok (.aload_n 0, 1) := dq_get (L := lzddL_law_840) 18 rfl zddL_law_840 rfl
theorem dL_law_866 : decode cL_law 866 = .ok (.iload 4, 2) := dq_get (L := lzddL_law_840) 19 rfl zddL_law_840 rfl
def lzddL_law_868 : List (Nat × Instr × Nat) := [(868, .iconst 2, 1), (869, .iadd, 1), (870, .iaload, 1), (871, .invokevirtual 97, 3), (874, .pop, 1), (875, .aload_n 2, 1), (876, .aload_n 0, 1), (877, .iload 4, 2), (879, .iconst 1, 1), (880, .iadd, 1), (881, .iaload, 1), (882, .aload_n 0, 1), (883, .iload 4, 2), (885, .iconst 2, 1), (886, .iadd, 1), (887, .iaload, 1), (888, .invokevirtual 100, 3), (891, .pop, 1), (892, .goto 500, 3), (895, .aload_n 1, 1)]
theorem zddL_law_868 : dqW lzddL_law_868 (cL_law.data.toList.drop 868) 868 = true := by decide +kernel
theorem dL_law_868 : decode cL_law 868 = .ok (.iconst 2, 1) := dq_get (L := lzddL_law_868) 0 rfl zddL_law_868 rfl
theorem dL_law_869 : decode cL_law 869 = .ok (.iadd, 1) := dq_get (L := lzddL_law_868) 1 rfl zddL_law_868 rfl
theorem dL_law_870 : decode cL_law 870 = .ok (.iaload, 1) := dq_get (L := lzddL_law_868) 2 rfl zddL_law_868 rfl
theorem dL_law_871 : decode cL_law 871 = .ok (.invokevirtual 97, 3) := dq_get (L := lzddL_law_868) 3 rfl zddL_law_868 rfl
theorem dL_law_874 : decode cL_law 874 = .ok (.pop, 1) := dq_get (L := lzddL_law_868) 4 rfl zddL_law_868 rfl
theorem dL_law_875 : decode cL_law 875 = .ok (.aload_n 2, 1) := dq_get (L := lzddL_law_868) 5 rfl zddL_law_868 rfl
theorem dL_law_876 : decode cL_law 876 = .ok (.aload_n 0, 1) := dq_get (L := lzddL_law_868) 6 rfl zddL_law_868 rfl
theorem dL_law_877 : decode cL_law 877 = .ok (.iload 4, 2) := dq_get (L := lzddL_law_868) 7 rfl zddL_law_868 rfl
theorem dL_law_879 : decode cL_law 879 = .ok (.iconst 1, 1) := dq_get (L := lzddL_law_868) 8 rfl zddL_law_868 rfl
theorem dL_law_880 : decode cL_law 880 = .ok (.iadd, 1) := dq_get (L := lzddL_law_868) 9 rfl zddL_law_868 rfl
theorem dL_law_881 : decode cL_law 881 = .ok (.iaload, 1) := dq_get (L := lzddL_law_868) 10 rfl zddL_law_868 rfl
theorem dL_law_882 : decode cL_law 882 = .ok (.aload_n 0, 1) := dq_get (L := lzddL_law_868) 11 rfl zddL_law_868 rfl
theorem dL_law_883 : decode cL_law 883 = .ok (.iload 4, 2) := dq_get (L := lzddL_law_868) 12 rfl zddL_law_868 rfl
theorem dL_law_885 : decode cL_law 885 = .ok (.iconst 2, 1) := dq_get (L := lzddL_law_868) 13 rfl zddL_law_868 rfl
theorem dL_law_886 : decode cL_law 886 = .ok (.iadd, 1) := dq_get (L := lzddL_law_868) 14 rfl zddL_law_868 rfl
theorem dL_law_887 : decode cL_law 887 = .ok (.iaload, 1) := dq_get (L := lzddL_law_868) 15 rfl zddL_law_868 rfl
theorem dL_law_888 : decode cL_law 888 = .ok (.invokevirtual 100, 3) := dq_get (L := lzddL_law_868) 16 rfl zddL_law_868 rfl
theorem dL_law_891 : decode cL_law 891 = .ok (.pop, 1) := dq_get (L := lzddL_law_868) 17 rfl zddL_law_868 rfl
theorem dL_law_892 : decode cL_law 892 = .ok (.goto 500, 3) := dq_get (L := lzddL_law_868) 18 rfl zddL_law_868 rfl
theorem dL_law_895 : decode cL_law 895 = .ok (.aload_n 1, 1) := dq_get (L := lzddL_law_868) 19 rfl zddL_law_868 rfl
def lzddL_law_896 : List (Nat × Instr × Nat) := [(896, .invokevirtual 101, 3), (899, .pop, 1), (900, .aload_n 2, 1), (901, .invokevirtual 104, 3), (904, .pop, 1), (905, .goto 487, 3), (908, .aload_n 1, 1), (909, .aload_n 0, 1), (910, .iload 4, 2), (912, .iconst 1, 1), (913, .iadd, 1), (914, .iaload, 1), (915, .invokevirtual 105, 3), (918, .pop, 1), (919, .aload_n 2, 1), (920, .aload_n 0, 1), (921, .iload 4, 2), (923, .iconst 1, 1), (924, .iadd, 1), (925, .iaload, 1)]
theorem zddL_law_896 : dqW lzddL_law_896 (cL_law.data.toList.drop 896) 896 = true := by decide +kernel
theorem dL_law_896 : decode cL_law 896 = .ok (.invokevirtual 101, 3) := dq_get (L := lzddL_law_896) 0 rfl zddL_law_896 rfl
theorem dL_law_899 : decode cL_law 899 = .ok (.pop, 1) := dq_get (L := lzddL_law_896) 1 rfl zddL_law_896 rfl
theorem dL_law_900 : decode cL_law 900 = .ok (.aload_n 2, 1) := dq_get (L := lzddL_law_896) 2 rfl zddL_law_896 rfl
theorem dL_law_901 : decode cL_law 901 = .ok (.invokevirtual 104, 3) := dq_get (L := lzddL_law_896) 3 rfl zddL_law_896 rfl
theorem dL_law_904 : decode cL_law 904 = .ok (.pop, 1) := dq_get (L := lzddL_law_896) 4 rfl zddL_law_896 rfl
theorem dL_law_905 : decode cL_law 905 = .ok (.goto 487, 3) := dq_get (L := lzddL_law_896) 5 rfl zddL_law_896 rfl
theorem dL_law_908 : decode cL_law 908 = .ok (.aload_n 1, 1) := dq_get (L := lzddL_law_896) 6 rfl zddL_law_896 rfl
theorem dL_law_909 : decode cL_law 909 = .ok (.aload_n 0, 1) := dq_get (L := lzddL_law_896) 7 rfl zddL_law_896 rfl
theorem dL_law_910 : decode cL_law 910 = .ok (.iload 4, 2) := dq_get (L := lzddL_law_896) 8 rfl zddL_law_896 rfl
theorem dL_law_912 : decode cL_law 912 = .ok (.iconst 1, 1) := dq_get (L := lzddL_law_896) 9 rfl zddL_law_896 rfl
theorem dL_law_913 : decode cL_law 913 = .ok (.iadd, 1) := dq_get (L := lzddL_law_896) 10 rfl zddL_law_896 rfl
theorem dL_law_914 : decode cL_law 914 = .ok (.iaload, 1) := dq_get (L := lzddL_law_896) 11 rfl zddL_law_896 rfl
theorem dL_law_915 : decode cL_law 915 = .ok (.invokevirtual 105, 3) := dq_get (L := lzddL_law_896) 12 rfl zddL_law_896 rfl
theorem dL_law_918 : decode cL_law 918 = .ok (.pop, 1) := dq_get (L := lzddL_law_896) 13 rfl zddL_law_896 rfl
theorem dL_law_919 : decode cL_law 919 = .ok (.aload_n 2, 1) := dq_get (L := lzddL_law_896) 14 rfl zddL_law_896 rfl
theorem dL_law_920 : decode cL_law 920 = .ok (.aload_n 0, 1) := dq_get (L := lzddL_law_896) 15 rfl zddL_law_896 rfl
theorem dL_law_921 : decode cL_law 921 = .ok (.iload 4, 2) := dq_get (L := lzddL_law_896) 16 rfl zddL_law_896 rfl
theorem dL_law_923 : decode cL_law 923 = .ok (.iconst 1, 1) := dq_get (L := lzddL_law_896) 17 rfl zddL_law_896 rfl
theorem dL_law_924 : decode cL_law 924 = .ok (.iadd, 1) := dq_get (L := lzddL_law_896) 18 rfl zddL_law_896 rfl
theorem dL_law_925 : decode cL_law 925 = .ok (.iaload, 1) := dq_get (L := lzddL_law_896) 19 rfl zddL_law_896 rfl
def lzddL_law_926 : List (Nat × Instr × Nat) := [(926, .invokevirtual 108, 3), (929, .pop, 1), (930, .goto 462, 3), (933, .aload_n 1, 1), (934, .invokevirtual 109, 3), (937, .pop, 1), (938, .aload_n 2, 1), (939, .invokevirtual 112, 3), (942, .pop, 1), (943, .goto 449, 3), (946, .aload_n 1, 1), (947, .invokevirtual 113, 3), (950, .pop, 1), (951, .aload_n 2, 1), (952, .invokevirtual 116, 3), (955, .pop, 1), (956, .goto 436, 3), (959, .aload_n 1, 1), (960, .invokevirtual 117, 3), (963, .pop, 1)]
theorem zddL_law_926 : dqW lzddL_law_926 (cL_law.data.toList.drop 926) 926 = true := by decide +kernel
theorem dL_law_926 : decode cL_law 926 = .ok (.invokevirtual 108, 3) := dq_get (L := lzddL_law_926) 0 rfl zddL_law_926 rfl
theorem dL_law_929 : decode cL_law 929 = .ok (.pop, 1) := dq_get (L := lzddL_law_926) 1 rfl zddL_law_926 rfl
theorem dL_law_930 : decode cL_law 930 = .ok (.goto 462, 3) := dq_get (L := lzddL_law_926) 2 rfl zddL_law_926 rfl
theorem dL_law_933 : decode cL_law 933 = .ok (.aload_n 1, 1) := dq_get (L := lzddL_law_926) 3 rfl zddL_law_926 rfl
theorem dL_law_934 : decode cL_law 934 = .ok (.invokevirtual 109, 3) := dq_get (L := lzddL_law_926) 4 rfl zddL_law_926 rfl
theorem dL_law_937 : decode cL_law 937 = .ok (.pop, 1) := dq_get (L := lzddL_law_926) 5 rfl zddL_law_926 rfl
theorem dL_law_938 : decode cL_law 938 = .ok (.aload_n 2, 1) := dq_get (L := lzddL_law_926) 6 rfl zddL_law_926 rfl
theorem dL_law_939 : decode cL_law 939 = .ok (.invokevirtual 112, 3) := dq_get (L := lzddL_law_926) 7 rfl zddL_law_926 rfl
theorem dL_law_942 : decode cL_law 942 = .ok (.pop, 1) := dq_get (L := lzddL_law_926) 8 rfl zddL_law_926 rfl
theorem dL_law_943 : decode cL_law 943 = .ok (.goto 449, 3) := dq_get (L := lzddL_law_926) 9 rfl zddL_law_926 rfl
theorem dL_law_946 : decode cL_law 946 = .ok (.aload_n 1, 1) := dq_get (L := lzddL_law_926) 10 rfl zddL_law_926 rfl
theorem dL_law_947 : decode cL_law 947 = .ok (.invokevirtual 113, 3) := dq_get (L := lzddL_law_926) 11 rfl zddL_law_926 rfl
theorem dL_law_950 : decode cL_law 950 = .ok (.pop, 1) := dq_get (L := lzddL_law_926) 12 rfl zddL_law_926 rfl
theorem dL_law_951 : decode cL_law 951 = .ok (.aload_n 2, 1) := dq_get (L := lzddL_law_926) 13 rfl zddL_law_926 rfl
theorem dL_law_952 : decode cL_law 952 = .ok (.invokevirtual 116, 3) := dq_get (L := lzddL_law_926) 14 rfl zddL_law_926 rfl
theorem dL_law_955 : decode cL_law 955 = .ok (.pop, 1) := dq_get (L := lzddL_law_926) 15 rfl zddL_law_926 rfl
theorem dL_law_956 : decode cL_law 956 = .ok (.goto 436, 3) := dq_get (L := lzddL_law_926) 16 rfl zddL_law_926 rfl
theorem dL_law_959 : decode cL_law 959 = .ok (.aload_n 1, 1) := dq_get (L := lzddL_law_926) 17 rfl zddL_law_926 rfl
theorem dL_law_960 : decode cL_law 960 = .ok (.invokevirtual 117, 3) := dq_get (L := lzddL_law_926) 18 rfl zddL_law_926 rfl
theorem dL_law_963 : decode cL_law 963 = .ok (.pop, 1) := dq_get (L := lzddL_law_926) 19 rfl zddL_law_926 rfl
def lzddL_law_964 : List (Nat × Instr × Nat) := [(964, .aload_n 2, 1), (965, .invokevirtual 120, 3), (968, .pop, 1), (969, .goto 423, 3), (972, .aload_n 1, 1), (973, .invokevirtual 121, 3), (976, .pop, 1), (977, .aload_n 2, 1), (978, .invokevirtual 124, 3), (981, .pop, 1), (982, .goto 410, 3), (985, .aload_n 1, 1), (986, .aload_n 0, 1), (987, .iload 4, 2), (989, .iconst 1, 1), (990, .iadd, 1), (991, .iaload, 1), (992, .invokevirtual 125, 3), (995, .pop, 1), (996, .aload_n 2, 1)]
theorem zddL_law_964 : dqW lzddL_law_964 (cL_law.data.toList.drop 964) 964 = true := by decide +kernel
theorem dL_law_964 : decode cL_law 964 = .ok (.aload_n 2, 1) := dq_get (L := lzddL_law_964) 0 rfl zddL_law_964 rfl
theorem dL_law_965 : decode cL_law 965 = .ok (.invokevirtual 120, 3) := dq_get (L := lzddL_law_964) 1 rfl zddL_law_964 rfl
theorem dL_law_968 : decode cL_law 968 = .ok (.pop, 1) := dq_get (L := lzddL_law_964) 2 rfl zddL_law_964 rfl
theorem dL_law_969 : decode cL_law 969 = .ok (.goto 423, 3) := dq_get (L := lzddL_law_964) 3 rfl zddL_law_964 rfl
theorem dL_law_972 : decode cL_law 972 = .ok (.aload_n 1, 1) := dq_get (L := lzddL_law_964) 4 rfl zddL_law_964 rfl
theorem dL_law_973 : decode cL_law 973 = .ok (.invokevirtual 121, 3) := dq_get (L := lzddL_law_964) 5 rfl zddL_law_964 rfl
theorem dL_law_976 : decode cL_law 976 = .ok (.pop, 1) := dq_get (L := lzddL_law_964) 6 rfl zddL_law_964 rfl
theorem dL_law_977 : decode cL_law 977 = .ok (.aload_n 2, 1) := dq_get (L := lzddL_law_964) 7 rfl zddL_law_964 rfl
theorem dL_law_978 : decode cL_law 978 = .ok (.invokevirtual 124, 3) := dq_get (L := lzddL_law_964) 8 rfl zddL_law_964 rfl
theorem dL_law_981 : decode cL_law 981 = .ok (.pop, 1) := dq_get (L := lzddL_law_964) 9 rfl zddL_law_964 rfl
theorem dL_law_982 : decode cL_law 982 = .ok (.goto 410, 3) := dq_get (L := lzddL_law_964) 10 rfl zddL_law_964 rfl
theorem dL_law_985 : decode cL_law 985 = .ok (.aload_n 1, 1) := dq_get (L := lzddL_law_964) 11 rfl zddL_law_964 rfl
theorem dL_law_986 : decode cL_law 986 = .ok (.aload_n 0, 1) := dq_get (L := lzddL_law_964) 12 rfl zddL_law_964 rfl
theorem dL_law_987 : decode cL_law 987 = .ok (.iload 4, 2) := dq_get (L := lzddL_law_964) 13 rfl zddL_law_964 rfl
theorem dL_law_989 : decode cL_law 989 = .ok (.iconst 1, 1) := dq_get (L := lzddL_law_964) 14 rfl zddL_law_964 rfl
theorem dL_law_990 : decode cL_law 990 = .ok (.iadd, 1) := dq_get (L := lzddL_law_964) 15 rfl zddL_law_964 rfl
theorem dL_law_991 : decode cL_law 991 = .ok (.iaload, 1) := dq_get (L := lzddL_law_964) 16 rfl zddL_law_964 rfl
theorem dL_law_992 : decode cL_law 992 = .ok (.invokevirtual 125, 3) := dq_get (L := lzddL_law_964) 17 rfl zddL_law_964 rfl
theorem dL_law_995 : decode cL_law 995 = .ok (.pop, 1) := dq_get (L := lzddL_law_964) 18 rfl zddL_law_964 rfl
theorem dL_law_996 : decode cL_law 996 = .ok (.aload_n 2, 1) := dq_get (L := lzddL_law_964) 19 rfl zddL_law_964 rfl
def lzddL_law_997 : List (Nat × Instr × Nat) := [(997, .aload_n 0, 1), (998, .iload 4, 2), (1000, .iconst 1, 1), (1001, .iadd, 1), (1002, .iaload, 1), (1003, .invokevirtual 128, 3), (1006, .pop, 1), (1007, .goto 385, 3), (1010, .aload_n 1, 1), (1011, .aload_n 0, 1), (1012, .iload 4, 2), (1014, .iconst 1, 1), (1015, .iadd, 1), (1016, .iaload, 1), (1017, .invokevirtual 129, 3), (1020, .pop, 1), (1021, .aload_n 2, 1), (1022, .aload_n 0, 1), (1023, .iload 4, 2), (1025, .iconst 1, 1)]
theorem zddL_law_997 : dqW lzddL_law_997 (cL_law.data.toList.drop 997) 997 = true := by decide +kernel
theorem dL_law_997 : decode cL_law 997 = .ok (.aload_n 0, 1) := dq_get (L := lzddL_law_997) 0 rfl zddL_law_997 rfl
theorem dL_law_998 : decode cL_law 998 = .ok (.iload 4, 2) := dq_get (L := lzddL_law_997) 1 rfl zddL_law_997 rfl
theorem dL_law_1000 : decode cL_law 1000 = .ok (.iconst 1, 1) := dq_get (L := lzddL_law_997) 2 rfl zddL_law_997 rfl
theorem dL_law_1001 : decode cL_law 1001 = .ok (.iadd, 1) := dq_get (L := lzddL_law_997) 3 rfl zddL_law_997 rfl
theorem dL_law_1002 : decode cL_law 1002 = .ok (.iaload, 1) := dq_get (L := lzddL_law_997) 4 rfl zddL_law_997 rfl
theorem dL_law_1003 : decode cL_law 1003 = .ok (.invokevirtual 128, 3) := dq_get (L := lzddL_law_997) 5 rfl zddL_law_997 rfl
theorem dL_law_1006 : decode cL_law 1006 = .ok (.pop, 1) := dq_get (L := lzddL_law_997) 6 rfl zddL_law_997 rfl
theorem dL_law_1007 : decode cL_law 1007 = .ok (.goto 385, 3) := dq_get (L := lzddL_law_997) 7 rfl zddL_law_997 rfl
theorem dL_law_1010 : decode cL_law 1010 = .ok (.aload_n 1, 1) := dq_get (L := lzddL_law_997) 8 rfl zddL_law_997 rfl
theorem dL_law_1011 : decode cL_law 1011 = .ok (.aload_n 0, 1) := dq_get (L := lzddL_law_997) 9 rfl zddL_law_997 rfl
theorem dL_law_1012 : decode cL_law 1012 = .ok (.iload 4, 2) := dq_get (L := lzddL_law_997) 10 rfl zddL_law_997 rfl
theorem dL_law_1014 : decode cL_law 1014 = .ok (.iconst 1, 1) := dq_get (L := lzddL_law_997) 11 rfl zddL_law_997 rfl
theorem dL_law_1015 : decode cL_law 1015 = .ok (.iadd, 1) := dq_get (L := lzddL_law_997) 12 rfl zddL_law_997 rfl
theorem dL_law_1016 : decode cL_law 1016 = .ok (.iaload, 1) := dq_get (L := lzddL_law_997) 13 rfl zddL_law_997 rfl
theorem dL_law_1017 : decode cL_law 1017 = .ok (.invokevirtual 129, 3) := dq_get (L := lzddL_law_997) 14 rfl zddL_law_997 rfl
theorem dL_law_1020 : decode cL_law 1020 = .ok (.pop, 1) := dq_get (L := lzddL_law_997) 15 rfl zddL_law_997 rfl
theorem dL_law_1021 : decode cL_law 1021 = .ok (.aload_n 2, 1) := dq_get (L := lzddL_law_997) 16 rfl zddL_law_997 rfl
theorem dL_law_1022 : decode cL_law 1022 = .ok (.aload_n 0, 1) := dq_get (L := lzddL_law_997) 17 rfl zddL_law_997 rfl
theorem dL_law_1023 : decode cL_law 1023 = .ok (.iload 4, 2) := dq_get (L := lzddL_law_997) 18 rfl zddL_law_997 rfl
theorem dL_law_1025 : decode cL_law 1025 = .ok (.iconst 1, 1) := dq_get (L := lzddL_law_997) 19 rfl zddL_law_997 rfl
def lzddL_law_1026 : List (Nat × Instr × Nat) := [(1026, .iadd, 1), (1027, .iaload, 1), (1028, .invokevirtual 132, 3), (1031, .pop, 1), (1032, .goto 360, 3), (1035, .aload_n 1, 1), (1036, .aload_n 0, 1), (1037, .iload 4, 2), (1039, .iconst 1, 1), (1040, .iadd, 1), (1041, .iaload, 1), (1042, .aload_n 0, 1), (1043, .iload 4, 2), (1045, .iconst 2, 1), (1046, .iadd, 1), (1047, .iaload, 1), (1048, .aload_n 0, 1), (1049, .iload 4, 2), (1051, .iconst 3, 1), (1052, .iadd, 1)]
theorem zddL_law_1026 : dqW lzddL_law_1026 (cL_law.data.toList.drop 1026) 1026 = true := by decide +kernel
theorem dL_law_1026 : decode cL_law 1026 = .ok (.iadd, 1) := dq_get (L := lzddL_law_1026) 0 rfl zddL_law_1026 rfl
theorem dL_law_1027 : decode cL_law 1027 = .ok (.iaload, 1) := dq_get (L := lzddL_law_1026) 1 rfl zddL_law_1026 rfl
theorem dL_law_1028 : decode cL_law 1028 = .ok (.invokevirtual 132, 3) := dq_get (L := lzddL_law_1026) 2 rfl zddL_law_1026 rfl
theorem dL_law_1031 : decode cL_law 1031 = .ok (.pop, 1) := dq_get (L := lzddL_law_1026) 3 rfl zddL_law_1026 rfl
theorem dL_law_1032 : decode cL_law 1032 = .ok (.goto 360, 3) := dq_get (L := lzddL_law_1026) 4 rfl zddL_law_1026 rfl
theorem dL_law_1035 : decode cL_law 1035 = .ok (.aload_n 1, 1) := dq_get (L := lzddL_law_1026) 5 rfl zddL_law_1026 rfl
theorem dL_law_1036 : decode cL_law 1036 = .ok (.aload_n 0, 1) := dq_get (L := lzddL_law_1026) 6 rfl zddL_law_1026 rfl
theorem dL_law_1037 : decode cL_law 1037 = .ok (.iload 4, 2) := dq_get (L := lzddL_law_1026) 7 rfl zddL_law_1026 rfl
theorem dL_law_1039 : decode cL_law 1039 = .ok (.iconst 1, 1) := dq_get (L := lzddL_law_1026) 8 rfl zddL_law_1026 rfl
theorem dL_law_1040 : decode cL_law 1040 = .ok (.iadd, 1) := dq_get (L := lzddL_law_1026) 9 rfl zddL_law_1026 rfl
theorem dL_law_1041 : decode cL_law 1041 = .ok (.iaload, 1) := dq_get (L := lzddL_law_1026) 10 rfl zddL_law_1026 rfl
theorem dL_law_1042 : decode cL_law 1042 = .ok (.aload_n 0, 1) := dq_get (L := lzddL_law_1026) 11 rfl zddL_law_1026 rfl
theorem dL_law_1043 : decode cL_law 1043 = .ok (.iload 4, 2) := dq_get (L := lzddL_law_1026) 12 rfl zddL_law_1026 rfl
theorem dL_law_1045 : decode cL_law 1045 = .ok (.iconst 2, 1) := dq_get (L := lzddL_law_1026) 13 rfl zddL_law_1026 rfl
theorem dL_law_1046 : decode cL_law 1046 = .ok (.iadd, 1) := dq_get (L := lzddL_law_1026) 14 rfl zddL_law_1026 rfl
theorem dL_law_1047 : decode cL_law 1047 = .ok (.iaload, 1) := dq_get (L := lzddL_law_1026) 15 rfl zddL_law_1026 rfl
theorem dL_law_1048 : decode cL_law 1048 = .ok (.aload_n 0, 1) := dq_get (L := lzddL_law_1026) 16 rfl zddL_law_1026 rfl
theorem dL_law_1049 : decode cL_law 1049 = .ok (.iload 4, 2) := dq_get (L := lzddL_law_1026) 17 rfl zddL_law_1026 rfl
theorem dL_law_1051 : decode cL_law 1051 = .ok (.iconst 3, 1) := dq_get (L := lzddL_law_1026) 18 rfl zddL_law_1026 rfl
theorem dL_law_1052 : decode cL_law 1052 = .ok (.iadd, 1) := dq_get (L := lzddL_law_1026) 19 rfl zddL_law_1026 rfl
def lzddL_law_1053 : List (Nat × Instr × Nat) := [(1053, .iaload, 1), (1054, .invokevirtual 133, 3), (1057, .pop, 1), (1058, .aload_n 2, 1), (1059, .aload_n 0, 1), (1060, .iload 4, 2), (1062, .iconst 1, 1), (1063, .iadd, 1), (1064, .iaload, 1), (1065, .aload_n 0, 1), (1066, .iload 4, 2), (1068, .iconst 2, 1), (1069, .iadd, 1), (1070, .iaload, 1), (1071, .aload_n 0, 1), (1072, .iload 4, 2), (1074, .iconst 3, 1), (1075, .iadd, 1), (1076, .iaload, 1), (1077, .invokevirtual 136, 3)]
theorem zddL_law_1053 : dqW lzddL_law_1053 (cL_law.data.toList.drop 1053) 1053 = true := by decide +kernel
theorem dL_law_1053 : decode cL_law 1053 = .ok (.iaload, 1) := dq_get (L := lzddL_law_1053) 0 rfl zddL_law_1053 rfl
theorem dL_law_1054 : decode cL_law 1054 = .ok (.invokevirtual 133, 3) := dq_get (L := lzddL_law_1053) 1 rfl zddL_law_1053 rfl
theorem dL_law_1057 : decode cL_law 1057 = .ok (.pop, 1) := dq_get (L := lzddL_law_1053) 2 rfl zddL_law_1053 rfl
theorem dL_law_1058 : decode cL_law 1058 = .ok (.aload_n 2, 1) := dq_get (L := lzddL_law_1053) 3 rfl zddL_law_1053 rfl
theorem dL_law_1059 : decode cL_law 1059 = .ok (.aload_n 0, 1) := dq_get (L := lzddL_law_1053) 4 rfl zddL_law_1053 rfl
theorem dL_law_1060 : decode cL_law 1060 = .ok (.iload 4, 2) := dq_get (L := lzddL_law_1053) 5 rfl zddL_law_1053 rfl
theorem dL_law_1062 : decode cL_law 1062 = .ok (.iconst 1, 1) := dq_get (L := lzddL_law_1053) 6 rfl zddL_law_1053 rfl
theorem dL_law_1063 : decode cL_law 1063 = .ok (.iadd, 1) := dq_get (L := lzddL_law_1053) 7 rfl zddL_law_1053 rfl
theorem dL_law_1064 : decode cL_law 1064 = .ok (.iaload, 1) := dq_get (L := lzddL_law_1053) 8 rfl zddL_law_1053 rfl
theorem dL_law_1065 : decode cL_law 1065 = .ok (.aload_n 0, 1) := dq_get (L := lzddL_law_1053) 9 rfl zddL_law_1053 rfl
theorem dL_law_1066 : decode cL_law 1066 = .ok (.iload 4, 2) := dq_get (L := lzddL_law_1053) 10 rfl zddL_law_1053 rfl
theorem dL_law_1068 : decode cL_law 1068 = .ok (.iconst 2, 1) := dq_get (L := lzddL_law_1053) 11 rfl zddL_law_1053 rfl
theorem dL_law_1069 : decode cL_law 1069 = .ok (.iadd, 1) := dq_get (L := lzddL_law_1053) 12 rfl zddL_law_1053 rfl
theorem dL_law_1070 : decode cL_law 1070 = .ok (.iaload, 1) := dq_get (L := lzddL_law_1053) 13 rfl zddL_law_1053 rfl
theorem dL_law_1071 : decode cL_law 1071 = .ok (.aload_n 0, 1) := dq_get (L := lzddL_law_1053) 14 rfl zddL_law_1053 rfl
theorem dL_law_1072 : decode cL_law 1072 = .ok (.iload 4, 2) := dq_get (L := lzddL_law_1053) 15 rfl zddL_law_1053 rfl
theorem dL_law_1074 : decode cL_law 1074 = .ok (.iconst 3, 1) := dq_get (L := lzddL_law_1053) 16 rfl zddL_law_1053 rfl
theorem dL_law_1075 : decode cL_law 1075 = .ok (.iadd, 1) := dq_get (L := lzddL_law_1053) 17 rfl zddL_law_1053 rfl
theorem dL_law_1076 : decode cL_law 1076 = .ok (.iaload, 1) := dq_get (L := lzddL_law_1053) 18 rfl zddL_law_1053 rfl
theorem dL_law_1077 : decode cL_law 1077 = .ok (.invokevirtual 136, 3) := dq_get (L := lzddL_law_1053) 19 rfl zddL_law_1053 rfl
def lzddL_law_1080 : List (Nat × Instr × Nat) := [(1080, .pop, 1), (1081, .goto 311, 3), (1084, .aload_n 1, 1), (1085, .aload_n 0, 1), (1086, .iload 4, 2), (1088, .iconst 1, 1), (1089, .iadd, 1), (1090, .iaload, 1), (1091, .aload_n 0, 1), (1092, .iload 4, 2), (1094, .iconst 2, 1), (1095, .iadd, 1), (1096, .iaload, 1), (1097, .ifCond .eq 7, 3), (1100, .iconst 1, 1), (1101, .goto 4, 3), (1104, .iconst 0, 1), (1105, .invokevirtual 137, 3), (1108, .pop, 1), (1109, .aload_n 2, 1)]
theorem zddL_law_1080 : dqW lzddL_law_1080 (cL_law.data.toList.drop 1080) 1080 = true := by decide +kernel
theorem dL_law_1080 : decode cL_law 1080 = .ok (.pop, 1) := dq_get (L := lzddL_law_1080) 0 rfl zddL_law_1080 rfl
theorem dL_law_1081 : decode cL_law 1081 = .ok (.goto 311, 3) := dq_get (L := lzddL_law_1080) 1 rfl zddL_law_1080 rfl
theorem dL_law_1084 : decode cL_law 1084 = .ok (.aload_n 1, 1) := dq_get (L := lzddL_law_1080) 2 rfl zddL_law_1080 rfl
theorem dL_law_1085 : decode cL_law 1085 = .ok (.aload_n 0, 1) := dq_get (L := lzddL_law_1080) 3 rfl zddL_law_1080 rfl
theorem dL_law_1086 : decode cL_law 1086 = .ok (.iload 4, 2) := dq_get (L := lzddL_law_1080) 4 rfl zddL_law_1080 rfl
theorem dL_law_1088 : decode cL_law 1088 = .ok (.iconst 1, 1) := dq_get (L := lzddL_law_1080) 5 rfl zddL_law_1080 rfl
theorem dL_law_1089 : decode cL_law 1089 = .ok (.iadd, 1) := dq_get (L := lzddL_law_1080) 6 rfl zddL_law_1080 rfl
theorem dL_law_1090 : decode cL_law 1090 = .ok (.iaload, 1) := dq_get (L := lzddL_law_1080) 7 rfl zddL_law_1080 rfl
theorem dL_law_1091 : decode cL_law 1091 = .ok (.aload_n 0, 1) := dq_get (L := lzddL_law_1080) 8 rfl zddL_law_1080 rfl
theorem dL_law_1092 : decode cL_law 1092 = .ok (.iload 4, 2) := dq_get (L := lzddL_law_1080) 9 rfl zddL_law_1080 rfl
theorem dL_law_1094 : decode cL_law 1094 = .ok (.iconst 2, 1) := dq_get (L := lzddL_law_1080) 10 rfl zddL_law_1080 rfl
theorem dL_law_1095 : decode cL_law 1095 = .ok (.iadd, 1) := dq_get (L := lzddL_law_1080) 11 rfl zddL_law_1080 rfl
theorem dL_law_1096 : decode cL_law 1096 = .ok (.iaload, 1) := dq_get (L := lzddL_law_1080) 12 rfl zddL_law_1080 rfl
theorem dL_law_1097 : decode cL_law 1097 = .ok (.ifCond .eq 7, 3) := dq_get (L := lzddL_law_1080) 13 rfl zddL_law_1080 rfl
theorem dL_law_1100 : decode cL_law 1100 = .ok (.iconst 1, 1) := dq_get (L := lzddL_law_1080) 14 rfl zddL_law_1080 rfl
theorem dL_law_1101 : decode cL_law 1101 = .ok (.goto 4, 3) := dq_get (L := lzddL_law_1080) 15 rfl zddL_law_1080 rfl
theorem dL_law_1104 : decode cL_law 1104 = .ok (.iconst 0, 1) := dq_get (L := lzddL_law_1080) 16 rfl zddL_law_1080 rfl
theorem dL_law_1105 : decode cL_law 1105 = .ok (.invokevirtual 137, 3) := dq_get (L := lzddL_law_1080) 17 rfl zddL_law_1080 rfl
theorem dL_law_1108 : decode cL_law 1108 = .ok (.pop, 1) := dq_get (L := lzddL_law_1080) 18 rfl zddL_law_1080 rfl
theorem dL_law_1109 : decode cL_law 1109 = .ok (.aload_n 2, 1) := dq_get (L := lzddL_law_1080) 19 rfl zddL_law_1080 rfl
def lzddL_law_1110 : List (Nat × Instr × Nat) := [(1110, .aload_n 0, 1), (1111, .iload 4, 2), (1113, .iconst 1, 1), (1114, .iadd, 1), (1115, .iaload, 1), (1116, .aload_n 0, 1), (1117, .iload 4, 2), (1119, .iconst 2, 1), (1120, .iadd, 1), (1121, .iaload, 1), (1122, .ifCond .eq 7, 3), (1125, .iconst 1, 1), (1126, .goto 4, 3), (1129, .iconst 0, 1), (1130, .invokevirtual 141, 3), (1133, .pop, 1), (1134, .goto 258, 3), (1137, .aload_n 1, 1), (1138, .invokevirtual 142, 3), (1141, .pop, 1)]
theorem zddL_law_1110 : dqW lzddL_law_1110 (cL_law.data.toList.drop 1110) 1110 = true := by decide +kernel
theorem dL_law_1110 : decode cL_law 1110 = .ok (.aload_n 0, 1) := dq_get (L := lzddL_law_1110) 0 rfl zddL_law_1110 rfl
theorem dL_law_1111 : decode cL_law 1111 = .ok (.iload 4, 2) := dq_get (L := lzddL_law_1110) 1 rfl zddL_law_1110 rfl
theorem dL_law_1113 : decode cL_law 1113 = .ok (.iconst 1, 1) := dq_get (L := lzddL_law_1110) 2 rfl zddL_law_1110 rfl
theorem dL_law_1114 : decode cL_law 1114 = .ok (.iadd, 1) := dq_get (L := lzddL_law_1110) 3 rfl zddL_law_1110 rfl
theorem dL_law_1115 : decode cL_law 1115 = .ok (.iaload, 1) := dq_get (L := lzddL_law_1110) 4 rfl zddL_law_1110 rfl
theorem dL_law_1116 : decode cL_law 1116 = .ok (.aload_n 0, 1) := dq_get (L := lzddL_law_1110) 5 rfl zddL_law_1110 rfl
theorem dL_law_1117 : decode cL_law 1117 = .ok (.iload 4, 2) := dq_get (L := lzddL_law_1110) 6 rfl zddL_law_1110 rfl
theorem dL_law_1119 : decode cL_law 1119 = .ok (.iconst 2, 1) := dq_get (L := lzddL_law_1110) 7 rfl zddL_law_1110 rfl
theorem dL_law_1120 : decode cL_law 1120 = .ok (.iadd, 1) := dq_get (L := lzddL_law_1110) 8 rfl zddL_law_1110 rfl
theorem dL_law_1121 : decode cL_law 1121 = .ok (.iaload, 1) := dq_get (L := lzddL_law_1110) 9 rfl zddL_law_1110 rfl
theorem dL_law_1122 : decode cL_law 1122 = .ok (.ifCond .eq 7, 3) := dq_get (L := lzddL_law_1110) 10 rfl zddL_law_1110 rfl
theorem dL_law_1125 : decode cL_law 1125 = .ok (.iconst 1, 1) := dq_get (L := lzddL_law_1110) 11 rfl zddL_law_1110 rfl
theorem dL_law_1126 : decode cL_law 1126 = .ok (.goto 4, 3) := dq_get (L := lzddL_law_1110) 12 rfl zddL_law_1110 rfl
theorem dL_law_1129 : decode cL_law 1129 = .ok (.iconst 0, 1) := dq_get (L := lzddL_law_1110) 13 rfl zddL_law_1110 rfl
theorem dL_law_1130 : decode cL_law 1130 = .ok (.invokevirtual 141, 3) := dq_get (L := lzddL_law_1110) 14 rfl zddL_law_1110 rfl
theorem dL_law_1133 : decode cL_law 1133 = .ok (.pop, 1) := dq_get (L := lzddL_law_1110) 15 rfl zddL_law_1110 rfl
theorem dL_law_1134 : decode cL_law 1134 = .ok (.goto 258, 3) := dq_get (L := lzddL_law_1110) 16 rfl zddL_law_1110 rfl
theorem dL_law_1137 : decode cL_law 1137 = .ok (.aload_n 1, 1) := dq_get (L := lzddL_law_1110) 17 rfl zddL_law_1110 rfl
theorem dL_law_1138 : decode cL_law 1138 = .ok (.invokevirtual 142, 3) := dq_get (L := lzddL_law_1110) 18 rfl zddL_law_1110 rfl
theorem dL_law_1141 : decode cL_law 1141 = .ok (.pop, 1) := dq_get (L := lzddL_law_1110) 19 rfl zddL_law_1110 rfl
def lzddL_law_1142 : List (Nat × Instr × Nat) := [(1142, .aload_n 2, 1), (1143, .invokevirtual 145, 3), (1146, .pop, 1), (1147, .goto 245, 3), (1150, .aload_n 1, 1), (1151, .aload_n 0, 1), (1152, .iload 4, 2), (1154, .iconst 1, 1), (1155, .iadd, 1), (1156, .iaload, 1), (1157, .aload_n 0, 1), (1158, .iload 4, 2), (1160, .iconst 2, 1), (1161, .iadd, 1), (1162, .iaload, 1), (1163, .invokevirtual 146, 3), (1166, .pop, 1), (1167, .aload_n 2, 1), (1168, .aload_n 0, 1), (1169, .iload 4, 2)]
theorem zddL_law_1142 : dqW lzddL_law_1142 (cL_law.data.toList.drop 1142) 1142 = true := by decide +kernel
theorem dL_law_1142 : decode cL_law 1142 = .ok (.aload_n 2, 1) := dq_get (L := lzddL_law_1142) 0 rfl zddL_law_1142 rfl
theorem dL_law_1143 : decode cL_law 1143 = .ok (.invokevirtual 145, 3) := dq_get (L := lzddL_law_1142) 1 rfl zddL_law_1142 rfl
theorem dL_law_1146 : decode cL_law 1146 = .ok (.pop, 1) := dq_get (L := lzddL_law_1142) 2 rfl zddL_law_1142 rfl
theorem dL_law_1147 : decode cL_law 1147 = .ok (.goto 245, 3) := dq_get (L := lzddL_law_1142) 3 rfl zddL_law_1142 rfl
theorem dL_law_1150 : decode cL_law 1150 = .ok (.aload_n 1, 1) := dq_get (L := lzddL_law_1142) 4 rfl zddL_law_1142 rfl
theorem dL_law_1151 : decode cL_law 1151 = .ok (.aload_n 0, 1) := dq_get (L := lzddL_law_1142) 5 rfl zddL_law_1142 rfl
theorem dL_law_1152 : decode cL_law 1152 = .ok (.iload 4, 2) := dq_get (L := lzddL_law_1142) 6 rfl zddL_law_1142 rfl
theorem dL_law_1154 : decode cL_law 1154 = .ok (.iconst 1, 1) := dq_get (L := lzddL_law_1142) 7 rfl zddL_law_1142 rfl
theorem dL_law_1155 : decode cL_law 1155 = .ok (.iadd, 1) := dq_get (L := lzddL_law_1142) 8 rfl zddL_law_1142 rfl
theorem dL_law_1156 : decode cL_law 1156 = .ok (.iaload, 1) := dq_get (L := lzddL_law_1142) 9 rfl zddL_law_1142 rfl
theorem dL_law_1157 : decode cL_law 1157 = .ok (.aload_n 0, 1) := dq_get (L := lzddL_law_1142) 10 rfl zddL_law_1142 rfl
theorem dL_law_1158 : decode cL_law 1158 = .ok (.iload 4, 2) := dq_get (L := lzddL_law_1142) 11 rfl zddL_law_1142 rfl
theorem dL_law_1160 : decode cL_law 1160 = .ok (.iconst 2, 1) := dq_get (L := lzddL_law_1142) 12 rfl zddL_law_1142 rfl
theorem dL_law_1161 : decode cL_law 1161 = .ok (.iadd, 1) := dq_get (L := lzddL_law_1142) 13 rfl zddL_law_1142 rfl
theorem dL_law_1162 : decode cL_law 1162 = .ok (.iaload, 1) := dq_get (L := lzddL_law_1142) 14 rfl zddL_law_1142 rfl
theorem dL_law_1163 : decode cL_law 1163 = .ok (.invokevirtual 146, 3) := dq_get (L := lzddL_law_1142) 15 rfl zddL_law_1142 rfl
theorem dL_law_1166 : decode cL_law 1166 = .ok (.pop, 1) := dq_get (L := lzddL_law_1142) 16 rfl zddL_law_1142 rfl
theorem dL_law_1167 : decode cL_law 1167 = .ok (.aload_n 2, 1) := dq_get (L := lzddL_law_1142) 17 rfl zddL_law_1142 rfl
theorem dL_law_1168 : decode cL_law 1168 = .ok (.aload_n 0, 1) := dq_get (L := lzddL_law_1142) 18 rfl zddL_law_1142 rfl
theorem dL_law_1169 : decode cL_law 1169 = .ok (.iload 4, 2) := dq_get (L := lzddL_law_1142) 19 rfl zddL_law_1142 rfl
def lzddL_law_1171 : List (Nat × Instr × Nat) := [(1171, .iconst 1, 1), (1172, .iadd, 1), (1173, .iaload, 1), (1174, .aload_n 0, 1), (1175, .iload 4, 2), (1177, .iconst 2, 1), (1178, .iadd, 1), (1179, .iaload, 1), (1180, .invokevirtual 150, 3), (1183, .pop, 1), (1184, .goto 208, 3), (1187, .aload_n 1, 1), (1188, .invokevirtual 151, 3), (1191, .pop, 1), (1192, .aload_n 2, 1), (1193, .invokevirtual 154, 3), (1196, .pop, 1), (1197, .goto 195, 3), (1200, .aload_n 1, 1), (1201, .invokevirtual 155, 3)]
theorem zddL_law_1171 : dqW lzddL_law_1171 (cL_law.data.toList.drop 1171) 1171 = true := by decide +kernel
theorem dL_law_1171 : decode cL_law 1171 = .ok (.iconst 1, 1) := dq_get (L := lzddL_law_1171) 0 rfl zddL_law_1171 rfl
theorem dL_law_1172 : decode cL_law 1172 = .ok (.iadd, 1) := dq_get (L := lzddL_law_1171) 1 rfl zddL_law_1171 rfl
theorem dL_law_1173 : decode cL_law 1173 = .ok (.iaload, 1) := dq_get (L := lzddL_law_1171) 2 rfl zddL_law_1171 rfl
theorem dL_law_1174 : decode cL_law 1174 = .ok (.aload_n 0, 1) := dq_get (L := lzddL_law_1171) 3 rfl zddL_law_1171 rfl
theorem dL_law_1175 : decode cL_law 1175 = .ok (.iload 4, 2) := dq_get (L := lzddL_law_1171) 4 rfl zddL_law_1171 rfl
theorem dL_law_1177 : decode cL_law 1177 = .ok (.iconst 2, 1) := dq_get (L := lzddL_law_1171) 5 rfl zddL_law_1171 rfl
theorem dL_law_1178 : decode cL_law 1178 = .ok (.iadd, 1) := dq_get (L := lzddL_law_1171) 6 rfl zddL_law_1171 rfl
theorem dL_law_1179 : decode cL_law 1179 = .ok (.iaload, 1) := dq_get (L := lzddL_law_1171) 7 rfl zddL_law_1171 rfl
theorem dL_law_1180 : decode cL_law 1180 = .ok (.invokevirtual 150, 3) := dq_get (L := lzddL_law_1171) 8 rfl zddL_law_1171 rfl
theorem dL_law_1183 : decode cL_law 1183 = .ok (.pop, 1) := dq_get (L := lzddL_law_1171) 9 rfl zddL_law_1171 rfl
theorem dL_law_1184 : decode cL_law 1184 = .ok (.goto 208, 3) := dq_get (L := lzddL_law_1171) 10 rfl zddL_law_1171 rfl
theorem dL_law_1187 : decode cL_law 1187 = .ok (.aload_n 1, 1) := dq_get (L := lzddL_law_1171) 11 rfl zddL_law_1171 rfl
theorem dL_law_1188 : decode cL_law 1188 = .ok (.invokevirtual 151, 3) := dq_get (L := lzddL_law_1171) 12 rfl zddL_law_1171 rfl
theorem dL_law_1191 : decode cL_law 1191 = .ok (.pop, 1) := dq_get (L := lzddL_law_1171) 13 rfl zddL_law_1171 rfl
theorem dL_law_1192 : decode cL_law 1192 = .ok (.aload_n 2, 1) := dq_get (L := lzddL_law_1171) 14 rfl zddL_law_1171 rfl
theorem dL_law_1193 : decode cL_law 1193 = .ok (.invokevirtual 154, 3) := dq_get (L := lzddL_law_1171) 15 rfl zddL_law_1171 rfl
theorem dL_law_1196 : decode cL_law 1196 = .ok (.pop, 1) := dq_get (L := lzddL_law_1171) 16 rfl zddL_law_1171 rfl
theorem dL_law_1197 : decode cL_law 1197 = .ok (.goto 195, 3) := dq_get (L := lzddL_law_1171) 17 rfl zddL_law_1171 rfl
theorem dL_law_1200 : decode cL_law 1200 = .ok (.aload_n 1, 1) := dq_get (L := lzddL_law_1171) 18 rfl zddL_law_1171 rfl
theorem dL_law_1201 : decode cL_law 1201 = .ok (.invokevirtual 155, 3) := dq_get (L := lzddL_law_1171) 19 rfl zddL_law_1171 rfl
def lzddL_law_1204 : List (Nat × Instr × Nat) := [(1204, .pop, 1), (1205, .aload_n 2, 1), (1206, .invokevirtual 159, 3), (1209, .pop, 1), (1210, .goto 182, 3), (1213, .aload_n 1, 1), (1214, .aload_n 0, 1), (1215, .iload 4, 2), (1217, .iconst 1, 1), (1218, .iadd, 1), (1219, .iaload, 1), (1220, .invokevirtual 160, 3), (1223, .aload_n 2, 1), (1224, .aload_n 0, 1), (1225, .iload 4, 2), (1227, .iconst 1, 1), (1228, .iadd, 1), (1229, .iaload, 1), (1230, .invokevirtual 164, 3), (1233, .if_icmp .eq 159, 3)]
theorem zddL_law_1204 : dqW lzddL_law_1204 (cL_law.data.toList.drop 1204) 1204 = true := by decide +kernel
theorem dL_law_1204 : decode cL_law 1204 = .ok (.pop, 1) := dq_get (L := lzddL_law_1204) 0 rfl zddL_law_1204 rfl
theorem dL_law_1205 : decode cL_law 1205 = .ok (.aload_n 2, 1) := dq_get (L := lzddL_law_1204) 1 rfl zddL_law_1204 rfl
theorem dL_law_1206 : decode cL_law 1206 = .ok (.invokevirtual 159, 3) := dq_get (L := lzddL_law_1204) 2 rfl zddL_law_1204 rfl
theorem dL_law_1209 : decode cL_law 1209 = .ok (.pop, 1) := dq_get (L := lzddL_law_1204) 3 rfl zddL_law_1204 rfl
theorem dL_law_1210 : decode cL_law 1210 = .ok (.goto 182, 3) := dq_get (L := lzddL_law_1204) 4 rfl zddL_law_1204 rfl
theorem dL_law_1213 : decode cL_law 1213 = .ok (.aload_n 1, 1) := dq_get (L := lzddL_law_1204) 5 rfl zddL_law_1204 rfl
theorem dL_law_1214 : decode cL_law 1214 = .ok (.aload_n 0, 1) := dq_get (L := lzddL_law_1204) 6 rfl zddL_law_1204 rfl
theorem dL_law_1215 : decode cL_law 1215 = .ok (.iload 4, 2) := dq_get (L := lzddL_law_1204) 7 rfl zddL_law_1204 rfl
theorem dL_law_1217 : decode cL_law 1217 = .ok (.iconst 1, 1) := dq_get (L := lzddL_law_1204) 8 rfl zddL_law_1204 rfl
theorem dL_law_1218 : decode cL_law 1218 = .ok (.iadd, 1) := dq_get (L := lzddL_law_1204) 9 rfl zddL_law_1204 rfl
theorem dL_law_1219 : decode cL_law 1219 = .ok (.iaload, 1) := dq_get (L := lzddL_law_1204) 10 rfl zddL_law_1204 rfl
theorem dL_law_1220 : decode cL_law 1220 = .ok (.invokevirtual 160, 3) := dq_get (L := lzddL_law_1204) 11 rfl zddL_law_1204 rfl
theorem dL_law_1223 : decode cL_law 1223 = .ok (.aload_n 2, 1) := dq_get (L := lzddL_law_1204) 12 rfl zddL_law_1204 rfl
theorem dL_law_1224 : decode cL_law 1224 = .ok (.aload_n 0, 1) := dq_get (L := lzddL_law_1204) 13 rfl zddL_law_1204 rfl
theorem dL_law_1225 : decode cL_law 1225 = .ok (.iload 4, 2) := dq_get (L := lzddL_law_1204) 14 rfl zddL_law_1204 rfl
theorem dL_law_1227 : decode cL_law 1227 = .ok (.iconst 1, 1) := dq_get (L := lzddL_law_1204) 15 rfl zddL_law_1204 rfl
theorem dL_law_1228 : decode cL_law 1228 = .ok (.iadd, 1) := dq_get (L := lzddL_law_1204) 16 rfl zddL_law_1204 rfl
theorem dL_law_1229 : decode cL_law 1229 = .ok (.iaload, 1) := dq_get (L := lzddL_law_1204) 17 rfl zddL_law_1204 rfl
theorem dL_law_1230 : decode cL_law 1230 = .ok (.invokevirtual 164, 3) := dq_get (L := lzddL_law_1204) 18 rfl zddL_law_1204 rfl
theorem dL_law_1233 : decode cL_law 1233 = .ok (.if_icmp .eq 159, 3) := dq_get (L := lzddL_law_1204) 19 rfl zddL_law_1204 rfl
def lzddL_law_1236 : List (Nat × Instr × Nat) := [(1236, .iconst 0, 1), (1237, .ireturn, 1), (1238, .aload_n 1, 1), (1239, .invokevirtual 165, 3), (1242, .pop, 1), (1243, .aload_n 2, 1), (1244, .invokevirtual 168, 3), (1247, .pop, 1), (1248, .goto 144, 3), (1251, .aload_n 1, 1), (1252, .invokevirtual 169, 3), (1255, .pop, 1), (1256, .aload_n 2, 1), (1257, .invokevirtual 172, 3), (1260, .pop, 1), (1261, .goto 131, 3), (1264, .aload_n 1, 1), (1265, .aload_n 0, 1), (1266, .iload 4, 2), (1268, .iconst 1, 1)]
theorem zddL_law_1236 : dqW lzddL_law_1236 (cL_law.data.toList.drop 1236) 1236 = true := by decide +kernel
theorem dL_law_1238 : decode cL_law 1238 = .ok (.aload_n 1, 1) := dq_get (L := lzddL_law_1236) 2 rfl zddL_law_1236 rfl
theorem dL_law_1239 : decode cL_law 1239 = .ok (.invokevirtual 165, 3) := dq_get (L := lzddL_law_1236) 3 rfl zddL_law_1236 rfl
theorem dL_law_1242 : decode cL_law 1242 = .ok (.pop, 1) := dq_get (L := lzddL_law_1236) 4 rfl zddL_law_1236 rfl
theorem dL_law_1243 : decode cL_law 1243 = .ok (.aload_n 2, 1) := dq_get (L := lzddL_law_1236) 5 rfl zddL_law_1236 rfl
theorem dL_law_1244 : decode cL_law 1244 = .ok (.invokevirtual 168, 3) := dq_get (L := lzddL_law_1236) 6 rfl zddL_law_1236 rfl
theorem dL_law_1247 : decode cL_law 1247 = .ok (.pop, 1) := dq_get (L := lzddL_law_1236) 7 rfl zddL_law_1236 rfl
theorem dL_law_1248 : decode cL_law 1248 = .ok (.goto 144, 3) := dq_get (L := lzddL_law_1236) 8 rfl zddL_law_1236 rfl
theorem dL_law_1251 : decode cL_law 1251 = .ok (.aload_n 1, 1) := dq_get (L := lzddL_law_1236) 9 rfl zddL_law_1236 rfl
theorem dL_law_1252 : decode cL_law 1252 = .ok (.invokevirtual 169, 3) := dq_get (L := lzddL_law_1236) 10 rfl zddL_law_1236 rfl
theorem dL_law_1255 : decode cL_law 1255 = .ok (.pop, 1) := dq_get (L := lzddL_law_1236) 11 rfl zddL_law_1236 rfl
theorem dL_law_1256 : decode cL_law 1256 = .ok (.aload_n 2, 1) := dq_get (L := lzddL_law_1236) 12 rfl zddL_law_1236 rfl
theorem dL_law_1257 : decode cL_law 1257 = .ok (.invokevirtual 172, 3) := dq_get (L := lzddL_law_1236) 13 rfl zddL_law_1236 rfl
theorem dL_law_1260 : decode cL_law 1260 = .ok (.pop, 1) := dq_get (L := lzddL_law_1236) 14 rfl zddL_law_1236 rfl
theorem dL_law_1261 : decode cL_law 1261 = .ok (.goto 131, 3) := dq_get (L := lzddL_law_1236) 15 rfl zddL_law_1236 rfl
theorem dL_law_1264 : decode cL_law 1264 = .ok (.aload_n 1, 1) := dq_get (L := lzddL_law_1236) 16 rfl zddL_law_1236 rfl
theorem dL_law_1265 : decode cL_law 1265 = .ok (.aload_n 0, 1) := dq_get (L := lzddL_law_1236) 17 rfl zddL_law_1236 rfl
theorem dL_law_1266 : decode cL_law 1266 = .ok (.iload 4, 2) := dq_get (L := lzddL_law_1236) 18 rfl zddL_law_1236 rfl
theorem dL_law_1268 : decode cL_law 1268 = .ok (.iconst 1, 1) := dq_get (L := lzddL_law_1236) 19 rfl zddL_law_1236 rfl
def lzddL_law_1269 : List (Nat × Instr × Nat) := [(1269, .iadd, 1), (1270, .iaload, 1), (1271, .invokevirtual 173, 3), (1274, .pop, 1), (1275, .aload_n 2, 1), (1276, .aload_n 0, 1), (1277, .iload 4, 2), (1279, .iconst 1, 1), (1280, .iadd, 1), (1281, .iaload, 1), (1282, .invokevirtual 176, 3), (1285, .pop, 1), (1286, .goto 106, 3), (1289, .aload_n 1, 1), (1290, .aload_n 0, 1), (1291, .iload 4, 2), (1293, .iconst 1, 1), (1294, .iadd, 1), (1295, .iaload, 1), (1296, .aload_n 0, 1)]
theorem zddL_law_1269 : dqW lzddL_law_1269 (cL_law.data.toList.drop 1269) 1269 = true := by decide +kernel
theorem dL_law_1269 : decode cL_law 1269 = .ok (.iadd, 1) := dq_get (L := lzddL_law_1269) 0 rfl zddL_law_1269 rfl
theorem dL_law_1270 : decode cL_law 1270 = .ok (.iaload, 1) := dq_get (L := lzddL_law_1269) 1 rfl zddL_law_1269 rfl
theorem dL_law_1271 : decode cL_law 1271 = .ok (.invokevirtual 173, 3) := dq_get (L := lzddL_law_1269) 2 rfl zddL_law_1269 rfl
theorem dL_law_1274 : decode cL_law 1274 = .ok (.pop, 1) := dq_get (L := lzddL_law_1269) 3 rfl zddL_law_1269 rfl
theorem dL_law_1275 : decode cL_law 1275 = .ok (.aload_n 2, 1) := dq_get (L := lzddL_law_1269) 4 rfl zddL_law_1269 rfl
theorem dL_law_1276 : decode cL_law 1276 = .ok (.aload_n 0, 1) := dq_get (L := lzddL_law_1269) 5 rfl zddL_law_1269 rfl
theorem dL_law_1277 : decode cL_law 1277 = .ok (.iload 4, 2) := dq_get (L := lzddL_law_1269) 6 rfl zddL_law_1269 rfl
theorem dL_law_1279 : decode cL_law 1279 = .ok (.iconst 1, 1) := dq_get (L := lzddL_law_1269) 7 rfl zddL_law_1269 rfl
theorem dL_law_1280 : decode cL_law 1280 = .ok (.iadd, 1) := dq_get (L := lzddL_law_1269) 8 rfl zddL_law_1269 rfl
theorem dL_law_1281 : decode cL_law 1281 = .ok (.iaload, 1) := dq_get (L := lzddL_law_1269) 9 rfl zddL_law_1269 rfl
theorem dL_law_1282 : decode cL_law 1282 = .ok (.invokevirtual 176, 3) := dq_get (L := lzddL_law_1269) 10 rfl zddL_law_1269 rfl
theorem dL_law_1285 : decode cL_law 1285 = .ok (.pop, 1) := dq_get (L := lzddL_law_1269) 11 rfl zddL_law_1269 rfl
theorem dL_law_1286 : decode cL_law 1286 = .ok (.goto 106, 3) := dq_get (L := lzddL_law_1269) 12 rfl zddL_law_1269 rfl
theorem dL_law_1289 : decode cL_law 1289 = .ok (.aload_n 1, 1) := dq_get (L := lzddL_law_1269) 13 rfl zddL_law_1269 rfl
theorem dL_law_1290 : decode cL_law 1290 = .ok (.aload_n 0, 1) := dq_get (L := lzddL_law_1269) 14 rfl zddL_law_1269 rfl
theorem dL_law_1291 : decode cL_law 1291 = .ok (.iload 4, 2) := dq_get (L := lzddL_law_1269) 15 rfl zddL_law_1269 rfl
theorem dL_law_1293 : decode cL_law 1293 = .ok (.iconst 1, 1) := dq_get (L := lzddL_law_1269) 16 rfl zddL_law_1269 rfl
theorem dL_law_1294 : decode cL_law 1294 = .ok (.iadd, 1) := dq_get (L := lzddL_law_1269) 17 rfl zddL_law_1269 rfl
theorem dL_law_1295 : decode cL_law 1295 = .ok (.iaload, 1) := dq_get (L := lzddL_law_1269) 18 rfl zddL_law_1269 rfl
theorem dL_law_1296 : decode cL_law 1296 = .ok (.aload_n 0, 1) := dq_get (L := lzddL_law_1269) 19 rfl zddL_law_1269 rfl
def lzddL_law_1297 : List (Nat × Instr × Nat) := [(1297, .iload 4, 2), (1299, .iconst 2, 1), (1300, .iadd, 1), (1301, .iaload, 1), (1302, .invokevirtual 177, 3), (1305, .pop, 1), (1306, .aload_n 2, 1), (1307, .aload_n 0, 1), (1308, .iload 4, 2), (1310, .iconst 1, 1), (1311, .iadd, 1), (1312, .iaload, 1), (1313, .aload_n 0, 1), (1314, .iload 4, 2), (1316, .iconst 2, 1), (1317, .iadd, 1), (1318, .iaload, 1), (1319, .invokevirtual 180, 3), (1322, .pop, 1), (1323, .goto 69, 3)]
theorem zddL_law_1297 : dqW lzddL_law_1297 (cL_law.data.toList.drop 1297) 1297 = true := by decide +kernel
theorem dL_law_1297 : decode cL_law 1297 = .ok (.iload 4, 2) := dq_get (L := lzddL_law_1297) 0 rfl zddL_law_1297 rfl
theorem dL_law_1299 : decode cL_law 1299 = .ok (.iconst 2, 1) := dq_get (L := lzddL_law_1297) 1 rfl zddL_law_1297 rfl
theorem dL_law_1300 : decode cL_law 1300 = .ok (.iadd, 1) := dq_get (L := lzddL_law_1297) 2 rfl zddL_law_1297 rfl
theorem dL_law_1301 : decode cL_law 1301 = .ok (.iaload, 1) := dq_get (L := lzddL_law_1297) 3 rfl zddL_law_1297 rfl
theorem dL_law_1302 : decode cL_law 1302 = .ok (.invokevirtual 177, 3) := dq_get (L := lzddL_law_1297) 4 rfl zddL_law_1297 rfl
theorem dL_law_1305 : decode cL_law 1305 = .ok (.pop, 1) := dq_get (L := lzddL_law_1297) 5 rfl zddL_law_1297 rfl
theorem dL_law_1306 : decode cL_law 1306 = .ok (.aload_n 2, 1) := dq_get (L := lzddL_law_1297) 6 rfl zddL_law_1297 rfl
theorem dL_law_1307 : decode cL_law 1307 = .ok (.aload_n 0, 1) := dq_get (L := lzddL_law_1297) 7 rfl zddL_law_1297 rfl
theorem dL_law_1308 : decode cL_law 1308 = .ok (.iload 4, 2) := dq_get (L := lzddL_law_1297) 8 rfl zddL_law_1297 rfl
theorem dL_law_1310 : decode cL_law 1310 = .ok (.iconst 1, 1) := dq_get (L := lzddL_law_1297) 9 rfl zddL_law_1297 rfl
theorem dL_law_1311 : decode cL_law 1311 = .ok (.iadd, 1) := dq_get (L := lzddL_law_1297) 10 rfl zddL_law_1297 rfl
theorem dL_law_1312 : decode cL_law 1312 = .ok (.iaload, 1) := dq_get (L := lzddL_law_1297) 11 rfl zddL_law_1297 rfl
theorem dL_law_1313 : decode cL_law 1313 = .ok (.aload_n 0, 1) := dq_get (L := lzddL_law_1297) 12 rfl zddL_law_1297 rfl
theorem dL_law_1314 : decode cL_law 1314 = .ok (.iload 4, 2) := dq_get (L := lzddL_law_1297) 13 rfl zddL_law_1297 rfl
theorem dL_law_1316 : decode cL_law 1316 = .ok (.iconst 2, 1) := dq_get (L := lzddL_law_1297) 14 rfl zddL_law_1297 rfl
theorem dL_law_1317 : decode cL_law 1317 = .ok (.iadd, 1) := dq_get (L := lzddL_law_1297) 15 rfl zddL_law_1297 rfl
theorem dL_law_1318 : decode cL_law 1318 = .ok (.iaload, 1) := dq_get (L := lzddL_law_1297) 16 rfl zddL_law_1297 rfl
theorem dL_law_1319 : decode cL_law 1319 = .ok (.invokevirtual 180, 3) := dq_get (L := lzddL_law_1297) 17 rfl zddL_law_1297 rfl
theorem dL_law_1322 : decode cL_law 1322 = .ok (.pop, 1) := dq_get (L := lzddL_law_1297) 18 rfl zddL_law_1297 rfl
theorem dL_law_1323 : decode cL_law 1323 = .ok (.goto 69, 3) := dq_get (L := lzddL_law_1297) 19 rfl zddL_law_1297 rfl
def lzddL_law_1326 : List (Nat × Instr × Nat) := [(1326, .aload_n 1, 1), (1327, .aload_n 0, 1), (1328, .iload 4, 2), (1330, .iconst 1, 1), (1331, .iadd, 1), (1332, .iaload, 1), (1333, .aload_n 3, 1), (1334, .invokestatic 181, 3), (1337, .istore 5, 2), (1339, .aload_n 2, 1), (1340, .aload_n 0, 1), (1341, .iload 4, 2), (1343, .iconst 1, 1), (1344, .iadd, 1), (1345, .iaload, 1), (1346, .invokevirtual 186, 3), (1349, .istore 6, 2), (1351, .goto 41, 3), (1354, .aload_n 1, 1), (1355, .aload_n 0, 1)]
theorem zddL_law_1326 : dqW lzddL_law_1326 (cL_law.data.toList.drop 1326) 1326 = true := by decide +kernel
theorem dL_law_1326 : decode cL_law 1326 = .ok (.aload_n 1, 1) := dq_get (L := lzddL_law_1326) 0 rfl zddL_law_1326 rfl
theorem dL_law_1327 : decode cL_law 1327 = .ok (.aload_n 0, 1) := dq_get (L := lzddL_law_1326) 1 rfl zddL_law_1326 rfl
theorem dL_law_1328 : decode cL_law 1328 = .ok (.iload 4, 2) := dq_get (L := lzddL_law_1326) 2 rfl zddL_law_1326 rfl
theorem dL_law_1330 : decode cL_law 1330 = .ok (.iconst 1, 1) := dq_get (L := lzddL_law_1326) 3 rfl zddL_law_1326 rfl
theorem dL_law_1331 : decode cL_law 1331 = .ok (.iadd, 1) := dq_get (L := lzddL_law_1326) 4 rfl zddL_law_1326 rfl
theorem dL_law_1332 : decode cL_law 1332 = .ok (.iaload, 1) := dq_get (L := lzddL_law_1326) 5 rfl zddL_law_1326 rfl
theorem dL_law_1333 : decode cL_law 1333 = .ok (.aload_n 3, 1) := dq_get (L := lzddL_law_1326) 6 rfl zddL_law_1326 rfl
theorem dL_law_1334 : decode cL_law 1334 = .ok (.invokestatic 181, 3) := dq_get (L := lzddL_law_1326) 7 rfl zddL_law_1326 rfl
theorem dL_law_1337 : decode cL_law 1337 = .ok (.istore 5, 2) := dq_get (L := lzddL_law_1326) 8 rfl zddL_law_1326 rfl
theorem dL_law_1339 : decode cL_law 1339 = .ok (.aload_n 2, 1) := dq_get (L := lzddL_law_1326) 9 rfl zddL_law_1326 rfl
theorem dL_law_1340 : decode cL_law 1340 = .ok (.aload_n 0, 1) := dq_get (L := lzddL_law_1326) 10 rfl zddL_law_1326 rfl
theorem dL_law_1341 : decode cL_law 1341 = .ok (.iload 4, 2) := dq_get (L := lzddL_law_1326) 11 rfl zddL_law_1326 rfl
theorem dL_law_1343 : decode cL_law 1343 = .ok (.iconst 1, 1) := dq_get (L := lzddL_law_1326) 12 rfl zddL_law_1326 rfl
theorem dL_law_1344 : decode cL_law 1344 = .ok (.iadd, 1) := dq_get (L := lzddL_law_1326) 13 rfl zddL_law_1326 rfl
theorem dL_law_1345 : decode cL_law 1345 = .ok (.iaload, 1) := dq_get (L := lzddL_law_1326) 14 rfl zddL_law_1326 rfl
theorem dL_law_1346 : decode cL_law 1346 = .ok (.invokevirtual 186, 3) := dq_get (L := lzddL_law_1326) 15 rfl zddL_law_1326 rfl
theorem dL_law_1349 : decode cL_law 1349 = .ok (.istore 6, 2) := dq_get (L := lzddL_law_1326) 16 rfl zddL_law_1326 rfl
theorem dL_law_1351 : decode cL_law 1351 = .ok (.goto 41, 3) := dq_get (L := lzddL_law_1326) 17 rfl zddL_law_1326 rfl
theorem dL_law_1354 : decode cL_law 1354 = .ok (.aload_n 1, 1) := dq_get (L := lzddL_law_1326) 18 rfl zddL_law_1326 rfl
theorem dL_law_1355 : decode cL_law 1355 = .ok (.aload_n 0, 1) := dq_get (L := lzddL_law_1326) 19 rfl zddL_law_1326 rfl
def lzddL_law_1356 : List (Nat × Instr × Nat) := [(1356, .iload 4, 2), (1358, .iconst 1, 1), (1359, .iadd, 1), (1360, .iaload, 1), (1361, .invokevirtual 187, 3), (1364, .pop, 1), (1365, .aload_n 2, 1), (1366, .aload_n 0, 1), (1367, .iload 4, 2), (1369, .iconst 1, 1), (1370, .iadd, 1), (1371, .iaload, 1), (1372, .invokevirtual 190, 3), (1375, .pop, 1), (1376, .goto 16, 3), (1379, .aload_n 1, 1), (1380, .invokevirtual 191, 3), (1383, .pop, 1), (1384, .aload_n 2, 1), (1385, .invokevirtual 194, 3)]
theorem zddL_law_1356 : dqW lzddL_law_1356 (cL_law.data.toList.drop 1356) 1356 = true := by decide +kernel
theorem dL_law_1356 : decode cL_law 1356 = .ok (.iload 4, 2) := dq_get (L := lzddL_law_1356) 0 rfl zddL_law_1356 rfl
theorem dL_law_1358 : decode cL_law 1358 = .ok (.iconst 1, 1) := dq_get (L := lzddL_law_1356) 1 rfl zddL_law_1356 rfl
theorem dL_law_1359 : decode cL_law 1359 = .ok (.iadd, 1) := dq_get (L := lzddL_law_1356) 2 rfl zddL_law_1356 rfl
theorem dL_law_1360 : decode cL_law 1360 = .ok (.iaload, 1) := dq_get (L := lzddL_law_1356) 3 rfl zddL_law_1356 rfl
theorem dL_law_1361 : decode cL_law 1361 = .ok (.invokevirtual 187, 3) := dq_get (L := lzddL_law_1356) 4 rfl zddL_law_1356 rfl
theorem dL_law_1364 : decode cL_law 1364 = .ok (.pop, 1) := dq_get (L := lzddL_law_1356) 5 rfl zddL_law_1356 rfl
theorem dL_law_1365 : decode cL_law 1365 = .ok (.aload_n 2, 1) := dq_get (L := lzddL_law_1356) 6 rfl zddL_law_1356 rfl
theorem dL_law_1366 : decode cL_law 1366 = .ok (.aload_n 0, 1) := dq_get (L := lzddL_law_1356) 7 rfl zddL_law_1356 rfl
theorem dL_law_1367 : decode cL_law 1367 = .ok (.iload 4, 2) := dq_get (L := lzddL_law_1356) 8 rfl zddL_law_1356 rfl
theorem dL_law_1369 : decode cL_law 1369 = .ok (.iconst 1, 1) := dq_get (L := lzddL_law_1356) 9 rfl zddL_law_1356 rfl
theorem dL_law_1370 : decode cL_law 1370 = .ok (.iadd, 1) := dq_get (L := lzddL_law_1356) 10 rfl zddL_law_1356 rfl
theorem dL_law_1371 : decode cL_law 1371 = .ok (.iaload, 1) := dq_get (L := lzddL_law_1356) 11 rfl zddL_law_1356 rfl
theorem dL_law_1372 : decode cL_law 1372 = .ok (.invokevirtual 190, 3) := dq_get (L := lzddL_law_1356) 12 rfl zddL_law_1356 rfl
theorem dL_law_1375 : decode cL_law 1375 = .ok (.pop, 1) := dq_get (L := lzddL_law_1356) 13 rfl zddL_law_1356 rfl
theorem dL_law_1376 : decode cL_law 1376 = .ok (.goto 16, 3) := dq_get (L := lzddL_law_1356) 14 rfl zddL_law_1356 rfl
theorem dL_law_1379 : decode cL_law 1379 = .ok (.aload_n 1, 1) := dq_get (L := lzddL_law_1356) 15 rfl zddL_law_1356 rfl
theorem dL_law_1380 : decode cL_law 1380 = .ok (.invokevirtual 191, 3) := dq_get (L := lzddL_law_1356) 16 rfl zddL_law_1356 rfl
theorem dL_law_1383 : decode cL_law 1383 = .ok (.pop, 1) := dq_get (L := lzddL_law_1356) 17 rfl zddL_law_1356 rfl
theorem dL_law_1384 : decode cL_law 1384 = .ok (.aload_n 2, 1) := dq_get (L := lzddL_law_1356) 18 rfl zddL_law_1356 rfl
theorem dL_law_1385 : decode cL_law 1385 = .ok (.invokevirtual 194, 3) := dq_get (L := lzddL_law_1356) 19 rfl zddL_law_1356 rfl
def lzddL_law_1388 : List (Nat × Instr × Nat) := [(1388, .pop, 1), (1389, .goto 3, 3), (1392, .iinc 4 6, 3), (1395, .goto (-1372), 3), (1398, .iconst 1, 1), (1399, .ireturn, 1)]
theorem zddL_law_1388 : dqW lzddL_law_1388 (cL_law.data.toList.drop 1388) 1388 = true := by decide +kernel
theorem dL_law_1388 : decode cL_law 1388 = .ok (.pop, 1) := dq_get (L := lzddL_law_1388) 0 rfl zddL_law_1388 rfl
theorem dL_law_1389 : decode cL_law 1389 = .ok (.goto 3, 3) := dq_get (L := lzddL_law_1388) 1 rfl zddL_law_1388 rfl
theorem dL_law_1392 : decode cL_law 1392 = .ok (.iinc 4 6, 3) := dq_get (L := lzddL_law_1388) 2 rfl zddL_law_1388 rfl
theorem dL_law_1395 : decode cL_law 1395 = .ok (.goto (-1372), 3) := dq_get (L := lzddL_law_1388) 3 rfl zddL_law_1388 rfl
theorem dL_law_1398 : decode cL_law 1398 = .ok (.iconst 1, 1) := dq_get (L := lzddL_law_1388) 4 rfl zddL_law_1388 rfl
theorem dL_law_1399 : decode cL_law 1399 = .ok (.ireturn, 1) := dq_get (L := lzddL_law_1388) 5 rfl zddL_law_1388 rfl
