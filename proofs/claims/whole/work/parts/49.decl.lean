/-! the instructions of the law, by program -/
def tbL_law0 : List (Nat × Instr × Nat) := [(0, .new 7, 3), (3, .dup, 1), (4, .invokespecial 9, 3), (7, .astore_n 1, 1), (8, .new 10, 3), (11, .dup, 1), (12, .invokespecial 12, 3), (15, .astore_n 2, 1), (16, .iconst 0, 1), (17, .istore_n 3, 1), (18, .iload_n 3, 1), (19, .aload_n 0, 1), (20, .arraylength, 1), (21, .iconst 4, 1), (22, .isub, 1), (23, .if_icmp .gt 828, 3), (26, .aload_n 0, 1), (27, .iload_n 3, 1), (28, .iaload, 1), (29, .bipush 31, 2), (31, .iand, 1), (148, .aload_n 1, 1), (149, .aload_n 0, 1), (150, .iload_n 3, 1), (151, .iconst 1, 1), (152, .iadd, 1), (153, .iaload, 1), (154, .aload_n 0, 1), (155, .iload_n 3, 1), (156, .iconst 2, 1), (157, .iadd, 1), (158, .iaload, 1), (159, .invokevirtual 13, 3), (162, .aload_n 2, 1), (163, .aload_n 0, 1), (164, .iload_n 3, 1), (165, .iconst 1, 1), (166, .iadd, 1), (167, .iaload, 1), (168, .aload_n 0, 1), (169, .iload_n 3, 1), (170, .iconst 2, 1), (171, .iadd, 1), (172, .iaload, 1), (173, .invokevirtual 17, 3)]
set_option maxRecDepth 100000 in
theorem dtL_law0 : allD cL_law tbL_law0 = true := by decide +kernel
theorem dL_law_0 : decode cL_law 0 = .ok (.new 7, 3) := allD_get dtL_law0 0 rfl
theorem dL_law_3 : decode cL_law 3 = .ok (.dup, 1) := allD_get dtL_law0 1 rfl
theorem dL_law_4 : decode cL_law 4 = .ok (.invokespecial 9, 3) := allD_get dtL_law0 2 rfl
theorem dL_law_7 : decode cL_law 7 = .ok (.astore_n 1, 1) := allD_get dtL_law0 3 rfl
theorem dL_law_8 : decode cL_law 8 = .ok (.new 10, 3) := allD_get dtL_law0 4 rfl
theorem dL_law_11 : decode cL_law 11 = .ok (.dup, 1) := allD_get dtL_law0 5 rfl
theorem dL_law_12 : decode cL_law 12 = .ok (.invokespecial 12, 3) := allD_get dtL_law0 6 rfl
theorem dL_law_15 : decode cL_law 15 = .ok (.astore_n 2, 1) := allD_get dtL_law0 7 rfl
theorem dL_law_16 : decode cL_law 16 = .ok (.iconst 0, 1) := allD_get dtL_law0 8 rfl
theorem dL_law_17 : decode cL_law 17 = .ok (.istore_n 3, 1) := allD_get dtL_law0 9 rfl
theorem dL_law_18 : decode cL_law 18 = .ok (.iload_n 3, 1) := allD_get dtL_law0 10 rfl
theorem dL_law_19 : decode cL_law 19 = .ok (.aload_n 0, 1) := allD_get dtL_law0 11 rfl
theorem dL_law_20 : decode cL_law 20 = .ok (.arraylength, 1) := allD_get dtL_law0 12 rfl
theorem dL_law_21 : decode cL_law 21 = .ok (.iconst 4, 1) := allD_get dtL_law0 13 rfl
theorem dL_law_22 : decode cL_law 22 = .ok (.isub, 1) := allD_get dtL_law0 14 rfl
theorem dL_law_23 : decode cL_law 23 = .ok (.if_icmp .gt 828, 3) := allD_get dtL_law0 15 rfl
theorem dL_law_26 : decode cL_law 26 = .ok (.aload_n 0, 1) := allD_get dtL_law0 16 rfl
theorem dL_law_27 : decode cL_law 27 = .ok (.iload_n 3, 1) := allD_get dtL_law0 17 rfl
theorem dL_law_28 : decode cL_law 28 = .ok (.iaload, 1) := allD_get dtL_law0 18 rfl
theorem dL_law_29 : decode cL_law 29 = .ok (.bipush 31, 2) := allD_get dtL_law0 19 rfl
theorem dL_law_31 : decode cL_law 31 = .ok (.iand, 1) := allD_get dtL_law0 20 rfl
theorem dL_law_148 : decode cL_law 148 = .ok (.aload_n 1, 1) := allD_get dtL_law0 21 rfl
theorem dL_law_149 : decode cL_law 149 = .ok (.aload_n 0, 1) := allD_get dtL_law0 22 rfl
theorem dL_law_150 : decode cL_law 150 = .ok (.iload_n 3, 1) := allD_get dtL_law0 23 rfl
theorem dL_law_151 : decode cL_law 151 = .ok (.iconst 1, 1) := allD_get dtL_law0 24 rfl
theorem dL_law_152 : decode cL_law 152 = .ok (.iadd, 1) := allD_get dtL_law0 25 rfl
theorem dL_law_153 : decode cL_law 153 = .ok (.iaload, 1) := allD_get dtL_law0 26 rfl
theorem dL_law_154 : decode cL_law 154 = .ok (.aload_n 0, 1) := allD_get dtL_law0 27 rfl
theorem dL_law_155 : decode cL_law 155 = .ok (.iload_n 3, 1) := allD_get dtL_law0 28 rfl
theorem dL_law_156 : decode cL_law 156 = .ok (.iconst 2, 1) := allD_get dtL_law0 29 rfl
theorem dL_law_157 : decode cL_law 157 = .ok (.iadd, 1) := allD_get dtL_law0 30 rfl
theorem dL_law_158 : decode cL_law 158 = .ok (.iaload, 1) := allD_get dtL_law0 31 rfl
theorem dL_law_159 : decode cL_law 159 = .ok (.invokevirtual 13, 3) := allD_get dtL_law0 32 rfl
theorem dL_law_162 : decode cL_law 162 = .ok (.aload_n 2, 1) := allD_get dtL_law0 33 rfl
theorem dL_law_163 : decode cL_law 163 = .ok (.aload_n 0, 1) := allD_get dtL_law0 34 rfl
theorem dL_law_164 : decode cL_law 164 = .ok (.iload_n 3, 1) := allD_get dtL_law0 35 rfl
theorem dL_law_165 : decode cL_law 165 = .ok (.iconst 1, 1) := allD_get dtL_law0 36 rfl
theorem dL_law_166 : decode cL_law 166 = .ok (.iadd, 1) := allD_get dtL_law0 37 rfl
theorem dL_law_167 : decode cL_law 167 = .ok (.iaload, 1) := allD_get dtL_law0 38 rfl
theorem dL_law_168 : decode cL_law 168 = .ok (.aload_n 0, 1) := allD_get dtL_law0 39 rfl
theorem dL_law_169 : decode cL_law 169 = .ok (.iload_n 3, 1) := allD_get dtL_law0 40 rfl
theorem dL_law_170 : decode cL_law 170 = .ok (.iconst 2, 1) := allD_get dtL_law0 41 rfl
theorem dL_law_171 : decode cL_law 171 = .ok (.iadd, 1) := allD_get dtL_law0 42 rfl
theorem dL_law_172 : decode cL_law 172 = .ok (.iaload, 1) := allD_get dtL_law0 43 rfl
theorem dL_law_173 : decode cL_law 173 = .ok (.invokevirtual 17, 3) := allD_get dtL_law0 44 rfl
def tbL_law1 : List (Nat × Instr × Nat) := [(176, .if_icmp .eq 669, 3), (179, .iconst 0, 1), (180, .ireturn, 1), (181, .aload_n 1, 1), (182, .invokevirtual 18, 3), (185, .aload_n 2, 1), (186, .invokevirtual 22, 3), (189, .if_icmp .eq 656, 3), (192, .iconst 0, 1), (193, .ireturn, 1), (194, .aload_n 1, 1), (195, .aload_n 0, 1), (196, .iload_n 3, 1), (197, .iconst 1, 1), (198, .iadd, 1), (199, .iaload, 1), (200, .i2c, 1), (201, .invokevirtual 23, 3), (204, .aload_n 2, 1), (205, .aload_n 0, 1), (206, .iload_n 3, 1), (207, .iconst 1, 1), (208, .iadd, 1), (209, .iaload, 1), (210, .i2c, 1), (211, .invokevirtual 27, 3), (214, .if_icmp .eq 631, 3), (217, .iconst 0, 1), (218, .ireturn, 1), (219, .aload_n 1, 1), (220, .invokevirtual 28, 3), (223, .aload_n 2, 1), (224, .invokevirtual 31, 3), (227, .if_icmp .eq 618, 3), (230, .iconst 0, 1), (231, .ireturn, 1), (232, .aload_n 1, 1), (233, .invokevirtual 32, 3), (236, .aload_n 2, 1), (237, .invokevirtual 35, 3), (240, .if_icmp .eq 605, 3), (243, .iconst 0, 1), (244, .ireturn, 1), (245, .aload_n 1, 1), (246, .aload_n 0, 1)]
set_option maxRecDepth 100000 in
theorem dtL_law1 : allD cL_law tbL_law1 = true := by decide +kernel
theorem dL_law_176 : decode cL_law 176 = .ok (.if_icmp .eq 669, 3) := allD_get dtL_law1 0 rfl
theorem dL_law_179 : decode cL_law 179 = .ok (.iconst 0, 1) := allD_get dtL_law1 1 rfl
theorem dL_law_180 : decode cL_law 180 = .ok (.ireturn, 1) := allD_get dtL_law1 2 rfl
theorem dL_law_181 : decode cL_law 181 = .ok (.aload_n 1, 1) := allD_get dtL_law1 3 rfl
theorem dL_law_182 : decode cL_law 182 = .ok (.invokevirtual 18, 3) := allD_get dtL_law1 4 rfl
theorem dL_law_185 : decode cL_law 185 = .ok (.aload_n 2, 1) := allD_get dtL_law1 5 rfl
theorem dL_law_186 : decode cL_law 186 = .ok (.invokevirtual 22, 3) := allD_get dtL_law1 6 rfl
theorem dL_law_189 : decode cL_law 189 = .ok (.if_icmp .eq 656, 3) := allD_get dtL_law1 7 rfl
theorem dL_law_192 : decode cL_law 192 = .ok (.iconst 0, 1) := allD_get dtL_law1 8 rfl
theorem dL_law_193 : decode cL_law 193 = .ok (.ireturn, 1) := allD_get dtL_law1 9 rfl
theorem dL_law_194 : decode cL_law 194 = .ok (.aload_n 1, 1) := allD_get dtL_law1 10 rfl
theorem dL_law_195 : decode cL_law 195 = .ok (.aload_n 0, 1) := allD_get dtL_law1 11 rfl
theorem dL_law_196 : decode cL_law 196 = .ok (.iload_n 3, 1) := allD_get dtL_law1 12 rfl
theorem dL_law_197 : decode cL_law 197 = .ok (.iconst 1, 1) := allD_get dtL_law1 13 rfl
theorem dL_law_198 : decode cL_law 198 = .ok (.iadd, 1) := allD_get dtL_law1 14 rfl
theorem dL_law_199 : decode cL_law 199 = .ok (.iaload, 1) := allD_get dtL_law1 15 rfl
theorem dL_law_200 : decode cL_law 200 = .ok (.i2c, 1) := allD_get dtL_law1 16 rfl
theorem dL_law_201 : decode cL_law 201 = .ok (.invokevirtual 23, 3) := allD_get dtL_law1 17 rfl
theorem dL_law_204 : decode cL_law 204 = .ok (.aload_n 2, 1) := allD_get dtL_law1 18 rfl
theorem dL_law_205 : decode cL_law 205 = .ok (.aload_n 0, 1) := allD_get dtL_law1 19 rfl
theorem dL_law_206 : decode cL_law 206 = .ok (.iload_n 3, 1) := allD_get dtL_law1 20 rfl
theorem dL_law_207 : decode cL_law 207 = .ok (.iconst 1, 1) := allD_get dtL_law1 21 rfl
theorem dL_law_208 : decode cL_law 208 = .ok (.iadd, 1) := allD_get dtL_law1 22 rfl
theorem dL_law_209 : decode cL_law 209 = .ok (.iaload, 1) := allD_get dtL_law1 23 rfl
theorem dL_law_210 : decode cL_law 210 = .ok (.i2c, 1) := allD_get dtL_law1 24 rfl
theorem dL_law_211 : decode cL_law 211 = .ok (.invokevirtual 27, 3) := allD_get dtL_law1 25 rfl
theorem dL_law_214 : decode cL_law 214 = .ok (.if_icmp .eq 631, 3) := allD_get dtL_law1 26 rfl
theorem dL_law_217 : decode cL_law 217 = .ok (.iconst 0, 1) := allD_get dtL_law1 27 rfl
theorem dL_law_218 : decode cL_law 218 = .ok (.ireturn, 1) := allD_get dtL_law1 28 rfl
theorem dL_law_219 : decode cL_law 219 = .ok (.aload_n 1, 1) := allD_get dtL_law1 29 rfl
theorem dL_law_220 : decode cL_law 220 = .ok (.invokevirtual 28, 3) := allD_get dtL_law1 30 rfl
theorem dL_law_223 : decode cL_law 223 = .ok (.aload_n 2, 1) := allD_get dtL_law1 31 rfl
theorem dL_law_224 : decode cL_law 224 = .ok (.invokevirtual 31, 3) := allD_get dtL_law1 32 rfl
theorem dL_law_227 : decode cL_law 227 = .ok (.if_icmp .eq 618, 3) := allD_get dtL_law1 33 rfl
theorem dL_law_230 : decode cL_law 230 = .ok (.iconst 0, 1) := allD_get dtL_law1 34 rfl
theorem dL_law_231 : decode cL_law 231 = .ok (.ireturn, 1) := allD_get dtL_law1 35 rfl
theorem dL_law_232 : decode cL_law 232 = .ok (.aload_n 1, 1) := allD_get dtL_law1 36 rfl
theorem dL_law_233 : decode cL_law 233 = .ok (.invokevirtual 32, 3) := allD_get dtL_law1 37 rfl
theorem dL_law_236 : decode cL_law 236 = .ok (.aload_n 2, 1) := allD_get dtL_law1 38 rfl
theorem dL_law_237 : decode cL_law 237 = .ok (.invokevirtual 35, 3) := allD_get dtL_law1 39 rfl
theorem dL_law_240 : decode cL_law 240 = .ok (.if_icmp .eq 605, 3) := allD_get dtL_law1 40 rfl
theorem dL_law_243 : decode cL_law 243 = .ok (.iconst 0, 1) := allD_get dtL_law1 41 rfl
theorem dL_law_244 : decode cL_law 244 = .ok (.ireturn, 1) := allD_get dtL_law1 42 rfl
theorem dL_law_245 : decode cL_law 245 = .ok (.aload_n 1, 1) := allD_get dtL_law1 43 rfl
theorem dL_law_246 : decode cL_law 246 = .ok (.aload_n 0, 1) := allD_get dtL_law1 44 rfl
def tbL_law2 : List (Nat × Instr × Nat) := [(247, .iload_n 3, 1), (248, .iconst 1, 1), (249, .iadd, 1), (250, .iaload, 1), (251, .invokevirtual 36, 3), (254, .aload_n 2, 1), (255, .aload_n 0, 1), (256, .iload_n 3, 1), (257, .iconst 1, 1), (258, .iadd, 1), (259, .iaload, 1), (260, .invokevirtual 40, 3), (263, .if_icmp .eq 582, 3), (266, .iconst 0, 1), (267, .ireturn, 1), (268, .aload_n 1, 1), (269, .aload_n 0, 1), (270, .iload_n 3, 1), (271, .iconst 1, 1), (272, .iadd, 1), (273, .iaload, 1), (274, .aload_n 0, 1), (275, .iload_n 3, 1), (276, .iconst 2, 1), (277, .iadd, 1), (278, .iaload, 1), (279, .aload_n 0, 1), (280, .iload_n 3, 1), (281, .iconst 3, 1), (282, .iadd, 1), (283, .iaload, 1), (284, .invokevirtual 41, 3), (287, .aload_n 2, 1), (288, .aload_n 0, 1), (289, .iload_n 3, 1), (290, .iconst 1, 1), (291, .iadd, 1), (292, .iaload, 1), (293, .aload_n 0, 1), (294, .iload_n 3, 1), (295, .iconst 2, 1), (296, .iadd, 1), (297, .iaload, 1), (298, .aload_n 0, 1), (299, .iload_n 3, 1)]
set_option maxRecDepth 100000 in
theorem dtL_law2 : allD cL_law tbL_law2 = true := by decide +kernel
theorem dL_law_247 : decode cL_law 247 = .ok (.iload_n 3, 1) := allD_get dtL_law2 0 rfl
theorem dL_law_248 : decode cL_law 248 = .ok (.iconst 1, 1) := allD_get dtL_law2 1 rfl
theorem dL_law_249 : decode cL_law 249 = .ok (.iadd, 1) := allD_get dtL_law2 2 rfl
theorem dL_law_250 : decode cL_law 250 = .ok (.iaload, 1) := allD_get dtL_law2 3 rfl
theorem dL_law_251 : decode cL_law 251 = .ok (.invokevirtual 36, 3) := allD_get dtL_law2 4 rfl
theorem dL_law_254 : decode cL_law 254 = .ok (.aload_n 2, 1) := allD_get dtL_law2 5 rfl
theorem dL_law_255 : decode cL_law 255 = .ok (.aload_n 0, 1) := allD_get dtL_law2 6 rfl
theorem dL_law_256 : decode cL_law 256 = .ok (.iload_n 3, 1) := allD_get dtL_law2 7 rfl
theorem dL_law_257 : decode cL_law 257 = .ok (.iconst 1, 1) := allD_get dtL_law2 8 rfl
theorem dL_law_258 : decode cL_law 258 = .ok (.iadd, 1) := allD_get dtL_law2 9 rfl
theorem dL_law_259 : decode cL_law 259 = .ok (.iaload, 1) := allD_get dtL_law2 10 rfl
theorem dL_law_260 : decode cL_law 260 = .ok (.invokevirtual 40, 3) := allD_get dtL_law2 11 rfl
theorem dL_law_263 : decode cL_law 263 = .ok (.if_icmp .eq 582, 3) := allD_get dtL_law2 12 rfl
theorem dL_law_266 : decode cL_law 266 = .ok (.iconst 0, 1) := allD_get dtL_law2 13 rfl
theorem dL_law_267 : decode cL_law 267 = .ok (.ireturn, 1) := allD_get dtL_law2 14 rfl
theorem dL_law_268 : decode cL_law 268 = .ok (.aload_n 1, 1) := allD_get dtL_law2 15 rfl
theorem dL_law_269 : decode cL_law 269 = .ok (.aload_n 0, 1) := allD_get dtL_law2 16 rfl
theorem dL_law_270 : decode cL_law 270 = .ok (.iload_n 3, 1) := allD_get dtL_law2 17 rfl
theorem dL_law_271 : decode cL_law 271 = .ok (.iconst 1, 1) := allD_get dtL_law2 18 rfl
theorem dL_law_272 : decode cL_law 272 = .ok (.iadd, 1) := allD_get dtL_law2 19 rfl
theorem dL_law_273 : decode cL_law 273 = .ok (.iaload, 1) := allD_get dtL_law2 20 rfl
theorem dL_law_274 : decode cL_law 274 = .ok (.aload_n 0, 1) := allD_get dtL_law2 21 rfl
theorem dL_law_275 : decode cL_law 275 = .ok (.iload_n 3, 1) := allD_get dtL_law2 22 rfl
theorem dL_law_276 : decode cL_law 276 = .ok (.iconst 2, 1) := allD_get dtL_law2 23 rfl
theorem dL_law_277 : decode cL_law 277 = .ok (.iadd, 1) := allD_get dtL_law2 24 rfl
theorem dL_law_278 : decode cL_law 278 = .ok (.iaload, 1) := allD_get dtL_law2 25 rfl
theorem dL_law_279 : decode cL_law 279 = .ok (.aload_n 0, 1) := allD_get dtL_law2 26 rfl
theorem dL_law_280 : decode cL_law 280 = .ok (.iload_n 3, 1) := allD_get dtL_law2 27 rfl
theorem dL_law_281 : decode cL_law 281 = .ok (.iconst 3, 1) := allD_get dtL_law2 28 rfl
theorem dL_law_282 : decode cL_law 282 = .ok (.iadd, 1) := allD_get dtL_law2 29 rfl
theorem dL_law_283 : decode cL_law 283 = .ok (.iaload, 1) := allD_get dtL_law2 30 rfl
theorem dL_law_284 : decode cL_law 284 = .ok (.invokevirtual 41, 3) := allD_get dtL_law2 31 rfl
theorem dL_law_287 : decode cL_law 287 = .ok (.aload_n 2, 1) := allD_get dtL_law2 32 rfl
theorem dL_law_288 : decode cL_law 288 = .ok (.aload_n 0, 1) := allD_get dtL_law2 33 rfl
theorem dL_law_289 : decode cL_law 289 = .ok (.iload_n 3, 1) := allD_get dtL_law2 34 rfl
theorem dL_law_290 : decode cL_law 290 = .ok (.iconst 1, 1) := allD_get dtL_law2 35 rfl
theorem dL_law_291 : decode cL_law 291 = .ok (.iadd, 1) := allD_get dtL_law2 36 rfl
theorem dL_law_292 : decode cL_law 292 = .ok (.iaload, 1) := allD_get dtL_law2 37 rfl
theorem dL_law_293 : decode cL_law 293 = .ok (.aload_n 0, 1) := allD_get dtL_law2 38 rfl
theorem dL_law_294 : decode cL_law 294 = .ok (.iload_n 3, 1) := allD_get dtL_law2 39 rfl
theorem dL_law_295 : decode cL_law 295 = .ok (.iconst 2, 1) := allD_get dtL_law2 40 rfl
theorem dL_law_296 : decode cL_law 296 = .ok (.iadd, 1) := allD_get dtL_law2 41 rfl
theorem dL_law_297 : decode cL_law 297 = .ok (.iaload, 1) := allD_get dtL_law2 42 rfl
theorem dL_law_298 : decode cL_law 298 = .ok (.aload_n 0, 1) := allD_get dtL_law2 43 rfl
theorem dL_law_299 : decode cL_law 299 = .ok (.iload_n 3, 1) := allD_get dtL_law2 44 rfl
def tbL_law3 : List (Nat × Instr × Nat) := [(300, .iconst 3, 1), (301, .iadd, 1), (302, .iaload, 1), (303, .invokevirtual 45, 3), (306, .if_icmp .eq 539, 3), (309, .iconst 0, 1), (310, .ireturn, 1), (311, .aload_n 1, 1), (312, .aload_n 0, 1), (313, .iload_n 3, 1), (314, .iconst 1, 1), (315, .iadd, 1), (316, .iaload, 1), (317, .aload_n 0, 1), (318, .iload_n 3, 1), (319, .iconst 2, 1), (320, .iadd, 1), (321, .iaload, 1), (322, .invokevirtual 46, 3), (325, .aload_n 2, 1), (326, .aload_n 0, 1), (327, .iload_n 3, 1), (328, .iconst 1, 1), (329, .iadd, 1), (330, .iaload, 1), (331, .aload_n 0, 1), (332, .iload_n 3, 1), (333, .iconst 2, 1), (334, .iadd, 1), (335, .iaload, 1), (336, .invokevirtual 49, 3), (339, .if_icmp .eq 506, 3), (342, .iconst 0, 1), (343, .ireturn, 1), (344, .aload_n 1, 1), (345, .aload_n 0, 1), (346, .iload_n 3, 1), (347, .iconst 1, 1), (348, .iadd, 1), (349, .iaload, 1), (350, .aload_n 0, 1), (351, .iload_n 3, 1), (352, .iconst 2, 1), (353, .iadd, 1), (354, .iaload, 1)]
set_option maxRecDepth 100000 in
theorem dtL_law3 : allD cL_law tbL_law3 = true := by decide +kernel
theorem dL_law_300 : decode cL_law 300 = .ok (.iconst 3, 1) := allD_get dtL_law3 0 rfl
theorem dL_law_301 : decode cL_law 301 = .ok (.iadd, 1) := allD_get dtL_law3 1 rfl
theorem dL_law_302 : decode cL_law 302 = .ok (.iaload, 1) := allD_get dtL_law3 2 rfl
theorem dL_law_303 : decode cL_law 303 = .ok (.invokevirtual 45, 3) := allD_get dtL_law3 3 rfl
theorem dL_law_306 : decode cL_law 306 = .ok (.if_icmp .eq 539, 3) := allD_get dtL_law3 4 rfl
theorem dL_law_309 : decode cL_law 309 = .ok (.iconst 0, 1) := allD_get dtL_law3 5 rfl
theorem dL_law_310 : decode cL_law 310 = .ok (.ireturn, 1) := allD_get dtL_law3 6 rfl
theorem dL_law_311 : decode cL_law 311 = .ok (.aload_n 1, 1) := allD_get dtL_law3 7 rfl
theorem dL_law_312 : decode cL_law 312 = .ok (.aload_n 0, 1) := allD_get dtL_law3 8 rfl
theorem dL_law_313 : decode cL_law 313 = .ok (.iload_n 3, 1) := allD_get dtL_law3 9 rfl
theorem dL_law_314 : decode cL_law 314 = .ok (.iconst 1, 1) := allD_get dtL_law3 10 rfl
theorem dL_law_315 : decode cL_law 315 = .ok (.iadd, 1) := allD_get dtL_law3 11 rfl
theorem dL_law_316 : decode cL_law 316 = .ok (.iaload, 1) := allD_get dtL_law3 12 rfl
theorem dL_law_317 : decode cL_law 317 = .ok (.aload_n 0, 1) := allD_get dtL_law3 13 rfl
theorem dL_law_318 : decode cL_law 318 = .ok (.iload_n 3, 1) := allD_get dtL_law3 14 rfl
theorem dL_law_319 : decode cL_law 319 = .ok (.iconst 2, 1) := allD_get dtL_law3 15 rfl
theorem dL_law_320 : decode cL_law 320 = .ok (.iadd, 1) := allD_get dtL_law3 16 rfl
theorem dL_law_321 : decode cL_law 321 = .ok (.iaload, 1) := allD_get dtL_law3 17 rfl
theorem dL_law_322 : decode cL_law 322 = .ok (.invokevirtual 46, 3) := allD_get dtL_law3 18 rfl
theorem dL_law_325 : decode cL_law 325 = .ok (.aload_n 2, 1) := allD_get dtL_law3 19 rfl
theorem dL_law_326 : decode cL_law 326 = .ok (.aload_n 0, 1) := allD_get dtL_law3 20 rfl
theorem dL_law_327 : decode cL_law 327 = .ok (.iload_n 3, 1) := allD_get dtL_law3 21 rfl
theorem dL_law_328 : decode cL_law 328 = .ok (.iconst 1, 1) := allD_get dtL_law3 22 rfl
theorem dL_law_329 : decode cL_law 329 = .ok (.iadd, 1) := allD_get dtL_law3 23 rfl
theorem dL_law_330 : decode cL_law 330 = .ok (.iaload, 1) := allD_get dtL_law3 24 rfl
theorem dL_law_331 : decode cL_law 331 = .ok (.aload_n 0, 1) := allD_get dtL_law3 25 rfl
theorem dL_law_332 : decode cL_law 332 = .ok (.iload_n 3, 1) := allD_get dtL_law3 26 rfl
theorem dL_law_333 : decode cL_law 333 = .ok (.iconst 2, 1) := allD_get dtL_law3 27 rfl
theorem dL_law_334 : decode cL_law 334 = .ok (.iadd, 1) := allD_get dtL_law3 28 rfl
theorem dL_law_335 : decode cL_law 335 = .ok (.iaload, 1) := allD_get dtL_law3 29 rfl
theorem dL_law_336 : decode cL_law 336 = .ok (.invokevirtual 49, 3) := allD_get dtL_law3 30 rfl
theorem dL_law_339 : decode cL_law 339 = .ok (.if_icmp .eq 506, 3) := allD_get dtL_law3 31 rfl
theorem dL_law_342 : decode cL_law 342 = .ok (.iconst 0, 1) := allD_get dtL_law3 32 rfl
theorem dL_law_343 : decode cL_law 343 = .ok (.ireturn, 1) := allD_get dtL_law3 33 rfl
theorem dL_law_344 : decode cL_law 344 = .ok (.aload_n 1, 1) := allD_get dtL_law3 34 rfl
theorem dL_law_345 : decode cL_law 345 = .ok (.aload_n 0, 1) := allD_get dtL_law3 35 rfl
theorem dL_law_346 : decode cL_law 346 = .ok (.iload_n 3, 1) := allD_get dtL_law3 36 rfl
theorem dL_law_347 : decode cL_law 347 = .ok (.iconst 1, 1) := allD_get dtL_law3 37 rfl
theorem dL_law_348 : decode cL_law 348 = .ok (.iadd, 1) := allD_get dtL_law3 38 rfl
theorem dL_law_349 : decode cL_law 349 = .ok (.iaload, 1) := allD_get dtL_law3 39 rfl
theorem dL_law_350 : decode cL_law 350 = .ok (.aload_n 0, 1) := allD_get dtL_law3 40 rfl
theorem dL_law_351 : decode cL_law 351 = .ok (.iload_n 3, 1) := allD_get dtL_law3 41 rfl
theorem dL_law_352 : decode cL_law 352 = .ok (.iconst 2, 1) := allD_get dtL_law3 42 rfl
theorem dL_law_353 : decode cL_law 353 = .ok (.iadd, 1) := allD_get dtL_law3 43 rfl
theorem dL_law_354 : decode cL_law 354 = .ok (.iaload, 1) := allD_get dtL_law3 44 rfl
def tbL_law4 : List (Nat × Instr × Nat) := [(355, .invokevirtual 50, 3), (358, .aload_n 2, 1), (359, .aload_n 0, 1), (360, .iload_n 3, 1), (361, .iconst 1, 1), (362, .iadd, 1), (363, .iaload, 1), (364, .aload_n 0, 1), (365, .iload_n 3, 1), (366, .iconst 2, 1), (367, .iadd, 1), (368, .iaload, 1), (369, .invokevirtual 53, 3), (372, .if_icmp .eq 473, 3), (375, .iconst 0, 1), (376, .ireturn, 1), (377, .aload_n 1, 1), (378, .aload_n 0, 1), (379, .iload_n 3, 1), (380, .iconst 1, 1), (381, .iadd, 1), (382, .iaload, 1), (383, .aload_n 0, 1), (384, .iload_n 3, 1), (385, .iconst 2, 1), (386, .iadd, 1), (387, .iaload, 1), (388, .invokevirtual 54, 3), (391, .aload_n 2, 1), (392, .aload_n 0, 1), (393, .iload_n 3, 1), (394, .iconst 1, 1), (395, .iadd, 1), (396, .iaload, 1), (397, .aload_n 0, 1), (398, .iload_n 3, 1), (399, .iconst 2, 1), (400, .iadd, 1), (401, .iaload, 1), (402, .invokevirtual 57, 3), (405, .if_icmp .eq 440, 3), (408, .iconst 0, 1), (409, .ireturn, 1), (410, .aload_n 1, 1), (411, .aload_n 0, 1)]
set_option maxRecDepth 100000 in
theorem dtL_law4 : allD cL_law tbL_law4 = true := by decide +kernel
theorem dL_law_355 : decode cL_law 355 = .ok (.invokevirtual 50, 3) := allD_get dtL_law4 0 rfl
theorem dL_law_358 : decode cL_law 358 = .ok (.aload_n 2, 1) := allD_get dtL_law4 1 rfl
theorem dL_law_359 : decode cL_law 359 = .ok (.aload_n 0, 1) := allD_get dtL_law4 2 rfl
theorem dL_law_360 : decode cL_law 360 = .ok (.iload_n 3, 1) := allD_get dtL_law4 3 rfl
theorem dL_law_361 : decode cL_law 361 = .ok (.iconst 1, 1) := allD_get dtL_law4 4 rfl
theorem dL_law_362 : decode cL_law 362 = .ok (.iadd, 1) := allD_get dtL_law4 5 rfl
theorem dL_law_363 : decode cL_law 363 = .ok (.iaload, 1) := allD_get dtL_law4 6 rfl
theorem dL_law_364 : decode cL_law 364 = .ok (.aload_n 0, 1) := allD_get dtL_law4 7 rfl
theorem dL_law_365 : decode cL_law 365 = .ok (.iload_n 3, 1) := allD_get dtL_law4 8 rfl
theorem dL_law_366 : decode cL_law 366 = .ok (.iconst 2, 1) := allD_get dtL_law4 9 rfl
theorem dL_law_367 : decode cL_law 367 = .ok (.iadd, 1) := allD_get dtL_law4 10 rfl
theorem dL_law_368 : decode cL_law 368 = .ok (.iaload, 1) := allD_get dtL_law4 11 rfl
theorem dL_law_369 : decode cL_law 369 = .ok (.invokevirtual 53, 3) := allD_get dtL_law4 12 rfl
theorem dL_law_372 : decode cL_law 372 = .ok (.if_icmp .eq 473, 3) := allD_get dtL_law4 13 rfl
theorem dL_law_375 : decode cL_law 375 = .ok (.iconst 0, 1) := allD_get dtL_law4 14 rfl
theorem dL_law_376 : decode cL_law 376 = .ok (.ireturn, 1) := allD_get dtL_law4 15 rfl
theorem dL_law_377 : decode cL_law 377 = .ok (.aload_n 1, 1) := allD_get dtL_law4 16 rfl
theorem dL_law_378 : decode cL_law 378 = .ok (.aload_n 0, 1) := allD_get dtL_law4 17 rfl
theorem dL_law_379 : decode cL_law 379 = .ok (.iload_n 3, 1) := allD_get dtL_law4 18 rfl
theorem dL_law_380 : decode cL_law 380 = .ok (.iconst 1, 1) := allD_get dtL_law4 19 rfl
theorem dL_law_381 : decode cL_law 381 = .ok (.iadd, 1) := allD_get dtL_law4 20 rfl
theorem dL_law_382 : decode cL_law 382 = .ok (.iaload, 1) := allD_get dtL_law4 21 rfl
theorem dL_law_383 : decode cL_law 383 = .ok (.aload_n 0, 1) := allD_get dtL_law4 22 rfl
theorem dL_law_384 : decode cL_law 384 = .ok (.iload_n 3, 1) := allD_get dtL_law4 23 rfl
theorem dL_law_385 : decode cL_law 385 = .ok (.iconst 2, 1) := allD_get dtL_law4 24 rfl
theorem dL_law_386 : decode cL_law 386 = .ok (.iadd, 1) := allD_get dtL_law4 25 rfl
theorem dL_law_387 : decode cL_law 387 = .ok (.iaload, 1) := allD_get dtL_law4 26 rfl
theorem dL_law_388 : decode cL_law 388 = .ok (.invokevirtual 54, 3) := allD_get dtL_law4 27 rfl
theorem dL_law_391 : decode cL_law 391 = .ok (.aload_n 2, 1) := allD_get dtL_law4 28 rfl
theorem dL_law_392 : decode cL_law 392 = .ok (.aload_n 0, 1) := allD_get dtL_law4 29 rfl
theorem dL_law_393 : decode cL_law 393 = .ok (.iload_n 3, 1) := allD_get dtL_law4 30 rfl
theorem dL_law_394 : decode cL_law 394 = .ok (.iconst 1, 1) := allD_get dtL_law4 31 rfl
theorem dL_law_395 : decode cL_law 395 = .ok (.iadd, 1) := allD_get dtL_law4 32 rfl
theorem dL_law_396 : decode cL_law 396 = .ok (.iaload, 1) := allD_get dtL_law4 33 rfl
theorem dL_law_397 : decode cL_law 397 = .ok (.aload_n 0, 1) := allD_get dtL_law4 34 rfl
theorem dL_law_398 : decode cL_law 398 = .ok (.iload_n 3, 1) := allD_get dtL_law4 35 rfl
theorem dL_law_399 : decode cL_law 399 = .ok (.iconst 2, 1) := allD_get dtL_law4 36 rfl
theorem dL_law_400 : decode cL_law 400 = .ok (.iadd, 1) := allD_get dtL_law4 37 rfl
theorem dL_law_401 : decode cL_law 401 = .ok (.iaload, 1) := allD_get dtL_law4 38 rfl
theorem dL_law_402 : decode cL_law 402 = .ok (.invokevirtual 57, 3) := allD_get dtL_law4 39 rfl
theorem dL_law_405 : decode cL_law 405 = .ok (.if_icmp .eq 440, 3) := allD_get dtL_law4 40 rfl
theorem dL_law_408 : decode cL_law 408 = .ok (.iconst 0, 1) := allD_get dtL_law4 41 rfl
theorem dL_law_409 : decode cL_law 409 = .ok (.ireturn, 1) := allD_get dtL_law4 42 rfl
theorem dL_law_410 : decode cL_law 410 = .ok (.aload_n 1, 1) := allD_get dtL_law4 43 rfl
theorem dL_law_411 : decode cL_law 411 = .ok (.aload_n 0, 1) := allD_get dtL_law4 44 rfl
def tbL_law5 : List (Nat × Instr × Nat) := [(412, .iload_n 3, 1), (413, .iconst 1, 1), (414, .iadd, 1), (415, .iaload, 1), (416, .aload_n 0, 1), (417, .iload_n 3, 1), (418, .iconst 2, 1), (419, .iadd, 1), (420, .iaload, 1), (421, .aload_n 0, 1), (422, .iload_n 3, 1), (423, .iconst 3, 1), (424, .iadd, 1), (425, .iaload, 1), (426, .invokevirtual 58, 3), (429, .aload_n 2, 1), (430, .aload_n 0, 1), (431, .iload_n 3, 1), (432, .iconst 1, 1), (433, .iadd, 1), (434, .iaload, 1), (435, .aload_n 0, 1), (436, .iload_n 3, 1), (437, .iconst 2, 1), (438, .iadd, 1), (439, .iaload, 1), (440, .aload_n 0, 1), (441, .iload_n 3, 1), (442, .iconst 3, 1), (443, .iadd, 1), (444, .iaload, 1), (445, .invokevirtual 61, 3), (448, .if_icmp .eq 397, 3), (451, .iconst 0, 1), (452, .ireturn, 1), (453, .aload_n 1, 1), (454, .aload_n 0, 1), (455, .iload_n 3, 1), (456, .iconst 1, 1), (457, .iadd, 1), (458, .iaload, 1), (459, .aload_n 0, 1), (460, .iload_n 3, 1), (461, .iconst 2, 1), (462, .iadd, 1)]
set_option maxRecDepth 100000 in
theorem dtL_law5 : allD cL_law tbL_law5 = true := by decide +kernel
theorem dL_law_412 : decode cL_law 412 = .ok (.iload_n 3, 1) := allD_get dtL_law5 0 rfl
theorem dL_law_413 : decode cL_law 413 = .ok (.iconst 1, 1) := allD_get dtL_law5 1 rfl
theorem dL_law_414 : decode cL_law 414 = .ok (.iadd, 1) := allD_get dtL_law5 2 rfl
theorem dL_law_415 : decode cL_law 415 = .ok (.iaload, 1) := allD_get dtL_law5 3 rfl
theorem dL_law_416 : decode cL_law 416 = .ok (.aload_n 0, 1) := allD_get dtL_law5 4 rfl
theorem dL_law_417 : decode cL_law 417 = .ok (.iload_n 3, 1) := allD_get dtL_law5 5 rfl
theorem dL_law_418 : decode cL_law 418 = .ok (.iconst 2, 1) := allD_get dtL_law5 6 rfl
theorem dL_law_419 : decode cL_law 419 = .ok (.iadd, 1) := allD_get dtL_law5 7 rfl
theorem dL_law_420 : decode cL_law 420 = .ok (.iaload, 1) := allD_get dtL_law5 8 rfl
theorem dL_law_421 : decode cL_law 421 = .ok (.aload_n 0, 1) := allD_get dtL_law5 9 rfl
theorem dL_law_422 : decode cL_law 422 = .ok (.iload_n 3, 1) := allD_get dtL_law5 10 rfl
theorem dL_law_423 : decode cL_law 423 = .ok (.iconst 3, 1) := allD_get dtL_law5 11 rfl
theorem dL_law_424 : decode cL_law 424 = .ok (.iadd, 1) := allD_get dtL_law5 12 rfl
theorem dL_law_425 : decode cL_law 425 = .ok (.iaload, 1) := allD_get dtL_law5 13 rfl
theorem dL_law_426 : decode cL_law 426 = .ok (.invokevirtual 58, 3) := allD_get dtL_law5 14 rfl
theorem dL_law_429 : decode cL_law 429 = .ok (.aload_n 2, 1) := allD_get dtL_law5 15 rfl
theorem dL_law_430 : decode cL_law 430 = .ok (.aload_n 0, 1) := allD_get dtL_law5 16 rfl
theorem dL_law_431 : decode cL_law 431 = .ok (.iload_n 3, 1) := allD_get dtL_law5 17 rfl
theorem dL_law_432 : decode cL_law 432 = .ok (.iconst 1, 1) := allD_get dtL_law5 18 rfl
theorem dL_law_433 : decode cL_law 433 = .ok (.iadd, 1) := allD_get dtL_law5 19 rfl
theorem dL_law_434 : decode cL_law 434 = .ok (.iaload, 1) := allD_get dtL_law5 20 rfl
theorem dL_law_435 : decode cL_law 435 = .ok (.aload_n 0, 1) := allD_get dtL_law5 21 rfl
theorem dL_law_436 : decode cL_law 436 = .ok (.iload_n 3, 1) := allD_get dtL_law5 22 rfl
theorem dL_law_437 : decode cL_law 437 = .ok (.iconst 2, 1) := allD_get dtL_law5 23 rfl
theorem dL_law_438 : decode cL_law 438 = .ok (.iadd, 1) := allD_get dtL_law5 24 rfl
theorem dL_law_439 : decode cL_law 439 = .ok (.iaload, 1) := allD_get dtL_law5 25 rfl
theorem dL_law_440 : decode cL_law 440 = .ok (.aload_n 0, 1) := allD_get dtL_law5 26 rfl
theorem dL_law_441 : decode cL_law 441 = .ok (.iload_n 3, 1) := allD_get dtL_law5 27 rfl
theorem dL_law_442 : decode cL_law 442 = .ok (.iconst 3, 1) := allD_get dtL_law5 28 rfl
theorem dL_law_443 : decode cL_law 443 = .ok (.iadd, 1) := allD_get dtL_law5 29 rfl
theorem dL_law_444 : decode cL_law 444 = .ok (.iaload, 1) := allD_get dtL_law5 30 rfl
theorem dL_law_445 : decode cL_law 445 = .ok (.invokevirtual 61, 3) := allD_get dtL_law5 31 rfl
theorem dL_law_448 : decode cL_law 448 = .ok (.if_icmp .eq 397, 3) := allD_get dtL_law5 32 rfl
theorem dL_law_451 : decode cL_law 451 = .ok (.iconst 0, 1) := allD_get dtL_law5 33 rfl
theorem dL_law_452 : decode cL_law 452 = .ok (.ireturn, 1) := allD_get dtL_law5 34 rfl
theorem dL_law_453 : decode cL_law 453 = .ok (.aload_n 1, 1) := allD_get dtL_law5 35 rfl
theorem dL_law_454 : decode cL_law 454 = .ok (.aload_n 0, 1) := allD_get dtL_law5 36 rfl
theorem dL_law_455 : decode cL_law 455 = .ok (.iload_n 3, 1) := allD_get dtL_law5 37 rfl
theorem dL_law_456 : decode cL_law 456 = .ok (.iconst 1, 1) := allD_get dtL_law5 38 rfl
theorem dL_law_457 : decode cL_law 457 = .ok (.iadd, 1) := allD_get dtL_law5 39 rfl
theorem dL_law_458 : decode cL_law 458 = .ok (.iaload, 1) := allD_get dtL_law5 40 rfl
theorem dL_law_459 : decode cL_law 459 = .ok (.aload_n 0, 1) := allD_get dtL_law5 41 rfl
theorem dL_law_460 : decode cL_law 460 = .ok (.iload_n 3, 1) := allD_get dtL_law5 42 rfl
theorem dL_law_461 : decode cL_law 461 = .ok (.iconst 2, 1) := allD_get dtL_law5 43 rfl
theorem dL_law_462 : decode cL_law 462 = .ok (.iadd, 1) := allD_get dtL_law5 44 rfl
def tbL_law6 : List (Nat × Instr × Nat) := [(463, .iaload, 1), (464, .invokevirtual 62, 3), (467, .aload_n 2, 1), (468, .aload_n 0, 1), (469, .iload_n 3, 1), (470, .iconst 1, 1), (471, .iadd, 1), (472, .iaload, 1), (473, .aload_n 0, 1), (474, .iload_n 3, 1), (475, .iconst 2, 1), (476, .iadd, 1), (477, .iaload, 1), (478, .invokevirtual 65, 3), (481, .if_icmp .eq 364, 3), (484, .iconst 0, 1), (485, .ireturn, 1), (486, .aload_n 1, 1), (487, .aload_n 0, 1), (488, .iload_n 3, 1), (489, .iconst 1, 1), (490, .iadd, 1), (491, .iaload, 1), (492, .invokevirtual 66, 3), (495, .aload_n 2, 1), (496, .aload_n 0, 1), (497, .iload_n 3, 1), (498, .iconst 1, 1), (499, .iadd, 1), (500, .iaload, 1), (501, .invokevirtual 69, 3), (504, .if_icmp .eq 341, 3), (507, .iconst 0, 1), (508, .ireturn, 1), (509, .aload_n 1, 1), (510, .invokevirtual 70, 3), (513, .aload_n 2, 1), (514, .invokevirtual 73, 3), (517, .if_icmp .eq 328, 3), (520, .iconst 0, 1), (521, .ireturn, 1), (522, .aload_n 1, 1), (523, .invokevirtual 74, 3), (526, .aload_n 2, 1), (527, .invokevirtual 77, 3)]
set_option maxRecDepth 100000 in
theorem dtL_law6 : allD cL_law tbL_law6 = true := by decide +kernel
theorem dL_law_463 : decode cL_law 463 = .ok (.iaload, 1) := allD_get dtL_law6 0 rfl
theorem dL_law_464 : decode cL_law 464 = .ok (.invokevirtual 62, 3) := allD_get dtL_law6 1 rfl
theorem dL_law_467 : decode cL_law 467 = .ok (.aload_n 2, 1) := allD_get dtL_law6 2 rfl
theorem dL_law_468 : decode cL_law 468 = .ok (.aload_n 0, 1) := allD_get dtL_law6 3 rfl
theorem dL_law_469 : decode cL_law 469 = .ok (.iload_n 3, 1) := allD_get dtL_law6 4 rfl
theorem dL_law_470 : decode cL_law 470 = .ok (.iconst 1, 1) := allD_get dtL_law6 5 rfl
theorem dL_law_471 : decode cL_law 471 = .ok (.iadd, 1) := allD_get dtL_law6 6 rfl
theorem dL_law_472 : decode cL_law 472 = .ok (.iaload, 1) := allD_get dtL_law6 7 rfl
theorem dL_law_473 : decode cL_law 473 = .ok (.aload_n 0, 1) := allD_get dtL_law6 8 rfl
theorem dL_law_474 : decode cL_law 474 = .ok (.iload_n 3, 1) := allD_get dtL_law6 9 rfl
theorem dL_law_475 : decode cL_law 475 = .ok (.iconst 2, 1) := allD_get dtL_law6 10 rfl
theorem dL_law_476 : decode cL_law 476 = .ok (.iadd, 1) := allD_get dtL_law6 11 rfl
theorem dL_law_477 : decode cL_law 477 = .ok (.iaload, 1) := allD_get dtL_law6 12 rfl
theorem dL_law_478 : decode cL_law 478 = .ok (.invokevirtual 65, 3) := allD_get dtL_law6 13 rfl
theorem dL_law_481 : decode cL_law 481 = .ok (.if_icmp .eq 364, 3) := allD_get dtL_law6 14 rfl
theorem dL_law_484 : decode cL_law 484 = .ok (.iconst 0, 1) := allD_get dtL_law6 15 rfl
theorem dL_law_485 : decode cL_law 485 = .ok (.ireturn, 1) := allD_get dtL_law6 16 rfl
theorem dL_law_486 : decode cL_law 486 = .ok (.aload_n 1, 1) := allD_get dtL_law6 17 rfl
theorem dL_law_487 : decode cL_law 487 = .ok (.aload_n 0, 1) := allD_get dtL_law6 18 rfl
theorem dL_law_488 : decode cL_law 488 = .ok (.iload_n 3, 1) := allD_get dtL_law6 19 rfl
theorem dL_law_489 : decode cL_law 489 = .ok (.iconst 1, 1) := allD_get dtL_law6 20 rfl
theorem dL_law_490 : decode cL_law 490 = .ok (.iadd, 1) := allD_get dtL_law6 21 rfl
theorem dL_law_491 : decode cL_law 491 = .ok (.iaload, 1) := allD_get dtL_law6 22 rfl
theorem dL_law_492 : decode cL_law 492 = .ok (.invokevirtual 66, 3) := allD_get dtL_law6 23 rfl
theorem dL_law_495 : decode cL_law 495 = .ok (.aload_n 2, 1) := allD_get dtL_law6 24 rfl
theorem dL_law_496 : decode cL_law 496 = .ok (.aload_n 0, 1) := allD_get dtL_law6 25 rfl
theorem dL_law_497 : decode cL_law 497 = .ok (.iload_n 3, 1) := allD_get dtL_law6 26 rfl
theorem dL_law_498 : decode cL_law 498 = .ok (.iconst 1, 1) := allD_get dtL_law6 27 rfl
theorem dL_law_499 : decode cL_law 499 = .ok (.iadd, 1) := allD_get dtL_law6 28 rfl
theorem dL_law_500 : decode cL_law 500 = .ok (.iaload, 1) := allD_get dtL_law6 29 rfl
theorem dL_law_501 : decode cL_law 501 = .ok (.invokevirtual 69, 3) := allD_get dtL_law6 30 rfl
theorem dL_law_504 : decode cL_law 504 = .ok (.if_icmp .eq 341, 3) := allD_get dtL_law6 31 rfl
theorem dL_law_507 : decode cL_law 507 = .ok (.iconst 0, 1) := allD_get dtL_law6 32 rfl
theorem dL_law_508 : decode cL_law 508 = .ok (.ireturn, 1) := allD_get dtL_law6 33 rfl
theorem dL_law_509 : decode cL_law 509 = .ok (.aload_n 1, 1) := allD_get dtL_law6 34 rfl
theorem dL_law_510 : decode cL_law 510 = .ok (.invokevirtual 70, 3) := allD_get dtL_law6 35 rfl
theorem dL_law_513 : decode cL_law 513 = .ok (.aload_n 2, 1) := allD_get dtL_law6 36 rfl
theorem dL_law_514 : decode cL_law 514 = .ok (.invokevirtual 73, 3) := allD_get dtL_law6 37 rfl
theorem dL_law_517 : decode cL_law 517 = .ok (.if_icmp .eq 328, 3) := allD_get dtL_law6 38 rfl
theorem dL_law_520 : decode cL_law 520 = .ok (.iconst 0, 1) := allD_get dtL_law6 39 rfl
theorem dL_law_521 : decode cL_law 521 = .ok (.ireturn, 1) := allD_get dtL_law6 40 rfl
theorem dL_law_522 : decode cL_law 522 = .ok (.aload_n 1, 1) := allD_get dtL_law6 41 rfl
theorem dL_law_523 : decode cL_law 523 = .ok (.invokevirtual 74, 3) := allD_get dtL_law6 42 rfl
theorem dL_law_526 : decode cL_law 526 = .ok (.aload_n 2, 1) := allD_get dtL_law6 43 rfl
theorem dL_law_527 : decode cL_law 527 = .ok (.invokevirtual 77, 3) := allD_get dtL_law6 44 rfl
def tbL_law7 : List (Nat × Instr × Nat) := [(530, .if_icmp .eq 315, 3), (533, .iconst 0, 1), (534, .ireturn, 1), (535, .aload_n 1, 1), (536, .aload_n 0, 1), (537, .iload_n 3, 1), (538, .iconst 1, 1), (539, .iadd, 1), (540, .iaload, 1), (541, .aload_n 0, 1), (542, .iload_n 3, 1), (543, .iconst 2, 1), (544, .iadd, 1), (545, .iaload, 1), (546, .invokevirtual 78, 3), (549, .aload_n 2, 1), (550, .aload_n 0, 1), (551, .iload_n 3, 1), (552, .iconst 1, 1), (553, .iadd, 1), (554, .iaload, 1), (555, .aload_n 0, 1), (556, .iload_n 3, 1), (557, .iconst 2, 1), (558, .iadd, 1), (559, .iaload, 1), (560, .invokevirtual 81, 3), (563, .if_icmp .eq 282, 3), (566, .iconst 0, 1), (567, .ireturn, 1), (568, .aload_n 1, 1), (569, .aload_n 0, 1), (570, .iload_n 3, 1), (571, .iconst 1, 1), (572, .iadd, 1), (573, .iaload, 1), (574, .aload_n 0, 1), (575, .iload_n 3, 1), (576, .iconst 2, 1), (577, .iadd, 1), (578, .iaload, 1), (579, .aload_n 0, 1), (580, .iload_n 3, 1), (581, .iconst 3, 1), (582, .iadd, 1)]
set_option maxRecDepth 100000 in
theorem dtL_law7 : allD cL_law tbL_law7 = true := by decide +kernel
theorem dL_law_530 : decode cL_law 530 = .ok (.if_icmp .eq 315, 3) := allD_get dtL_law7 0 rfl
theorem dL_law_533 : decode cL_law 533 = .ok (.iconst 0, 1) := allD_get dtL_law7 1 rfl
theorem dL_law_534 : decode cL_law 534 = .ok (.ireturn, 1) := allD_get dtL_law7 2 rfl
theorem dL_law_535 : decode cL_law 535 = .ok (.aload_n 1, 1) := allD_get dtL_law7 3 rfl
theorem dL_law_536 : decode cL_law 536 = .ok (.aload_n 0, 1) := allD_get dtL_law7 4 rfl
theorem dL_law_537 : decode cL_law 537 = .ok (.iload_n 3, 1) := allD_get dtL_law7 5 rfl
theorem dL_law_538 : decode cL_law 538 = .ok (.iconst 1, 1) := allD_get dtL_law7 6 rfl
theorem dL_law_539 : decode cL_law 539 = .ok (.iadd, 1) := allD_get dtL_law7 7 rfl
theorem dL_law_540 : decode cL_law 540 = .ok (.iaload, 1) := allD_get dtL_law7 8 rfl
theorem dL_law_541 : decode cL_law 541 = .ok (.aload_n 0, 1) := allD_get dtL_law7 9 rfl
theorem dL_law_542 : decode cL_law 542 = .ok (.iload_n 3, 1) := allD_get dtL_law7 10 rfl
theorem dL_law_543 : decode cL_law 543 = .ok (.iconst 2, 1) := allD_get dtL_law7 11 rfl
theorem dL_law_544 : decode cL_law 544 = .ok (.iadd, 1) := allD_get dtL_law7 12 rfl
theorem dL_law_545 : decode cL_law 545 = .ok (.iaload, 1) := allD_get dtL_law7 13 rfl
theorem dL_law_546 : decode cL_law 546 = .ok (.invokevirtual 78, 3) := allD_get dtL_law7 14 rfl
theorem dL_law_549 : decode cL_law 549 = .ok (.aload_n 2, 1) := allD_get dtL_law7 15 rfl
theorem dL_law_550 : decode cL_law 550 = .ok (.aload_n 0, 1) := allD_get dtL_law7 16 rfl
theorem dL_law_551 : decode cL_law 551 = .ok (.iload_n 3, 1) := allD_get dtL_law7 17 rfl
theorem dL_law_552 : decode cL_law 552 = .ok (.iconst 1, 1) := allD_get dtL_law7 18 rfl
theorem dL_law_553 : decode cL_law 553 = .ok (.iadd, 1) := allD_get dtL_law7 19 rfl
theorem dL_law_554 : decode cL_law 554 = .ok (.iaload, 1) := allD_get dtL_law7 20 rfl
theorem dL_law_555 : decode cL_law 555 = .ok (.aload_n 0, 1) := allD_get dtL_law7 21 rfl
theorem dL_law_556 : decode cL_law 556 = .ok (.iload_n 3, 1) := allD_get dtL_law7 22 rfl
theorem dL_law_557 : decode cL_law 557 = .ok (.iconst 2, 1) := allD_get dtL_law7 23 rfl
theorem dL_law_558 : decode cL_law 558 = .ok (.iadd, 1) := allD_get dtL_law7 24 rfl
theorem dL_law_559 : decode cL_law 559 = .ok (.iaload, 1) := allD_get dtL_law7 25 rfl
theorem dL_law_560 : decode cL_law 560 = .ok (.invokevirtual 81, 3) := allD_get dtL_law7 26 rfl
theorem dL_law_563 : decode cL_law 563 = .ok (.if_icmp .eq 282, 3) := allD_get dtL_law7 27 rfl
theorem dL_law_566 : decode cL_law 566 = .ok (.iconst 0, 1) := allD_get dtL_law7 28 rfl
theorem dL_law_567 : decode cL_law 567 = .ok (.ireturn, 1) := allD_get dtL_law7 29 rfl
theorem dL_law_568 : decode cL_law 568 = .ok (.aload_n 1, 1) := allD_get dtL_law7 30 rfl
theorem dL_law_569 : decode cL_law 569 = .ok (.aload_n 0, 1) := allD_get dtL_law7 31 rfl
theorem dL_law_570 : decode cL_law 570 = .ok (.iload_n 3, 1) := allD_get dtL_law7 32 rfl
theorem dL_law_571 : decode cL_law 571 = .ok (.iconst 1, 1) := allD_get dtL_law7 33 rfl
theorem dL_law_572 : decode cL_law 572 = .ok (.iadd, 1) := allD_get dtL_law7 34 rfl
theorem dL_law_573 : decode cL_law 573 = .ok (.iaload, 1) := allD_get dtL_law7 35 rfl
theorem dL_law_574 : decode cL_law 574 = .ok (.aload_n 0, 1) := allD_get dtL_law7 36 rfl
theorem dL_law_575 : decode cL_law 575 = .ok (.iload_n 3, 1) := allD_get dtL_law7 37 rfl
theorem dL_law_576 : decode cL_law 576 = .ok (.iconst 2, 1) := allD_get dtL_law7 38 rfl
theorem dL_law_577 : decode cL_law 577 = .ok (.iadd, 1) := allD_get dtL_law7 39 rfl
theorem dL_law_578 : decode cL_law 578 = .ok (.iaload, 1) := allD_get dtL_law7 40 rfl
theorem dL_law_579 : decode cL_law 579 = .ok (.aload_n 0, 1) := allD_get dtL_law7 41 rfl
theorem dL_law_580 : decode cL_law 580 = .ok (.iload_n 3, 1) := allD_get dtL_law7 42 rfl
theorem dL_law_581 : decode cL_law 581 = .ok (.iconst 3, 1) := allD_get dtL_law7 43 rfl
theorem dL_law_582 : decode cL_law 582 = .ok (.iadd, 1) := allD_get dtL_law7 44 rfl
def tbL_law8 : List (Nat × Instr × Nat) := [(583, .iaload, 1), (584, .invokevirtual 82, 3), (587, .aload_n 2, 1), (588, .aload_n 0, 1), (589, .iload_n 3, 1), (590, .iconst 1, 1), (591, .iadd, 1), (592, .iaload, 1), (593, .aload_n 0, 1), (594, .iload_n 3, 1), (595, .iconst 2, 1), (596, .iadd, 1), (597, .iaload, 1), (598, .aload_n 0, 1), (599, .iload_n 3, 1), (600, .iconst 3, 1), (601, .iadd, 1), (602, .iaload, 1), (603, .invokevirtual 85, 3), (606, .if_icmp .eq 239, 3), (609, .iconst 0, 1), (610, .ireturn, 1), (611, .aload_n 1, 1), (612, .aload_n 0, 1), (613, .iload_n 3, 1), (614, .iconst 1, 1), (615, .iadd, 1), (616, .iaload, 1), (617, .invokevirtual 86, 3), (620, .aload_n 2, 1), (621, .aload_n 0, 1), (622, .iload_n 3, 1), (623, .iconst 1, 1), (624, .iadd, 1), (625, .iaload, 1), (626, .invokevirtual 89, 3), (629, .if_icmp .eq 216, 3), (632, .iconst 0, 1), (633, .ireturn, 1), (634, .aload_n 1, 1), (635, .aload_n 0, 1), (636, .iload_n 3, 1), (637, .iconst 1, 1), (638, .iadd, 1), (639, .iaload, 1)]
set_option maxRecDepth 100000 in
theorem dtL_law8 : allD cL_law tbL_law8 = true := by decide +kernel
theorem dL_law_583 : decode cL_law 583 = .ok (.iaload, 1) := allD_get dtL_law8 0 rfl
theorem dL_law_584 : decode cL_law 584 = .ok (.invokevirtual 82, 3) := allD_get dtL_law8 1 rfl
theorem dL_law_587 : decode cL_law 587 = .ok (.aload_n 2, 1) := allD_get dtL_law8 2 rfl
theorem dL_law_588 : decode cL_law 588 = .ok (.aload_n 0, 1) := allD_get dtL_law8 3 rfl
theorem dL_law_589 : decode cL_law 589 = .ok (.iload_n 3, 1) := allD_get dtL_law8 4 rfl
theorem dL_law_590 : decode cL_law 590 = .ok (.iconst 1, 1) := allD_get dtL_law8 5 rfl
theorem dL_law_591 : decode cL_law 591 = .ok (.iadd, 1) := allD_get dtL_law8 6 rfl
theorem dL_law_592 : decode cL_law 592 = .ok (.iaload, 1) := allD_get dtL_law8 7 rfl
theorem dL_law_593 : decode cL_law 593 = .ok (.aload_n 0, 1) := allD_get dtL_law8 8 rfl
theorem dL_law_594 : decode cL_law 594 = .ok (.iload_n 3, 1) := allD_get dtL_law8 9 rfl
theorem dL_law_595 : decode cL_law 595 = .ok (.iconst 2, 1) := allD_get dtL_law8 10 rfl
theorem dL_law_596 : decode cL_law 596 = .ok (.iadd, 1) := allD_get dtL_law8 11 rfl
theorem dL_law_597 : decode cL_law 597 = .ok (.iaload, 1) := allD_get dtL_law8 12 rfl
theorem dL_law_598 : decode cL_law 598 = .ok (.aload_n 0, 1) := allD_get dtL_law8 13 rfl
theorem dL_law_599 : decode cL_law 599 = .ok (.iload_n 3, 1) := allD_get dtL_law8 14 rfl
theorem dL_law_600 : decode cL_law 600 = .ok (.iconst 3, 1) := allD_get dtL_law8 15 rfl
theorem dL_law_601 : decode cL_law 601 = .ok (.iadd, 1) := allD_get dtL_law8 16 rfl
theorem dL_law_602 : decode cL_law 602 = .ok (.iaload, 1) := allD_get dtL_law8 17 rfl
theorem dL_law_603 : decode cL_law 603 = .ok (.invokevirtual 85, 3) := allD_get dtL_law8 18 rfl
theorem dL_law_606 : decode cL_law 606 = .ok (.if_icmp .eq 239, 3) := allD_get dtL_law8 19 rfl
theorem dL_law_609 : decode cL_law 609 = .ok (.iconst 0, 1) := allD_get dtL_law8 20 rfl
theorem dL_law_610 : decode cL_law 610 = .ok (.ireturn, 1) := allD_get dtL_law8 21 rfl
theorem dL_law_611 : decode cL_law 611 = .ok (.aload_n 1, 1) := allD_get dtL_law8 22 rfl
theorem dL_law_612 : decode cL_law 612 = .ok (.aload_n 0, 1) := allD_get dtL_law8 23 rfl
theorem dL_law_613 : decode cL_law 613 = .ok (.iload_n 3, 1) := allD_get dtL_law8 24 rfl
theorem dL_law_614 : decode cL_law 614 = .ok (.iconst 1, 1) := allD_get dtL_law8 25 rfl
theorem dL_law_615 : decode cL_law 615 = .ok (.iadd, 1) := allD_get dtL_law8 26 rfl
theorem dL_law_616 : decode cL_law 616 = .ok (.iaload, 1) := allD_get dtL_law8 27 rfl
theorem dL_law_617 : decode cL_law 617 = .ok (.invokevirtual 86, 3) := allD_get dtL_law8 28 rfl
theorem dL_law_620 : decode cL_law 620 = .ok (.aload_n 2, 1) := allD_get dtL_law8 29 rfl
theorem dL_law_621 : decode cL_law 621 = .ok (.aload_n 0, 1) := allD_get dtL_law8 30 rfl
theorem dL_law_622 : decode cL_law 622 = .ok (.iload_n 3, 1) := allD_get dtL_law8 31 rfl
theorem dL_law_623 : decode cL_law 623 = .ok (.iconst 1, 1) := allD_get dtL_law8 32 rfl
theorem dL_law_624 : decode cL_law 624 = .ok (.iadd, 1) := allD_get dtL_law8 33 rfl
theorem dL_law_625 : decode cL_law 625 = .ok (.iaload, 1) := allD_get dtL_law8 34 rfl
theorem dL_law_626 : decode cL_law 626 = .ok (.invokevirtual 89, 3) := allD_get dtL_law8 35 rfl
theorem dL_law_629 : decode cL_law 629 = .ok (.if_icmp .eq 216, 3) := allD_get dtL_law8 36 rfl
theorem dL_law_632 : decode cL_law 632 = .ok (.iconst 0, 1) := allD_get dtL_law8 37 rfl
theorem dL_law_633 : decode cL_law 633 = .ok (.ireturn, 1) := allD_get dtL_law8 38 rfl
theorem dL_law_634 : decode cL_law 634 = .ok (.aload_n 1, 1) := allD_get dtL_law8 39 rfl
theorem dL_law_635 : decode cL_law 635 = .ok (.aload_n 0, 1) := allD_get dtL_law8 40 rfl
theorem dL_law_636 : decode cL_law 636 = .ok (.iload_n 3, 1) := allD_get dtL_law8 41 rfl
theorem dL_law_637 : decode cL_law 637 = .ok (.iconst 1, 1) := allD_get dtL_law8 42 rfl
theorem dL_law_638 : decode cL_law 638 = .ok (.iadd, 1) := allD_get dtL_law8 43 rfl
theorem dL_law_639 : decode cL_law 639 = .ok (.iaload, 1) := allD_get dtL_law8 44 rfl
def tbL_law9 : List (Nat × Instr × Nat) := [(640, .aload_n 0, 1), (641, .iload_n 3, 1), (642, .iconst 2, 1), (643, .iadd, 1), (644, .iaload, 1), (645, .invokevirtual 90, 3), (648, .aload_n 2, 1), (649, .aload_n 0, 1), (650, .iload_n 3, 1), (651, .iconst 1, 1), (652, .iadd, 1), (653, .iaload, 1), (654, .aload_n 0, 1), (655, .iload_n 3, 1), (656, .iconst 2, 1), (657, .iadd, 1), (658, .iaload, 1), (659, .invokevirtual 93, 3), (662, .if_icmp .eq 183, 3), (665, .iconst 0, 1), (666, .ireturn, 1), (667, .aload_n 1, 1), (668, .aload_n 0, 1), (669, .iload_n 3, 1), (670, .iconst 1, 1), (671, .iadd, 1), (672, .iaload, 1), (673, .aload_n 0, 1), (674, .iload_n 3, 1), (675, .iconst 2, 1), (676, .iadd, 1), (677, .iaload, 1), (678, .invokevirtual 94, 3), (681, .aload_n 2, 1), (682, .aload_n 0, 1), (683, .iload_n 3, 1), (684, .iconst 1, 1), (685, .iadd, 1), (686, .iaload, 1), (687, .aload_n 0, 1), (688, .iload_n 3, 1), (689, .iconst 2, 1), (690, .iadd, 1), (691, .iaload, 1), (692, .invokevirtual 97, 3)]
set_option maxRecDepth 100000 in
theorem dtL_law9 : allD cL_law tbL_law9 = true := by decide +kernel
theorem dL_law_640 : decode cL_law 640 = .ok (.aload_n 0, 1) := allD_get dtL_law9 0 rfl
theorem dL_law_641 : decode cL_law 641 = .ok (.iload_n 3, 1) := allD_get dtL_law9 1 rfl
theorem dL_law_642 : decode cL_law 642 = .ok (.iconst 2, 1) := allD_get dtL_law9 2 rfl
theorem dL_law_643 : decode cL_law 643 = .ok (.iadd, 1) := allD_get dtL_law9 3 rfl
theorem dL_law_644 : decode cL_law 644 = .ok (.iaload, 1) := allD_get dtL_law9 4 rfl
theorem dL_law_645 : decode cL_law 645 = .ok (.invokevirtual 90, 3) := allD_get dtL_law9 5 rfl
theorem dL_law_648 : decode cL_law 648 = .ok (.aload_n 2, 1) := allD_get dtL_law9 6 rfl
theorem dL_law_649 : decode cL_law 649 = .ok (.aload_n 0, 1) := allD_get dtL_law9 7 rfl
theorem dL_law_650 : decode cL_law 650 = .ok (.iload_n 3, 1) := allD_get dtL_law9 8 rfl
theorem dL_law_651 : decode cL_law 651 = .ok (.iconst 1, 1) := allD_get dtL_law9 9 rfl
theorem dL_law_652 : decode cL_law 652 = .ok (.iadd, 1) := allD_get dtL_law9 10 rfl
theorem dL_law_653 : decode cL_law 653 = .ok (.iaload, 1) := allD_get dtL_law9 11 rfl
theorem dL_law_654 : decode cL_law 654 = .ok (.aload_n 0, 1) := allD_get dtL_law9 12 rfl
theorem dL_law_655 : decode cL_law 655 = .ok (.iload_n 3, 1) := allD_get dtL_law9 13 rfl
theorem dL_law_656 : decode cL_law 656 = .ok (.iconst 2, 1) := allD_get dtL_law9 14 rfl
theorem dL_law_657 : decode cL_law 657 = .ok (.iadd, 1) := allD_get dtL_law9 15 rfl
theorem dL_law_658 : decode cL_law 658 = .ok (.iaload, 1) := allD_get dtL_law9 16 rfl
theorem dL_law_659 : decode cL_law 659 = .ok (.invokevirtual 93, 3) := allD_get dtL_law9 17 rfl
theorem dL_law_662 : decode cL_law 662 = .ok (.if_icmp .eq 183, 3) := allD_get dtL_law9 18 rfl
theorem dL_law_665 : decode cL_law 665 = .ok (.iconst 0, 1) := allD_get dtL_law9 19 rfl
theorem dL_law_666 : decode cL_law 666 = .ok (.ireturn, 1) := allD_get dtL_law9 20 rfl
theorem dL_law_667 : decode cL_law 667 = .ok (.aload_n 1, 1) := allD_get dtL_law9 21 rfl
theorem dL_law_668 : decode cL_law 668 = .ok (.aload_n 0, 1) := allD_get dtL_law9 22 rfl
theorem dL_law_669 : decode cL_law 669 = .ok (.iload_n 3, 1) := allD_get dtL_law9 23 rfl
theorem dL_law_670 : decode cL_law 670 = .ok (.iconst 1, 1) := allD_get dtL_law9 24 rfl
theorem dL_law_671 : decode cL_law 671 = .ok (.iadd, 1) := allD_get dtL_law9 25 rfl
theorem dL_law_672 : decode cL_law 672 = .ok (.iaload, 1) := allD_get dtL_law9 26 rfl
theorem dL_law_673 : decode cL_law 673 = .ok (.aload_n 0, 1) := allD_get dtL_law9 27 rfl
theorem dL_law_674 : decode cL_law 674 = .ok (.iload_n 3, 1) := allD_get dtL_law9 28 rfl
theorem dL_law_675 : decode cL_law 675 = .ok (.iconst 2, 1) := allD_get dtL_law9 29 rfl
theorem dL_law_676 : decode cL_law 676 = .ok (.iadd, 1) := allD_get dtL_law9 30 rfl
theorem dL_law_677 : decode cL_law 677 = .ok (.iaload, 1) := allD_get dtL_law9 31 rfl
theorem dL_law_678 : decode cL_law 678 = .ok (.invokevirtual 94, 3) := allD_get dtL_law9 32 rfl
theorem dL_law_681 : decode cL_law 681 = .ok (.aload_n 2, 1) := allD_get dtL_law9 33 rfl
theorem dL_law_682 : decode cL_law 682 = .ok (.aload_n 0, 1) := allD_get dtL_law9 34 rfl
theorem dL_law_683 : decode cL_law 683 = .ok (.iload_n 3, 1) := allD_get dtL_law9 35 rfl
theorem dL_law_684 : decode cL_law 684 = .ok (.iconst 1, 1) := allD_get dtL_law9 36 rfl
theorem dL_law_685 : decode cL_law 685 = .ok (.iadd, 1) := allD_get dtL_law9 37 rfl
theorem dL_law_686 : decode cL_law 686 = .ok (.iaload, 1) := allD_get dtL_law9 38 rfl
theorem dL_law_687 : decode cL_law 687 = .ok (.aload_n 0, 1) := allD_get dtL_law9 39 rfl
theorem dL_law_688 : decode cL_law 688 = .ok (.iload_n 3, 1) := allD_get dtL_law9 40 rfl
theorem dL_law_689 : decode cL_law 689 = .ok (.iconst 2, 1) := allD_get dtL_law9 41 rfl
theorem dL_law_690 : decode cL_law 690 = .ok (.iadd, 1) := allD_get dtL_law9 42 rfl
theorem dL_law_691 : decode cL_law 691 = .ok (.iaload, 1) := allD_get dtL_law9 43 rfl
theorem dL_law_692 : decode cL_law 692 = .ok (.invokevirtual 97, 3) := allD_get dtL_law9 44 rfl
def tbL_law10 : List (Nat × Instr × Nat) := [(695, .if_icmp .eq 150, 3), (698, .iconst 0, 1), (699, .ireturn, 1), (700, .aload_n 1, 1), (701, .aload_n 0, 1), (702, .iload_n 3, 1), (703, .iconst 1, 1), (704, .iadd, 1), (705, .iaload, 1), (706, .invokevirtual 98, 3), (709, .aload_n 2, 1), (710, .aload_n 0, 1), (711, .iload_n 3, 1), (712, .iconst 1, 1), (713, .iadd, 1), (714, .iaload, 1), (715, .invokevirtual 101, 3), (718, .if_icmp .eq 127, 3), (721, .iconst 0, 1), (722, .ireturn, 1), (723, .aload_n 1, 1), (724, .aload_n 0, 1), (725, .iload_n 3, 1), (726, .iconst 1, 1), (727, .iadd, 1), (728, .iaload, 1), (729, .aload_n 0, 1), (730, .iload_n 3, 1), (731, .iconst 2, 1), (732, .iadd, 1), (733, .iaload, 1), (734, .invokevirtual 102, 3), (737, .aload_n 2, 1), (738, .aload_n 0, 1), (739, .iload_n 3, 1), (740, .iconst 1, 1), (741, .iadd, 1), (742, .iaload, 1), (743, .aload_n 0, 1), (744, .iload_n 3, 1), (745, .iconst 2, 1), (746, .iadd, 1), (747, .iaload, 1), (748, .invokevirtual 105, 3), (751, .if_icmp .eq 94, 3)]
set_option maxRecDepth 100000 in
theorem dtL_law10 : allD cL_law tbL_law10 = true := by decide +kernel
theorem dL_law_695 : decode cL_law 695 = .ok (.if_icmp .eq 150, 3) := allD_get dtL_law10 0 rfl
theorem dL_law_698 : decode cL_law 698 = .ok (.iconst 0, 1) := allD_get dtL_law10 1 rfl
theorem dL_law_699 : decode cL_law 699 = .ok (.ireturn, 1) := allD_get dtL_law10 2 rfl
theorem dL_law_700 : decode cL_law 700 = .ok (.aload_n 1, 1) := allD_get dtL_law10 3 rfl
theorem dL_law_701 : decode cL_law 701 = .ok (.aload_n 0, 1) := allD_get dtL_law10 4 rfl
theorem dL_law_702 : decode cL_law 702 = .ok (.iload_n 3, 1) := allD_get dtL_law10 5 rfl
theorem dL_law_703 : decode cL_law 703 = .ok (.iconst 1, 1) := allD_get dtL_law10 6 rfl
theorem dL_law_704 : decode cL_law 704 = .ok (.iadd, 1) := allD_get dtL_law10 7 rfl
theorem dL_law_705 : decode cL_law 705 = .ok (.iaload, 1) := allD_get dtL_law10 8 rfl
theorem dL_law_706 : decode cL_law 706 = .ok (.invokevirtual 98, 3) := allD_get dtL_law10 9 rfl
theorem dL_law_709 : decode cL_law 709 = .ok (.aload_n 2, 1) := allD_get dtL_law10 10 rfl
theorem dL_law_710 : decode cL_law 710 = .ok (.aload_n 0, 1) := allD_get dtL_law10 11 rfl
theorem dL_law_711 : decode cL_law 711 = .ok (.iload_n 3, 1) := allD_get dtL_law10 12 rfl
theorem dL_law_712 : decode cL_law 712 = .ok (.iconst 1, 1) := allD_get dtL_law10 13 rfl
theorem dL_law_713 : decode cL_law 713 = .ok (.iadd, 1) := allD_get dtL_law10 14 rfl
theorem dL_law_714 : decode cL_law 714 = .ok (.iaload, 1) := allD_get dtL_law10 15 rfl
theorem dL_law_715 : decode cL_law 715 = .ok (.invokevirtual 101, 3) := allD_get dtL_law10 16 rfl
theorem dL_law_718 : decode cL_law 718 = .ok (.if_icmp .eq 127, 3) := allD_get dtL_law10 17 rfl
theorem dL_law_721 : decode cL_law 721 = .ok (.iconst 0, 1) := allD_get dtL_law10 18 rfl
theorem dL_law_722 : decode cL_law 722 = .ok (.ireturn, 1) := allD_get dtL_law10 19 rfl
theorem dL_law_723 : decode cL_law 723 = .ok (.aload_n 1, 1) := allD_get dtL_law10 20 rfl
theorem dL_law_724 : decode cL_law 724 = .ok (.aload_n 0, 1) := allD_get dtL_law10 21 rfl
theorem dL_law_725 : decode cL_law 725 = .ok (.iload_n 3, 1) := allD_get dtL_law10 22 rfl
theorem dL_law_726 : decode cL_law 726 = .ok (.iconst 1, 1) := allD_get dtL_law10 23 rfl
theorem dL_law_727 : decode cL_law 727 = .ok (.iadd, 1) := allD_get dtL_law10 24 rfl
theorem dL_law_728 : decode cL_law 728 = .ok (.iaload, 1) := allD_get dtL_law10 25 rfl
theorem dL_law_729 : decode cL_law 729 = .ok (.aload_n 0, 1) := allD_get dtL_law10 26 rfl
theorem dL_law_730 : decode cL_law 730 = .ok (.iload_n 3, 1) := allD_get dtL_law10 27 rfl
theorem dL_law_731 : decode cL_law 731 = .ok (.iconst 2, 1) := allD_get dtL_law10 28 rfl
theorem dL_law_732 : decode cL_law 732 = .ok (.iadd, 1) := allD_get dtL_law10 29 rfl
theorem dL_law_733 : decode cL_law 733 = .ok (.iaload, 1) := allD_get dtL_law10 30 rfl
theorem dL_law_734 : decode cL_law 734 = .ok (.invokevirtual 102, 3) := allD_get dtL_law10 31 rfl
theorem dL_law_737 : decode cL_law 737 = .ok (.aload_n 2, 1) := allD_get dtL_law10 32 rfl
theorem dL_law_738 : decode cL_law 738 = .ok (.aload_n 0, 1) := allD_get dtL_law10 33 rfl
theorem dL_law_739 : decode cL_law 739 = .ok (.iload_n 3, 1) := allD_get dtL_law10 34 rfl
theorem dL_law_740 : decode cL_law 740 = .ok (.iconst 1, 1) := allD_get dtL_law10 35 rfl
theorem dL_law_741 : decode cL_law 741 = .ok (.iadd, 1) := allD_get dtL_law10 36 rfl
theorem dL_law_742 : decode cL_law 742 = .ok (.iaload, 1) := allD_get dtL_law10 37 rfl
theorem dL_law_743 : decode cL_law 743 = .ok (.aload_n 0, 1) := allD_get dtL_law10 38 rfl
theorem dL_law_744 : decode cL_law 744 = .ok (.iload_n 3, 1) := allD_get dtL_law10 39 rfl
theorem dL_law_745 : decode cL_law 745 = .ok (.iconst 2, 1) := allD_get dtL_law10 40 rfl
theorem dL_law_746 : decode cL_law 746 = .ok (.iadd, 1) := allD_get dtL_law10 41 rfl
theorem dL_law_747 : decode cL_law 747 = .ok (.iaload, 1) := allD_get dtL_law10 42 rfl
theorem dL_law_748 : decode cL_law 748 = .ok (.invokevirtual 105, 3) := allD_get dtL_law10 43 rfl
theorem dL_law_751 : decode cL_law 751 = .ok (.if_icmp .eq 94, 3) := allD_get dtL_law10 44 rfl
def tbL_law11 : List (Nat × Instr × Nat) := [(754, .iconst 0, 1), (755, .ireturn, 1), (756, .aload_n 1, 1), (757, .aload_n 0, 1), (758, .iload_n 3, 1), (759, .iconst 1, 1), (760, .iadd, 1), (761, .iaload, 1), (762, .aload_n 0, 1), (763, .iload_n 3, 1), (764, .iconst 2, 1), (765, .iadd, 1), (766, .iaload, 1), (767, .invokevirtual 106, 3), (770, .aload_n 2, 1), (771, .aload_n 0, 1), (772, .iload_n 3, 1), (773, .iconst 1, 1), (774, .iadd, 1), (775, .iaload, 1), (776, .aload_n 0, 1), (777, .iload_n 3, 1), (778, .iconst 2, 1), (779, .iadd, 1), (780, .iaload, 1), (781, .invokevirtual 109, 3), (784, .if_icmp .eq 61, 3), (787, .iconst 0, 1), (788, .ireturn, 1), (789, .aload_n 1, 1), (790, .aload_n 0, 1), (791, .iload_n 3, 1), (792, .iconst 1, 1), (793, .iadd, 1), (794, .iaload, 1), (795, .aload_n 0, 1), (796, .iload_n 3, 1), (797, .iconst 2, 1), (798, .iadd, 1), (799, .iaload, 1), (800, .invokevirtual 110, 3), (803, .aload_n 2, 1), (804, .aload_n 0, 1), (805, .iload_n 3, 1), (806, .iconst 1, 1)]
set_option maxRecDepth 100000 in
theorem dtL_law11 : allD cL_law tbL_law11 = true := by decide +kernel
theorem dL_law_754 : decode cL_law 754 = .ok (.iconst 0, 1) := allD_get dtL_law11 0 rfl
theorem dL_law_755 : decode cL_law 755 = .ok (.ireturn, 1) := allD_get dtL_law11 1 rfl
theorem dL_law_756 : decode cL_law 756 = .ok (.aload_n 1, 1) := allD_get dtL_law11 2 rfl
theorem dL_law_757 : decode cL_law 757 = .ok (.aload_n 0, 1) := allD_get dtL_law11 3 rfl
theorem dL_law_758 : decode cL_law 758 = .ok (.iload_n 3, 1) := allD_get dtL_law11 4 rfl
theorem dL_law_759 : decode cL_law 759 = .ok (.iconst 1, 1) := allD_get dtL_law11 5 rfl
theorem dL_law_760 : decode cL_law 760 = .ok (.iadd, 1) := allD_get dtL_law11 6 rfl
theorem dL_law_761 : decode cL_law 761 = .ok (.iaload, 1) := allD_get dtL_law11 7 rfl
theorem dL_law_762 : decode cL_law 762 = .ok (.aload_n 0, 1) := allD_get dtL_law11 8 rfl
theorem dL_law_763 : decode cL_law 763 = .ok (.iload_n 3, 1) := allD_get dtL_law11 9 rfl
theorem dL_law_764 : decode cL_law 764 = .ok (.iconst 2, 1) := allD_get dtL_law11 10 rfl
theorem dL_law_765 : decode cL_law 765 = .ok (.iadd, 1) := allD_get dtL_law11 11 rfl
theorem dL_law_766 : decode cL_law 766 = .ok (.iaload, 1) := allD_get dtL_law11 12 rfl
theorem dL_law_767 : decode cL_law 767 = .ok (.invokevirtual 106, 3) := allD_get dtL_law11 13 rfl
theorem dL_law_770 : decode cL_law 770 = .ok (.aload_n 2, 1) := allD_get dtL_law11 14 rfl
theorem dL_law_771 : decode cL_law 771 = .ok (.aload_n 0, 1) := allD_get dtL_law11 15 rfl
theorem dL_law_772 : decode cL_law 772 = .ok (.iload_n 3, 1) := allD_get dtL_law11 16 rfl
theorem dL_law_773 : decode cL_law 773 = .ok (.iconst 1, 1) := allD_get dtL_law11 17 rfl
theorem dL_law_774 : decode cL_law 774 = .ok (.iadd, 1) := allD_get dtL_law11 18 rfl
theorem dL_law_775 : decode cL_law 775 = .ok (.iaload, 1) := allD_get dtL_law11 19 rfl
theorem dL_law_776 : decode cL_law 776 = .ok (.aload_n 0, 1) := allD_get dtL_law11 20 rfl
theorem dL_law_777 : decode cL_law 777 = .ok (.iload_n 3, 1) := allD_get dtL_law11 21 rfl
theorem dL_law_778 : decode cL_law 778 = .ok (.iconst 2, 1) := allD_get dtL_law11 22 rfl
theorem dL_law_779 : decode cL_law 779 = .ok (.iadd, 1) := allD_get dtL_law11 23 rfl
theorem dL_law_780 : decode cL_law 780 = .ok (.iaload, 1) := allD_get dtL_law11 24 rfl
theorem dL_law_781 : decode cL_law 781 = .ok (.invokevirtual 109, 3) := allD_get dtL_law11 25 rfl
theorem dL_law_784 : decode cL_law 784 = .ok (.if_icmp .eq 61, 3) := allD_get dtL_law11 26 rfl
theorem dL_law_787 : decode cL_law 787 = .ok (.iconst 0, 1) := allD_get dtL_law11 27 rfl
theorem dL_law_788 : decode cL_law 788 = .ok (.ireturn, 1) := allD_get dtL_law11 28 rfl
theorem dL_law_789 : decode cL_law 789 = .ok (.aload_n 1, 1) := allD_get dtL_law11 29 rfl
theorem dL_law_790 : decode cL_law 790 = .ok (.aload_n 0, 1) := allD_get dtL_law11 30 rfl
theorem dL_law_791 : decode cL_law 791 = .ok (.iload_n 3, 1) := allD_get dtL_law11 31 rfl
theorem dL_law_792 : decode cL_law 792 = .ok (.iconst 1, 1) := allD_get dtL_law11 32 rfl
theorem dL_law_793 : decode cL_law 793 = .ok (.iadd, 1) := allD_get dtL_law11 33 rfl
theorem dL_law_794 : decode cL_law 794 = .ok (.iaload, 1) := allD_get dtL_law11 34 rfl
theorem dL_law_795 : decode cL_law 795 = .ok (.aload_n 0, 1) := allD_get dtL_law11 35 rfl
theorem dL_law_796 : decode cL_law 796 = .ok (.iload_n 3, 1) := allD_get dtL_law11 36 rfl
theorem dL_law_797 : decode cL_law 797 = .ok (.iconst 2, 1) := allD_get dtL_law11 37 rfl
theorem dL_law_798 : decode cL_law 798 = .ok (.iadd, 1) := allD_get dtL_law11 38 rfl
theorem dL_law_799 : decode cL_law 799 = .ok (.iaload, 1) := allD_get dtL_law11 39 rfl
theorem dL_law_800 : decode cL_law 800 = .ok (.invokevirtual 110, 3) := allD_get dtL_law11 40 rfl
theorem dL_law_803 : decode cL_law 803 = .ok (.aload_n 2, 1) := allD_get dtL_law11 41 rfl
theorem dL_law_804 : decode cL_law 804 = .ok (.aload_n 0, 1) := allD_get dtL_law11 42 rfl
theorem dL_law_805 : decode cL_law 805 = .ok (.iload_n 3, 1) := allD_get dtL_law11 43 rfl
theorem dL_law_806 : decode cL_law 806 = .ok (.iconst 1, 1) := allD_get dtL_law11 44 rfl
def tbL_law12 : List (Nat × Instr × Nat) := [(807, .iadd, 1), (808, .iaload, 1), (809, .aload_n 0, 1), (810, .iload_n 3, 1), (811, .iconst 2, 1), (812, .iadd, 1), (813, .iaload, 1), (814, .invokevirtual 113, 3), (817, .if_icmp .eq 28, 3), (820, .iconst 0, 1), (821, .ireturn, 1), (822, .aload_n 1, 1), (823, .aload_n 0, 1), (824, .iload_n 3, 1), (825, .iconst 1, 1), (826, .iadd, 1), (827, .iaload, 1), (828, .invokevirtual 114, 3), (831, .aload_n 2, 1), (832, .aload_n 0, 1), (833, .iload_n 3, 1), (834, .iconst 1, 1), (835, .iadd, 1), (836, .iaload, 1), (837, .invokevirtual 117, 3), (840, .if_icmp .eq 5, 3), (843, .iconst 0, 1), (844, .ireturn, 1), (845, .iinc 3 4, 3), (848, .goto (-830), 3), (851, .iconst 1, 1), (852, .ireturn, 1)]
set_option maxRecDepth 100000 in
theorem dtL_law12 : allD cL_law tbL_law12 = true := by decide +kernel
theorem dL_law_807 : decode cL_law 807 = .ok (.iadd, 1) := allD_get dtL_law12 0 rfl
theorem dL_law_808 : decode cL_law 808 = .ok (.iaload, 1) := allD_get dtL_law12 1 rfl
theorem dL_law_809 : decode cL_law 809 = .ok (.aload_n 0, 1) := allD_get dtL_law12 2 rfl
theorem dL_law_810 : decode cL_law 810 = .ok (.iload_n 3, 1) := allD_get dtL_law12 3 rfl
theorem dL_law_811 : decode cL_law 811 = .ok (.iconst 2, 1) := allD_get dtL_law12 4 rfl
theorem dL_law_812 : decode cL_law 812 = .ok (.iadd, 1) := allD_get dtL_law12 5 rfl
theorem dL_law_813 : decode cL_law 813 = .ok (.iaload, 1) := allD_get dtL_law12 6 rfl
theorem dL_law_814 : decode cL_law 814 = .ok (.invokevirtual 113, 3) := allD_get dtL_law12 7 rfl
theorem dL_law_817 : decode cL_law 817 = .ok (.if_icmp .eq 28, 3) := allD_get dtL_law12 8 rfl
theorem dL_law_820 : decode cL_law 820 = .ok (.iconst 0, 1) := allD_get dtL_law12 9 rfl
theorem dL_law_821 : decode cL_law 821 = .ok (.ireturn, 1) := allD_get dtL_law12 10 rfl
theorem dL_law_822 : decode cL_law 822 = .ok (.aload_n 1, 1) := allD_get dtL_law12 11 rfl
theorem dL_law_823 : decode cL_law 823 = .ok (.aload_n 0, 1) := allD_get dtL_law12 12 rfl
theorem dL_law_824 : decode cL_law 824 = .ok (.iload_n 3, 1) := allD_get dtL_law12 13 rfl
theorem dL_law_825 : decode cL_law 825 = .ok (.iconst 1, 1) := allD_get dtL_law12 14 rfl
theorem dL_law_826 : decode cL_law 826 = .ok (.iadd, 1) := allD_get dtL_law12 15 rfl
theorem dL_law_827 : decode cL_law 827 = .ok (.iaload, 1) := allD_get dtL_law12 16 rfl
theorem dL_law_828 : decode cL_law 828 = .ok (.invokevirtual 114, 3) := allD_get dtL_law12 17 rfl
theorem dL_law_831 : decode cL_law 831 = .ok (.aload_n 2, 1) := allD_get dtL_law12 18 rfl
theorem dL_law_832 : decode cL_law 832 = .ok (.aload_n 0, 1) := allD_get dtL_law12 19 rfl
theorem dL_law_833 : decode cL_law 833 = .ok (.iload_n 3, 1) := allD_get dtL_law12 20 rfl
theorem dL_law_834 : decode cL_law 834 = .ok (.iconst 1, 1) := allD_get dtL_law12 21 rfl
theorem dL_law_835 : decode cL_law 835 = .ok (.iadd, 1) := allD_get dtL_law12 22 rfl
theorem dL_law_836 : decode cL_law 836 = .ok (.iaload, 1) := allD_get dtL_law12 23 rfl
theorem dL_law_837 : decode cL_law 837 = .ok (.invokevirtual 117, 3) := allD_get dtL_law12 24 rfl
theorem dL_law_840 : decode cL_law 840 = .ok (.if_icmp .eq 5, 3) := allD_get dtL_law12 25 rfl
theorem dL_law_843 : decode cL_law 843 = .ok (.iconst 0, 1) := allD_get dtL_law12 26 rfl
theorem dL_law_844 : decode cL_law 844 = .ok (.ireturn, 1) := allD_get dtL_law12 27 rfl
theorem dL_law_845 : decode cL_law 845 = .ok (.iinc 3 4, 3) := allD_get dtL_law12 28 rfl
theorem dL_law_848 : decode cL_law 848 = .ok (.goto (-830), 3) := allD_get dtL_law12 29 rfl
theorem dL_law_851 : decode cL_law 851 = .ok (.iconst 1, 1) := allD_get dtL_law12 30 rfl
theorem dL_law_852 : decode cL_law 852 = .ok (.ireturn, 1) := allD_get dtL_law12 31 rfl
set_option maxRecDepth 100000 in
theorem dL_law_32 : decode cL_law 32 = .ok (.tableswitch 813 0 24 #[116, 149, 162, 187, 200, 213, 236, 279, 312, 345, 378, 421, 454, 477, 490, 503, 536, 579, 602, 635, 668, 691, 724, 757, 790], 116) := by decide +kernel
