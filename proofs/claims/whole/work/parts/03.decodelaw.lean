/-- FieldsToldLaw.law -/
abbrev y_Law_law : Nat := 198
def tb_Law_law_0 : List (Nat × Instr × Nat) := [(0, .new 7, 3), (3, .dup, 1), (4, .invokespecial 9, 3), (7, .astore_n 1, 1), (8, .new 10, 3), (11, .dup, 1), (12, .invokespecial 12, 3), (15, .astore_n 2, 1), (16, .iconst 0, 1), (17, .istore_n 3, 1), (18, .iload_n 3, 1), (19, .aload_n 0, 1), (20, .arraylength, 1), (21, .bipush 6, 2), (23, .isub, 1), (24, .if_icmp .gt 1350, 3), (27, .aload_n 0, 1), (28, .iload_n 3, 1), (29, .iaload, 1), (30, .bipush 63, 2), (32, .iand, 1), (33, .tableswitch 1335 0 36 #[163, 196, 229, 262, 295, 328, 361, 404, 437, 460, 483, 516, 539, 602, 625, 678, 711, 734, 767, 810, 843, 876, 909, 943, 966, 1009, 1032, 1075, 1118, 1181, 1204, 1227, 1240, 1253, 1276, 1289, 1312], 163), (196, .aload_n 1, 1), (197, .aload_n 0, 1)]
theorem ok_Law_law_0 : (tb_Law_law_0.all fun e => decide (ab_ins y_Law_law e.1 = some e.2)) = true := by decide +kernel
theorem d_Law_law_0 : ab_ins y_Law_law 0 = some (.new 7, 3) := ab_tb (e := (0, .new 7, 3)) ok_Law_law_0 0 (by decide +kernel)
theorem d_Law_law_3 : ab_ins y_Law_law 3 = some (.dup, 1) := ab_tb (e := (3, .dup, 1)) ok_Law_law_0 1 (by decide +kernel)
theorem d_Law_law_4 : ab_ins y_Law_law 4 = some (.invokespecial 9, 3) := ab_tb (e := (4, .invokespecial 9, 3)) ok_Law_law_0 2 (by decide +kernel)
theorem d_Law_law_7 : ab_ins y_Law_law 7 = some (.astore_n 1, 1) := ab_tb (e := (7, .astore_n 1, 1)) ok_Law_law_0 3 (by decide +kernel)
theorem d_Law_law_8 : ab_ins y_Law_law 8 = some (.new 10, 3) := ab_tb (e := (8, .new 10, 3)) ok_Law_law_0 4 (by decide +kernel)
theorem d_Law_law_11 : ab_ins y_Law_law 11 = some (.dup, 1) := ab_tb (e := (11, .dup, 1)) ok_Law_law_0 5 (by decide +kernel)
theorem d_Law_law_12 : ab_ins y_Law_law 12 = some (.invokespecial 12, 3) := ab_tb (e := (12, .invokespecial 12, 3)) ok_Law_law_0 6 (by decide +kernel)
theorem d_Law_law_15 : ab_ins y_Law_law 15 = some (.astore_n 2, 1) := ab_tb (e := (15, .astore_n 2, 1)) ok_Law_law_0 7 (by decide +kernel)
theorem d_Law_law_16 : ab_ins y_Law_law 16 = some (.iconst 0, 1) := ab_tb (e := (16, .iconst 0, 1)) ok_Law_law_0 8 (by decide +kernel)
theorem d_Law_law_17 : ab_ins y_Law_law 17 = some (.istore_n 3, 1) := ab_tb (e := (17, .istore_n 3, 1)) ok_Law_law_0 9 (by decide +kernel)
theorem d_Law_law_18 : ab_ins y_Law_law 18 = some (.iload_n 3, 1) := ab_tb (e := (18, .iload_n 3, 1)) ok_Law_law_0 10 (by decide +kernel)
theorem d_Law_law_19 : ab_ins y_Law_law 19 = some (.aload_n 0, 1) := ab_tb (e := (19, .aload_n 0, 1)) ok_Law_law_0 11 (by decide +kernel)
theorem d_Law_law_20 : ab_ins y_Law_law 20 = some (.arraylength, 1) := ab_tb (e := (20, .arraylength, 1)) ok_Law_law_0 12 (by decide +kernel)
theorem d_Law_law_21 : ab_ins y_Law_law 21 = some (.bipush 6, 2) := ab_tb (e := (21, .bipush 6, 2)) ok_Law_law_0 13 (by decide +kernel)
theorem d_Law_law_23 : ab_ins y_Law_law 23 = some (.isub, 1) := ab_tb (e := (23, .isub, 1)) ok_Law_law_0 14 (by decide +kernel)
theorem d_Law_law_24 : ab_ins y_Law_law 24 = some (.if_icmp .gt 1350, 3) := ab_tb (e := (24, .if_icmp .gt 1350, 3)) ok_Law_law_0 15 (by decide +kernel)
theorem d_Law_law_27 : ab_ins y_Law_law 27 = some (.aload_n 0, 1) := ab_tb (e := (27, .aload_n 0, 1)) ok_Law_law_0 16 (by decide +kernel)
theorem d_Law_law_28 : ab_ins y_Law_law 28 = some (.iload_n 3, 1) := ab_tb (e := (28, .iload_n 3, 1)) ok_Law_law_0 17 (by decide +kernel)
theorem d_Law_law_29 : ab_ins y_Law_law 29 = some (.iaload, 1) := ab_tb (e := (29, .iaload, 1)) ok_Law_law_0 18 (by decide +kernel)
theorem d_Law_law_30 : ab_ins y_Law_law 30 = some (.bipush 63, 2) := ab_tb (e := (30, .bipush 63, 2)) ok_Law_law_0 19 (by decide +kernel)
theorem d_Law_law_32 : ab_ins y_Law_law 32 = some (.iand, 1) := ab_tb (e := (32, .iand, 1)) ok_Law_law_0 20 (by decide +kernel)
theorem d_Law_law_33 : ab_ins y_Law_law 33 = some (.tableswitch 1335 0 36 #[163, 196, 229, 262, 295, 328, 361, 404, 437, 460, 483, 516, 539, 602, 625, 678, 711, 734, 767, 810, 843, 876, 909, 943, 966, 1009, 1032, 1075, 1118, 1181, 1204, 1227, 1240, 1253, 1276, 1289, 1312], 163) := ab_tb (e := (33, .tableswitch 1335 0 36 #[163, 196, 229, 262, 295, 328, 361, 404, 437, 460, 483, 516, 539, 602, 625, 678, 711, 734, 767, 810, 843, 876, 909, 943, 966, 1009, 1032, 1075, 1118, 1181, 1204, 1227, 1240, 1253, 1276, 1289, 1312], 163)) ok_Law_law_0 21 (by decide +kernel)
theorem d_Law_law_196 : ab_ins y_Law_law 196 = some (.aload_n 1, 1) := ab_tb (e := (196, .aload_n 1, 1)) ok_Law_law_0 22 (by decide +kernel)
theorem d_Law_law_197 : ab_ins y_Law_law 197 = some (.aload_n 0, 1) := ab_tb (e := (197, .aload_n 0, 1)) ok_Law_law_0 23 (by decide +kernel)
def tb_Law_law_1 : List (Nat × Instr × Nat) := [(198, .iload_n 3, 1), (199, .iconst 1, 1), (200, .iadd, 1), (201, .iaload, 1), (202, .aload_n 0, 1), (203, .iload_n 3, 1), (204, .iconst 2, 1), (205, .iadd, 1), (206, .iaload, 1), (207, .invokevirtual 13, 3), (210, .aload_n 2, 1), (211, .aload_n 0, 1), (212, .iload_n 3, 1), (213, .iconst 1, 1), (214, .iadd, 1), (215, .iaload, 1), (216, .aload_n 0, 1), (217, .iload_n 3, 1), (218, .iconst 2, 1), (219, .iadd, 1), (220, .iaload, 1), (221, .invokevirtual 17, 3), (224, .if_icmp .eq 1144, 3), (227, .iconst 0, 1)]
theorem ok_Law_law_1 : (tb_Law_law_1.all fun e => decide (ab_ins y_Law_law e.1 = some e.2)) = true := by decide +kernel
theorem d_Law_law_198 : ab_ins y_Law_law 198 = some (.iload_n 3, 1) := ab_tb (e := (198, .iload_n 3, 1)) ok_Law_law_1 0 rfl
theorem d_Law_law_199 : ab_ins y_Law_law 199 = some (.iconst 1, 1) := ab_tb (e := (199, .iconst 1, 1)) ok_Law_law_1 1 rfl
theorem d_Law_law_200 : ab_ins y_Law_law 200 = some (.iadd, 1) := ab_tb (e := (200, .iadd, 1)) ok_Law_law_1 2 rfl
theorem d_Law_law_201 : ab_ins y_Law_law 201 = some (.iaload, 1) := ab_tb (e := (201, .iaload, 1)) ok_Law_law_1 3 rfl
theorem d_Law_law_202 : ab_ins y_Law_law 202 = some (.aload_n 0, 1) := ab_tb (e := (202, .aload_n 0, 1)) ok_Law_law_1 4 rfl
theorem d_Law_law_203 : ab_ins y_Law_law 203 = some (.iload_n 3, 1) := ab_tb (e := (203, .iload_n 3, 1)) ok_Law_law_1 5 rfl
theorem d_Law_law_204 : ab_ins y_Law_law 204 = some (.iconst 2, 1) := ab_tb (e := (204, .iconst 2, 1)) ok_Law_law_1 6 rfl
theorem d_Law_law_205 : ab_ins y_Law_law 205 = some (.iadd, 1) := ab_tb (e := (205, .iadd, 1)) ok_Law_law_1 7 rfl
theorem d_Law_law_206 : ab_ins y_Law_law 206 = some (.iaload, 1) := ab_tb (e := (206, .iaload, 1)) ok_Law_law_1 8 rfl
theorem d_Law_law_207 : ab_ins y_Law_law 207 = some (.invokevirtual 13, 3) := ab_tb (e := (207, .invokevirtual 13, 3)) ok_Law_law_1 9 rfl
theorem d_Law_law_210 : ab_ins y_Law_law 210 = some (.aload_n 2, 1) := ab_tb (e := (210, .aload_n 2, 1)) ok_Law_law_1 10 rfl
theorem d_Law_law_211 : ab_ins y_Law_law 211 = some (.aload_n 0, 1) := ab_tb (e := (211, .aload_n 0, 1)) ok_Law_law_1 11 rfl
theorem d_Law_law_212 : ab_ins y_Law_law 212 = some (.iload_n 3, 1) := ab_tb (e := (212, .iload_n 3, 1)) ok_Law_law_1 12 rfl
theorem d_Law_law_213 : ab_ins y_Law_law 213 = some (.iconst 1, 1) := ab_tb (e := (213, .iconst 1, 1)) ok_Law_law_1 13 rfl
theorem d_Law_law_214 : ab_ins y_Law_law 214 = some (.iadd, 1) := ab_tb (e := (214, .iadd, 1)) ok_Law_law_1 14 rfl
theorem d_Law_law_215 : ab_ins y_Law_law 215 = some (.iaload, 1) := ab_tb (e := (215, .iaload, 1)) ok_Law_law_1 15 rfl
theorem d_Law_law_216 : ab_ins y_Law_law 216 = some (.aload_n 0, 1) := ab_tb (e := (216, .aload_n 0, 1)) ok_Law_law_1 16 rfl
theorem d_Law_law_217 : ab_ins y_Law_law 217 = some (.iload_n 3, 1) := ab_tb (e := (217, .iload_n 3, 1)) ok_Law_law_1 17 rfl
theorem d_Law_law_218 : ab_ins y_Law_law 218 = some (.iconst 2, 1) := ab_tb (e := (218, .iconst 2, 1)) ok_Law_law_1 18 rfl
theorem d_Law_law_219 : ab_ins y_Law_law 219 = some (.iadd, 1) := ab_tb (e := (219, .iadd, 1)) ok_Law_law_1 19 rfl
theorem d_Law_law_220 : ab_ins y_Law_law 220 = some (.iaload, 1) := ab_tb (e := (220, .iaload, 1)) ok_Law_law_1 20 rfl
theorem d_Law_law_221 : ab_ins y_Law_law 221 = some (.invokevirtual 17, 3) := ab_tb (e := (221, .invokevirtual 17, 3)) ok_Law_law_1 21 rfl
theorem d_Law_law_224 : ab_ins y_Law_law 224 = some (.if_icmp .eq 1144, 3) := ab_tb (e := (224, .if_icmp .eq 1144, 3)) ok_Law_law_1 22 rfl
theorem d_Law_law_227 : ab_ins y_Law_law 227 = some (.iconst 0, 1) := ab_tb (e := (227, .iconst 0, 1)) ok_Law_law_1 23 rfl
def tb_Law_law_2 : List (Nat × Instr × Nat) := [(228, .ireturn, 1), (229, .aload_n 1, 1), (230, .aload_n 0, 1), (231, .iload_n 3, 1), (232, .iconst 1, 1), (233, .iadd, 1), (234, .iaload, 1), (235, .aload_n 0, 1), (236, .iload_n 3, 1), (237, .iconst 2, 1), (238, .iadd, 1), (239, .iaload, 1), (240, .invokevirtual 18, 3), (243, .aload_n 2, 1), (244, .aload_n 0, 1), (245, .iload_n 3, 1), (246, .iconst 1, 1), (247, .iadd, 1), (248, .iaload, 1), (249, .aload_n 0, 1), (250, .iload_n 3, 1), (251, .iconst 2, 1), (252, .iadd, 1), (253, .iaload, 1)]
theorem ok_Law_law_2 : (tb_Law_law_2.all fun e => decide (ab_ins y_Law_law e.1 = some e.2)) = true := by decide +kernel
theorem d_Law_law_228 : ab_ins y_Law_law 228 = some (.ireturn, 1) := ab_tb (e := (228, .ireturn, 1)) ok_Law_law_2 0 rfl
theorem d_Law_law_229 : ab_ins y_Law_law 229 = some (.aload_n 1, 1) := ab_tb (e := (229, .aload_n 1, 1)) ok_Law_law_2 1 rfl
theorem d_Law_law_230 : ab_ins y_Law_law 230 = some (.aload_n 0, 1) := ab_tb (e := (230, .aload_n 0, 1)) ok_Law_law_2 2 rfl
theorem d_Law_law_231 : ab_ins y_Law_law 231 = some (.iload_n 3, 1) := ab_tb (e := (231, .iload_n 3, 1)) ok_Law_law_2 3 rfl
theorem d_Law_law_232 : ab_ins y_Law_law 232 = some (.iconst 1, 1) := ab_tb (e := (232, .iconst 1, 1)) ok_Law_law_2 4 rfl
theorem d_Law_law_233 : ab_ins y_Law_law 233 = some (.iadd, 1) := ab_tb (e := (233, .iadd, 1)) ok_Law_law_2 5 rfl
theorem d_Law_law_234 : ab_ins y_Law_law 234 = some (.iaload, 1) := ab_tb (e := (234, .iaload, 1)) ok_Law_law_2 6 rfl
theorem d_Law_law_235 : ab_ins y_Law_law 235 = some (.aload_n 0, 1) := ab_tb (e := (235, .aload_n 0, 1)) ok_Law_law_2 7 rfl
theorem d_Law_law_236 : ab_ins y_Law_law 236 = some (.iload_n 3, 1) := ab_tb (e := (236, .iload_n 3, 1)) ok_Law_law_2 8 rfl
theorem d_Law_law_237 : ab_ins y_Law_law 237 = some (.iconst 2, 1) := ab_tb (e := (237, .iconst 2, 1)) ok_Law_law_2 9 rfl
theorem d_Law_law_238 : ab_ins y_Law_law 238 = some (.iadd, 1) := ab_tb (e := (238, .iadd, 1)) ok_Law_law_2 10 rfl
theorem d_Law_law_239 : ab_ins y_Law_law 239 = some (.iaload, 1) := ab_tb (e := (239, .iaload, 1)) ok_Law_law_2 11 rfl
theorem d_Law_law_240 : ab_ins y_Law_law 240 = some (.invokevirtual 18, 3) := ab_tb (e := (240, .invokevirtual 18, 3)) ok_Law_law_2 12 rfl
theorem d_Law_law_243 : ab_ins y_Law_law 243 = some (.aload_n 2, 1) := ab_tb (e := (243, .aload_n 2, 1)) ok_Law_law_2 13 rfl
theorem d_Law_law_244 : ab_ins y_Law_law 244 = some (.aload_n 0, 1) := ab_tb (e := (244, .aload_n 0, 1)) ok_Law_law_2 14 rfl
theorem d_Law_law_245 : ab_ins y_Law_law 245 = some (.iload_n 3, 1) := ab_tb (e := (245, .iload_n 3, 1)) ok_Law_law_2 15 rfl
theorem d_Law_law_246 : ab_ins y_Law_law 246 = some (.iconst 1, 1) := ab_tb (e := (246, .iconst 1, 1)) ok_Law_law_2 16 rfl
theorem d_Law_law_247 : ab_ins y_Law_law 247 = some (.iadd, 1) := ab_tb (e := (247, .iadd, 1)) ok_Law_law_2 17 rfl
theorem d_Law_law_248 : ab_ins y_Law_law 248 = some (.iaload, 1) := ab_tb (e := (248, .iaload, 1)) ok_Law_law_2 18 rfl
theorem d_Law_law_249 : ab_ins y_Law_law 249 = some (.aload_n 0, 1) := ab_tb (e := (249, .aload_n 0, 1)) ok_Law_law_2 19 rfl
theorem d_Law_law_250 : ab_ins y_Law_law 250 = some (.iload_n 3, 1) := ab_tb (e := (250, .iload_n 3, 1)) ok_Law_law_2 20 rfl
theorem d_Law_law_251 : ab_ins y_Law_law 251 = some (.iconst 2, 1) := ab_tb (e := (251, .iconst 2, 1)) ok_Law_law_2 21 rfl
theorem d_Law_law_252 : ab_ins y_Law_law 252 = some (.iadd, 1) := ab_tb (e := (252, .iadd, 1)) ok_Law_law_2 22 rfl
theorem d_Law_law_253 : ab_ins y_Law_law 253 = some (.iaload, 1) := ab_tb (e := (253, .iaload, 1)) ok_Law_law_2 23 rfl
def tb_Law_law_3 : List (Nat × Instr × Nat) := [(254, .invokevirtual 21, 3), (257, .if_icmp .eq 1111, 3), (260, .iconst 0, 1), (261, .ireturn, 1), (262, .aload_n 1, 1), (263, .aload_n 0, 1), (264, .iload_n 3, 1), (265, .iconst 1, 1), (266, .iadd, 1), (267, .iaload, 1), (268, .aload_n 0, 1), (269, .iload_n 3, 1), (270, .iconst 2, 1), (271, .iadd, 1), (272, .iaload, 1), (273, .invokevirtual 22, 3), (276, .aload_n 2, 1), (277, .aload_n 0, 1), (278, .iload_n 3, 1), (279, .iconst 1, 1), (280, .iadd, 1), (281, .iaload, 1), (282, .aload_n 0, 1), (283, .iload_n 3, 1)]
theorem ok_Law_law_3 : (tb_Law_law_3.all fun e => decide (ab_ins y_Law_law e.1 = some e.2)) = true := by decide +kernel
theorem d_Law_law_254 : ab_ins y_Law_law 254 = some (.invokevirtual 21, 3) := ab_tb (e := (254, .invokevirtual 21, 3)) ok_Law_law_3 0 rfl
theorem d_Law_law_257 : ab_ins y_Law_law 257 = some (.if_icmp .eq 1111, 3) := ab_tb (e := (257, .if_icmp .eq 1111, 3)) ok_Law_law_3 1 rfl
theorem d_Law_law_260 : ab_ins y_Law_law 260 = some (.iconst 0, 1) := ab_tb (e := (260, .iconst 0, 1)) ok_Law_law_3 2 rfl
theorem d_Law_law_261 : ab_ins y_Law_law 261 = some (.ireturn, 1) := ab_tb (e := (261, .ireturn, 1)) ok_Law_law_3 3 rfl
theorem d_Law_law_262 : ab_ins y_Law_law 262 = some (.aload_n 1, 1) := ab_tb (e := (262, .aload_n 1, 1)) ok_Law_law_3 4 rfl
theorem d_Law_law_263 : ab_ins y_Law_law 263 = some (.aload_n 0, 1) := ab_tb (e := (263, .aload_n 0, 1)) ok_Law_law_3 5 rfl
theorem d_Law_law_264 : ab_ins y_Law_law 264 = some (.iload_n 3, 1) := ab_tb (e := (264, .iload_n 3, 1)) ok_Law_law_3 6 rfl
theorem d_Law_law_265 : ab_ins y_Law_law 265 = some (.iconst 1, 1) := ab_tb (e := (265, .iconst 1, 1)) ok_Law_law_3 7 rfl
theorem d_Law_law_266 : ab_ins y_Law_law 266 = some (.iadd, 1) := ab_tb (e := (266, .iadd, 1)) ok_Law_law_3 8 rfl
theorem d_Law_law_267 : ab_ins y_Law_law 267 = some (.iaload, 1) := ab_tb (e := (267, .iaload, 1)) ok_Law_law_3 9 rfl
theorem d_Law_law_268 : ab_ins y_Law_law 268 = some (.aload_n 0, 1) := ab_tb (e := (268, .aload_n 0, 1)) ok_Law_law_3 10 rfl
theorem d_Law_law_269 : ab_ins y_Law_law 269 = some (.iload_n 3, 1) := ab_tb (e := (269, .iload_n 3, 1)) ok_Law_law_3 11 rfl
theorem d_Law_law_270 : ab_ins y_Law_law 270 = some (.iconst 2, 1) := ab_tb (e := (270, .iconst 2, 1)) ok_Law_law_3 12 rfl
theorem d_Law_law_271 : ab_ins y_Law_law 271 = some (.iadd, 1) := ab_tb (e := (271, .iadd, 1)) ok_Law_law_3 13 rfl
theorem d_Law_law_272 : ab_ins y_Law_law 272 = some (.iaload, 1) := ab_tb (e := (272, .iaload, 1)) ok_Law_law_3 14 rfl
theorem d_Law_law_273 : ab_ins y_Law_law 273 = some (.invokevirtual 22, 3) := ab_tb (e := (273, .invokevirtual 22, 3)) ok_Law_law_3 15 rfl
theorem d_Law_law_276 : ab_ins y_Law_law 276 = some (.aload_n 2, 1) := ab_tb (e := (276, .aload_n 2, 1)) ok_Law_law_3 16 rfl
theorem d_Law_law_277 : ab_ins y_Law_law 277 = some (.aload_n 0, 1) := ab_tb (e := (277, .aload_n 0, 1)) ok_Law_law_3 17 rfl
theorem d_Law_law_278 : ab_ins y_Law_law 278 = some (.iload_n 3, 1) := ab_tb (e := (278, .iload_n 3, 1)) ok_Law_law_3 18 rfl
theorem d_Law_law_279 : ab_ins y_Law_law 279 = some (.iconst 1, 1) := ab_tb (e := (279, .iconst 1, 1)) ok_Law_law_3 19 rfl
theorem d_Law_law_280 : ab_ins y_Law_law 280 = some (.iadd, 1) := ab_tb (e := (280, .iadd, 1)) ok_Law_law_3 20 rfl
theorem d_Law_law_281 : ab_ins y_Law_law 281 = some (.iaload, 1) := ab_tb (e := (281, .iaload, 1)) ok_Law_law_3 21 rfl
theorem d_Law_law_282 : ab_ins y_Law_law 282 = some (.aload_n 0, 1) := ab_tb (e := (282, .aload_n 0, 1)) ok_Law_law_3 22 rfl
theorem d_Law_law_283 : ab_ins y_Law_law 283 = some (.iload_n 3, 1) := ab_tb (e := (283, .iload_n 3, 1)) ok_Law_law_3 23 rfl
def tb_Law_law_4 : List (Nat × Instr × Nat) := [(284, .iconst 2, 1), (285, .iadd, 1), (286, .iaload, 1), (287, .invokevirtual 25, 3), (290, .if_icmp .eq 1078, 3), (293, .iconst 0, 1), (294, .ireturn, 1), (295, .aload_n 1, 1), (296, .aload_n 0, 1), (297, .iload_n 3, 1), (298, .iconst 1, 1), (299, .iadd, 1), (300, .iaload, 1), (301, .aload_n 0, 1), (302, .iload_n 3, 1), (303, .iconst 2, 1), (304, .iadd, 1), (305, .iaload, 1), (306, .invokevirtual 26, 3), (309, .aload_n 2, 1), (310, .aload_n 0, 1), (311, .iload_n 3, 1), (312, .iconst 1, 1), (313, .iadd, 1)]
theorem ok_Law_law_4 : (tb_Law_law_4.all fun e => decide (ab_ins y_Law_law e.1 = some e.2)) = true := by decide +kernel
theorem d_Law_law_284 : ab_ins y_Law_law 284 = some (.iconst 2, 1) := ab_tb (e := (284, .iconst 2, 1)) ok_Law_law_4 0 rfl
theorem d_Law_law_285 : ab_ins y_Law_law 285 = some (.iadd, 1) := ab_tb (e := (285, .iadd, 1)) ok_Law_law_4 1 rfl
theorem d_Law_law_286 : ab_ins y_Law_law 286 = some (.iaload, 1) := ab_tb (e := (286, .iaload, 1)) ok_Law_law_4 2 rfl
theorem d_Law_law_287 : ab_ins y_Law_law 287 = some (.invokevirtual 25, 3) := ab_tb (e := (287, .invokevirtual 25, 3)) ok_Law_law_4 3 rfl
theorem d_Law_law_290 : ab_ins y_Law_law 290 = some (.if_icmp .eq 1078, 3) := ab_tb (e := (290, .if_icmp .eq 1078, 3)) ok_Law_law_4 4 rfl
theorem d_Law_law_293 : ab_ins y_Law_law 293 = some (.iconst 0, 1) := ab_tb (e := (293, .iconst 0, 1)) ok_Law_law_4 5 rfl
theorem d_Law_law_294 : ab_ins y_Law_law 294 = some (.ireturn, 1) := ab_tb (e := (294, .ireturn, 1)) ok_Law_law_4 6 rfl
theorem d_Law_law_295 : ab_ins y_Law_law 295 = some (.aload_n 1, 1) := ab_tb (e := (295, .aload_n 1, 1)) ok_Law_law_4 7 rfl
theorem d_Law_law_296 : ab_ins y_Law_law 296 = some (.aload_n 0, 1) := ab_tb (e := (296, .aload_n 0, 1)) ok_Law_law_4 8 rfl
theorem d_Law_law_297 : ab_ins y_Law_law 297 = some (.iload_n 3, 1) := ab_tb (e := (297, .iload_n 3, 1)) ok_Law_law_4 9 rfl
theorem d_Law_law_298 : ab_ins y_Law_law 298 = some (.iconst 1, 1) := ab_tb (e := (298, .iconst 1, 1)) ok_Law_law_4 10 rfl
theorem d_Law_law_299 : ab_ins y_Law_law 299 = some (.iadd, 1) := ab_tb (e := (299, .iadd, 1)) ok_Law_law_4 11 rfl
theorem d_Law_law_300 : ab_ins y_Law_law 300 = some (.iaload, 1) := ab_tb (e := (300, .iaload, 1)) ok_Law_law_4 12 rfl
theorem d_Law_law_301 : ab_ins y_Law_law 301 = some (.aload_n 0, 1) := ab_tb (e := (301, .aload_n 0, 1)) ok_Law_law_4 13 rfl
theorem d_Law_law_302 : ab_ins y_Law_law 302 = some (.iload_n 3, 1) := ab_tb (e := (302, .iload_n 3, 1)) ok_Law_law_4 14 rfl
theorem d_Law_law_303 : ab_ins y_Law_law 303 = some (.iconst 2, 1) := ab_tb (e := (303, .iconst 2, 1)) ok_Law_law_4 15 rfl
theorem d_Law_law_304 : ab_ins y_Law_law 304 = some (.iadd, 1) := ab_tb (e := (304, .iadd, 1)) ok_Law_law_4 16 rfl
theorem d_Law_law_305 : ab_ins y_Law_law 305 = some (.iaload, 1) := ab_tb (e := (305, .iaload, 1)) ok_Law_law_4 17 rfl
theorem d_Law_law_306 : ab_ins y_Law_law 306 = some (.invokevirtual 26, 3) := ab_tb (e := (306, .invokevirtual 26, 3)) ok_Law_law_4 18 rfl
theorem d_Law_law_309 : ab_ins y_Law_law 309 = some (.aload_n 2, 1) := ab_tb (e := (309, .aload_n 2, 1)) ok_Law_law_4 19 rfl
theorem d_Law_law_310 : ab_ins y_Law_law 310 = some (.aload_n 0, 1) := ab_tb (e := (310, .aload_n 0, 1)) ok_Law_law_4 20 rfl
theorem d_Law_law_311 : ab_ins y_Law_law 311 = some (.iload_n 3, 1) := ab_tb (e := (311, .iload_n 3, 1)) ok_Law_law_4 21 rfl
theorem d_Law_law_312 : ab_ins y_Law_law 312 = some (.iconst 1, 1) := ab_tb (e := (312, .iconst 1, 1)) ok_Law_law_4 22 rfl
theorem d_Law_law_313 : ab_ins y_Law_law 313 = some (.iadd, 1) := ab_tb (e := (313, .iadd, 1)) ok_Law_law_4 23 rfl
def tb_Law_law_5 : List (Nat × Instr × Nat) := [(314, .iaload, 1), (315, .aload_n 0, 1), (316, .iload_n 3, 1), (317, .iconst 2, 1), (318, .iadd, 1), (319, .iaload, 1), (320, .invokevirtual 29, 3), (323, .if_icmp .eq 1045, 3), (326, .iconst 0, 1), (327, .ireturn, 1), (328, .aload_n 1, 1), (329, .aload_n 0, 1), (330, .iload_n 3, 1), (331, .iconst 1, 1), (332, .iadd, 1), (333, .iaload, 1), (334, .aload_n 0, 1), (335, .iload_n 3, 1), (336, .iconst 2, 1), (337, .iadd, 1), (338, .iaload, 1), (339, .invokevirtual 30, 3), (342, .aload_n 2, 1), (343, .aload_n 0, 1)]
theorem ok_Law_law_5 : (tb_Law_law_5.all fun e => decide (ab_ins y_Law_law e.1 = some e.2)) = true := by decide +kernel
theorem d_Law_law_314 : ab_ins y_Law_law 314 = some (.iaload, 1) := ab_tb (e := (314, .iaload, 1)) ok_Law_law_5 0 rfl
theorem d_Law_law_315 : ab_ins y_Law_law 315 = some (.aload_n 0, 1) := ab_tb (e := (315, .aload_n 0, 1)) ok_Law_law_5 1 rfl
theorem d_Law_law_316 : ab_ins y_Law_law 316 = some (.iload_n 3, 1) := ab_tb (e := (316, .iload_n 3, 1)) ok_Law_law_5 2 rfl
theorem d_Law_law_317 : ab_ins y_Law_law 317 = some (.iconst 2, 1) := ab_tb (e := (317, .iconst 2, 1)) ok_Law_law_5 3 rfl
theorem d_Law_law_318 : ab_ins y_Law_law 318 = some (.iadd, 1) := ab_tb (e := (318, .iadd, 1)) ok_Law_law_5 4 rfl
theorem d_Law_law_319 : ab_ins y_Law_law 319 = some (.iaload, 1) := ab_tb (e := (319, .iaload, 1)) ok_Law_law_5 5 rfl
theorem d_Law_law_320 : ab_ins y_Law_law 320 = some (.invokevirtual 29, 3) := ab_tb (e := (320, .invokevirtual 29, 3)) ok_Law_law_5 6 rfl
theorem d_Law_law_323 : ab_ins y_Law_law 323 = some (.if_icmp .eq 1045, 3) := ab_tb (e := (323, .if_icmp .eq 1045, 3)) ok_Law_law_5 7 rfl
theorem d_Law_law_326 : ab_ins y_Law_law 326 = some (.iconst 0, 1) := ab_tb (e := (326, .iconst 0, 1)) ok_Law_law_5 8 rfl
theorem d_Law_law_327 : ab_ins y_Law_law 327 = some (.ireturn, 1) := ab_tb (e := (327, .ireturn, 1)) ok_Law_law_5 9 rfl
theorem d_Law_law_328 : ab_ins y_Law_law 328 = some (.aload_n 1, 1) := ab_tb (e := (328, .aload_n 1, 1)) ok_Law_law_5 10 rfl
theorem d_Law_law_329 : ab_ins y_Law_law 329 = some (.aload_n 0, 1) := ab_tb (e := (329, .aload_n 0, 1)) ok_Law_law_5 11 rfl
theorem d_Law_law_330 : ab_ins y_Law_law 330 = some (.iload_n 3, 1) := ab_tb (e := (330, .iload_n 3, 1)) ok_Law_law_5 12 rfl
theorem d_Law_law_331 : ab_ins y_Law_law 331 = some (.iconst 1, 1) := ab_tb (e := (331, .iconst 1, 1)) ok_Law_law_5 13 rfl
theorem d_Law_law_332 : ab_ins y_Law_law 332 = some (.iadd, 1) := ab_tb (e := (332, .iadd, 1)) ok_Law_law_5 14 rfl
theorem d_Law_law_333 : ab_ins y_Law_law 333 = some (.iaload, 1) := ab_tb (e := (333, .iaload, 1)) ok_Law_law_5 15 rfl
theorem d_Law_law_334 : ab_ins y_Law_law 334 = some (.aload_n 0, 1) := ab_tb (e := (334, .aload_n 0, 1)) ok_Law_law_5 16 rfl
theorem d_Law_law_335 : ab_ins y_Law_law 335 = some (.iload_n 3, 1) := ab_tb (e := (335, .iload_n 3, 1)) ok_Law_law_5 17 rfl
theorem d_Law_law_336 : ab_ins y_Law_law 336 = some (.iconst 2, 1) := ab_tb (e := (336, .iconst 2, 1)) ok_Law_law_5 18 rfl
theorem d_Law_law_337 : ab_ins y_Law_law 337 = some (.iadd, 1) := ab_tb (e := (337, .iadd, 1)) ok_Law_law_5 19 rfl
theorem d_Law_law_338 : ab_ins y_Law_law 338 = some (.iaload, 1) := ab_tb (e := (338, .iaload, 1)) ok_Law_law_5 20 rfl
theorem d_Law_law_339 : ab_ins y_Law_law 339 = some (.invokevirtual 30, 3) := ab_tb (e := (339, .invokevirtual 30, 3)) ok_Law_law_5 21 rfl
theorem d_Law_law_342 : ab_ins y_Law_law 342 = some (.aload_n 2, 1) := ab_tb (e := (342, .aload_n 2, 1)) ok_Law_law_5 22 rfl
theorem d_Law_law_343 : ab_ins y_Law_law 343 = some (.aload_n 0, 1) := ab_tb (e := (343, .aload_n 0, 1)) ok_Law_law_5 23 rfl
def tb_Law_law_6 : List (Nat × Instr × Nat) := [(344, .iload_n 3, 1), (345, .iconst 1, 1), (346, .iadd, 1), (347, .iaload, 1), (348, .aload_n 0, 1), (349, .iload_n 3, 1), (350, .iconst 2, 1), (351, .iadd, 1), (352, .iaload, 1), (353, .invokevirtual 33, 3), (356, .if_icmp .eq 1012, 3), (359, .iconst 0, 1), (360, .ireturn, 1), (361, .aload_n 1, 1), (362, .aload_n 0, 1), (363, .iload_n 3, 1), (364, .iconst 1, 1), (365, .iadd, 1), (366, .iaload, 1), (367, .aload_n 0, 1), (368, .iload_n 3, 1), (369, .iconst 2, 1), (370, .iadd, 1), (371, .iaload, 1)]
theorem ok_Law_law_6 : (tb_Law_law_6.all fun e => decide (ab_ins y_Law_law e.1 = some e.2)) = true := by decide +kernel
theorem d_Law_law_344 : ab_ins y_Law_law 344 = some (.iload_n 3, 1) := ab_tb (e := (344, .iload_n 3, 1)) ok_Law_law_6 0 rfl
theorem d_Law_law_345 : ab_ins y_Law_law 345 = some (.iconst 1, 1) := ab_tb (e := (345, .iconst 1, 1)) ok_Law_law_6 1 rfl
theorem d_Law_law_346 : ab_ins y_Law_law 346 = some (.iadd, 1) := ab_tb (e := (346, .iadd, 1)) ok_Law_law_6 2 rfl
theorem d_Law_law_347 : ab_ins y_Law_law 347 = some (.iaload, 1) := ab_tb (e := (347, .iaload, 1)) ok_Law_law_6 3 rfl
theorem d_Law_law_348 : ab_ins y_Law_law 348 = some (.aload_n 0, 1) := ab_tb (e := (348, .aload_n 0, 1)) ok_Law_law_6 4 rfl
theorem d_Law_law_349 : ab_ins y_Law_law 349 = some (.iload_n 3, 1) := ab_tb (e := (349, .iload_n 3, 1)) ok_Law_law_6 5 rfl
theorem d_Law_law_350 : ab_ins y_Law_law 350 = some (.iconst 2, 1) := ab_tb (e := (350, .iconst 2, 1)) ok_Law_law_6 6 rfl
theorem d_Law_law_351 : ab_ins y_Law_law 351 = some (.iadd, 1) := ab_tb (e := (351, .iadd, 1)) ok_Law_law_6 7 rfl
theorem d_Law_law_352 : ab_ins y_Law_law 352 = some (.iaload, 1) := ab_tb (e := (352, .iaload, 1)) ok_Law_law_6 8 rfl
theorem d_Law_law_353 : ab_ins y_Law_law 353 = some (.invokevirtual 33, 3) := ab_tb (e := (353, .invokevirtual 33, 3)) ok_Law_law_6 9 rfl
theorem d_Law_law_356 : ab_ins y_Law_law 356 = some (.if_icmp .eq 1012, 3) := ab_tb (e := (356, .if_icmp .eq 1012, 3)) ok_Law_law_6 10 rfl
theorem d_Law_law_359 : ab_ins y_Law_law 359 = some (.iconst 0, 1) := ab_tb (e := (359, .iconst 0, 1)) ok_Law_law_6 11 rfl
theorem d_Law_law_360 : ab_ins y_Law_law 360 = some (.ireturn, 1) := ab_tb (e := (360, .ireturn, 1)) ok_Law_law_6 12 rfl
theorem d_Law_law_361 : ab_ins y_Law_law 361 = some (.aload_n 1, 1) := ab_tb (e := (361, .aload_n 1, 1)) ok_Law_law_6 13 rfl
theorem d_Law_law_362 : ab_ins y_Law_law 362 = some (.aload_n 0, 1) := ab_tb (e := (362, .aload_n 0, 1)) ok_Law_law_6 14 rfl
theorem d_Law_law_363 : ab_ins y_Law_law 363 = some (.iload_n 3, 1) := ab_tb (e := (363, .iload_n 3, 1)) ok_Law_law_6 15 rfl
theorem d_Law_law_364 : ab_ins y_Law_law 364 = some (.iconst 1, 1) := ab_tb (e := (364, .iconst 1, 1)) ok_Law_law_6 16 rfl
theorem d_Law_law_365 : ab_ins y_Law_law 365 = some (.iadd, 1) := ab_tb (e := (365, .iadd, 1)) ok_Law_law_6 17 rfl
theorem d_Law_law_366 : ab_ins y_Law_law 366 = some (.iaload, 1) := ab_tb (e := (366, .iaload, 1)) ok_Law_law_6 18 rfl
theorem d_Law_law_367 : ab_ins y_Law_law 367 = some (.aload_n 0, 1) := ab_tb (e := (367, .aload_n 0, 1)) ok_Law_law_6 19 rfl
theorem d_Law_law_368 : ab_ins y_Law_law 368 = some (.iload_n 3, 1) := ab_tb (e := (368, .iload_n 3, 1)) ok_Law_law_6 20 rfl
theorem d_Law_law_369 : ab_ins y_Law_law 369 = some (.iconst 2, 1) := ab_tb (e := (369, .iconst 2, 1)) ok_Law_law_6 21 rfl
theorem d_Law_law_370 : ab_ins y_Law_law 370 = some (.iadd, 1) := ab_tb (e := (370, .iadd, 1)) ok_Law_law_6 22 rfl
theorem d_Law_law_371 : ab_ins y_Law_law 371 = some (.iaload, 1) := ab_tb (e := (371, .iaload, 1)) ok_Law_law_6 23 rfl
def tb_Law_law_7 : List (Nat × Instr × Nat) := [(372, .invokevirtual 34, 3), (375, .aload_n 2, 1), (376, .aload_n 0, 1), (377, .iload_n 3, 1), (378, .iconst 1, 1), (379, .iadd, 1), (380, .iaload, 1), (381, .aload_n 0, 1), (382, .iload_n 3, 1), (383, .iconst 2, 1), (384, .iadd, 1), (385, .iaload, 1), (386, .invokevirtual 37, 3), (389, .if_icmp .eq 979, 3), (392, .iconst 0, 1), (393, .ireturn, 1), (394, .aload_n 1, 1), (395, .aload_n 0, 1), (396, .iload_n 3, 1), (397, .iconst 1, 1), (398, .iadd, 1), (399, .iaload, 1), (400, .aload_n 0, 1), (401, .iload_n 3, 1)]
theorem ok_Law_law_7 : (tb_Law_law_7.all fun e => decide (ab_ins y_Law_law e.1 = some e.2)) = true := by decide +kernel
theorem d_Law_law_372 : ab_ins y_Law_law 372 = some (.invokevirtual 34, 3) := ab_tb (e := (372, .invokevirtual 34, 3)) ok_Law_law_7 0 rfl
theorem d_Law_law_375 : ab_ins y_Law_law 375 = some (.aload_n 2, 1) := ab_tb (e := (375, .aload_n 2, 1)) ok_Law_law_7 1 rfl
theorem d_Law_law_376 : ab_ins y_Law_law 376 = some (.aload_n 0, 1) := ab_tb (e := (376, .aload_n 0, 1)) ok_Law_law_7 2 rfl
theorem d_Law_law_377 : ab_ins y_Law_law 377 = some (.iload_n 3, 1) := ab_tb (e := (377, .iload_n 3, 1)) ok_Law_law_7 3 rfl
theorem d_Law_law_378 : ab_ins y_Law_law 378 = some (.iconst 1, 1) := ab_tb (e := (378, .iconst 1, 1)) ok_Law_law_7 4 rfl
theorem d_Law_law_379 : ab_ins y_Law_law 379 = some (.iadd, 1) := ab_tb (e := (379, .iadd, 1)) ok_Law_law_7 5 rfl
theorem d_Law_law_380 : ab_ins y_Law_law 380 = some (.iaload, 1) := ab_tb (e := (380, .iaload, 1)) ok_Law_law_7 6 rfl
theorem d_Law_law_381 : ab_ins y_Law_law 381 = some (.aload_n 0, 1) := ab_tb (e := (381, .aload_n 0, 1)) ok_Law_law_7 7 rfl
theorem d_Law_law_382 : ab_ins y_Law_law 382 = some (.iload_n 3, 1) := ab_tb (e := (382, .iload_n 3, 1)) ok_Law_law_7 8 rfl
theorem d_Law_law_383 : ab_ins y_Law_law 383 = some (.iconst 2, 1) := ab_tb (e := (383, .iconst 2, 1)) ok_Law_law_7 9 rfl
theorem d_Law_law_384 : ab_ins y_Law_law 384 = some (.iadd, 1) := ab_tb (e := (384, .iadd, 1)) ok_Law_law_7 10 rfl
theorem d_Law_law_385 : ab_ins y_Law_law 385 = some (.iaload, 1) := ab_tb (e := (385, .iaload, 1)) ok_Law_law_7 11 rfl
theorem d_Law_law_386 : ab_ins y_Law_law 386 = some (.invokevirtual 37, 3) := ab_tb (e := (386, .invokevirtual 37, 3)) ok_Law_law_7 12 rfl
theorem d_Law_law_389 : ab_ins y_Law_law 389 = some (.if_icmp .eq 979, 3) := ab_tb (e := (389, .if_icmp .eq 979, 3)) ok_Law_law_7 13 rfl
theorem d_Law_law_392 : ab_ins y_Law_law 392 = some (.iconst 0, 1) := ab_tb (e := (392, .iconst 0, 1)) ok_Law_law_7 14 rfl
theorem d_Law_law_393 : ab_ins y_Law_law 393 = some (.ireturn, 1) := ab_tb (e := (393, .ireturn, 1)) ok_Law_law_7 15 rfl
theorem d_Law_law_394 : ab_ins y_Law_law 394 = some (.aload_n 1, 1) := ab_tb (e := (394, .aload_n 1, 1)) ok_Law_law_7 16 rfl
theorem d_Law_law_395 : ab_ins y_Law_law 395 = some (.aload_n 0, 1) := ab_tb (e := (395, .aload_n 0, 1)) ok_Law_law_7 17 rfl
theorem d_Law_law_396 : ab_ins y_Law_law 396 = some (.iload_n 3, 1) := ab_tb (e := (396, .iload_n 3, 1)) ok_Law_law_7 18 rfl
theorem d_Law_law_397 : ab_ins y_Law_law 397 = some (.iconst 1, 1) := ab_tb (e := (397, .iconst 1, 1)) ok_Law_law_7 19 rfl
theorem d_Law_law_398 : ab_ins y_Law_law 398 = some (.iadd, 1) := ab_tb (e := (398, .iadd, 1)) ok_Law_law_7 20 rfl
theorem d_Law_law_399 : ab_ins y_Law_law 399 = some (.iaload, 1) := ab_tb (e := (399, .iaload, 1)) ok_Law_law_7 21 rfl
theorem d_Law_law_400 : ab_ins y_Law_law 400 = some (.aload_n 0, 1) := ab_tb (e := (400, .aload_n 0, 1)) ok_Law_law_7 22 rfl
theorem d_Law_law_401 : ab_ins y_Law_law 401 = some (.iload_n 3, 1) := ab_tb (e := (401, .iload_n 3, 1)) ok_Law_law_7 23 rfl
def tb_Law_law_8 : List (Nat × Instr × Nat) := [(402, .iconst 2, 1), (403, .iadd, 1), (404, .iaload, 1), (405, .aload_n 0, 1), (406, .iload_n 3, 1), (407, .iconst 3, 1), (408, .iadd, 1), (409, .iaload, 1), (410, .invokevirtual 38, 3), (413, .aload_n 2, 1), (414, .aload_n 0, 1), (415, .iload_n 3, 1), (416, .iconst 1, 1), (417, .iadd, 1), (418, .iaload, 1), (419, .aload_n 0, 1), (420, .iload_n 3, 1), (421, .iconst 2, 1), (422, .iadd, 1), (423, .iaload, 1), (424, .aload_n 0, 1), (425, .iload_n 3, 1), (426, .iconst 3, 1), (427, .iadd, 1)]
theorem ok_Law_law_8 : (tb_Law_law_8.all fun e => decide (ab_ins y_Law_law e.1 = some e.2)) = true := by decide +kernel
theorem d_Law_law_402 : ab_ins y_Law_law 402 = some (.iconst 2, 1) := ab_tb (e := (402, .iconst 2, 1)) ok_Law_law_8 0 rfl
theorem d_Law_law_403 : ab_ins y_Law_law 403 = some (.iadd, 1) := ab_tb (e := (403, .iadd, 1)) ok_Law_law_8 1 rfl
theorem d_Law_law_404 : ab_ins y_Law_law 404 = some (.iaload, 1) := ab_tb (e := (404, .iaload, 1)) ok_Law_law_8 2 rfl
theorem d_Law_law_405 : ab_ins y_Law_law 405 = some (.aload_n 0, 1) := ab_tb (e := (405, .aload_n 0, 1)) ok_Law_law_8 3 rfl
theorem d_Law_law_406 : ab_ins y_Law_law 406 = some (.iload_n 3, 1) := ab_tb (e := (406, .iload_n 3, 1)) ok_Law_law_8 4 rfl
theorem d_Law_law_407 : ab_ins y_Law_law 407 = some (.iconst 3, 1) := ab_tb (e := (407, .iconst 3, 1)) ok_Law_law_8 5 rfl
theorem d_Law_law_408 : ab_ins y_Law_law 408 = some (.iadd, 1) := ab_tb (e := (408, .iadd, 1)) ok_Law_law_8 6 rfl
theorem d_Law_law_409 : ab_ins y_Law_law 409 = some (.iaload, 1) := ab_tb (e := (409, .iaload, 1)) ok_Law_law_8 7 rfl
theorem d_Law_law_410 : ab_ins y_Law_law 410 = some (.invokevirtual 38, 3) := ab_tb (e := (410, .invokevirtual 38, 3)) ok_Law_law_8 8 rfl
theorem d_Law_law_413 : ab_ins y_Law_law 413 = some (.aload_n 2, 1) := ab_tb (e := (413, .aload_n 2, 1)) ok_Law_law_8 9 rfl
theorem d_Law_law_414 : ab_ins y_Law_law 414 = some (.aload_n 0, 1) := ab_tb (e := (414, .aload_n 0, 1)) ok_Law_law_8 10 rfl
theorem d_Law_law_415 : ab_ins y_Law_law 415 = some (.iload_n 3, 1) := ab_tb (e := (415, .iload_n 3, 1)) ok_Law_law_8 11 rfl
theorem d_Law_law_416 : ab_ins y_Law_law 416 = some (.iconst 1, 1) := ab_tb (e := (416, .iconst 1, 1)) ok_Law_law_8 12 rfl
theorem d_Law_law_417 : ab_ins y_Law_law 417 = some (.iadd, 1) := ab_tb (e := (417, .iadd, 1)) ok_Law_law_8 13 rfl
theorem d_Law_law_418 : ab_ins y_Law_law 418 = some (.iaload, 1) := ab_tb (e := (418, .iaload, 1)) ok_Law_law_8 14 rfl
theorem d_Law_law_419 : ab_ins y_Law_law 419 = some (.aload_n 0, 1) := ab_tb (e := (419, .aload_n 0, 1)) ok_Law_law_8 15 rfl
theorem d_Law_law_420 : ab_ins y_Law_law 420 = some (.iload_n 3, 1) := ab_tb (e := (420, .iload_n 3, 1)) ok_Law_law_8 16 rfl
theorem d_Law_law_421 : ab_ins y_Law_law 421 = some (.iconst 2, 1) := ab_tb (e := (421, .iconst 2, 1)) ok_Law_law_8 17 rfl
theorem d_Law_law_422 : ab_ins y_Law_law 422 = some (.iadd, 1) := ab_tb (e := (422, .iadd, 1)) ok_Law_law_8 18 rfl
theorem d_Law_law_423 : ab_ins y_Law_law 423 = some (.iaload, 1) := ab_tb (e := (423, .iaload, 1)) ok_Law_law_8 19 rfl
theorem d_Law_law_424 : ab_ins y_Law_law 424 = some (.aload_n 0, 1) := ab_tb (e := (424, .aload_n 0, 1)) ok_Law_law_8 20 rfl
theorem d_Law_law_425 : ab_ins y_Law_law 425 = some (.iload_n 3, 1) := ab_tb (e := (425, .iload_n 3, 1)) ok_Law_law_8 21 rfl
theorem d_Law_law_426 : ab_ins y_Law_law 426 = some (.iconst 3, 1) := ab_tb (e := (426, .iconst 3, 1)) ok_Law_law_8 22 rfl
theorem d_Law_law_427 : ab_ins y_Law_law 427 = some (.iadd, 1) := ab_tb (e := (427, .iadd, 1)) ok_Law_law_8 23 rfl
def tb_Law_law_9 : List (Nat × Instr × Nat) := [(428, .iaload, 1), (429, .invokevirtual 42, 3), (432, .if_icmp .eq 936, 3), (435, .iconst 0, 1), (436, .ireturn, 1), (437, .aload_n 1, 1), (438, .aload_n 0, 1), (439, .iload_n 3, 1), (440, .iconst 1, 1), (441, .iadd, 1), (442, .iaload, 1), (443, .aload_n 0, 1), (444, .iload_n 3, 1), (445, .iconst 2, 1), (446, .iadd, 1), (447, .iaload, 1), (448, .invokevirtual 43, 3), (451, .aload_n 2, 1), (452, .aload_n 0, 1), (453, .iload_n 3, 1), (454, .iconst 1, 1), (455, .iadd, 1), (456, .iaload, 1), (457, .aload_n 0, 1)]
theorem ok_Law_law_9 : (tb_Law_law_9.all fun e => decide (ab_ins y_Law_law e.1 = some e.2)) = true := by decide +kernel
theorem d_Law_law_428 : ab_ins y_Law_law 428 = some (.iaload, 1) := ab_tb (e := (428, .iaload, 1)) ok_Law_law_9 0 rfl
theorem d_Law_law_429 : ab_ins y_Law_law 429 = some (.invokevirtual 42, 3) := ab_tb (e := (429, .invokevirtual 42, 3)) ok_Law_law_9 1 rfl
theorem d_Law_law_432 : ab_ins y_Law_law 432 = some (.if_icmp .eq 936, 3) := ab_tb (e := (432, .if_icmp .eq 936, 3)) ok_Law_law_9 2 rfl
theorem d_Law_law_435 : ab_ins y_Law_law 435 = some (.iconst 0, 1) := ab_tb (e := (435, .iconst 0, 1)) ok_Law_law_9 3 rfl
theorem d_Law_law_436 : ab_ins y_Law_law 436 = some (.ireturn, 1) := ab_tb (e := (436, .ireturn, 1)) ok_Law_law_9 4 rfl
theorem d_Law_law_437 : ab_ins y_Law_law 437 = some (.aload_n 1, 1) := ab_tb (e := (437, .aload_n 1, 1)) ok_Law_law_9 5 rfl
theorem d_Law_law_438 : ab_ins y_Law_law 438 = some (.aload_n 0, 1) := ab_tb (e := (438, .aload_n 0, 1)) ok_Law_law_9 6 rfl
theorem d_Law_law_439 : ab_ins y_Law_law 439 = some (.iload_n 3, 1) := ab_tb (e := (439, .iload_n 3, 1)) ok_Law_law_9 7 rfl
theorem d_Law_law_440 : ab_ins y_Law_law 440 = some (.iconst 1, 1) := ab_tb (e := (440, .iconst 1, 1)) ok_Law_law_9 8 rfl
theorem d_Law_law_441 : ab_ins y_Law_law 441 = some (.iadd, 1) := ab_tb (e := (441, .iadd, 1)) ok_Law_law_9 9 rfl
theorem d_Law_law_442 : ab_ins y_Law_law 442 = some (.iaload, 1) := ab_tb (e := (442, .iaload, 1)) ok_Law_law_9 10 rfl
theorem d_Law_law_443 : ab_ins y_Law_law 443 = some (.aload_n 0, 1) := ab_tb (e := (443, .aload_n 0, 1)) ok_Law_law_9 11 rfl
theorem d_Law_law_444 : ab_ins y_Law_law 444 = some (.iload_n 3, 1) := ab_tb (e := (444, .iload_n 3, 1)) ok_Law_law_9 12 rfl
theorem d_Law_law_445 : ab_ins y_Law_law 445 = some (.iconst 2, 1) := ab_tb (e := (445, .iconst 2, 1)) ok_Law_law_9 13 rfl
theorem d_Law_law_446 : ab_ins y_Law_law 446 = some (.iadd, 1) := ab_tb (e := (446, .iadd, 1)) ok_Law_law_9 14 rfl
theorem d_Law_law_447 : ab_ins y_Law_law 447 = some (.iaload, 1) := ab_tb (e := (447, .iaload, 1)) ok_Law_law_9 15 rfl
theorem d_Law_law_448 : ab_ins y_Law_law 448 = some (.invokevirtual 43, 3) := ab_tb (e := (448, .invokevirtual 43, 3)) ok_Law_law_9 16 rfl
theorem d_Law_law_451 : ab_ins y_Law_law 451 = some (.aload_n 2, 1) := ab_tb (e := (451, .aload_n 2, 1)) ok_Law_law_9 17 rfl
theorem d_Law_law_452 : ab_ins y_Law_law 452 = some (.aload_n 0, 1) := ab_tb (e := (452, .aload_n 0, 1)) ok_Law_law_9 18 rfl
theorem d_Law_law_453 : ab_ins y_Law_law 453 = some (.iload_n 3, 1) := ab_tb (e := (453, .iload_n 3, 1)) ok_Law_law_9 19 rfl
theorem d_Law_law_454 : ab_ins y_Law_law 454 = some (.iconst 1, 1) := ab_tb (e := (454, .iconst 1, 1)) ok_Law_law_9 20 rfl
theorem d_Law_law_455 : ab_ins y_Law_law 455 = some (.iadd, 1) := ab_tb (e := (455, .iadd, 1)) ok_Law_law_9 21 rfl
theorem d_Law_law_456 : ab_ins y_Law_law 456 = some (.iaload, 1) := ab_tb (e := (456, .iaload, 1)) ok_Law_law_9 22 rfl
theorem d_Law_law_457 : ab_ins y_Law_law 457 = some (.aload_n 0, 1) := ab_tb (e := (457, .aload_n 0, 1)) ok_Law_law_9 23 rfl
def tb_Law_law_10 : List (Nat × Instr × Nat) := [(458, .iload_n 3, 1), (459, .iconst 2, 1), (460, .iadd, 1), (461, .iaload, 1), (462, .invokevirtual 46, 3), (465, .if_icmp .eq 903, 3), (468, .iconst 0, 1), (469, .ireturn, 1), (470, .aload_n 1, 1), (471, .aload_n 0, 1), (472, .iload_n 3, 1), (473, .iconst 1, 1), (474, .iadd, 1), (475, .iaload, 1), (476, .invokevirtual 47, 3), (479, .aload_n 2, 1), (480, .aload_n 0, 1), (481, .iload_n 3, 1), (482, .iconst 1, 1), (483, .iadd, 1), (484, .iaload, 1), (485, .invokevirtual 51, 3), (488, .if_icmp .eq 880, 3), (491, .iconst 0, 1)]
theorem ok_Law_law_10 : (tb_Law_law_10.all fun e => decide (ab_ins y_Law_law e.1 = some e.2)) = true := by decide +kernel
theorem d_Law_law_458 : ab_ins y_Law_law 458 = some (.iload_n 3, 1) := ab_tb (e := (458, .iload_n 3, 1)) ok_Law_law_10 0 rfl
theorem d_Law_law_459 : ab_ins y_Law_law 459 = some (.iconst 2, 1) := ab_tb (e := (459, .iconst 2, 1)) ok_Law_law_10 1 rfl
theorem d_Law_law_460 : ab_ins y_Law_law 460 = some (.iadd, 1) := ab_tb (e := (460, .iadd, 1)) ok_Law_law_10 2 rfl
theorem d_Law_law_461 : ab_ins y_Law_law 461 = some (.iaload, 1) := ab_tb (e := (461, .iaload, 1)) ok_Law_law_10 3 rfl
theorem d_Law_law_462 : ab_ins y_Law_law 462 = some (.invokevirtual 46, 3) := ab_tb (e := (462, .invokevirtual 46, 3)) ok_Law_law_10 4 rfl
theorem d_Law_law_465 : ab_ins y_Law_law 465 = some (.if_icmp .eq 903, 3) := ab_tb (e := (465, .if_icmp .eq 903, 3)) ok_Law_law_10 5 rfl
theorem d_Law_law_468 : ab_ins y_Law_law 468 = some (.iconst 0, 1) := ab_tb (e := (468, .iconst 0, 1)) ok_Law_law_10 6 rfl
theorem d_Law_law_469 : ab_ins y_Law_law 469 = some (.ireturn, 1) := ab_tb (e := (469, .ireturn, 1)) ok_Law_law_10 7 rfl
theorem d_Law_law_470 : ab_ins y_Law_law 470 = some (.aload_n 1, 1) := ab_tb (e := (470, .aload_n 1, 1)) ok_Law_law_10 8 rfl
theorem d_Law_law_471 : ab_ins y_Law_law 471 = some (.aload_n 0, 1) := ab_tb (e := (471, .aload_n 0, 1)) ok_Law_law_10 9 rfl
theorem d_Law_law_472 : ab_ins y_Law_law 472 = some (.iload_n 3, 1) := ab_tb (e := (472, .iload_n 3, 1)) ok_Law_law_10 10 rfl
theorem d_Law_law_473 : ab_ins y_Law_law 473 = some (.iconst 1, 1) := ab_tb (e := (473, .iconst 1, 1)) ok_Law_law_10 11 rfl
theorem d_Law_law_474 : ab_ins y_Law_law 474 = some (.iadd, 1) := ab_tb (e := (474, .iadd, 1)) ok_Law_law_10 12 rfl
theorem d_Law_law_475 : ab_ins y_Law_law 475 = some (.iaload, 1) := ab_tb (e := (475, .iaload, 1)) ok_Law_law_10 13 rfl
theorem d_Law_law_476 : ab_ins y_Law_law 476 = some (.invokevirtual 47, 3) := ab_tb (e := (476, .invokevirtual 47, 3)) ok_Law_law_10 14 rfl
theorem d_Law_law_479 : ab_ins y_Law_law 479 = some (.aload_n 2, 1) := ab_tb (e := (479, .aload_n 2, 1)) ok_Law_law_10 15 rfl
theorem d_Law_law_480 : ab_ins y_Law_law 480 = some (.aload_n 0, 1) := ab_tb (e := (480, .aload_n 0, 1)) ok_Law_law_10 16 rfl
theorem d_Law_law_481 : ab_ins y_Law_law 481 = some (.iload_n 3, 1) := ab_tb (e := (481, .iload_n 3, 1)) ok_Law_law_10 17 rfl
theorem d_Law_law_482 : ab_ins y_Law_law 482 = some (.iconst 1, 1) := ab_tb (e := (482, .iconst 1, 1)) ok_Law_law_10 18 rfl
theorem d_Law_law_483 : ab_ins y_Law_law 483 = some (.iadd, 1) := ab_tb (e := (483, .iadd, 1)) ok_Law_law_10 19 rfl
theorem d_Law_law_484 : ab_ins y_Law_law 484 = some (.iaload, 1) := ab_tb (e := (484, .iaload, 1)) ok_Law_law_10 20 rfl
theorem d_Law_law_485 : ab_ins y_Law_law 485 = some (.invokevirtual 51, 3) := ab_tb (e := (485, .invokevirtual 51, 3)) ok_Law_law_10 21 rfl
theorem d_Law_law_488 : ab_ins y_Law_law 488 = some (.if_icmp .eq 880, 3) := ab_tb (e := (488, .if_icmp .eq 880, 3)) ok_Law_law_10 22 rfl
theorem d_Law_law_491 : ab_ins y_Law_law 491 = some (.iconst 0, 1) := ab_tb (e := (491, .iconst 0, 1)) ok_Law_law_10 23 rfl
def tb_Law_law_11 : List (Nat × Instr × Nat) := [(492, .ireturn, 1), (493, .aload_n 1, 1), (494, .aload_n 0, 1), (495, .iload_n 3, 1), (496, .iconst 1, 1), (497, .iadd, 1), (498, .iaload, 1), (499, .invokevirtual 52, 3), (502, .aload_n 2, 1), (503, .aload_n 0, 1), (504, .iload_n 3, 1), (505, .iconst 1, 1), (506, .iadd, 1), (507, .iaload, 1), (508, .invokevirtual 55, 3), (511, .if_icmp .eq 857, 3), (514, .iconst 0, 1), (515, .ireturn, 1), (516, .aload_n 1, 1), (517, .aload_n 0, 1), (518, .iload_n 3, 1), (519, .iconst 1, 1), (520, .iadd, 1), (521, .iaload, 1)]
theorem ok_Law_law_11 : (tb_Law_law_11.all fun e => decide (ab_ins y_Law_law e.1 = some e.2)) = true := by decide +kernel
theorem d_Law_law_492 : ab_ins y_Law_law 492 = some (.ireturn, 1) := ab_tb (e := (492, .ireturn, 1)) ok_Law_law_11 0 rfl
theorem d_Law_law_493 : ab_ins y_Law_law 493 = some (.aload_n 1, 1) := ab_tb (e := (493, .aload_n 1, 1)) ok_Law_law_11 1 rfl
theorem d_Law_law_494 : ab_ins y_Law_law 494 = some (.aload_n 0, 1) := ab_tb (e := (494, .aload_n 0, 1)) ok_Law_law_11 2 rfl
theorem d_Law_law_495 : ab_ins y_Law_law 495 = some (.iload_n 3, 1) := ab_tb (e := (495, .iload_n 3, 1)) ok_Law_law_11 3 rfl
theorem d_Law_law_496 : ab_ins y_Law_law 496 = some (.iconst 1, 1) := ab_tb (e := (496, .iconst 1, 1)) ok_Law_law_11 4 rfl
theorem d_Law_law_497 : ab_ins y_Law_law 497 = some (.iadd, 1) := ab_tb (e := (497, .iadd, 1)) ok_Law_law_11 5 rfl
theorem d_Law_law_498 : ab_ins y_Law_law 498 = some (.iaload, 1) := ab_tb (e := (498, .iaload, 1)) ok_Law_law_11 6 rfl
theorem d_Law_law_499 : ab_ins y_Law_law 499 = some (.invokevirtual 52, 3) := ab_tb (e := (499, .invokevirtual 52, 3)) ok_Law_law_11 7 rfl
theorem d_Law_law_502 : ab_ins y_Law_law 502 = some (.aload_n 2, 1) := ab_tb (e := (502, .aload_n 2, 1)) ok_Law_law_11 8 rfl
theorem d_Law_law_503 : ab_ins y_Law_law 503 = some (.aload_n 0, 1) := ab_tb (e := (503, .aload_n 0, 1)) ok_Law_law_11 9 rfl
theorem d_Law_law_504 : ab_ins y_Law_law 504 = some (.iload_n 3, 1) := ab_tb (e := (504, .iload_n 3, 1)) ok_Law_law_11 10 rfl
theorem d_Law_law_505 : ab_ins y_Law_law 505 = some (.iconst 1, 1) := ab_tb (e := (505, .iconst 1, 1)) ok_Law_law_11 11 rfl
theorem d_Law_law_506 : ab_ins y_Law_law 506 = some (.iadd, 1) := ab_tb (e := (506, .iadd, 1)) ok_Law_law_11 12 rfl
theorem d_Law_law_507 : ab_ins y_Law_law 507 = some (.iaload, 1) := ab_tb (e := (507, .iaload, 1)) ok_Law_law_11 13 rfl
theorem d_Law_law_508 : ab_ins y_Law_law 508 = some (.invokevirtual 55, 3) := ab_tb (e := (508, .invokevirtual 55, 3)) ok_Law_law_11 14 rfl
theorem d_Law_law_511 : ab_ins y_Law_law 511 = some (.if_icmp .eq 857, 3) := ab_tb (e := (511, .if_icmp .eq 857, 3)) ok_Law_law_11 15 rfl
theorem d_Law_law_514 : ab_ins y_Law_law 514 = some (.iconst 0, 1) := ab_tb (e := (514, .iconst 0, 1)) ok_Law_law_11 16 rfl
theorem d_Law_law_515 : ab_ins y_Law_law 515 = some (.ireturn, 1) := ab_tb (e := (515, .ireturn, 1)) ok_Law_law_11 17 rfl
theorem d_Law_law_516 : ab_ins y_Law_law 516 = some (.aload_n 1, 1) := ab_tb (e := (516, .aload_n 1, 1)) ok_Law_law_11 18 rfl
theorem d_Law_law_517 : ab_ins y_Law_law 517 = some (.aload_n 0, 1) := ab_tb (e := (517, .aload_n 0, 1)) ok_Law_law_11 19 rfl
theorem d_Law_law_518 : ab_ins y_Law_law 518 = some (.iload_n 3, 1) := ab_tb (e := (518, .iload_n 3, 1)) ok_Law_law_11 20 rfl
theorem d_Law_law_519 : ab_ins y_Law_law 519 = some (.iconst 1, 1) := ab_tb (e := (519, .iconst 1, 1)) ok_Law_law_11 21 rfl
theorem d_Law_law_520 : ab_ins y_Law_law 520 = some (.iadd, 1) := ab_tb (e := (520, .iadd, 1)) ok_Law_law_11 22 rfl
theorem d_Law_law_521 : ab_ins y_Law_law 521 = some (.iaload, 1) := ab_tb (e := (521, .iaload, 1)) ok_Law_law_11 23 rfl
def tb_Law_law_12 : List (Nat × Instr × Nat) := [(522, .aload_n 0, 1), (523, .iload_n 3, 1), (524, .iconst 2, 1), (525, .iadd, 1), (526, .iaload, 1), (527, .invokevirtual 56, 3), (530, .aload_n 2, 1), (531, .aload_n 0, 1), (532, .iload_n 3, 1), (533, .iconst 1, 1), (534, .iadd, 1), (535, .iaload, 1), (536, .aload_n 0, 1), (537, .iload_n 3, 1), (538, .iconst 2, 1), (539, .iadd, 1), (540, .iaload, 1), (541, .invokevirtual 59, 3), (544, .if_icmp .eq 824, 3), (547, .iconst 0, 1), (548, .ireturn, 1), (549, .aload_n 1, 1), (550, .aload_n 0, 1), (551, .iload_n 3, 1)]
theorem ok_Law_law_12 : (tb_Law_law_12.all fun e => decide (ab_ins y_Law_law e.1 = some e.2)) = true := by decide +kernel
theorem d_Law_law_522 : ab_ins y_Law_law 522 = some (.aload_n 0, 1) := ab_tb (e := (522, .aload_n 0, 1)) ok_Law_law_12 0 rfl
theorem d_Law_law_523 : ab_ins y_Law_law 523 = some (.iload_n 3, 1) := ab_tb (e := (523, .iload_n 3, 1)) ok_Law_law_12 1 rfl
theorem d_Law_law_524 : ab_ins y_Law_law 524 = some (.iconst 2, 1) := ab_tb (e := (524, .iconst 2, 1)) ok_Law_law_12 2 rfl
theorem d_Law_law_525 : ab_ins y_Law_law 525 = some (.iadd, 1) := ab_tb (e := (525, .iadd, 1)) ok_Law_law_12 3 rfl
theorem d_Law_law_526 : ab_ins y_Law_law 526 = some (.iaload, 1) := ab_tb (e := (526, .iaload, 1)) ok_Law_law_12 4 rfl
theorem d_Law_law_527 : ab_ins y_Law_law 527 = some (.invokevirtual 56, 3) := ab_tb (e := (527, .invokevirtual 56, 3)) ok_Law_law_12 5 rfl
theorem d_Law_law_530 : ab_ins y_Law_law 530 = some (.aload_n 2, 1) := ab_tb (e := (530, .aload_n 2, 1)) ok_Law_law_12 6 rfl
theorem d_Law_law_531 : ab_ins y_Law_law 531 = some (.aload_n 0, 1) := ab_tb (e := (531, .aload_n 0, 1)) ok_Law_law_12 7 rfl
theorem d_Law_law_532 : ab_ins y_Law_law 532 = some (.iload_n 3, 1) := ab_tb (e := (532, .iload_n 3, 1)) ok_Law_law_12 8 rfl
theorem d_Law_law_533 : ab_ins y_Law_law 533 = some (.iconst 1, 1) := ab_tb (e := (533, .iconst 1, 1)) ok_Law_law_12 9 rfl
theorem d_Law_law_534 : ab_ins y_Law_law 534 = some (.iadd, 1) := ab_tb (e := (534, .iadd, 1)) ok_Law_law_12 10 rfl
theorem d_Law_law_535 : ab_ins y_Law_law 535 = some (.iaload, 1) := ab_tb (e := (535, .iaload, 1)) ok_Law_law_12 11 rfl
theorem d_Law_law_536 : ab_ins y_Law_law 536 = some (.aload_n 0, 1) := ab_tb (e := (536, .aload_n 0, 1)) ok_Law_law_12 12 rfl
theorem d_Law_law_537 : ab_ins y_Law_law 537 = some (.iload_n 3, 1) := ab_tb (e := (537, .iload_n 3, 1)) ok_Law_law_12 13 rfl
theorem d_Law_law_538 : ab_ins y_Law_law 538 = some (.iconst 2, 1) := ab_tb (e := (538, .iconst 2, 1)) ok_Law_law_12 14 rfl
theorem d_Law_law_539 : ab_ins y_Law_law 539 = some (.iadd, 1) := ab_tb (e := (539, .iadd, 1)) ok_Law_law_12 15 rfl
theorem d_Law_law_540 : ab_ins y_Law_law 540 = some (.iaload, 1) := ab_tb (e := (540, .iaload, 1)) ok_Law_law_12 16 rfl
theorem d_Law_law_541 : ab_ins y_Law_law 541 = some (.invokevirtual 59, 3) := ab_tb (e := (541, .invokevirtual 59, 3)) ok_Law_law_12 17 rfl
theorem d_Law_law_544 : ab_ins y_Law_law 544 = some (.if_icmp .eq 824, 3) := ab_tb (e := (544, .if_icmp .eq 824, 3)) ok_Law_law_12 18 rfl
theorem d_Law_law_547 : ab_ins y_Law_law 547 = some (.iconst 0, 1) := ab_tb (e := (547, .iconst 0, 1)) ok_Law_law_12 19 rfl
theorem d_Law_law_548 : ab_ins y_Law_law 548 = some (.ireturn, 1) := ab_tb (e := (548, .ireturn, 1)) ok_Law_law_12 20 rfl
theorem d_Law_law_549 : ab_ins y_Law_law 549 = some (.aload_n 1, 1) := ab_tb (e := (549, .aload_n 1, 1)) ok_Law_law_12 21 rfl
theorem d_Law_law_550 : ab_ins y_Law_law 550 = some (.aload_n 0, 1) := ab_tb (e := (550, .aload_n 0, 1)) ok_Law_law_12 22 rfl
theorem d_Law_law_551 : ab_ins y_Law_law 551 = some (.iload_n 3, 1) := ab_tb (e := (551, .iload_n 3, 1)) ok_Law_law_12 23 rfl
def tb_Law_law_13 : List (Nat × Instr × Nat) := [(552, .iconst 1, 1), (553, .iadd, 1), (554, .iaload, 1), (555, .invokevirtual 60, 3), (558, .aload_n 2, 1), (559, .aload_n 0, 1), (560, .iload_n 3, 1), (561, .iconst 1, 1), (562, .iadd, 1), (563, .iaload, 1), (564, .invokevirtual 63, 3), (567, .if_icmp .eq 801, 3), (570, .iconst 0, 1), (571, .ireturn, 1), (572, .aload_n 1, 1), (573, .aload_n 0, 1), (574, .iload_n 3, 1), (575, .iconst 1, 1), (576, .iadd, 1), (577, .iaload, 1), (578, .i2l, 1), (579, .bipush 32, 2), (581, .lshl, 1), (582, .aload_n 0, 1)]
theorem ok_Law_law_13 : (tb_Law_law_13.all fun e => decide (ab_ins y_Law_law e.1 = some e.2)) = true := by decide +kernel
theorem d_Law_law_552 : ab_ins y_Law_law 552 = some (.iconst 1, 1) := ab_tb (e := (552, .iconst 1, 1)) ok_Law_law_13 0 rfl
theorem d_Law_law_553 : ab_ins y_Law_law 553 = some (.iadd, 1) := ab_tb (e := (553, .iadd, 1)) ok_Law_law_13 1 rfl
theorem d_Law_law_554 : ab_ins y_Law_law 554 = some (.iaload, 1) := ab_tb (e := (554, .iaload, 1)) ok_Law_law_13 2 rfl
theorem d_Law_law_555 : ab_ins y_Law_law 555 = some (.invokevirtual 60, 3) := ab_tb (e := (555, .invokevirtual 60, 3)) ok_Law_law_13 3 rfl
theorem d_Law_law_558 : ab_ins y_Law_law 558 = some (.aload_n 2, 1) := ab_tb (e := (558, .aload_n 2, 1)) ok_Law_law_13 4 rfl
theorem d_Law_law_559 : ab_ins y_Law_law 559 = some (.aload_n 0, 1) := ab_tb (e := (559, .aload_n 0, 1)) ok_Law_law_13 5 rfl
theorem d_Law_law_560 : ab_ins y_Law_law 560 = some (.iload_n 3, 1) := ab_tb (e := (560, .iload_n 3, 1)) ok_Law_law_13 6 rfl
theorem d_Law_law_561 : ab_ins y_Law_law 561 = some (.iconst 1, 1) := ab_tb (e := (561, .iconst 1, 1)) ok_Law_law_13 7 rfl
theorem d_Law_law_562 : ab_ins y_Law_law 562 = some (.iadd, 1) := ab_tb (e := (562, .iadd, 1)) ok_Law_law_13 8 rfl
theorem d_Law_law_563 : ab_ins y_Law_law 563 = some (.iaload, 1) := ab_tb (e := (563, .iaload, 1)) ok_Law_law_13 9 rfl
theorem d_Law_law_564 : ab_ins y_Law_law 564 = some (.invokevirtual 63, 3) := ab_tb (e := (564, .invokevirtual 63, 3)) ok_Law_law_13 10 rfl
theorem d_Law_law_567 : ab_ins y_Law_law 567 = some (.if_icmp .eq 801, 3) := ab_tb (e := (567, .if_icmp .eq 801, 3)) ok_Law_law_13 11 rfl
theorem d_Law_law_570 : ab_ins y_Law_law 570 = some (.iconst 0, 1) := ab_tb (e := (570, .iconst 0, 1)) ok_Law_law_13 12 rfl
theorem d_Law_law_571 : ab_ins y_Law_law 571 = some (.ireturn, 1) := ab_tb (e := (571, .ireturn, 1)) ok_Law_law_13 13 rfl
theorem d_Law_law_572 : ab_ins y_Law_law 572 = some (.aload_n 1, 1) := ab_tb (e := (572, .aload_n 1, 1)) ok_Law_law_13 14 rfl
theorem d_Law_law_573 : ab_ins y_Law_law 573 = some (.aload_n 0, 1) := ab_tb (e := (573, .aload_n 0, 1)) ok_Law_law_13 15 rfl
theorem d_Law_law_574 : ab_ins y_Law_law 574 = some (.iload_n 3, 1) := ab_tb (e := (574, .iload_n 3, 1)) ok_Law_law_13 16 rfl
theorem d_Law_law_575 : ab_ins y_Law_law 575 = some (.iconst 1, 1) := ab_tb (e := (575, .iconst 1, 1)) ok_Law_law_13 17 rfl
theorem d_Law_law_576 : ab_ins y_Law_law 576 = some (.iadd, 1) := ab_tb (e := (576, .iadd, 1)) ok_Law_law_13 18 rfl
theorem d_Law_law_577 : ab_ins y_Law_law 577 = some (.iaload, 1) := ab_tb (e := (577, .iaload, 1)) ok_Law_law_13 19 rfl
theorem d_Law_law_578 : ab_ins y_Law_law 578 = some (.i2l, 1) := ab_tb (e := (578, .i2l, 1)) ok_Law_law_13 20 rfl
theorem d_Law_law_579 : ab_ins y_Law_law 579 = some (.bipush 32, 2) := ab_tb (e := (579, .bipush 32, 2)) ok_Law_law_13 21 rfl
theorem d_Law_law_581 : ab_ins y_Law_law 581 = some (.lshl, 1) := ab_tb (e := (581, .lshl, 1)) ok_Law_law_13 22 rfl
theorem d_Law_law_582 : ab_ins y_Law_law 582 = some (.aload_n 0, 1) := ab_tb (e := (582, .aload_n 0, 1)) ok_Law_law_13 23 rfl
def tb_Law_law_14 : List (Nat × Instr × Nat) := [(583, .iload_n 3, 1), (584, .iconst 2, 1), (585, .iadd, 1), (586, .iaload, 1), (587, .i2l, 1), (588, .ldc2_w 64, 3), (591, .land, 1), (592, .lor, 1), (593, .aload_n 0, 1), (594, .iload_n 3, 1), (595, .iconst 3, 1), (596, .iadd, 1), (597, .iaload, 1), (598, .invokevirtual 66, 3), (601, .aload_n 2, 1), (602, .aload_n 0, 1), (603, .iload_n 3, 1), (604, .iconst 1, 1), (605, .iadd, 1), (606, .iaload, 1), (607, .i2l, 1), (608, .bipush 32, 2), (610, .lshl, 1), (611, .aload_n 0, 1)]
theorem ok_Law_law_14 : (tb_Law_law_14.all fun e => decide (ab_ins y_Law_law e.1 = some e.2)) = true := by decide +kernel
theorem d_Law_law_583 : ab_ins y_Law_law 583 = some (.iload_n 3, 1) := ab_tb (e := (583, .iload_n 3, 1)) ok_Law_law_14 0 rfl
theorem d_Law_law_584 : ab_ins y_Law_law 584 = some (.iconst 2, 1) := ab_tb (e := (584, .iconst 2, 1)) ok_Law_law_14 1 rfl
theorem d_Law_law_585 : ab_ins y_Law_law 585 = some (.iadd, 1) := ab_tb (e := (585, .iadd, 1)) ok_Law_law_14 2 rfl
theorem d_Law_law_586 : ab_ins y_Law_law 586 = some (.iaload, 1) := ab_tb (e := (586, .iaload, 1)) ok_Law_law_14 3 rfl
theorem d_Law_law_587 : ab_ins y_Law_law 587 = some (.i2l, 1) := ab_tb (e := (587, .i2l, 1)) ok_Law_law_14 4 rfl
theorem d_Law_law_588 : ab_ins y_Law_law 588 = some (.ldc2_w 64, 3) := ab_tb (e := (588, .ldc2_w 64, 3)) ok_Law_law_14 5 rfl
theorem d_Law_law_591 : ab_ins y_Law_law 591 = some (.land, 1) := ab_tb (e := (591, .land, 1)) ok_Law_law_14 6 rfl
theorem d_Law_law_592 : ab_ins y_Law_law 592 = some (.lor, 1) := ab_tb (e := (592, .lor, 1)) ok_Law_law_14 7 rfl
theorem d_Law_law_593 : ab_ins y_Law_law 593 = some (.aload_n 0, 1) := ab_tb (e := (593, .aload_n 0, 1)) ok_Law_law_14 8 rfl
theorem d_Law_law_594 : ab_ins y_Law_law 594 = some (.iload_n 3, 1) := ab_tb (e := (594, .iload_n 3, 1)) ok_Law_law_14 9 rfl
theorem d_Law_law_595 : ab_ins y_Law_law 595 = some (.iconst 3, 1) := ab_tb (e := (595, .iconst 3, 1)) ok_Law_law_14 10 rfl
theorem d_Law_law_596 : ab_ins y_Law_law 596 = some (.iadd, 1) := ab_tb (e := (596, .iadd, 1)) ok_Law_law_14 11 rfl
theorem d_Law_law_597 : ab_ins y_Law_law 597 = some (.iaload, 1) := ab_tb (e := (597, .iaload, 1)) ok_Law_law_14 12 rfl
theorem d_Law_law_598 : ab_ins y_Law_law 598 = some (.invokevirtual 66, 3) := ab_tb (e := (598, .invokevirtual 66, 3)) ok_Law_law_14 13 rfl
theorem d_Law_law_601 : ab_ins y_Law_law 601 = some (.aload_n 2, 1) := ab_tb (e := (601, .aload_n 2, 1)) ok_Law_law_14 14 rfl
theorem d_Law_law_602 : ab_ins y_Law_law 602 = some (.aload_n 0, 1) := ab_tb (e := (602, .aload_n 0, 1)) ok_Law_law_14 15 rfl
theorem d_Law_law_603 : ab_ins y_Law_law 603 = some (.iload_n 3, 1) := ab_tb (e := (603, .iload_n 3, 1)) ok_Law_law_14 16 rfl
theorem d_Law_law_604 : ab_ins y_Law_law 604 = some (.iconst 1, 1) := ab_tb (e := (604, .iconst 1, 1)) ok_Law_law_14 17 rfl
theorem d_Law_law_605 : ab_ins y_Law_law 605 = some (.iadd, 1) := ab_tb (e := (605, .iadd, 1)) ok_Law_law_14 18 rfl
theorem d_Law_law_606 : ab_ins y_Law_law 606 = some (.iaload, 1) := ab_tb (e := (606, .iaload, 1)) ok_Law_law_14 19 rfl
theorem d_Law_law_607 : ab_ins y_Law_law 607 = some (.i2l, 1) := ab_tb (e := (607, .i2l, 1)) ok_Law_law_14 20 rfl
theorem d_Law_law_608 : ab_ins y_Law_law 608 = some (.bipush 32, 2) := ab_tb (e := (608, .bipush 32, 2)) ok_Law_law_14 21 rfl
theorem d_Law_law_610 : ab_ins y_Law_law 610 = some (.lshl, 1) := ab_tb (e := (610, .lshl, 1)) ok_Law_law_14 22 rfl
theorem d_Law_law_611 : ab_ins y_Law_law 611 = some (.aload_n 0, 1) := ab_tb (e := (611, .aload_n 0, 1)) ok_Law_law_14 23 rfl
def tb_Law_law_15 : List (Nat × Instr × Nat) := [(612, .iload_n 3, 1), (613, .iconst 2, 1), (614, .iadd, 1), (615, .iaload, 1), (616, .i2l, 1), (617, .ldc2_w 64, 3), (620, .land, 1), (621, .lor, 1), (622, .aload_n 0, 1), (623, .iload_n 3, 1), (624, .iconst 3, 1), (625, .iadd, 1), (626, .iaload, 1), (627, .invokevirtual 70, 3), (630, .if_icmp .eq 738, 3), (633, .iconst 0, 1), (634, .ireturn, 1), (635, .aload_n 1, 1), (636, .aload_n 0, 1), (637, .iload_n 3, 1), (638, .iconst 1, 1), (639, .iadd, 1), (640, .iaload, 1), (641, .invokevirtual 71, 3)]
theorem ok_Law_law_15 : (tb_Law_law_15.all fun e => decide (ab_ins y_Law_law e.1 = some e.2)) = true := by decide +kernel
theorem d_Law_law_612 : ab_ins y_Law_law 612 = some (.iload_n 3, 1) := ab_tb (e := (612, .iload_n 3, 1)) ok_Law_law_15 0 rfl
theorem d_Law_law_613 : ab_ins y_Law_law 613 = some (.iconst 2, 1) := ab_tb (e := (613, .iconst 2, 1)) ok_Law_law_15 1 rfl
theorem d_Law_law_614 : ab_ins y_Law_law 614 = some (.iadd, 1) := ab_tb (e := (614, .iadd, 1)) ok_Law_law_15 2 rfl
theorem d_Law_law_615 : ab_ins y_Law_law 615 = some (.iaload, 1) := ab_tb (e := (615, .iaload, 1)) ok_Law_law_15 3 rfl
theorem d_Law_law_616 : ab_ins y_Law_law 616 = some (.i2l, 1) := ab_tb (e := (616, .i2l, 1)) ok_Law_law_15 4 rfl
theorem d_Law_law_617 : ab_ins y_Law_law 617 = some (.ldc2_w 64, 3) := ab_tb (e := (617, .ldc2_w 64, 3)) ok_Law_law_15 5 rfl
theorem d_Law_law_620 : ab_ins y_Law_law 620 = some (.land, 1) := ab_tb (e := (620, .land, 1)) ok_Law_law_15 6 rfl
theorem d_Law_law_621 : ab_ins y_Law_law 621 = some (.lor, 1) := ab_tb (e := (621, .lor, 1)) ok_Law_law_15 7 rfl
theorem d_Law_law_622 : ab_ins y_Law_law 622 = some (.aload_n 0, 1) := ab_tb (e := (622, .aload_n 0, 1)) ok_Law_law_15 8 rfl
theorem d_Law_law_623 : ab_ins y_Law_law 623 = some (.iload_n 3, 1) := ab_tb (e := (623, .iload_n 3, 1)) ok_Law_law_15 9 rfl
theorem d_Law_law_624 : ab_ins y_Law_law 624 = some (.iconst 3, 1) := ab_tb (e := (624, .iconst 3, 1)) ok_Law_law_15 10 rfl
theorem d_Law_law_625 : ab_ins y_Law_law 625 = some (.iadd, 1) := ab_tb (e := (625, .iadd, 1)) ok_Law_law_15 11 rfl
theorem d_Law_law_626 : ab_ins y_Law_law 626 = some (.iaload, 1) := ab_tb (e := (626, .iaload, 1)) ok_Law_law_15 12 rfl
theorem d_Law_law_627 : ab_ins y_Law_law 627 = some (.invokevirtual 70, 3) := ab_tb (e := (627, .invokevirtual 70, 3)) ok_Law_law_15 13 rfl
theorem d_Law_law_630 : ab_ins y_Law_law 630 = some (.if_icmp .eq 738, 3) := ab_tb (e := (630, .if_icmp .eq 738, 3)) ok_Law_law_15 14 rfl
theorem d_Law_law_633 : ab_ins y_Law_law 633 = some (.iconst 0, 1) := ab_tb (e := (633, .iconst 0, 1)) ok_Law_law_15 15 rfl
theorem d_Law_law_634 : ab_ins y_Law_law 634 = some (.ireturn, 1) := ab_tb (e := (634, .ireturn, 1)) ok_Law_law_15 16 rfl
theorem d_Law_law_635 : ab_ins y_Law_law 635 = some (.aload_n 1, 1) := ab_tb (e := (635, .aload_n 1, 1)) ok_Law_law_15 17 rfl
theorem d_Law_law_636 : ab_ins y_Law_law 636 = some (.aload_n 0, 1) := ab_tb (e := (636, .aload_n 0, 1)) ok_Law_law_15 18 rfl
theorem d_Law_law_637 : ab_ins y_Law_law 637 = some (.iload_n 3, 1) := ab_tb (e := (637, .iload_n 3, 1)) ok_Law_law_15 19 rfl
theorem d_Law_law_638 : ab_ins y_Law_law 638 = some (.iconst 1, 1) := ab_tb (e := (638, .iconst 1, 1)) ok_Law_law_15 20 rfl
theorem d_Law_law_639 : ab_ins y_Law_law 639 = some (.iadd, 1) := ab_tb (e := (639, .iadd, 1)) ok_Law_law_15 21 rfl
theorem d_Law_law_640 : ab_ins y_Law_law 640 = some (.iaload, 1) := ab_tb (e := (640, .iaload, 1)) ok_Law_law_15 22 rfl
theorem d_Law_law_641 : ab_ins y_Law_law 641 = some (.invokevirtual 71, 3) := ab_tb (e := (641, .invokevirtual 71, 3)) ok_Law_law_15 23 rfl
def tb_Law_law_16 : List (Nat × Instr × Nat) := [(644, .aload_n 2, 1), (645, .aload_n 0, 1), (646, .iload_n 3, 1), (647, .iconst 1, 1), (648, .iadd, 1), (649, .iaload, 1), (650, .invokevirtual 74, 3), (653, .if_icmp .eq 715, 3), (656, .iconst 0, 1), (657, .ireturn, 1), (658, .aload_n 1, 1), (659, .aload_n 0, 1), (660, .iload_n 3, 1), (661, .iconst 1, 1), (662, .iadd, 1), (663, .iaload, 1), (664, .aload_n 0, 1), (665, .iload_n 3, 1), (666, .iconst 2, 1), (667, .iadd, 1), (668, .iaload, 1), (669, .aload_n 0, 1), (670, .iload_n 3, 1), (671, .iconst 3, 1)]
theorem ok_Law_law_16 : (tb_Law_law_16.all fun e => decide (ab_ins y_Law_law e.1 = some e.2)) = true := by decide +kernel
theorem d_Law_law_644 : ab_ins y_Law_law 644 = some (.aload_n 2, 1) := ab_tb (e := (644, .aload_n 2, 1)) ok_Law_law_16 0 rfl
theorem d_Law_law_645 : ab_ins y_Law_law 645 = some (.aload_n 0, 1) := ab_tb (e := (645, .aload_n 0, 1)) ok_Law_law_16 1 rfl
theorem d_Law_law_646 : ab_ins y_Law_law 646 = some (.iload_n 3, 1) := ab_tb (e := (646, .iload_n 3, 1)) ok_Law_law_16 2 rfl
theorem d_Law_law_647 : ab_ins y_Law_law 647 = some (.iconst 1, 1) := ab_tb (e := (647, .iconst 1, 1)) ok_Law_law_16 3 rfl
theorem d_Law_law_648 : ab_ins y_Law_law 648 = some (.iadd, 1) := ab_tb (e := (648, .iadd, 1)) ok_Law_law_16 4 rfl
theorem d_Law_law_649 : ab_ins y_Law_law 649 = some (.iaload, 1) := ab_tb (e := (649, .iaload, 1)) ok_Law_law_16 5 rfl
theorem d_Law_law_650 : ab_ins y_Law_law 650 = some (.invokevirtual 74, 3) := ab_tb (e := (650, .invokevirtual 74, 3)) ok_Law_law_16 6 rfl
theorem d_Law_law_653 : ab_ins y_Law_law 653 = some (.if_icmp .eq 715, 3) := ab_tb (e := (653, .if_icmp .eq 715, 3)) ok_Law_law_16 7 rfl
theorem d_Law_law_656 : ab_ins y_Law_law 656 = some (.iconst 0, 1) := ab_tb (e := (656, .iconst 0, 1)) ok_Law_law_16 8 rfl
theorem d_Law_law_657 : ab_ins y_Law_law 657 = some (.ireturn, 1) := ab_tb (e := (657, .ireturn, 1)) ok_Law_law_16 9 rfl
theorem d_Law_law_658 : ab_ins y_Law_law 658 = some (.aload_n 1, 1) := ab_tb (e := (658, .aload_n 1, 1)) ok_Law_law_16 10 rfl
theorem d_Law_law_659 : ab_ins y_Law_law 659 = some (.aload_n 0, 1) := ab_tb (e := (659, .aload_n 0, 1)) ok_Law_law_16 11 rfl
theorem d_Law_law_660 : ab_ins y_Law_law 660 = some (.iload_n 3, 1) := ab_tb (e := (660, .iload_n 3, 1)) ok_Law_law_16 12 rfl
theorem d_Law_law_661 : ab_ins y_Law_law 661 = some (.iconst 1, 1) := ab_tb (e := (661, .iconst 1, 1)) ok_Law_law_16 13 rfl
theorem d_Law_law_662 : ab_ins y_Law_law 662 = some (.iadd, 1) := ab_tb (e := (662, .iadd, 1)) ok_Law_law_16 14 rfl
theorem d_Law_law_663 : ab_ins y_Law_law 663 = some (.iaload, 1) := ab_tb (e := (663, .iaload, 1)) ok_Law_law_16 15 rfl
theorem d_Law_law_664 : ab_ins y_Law_law 664 = some (.aload_n 0, 1) := ab_tb (e := (664, .aload_n 0, 1)) ok_Law_law_16 16 rfl
theorem d_Law_law_665 : ab_ins y_Law_law 665 = some (.iload_n 3, 1) := ab_tb (e := (665, .iload_n 3, 1)) ok_Law_law_16 17 rfl
theorem d_Law_law_666 : ab_ins y_Law_law 666 = some (.iconst 2, 1) := ab_tb (e := (666, .iconst 2, 1)) ok_Law_law_16 18 rfl
theorem d_Law_law_667 : ab_ins y_Law_law 667 = some (.iadd, 1) := ab_tb (e := (667, .iadd, 1)) ok_Law_law_16 19 rfl
theorem d_Law_law_668 : ab_ins y_Law_law 668 = some (.iaload, 1) := ab_tb (e := (668, .iaload, 1)) ok_Law_law_16 20 rfl
theorem d_Law_law_669 : ab_ins y_Law_law 669 = some (.aload_n 0, 1) := ab_tb (e := (669, .aload_n 0, 1)) ok_Law_law_16 21 rfl
theorem d_Law_law_670 : ab_ins y_Law_law 670 = some (.iload_n 3, 1) := ab_tb (e := (670, .iload_n 3, 1)) ok_Law_law_16 22 rfl
theorem d_Law_law_671 : ab_ins y_Law_law 671 = some (.iconst 3, 1) := ab_tb (e := (671, .iconst 3, 1)) ok_Law_law_16 23 rfl
def tb_Law_law_17 : List (Nat × Instr × Nat) := [(672, .iadd, 1), (673, .iaload, 1), (674, .aload_n 0, 1), (675, .iload_n 3, 1), (676, .iconst 4, 1), (677, .iadd, 1), (678, .iaload, 1), (679, .invokevirtual 75, 3), (682, .aload_n 2, 1), (683, .aload_n 0, 1), (684, .iload_n 3, 1), (685, .iconst 1, 1), (686, .iadd, 1), (687, .iaload, 1), (688, .aload_n 0, 1), (689, .iload_n 3, 1), (690, .iconst 2, 1), (691, .iadd, 1), (692, .iaload, 1), (693, .aload_n 0, 1), (694, .iload_n 3, 1), (695, .iconst 3, 1), (696, .iadd, 1), (697, .iaload, 1)]
theorem ok_Law_law_17 : (tb_Law_law_17.all fun e => decide (ab_ins y_Law_law e.1 = some e.2)) = true := by decide +kernel
theorem d_Law_law_672 : ab_ins y_Law_law 672 = some (.iadd, 1) := ab_tb (e := (672, .iadd, 1)) ok_Law_law_17 0 rfl
theorem d_Law_law_673 : ab_ins y_Law_law 673 = some (.iaload, 1) := ab_tb (e := (673, .iaload, 1)) ok_Law_law_17 1 rfl
theorem d_Law_law_674 : ab_ins y_Law_law 674 = some (.aload_n 0, 1) := ab_tb (e := (674, .aload_n 0, 1)) ok_Law_law_17 2 rfl
theorem d_Law_law_675 : ab_ins y_Law_law 675 = some (.iload_n 3, 1) := ab_tb (e := (675, .iload_n 3, 1)) ok_Law_law_17 3 rfl
theorem d_Law_law_676 : ab_ins y_Law_law 676 = some (.iconst 4, 1) := ab_tb (e := (676, .iconst 4, 1)) ok_Law_law_17 4 rfl
theorem d_Law_law_677 : ab_ins y_Law_law 677 = some (.iadd, 1) := ab_tb (e := (677, .iadd, 1)) ok_Law_law_17 5 rfl
theorem d_Law_law_678 : ab_ins y_Law_law 678 = some (.iaload, 1) := ab_tb (e := (678, .iaload, 1)) ok_Law_law_17 6 rfl
theorem d_Law_law_679 : ab_ins y_Law_law 679 = some (.invokevirtual 75, 3) := ab_tb (e := (679, .invokevirtual 75, 3)) ok_Law_law_17 7 rfl
theorem d_Law_law_682 : ab_ins y_Law_law 682 = some (.aload_n 2, 1) := ab_tb (e := (682, .aload_n 2, 1)) ok_Law_law_17 8 rfl
theorem d_Law_law_683 : ab_ins y_Law_law 683 = some (.aload_n 0, 1) := ab_tb (e := (683, .aload_n 0, 1)) ok_Law_law_17 9 rfl
theorem d_Law_law_684 : ab_ins y_Law_law 684 = some (.iload_n 3, 1) := ab_tb (e := (684, .iload_n 3, 1)) ok_Law_law_17 10 rfl
theorem d_Law_law_685 : ab_ins y_Law_law 685 = some (.iconst 1, 1) := ab_tb (e := (685, .iconst 1, 1)) ok_Law_law_17 11 rfl
theorem d_Law_law_686 : ab_ins y_Law_law 686 = some (.iadd, 1) := ab_tb (e := (686, .iadd, 1)) ok_Law_law_17 12 rfl
theorem d_Law_law_687 : ab_ins y_Law_law 687 = some (.iaload, 1) := ab_tb (e := (687, .iaload, 1)) ok_Law_law_17 13 rfl
theorem d_Law_law_688 : ab_ins y_Law_law 688 = some (.aload_n 0, 1) := ab_tb (e := (688, .aload_n 0, 1)) ok_Law_law_17 14 rfl
theorem d_Law_law_689 : ab_ins y_Law_law 689 = some (.iload_n 3, 1) := ab_tb (e := (689, .iload_n 3, 1)) ok_Law_law_17 15 rfl
theorem d_Law_law_690 : ab_ins y_Law_law 690 = some (.iconst 2, 1) := ab_tb (e := (690, .iconst 2, 1)) ok_Law_law_17 16 rfl
theorem d_Law_law_691 : ab_ins y_Law_law 691 = some (.iadd, 1) := ab_tb (e := (691, .iadd, 1)) ok_Law_law_17 17 rfl
theorem d_Law_law_692 : ab_ins y_Law_law 692 = some (.iaload, 1) := ab_tb (e := (692, .iaload, 1)) ok_Law_law_17 18 rfl
theorem d_Law_law_693 : ab_ins y_Law_law 693 = some (.aload_n 0, 1) := ab_tb (e := (693, .aload_n 0, 1)) ok_Law_law_17 19 rfl
theorem d_Law_law_694 : ab_ins y_Law_law 694 = some (.iload_n 3, 1) := ab_tb (e := (694, .iload_n 3, 1)) ok_Law_law_17 20 rfl
theorem d_Law_law_695 : ab_ins y_Law_law 695 = some (.iconst 3, 1) := ab_tb (e := (695, .iconst 3, 1)) ok_Law_law_17 21 rfl
theorem d_Law_law_696 : ab_ins y_Law_law 696 = some (.iadd, 1) := ab_tb (e := (696, .iadd, 1)) ok_Law_law_17 22 rfl
theorem d_Law_law_697 : ab_ins y_Law_law 697 = some (.iaload, 1) := ab_tb (e := (697, .iaload, 1)) ok_Law_law_17 23 rfl
def tb_Law_law_18 : List (Nat × Instr × Nat) := [(698, .aload_n 0, 1), (699, .iload_n 3, 1), (700, .iconst 4, 1), (701, .iadd, 1), (702, .iaload, 1), (703, .invokevirtual 79, 3), (706, .if_icmp .eq 662, 3), (709, .iconst 0, 1), (710, .ireturn, 1), (711, .aload_n 1, 1), (712, .aload_n 0, 1), (713, .iload_n 3, 1), (714, .iconst 1, 1), (715, .iadd, 1), (716, .iaload, 1), (717, .aload_n 0, 1), (718, .iload_n 3, 1), (719, .iconst 2, 1), (720, .iadd, 1), (721, .iaload, 1), (722, .invokevirtual 80, 3), (725, .aload_n 2, 1), (726, .aload_n 0, 1), (727, .iload_n 3, 1)]
theorem ok_Law_law_18 : (tb_Law_law_18.all fun e => decide (ab_ins y_Law_law e.1 = some e.2)) = true := by decide +kernel
theorem d_Law_law_698 : ab_ins y_Law_law 698 = some (.aload_n 0, 1) := ab_tb (e := (698, .aload_n 0, 1)) ok_Law_law_18 0 rfl
theorem d_Law_law_699 : ab_ins y_Law_law 699 = some (.iload_n 3, 1) := ab_tb (e := (699, .iload_n 3, 1)) ok_Law_law_18 1 rfl
theorem d_Law_law_700 : ab_ins y_Law_law 700 = some (.iconst 4, 1) := ab_tb (e := (700, .iconst 4, 1)) ok_Law_law_18 2 rfl
theorem d_Law_law_701 : ab_ins y_Law_law 701 = some (.iadd, 1) := ab_tb (e := (701, .iadd, 1)) ok_Law_law_18 3 rfl
theorem d_Law_law_702 : ab_ins y_Law_law 702 = some (.iaload, 1) := ab_tb (e := (702, .iaload, 1)) ok_Law_law_18 4 rfl
theorem d_Law_law_703 : ab_ins y_Law_law 703 = some (.invokevirtual 79, 3) := ab_tb (e := (703, .invokevirtual 79, 3)) ok_Law_law_18 5 rfl
theorem d_Law_law_706 : ab_ins y_Law_law 706 = some (.if_icmp .eq 662, 3) := ab_tb (e := (706, .if_icmp .eq 662, 3)) ok_Law_law_18 6 rfl
theorem d_Law_law_709 : ab_ins y_Law_law 709 = some (.iconst 0, 1) := ab_tb (e := (709, .iconst 0, 1)) ok_Law_law_18 7 rfl
theorem d_Law_law_710 : ab_ins y_Law_law 710 = some (.ireturn, 1) := ab_tb (e := (710, .ireturn, 1)) ok_Law_law_18 8 rfl
theorem d_Law_law_711 : ab_ins y_Law_law 711 = some (.aload_n 1, 1) := ab_tb (e := (711, .aload_n 1, 1)) ok_Law_law_18 9 rfl
theorem d_Law_law_712 : ab_ins y_Law_law 712 = some (.aload_n 0, 1) := ab_tb (e := (712, .aload_n 0, 1)) ok_Law_law_18 10 rfl
theorem d_Law_law_713 : ab_ins y_Law_law 713 = some (.iload_n 3, 1) := ab_tb (e := (713, .iload_n 3, 1)) ok_Law_law_18 11 rfl
theorem d_Law_law_714 : ab_ins y_Law_law 714 = some (.iconst 1, 1) := ab_tb (e := (714, .iconst 1, 1)) ok_Law_law_18 12 rfl
theorem d_Law_law_715 : ab_ins y_Law_law 715 = some (.iadd, 1) := ab_tb (e := (715, .iadd, 1)) ok_Law_law_18 13 rfl
theorem d_Law_law_716 : ab_ins y_Law_law 716 = some (.iaload, 1) := ab_tb (e := (716, .iaload, 1)) ok_Law_law_18 14 rfl
theorem d_Law_law_717 : ab_ins y_Law_law 717 = some (.aload_n 0, 1) := ab_tb (e := (717, .aload_n 0, 1)) ok_Law_law_18 15 rfl
theorem d_Law_law_718 : ab_ins y_Law_law 718 = some (.iload_n 3, 1) := ab_tb (e := (718, .iload_n 3, 1)) ok_Law_law_18 16 rfl
theorem d_Law_law_719 : ab_ins y_Law_law 719 = some (.iconst 2, 1) := ab_tb (e := (719, .iconst 2, 1)) ok_Law_law_18 17 rfl
theorem d_Law_law_720 : ab_ins y_Law_law 720 = some (.iadd, 1) := ab_tb (e := (720, .iadd, 1)) ok_Law_law_18 18 rfl
theorem d_Law_law_721 : ab_ins y_Law_law 721 = some (.iaload, 1) := ab_tb (e := (721, .iaload, 1)) ok_Law_law_18 19 rfl
theorem d_Law_law_722 : ab_ins y_Law_law 722 = some (.invokevirtual 80, 3) := ab_tb (e := (722, .invokevirtual 80, 3)) ok_Law_law_18 20 rfl
theorem d_Law_law_725 : ab_ins y_Law_law 725 = some (.aload_n 2, 1) := ab_tb (e := (725, .aload_n 2, 1)) ok_Law_law_18 21 rfl
theorem d_Law_law_726 : ab_ins y_Law_law 726 = some (.aload_n 0, 1) := ab_tb (e := (726, .aload_n 0, 1)) ok_Law_law_18 22 rfl
theorem d_Law_law_727 : ab_ins y_Law_law 727 = some (.iload_n 3, 1) := ab_tb (e := (727, .iload_n 3, 1)) ok_Law_law_18 23 rfl
def tb_Law_law_19 : List (Nat × Instr × Nat) := [(728, .iconst 1, 1), (729, .iadd, 1), (730, .iaload, 1), (731, .aload_n 0, 1), (732, .iload_n 3, 1), (733, .iconst 2, 1), (734, .iadd, 1), (735, .iaload, 1), (736, .invokevirtual 83, 3), (739, .if_icmp .eq 629, 3), (742, .iconst 0, 1), (743, .ireturn, 1), (744, .aload_n 1, 1), (745, .aload_n 0, 1), (746, .iload_n 3, 1), (747, .iconst 1, 1), (748, .iadd, 1), (749, .iaload, 1), (750, .invokevirtual 84, 3), (753, .aload_n 2, 1), (754, .aload_n 0, 1), (755, .iload_n 3, 1), (756, .iconst 1, 1), (757, .iadd, 1)]
theorem ok_Law_law_19 : (tb_Law_law_19.all fun e => decide (ab_ins y_Law_law e.1 = some e.2)) = true := by decide +kernel
theorem d_Law_law_728 : ab_ins y_Law_law 728 = some (.iconst 1, 1) := ab_tb (e := (728, .iconst 1, 1)) ok_Law_law_19 0 rfl
theorem d_Law_law_729 : ab_ins y_Law_law 729 = some (.iadd, 1) := ab_tb (e := (729, .iadd, 1)) ok_Law_law_19 1 rfl
theorem d_Law_law_730 : ab_ins y_Law_law 730 = some (.iaload, 1) := ab_tb (e := (730, .iaload, 1)) ok_Law_law_19 2 rfl
theorem d_Law_law_731 : ab_ins y_Law_law 731 = some (.aload_n 0, 1) := ab_tb (e := (731, .aload_n 0, 1)) ok_Law_law_19 3 rfl
theorem d_Law_law_732 : ab_ins y_Law_law 732 = some (.iload_n 3, 1) := ab_tb (e := (732, .iload_n 3, 1)) ok_Law_law_19 4 rfl
theorem d_Law_law_733 : ab_ins y_Law_law 733 = some (.iconst 2, 1) := ab_tb (e := (733, .iconst 2, 1)) ok_Law_law_19 5 rfl
theorem d_Law_law_734 : ab_ins y_Law_law 734 = some (.iadd, 1) := ab_tb (e := (734, .iadd, 1)) ok_Law_law_19 6 rfl
theorem d_Law_law_735 : ab_ins y_Law_law 735 = some (.iaload, 1) := ab_tb (e := (735, .iaload, 1)) ok_Law_law_19 7 rfl
theorem d_Law_law_736 : ab_ins y_Law_law 736 = some (.invokevirtual 83, 3) := ab_tb (e := (736, .invokevirtual 83, 3)) ok_Law_law_19 8 rfl
theorem d_Law_law_739 : ab_ins y_Law_law 739 = some (.if_icmp .eq 629, 3) := ab_tb (e := (739, .if_icmp .eq 629, 3)) ok_Law_law_19 9 rfl
theorem d_Law_law_742 : ab_ins y_Law_law 742 = some (.iconst 0, 1) := ab_tb (e := (742, .iconst 0, 1)) ok_Law_law_19 10 rfl
theorem d_Law_law_743 : ab_ins y_Law_law 743 = some (.ireturn, 1) := ab_tb (e := (743, .ireturn, 1)) ok_Law_law_19 11 rfl
theorem d_Law_law_744 : ab_ins y_Law_law 744 = some (.aload_n 1, 1) := ab_tb (e := (744, .aload_n 1, 1)) ok_Law_law_19 12 rfl
theorem d_Law_law_745 : ab_ins y_Law_law 745 = some (.aload_n 0, 1) := ab_tb (e := (745, .aload_n 0, 1)) ok_Law_law_19 13 rfl
theorem d_Law_law_746 : ab_ins y_Law_law 746 = some (.iload_n 3, 1) := ab_tb (e := (746, .iload_n 3, 1)) ok_Law_law_19 14 rfl
theorem d_Law_law_747 : ab_ins y_Law_law 747 = some (.iconst 1, 1) := ab_tb (e := (747, .iconst 1, 1)) ok_Law_law_19 15 rfl
theorem d_Law_law_748 : ab_ins y_Law_law 748 = some (.iadd, 1) := ab_tb (e := (748, .iadd, 1)) ok_Law_law_19 16 rfl
theorem d_Law_law_749 : ab_ins y_Law_law 749 = some (.iaload, 1) := ab_tb (e := (749, .iaload, 1)) ok_Law_law_19 17 rfl
theorem d_Law_law_750 : ab_ins y_Law_law 750 = some (.invokevirtual 84, 3) := ab_tb (e := (750, .invokevirtual 84, 3)) ok_Law_law_19 18 rfl
theorem d_Law_law_753 : ab_ins y_Law_law 753 = some (.aload_n 2, 1) := ab_tb (e := (753, .aload_n 2, 1)) ok_Law_law_19 19 rfl
theorem d_Law_law_754 : ab_ins y_Law_law 754 = some (.aload_n 0, 1) := ab_tb (e := (754, .aload_n 0, 1)) ok_Law_law_19 20 rfl
theorem d_Law_law_755 : ab_ins y_Law_law 755 = some (.iload_n 3, 1) := ab_tb (e := (755, .iload_n 3, 1)) ok_Law_law_19 21 rfl
theorem d_Law_law_756 : ab_ins y_Law_law 756 = some (.iconst 1, 1) := ab_tb (e := (756, .iconst 1, 1)) ok_Law_law_19 22 rfl
theorem d_Law_law_757 : ab_ins y_Law_law 757 = some (.iadd, 1) := ab_tb (e := (757, .iadd, 1)) ok_Law_law_19 23 rfl
def tb_Law_law_20 : List (Nat × Instr × Nat) := [(758, .iaload, 1), (759, .invokevirtual 87, 3), (762, .if_icmp .eq 606, 3), (765, .iconst 0, 1), (766, .ireturn, 1), (767, .aload_n 1, 1), (768, .aload_n 0, 1), (769, .iload_n 3, 1), (770, .iconst 1, 1), (771, .iadd, 1), (772, .iaload, 1), (773, .aload_n 0, 1), (774, .iload_n 3, 1), (775, .iconst 2, 1), (776, .iadd, 1), (777, .iaload, 1), (778, .invokevirtual 88, 3), (781, .aload_n 2, 1), (782, .aload_n 0, 1), (783, .iload_n 3, 1), (784, .iconst 1, 1), (785, .iadd, 1), (786, .iaload, 1), (787, .aload_n 0, 1)]
theorem ok_Law_law_20 : (tb_Law_law_20.all fun e => decide (ab_ins y_Law_law e.1 = some e.2)) = true := by decide +kernel
theorem d_Law_law_758 : ab_ins y_Law_law 758 = some (.iaload, 1) := ab_tb (e := (758, .iaload, 1)) ok_Law_law_20 0 rfl
theorem d_Law_law_759 : ab_ins y_Law_law 759 = some (.invokevirtual 87, 3) := ab_tb (e := (759, .invokevirtual 87, 3)) ok_Law_law_20 1 rfl
theorem d_Law_law_762 : ab_ins y_Law_law 762 = some (.if_icmp .eq 606, 3) := ab_tb (e := (762, .if_icmp .eq 606, 3)) ok_Law_law_20 2 rfl
theorem d_Law_law_765 : ab_ins y_Law_law 765 = some (.iconst 0, 1) := ab_tb (e := (765, .iconst 0, 1)) ok_Law_law_20 3 rfl
theorem d_Law_law_766 : ab_ins y_Law_law 766 = some (.ireturn, 1) := ab_tb (e := (766, .ireturn, 1)) ok_Law_law_20 4 rfl
theorem d_Law_law_767 : ab_ins y_Law_law 767 = some (.aload_n 1, 1) := ab_tb (e := (767, .aload_n 1, 1)) ok_Law_law_20 5 rfl
theorem d_Law_law_768 : ab_ins y_Law_law 768 = some (.aload_n 0, 1) := ab_tb (e := (768, .aload_n 0, 1)) ok_Law_law_20 6 rfl
theorem d_Law_law_769 : ab_ins y_Law_law 769 = some (.iload_n 3, 1) := ab_tb (e := (769, .iload_n 3, 1)) ok_Law_law_20 7 rfl
theorem d_Law_law_770 : ab_ins y_Law_law 770 = some (.iconst 1, 1) := ab_tb (e := (770, .iconst 1, 1)) ok_Law_law_20 8 rfl
theorem d_Law_law_771 : ab_ins y_Law_law 771 = some (.iadd, 1) := ab_tb (e := (771, .iadd, 1)) ok_Law_law_20 9 rfl
theorem d_Law_law_772 : ab_ins y_Law_law 772 = some (.iaload, 1) := ab_tb (e := (772, .iaload, 1)) ok_Law_law_20 10 rfl
theorem d_Law_law_773 : ab_ins y_Law_law 773 = some (.aload_n 0, 1) := ab_tb (e := (773, .aload_n 0, 1)) ok_Law_law_20 11 rfl
theorem d_Law_law_774 : ab_ins y_Law_law 774 = some (.iload_n 3, 1) := ab_tb (e := (774, .iload_n 3, 1)) ok_Law_law_20 12 rfl
theorem d_Law_law_775 : ab_ins y_Law_law 775 = some (.iconst 2, 1) := ab_tb (e := (775, .iconst 2, 1)) ok_Law_law_20 13 rfl
theorem d_Law_law_776 : ab_ins y_Law_law 776 = some (.iadd, 1) := ab_tb (e := (776, .iadd, 1)) ok_Law_law_20 14 rfl
theorem d_Law_law_777 : ab_ins y_Law_law 777 = some (.iaload, 1) := ab_tb (e := (777, .iaload, 1)) ok_Law_law_20 15 rfl
theorem d_Law_law_778 : ab_ins y_Law_law 778 = some (.invokevirtual 88, 3) := ab_tb (e := (778, .invokevirtual 88, 3)) ok_Law_law_20 16 rfl
theorem d_Law_law_781 : ab_ins y_Law_law 781 = some (.aload_n 2, 1) := ab_tb (e := (781, .aload_n 2, 1)) ok_Law_law_20 17 rfl
theorem d_Law_law_782 : ab_ins y_Law_law 782 = some (.aload_n 0, 1) := ab_tb (e := (782, .aload_n 0, 1)) ok_Law_law_20 18 rfl
theorem d_Law_law_783 : ab_ins y_Law_law 783 = some (.iload_n 3, 1) := ab_tb (e := (783, .iload_n 3, 1)) ok_Law_law_20 19 rfl
theorem d_Law_law_784 : ab_ins y_Law_law 784 = some (.iconst 1, 1) := ab_tb (e := (784, .iconst 1, 1)) ok_Law_law_20 20 rfl
theorem d_Law_law_785 : ab_ins y_Law_law 785 = some (.iadd, 1) := ab_tb (e := (785, .iadd, 1)) ok_Law_law_20 21 rfl
theorem d_Law_law_786 : ab_ins y_Law_law 786 = some (.iaload, 1) := ab_tb (e := (786, .iaload, 1)) ok_Law_law_20 22 rfl
theorem d_Law_law_787 : ab_ins y_Law_law 787 = some (.aload_n 0, 1) := ab_tb (e := (787, .aload_n 0, 1)) ok_Law_law_20 23 rfl
def tb_Law_law_21 : List (Nat × Instr × Nat) := [(788, .iload_n 3, 1), (789, .iconst 2, 1), (790, .iadd, 1), (791, .iaload, 1), (792, .invokevirtual 91, 3), (795, .if_icmp .eq 573, 3), (798, .iconst 0, 1), (799, .ireturn, 1), (800, .aload_n 1, 1), (801, .aload_n 0, 1), (802, .iload_n 3, 1), (803, .iconst 1, 1), (804, .iadd, 1), (805, .iaload, 1), (806, .aload_n 0, 1), (807, .iload_n 3, 1), (808, .iconst 2, 1), (809, .iadd, 1), (810, .iaload, 1), (811, .aload_n 0, 1), (812, .iload_n 3, 1), (813, .iconst 3, 1), (814, .iadd, 1), (815, .iaload, 1)]
theorem ok_Law_law_21 : (tb_Law_law_21.all fun e => decide (ab_ins y_Law_law e.1 = some e.2)) = true := by decide +kernel
theorem d_Law_law_788 : ab_ins y_Law_law 788 = some (.iload_n 3, 1) := ab_tb (e := (788, .iload_n 3, 1)) ok_Law_law_21 0 rfl
theorem d_Law_law_789 : ab_ins y_Law_law 789 = some (.iconst 2, 1) := ab_tb (e := (789, .iconst 2, 1)) ok_Law_law_21 1 rfl
theorem d_Law_law_790 : ab_ins y_Law_law 790 = some (.iadd, 1) := ab_tb (e := (790, .iadd, 1)) ok_Law_law_21 2 rfl
theorem d_Law_law_791 : ab_ins y_Law_law 791 = some (.iaload, 1) := ab_tb (e := (791, .iaload, 1)) ok_Law_law_21 3 rfl
theorem d_Law_law_792 : ab_ins y_Law_law 792 = some (.invokevirtual 91, 3) := ab_tb (e := (792, .invokevirtual 91, 3)) ok_Law_law_21 4 rfl
theorem d_Law_law_795 : ab_ins y_Law_law 795 = some (.if_icmp .eq 573, 3) := ab_tb (e := (795, .if_icmp .eq 573, 3)) ok_Law_law_21 5 rfl
theorem d_Law_law_798 : ab_ins y_Law_law 798 = some (.iconst 0, 1) := ab_tb (e := (798, .iconst 0, 1)) ok_Law_law_21 6 rfl
theorem d_Law_law_799 : ab_ins y_Law_law 799 = some (.ireturn, 1) := ab_tb (e := (799, .ireturn, 1)) ok_Law_law_21 7 rfl
theorem d_Law_law_800 : ab_ins y_Law_law 800 = some (.aload_n 1, 1) := ab_tb (e := (800, .aload_n 1, 1)) ok_Law_law_21 8 rfl
theorem d_Law_law_801 : ab_ins y_Law_law 801 = some (.aload_n 0, 1) := ab_tb (e := (801, .aload_n 0, 1)) ok_Law_law_21 9 rfl
theorem d_Law_law_802 : ab_ins y_Law_law 802 = some (.iload_n 3, 1) := ab_tb (e := (802, .iload_n 3, 1)) ok_Law_law_21 10 rfl
theorem d_Law_law_803 : ab_ins y_Law_law 803 = some (.iconst 1, 1) := ab_tb (e := (803, .iconst 1, 1)) ok_Law_law_21 11 rfl
theorem d_Law_law_804 : ab_ins y_Law_law 804 = some (.iadd, 1) := ab_tb (e := (804, .iadd, 1)) ok_Law_law_21 12 rfl
theorem d_Law_law_805 : ab_ins y_Law_law 805 = some (.iaload, 1) := ab_tb (e := (805, .iaload, 1)) ok_Law_law_21 13 rfl
theorem d_Law_law_806 : ab_ins y_Law_law 806 = some (.aload_n 0, 1) := ab_tb (e := (806, .aload_n 0, 1)) ok_Law_law_21 14 rfl
theorem d_Law_law_807 : ab_ins y_Law_law 807 = some (.iload_n 3, 1) := ab_tb (e := (807, .iload_n 3, 1)) ok_Law_law_21 15 rfl
theorem d_Law_law_808 : ab_ins y_Law_law 808 = some (.iconst 2, 1) := ab_tb (e := (808, .iconst 2, 1)) ok_Law_law_21 16 rfl
theorem d_Law_law_809 : ab_ins y_Law_law 809 = some (.iadd, 1) := ab_tb (e := (809, .iadd, 1)) ok_Law_law_21 17 rfl
theorem d_Law_law_810 : ab_ins y_Law_law 810 = some (.iaload, 1) := ab_tb (e := (810, .iaload, 1)) ok_Law_law_21 18 rfl
theorem d_Law_law_811 : ab_ins y_Law_law 811 = some (.aload_n 0, 1) := ab_tb (e := (811, .aload_n 0, 1)) ok_Law_law_21 19 rfl
theorem d_Law_law_812 : ab_ins y_Law_law 812 = some (.iload_n 3, 1) := ab_tb (e := (812, .iload_n 3, 1)) ok_Law_law_21 20 rfl
theorem d_Law_law_813 : ab_ins y_Law_law 813 = some (.iconst 3, 1) := ab_tb (e := (813, .iconst 3, 1)) ok_Law_law_21 21 rfl
theorem d_Law_law_814 : ab_ins y_Law_law 814 = some (.iadd, 1) := ab_tb (e := (814, .iadd, 1)) ok_Law_law_21 22 rfl
theorem d_Law_law_815 : ab_ins y_Law_law 815 = some (.iaload, 1) := ab_tb (e := (815, .iaload, 1)) ok_Law_law_21 23 rfl
def tb_Law_law_22 : List (Nat × Instr × Nat) := [(816, .invokevirtual 92, 3), (819, .aload_n 2, 1), (820, .aload_n 0, 1), (821, .iload_n 3, 1), (822, .iconst 1, 1), (823, .iadd, 1), (824, .iaload, 1), (825, .aload_n 0, 1), (826, .iload_n 3, 1), (827, .iconst 2, 1), (828, .iadd, 1), (829, .iaload, 1), (830, .aload_n 0, 1), (831, .iload_n 3, 1), (832, .iconst 3, 1), (833, .iadd, 1), (834, .iaload, 1), (835, .invokevirtual 95, 3), (838, .if_icmp .eq 530, 3), (841, .iconst 0, 1), (842, .ireturn, 1), (843, .aload_n 1, 1), (844, .aload_n 0, 1), (845, .iload_n 3, 1)]
theorem ok_Law_law_22 : (tb_Law_law_22.all fun e => decide (ab_ins y_Law_law e.1 = some e.2)) = true := by decide +kernel
theorem d_Law_law_816 : ab_ins y_Law_law 816 = some (.invokevirtual 92, 3) := ab_tb (e := (816, .invokevirtual 92, 3)) ok_Law_law_22 0 rfl
theorem d_Law_law_819 : ab_ins y_Law_law 819 = some (.aload_n 2, 1) := ab_tb (e := (819, .aload_n 2, 1)) ok_Law_law_22 1 rfl
theorem d_Law_law_820 : ab_ins y_Law_law 820 = some (.aload_n 0, 1) := ab_tb (e := (820, .aload_n 0, 1)) ok_Law_law_22 2 rfl
theorem d_Law_law_821 : ab_ins y_Law_law 821 = some (.iload_n 3, 1) := ab_tb (e := (821, .iload_n 3, 1)) ok_Law_law_22 3 rfl
theorem d_Law_law_822 : ab_ins y_Law_law 822 = some (.iconst 1, 1) := ab_tb (e := (822, .iconst 1, 1)) ok_Law_law_22 4 rfl
theorem d_Law_law_823 : ab_ins y_Law_law 823 = some (.iadd, 1) := ab_tb (e := (823, .iadd, 1)) ok_Law_law_22 5 rfl
theorem d_Law_law_824 : ab_ins y_Law_law 824 = some (.iaload, 1) := ab_tb (e := (824, .iaload, 1)) ok_Law_law_22 6 rfl
theorem d_Law_law_825 : ab_ins y_Law_law 825 = some (.aload_n 0, 1) := ab_tb (e := (825, .aload_n 0, 1)) ok_Law_law_22 7 rfl
theorem d_Law_law_826 : ab_ins y_Law_law 826 = some (.iload_n 3, 1) := ab_tb (e := (826, .iload_n 3, 1)) ok_Law_law_22 8 rfl
theorem d_Law_law_827 : ab_ins y_Law_law 827 = some (.iconst 2, 1) := ab_tb (e := (827, .iconst 2, 1)) ok_Law_law_22 9 rfl
theorem d_Law_law_828 : ab_ins y_Law_law 828 = some (.iadd, 1) := ab_tb (e := (828, .iadd, 1)) ok_Law_law_22 10 rfl
theorem d_Law_law_829 : ab_ins y_Law_law 829 = some (.iaload, 1) := ab_tb (e := (829, .iaload, 1)) ok_Law_law_22 11 rfl
theorem d_Law_law_830 : ab_ins y_Law_law 830 = some (.aload_n 0, 1) := ab_tb (e := (830, .aload_n 0, 1)) ok_Law_law_22 12 rfl
theorem d_Law_law_831 : ab_ins y_Law_law 831 = some (.iload_n 3, 1) := ab_tb (e := (831, .iload_n 3, 1)) ok_Law_law_22 13 rfl
theorem d_Law_law_832 : ab_ins y_Law_law 832 = some (.iconst 3, 1) := ab_tb (e := (832, .iconst 3, 1)) ok_Law_law_22 14 rfl
theorem d_Law_law_833 : ab_ins y_Law_law 833 = some (.iadd, 1) := ab_tb (e := (833, .iadd, 1)) ok_Law_law_22 15 rfl
theorem d_Law_law_834 : ab_ins y_Law_law 834 = some (.iaload, 1) := ab_tb (e := (834, .iaload, 1)) ok_Law_law_22 16 rfl
theorem d_Law_law_835 : ab_ins y_Law_law 835 = some (.invokevirtual 95, 3) := ab_tb (e := (835, .invokevirtual 95, 3)) ok_Law_law_22 17 rfl
theorem d_Law_law_838 : ab_ins y_Law_law 838 = some (.if_icmp .eq 530, 3) := ab_tb (e := (838, .if_icmp .eq 530, 3)) ok_Law_law_22 18 rfl
theorem d_Law_law_841 : ab_ins y_Law_law 841 = some (.iconst 0, 1) := ab_tb (e := (841, .iconst 0, 1)) ok_Law_law_22 19 rfl
theorem d_Law_law_842 : ab_ins y_Law_law 842 = some (.ireturn, 1) := ab_tb (e := (842, .ireturn, 1)) ok_Law_law_22 20 rfl
theorem d_Law_law_843 : ab_ins y_Law_law 843 = some (.aload_n 1, 1) := ab_tb (e := (843, .aload_n 1, 1)) ok_Law_law_22 21 rfl
theorem d_Law_law_844 : ab_ins y_Law_law 844 = some (.aload_n 0, 1) := ab_tb (e := (844, .aload_n 0, 1)) ok_Law_law_22 22 rfl
theorem d_Law_law_845 : ab_ins y_Law_law 845 = some (.iload_n 3, 1) := ab_tb (e := (845, .iload_n 3, 1)) ok_Law_law_22 23 rfl
def tb_Law_law_23 : List (Nat × Instr × Nat) := [(846, .iconst 1, 1), (847, .iadd, 1), (848, .iaload, 1), (849, .aload_n 0, 1), (850, .iload_n 3, 1), (851, .iconst 2, 1), (852, .iadd, 1), (853, .iaload, 1), (854, .invokevirtual 96, 3), (857, .aload_n 2, 1), (858, .aload_n 0, 1), (859, .iload_n 3, 1), (860, .iconst 1, 1), (861, .iadd, 1), (862, .iaload, 1), (863, .aload_n 0, 1), (864, .iload_n 3, 1), (865, .iconst 2, 1), (866, .iadd, 1), (867, .iaload, 1), (868, .invokevirtual 99, 3), (871, .if_icmp .eq 497, 3), (874, .iconst 0, 1), (875, .ireturn, 1)]
theorem ok_Law_law_23 : (tb_Law_law_23.all fun e => decide (ab_ins y_Law_law e.1 = some e.2)) = true := by decide +kernel
theorem d_Law_law_846 : ab_ins y_Law_law 846 = some (.iconst 1, 1) := ab_tb (e := (846, .iconst 1, 1)) ok_Law_law_23 0 rfl
theorem d_Law_law_847 : ab_ins y_Law_law 847 = some (.iadd, 1) := ab_tb (e := (847, .iadd, 1)) ok_Law_law_23 1 rfl
theorem d_Law_law_848 : ab_ins y_Law_law 848 = some (.iaload, 1) := ab_tb (e := (848, .iaload, 1)) ok_Law_law_23 2 rfl
theorem d_Law_law_849 : ab_ins y_Law_law 849 = some (.aload_n 0, 1) := ab_tb (e := (849, .aload_n 0, 1)) ok_Law_law_23 3 rfl
theorem d_Law_law_850 : ab_ins y_Law_law 850 = some (.iload_n 3, 1) := ab_tb (e := (850, .iload_n 3, 1)) ok_Law_law_23 4 rfl
theorem d_Law_law_851 : ab_ins y_Law_law 851 = some (.iconst 2, 1) := ab_tb (e := (851, .iconst 2, 1)) ok_Law_law_23 5 rfl
theorem d_Law_law_852 : ab_ins y_Law_law 852 = some (.iadd, 1) := ab_tb (e := (852, .iadd, 1)) ok_Law_law_23 6 rfl
theorem d_Law_law_853 : ab_ins y_Law_law 853 = some (.iaload, 1) := ab_tb (e := (853, .iaload, 1)) ok_Law_law_23 7 rfl
theorem d_Law_law_854 : ab_ins y_Law_law 854 = some (.invokevirtual 96, 3) := ab_tb (e := (854, .invokevirtual 96, 3)) ok_Law_law_23 8 rfl
theorem d_Law_law_857 : ab_ins y_Law_law 857 = some (.aload_n 2, 1) := ab_tb (e := (857, .aload_n 2, 1)) ok_Law_law_23 9 rfl
theorem d_Law_law_858 : ab_ins y_Law_law 858 = some (.aload_n 0, 1) := ab_tb (e := (858, .aload_n 0, 1)) ok_Law_law_23 10 rfl
theorem d_Law_law_859 : ab_ins y_Law_law 859 = some (.iload_n 3, 1) := ab_tb (e := (859, .iload_n 3, 1)) ok_Law_law_23 11 rfl
theorem d_Law_law_860 : ab_ins y_Law_law 860 = some (.iconst 1, 1) := ab_tb (e := (860, .iconst 1, 1)) ok_Law_law_23 12 rfl
theorem d_Law_law_861 : ab_ins y_Law_law 861 = some (.iadd, 1) := ab_tb (e := (861, .iadd, 1)) ok_Law_law_23 13 rfl
theorem d_Law_law_862 : ab_ins y_Law_law 862 = some (.iaload, 1) := ab_tb (e := (862, .iaload, 1)) ok_Law_law_23 14 rfl
theorem d_Law_law_863 : ab_ins y_Law_law 863 = some (.aload_n 0, 1) := ab_tb (e := (863, .aload_n 0, 1)) ok_Law_law_23 15 rfl
theorem d_Law_law_864 : ab_ins y_Law_law 864 = some (.iload_n 3, 1) := ab_tb (e := (864, .iload_n 3, 1)) ok_Law_law_23 16 rfl
theorem d_Law_law_865 : ab_ins y_Law_law 865 = some (.iconst 2, 1) := ab_tb (e := (865, .iconst 2, 1)) ok_Law_law_23 17 rfl
theorem d_Law_law_866 : ab_ins y_Law_law 866 = some (.iadd, 1) := ab_tb (e := (866, .iadd, 1)) ok_Law_law_23 18 rfl
theorem d_Law_law_867 : ab_ins y_Law_law 867 = some (.iaload, 1) := ab_tb (e := (867, .iaload, 1)) ok_Law_law_23 19 rfl
theorem d_Law_law_868 : ab_ins y_Law_law 868 = some (.invokevirtual 99, 3) := ab_tb (e := (868, .invokevirtual 99, 3)) ok_Law_law_23 20 rfl
theorem d_Law_law_871 : ab_ins y_Law_law 871 = some (.if_icmp .eq 497, 3) := ab_tb (e := (871, .if_icmp .eq 497, 3)) ok_Law_law_23 21 rfl
theorem d_Law_law_874 : ab_ins y_Law_law 874 = some (.iconst 0, 1) := ab_tb (e := (874, .iconst 0, 1)) ok_Law_law_23 22 rfl
theorem d_Law_law_875 : ab_ins y_Law_law 875 = some (.ireturn, 1) := ab_tb (e := (875, .ireturn, 1)) ok_Law_law_23 23 rfl
def tb_Law_law_24 : List (Nat × Instr × Nat) := [(876, .aload_n 1, 1), (877, .aload_n 0, 1), (878, .iload_n 3, 1), (879, .iconst 1, 1), (880, .iadd, 1), (881, .iaload, 1), (882, .aload_n 0, 1), (883, .iload_n 3, 1), (884, .iconst 2, 1), (885, .iadd, 1), (886, .iaload, 1), (887, .invokevirtual 100, 3), (890, .aload_n 2, 1), (891, .aload_n 0, 1), (892, .iload_n 3, 1), (893, .iconst 1, 1), (894, .iadd, 1), (895, .iaload, 1), (896, .aload_n 0, 1), (897, .iload_n 3, 1), (898, .iconst 2, 1), (899, .iadd, 1), (900, .iaload, 1), (901, .invokevirtual 103, 3)]
theorem ok_Law_law_24 : (tb_Law_law_24.all fun e => decide (ab_ins y_Law_law e.1 = some e.2)) = true := by decide +kernel
theorem d_Law_law_876 : ab_ins y_Law_law 876 = some (.aload_n 1, 1) := ab_tb (e := (876, .aload_n 1, 1)) ok_Law_law_24 0 rfl
theorem d_Law_law_877 : ab_ins y_Law_law 877 = some (.aload_n 0, 1) := ab_tb (e := (877, .aload_n 0, 1)) ok_Law_law_24 1 rfl
theorem d_Law_law_878 : ab_ins y_Law_law 878 = some (.iload_n 3, 1) := ab_tb (e := (878, .iload_n 3, 1)) ok_Law_law_24 2 rfl
theorem d_Law_law_879 : ab_ins y_Law_law 879 = some (.iconst 1, 1) := ab_tb (e := (879, .iconst 1, 1)) ok_Law_law_24 3 rfl
theorem d_Law_law_880 : ab_ins y_Law_law 880 = some (.iadd, 1) := ab_tb (e := (880, .iadd, 1)) ok_Law_law_24 4 rfl
theorem d_Law_law_881 : ab_ins y_Law_law 881 = some (.iaload, 1) := ab_tb (e := (881, .iaload, 1)) ok_Law_law_24 5 rfl
theorem d_Law_law_882 : ab_ins y_Law_law 882 = some (.aload_n 0, 1) := ab_tb (e := (882, .aload_n 0, 1)) ok_Law_law_24 6 rfl
theorem d_Law_law_883 : ab_ins y_Law_law 883 = some (.iload_n 3, 1) := ab_tb (e := (883, .iload_n 3, 1)) ok_Law_law_24 7 rfl
theorem d_Law_law_884 : ab_ins y_Law_law 884 = some (.iconst 2, 1) := ab_tb (e := (884, .iconst 2, 1)) ok_Law_law_24 8 rfl
theorem d_Law_law_885 : ab_ins y_Law_law 885 = some (.iadd, 1) := ab_tb (e := (885, .iadd, 1)) ok_Law_law_24 9 rfl
theorem d_Law_law_886 : ab_ins y_Law_law 886 = some (.iaload, 1) := ab_tb (e := (886, .iaload, 1)) ok_Law_law_24 10 rfl
theorem d_Law_law_887 : ab_ins y_Law_law 887 = some (.invokevirtual 100, 3) := ab_tb (e := (887, .invokevirtual 100, 3)) ok_Law_law_24 11 rfl
theorem d_Law_law_890 : ab_ins y_Law_law 890 = some (.aload_n 2, 1) := ab_tb (e := (890, .aload_n 2, 1)) ok_Law_law_24 12 rfl
theorem d_Law_law_891 : ab_ins y_Law_law 891 = some (.aload_n 0, 1) := ab_tb (e := (891, .aload_n 0, 1)) ok_Law_law_24 13 rfl
theorem d_Law_law_892 : ab_ins y_Law_law 892 = some (.iload_n 3, 1) := ab_tb (e := (892, .iload_n 3, 1)) ok_Law_law_24 14 rfl
theorem d_Law_law_893 : ab_ins y_Law_law 893 = some (.iconst 1, 1) := ab_tb (e := (893, .iconst 1, 1)) ok_Law_law_24 15 rfl
theorem d_Law_law_894 : ab_ins y_Law_law 894 = some (.iadd, 1) := ab_tb (e := (894, .iadd, 1)) ok_Law_law_24 16 rfl
theorem d_Law_law_895 : ab_ins y_Law_law 895 = some (.iaload, 1) := ab_tb (e := (895, .iaload, 1)) ok_Law_law_24 17 rfl
theorem d_Law_law_896 : ab_ins y_Law_law 896 = some (.aload_n 0, 1) := ab_tb (e := (896, .aload_n 0, 1)) ok_Law_law_24 18 rfl
theorem d_Law_law_897 : ab_ins y_Law_law 897 = some (.iload_n 3, 1) := ab_tb (e := (897, .iload_n 3, 1)) ok_Law_law_24 19 rfl
theorem d_Law_law_898 : ab_ins y_Law_law 898 = some (.iconst 2, 1) := ab_tb (e := (898, .iconst 2, 1)) ok_Law_law_24 20 rfl
theorem d_Law_law_899 : ab_ins y_Law_law 899 = some (.iadd, 1) := ab_tb (e := (899, .iadd, 1)) ok_Law_law_24 21 rfl
theorem d_Law_law_900 : ab_ins y_Law_law 900 = some (.iaload, 1) := ab_tb (e := (900, .iaload, 1)) ok_Law_law_24 22 rfl
theorem d_Law_law_901 : ab_ins y_Law_law 901 = some (.invokevirtual 103, 3) := ab_tb (e := (901, .invokevirtual 103, 3)) ok_Law_law_24 23 rfl
def tb_Law_law_25 : List (Nat × Instr × Nat) := [(904, .if_icmp .eq 464, 3), (907, .iconst 0, 1), (908, .ireturn, 1), (909, .aload_n 1, 1), (910, .aload_n 0, 1), (911, .iload_n 3, 1), (912, .iconst 1, 1), (913, .iadd, 1), (914, .iaload, 1), (915, .aload_n 0, 1), (916, .iload_n 3, 1), (917, .iconst 2, 1), (918, .iadd, 1), (919, .iaload, 1), (920, .invokevirtual 104, 3), (923, .aload_n 2, 1), (924, .aload_n 0, 1), (925, .iload_n 3, 1), (926, .iconst 1, 1), (927, .iadd, 1), (928, .iaload, 1), (929, .aload_n 0, 1), (930, .iload_n 3, 1), (931, .iconst 2, 1)]
theorem ok_Law_law_25 : (tb_Law_law_25.all fun e => decide (ab_ins y_Law_law e.1 = some e.2)) = true := by decide +kernel
theorem d_Law_law_904 : ab_ins y_Law_law 904 = some (.if_icmp .eq 464, 3) := ab_tb (e := (904, .if_icmp .eq 464, 3)) ok_Law_law_25 0 rfl
theorem d_Law_law_907 : ab_ins y_Law_law 907 = some (.iconst 0, 1) := ab_tb (e := (907, .iconst 0, 1)) ok_Law_law_25 1 rfl
theorem d_Law_law_908 : ab_ins y_Law_law 908 = some (.ireturn, 1) := ab_tb (e := (908, .ireturn, 1)) ok_Law_law_25 2 rfl
theorem d_Law_law_909 : ab_ins y_Law_law 909 = some (.aload_n 1, 1) := ab_tb (e := (909, .aload_n 1, 1)) ok_Law_law_25 3 rfl
theorem d_Law_law_910 : ab_ins y_Law_law 910 = some (.aload_n 0, 1) := ab_tb (e := (910, .aload_n 0, 1)) ok_Law_law_25 4 rfl
theorem d_Law_law_911 : ab_ins y_Law_law 911 = some (.iload_n 3, 1) := ab_tb (e := (911, .iload_n 3, 1)) ok_Law_law_25 5 rfl
theorem d_Law_law_912 : ab_ins y_Law_law 912 = some (.iconst 1, 1) := ab_tb (e := (912, .iconst 1, 1)) ok_Law_law_25 6 rfl
theorem d_Law_law_913 : ab_ins y_Law_law 913 = some (.iadd, 1) := ab_tb (e := (913, .iadd, 1)) ok_Law_law_25 7 rfl
theorem d_Law_law_914 : ab_ins y_Law_law 914 = some (.iaload, 1) := ab_tb (e := (914, .iaload, 1)) ok_Law_law_25 8 rfl
theorem d_Law_law_915 : ab_ins y_Law_law 915 = some (.aload_n 0, 1) := ab_tb (e := (915, .aload_n 0, 1)) ok_Law_law_25 9 rfl
theorem d_Law_law_916 : ab_ins y_Law_law 916 = some (.iload_n 3, 1) := ab_tb (e := (916, .iload_n 3, 1)) ok_Law_law_25 10 rfl
theorem d_Law_law_917 : ab_ins y_Law_law 917 = some (.iconst 2, 1) := ab_tb (e := (917, .iconst 2, 1)) ok_Law_law_25 11 rfl
theorem d_Law_law_918 : ab_ins y_Law_law 918 = some (.iadd, 1) := ab_tb (e := (918, .iadd, 1)) ok_Law_law_25 12 rfl
theorem d_Law_law_919 : ab_ins y_Law_law 919 = some (.iaload, 1) := ab_tb (e := (919, .iaload, 1)) ok_Law_law_25 13 rfl
theorem d_Law_law_920 : ab_ins y_Law_law 920 = some (.invokevirtual 104, 3) := ab_tb (e := (920, .invokevirtual 104, 3)) ok_Law_law_25 14 rfl
theorem d_Law_law_923 : ab_ins y_Law_law 923 = some (.aload_n 2, 1) := ab_tb (e := (923, .aload_n 2, 1)) ok_Law_law_25 15 rfl
theorem d_Law_law_924 : ab_ins y_Law_law 924 = some (.aload_n 0, 1) := ab_tb (e := (924, .aload_n 0, 1)) ok_Law_law_25 16 rfl
theorem d_Law_law_925 : ab_ins y_Law_law 925 = some (.iload_n 3, 1) := ab_tb (e := (925, .iload_n 3, 1)) ok_Law_law_25 17 rfl
theorem d_Law_law_926 : ab_ins y_Law_law 926 = some (.iconst 1, 1) := ab_tb (e := (926, .iconst 1, 1)) ok_Law_law_25 18 rfl
theorem d_Law_law_927 : ab_ins y_Law_law 927 = some (.iadd, 1) := ab_tb (e := (927, .iadd, 1)) ok_Law_law_25 19 rfl
theorem d_Law_law_928 : ab_ins y_Law_law 928 = some (.iaload, 1) := ab_tb (e := (928, .iaload, 1)) ok_Law_law_25 20 rfl
theorem d_Law_law_929 : ab_ins y_Law_law 929 = some (.aload_n 0, 1) := ab_tb (e := (929, .aload_n 0, 1)) ok_Law_law_25 21 rfl
theorem d_Law_law_930 : ab_ins y_Law_law 930 = some (.iload_n 3, 1) := ab_tb (e := (930, .iload_n 3, 1)) ok_Law_law_25 22 rfl
theorem d_Law_law_931 : ab_ins y_Law_law 931 = some (.iconst 2, 1) := ab_tb (e := (931, .iconst 2, 1)) ok_Law_law_25 23 rfl
def tb_Law_law_26 : List (Nat × Instr × Nat) := [(932, .iadd, 1), (933, .iaload, 1), (934, .invokevirtual 107, 3), (937, .if_icmp .eq 431, 3), (940, .iconst 0, 1), (941, .ireturn, 1), (942, .aload_n 1, 1), (943, .aload_n 0, 1), (944, .iload_n 3, 1), (945, .iconst 1, 1), (946, .iadd, 1), (947, .iaload, 1), (948, .aload_n 0, 1), (949, .iload_n 3, 1), (950, .iconst 2, 1), (951, .iadd, 1), (952, .iaload, 1), (953, .invokevirtual 108, 3), (956, .aload_n 2, 1), (957, .aload_n 0, 1), (958, .iload_n 3, 1), (959, .iconst 1, 1), (960, .iadd, 1), (961, .iaload, 1)]
theorem ok_Law_law_26 : (tb_Law_law_26.all fun e => decide (ab_ins y_Law_law e.1 = some e.2)) = true := by decide +kernel
theorem d_Law_law_932 : ab_ins y_Law_law 932 = some (.iadd, 1) := ab_tb (e := (932, .iadd, 1)) ok_Law_law_26 0 rfl
theorem d_Law_law_933 : ab_ins y_Law_law 933 = some (.iaload, 1) := ab_tb (e := (933, .iaload, 1)) ok_Law_law_26 1 rfl
theorem d_Law_law_934 : ab_ins y_Law_law 934 = some (.invokevirtual 107, 3) := ab_tb (e := (934, .invokevirtual 107, 3)) ok_Law_law_26 2 rfl
theorem d_Law_law_937 : ab_ins y_Law_law 937 = some (.if_icmp .eq 431, 3) := ab_tb (e := (937, .if_icmp .eq 431, 3)) ok_Law_law_26 3 rfl
theorem d_Law_law_940 : ab_ins y_Law_law 940 = some (.iconst 0, 1) := ab_tb (e := (940, .iconst 0, 1)) ok_Law_law_26 4 rfl
theorem d_Law_law_941 : ab_ins y_Law_law 941 = some (.ireturn, 1) := ab_tb (e := (941, .ireturn, 1)) ok_Law_law_26 5 rfl
theorem d_Law_law_942 : ab_ins y_Law_law 942 = some (.aload_n 1, 1) := ab_tb (e := (942, .aload_n 1, 1)) ok_Law_law_26 6 rfl
theorem d_Law_law_943 : ab_ins y_Law_law 943 = some (.aload_n 0, 1) := ab_tb (e := (943, .aload_n 0, 1)) ok_Law_law_26 7 rfl
theorem d_Law_law_944 : ab_ins y_Law_law 944 = some (.iload_n 3, 1) := ab_tb (e := (944, .iload_n 3, 1)) ok_Law_law_26 8 rfl
theorem d_Law_law_945 : ab_ins y_Law_law 945 = some (.iconst 1, 1) := ab_tb (e := (945, .iconst 1, 1)) ok_Law_law_26 9 rfl
theorem d_Law_law_946 : ab_ins y_Law_law 946 = some (.iadd, 1) := ab_tb (e := (946, .iadd, 1)) ok_Law_law_26 10 rfl
theorem d_Law_law_947 : ab_ins y_Law_law 947 = some (.iaload, 1) := ab_tb (e := (947, .iaload, 1)) ok_Law_law_26 11 rfl
theorem d_Law_law_948 : ab_ins y_Law_law 948 = some (.aload_n 0, 1) := ab_tb (e := (948, .aload_n 0, 1)) ok_Law_law_26 12 rfl
theorem d_Law_law_949 : ab_ins y_Law_law 949 = some (.iload_n 3, 1) := ab_tb (e := (949, .iload_n 3, 1)) ok_Law_law_26 13 rfl
theorem d_Law_law_950 : ab_ins y_Law_law 950 = some (.iconst 2, 1) := ab_tb (e := (950, .iconst 2, 1)) ok_Law_law_26 14 rfl
theorem d_Law_law_951 : ab_ins y_Law_law 951 = some (.iadd, 1) := ab_tb (e := (951, .iadd, 1)) ok_Law_law_26 15 rfl
theorem d_Law_law_952 : ab_ins y_Law_law 952 = some (.iaload, 1) := ab_tb (e := (952, .iaload, 1)) ok_Law_law_26 16 rfl
theorem d_Law_law_953 : ab_ins y_Law_law 953 = some (.invokevirtual 108, 3) := ab_tb (e := (953, .invokevirtual 108, 3)) ok_Law_law_26 17 rfl
theorem d_Law_law_956 : ab_ins y_Law_law 956 = some (.aload_n 2, 1) := ab_tb (e := (956, .aload_n 2, 1)) ok_Law_law_26 18 rfl
theorem d_Law_law_957 : ab_ins y_Law_law 957 = some (.aload_n 0, 1) := ab_tb (e := (957, .aload_n 0, 1)) ok_Law_law_26 19 rfl
theorem d_Law_law_958 : ab_ins y_Law_law 958 = some (.iload_n 3, 1) := ab_tb (e := (958, .iload_n 3, 1)) ok_Law_law_26 20 rfl
theorem d_Law_law_959 : ab_ins y_Law_law 959 = some (.iconst 1, 1) := ab_tb (e := (959, .iconst 1, 1)) ok_Law_law_26 21 rfl
theorem d_Law_law_960 : ab_ins y_Law_law 960 = some (.iadd, 1) := ab_tb (e := (960, .iadd, 1)) ok_Law_law_26 22 rfl
theorem d_Law_law_961 : ab_ins y_Law_law 961 = some (.iaload, 1) := ab_tb (e := (961, .iaload, 1)) ok_Law_law_26 23 rfl
def tb_Law_law_27 : List (Nat × Instr × Nat) := [(962, .aload_n 0, 1), (963, .iload_n 3, 1), (964, .iconst 2, 1), (965, .iadd, 1), (966, .iaload, 1), (967, .invokevirtual 112, 3), (970, .lcmp, 1), (971, .ifCond .eq 397, 3), (974, .iconst 0, 1), (975, .ireturn, 1), (976, .aload_n 1, 1), (977, .aload_n 0, 1), (978, .iload_n 3, 1), (979, .iconst 1, 1), (980, .iadd, 1), (981, .iaload, 1), (982, .invokevirtual 113, 3), (985, .aload_n 2, 1), (986, .aload_n 0, 1), (987, .iload_n 3, 1), (988, .iconst 1, 1), (989, .iadd, 1), (990, .iaload, 1), (991, .invokevirtual 116, 3)]
theorem ok_Law_law_27 : (tb_Law_law_27.all fun e => decide (ab_ins y_Law_law e.1 = some e.2)) = true := by decide +kernel
theorem d_Law_law_962 : ab_ins y_Law_law 962 = some (.aload_n 0, 1) := ab_tb (e := (962, .aload_n 0, 1)) ok_Law_law_27 0 rfl
theorem d_Law_law_963 : ab_ins y_Law_law 963 = some (.iload_n 3, 1) := ab_tb (e := (963, .iload_n 3, 1)) ok_Law_law_27 1 rfl
theorem d_Law_law_964 : ab_ins y_Law_law 964 = some (.iconst 2, 1) := ab_tb (e := (964, .iconst 2, 1)) ok_Law_law_27 2 rfl
theorem d_Law_law_965 : ab_ins y_Law_law 965 = some (.iadd, 1) := ab_tb (e := (965, .iadd, 1)) ok_Law_law_27 3 rfl
theorem d_Law_law_966 : ab_ins y_Law_law 966 = some (.iaload, 1) := ab_tb (e := (966, .iaload, 1)) ok_Law_law_27 4 rfl
theorem d_Law_law_967 : ab_ins y_Law_law 967 = some (.invokevirtual 112, 3) := ab_tb (e := (967, .invokevirtual 112, 3)) ok_Law_law_27 5 rfl
theorem d_Law_law_970 : ab_ins y_Law_law 970 = some (.lcmp, 1) := ab_tb (e := (970, .lcmp, 1)) ok_Law_law_27 6 rfl
theorem d_Law_law_971 : ab_ins y_Law_law 971 = some (.ifCond .eq 397, 3) := ab_tb (e := (971, .ifCond .eq 397, 3)) ok_Law_law_27 7 rfl
theorem d_Law_law_974 : ab_ins y_Law_law 974 = some (.iconst 0, 1) := ab_tb (e := (974, .iconst 0, 1)) ok_Law_law_27 8 rfl
theorem d_Law_law_975 : ab_ins y_Law_law 975 = some (.ireturn, 1) := ab_tb (e := (975, .ireturn, 1)) ok_Law_law_27 9 rfl
theorem d_Law_law_976 : ab_ins y_Law_law 976 = some (.aload_n 1, 1) := ab_tb (e := (976, .aload_n 1, 1)) ok_Law_law_27 10 rfl
theorem d_Law_law_977 : ab_ins y_Law_law 977 = some (.aload_n 0, 1) := ab_tb (e := (977, .aload_n 0, 1)) ok_Law_law_27 11 rfl
theorem d_Law_law_978 : ab_ins y_Law_law 978 = some (.iload_n 3, 1) := ab_tb (e := (978, .iload_n 3, 1)) ok_Law_law_27 12 rfl
theorem d_Law_law_979 : ab_ins y_Law_law 979 = some (.iconst 1, 1) := ab_tb (e := (979, .iconst 1, 1)) ok_Law_law_27 13 rfl
theorem d_Law_law_980 : ab_ins y_Law_law 980 = some (.iadd, 1) := ab_tb (e := (980, .iadd, 1)) ok_Law_law_27 14 rfl
theorem d_Law_law_981 : ab_ins y_Law_law 981 = some (.iaload, 1) := ab_tb (e := (981, .iaload, 1)) ok_Law_law_27 15 rfl
theorem d_Law_law_982 : ab_ins y_Law_law 982 = some (.invokevirtual 113, 3) := ab_tb (e := (982, .invokevirtual 113, 3)) ok_Law_law_27 16 rfl
theorem d_Law_law_985 : ab_ins y_Law_law 985 = some (.aload_n 2, 1) := ab_tb (e := (985, .aload_n 2, 1)) ok_Law_law_27 17 rfl
theorem d_Law_law_986 : ab_ins y_Law_law 986 = some (.aload_n 0, 1) := ab_tb (e := (986, .aload_n 0, 1)) ok_Law_law_27 18 rfl
theorem d_Law_law_987 : ab_ins y_Law_law 987 = some (.iload_n 3, 1) := ab_tb (e := (987, .iload_n 3, 1)) ok_Law_law_27 19 rfl
theorem d_Law_law_988 : ab_ins y_Law_law 988 = some (.iconst 1, 1) := ab_tb (e := (988, .iconst 1, 1)) ok_Law_law_27 20 rfl
theorem d_Law_law_989 : ab_ins y_Law_law 989 = some (.iadd, 1) := ab_tb (e := (989, .iadd, 1)) ok_Law_law_27 21 rfl
theorem d_Law_law_990 : ab_ins y_Law_law 990 = some (.iaload, 1) := ab_tb (e := (990, .iaload, 1)) ok_Law_law_27 22 rfl
theorem d_Law_law_991 : ab_ins y_Law_law 991 = some (.invokevirtual 116, 3) := ab_tb (e := (991, .invokevirtual 116, 3)) ok_Law_law_27 23 rfl
def tb_Law_law_28 : List (Nat × Instr × Nat) := [(994, .if_icmp .eq 374, 3), (997, .iconst 0, 1), (998, .ireturn, 1), (999, .aload_n 1, 1), (1000, .aload_n 0, 1), (1001, .iload_n 3, 1), (1002, .iconst 1, 1), (1003, .iadd, 1), (1004, .iaload, 1), (1005, .aload_n 0, 1), (1006, .iload_n 3, 1), (1007, .iconst 2, 1), (1008, .iadd, 1), (1009, .iaload, 1), (1010, .aload_n 0, 1), (1011, .iload_n 3, 1), (1012, .iconst 3, 1), (1013, .iadd, 1), (1014, .iaload, 1), (1015, .invokevirtual 117, 3), (1018, .aload_n 2, 1), (1019, .aload_n 0, 1), (1020, .iload_n 3, 1), (1021, .iconst 1, 1)]
theorem ok_Law_law_28 : (tb_Law_law_28.all fun e => decide (ab_ins y_Law_law e.1 = some e.2)) = true := by decide +kernel
theorem d_Law_law_994 : ab_ins y_Law_law 994 = some (.if_icmp .eq 374, 3) := ab_tb (e := (994, .if_icmp .eq 374, 3)) ok_Law_law_28 0 rfl
theorem d_Law_law_997 : ab_ins y_Law_law 997 = some (.iconst 0, 1) := ab_tb (e := (997, .iconst 0, 1)) ok_Law_law_28 1 rfl
theorem d_Law_law_998 : ab_ins y_Law_law 998 = some (.ireturn, 1) := ab_tb (e := (998, .ireturn, 1)) ok_Law_law_28 2 rfl
theorem d_Law_law_999 : ab_ins y_Law_law 999 = some (.aload_n 1, 1) := ab_tb (e := (999, .aload_n 1, 1)) ok_Law_law_28 3 rfl
theorem d_Law_law_1000 : ab_ins y_Law_law 1000 = some (.aload_n 0, 1) := ab_tb (e := (1000, .aload_n 0, 1)) ok_Law_law_28 4 rfl
theorem d_Law_law_1001 : ab_ins y_Law_law 1001 = some (.iload_n 3, 1) := ab_tb (e := (1001, .iload_n 3, 1)) ok_Law_law_28 5 rfl
theorem d_Law_law_1002 : ab_ins y_Law_law 1002 = some (.iconst 1, 1) := ab_tb (e := (1002, .iconst 1, 1)) ok_Law_law_28 6 rfl
theorem d_Law_law_1003 : ab_ins y_Law_law 1003 = some (.iadd, 1) := ab_tb (e := (1003, .iadd, 1)) ok_Law_law_28 7 rfl
theorem d_Law_law_1004 : ab_ins y_Law_law 1004 = some (.iaload, 1) := ab_tb (e := (1004, .iaload, 1)) ok_Law_law_28 8 rfl
theorem d_Law_law_1005 : ab_ins y_Law_law 1005 = some (.aload_n 0, 1) := ab_tb (e := (1005, .aload_n 0, 1)) ok_Law_law_28 9 rfl
theorem d_Law_law_1006 : ab_ins y_Law_law 1006 = some (.iload_n 3, 1) := ab_tb (e := (1006, .iload_n 3, 1)) ok_Law_law_28 10 rfl
theorem d_Law_law_1007 : ab_ins y_Law_law 1007 = some (.iconst 2, 1) := ab_tb (e := (1007, .iconst 2, 1)) ok_Law_law_28 11 rfl
theorem d_Law_law_1008 : ab_ins y_Law_law 1008 = some (.iadd, 1) := ab_tb (e := (1008, .iadd, 1)) ok_Law_law_28 12 rfl
theorem d_Law_law_1009 : ab_ins y_Law_law 1009 = some (.iaload, 1) := ab_tb (e := (1009, .iaload, 1)) ok_Law_law_28 13 rfl
theorem d_Law_law_1010 : ab_ins y_Law_law 1010 = some (.aload_n 0, 1) := ab_tb (e := (1010, .aload_n 0, 1)) ok_Law_law_28 14 rfl
theorem d_Law_law_1011 : ab_ins y_Law_law 1011 = some (.iload_n 3, 1) := ab_tb (e := (1011, .iload_n 3, 1)) ok_Law_law_28 15 rfl
theorem d_Law_law_1012 : ab_ins y_Law_law 1012 = some (.iconst 3, 1) := ab_tb (e := (1012, .iconst 3, 1)) ok_Law_law_28 16 rfl
theorem d_Law_law_1013 : ab_ins y_Law_law 1013 = some (.iadd, 1) := ab_tb (e := (1013, .iadd, 1)) ok_Law_law_28 17 rfl
theorem d_Law_law_1014 : ab_ins y_Law_law 1014 = some (.iaload, 1) := ab_tb (e := (1014, .iaload, 1)) ok_Law_law_28 18 rfl
theorem d_Law_law_1015 : ab_ins y_Law_law 1015 = some (.invokevirtual 117, 3) := ab_tb (e := (1015, .invokevirtual 117, 3)) ok_Law_law_28 19 rfl
theorem d_Law_law_1018 : ab_ins y_Law_law 1018 = some (.aload_n 2, 1) := ab_tb (e := (1018, .aload_n 2, 1)) ok_Law_law_28 20 rfl
theorem d_Law_law_1019 : ab_ins y_Law_law 1019 = some (.aload_n 0, 1) := ab_tb (e := (1019, .aload_n 0, 1)) ok_Law_law_28 21 rfl
theorem d_Law_law_1020 : ab_ins y_Law_law 1020 = some (.iload_n 3, 1) := ab_tb (e := (1020, .iload_n 3, 1)) ok_Law_law_28 22 rfl
theorem d_Law_law_1021 : ab_ins y_Law_law 1021 = some (.iconst 1, 1) := ab_tb (e := (1021, .iconst 1, 1)) ok_Law_law_28 23 rfl
def tb_Law_law_29 : List (Nat × Instr × Nat) := [(1022, .iadd, 1), (1023, .iaload, 1), (1024, .aload_n 0, 1), (1025, .iload_n 3, 1), (1026, .iconst 2, 1), (1027, .iadd, 1), (1028, .iaload, 1), (1029, .aload_n 0, 1), (1030, .iload_n 3, 1), (1031, .iconst 3, 1), (1032, .iadd, 1), (1033, .iaload, 1), (1034, .invokevirtual 120, 3), (1037, .if_icmp .eq 331, 3), (1040, .iconst 0, 1), (1041, .ireturn, 1), (1042, .aload_n 1, 1), (1043, .aload_n 0, 1), (1044, .iload_n 3, 1), (1045, .iconst 1, 1), (1046, .iadd, 1), (1047, .iaload, 1), (1048, .invokevirtual 121, 3), (1051, .aload_n 2, 1)]
theorem ok_Law_law_29 : (tb_Law_law_29.all fun e => decide (ab_ins y_Law_law e.1 = some e.2)) = true := by decide +kernel
theorem d_Law_law_1022 : ab_ins y_Law_law 1022 = some (.iadd, 1) := ab_tb (e := (1022, .iadd, 1)) ok_Law_law_29 0 rfl
theorem d_Law_law_1023 : ab_ins y_Law_law 1023 = some (.iaload, 1) := ab_tb (e := (1023, .iaload, 1)) ok_Law_law_29 1 rfl
theorem d_Law_law_1024 : ab_ins y_Law_law 1024 = some (.aload_n 0, 1) := ab_tb (e := (1024, .aload_n 0, 1)) ok_Law_law_29 2 rfl
theorem d_Law_law_1025 : ab_ins y_Law_law 1025 = some (.iload_n 3, 1) := ab_tb (e := (1025, .iload_n 3, 1)) ok_Law_law_29 3 rfl
theorem d_Law_law_1026 : ab_ins y_Law_law 1026 = some (.iconst 2, 1) := ab_tb (e := (1026, .iconst 2, 1)) ok_Law_law_29 4 rfl
theorem d_Law_law_1027 : ab_ins y_Law_law 1027 = some (.iadd, 1) := ab_tb (e := (1027, .iadd, 1)) ok_Law_law_29 5 rfl
theorem d_Law_law_1028 : ab_ins y_Law_law 1028 = some (.iaload, 1) := ab_tb (e := (1028, .iaload, 1)) ok_Law_law_29 6 rfl
theorem d_Law_law_1029 : ab_ins y_Law_law 1029 = some (.aload_n 0, 1) := ab_tb (e := (1029, .aload_n 0, 1)) ok_Law_law_29 7 rfl
theorem d_Law_law_1030 : ab_ins y_Law_law 1030 = some (.iload_n 3, 1) := ab_tb (e := (1030, .iload_n 3, 1)) ok_Law_law_29 8 rfl
theorem d_Law_law_1031 : ab_ins y_Law_law 1031 = some (.iconst 3, 1) := ab_tb (e := (1031, .iconst 3, 1)) ok_Law_law_29 9 rfl
theorem d_Law_law_1032 : ab_ins y_Law_law 1032 = some (.iadd, 1) := ab_tb (e := (1032, .iadd, 1)) ok_Law_law_29 10 rfl
theorem d_Law_law_1033 : ab_ins y_Law_law 1033 = some (.iaload, 1) := ab_tb (e := (1033, .iaload, 1)) ok_Law_law_29 11 rfl
theorem d_Law_law_1034 : ab_ins y_Law_law 1034 = some (.invokevirtual 120, 3) := ab_tb (e := (1034, .invokevirtual 120, 3)) ok_Law_law_29 12 rfl
theorem d_Law_law_1037 : ab_ins y_Law_law 1037 = some (.if_icmp .eq 331, 3) := ab_tb (e := (1037, .if_icmp .eq 331, 3)) ok_Law_law_29 13 rfl
theorem d_Law_law_1040 : ab_ins y_Law_law 1040 = some (.iconst 0, 1) := ab_tb (e := (1040, .iconst 0, 1)) ok_Law_law_29 14 rfl
theorem d_Law_law_1041 : ab_ins y_Law_law 1041 = some (.ireturn, 1) := ab_tb (e := (1041, .ireturn, 1)) ok_Law_law_29 15 rfl
theorem d_Law_law_1042 : ab_ins y_Law_law 1042 = some (.aload_n 1, 1) := ab_tb (e := (1042, .aload_n 1, 1)) ok_Law_law_29 16 rfl
theorem d_Law_law_1043 : ab_ins y_Law_law 1043 = some (.aload_n 0, 1) := ab_tb (e := (1043, .aload_n 0, 1)) ok_Law_law_29 17 rfl
theorem d_Law_law_1044 : ab_ins y_Law_law 1044 = some (.iload_n 3, 1) := ab_tb (e := (1044, .iload_n 3, 1)) ok_Law_law_29 18 rfl
theorem d_Law_law_1045 : ab_ins y_Law_law 1045 = some (.iconst 1, 1) := ab_tb (e := (1045, .iconst 1, 1)) ok_Law_law_29 19 rfl
theorem d_Law_law_1046 : ab_ins y_Law_law 1046 = some (.iadd, 1) := ab_tb (e := (1046, .iadd, 1)) ok_Law_law_29 20 rfl
theorem d_Law_law_1047 : ab_ins y_Law_law 1047 = some (.iaload, 1) := ab_tb (e := (1047, .iaload, 1)) ok_Law_law_29 21 rfl
theorem d_Law_law_1048 : ab_ins y_Law_law 1048 = some (.invokevirtual 121, 3) := ab_tb (e := (1048, .invokevirtual 121, 3)) ok_Law_law_29 22 rfl
theorem d_Law_law_1051 : ab_ins y_Law_law 1051 = some (.aload_n 2, 1) := ab_tb (e := (1051, .aload_n 2, 1)) ok_Law_law_29 23 rfl
def tb_Law_law_30 : List (Nat × Instr × Nat) := [(1052, .aload_n 0, 1), (1053, .iload_n 3, 1), (1054, .iconst 1, 1), (1055, .iadd, 1), (1056, .iaload, 1), (1057, .invokevirtual 124, 3), (1060, .if_icmp .eq 308, 3), (1063, .iconst 0, 1), (1064, .ireturn, 1), (1065, .aload_n 1, 1), (1066, .aload_n 0, 1), (1067, .iload_n 3, 1), (1068, .iconst 1, 1), (1069, .iadd, 1), (1070, .iaload, 1), (1071, .aload_n 0, 1), (1072, .iload_n 3, 1), (1073, .iconst 2, 1), (1074, .iadd, 1), (1075, .iaload, 1), (1076, .aload_n 0, 1), (1077, .iload_n 3, 1), (1078, .iconst 3, 1), (1079, .iadd, 1)]
theorem ok_Law_law_30 : (tb_Law_law_30.all fun e => decide (ab_ins y_Law_law e.1 = some e.2)) = true := by decide +kernel
theorem d_Law_law_1052 : ab_ins y_Law_law 1052 = some (.aload_n 0, 1) := ab_tb (e := (1052, .aload_n 0, 1)) ok_Law_law_30 0 rfl
theorem d_Law_law_1053 : ab_ins y_Law_law 1053 = some (.iload_n 3, 1) := ab_tb (e := (1053, .iload_n 3, 1)) ok_Law_law_30 1 rfl
theorem d_Law_law_1054 : ab_ins y_Law_law 1054 = some (.iconst 1, 1) := ab_tb (e := (1054, .iconst 1, 1)) ok_Law_law_30 2 rfl
theorem d_Law_law_1055 : ab_ins y_Law_law 1055 = some (.iadd, 1) := ab_tb (e := (1055, .iadd, 1)) ok_Law_law_30 3 rfl
theorem d_Law_law_1056 : ab_ins y_Law_law 1056 = some (.iaload, 1) := ab_tb (e := (1056, .iaload, 1)) ok_Law_law_30 4 rfl
theorem d_Law_law_1057 : ab_ins y_Law_law 1057 = some (.invokevirtual 124, 3) := ab_tb (e := (1057, .invokevirtual 124, 3)) ok_Law_law_30 5 rfl
theorem d_Law_law_1060 : ab_ins y_Law_law 1060 = some (.if_icmp .eq 308, 3) := ab_tb (e := (1060, .if_icmp .eq 308, 3)) ok_Law_law_30 6 rfl
theorem d_Law_law_1063 : ab_ins y_Law_law 1063 = some (.iconst 0, 1) := ab_tb (e := (1063, .iconst 0, 1)) ok_Law_law_30 7 rfl
theorem d_Law_law_1064 : ab_ins y_Law_law 1064 = some (.ireturn, 1) := ab_tb (e := (1064, .ireturn, 1)) ok_Law_law_30 8 rfl
theorem d_Law_law_1065 : ab_ins y_Law_law 1065 = some (.aload_n 1, 1) := ab_tb (e := (1065, .aload_n 1, 1)) ok_Law_law_30 9 rfl
theorem d_Law_law_1066 : ab_ins y_Law_law 1066 = some (.aload_n 0, 1) := ab_tb (e := (1066, .aload_n 0, 1)) ok_Law_law_30 10 rfl
theorem d_Law_law_1067 : ab_ins y_Law_law 1067 = some (.iload_n 3, 1) := ab_tb (e := (1067, .iload_n 3, 1)) ok_Law_law_30 11 rfl
theorem d_Law_law_1068 : ab_ins y_Law_law 1068 = some (.iconst 1, 1) := ab_tb (e := (1068, .iconst 1, 1)) ok_Law_law_30 12 rfl
theorem d_Law_law_1069 : ab_ins y_Law_law 1069 = some (.iadd, 1) := ab_tb (e := (1069, .iadd, 1)) ok_Law_law_30 13 rfl
theorem d_Law_law_1070 : ab_ins y_Law_law 1070 = some (.iaload, 1) := ab_tb (e := (1070, .iaload, 1)) ok_Law_law_30 14 rfl
theorem d_Law_law_1071 : ab_ins y_Law_law 1071 = some (.aload_n 0, 1) := ab_tb (e := (1071, .aload_n 0, 1)) ok_Law_law_30 15 rfl
theorem d_Law_law_1072 : ab_ins y_Law_law 1072 = some (.iload_n 3, 1) := ab_tb (e := (1072, .iload_n 3, 1)) ok_Law_law_30 16 rfl
theorem d_Law_law_1073 : ab_ins y_Law_law 1073 = some (.iconst 2, 1) := ab_tb (e := (1073, .iconst 2, 1)) ok_Law_law_30 17 rfl
theorem d_Law_law_1074 : ab_ins y_Law_law 1074 = some (.iadd, 1) := ab_tb (e := (1074, .iadd, 1)) ok_Law_law_30 18 rfl
theorem d_Law_law_1075 : ab_ins y_Law_law 1075 = some (.iaload, 1) := ab_tb (e := (1075, .iaload, 1)) ok_Law_law_30 19 rfl
theorem d_Law_law_1076 : ab_ins y_Law_law 1076 = some (.aload_n 0, 1) := ab_tb (e := (1076, .aload_n 0, 1)) ok_Law_law_30 20 rfl
theorem d_Law_law_1077 : ab_ins y_Law_law 1077 = some (.iload_n 3, 1) := ab_tb (e := (1077, .iload_n 3, 1)) ok_Law_law_30 21 rfl
theorem d_Law_law_1078 : ab_ins y_Law_law 1078 = some (.iconst 3, 1) := ab_tb (e := (1078, .iconst 3, 1)) ok_Law_law_30 22 rfl
theorem d_Law_law_1079 : ab_ins y_Law_law 1079 = some (.iadd, 1) := ab_tb (e := (1079, .iadd, 1)) ok_Law_law_30 23 rfl
def tb_Law_law_31 : List (Nat × Instr × Nat) := [(1080, .iaload, 1), (1081, .invokevirtual 125, 3), (1084, .aload_n 2, 1), (1085, .aload_n 0, 1), (1086, .iload_n 3, 1), (1087, .iconst 1, 1), (1088, .iadd, 1), (1089, .iaload, 1), (1090, .aload_n 0, 1), (1091, .iload_n 3, 1), (1092, .iconst 2, 1), (1093, .iadd, 1), (1094, .iaload, 1), (1095, .aload_n 0, 1), (1096, .iload_n 3, 1), (1097, .iconst 3, 1), (1098, .iadd, 1), (1099, .iaload, 1), (1100, .invokevirtual 128, 3), (1103, .if_icmp .eq 265, 3), (1106, .iconst 0, 1), (1107, .ireturn, 1), (1108, .aload_n 1, 1), (1109, .aload_n 0, 1)]
theorem ok_Law_law_31 : (tb_Law_law_31.all fun e => decide (ab_ins y_Law_law e.1 = some e.2)) = true := by decide +kernel
theorem d_Law_law_1080 : ab_ins y_Law_law 1080 = some (.iaload, 1) := ab_tb (e := (1080, .iaload, 1)) ok_Law_law_31 0 rfl
theorem d_Law_law_1081 : ab_ins y_Law_law 1081 = some (.invokevirtual 125, 3) := ab_tb (e := (1081, .invokevirtual 125, 3)) ok_Law_law_31 1 rfl
theorem d_Law_law_1084 : ab_ins y_Law_law 1084 = some (.aload_n 2, 1) := ab_tb (e := (1084, .aload_n 2, 1)) ok_Law_law_31 2 rfl
theorem d_Law_law_1085 : ab_ins y_Law_law 1085 = some (.aload_n 0, 1) := ab_tb (e := (1085, .aload_n 0, 1)) ok_Law_law_31 3 rfl
theorem d_Law_law_1086 : ab_ins y_Law_law 1086 = some (.iload_n 3, 1) := ab_tb (e := (1086, .iload_n 3, 1)) ok_Law_law_31 4 rfl
theorem d_Law_law_1087 : ab_ins y_Law_law 1087 = some (.iconst 1, 1) := ab_tb (e := (1087, .iconst 1, 1)) ok_Law_law_31 5 rfl
theorem d_Law_law_1088 : ab_ins y_Law_law 1088 = some (.iadd, 1) := ab_tb (e := (1088, .iadd, 1)) ok_Law_law_31 6 rfl
theorem d_Law_law_1089 : ab_ins y_Law_law 1089 = some (.iaload, 1) := ab_tb (e := (1089, .iaload, 1)) ok_Law_law_31 7 rfl
theorem d_Law_law_1090 : ab_ins y_Law_law 1090 = some (.aload_n 0, 1) := ab_tb (e := (1090, .aload_n 0, 1)) ok_Law_law_31 8 rfl
theorem d_Law_law_1091 : ab_ins y_Law_law 1091 = some (.iload_n 3, 1) := ab_tb (e := (1091, .iload_n 3, 1)) ok_Law_law_31 9 rfl
theorem d_Law_law_1092 : ab_ins y_Law_law 1092 = some (.iconst 2, 1) := ab_tb (e := (1092, .iconst 2, 1)) ok_Law_law_31 10 rfl
theorem d_Law_law_1093 : ab_ins y_Law_law 1093 = some (.iadd, 1) := ab_tb (e := (1093, .iadd, 1)) ok_Law_law_31 11 rfl
theorem d_Law_law_1094 : ab_ins y_Law_law 1094 = some (.iaload, 1) := ab_tb (e := (1094, .iaload, 1)) ok_Law_law_31 12 rfl
theorem d_Law_law_1095 : ab_ins y_Law_law 1095 = some (.aload_n 0, 1) := ab_tb (e := (1095, .aload_n 0, 1)) ok_Law_law_31 13 rfl
theorem d_Law_law_1096 : ab_ins y_Law_law 1096 = some (.iload_n 3, 1) := ab_tb (e := (1096, .iload_n 3, 1)) ok_Law_law_31 14 rfl
theorem d_Law_law_1097 : ab_ins y_Law_law 1097 = some (.iconst 3, 1) := ab_tb (e := (1097, .iconst 3, 1)) ok_Law_law_31 15 rfl
theorem d_Law_law_1098 : ab_ins y_Law_law 1098 = some (.iadd, 1) := ab_tb (e := (1098, .iadd, 1)) ok_Law_law_31 16 rfl
theorem d_Law_law_1099 : ab_ins y_Law_law 1099 = some (.iaload, 1) := ab_tb (e := (1099, .iaload, 1)) ok_Law_law_31 17 rfl
theorem d_Law_law_1100 : ab_ins y_Law_law 1100 = some (.invokevirtual 128, 3) := ab_tb (e := (1100, .invokevirtual 128, 3)) ok_Law_law_31 18 rfl
theorem d_Law_law_1103 : ab_ins y_Law_law 1103 = some (.if_icmp .eq 265, 3) := ab_tb (e := (1103, .if_icmp .eq 265, 3)) ok_Law_law_31 19 rfl
theorem d_Law_law_1106 : ab_ins y_Law_law 1106 = some (.iconst 0, 1) := ab_tb (e := (1106, .iconst 0, 1)) ok_Law_law_31 20 rfl
theorem d_Law_law_1107 : ab_ins y_Law_law 1107 = some (.ireturn, 1) := ab_tb (e := (1107, .ireturn, 1)) ok_Law_law_31 21 rfl
theorem d_Law_law_1108 : ab_ins y_Law_law 1108 = some (.aload_n 1, 1) := ab_tb (e := (1108, .aload_n 1, 1)) ok_Law_law_31 22 rfl
theorem d_Law_law_1109 : ab_ins y_Law_law 1109 = some (.aload_n 0, 1) := ab_tb (e := (1109, .aload_n 0, 1)) ok_Law_law_31 23 rfl
def tb_Law_law_32 : List (Nat × Instr × Nat) := [(1110, .iload_n 3, 1), (1111, .iconst 1, 1), (1112, .iadd, 1), (1113, .iaload, 1), (1114, .aload_n 0, 1), (1115, .iload_n 3, 1), (1116, .iconst 2, 1), (1117, .iadd, 1), (1118, .iaload, 1), (1119, .aload_n 0, 1), (1120, .iload_n 3, 1), (1121, .iconst 3, 1), (1122, .iadd, 1), (1123, .iaload, 1), (1124, .invokevirtual 129, 3), (1127, .aload_n 2, 1), (1128, .aload_n 0, 1), (1129, .iload_n 3, 1), (1130, .iconst 1, 1), (1131, .iadd, 1), (1132, .iaload, 1), (1133, .aload_n 0, 1), (1134, .iload_n 3, 1), (1135, .iconst 2, 1)]
theorem ok_Law_law_32 : (tb_Law_law_32.all fun e => decide (ab_ins y_Law_law e.1 = some e.2)) = true := by decide +kernel
theorem d_Law_law_1110 : ab_ins y_Law_law 1110 = some (.iload_n 3, 1) := ab_tb (e := (1110, .iload_n 3, 1)) ok_Law_law_32 0 rfl
theorem d_Law_law_1111 : ab_ins y_Law_law 1111 = some (.iconst 1, 1) := ab_tb (e := (1111, .iconst 1, 1)) ok_Law_law_32 1 rfl
theorem d_Law_law_1112 : ab_ins y_Law_law 1112 = some (.iadd, 1) := ab_tb (e := (1112, .iadd, 1)) ok_Law_law_32 2 rfl
theorem d_Law_law_1113 : ab_ins y_Law_law 1113 = some (.iaload, 1) := ab_tb (e := (1113, .iaload, 1)) ok_Law_law_32 3 rfl
theorem d_Law_law_1114 : ab_ins y_Law_law 1114 = some (.aload_n 0, 1) := ab_tb (e := (1114, .aload_n 0, 1)) ok_Law_law_32 4 rfl
theorem d_Law_law_1115 : ab_ins y_Law_law 1115 = some (.iload_n 3, 1) := ab_tb (e := (1115, .iload_n 3, 1)) ok_Law_law_32 5 rfl
theorem d_Law_law_1116 : ab_ins y_Law_law 1116 = some (.iconst 2, 1) := ab_tb (e := (1116, .iconst 2, 1)) ok_Law_law_32 6 rfl
theorem d_Law_law_1117 : ab_ins y_Law_law 1117 = some (.iadd, 1) := ab_tb (e := (1117, .iadd, 1)) ok_Law_law_32 7 rfl
theorem d_Law_law_1118 : ab_ins y_Law_law 1118 = some (.iaload, 1) := ab_tb (e := (1118, .iaload, 1)) ok_Law_law_32 8 rfl
theorem d_Law_law_1119 : ab_ins y_Law_law 1119 = some (.aload_n 0, 1) := ab_tb (e := (1119, .aload_n 0, 1)) ok_Law_law_32 9 rfl
theorem d_Law_law_1120 : ab_ins y_Law_law 1120 = some (.iload_n 3, 1) := ab_tb (e := (1120, .iload_n 3, 1)) ok_Law_law_32 10 rfl
theorem d_Law_law_1121 : ab_ins y_Law_law 1121 = some (.iconst 3, 1) := ab_tb (e := (1121, .iconst 3, 1)) ok_Law_law_32 11 rfl
theorem d_Law_law_1122 : ab_ins y_Law_law 1122 = some (.iadd, 1) := ab_tb (e := (1122, .iadd, 1)) ok_Law_law_32 12 rfl
theorem d_Law_law_1123 : ab_ins y_Law_law 1123 = some (.iaload, 1) := ab_tb (e := (1123, .iaload, 1)) ok_Law_law_32 13 rfl
theorem d_Law_law_1124 : ab_ins y_Law_law 1124 = some (.invokevirtual 129, 3) := ab_tb (e := (1124, .invokevirtual 129, 3)) ok_Law_law_32 14 rfl
theorem d_Law_law_1127 : ab_ins y_Law_law 1127 = some (.aload_n 2, 1) := ab_tb (e := (1127, .aload_n 2, 1)) ok_Law_law_32 15 rfl
theorem d_Law_law_1128 : ab_ins y_Law_law 1128 = some (.aload_n 0, 1) := ab_tb (e := (1128, .aload_n 0, 1)) ok_Law_law_32 16 rfl
theorem d_Law_law_1129 : ab_ins y_Law_law 1129 = some (.iload_n 3, 1) := ab_tb (e := (1129, .iload_n 3, 1)) ok_Law_law_32 17 rfl
theorem d_Law_law_1130 : ab_ins y_Law_law 1130 = some (.iconst 1, 1) := ab_tb (e := (1130, .iconst 1, 1)) ok_Law_law_32 18 rfl
theorem d_Law_law_1131 : ab_ins y_Law_law 1131 = some (.iadd, 1) := ab_tb (e := (1131, .iadd, 1)) ok_Law_law_32 19 rfl
theorem d_Law_law_1132 : ab_ins y_Law_law 1132 = some (.iaload, 1) := ab_tb (e := (1132, .iaload, 1)) ok_Law_law_32 20 rfl
theorem d_Law_law_1133 : ab_ins y_Law_law 1133 = some (.aload_n 0, 1) := ab_tb (e := (1133, .aload_n 0, 1)) ok_Law_law_32 21 rfl
theorem d_Law_law_1134 : ab_ins y_Law_law 1134 = some (.iload_n 3, 1) := ab_tb (e := (1134, .iload_n 3, 1)) ok_Law_law_32 22 rfl
theorem d_Law_law_1135 : ab_ins y_Law_law 1135 = some (.iconst 2, 1) := ab_tb (e := (1135, .iconst 2, 1)) ok_Law_law_32 23 rfl
def tb_Law_law_33 : List (Nat × Instr × Nat) := [(1136, .iadd, 1), (1137, .iaload, 1), (1138, .aload_n 0, 1), (1139, .iload_n 3, 1), (1140, .iconst 3, 1), (1141, .iadd, 1), (1142, .iaload, 1), (1143, .invokevirtual 132, 3), (1146, .if_icmp .eq 222, 3), (1149, .iconst 0, 1), (1150, .ireturn, 1), (1151, .aload_n 1, 1), (1152, .aload_n 0, 1), (1153, .iload_n 3, 1), (1154, .iconst 1, 1), (1155, .iadd, 1), (1156, .iaload, 1), (1157, .aload_n 0, 1), (1158, .iload_n 3, 1), (1159, .iconst 2, 1), (1160, .iadd, 1), (1161, .iaload, 1), (1162, .aload_n 0, 1), (1163, .iload_n 3, 1)]
theorem ok_Law_law_33 : (tb_Law_law_33.all fun e => decide (ab_ins y_Law_law e.1 = some e.2)) = true := by decide +kernel
theorem d_Law_law_1136 : ab_ins y_Law_law 1136 = some (.iadd, 1) := ab_tb (e := (1136, .iadd, 1)) ok_Law_law_33 0 rfl
theorem d_Law_law_1137 : ab_ins y_Law_law 1137 = some (.iaload, 1) := ab_tb (e := (1137, .iaload, 1)) ok_Law_law_33 1 rfl
theorem d_Law_law_1138 : ab_ins y_Law_law 1138 = some (.aload_n 0, 1) := ab_tb (e := (1138, .aload_n 0, 1)) ok_Law_law_33 2 rfl
theorem d_Law_law_1139 : ab_ins y_Law_law 1139 = some (.iload_n 3, 1) := ab_tb (e := (1139, .iload_n 3, 1)) ok_Law_law_33 3 rfl
theorem d_Law_law_1140 : ab_ins y_Law_law 1140 = some (.iconst 3, 1) := ab_tb (e := (1140, .iconst 3, 1)) ok_Law_law_33 4 rfl
theorem d_Law_law_1141 : ab_ins y_Law_law 1141 = some (.iadd, 1) := ab_tb (e := (1141, .iadd, 1)) ok_Law_law_33 5 rfl
theorem d_Law_law_1142 : ab_ins y_Law_law 1142 = some (.iaload, 1) := ab_tb (e := (1142, .iaload, 1)) ok_Law_law_33 6 rfl
theorem d_Law_law_1143 : ab_ins y_Law_law 1143 = some (.invokevirtual 132, 3) := ab_tb (e := (1143, .invokevirtual 132, 3)) ok_Law_law_33 7 rfl
theorem d_Law_law_1146 : ab_ins y_Law_law 1146 = some (.if_icmp .eq 222, 3) := ab_tb (e := (1146, .if_icmp .eq 222, 3)) ok_Law_law_33 8 rfl
theorem d_Law_law_1149 : ab_ins y_Law_law 1149 = some (.iconst 0, 1) := ab_tb (e := (1149, .iconst 0, 1)) ok_Law_law_33 9 rfl
theorem d_Law_law_1150 : ab_ins y_Law_law 1150 = some (.ireturn, 1) := ab_tb (e := (1150, .ireturn, 1)) ok_Law_law_33 10 rfl
theorem d_Law_law_1151 : ab_ins y_Law_law 1151 = some (.aload_n 1, 1) := ab_tb (e := (1151, .aload_n 1, 1)) ok_Law_law_33 11 rfl
theorem d_Law_law_1152 : ab_ins y_Law_law 1152 = some (.aload_n 0, 1) := ab_tb (e := (1152, .aload_n 0, 1)) ok_Law_law_33 12 rfl
theorem d_Law_law_1153 : ab_ins y_Law_law 1153 = some (.iload_n 3, 1) := ab_tb (e := (1153, .iload_n 3, 1)) ok_Law_law_33 13 rfl
theorem d_Law_law_1154 : ab_ins y_Law_law 1154 = some (.iconst 1, 1) := ab_tb (e := (1154, .iconst 1, 1)) ok_Law_law_33 14 rfl
theorem d_Law_law_1155 : ab_ins y_Law_law 1155 = some (.iadd, 1) := ab_tb (e := (1155, .iadd, 1)) ok_Law_law_33 15 rfl
theorem d_Law_law_1156 : ab_ins y_Law_law 1156 = some (.iaload, 1) := ab_tb (e := (1156, .iaload, 1)) ok_Law_law_33 16 rfl
theorem d_Law_law_1157 : ab_ins y_Law_law 1157 = some (.aload_n 0, 1) := ab_tb (e := (1157, .aload_n 0, 1)) ok_Law_law_33 17 rfl
theorem d_Law_law_1158 : ab_ins y_Law_law 1158 = some (.iload_n 3, 1) := ab_tb (e := (1158, .iload_n 3, 1)) ok_Law_law_33 18 rfl
theorem d_Law_law_1159 : ab_ins y_Law_law 1159 = some (.iconst 2, 1) := ab_tb (e := (1159, .iconst 2, 1)) ok_Law_law_33 19 rfl
theorem d_Law_law_1160 : ab_ins y_Law_law 1160 = some (.iadd, 1) := ab_tb (e := (1160, .iadd, 1)) ok_Law_law_33 20 rfl
theorem d_Law_law_1161 : ab_ins y_Law_law 1161 = some (.iaload, 1) := ab_tb (e := (1161, .iaload, 1)) ok_Law_law_33 21 rfl
theorem d_Law_law_1162 : ab_ins y_Law_law 1162 = some (.aload_n 0, 1) := ab_tb (e := (1162, .aload_n 0, 1)) ok_Law_law_33 22 rfl
theorem d_Law_law_1163 : ab_ins y_Law_law 1163 = some (.iload_n 3, 1) := ab_tb (e := (1163, .iload_n 3, 1)) ok_Law_law_33 23 rfl
def tb_Law_law_34 : List (Nat × Instr × Nat) := [(1164, .iconst 3, 1), (1165, .iadd, 1), (1166, .iaload, 1), (1167, .aload_n 0, 1), (1168, .iload_n 3, 1), (1169, .iconst 4, 1), (1170, .iadd, 1), (1171, .iaload, 1), (1172, .aload_n 0, 1), (1173, .iload_n 3, 1), (1174, .iconst 5, 1), (1175, .iadd, 1), (1176, .iaload, 1), (1177, .invokevirtual 133, 3), (1180, .aload_n 2, 1), (1181, .aload_n 0, 1), (1182, .iload_n 3, 1), (1183, .iconst 1, 1), (1184, .iadd, 1), (1185, .iaload, 1), (1186, .aload_n 0, 1), (1187, .iload_n 3, 1), (1188, .iconst 2, 1), (1189, .iadd, 1)]
theorem ok_Law_law_34 : (tb_Law_law_34.all fun e => decide (ab_ins y_Law_law e.1 = some e.2)) = true := by decide +kernel
theorem d_Law_law_1164 : ab_ins y_Law_law 1164 = some (.iconst 3, 1) := ab_tb (e := (1164, .iconst 3, 1)) ok_Law_law_34 0 rfl
theorem d_Law_law_1165 : ab_ins y_Law_law 1165 = some (.iadd, 1) := ab_tb (e := (1165, .iadd, 1)) ok_Law_law_34 1 rfl
theorem d_Law_law_1166 : ab_ins y_Law_law 1166 = some (.iaload, 1) := ab_tb (e := (1166, .iaload, 1)) ok_Law_law_34 2 rfl
theorem d_Law_law_1167 : ab_ins y_Law_law 1167 = some (.aload_n 0, 1) := ab_tb (e := (1167, .aload_n 0, 1)) ok_Law_law_34 3 rfl
theorem d_Law_law_1168 : ab_ins y_Law_law 1168 = some (.iload_n 3, 1) := ab_tb (e := (1168, .iload_n 3, 1)) ok_Law_law_34 4 rfl
theorem d_Law_law_1169 : ab_ins y_Law_law 1169 = some (.iconst 4, 1) := ab_tb (e := (1169, .iconst 4, 1)) ok_Law_law_34 5 rfl
theorem d_Law_law_1170 : ab_ins y_Law_law 1170 = some (.iadd, 1) := ab_tb (e := (1170, .iadd, 1)) ok_Law_law_34 6 rfl
theorem d_Law_law_1171 : ab_ins y_Law_law 1171 = some (.iaload, 1) := ab_tb (e := (1171, .iaload, 1)) ok_Law_law_34 7 rfl
theorem d_Law_law_1172 : ab_ins y_Law_law 1172 = some (.aload_n 0, 1) := ab_tb (e := (1172, .aload_n 0, 1)) ok_Law_law_34 8 rfl
theorem d_Law_law_1173 : ab_ins y_Law_law 1173 = some (.iload_n 3, 1) := ab_tb (e := (1173, .iload_n 3, 1)) ok_Law_law_34 9 rfl
theorem d_Law_law_1174 : ab_ins y_Law_law 1174 = some (.iconst 5, 1) := ab_tb (e := (1174, .iconst 5, 1)) ok_Law_law_34 10 rfl
theorem d_Law_law_1175 : ab_ins y_Law_law 1175 = some (.iadd, 1) := ab_tb (e := (1175, .iadd, 1)) ok_Law_law_34 11 rfl
theorem d_Law_law_1176 : ab_ins y_Law_law 1176 = some (.iaload, 1) := ab_tb (e := (1176, .iaload, 1)) ok_Law_law_34 12 rfl
theorem d_Law_law_1177 : ab_ins y_Law_law 1177 = some (.invokevirtual 133, 3) := ab_tb (e := (1177, .invokevirtual 133, 3)) ok_Law_law_34 13 rfl
theorem d_Law_law_1180 : ab_ins y_Law_law 1180 = some (.aload_n 2, 1) := ab_tb (e := (1180, .aload_n 2, 1)) ok_Law_law_34 14 rfl
theorem d_Law_law_1181 : ab_ins y_Law_law 1181 = some (.aload_n 0, 1) := ab_tb (e := (1181, .aload_n 0, 1)) ok_Law_law_34 15 rfl
theorem d_Law_law_1182 : ab_ins y_Law_law 1182 = some (.iload_n 3, 1) := ab_tb (e := (1182, .iload_n 3, 1)) ok_Law_law_34 16 rfl
theorem d_Law_law_1183 : ab_ins y_Law_law 1183 = some (.iconst 1, 1) := ab_tb (e := (1183, .iconst 1, 1)) ok_Law_law_34 17 rfl
theorem d_Law_law_1184 : ab_ins y_Law_law 1184 = some (.iadd, 1) := ab_tb (e := (1184, .iadd, 1)) ok_Law_law_34 18 rfl
theorem d_Law_law_1185 : ab_ins y_Law_law 1185 = some (.iaload, 1) := ab_tb (e := (1185, .iaload, 1)) ok_Law_law_34 19 rfl
theorem d_Law_law_1186 : ab_ins y_Law_law 1186 = some (.aload_n 0, 1) := ab_tb (e := (1186, .aload_n 0, 1)) ok_Law_law_34 20 rfl
theorem d_Law_law_1187 : ab_ins y_Law_law 1187 = some (.iload_n 3, 1) := ab_tb (e := (1187, .iload_n 3, 1)) ok_Law_law_34 21 rfl
theorem d_Law_law_1188 : ab_ins y_Law_law 1188 = some (.iconst 2, 1) := ab_tb (e := (1188, .iconst 2, 1)) ok_Law_law_34 22 rfl
theorem d_Law_law_1189 : ab_ins y_Law_law 1189 = some (.iadd, 1) := ab_tb (e := (1189, .iadd, 1)) ok_Law_law_34 23 rfl
def tb_Law_law_35 : List (Nat × Instr × Nat) := [(1190, .iaload, 1), (1191, .aload_n 0, 1), (1192, .iload_n 3, 1), (1193, .iconst 3, 1), (1194, .iadd, 1), (1195, .iaload, 1), (1196, .aload_n 0, 1), (1197, .iload_n 3, 1), (1198, .iconst 4, 1), (1199, .iadd, 1), (1200, .iaload, 1), (1201, .aload_n 0, 1), (1202, .iload_n 3, 1), (1203, .iconst 5, 1), (1204, .iadd, 1), (1205, .iaload, 1), (1206, .invokevirtual 137, 3), (1209, .if_icmp .eq 159, 3), (1212, .iconst 0, 1), (1213, .ireturn, 1), (1214, .aload_n 1, 1), (1215, .aload_n 0, 1), (1216, .iload_n 3, 1), (1217, .iconst 1, 1)]
theorem ok_Law_law_35 : (tb_Law_law_35.all fun e => decide (ab_ins y_Law_law e.1 = some e.2)) = true := by decide +kernel
theorem d_Law_law_1190 : ab_ins y_Law_law 1190 = some (.iaload, 1) := ab_tb (e := (1190, .iaload, 1)) ok_Law_law_35 0 rfl
theorem d_Law_law_1191 : ab_ins y_Law_law 1191 = some (.aload_n 0, 1) := ab_tb (e := (1191, .aload_n 0, 1)) ok_Law_law_35 1 rfl
theorem d_Law_law_1192 : ab_ins y_Law_law 1192 = some (.iload_n 3, 1) := ab_tb (e := (1192, .iload_n 3, 1)) ok_Law_law_35 2 rfl
theorem d_Law_law_1193 : ab_ins y_Law_law 1193 = some (.iconst 3, 1) := ab_tb (e := (1193, .iconst 3, 1)) ok_Law_law_35 3 rfl
theorem d_Law_law_1194 : ab_ins y_Law_law 1194 = some (.iadd, 1) := ab_tb (e := (1194, .iadd, 1)) ok_Law_law_35 4 rfl
theorem d_Law_law_1195 : ab_ins y_Law_law 1195 = some (.iaload, 1) := ab_tb (e := (1195, .iaload, 1)) ok_Law_law_35 5 rfl
theorem d_Law_law_1196 : ab_ins y_Law_law 1196 = some (.aload_n 0, 1) := ab_tb (e := (1196, .aload_n 0, 1)) ok_Law_law_35 6 rfl
theorem d_Law_law_1197 : ab_ins y_Law_law 1197 = some (.iload_n 3, 1) := ab_tb (e := (1197, .iload_n 3, 1)) ok_Law_law_35 7 rfl
theorem d_Law_law_1198 : ab_ins y_Law_law 1198 = some (.iconst 4, 1) := ab_tb (e := (1198, .iconst 4, 1)) ok_Law_law_35 8 rfl
theorem d_Law_law_1199 : ab_ins y_Law_law 1199 = some (.iadd, 1) := ab_tb (e := (1199, .iadd, 1)) ok_Law_law_35 9 rfl
theorem d_Law_law_1200 : ab_ins y_Law_law 1200 = some (.iaload, 1) := ab_tb (e := (1200, .iaload, 1)) ok_Law_law_35 10 rfl
theorem d_Law_law_1201 : ab_ins y_Law_law 1201 = some (.aload_n 0, 1) := ab_tb (e := (1201, .aload_n 0, 1)) ok_Law_law_35 11 rfl
theorem d_Law_law_1202 : ab_ins y_Law_law 1202 = some (.iload_n 3, 1) := ab_tb (e := (1202, .iload_n 3, 1)) ok_Law_law_35 12 rfl
theorem d_Law_law_1203 : ab_ins y_Law_law 1203 = some (.iconst 5, 1) := ab_tb (e := (1203, .iconst 5, 1)) ok_Law_law_35 13 rfl
theorem d_Law_law_1204 : ab_ins y_Law_law 1204 = some (.iadd, 1) := ab_tb (e := (1204, .iadd, 1)) ok_Law_law_35 14 rfl
theorem d_Law_law_1205 : ab_ins y_Law_law 1205 = some (.iaload, 1) := ab_tb (e := (1205, .iaload, 1)) ok_Law_law_35 15 rfl
theorem d_Law_law_1206 : ab_ins y_Law_law 1206 = some (.invokevirtual 137, 3) := ab_tb (e := (1206, .invokevirtual 137, 3)) ok_Law_law_35 16 rfl
theorem d_Law_law_1209 : ab_ins y_Law_law 1209 = some (.if_icmp .eq 159, 3) := ab_tb (e := (1209, .if_icmp .eq 159, 3)) ok_Law_law_35 17 rfl
theorem d_Law_law_1212 : ab_ins y_Law_law 1212 = some (.iconst 0, 1) := ab_tb (e := (1212, .iconst 0, 1)) ok_Law_law_35 18 rfl
theorem d_Law_law_1213 : ab_ins y_Law_law 1213 = some (.ireturn, 1) := ab_tb (e := (1213, .ireturn, 1)) ok_Law_law_35 19 rfl
theorem d_Law_law_1214 : ab_ins y_Law_law 1214 = some (.aload_n 1, 1) := ab_tb (e := (1214, .aload_n 1, 1)) ok_Law_law_35 20 rfl
theorem d_Law_law_1215 : ab_ins y_Law_law 1215 = some (.aload_n 0, 1) := ab_tb (e := (1215, .aload_n 0, 1)) ok_Law_law_35 21 rfl
theorem d_Law_law_1216 : ab_ins y_Law_law 1216 = some (.iload_n 3, 1) := ab_tb (e := (1216, .iload_n 3, 1)) ok_Law_law_35 22 rfl
theorem d_Law_law_1217 : ab_ins y_Law_law 1217 = some (.iconst 1, 1) := ab_tb (e := (1217, .iconst 1, 1)) ok_Law_law_35 23 rfl
def tb_Law_law_36 : List (Nat × Instr × Nat) := [(1218, .iadd, 1), (1219, .iaload, 1), (1220, .invokevirtual 138, 3), (1223, .aload_n 2, 1), (1224, .aload_n 0, 1), (1225, .iload_n 3, 1), (1226, .iconst 1, 1), (1227, .iadd, 1), (1228, .iaload, 1), (1229, .invokevirtual 141, 3), (1232, .if_icmp .eq 136, 3), (1235, .iconst 0, 1), (1236, .ireturn, 1), (1237, .aload_n 1, 1), (1238, .aload_n 0, 1), (1239, .iload_n 3, 1), (1240, .iconst 1, 1), (1241, .iadd, 1), (1242, .iaload, 1), (1243, .invokevirtual 142, 3), (1246, .aload_n 2, 1), (1247, .aload_n 0, 1), (1248, .iload_n 3, 1), (1249, .iconst 1, 1)]
theorem ok_Law_law_36 : (tb_Law_law_36.all fun e => decide (ab_ins y_Law_law e.1 = some e.2)) = true := by decide +kernel
theorem d_Law_law_1218 : ab_ins y_Law_law 1218 = some (.iadd, 1) := ab_tb (e := (1218, .iadd, 1)) ok_Law_law_36 0 rfl
theorem d_Law_law_1219 : ab_ins y_Law_law 1219 = some (.iaload, 1) := ab_tb (e := (1219, .iaload, 1)) ok_Law_law_36 1 rfl
theorem d_Law_law_1220 : ab_ins y_Law_law 1220 = some (.invokevirtual 138, 3) := ab_tb (e := (1220, .invokevirtual 138, 3)) ok_Law_law_36 2 rfl
theorem d_Law_law_1223 : ab_ins y_Law_law 1223 = some (.aload_n 2, 1) := ab_tb (e := (1223, .aload_n 2, 1)) ok_Law_law_36 3 rfl
theorem d_Law_law_1224 : ab_ins y_Law_law 1224 = some (.aload_n 0, 1) := ab_tb (e := (1224, .aload_n 0, 1)) ok_Law_law_36 4 rfl
theorem d_Law_law_1225 : ab_ins y_Law_law 1225 = some (.iload_n 3, 1) := ab_tb (e := (1225, .iload_n 3, 1)) ok_Law_law_36 5 rfl
theorem d_Law_law_1226 : ab_ins y_Law_law 1226 = some (.iconst 1, 1) := ab_tb (e := (1226, .iconst 1, 1)) ok_Law_law_36 6 rfl
theorem d_Law_law_1227 : ab_ins y_Law_law 1227 = some (.iadd, 1) := ab_tb (e := (1227, .iadd, 1)) ok_Law_law_36 7 rfl
theorem d_Law_law_1228 : ab_ins y_Law_law 1228 = some (.iaload, 1) := ab_tb (e := (1228, .iaload, 1)) ok_Law_law_36 8 rfl
theorem d_Law_law_1229 : ab_ins y_Law_law 1229 = some (.invokevirtual 141, 3) := ab_tb (e := (1229, .invokevirtual 141, 3)) ok_Law_law_36 9 rfl
theorem d_Law_law_1232 : ab_ins y_Law_law 1232 = some (.if_icmp .eq 136, 3) := ab_tb (e := (1232, .if_icmp .eq 136, 3)) ok_Law_law_36 10 rfl
theorem d_Law_law_1235 : ab_ins y_Law_law 1235 = some (.iconst 0, 1) := ab_tb (e := (1235, .iconst 0, 1)) ok_Law_law_36 11 rfl
theorem d_Law_law_1236 : ab_ins y_Law_law 1236 = some (.ireturn, 1) := ab_tb (e := (1236, .ireturn, 1)) ok_Law_law_36 12 rfl
theorem d_Law_law_1237 : ab_ins y_Law_law 1237 = some (.aload_n 1, 1) := ab_tb (e := (1237, .aload_n 1, 1)) ok_Law_law_36 13 rfl
theorem d_Law_law_1238 : ab_ins y_Law_law 1238 = some (.aload_n 0, 1) := ab_tb (e := (1238, .aload_n 0, 1)) ok_Law_law_36 14 rfl
theorem d_Law_law_1239 : ab_ins y_Law_law 1239 = some (.iload_n 3, 1) := ab_tb (e := (1239, .iload_n 3, 1)) ok_Law_law_36 15 rfl
theorem d_Law_law_1240 : ab_ins y_Law_law 1240 = some (.iconst 1, 1) := ab_tb (e := (1240, .iconst 1, 1)) ok_Law_law_36 16 rfl
theorem d_Law_law_1241 : ab_ins y_Law_law 1241 = some (.iadd, 1) := ab_tb (e := (1241, .iadd, 1)) ok_Law_law_36 17 rfl
theorem d_Law_law_1242 : ab_ins y_Law_law 1242 = some (.iaload, 1) := ab_tb (e := (1242, .iaload, 1)) ok_Law_law_36 18 rfl
theorem d_Law_law_1243 : ab_ins y_Law_law 1243 = some (.invokevirtual 142, 3) := ab_tb (e := (1243, .invokevirtual 142, 3)) ok_Law_law_36 19 rfl
theorem d_Law_law_1246 : ab_ins y_Law_law 1246 = some (.aload_n 2, 1) := ab_tb (e := (1246, .aload_n 2, 1)) ok_Law_law_36 20 rfl
theorem d_Law_law_1247 : ab_ins y_Law_law 1247 = some (.aload_n 0, 1) := ab_tb (e := (1247, .aload_n 0, 1)) ok_Law_law_36 21 rfl
theorem d_Law_law_1248 : ab_ins y_Law_law 1248 = some (.iload_n 3, 1) := ab_tb (e := (1248, .iload_n 3, 1)) ok_Law_law_36 22 rfl
theorem d_Law_law_1249 : ab_ins y_Law_law 1249 = some (.iconst 1, 1) := ab_tb (e := (1249, .iconst 1, 1)) ok_Law_law_36 23 rfl
def tb_Law_law_37 : List (Nat × Instr × Nat) := [(1250, .iadd, 1), (1251, .iaload, 1), (1252, .invokevirtual 145, 3), (1255, .if_icmp .eq 113, 3), (1258, .iconst 0, 1), (1259, .ireturn, 1), (1260, .aload_n 1, 1), (1261, .invokevirtual 146, 3), (1264, .aload_n 2, 1), (1265, .invokevirtual 150, 3), (1268, .if_icmp .eq 100, 3), (1271, .iconst 0, 1), (1272, .ireturn, 1), (1273, .aload_n 1, 1), (1274, .invokevirtual 151, 3), (1277, .aload_n 2, 1), (1278, .invokevirtual 154, 3), (1281, .if_icmp .eq 87, 3), (1284, .iconst 0, 1), (1285, .ireturn, 1), (1286, .aload_n 1, 1), (1287, .aload_n 0, 1), (1288, .iload_n 3, 1), (1289, .iconst 1, 1)]
theorem ok_Law_law_37 : (tb_Law_law_37.all fun e => decide (ab_ins y_Law_law e.1 = some e.2)) = true := by decide +kernel
theorem d_Law_law_1250 : ab_ins y_Law_law 1250 = some (.iadd, 1) := ab_tb (e := (1250, .iadd, 1)) ok_Law_law_37 0 rfl
theorem d_Law_law_1251 : ab_ins y_Law_law 1251 = some (.iaload, 1) := ab_tb (e := (1251, .iaload, 1)) ok_Law_law_37 1 rfl
theorem d_Law_law_1252 : ab_ins y_Law_law 1252 = some (.invokevirtual 145, 3) := ab_tb (e := (1252, .invokevirtual 145, 3)) ok_Law_law_37 2 rfl
theorem d_Law_law_1255 : ab_ins y_Law_law 1255 = some (.if_icmp .eq 113, 3) := ab_tb (e := (1255, .if_icmp .eq 113, 3)) ok_Law_law_37 3 rfl
theorem d_Law_law_1258 : ab_ins y_Law_law 1258 = some (.iconst 0, 1) := ab_tb (e := (1258, .iconst 0, 1)) ok_Law_law_37 4 rfl
theorem d_Law_law_1259 : ab_ins y_Law_law 1259 = some (.ireturn, 1) := ab_tb (e := (1259, .ireturn, 1)) ok_Law_law_37 5 rfl
theorem d_Law_law_1260 : ab_ins y_Law_law 1260 = some (.aload_n 1, 1) := ab_tb (e := (1260, .aload_n 1, 1)) ok_Law_law_37 6 rfl
theorem d_Law_law_1261 : ab_ins y_Law_law 1261 = some (.invokevirtual 146, 3) := ab_tb (e := (1261, .invokevirtual 146, 3)) ok_Law_law_37 7 rfl
theorem d_Law_law_1264 : ab_ins y_Law_law 1264 = some (.aload_n 2, 1) := ab_tb (e := (1264, .aload_n 2, 1)) ok_Law_law_37 8 rfl
theorem d_Law_law_1265 : ab_ins y_Law_law 1265 = some (.invokevirtual 150, 3) := ab_tb (e := (1265, .invokevirtual 150, 3)) ok_Law_law_37 9 rfl
theorem d_Law_law_1268 : ab_ins y_Law_law 1268 = some (.if_icmp .eq 100, 3) := ab_tb (e := (1268, .if_icmp .eq 100, 3)) ok_Law_law_37 10 rfl
theorem d_Law_law_1271 : ab_ins y_Law_law 1271 = some (.iconst 0, 1) := ab_tb (e := (1271, .iconst 0, 1)) ok_Law_law_37 11 rfl
theorem d_Law_law_1272 : ab_ins y_Law_law 1272 = some (.ireturn, 1) := ab_tb (e := (1272, .ireturn, 1)) ok_Law_law_37 12 rfl
theorem d_Law_law_1273 : ab_ins y_Law_law 1273 = some (.aload_n 1, 1) := ab_tb (e := (1273, .aload_n 1, 1)) ok_Law_law_37 13 rfl
theorem d_Law_law_1274 : ab_ins y_Law_law 1274 = some (.invokevirtual 151, 3) := ab_tb (e := (1274, .invokevirtual 151, 3)) ok_Law_law_37 14 rfl
theorem d_Law_law_1277 : ab_ins y_Law_law 1277 = some (.aload_n 2, 1) := ab_tb (e := (1277, .aload_n 2, 1)) ok_Law_law_37 15 rfl
theorem d_Law_law_1278 : ab_ins y_Law_law 1278 = some (.invokevirtual 154, 3) := ab_tb (e := (1278, .invokevirtual 154, 3)) ok_Law_law_37 16 rfl
theorem d_Law_law_1281 : ab_ins y_Law_law 1281 = some (.if_icmp .eq 87, 3) := ab_tb (e := (1281, .if_icmp .eq 87, 3)) ok_Law_law_37 17 rfl
theorem d_Law_law_1284 : ab_ins y_Law_law 1284 = some (.iconst 0, 1) := ab_tb (e := (1284, .iconst 0, 1)) ok_Law_law_37 18 rfl
theorem d_Law_law_1285 : ab_ins y_Law_law 1285 = some (.ireturn, 1) := ab_tb (e := (1285, .ireturn, 1)) ok_Law_law_37 19 rfl
theorem d_Law_law_1286 : ab_ins y_Law_law 1286 = some (.aload_n 1, 1) := ab_tb (e := (1286, .aload_n 1, 1)) ok_Law_law_37 20 rfl
theorem d_Law_law_1287 : ab_ins y_Law_law 1287 = some (.aload_n 0, 1) := ab_tb (e := (1287, .aload_n 0, 1)) ok_Law_law_37 21 rfl
theorem d_Law_law_1288 : ab_ins y_Law_law 1288 = some (.iload_n 3, 1) := ab_tb (e := (1288, .iload_n 3, 1)) ok_Law_law_37 22 rfl
theorem d_Law_law_1289 : ab_ins y_Law_law 1289 = some (.iconst 1, 1) := ab_tb (e := (1289, .iconst 1, 1)) ok_Law_law_37 23 rfl
def tb_Law_law_38 : List (Nat × Instr × Nat) := [(1290, .iadd, 1), (1291, .iaload, 1), (1292, .invokevirtual 155, 3), (1295, .aload_n 2, 1), (1296, .aload_n 0, 1), (1297, .iload_n 3, 1), (1298, .iconst 1, 1), (1299, .iadd, 1), (1300, .iaload, 1), (1301, .invokevirtual 158, 3), (1304, .if_icmp .eq 64, 3), (1307, .iconst 0, 1), (1308, .ireturn, 1), (1309, .aload_n 1, 1), (1310, .invokevirtual 159, 3), (1313, .aload_n 2, 1), (1314, .invokevirtual 162, 3), (1317, .if_icmp .eq 51, 3), (1320, .iconst 0, 1), (1321, .ireturn, 1), (1322, .aload_n 1, 1), (1323, .aload_n 0, 1), (1324, .iload_n 3, 1), (1325, .iconst 1, 1)]
theorem ok_Law_law_38 : (tb_Law_law_38.all fun e => decide (ab_ins y_Law_law e.1 = some e.2)) = true := by decide +kernel
theorem d_Law_law_1290 : ab_ins y_Law_law 1290 = some (.iadd, 1) := ab_tb (e := (1290, .iadd, 1)) ok_Law_law_38 0 rfl
theorem d_Law_law_1291 : ab_ins y_Law_law 1291 = some (.iaload, 1) := ab_tb (e := (1291, .iaload, 1)) ok_Law_law_38 1 rfl
theorem d_Law_law_1292 : ab_ins y_Law_law 1292 = some (.invokevirtual 155, 3) := ab_tb (e := (1292, .invokevirtual 155, 3)) ok_Law_law_38 2 rfl
theorem d_Law_law_1295 : ab_ins y_Law_law 1295 = some (.aload_n 2, 1) := ab_tb (e := (1295, .aload_n 2, 1)) ok_Law_law_38 3 rfl
theorem d_Law_law_1296 : ab_ins y_Law_law 1296 = some (.aload_n 0, 1) := ab_tb (e := (1296, .aload_n 0, 1)) ok_Law_law_38 4 rfl
theorem d_Law_law_1297 : ab_ins y_Law_law 1297 = some (.iload_n 3, 1) := ab_tb (e := (1297, .iload_n 3, 1)) ok_Law_law_38 5 rfl
theorem d_Law_law_1298 : ab_ins y_Law_law 1298 = some (.iconst 1, 1) := ab_tb (e := (1298, .iconst 1, 1)) ok_Law_law_38 6 rfl
theorem d_Law_law_1299 : ab_ins y_Law_law 1299 = some (.iadd, 1) := ab_tb (e := (1299, .iadd, 1)) ok_Law_law_38 7 rfl
theorem d_Law_law_1300 : ab_ins y_Law_law 1300 = some (.iaload, 1) := ab_tb (e := (1300, .iaload, 1)) ok_Law_law_38 8 rfl
theorem d_Law_law_1301 : ab_ins y_Law_law 1301 = some (.invokevirtual 158, 3) := ab_tb (e := (1301, .invokevirtual 158, 3)) ok_Law_law_38 9 rfl
theorem d_Law_law_1304 : ab_ins y_Law_law 1304 = some (.if_icmp .eq 64, 3) := ab_tb (e := (1304, .if_icmp .eq 64, 3)) ok_Law_law_38 10 rfl
theorem d_Law_law_1307 : ab_ins y_Law_law 1307 = some (.iconst 0, 1) := ab_tb (e := (1307, .iconst 0, 1)) ok_Law_law_38 11 rfl
theorem d_Law_law_1308 : ab_ins y_Law_law 1308 = some (.ireturn, 1) := ab_tb (e := (1308, .ireturn, 1)) ok_Law_law_38 12 rfl
theorem d_Law_law_1309 : ab_ins y_Law_law 1309 = some (.aload_n 1, 1) := ab_tb (e := (1309, .aload_n 1, 1)) ok_Law_law_38 13 rfl
theorem d_Law_law_1310 : ab_ins y_Law_law 1310 = some (.invokevirtual 159, 3) := ab_tb (e := (1310, .invokevirtual 159, 3)) ok_Law_law_38 14 rfl
theorem d_Law_law_1313 : ab_ins y_Law_law 1313 = some (.aload_n 2, 1) := ab_tb (e := (1313, .aload_n 2, 1)) ok_Law_law_38 15 rfl
theorem d_Law_law_1314 : ab_ins y_Law_law 1314 = some (.invokevirtual 162, 3) := ab_tb (e := (1314, .invokevirtual 162, 3)) ok_Law_law_38 16 rfl
theorem d_Law_law_1317 : ab_ins y_Law_law 1317 = some (.if_icmp .eq 51, 3) := ab_tb (e := (1317, .if_icmp .eq 51, 3)) ok_Law_law_38 17 rfl
theorem d_Law_law_1320 : ab_ins y_Law_law 1320 = some (.iconst 0, 1) := ab_tb (e := (1320, .iconst 0, 1)) ok_Law_law_38 18 rfl
theorem d_Law_law_1321 : ab_ins y_Law_law 1321 = some (.ireturn, 1) := ab_tb (e := (1321, .ireturn, 1)) ok_Law_law_38 19 rfl
theorem d_Law_law_1322 : ab_ins y_Law_law 1322 = some (.aload_n 1, 1) := ab_tb (e := (1322, .aload_n 1, 1)) ok_Law_law_38 20 rfl
theorem d_Law_law_1323 : ab_ins y_Law_law 1323 = some (.aload_n 0, 1) := ab_tb (e := (1323, .aload_n 0, 1)) ok_Law_law_38 21 rfl
theorem d_Law_law_1324 : ab_ins y_Law_law 1324 = some (.iload_n 3, 1) := ab_tb (e := (1324, .iload_n 3, 1)) ok_Law_law_38 22 rfl
theorem d_Law_law_1325 : ab_ins y_Law_law 1325 = some (.iconst 1, 1) := ab_tb (e := (1325, .iconst 1, 1)) ok_Law_law_38 23 rfl
def tb_Law_law_39 : List (Nat × Instr × Nat) := [(1326, .iadd, 1), (1327, .iaload, 1), (1328, .invokevirtual 163, 3), (1331, .aload_n 2, 1), (1332, .aload_n 0, 1), (1333, .iload_n 3, 1), (1334, .iconst 1, 1), (1335, .iadd, 1), (1336, .iaload, 1), (1337, .invokevirtual 166, 3), (1340, .if_icmp .eq 28, 3), (1343, .iconst 0, 1), (1344, .ireturn, 1), (1345, .aload_n 1, 1), (1346, .aload_n 0, 1), (1347, .iload_n 3, 1), (1348, .iconst 1, 1), (1349, .iadd, 1), (1350, .iaload, 1), (1351, .invokevirtual 167, 3), (1354, .aload_n 2, 1), (1355, .aload_n 0, 1), (1356, .iload_n 3, 1), (1357, .iconst 1, 1)]
theorem ok_Law_law_39 : (tb_Law_law_39.all fun e => decide (ab_ins y_Law_law e.1 = some e.2)) = true := by decide +kernel
theorem d_Law_law_1326 : ab_ins y_Law_law 1326 = some (.iadd, 1) := ab_tb (e := (1326, .iadd, 1)) ok_Law_law_39 0 rfl
theorem d_Law_law_1327 : ab_ins y_Law_law 1327 = some (.iaload, 1) := ab_tb (e := (1327, .iaload, 1)) ok_Law_law_39 1 rfl
theorem d_Law_law_1328 : ab_ins y_Law_law 1328 = some (.invokevirtual 163, 3) := ab_tb (e := (1328, .invokevirtual 163, 3)) ok_Law_law_39 2 rfl
theorem d_Law_law_1331 : ab_ins y_Law_law 1331 = some (.aload_n 2, 1) := ab_tb (e := (1331, .aload_n 2, 1)) ok_Law_law_39 3 rfl
theorem d_Law_law_1332 : ab_ins y_Law_law 1332 = some (.aload_n 0, 1) := ab_tb (e := (1332, .aload_n 0, 1)) ok_Law_law_39 4 rfl
theorem d_Law_law_1333 : ab_ins y_Law_law 1333 = some (.iload_n 3, 1) := ab_tb (e := (1333, .iload_n 3, 1)) ok_Law_law_39 5 rfl
theorem d_Law_law_1334 : ab_ins y_Law_law 1334 = some (.iconst 1, 1) := ab_tb (e := (1334, .iconst 1, 1)) ok_Law_law_39 6 rfl
theorem d_Law_law_1335 : ab_ins y_Law_law 1335 = some (.iadd, 1) := ab_tb (e := (1335, .iadd, 1)) ok_Law_law_39 7 rfl
theorem d_Law_law_1336 : ab_ins y_Law_law 1336 = some (.iaload, 1) := ab_tb (e := (1336, .iaload, 1)) ok_Law_law_39 8 rfl
theorem d_Law_law_1337 : ab_ins y_Law_law 1337 = some (.invokevirtual 166, 3) := ab_tb (e := (1337, .invokevirtual 166, 3)) ok_Law_law_39 9 rfl
theorem d_Law_law_1340 : ab_ins y_Law_law 1340 = some (.if_icmp .eq 28, 3) := ab_tb (e := (1340, .if_icmp .eq 28, 3)) ok_Law_law_39 10 rfl
theorem d_Law_law_1343 : ab_ins y_Law_law 1343 = some (.iconst 0, 1) := ab_tb (e := (1343, .iconst 0, 1)) ok_Law_law_39 11 rfl
theorem d_Law_law_1344 : ab_ins y_Law_law 1344 = some (.ireturn, 1) := ab_tb (e := (1344, .ireturn, 1)) ok_Law_law_39 12 rfl
theorem d_Law_law_1345 : ab_ins y_Law_law 1345 = some (.aload_n 1, 1) := ab_tb (e := (1345, .aload_n 1, 1)) ok_Law_law_39 13 rfl
theorem d_Law_law_1346 : ab_ins y_Law_law 1346 = some (.aload_n 0, 1) := ab_tb (e := (1346, .aload_n 0, 1)) ok_Law_law_39 14 rfl
theorem d_Law_law_1347 : ab_ins y_Law_law 1347 = some (.iload_n 3, 1) := ab_tb (e := (1347, .iload_n 3, 1)) ok_Law_law_39 15 rfl
theorem d_Law_law_1348 : ab_ins y_Law_law 1348 = some (.iconst 1, 1) := ab_tb (e := (1348, .iconst 1, 1)) ok_Law_law_39 16 rfl
theorem d_Law_law_1349 : ab_ins y_Law_law 1349 = some (.iadd, 1) := ab_tb (e := (1349, .iadd, 1)) ok_Law_law_39 17 rfl
theorem d_Law_law_1350 : ab_ins y_Law_law 1350 = some (.iaload, 1) := ab_tb (e := (1350, .iaload, 1)) ok_Law_law_39 18 rfl
theorem d_Law_law_1351 : ab_ins y_Law_law 1351 = some (.invokevirtual 167, 3) := ab_tb (e := (1351, .invokevirtual 167, 3)) ok_Law_law_39 19 rfl
theorem d_Law_law_1354 : ab_ins y_Law_law 1354 = some (.aload_n 2, 1) := ab_tb (e := (1354, .aload_n 2, 1)) ok_Law_law_39 20 rfl
theorem d_Law_law_1355 : ab_ins y_Law_law 1355 = some (.aload_n 0, 1) := ab_tb (e := (1355, .aload_n 0, 1)) ok_Law_law_39 21 rfl
theorem d_Law_law_1356 : ab_ins y_Law_law 1356 = some (.iload_n 3, 1) := ab_tb (e := (1356, .iload_n 3, 1)) ok_Law_law_39 22 rfl
theorem d_Law_law_1357 : ab_ins y_Law_law 1357 = some (.iconst 1, 1) := ab_tb (e := (1357, .iconst 1, 1)) ok_Law_law_39 23 rfl
def tb_Law_law_40 : List (Nat × Instr × Nat) := [(1358, .iadd, 1), (1359, .iaload, 1), (1360, .invokevirtual 170, 3), (1363, .if_icmp .eq 5, 3), (1366, .iconst 0, 1), (1367, .ireturn, 1), (1368, .iinc 3 6, 3), (1371, .goto (-1353), 3), (1374, .iconst 1, 1), (1375, .ireturn, 1)]
theorem ok_Law_law_40 : (tb_Law_law_40.all fun e => decide (ab_ins y_Law_law e.1 = some e.2)) = true := by decide +kernel
theorem d_Law_law_1358 : ab_ins y_Law_law 1358 = some (.iadd, 1) := ab_tb (e := (1358, .iadd, 1)) ok_Law_law_40 0 rfl
theorem d_Law_law_1359 : ab_ins y_Law_law 1359 = some (.iaload, 1) := ab_tb (e := (1359, .iaload, 1)) ok_Law_law_40 1 rfl
theorem d_Law_law_1360 : ab_ins y_Law_law 1360 = some (.invokevirtual 170, 3) := ab_tb (e := (1360, .invokevirtual 170, 3)) ok_Law_law_40 2 rfl
theorem d_Law_law_1363 : ab_ins y_Law_law 1363 = some (.if_icmp .eq 5, 3) := ab_tb (e := (1363, .if_icmp .eq 5, 3)) ok_Law_law_40 3 rfl
theorem d_Law_law_1366 : ab_ins y_Law_law 1366 = some (.iconst 0, 1) := ab_tb (e := (1366, .iconst 0, 1)) ok_Law_law_40 4 rfl
theorem d_Law_law_1367 : ab_ins y_Law_law 1367 = some (.ireturn, 1) := ab_tb (e := (1367, .ireturn, 1)) ok_Law_law_40 5 rfl
theorem d_Law_law_1368 : ab_ins y_Law_law 1368 = some (.iinc 3 6, 3) := ab_tb (e := (1368, .iinc 3 6, 3)) ok_Law_law_40 6 rfl
theorem d_Law_law_1371 : ab_ins y_Law_law 1371 = some (.goto (-1353), 3) := ab_tb (e := (1371, .goto (-1353), 3)) ok_Law_law_40 7 rfl
theorem d_Law_law_1374 : ab_ins y_Law_law 1374 = some (.iconst 1, 1) := ab_tb (e := (1374, .iconst 1, 1)) ok_Law_law_40 8 rfl
theorem d_Law_law_1375 : ab_ins y_Law_law 1375 = some (.ireturn, 1) := ab_tb (e := (1375, .ireturn, 1)) ok_Law_law_40 9 rfl
