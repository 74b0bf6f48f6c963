theorem dL_at_0 : decode cL_at 0 = .ok (.iload_n 1, 1) := by decide +kernel
theorem dL_at_1 : decode cL_at 1 = .ok (.aload_n 0, 1) := by decide +kernel
theorem dL_at_2 : decode cL_at 2 = .ok (.arraylength, 1) := by decide +kernel
theorem dL_at_3 : decode cL_at 3 = .ok (.if_icmp .ge 9, 3) := by decide +kernel
theorem dL_at_6 : decode cL_at 6 = .ok (.aload_n 0, 1) := by decide +kernel
theorem dL_at_7 : decode cL_at 7 = .ok (.iload_n 1, 1) := by decide +kernel
theorem dL_at_8 : decode cL_at 8 = .ok (.iaload, 1) := by decide +kernel
theorem dL_at_9 : decode cL_at 9 = .ok (.goto 4, 3) := by decide +kernel
theorem dL_at_12 : decode cL_at 12 = .ok (.iconst 0, 1) := by decide +kernel
theorem dL_at_13 : decode cL_at 13 = .ok (.ireturn, 1) := by decide +kernel
theorem dL_put_0 : decode cL_put 0 = .ok (.iconst 0, 1) := by decide +kernel
theorem dL_put_1 : decode cL_put 1 = .ok (.istore_n 2, 1) := by decide +kernel
theorem dL_put_2 : decode cL_put 2 = .ok (.iload_n 2, 1) := by decide +kernel
theorem dL_put_3 : decode cL_put 3 = .ok (.aload_n 1, 1) := by decide +kernel
theorem dL_put_4 : decode cL_put 4 = .ok (.invokevirtual 7, 3) := by decide +kernel
theorem dL_put_7 : decode cL_put 7 = .ok (.if_icmp .ge 19, 3) := by decide +kernel
theorem dL_put_10 : decode cL_put 10 = .ok (.aload_n 0, 1) := by decide +kernel
theorem dL_put_11 : decode cL_put 11 = .ok (.aload_n 1, 1) := by decide +kernel
theorem dL_put_12 : decode cL_put 12 = .ok (.iload_n 2, 1) := by decide +kernel
theorem dL_put_13 : decode cL_put 13 = .ok (.invokevirtual 13, 3) := by decide +kernel
theorem dL_put_16 : decode cL_put 16 = .ok (.invokevirtual 17, 3) := by decide +kernel
theorem dL_put_19 : decode cL_put 19 = .ok (.pop, 1) := by decide +kernel
theorem dL_put_20 : decode cL_put 20 = .ok (.iinc 2 1, 3) := by decide +kernel
theorem dL_put_23 : decode cL_put 23 = .ok (.goto (-21), 3) := by decide +kernel
theorem dL_put_26 : decode cL_put 26 = .ok (.return_, 1) := by decide +kernel
theorem dL_build_0 : decode cL_build 0 = .ok (.new 18, 3) := by decide +kernel
theorem dL_build_3 : decode cL_build 3 = .ok (.dup, 1) := by decide +kernel
theorem dL_build_4 : decode cL_build 4 = .ok (.invokespecial 23, 3) := by decide +kernel
theorem dL_build_7 : decode cL_build 7 = .ok (.astore_n 1, 1) := by decide +kernel
theorem dL_build_8 : decode cL_build 8 = .ok (.aload_n 0, 1) := by decide +kernel
theorem dL_build_9 : decode cL_build 9 = .ok (.iconst 0, 1) := by decide +kernel
theorem dL_build_10 : decode cL_build 10 = .ok (.invokestatic 24, 3) := by decide +kernel
theorem dL_build_13 : decode cL_build 13 = .ok (.istore_n 2, 1) := by decide +kernel
theorem dL_build_14 : decode cL_build 14 = .ok (.iconst 0, 1) := by decide +kernel
theorem dL_build_15 : decode cL_build 15 = .ok (.istore_n 3, 1) := by decide +kernel
theorem dL_build_16 : decode cL_build 16 = .ok (.iload_n 3, 1) := by decide +kernel
theorem dL_build_17 : decode cL_build 17 = .ok (.iconst 3, 1) := by decide +kernel
theorem dL_build_18 : decode cL_build 18 = .ok (.iload_n 2, 1) := by decide +kernel
theorem dL_build_19 : decode cL_build 19 = .ok (.iconst 3, 1) := by decide +kernel
theorem dL_build_20 : decode cL_build 20 = .ok (.iand, 1) := by decide +kernel
theorem dL_build_21 : decode cL_build 21 = .ok (.iadd, 1) := by decide +kernel
theorem dL_build_22 : decode cL_build 22 = .ok (.if_icmp .ge 31, 3) := by decide +kernel
theorem dL_build_25 : decode cL_build 25 = .ok (.aload_n 1, 1) := by decide +kernel
theorem dL_build_26 : decode cL_build 26 = .ok (.iconst 0, 1) := by decide +kernel
theorem dL_build_27 : decode cL_build 27 = .ok (.iconst 1, 1) := by decide +kernel
theorem dL_build_28 : decode cL_build 28 = .ok (.iload_n 2, 1) := by decide +kernel
theorem dL_build_29 : decode cL_build 29 = .ok (.iconst 2, 1) := by decide +kernel
theorem dL_build_30 : decode cL_build 30 = .ok (.iconst 3, 1) := by decide +kernel
theorem dL_build_31 : decode cL_build 31 = .ok (.iload_n 3, 1) := by decide +kernel
theorem dL_build_32 : decode cL_build 32 = .ok (.imul, 1) := by decide +kernel
theorem dL_build_33 : decode cL_build 33 = .ok (.iadd, 1) := by decide +kernel
theorem dL_build_34 : decode cL_build 34 = .ok (.ishr, 1) := by decide +kernel
theorem dL_build_35 : decode cL_build 35 = .ok (.bipush 127, 2) := by decide +kernel
theorem dL_build_37 : decode cL_build 37 = .ok (.iand, 1) := by decide +kernel
theorem dL_build_38 : decode cL_build 38 = .ok (.bipush 99, 2) := by decide +kernel
theorem dL_build_40 : decode cL_build 40 = .ok (.irem, 1) := by decide +kernel
theorem dL_build_41 : decode cL_build 41 = .ok (.iadd, 1) := by decide +kernel
theorem dL_build_42 : decode cL_build 42 = .ok (.iconst 0, 1) := by decide +kernel
theorem dL_build_43 : decode cL_build 43 = .ok (.invokestatic 30, 3) := by decide +kernel
theorem dL_build_46 : decode cL_build 46 = .ok (.pop, 1) := by decide +kernel
theorem dL_build_47 : decode cL_build 47 = .ok (.iinc 3 1, 3) := by decide +kernel
theorem dL_build_50 : decode cL_build 50 = .ok (.goto (-34), 3) := by decide +kernel
theorem dL_build_53 : decode cL_build 53 = .ok (.iconst 0, 1) := by decide +kernel
theorem dL_build_54 : decode cL_build 54 = .ok (.istore_n 3, 1) := by decide +kernel
theorem dL_build_55 : decode cL_build 55 = .ok (.iload_n 3, 1) := by decide +kernel
theorem dL_build_56 : decode cL_build 56 = .ok (.iconst 2, 1) := by decide +kernel
theorem dL_build_57 : decode cL_build 57 = .ok (.if_icmp .ge 29, 3) := by decide +kernel
theorem dL_build_60 : decode cL_build 60 = .ok (.aload_n 1, 1) := by decide +kernel
theorem dL_build_61 : decode cL_build 61 = .ok (.iconst 5, 1) := by decide +kernel
theorem dL_build_62 : decode cL_build 62 = .ok (.iconst 1, 1) := by decide +kernel
theorem dL_build_63 : decode cL_build 63 = .ok (.iload_n 2, 1) := by decide +kernel
theorem dL_build_64 : decode cL_build 64 = .ok (.iconst 5, 1) := by decide +kernel
theorem dL_build_65 : decode cL_build 65 = .ok (.iload_n 3, 1) := by decide +kernel
theorem dL_build_66 : decode cL_build 66 = .ok (.imul, 1) := by decide +kernel
theorem dL_build_67 : decode cL_build 67 = .ok (.ishr, 1) := by decide +kernel
theorem dL_build_68 : decode cL_build 68 = .ok (.bipush 63, 2) := by decide +kernel
theorem dL_build_70 : decode cL_build 70 = .ok (.iand, 1) := by decide +kernel
theorem dL_build_71 : decode cL_build 71 = .ok (.bipush 60, 2) := by decide +kernel
theorem dL_build_73 : decode cL_build 73 = .ok (.irem, 1) := by decide +kernel
theorem dL_build_74 : decode cL_build 74 = .ok (.iadd, 1) := by decide +kernel
theorem dL_build_75 : decode cL_build 75 = .ok (.iconst 0, 1) := by decide +kernel
theorem dL_build_76 : decode cL_build 76 = .ok (.invokestatic 30, 3) := by decide +kernel
theorem dL_build_79 : decode cL_build 79 = .ok (.pop, 1) := by decide +kernel
theorem dL_build_80 : decode cL_build 80 = .ok (.iinc 3 1, 3) := by decide +kernel
theorem dL_build_83 : decode cL_build 83 = .ok (.goto (-28), 3) := by decide +kernel
theorem dL_build_86 : decode cL_build 86 = .ok (.iconst 1, 1) := by decide +kernel
theorem dL_build_87 : decode cL_build 87 = .ok (.istore_n 3, 1) := by decide +kernel
theorem dL_build_88 : decode cL_build 88 = .ok (.iload_n 3, 1) := by decide +kernel
theorem dL_build_89 : decode cL_build 89 = .ok (.bipush 13, 2) := by decide +kernel
theorem dL_build_91 : decode cL_build 91 = .ok (.if_icmp .ge 287, 3) := by decide +kernel
theorem dL_build_94 : decode cL_build 94 = .ok (.aload_n 0, 1) := by decide +kernel
theorem dL_build_95 : decode cL_build 95 = .ok (.iload_n 3, 1) := by decide +kernel
theorem dL_build_96 : decode cL_build 96 = .ok (.invokestatic 24, 3) := by decide +kernel
theorem dL_build_99 : decode cL_build 99 = .ok (.istore 4, 2) := by decide +kernel
theorem dL_build_101 : decode cL_build 101 = .ok (.aload_n 1, 1) := by decide +kernel
theorem dL_build_102 : decode cL_build 102 = .ok (.iconst 1, 1) := by decide +kernel
theorem dL_build_103 : decode cL_build 103 = .ok (.iload 4, 2) := by decide +kernel
theorem dL_build_105 : decode cL_build 105 = .ok (.bipush 7, 2) := by decide +kernel
theorem dL_build_107 : decode cL_build 107 = .ok (.iand, 1) := by decide +kernel
theorem dL_build_108 : decode cL_build 108 = .ok (.aload_n 1, 1) := by decide +kernel
theorem dL_build_109 : decode cL_build 109 = .ok (.invokevirtual 34, 3) := by decide +kernel
theorem dL_build_112 : decode cL_build 112 = .ok (.irem, 1) := by decide +kernel
theorem dL_build_113 : decode cL_build 113 = .ok (.iconst 1, 1) := by decide +kernel
theorem dL_build_114 : decode cL_build 114 = .ok (.iload 4, 2) := by decide +kernel
theorem dL_build_116 : decode cL_build 116 = .ok (.iconst 3, 1) := by decide +kernel
theorem dL_build_117 : decode cL_build 117 = .ok (.ishr, 1) := by decide +kernel
theorem dL_build_118 : decode cL_build 118 = .ok (.bipush 31, 2) := by decide +kernel
theorem dL_build_120 : decode cL_build 120 = .ok (.iand, 1) := by decide +kernel
theorem dL_build_121 : decode cL_build 121 = .ok (.iadd, 1) := by decide +kernel
theorem dL_build_122 : decode cL_build 122 = .ok (.invokestatic 30, 3) := by decide +kernel
theorem dL_build_125 : decode cL_build 125 = .ok (.pop, 1) := by decide +kernel
theorem dL_build_126 : decode cL_build 126 = .ok (.iload 4, 2) := by decide +kernel
theorem dL_build_128 : decode cL_build 128 = .ok (.bipush 8, 2) := by decide +kernel
theorem dL_build_130 : decode cL_build 130 = .ok (.ishr, 1) := by decide +kernel
theorem dL_build_131 : decode cL_build 131 = .ok (.iconst 3, 1) := by decide +kernel
theorem dL_build_132 : decode cL_build 132 = .ok (.iand, 1) := by decide +kernel
theorem dL_build_133 : decode cL_build 133 = .ok (.ifCond .ne 32, 3) := by decide +kernel
theorem dL_build_136 : decode cL_build 136 = .ok (.aload_n 1, 1) := by decide +kernel
theorem dL_build_137 : decode cL_build 137 = .ok (.iconst 1, 1) := by decide +kernel
theorem dL_build_138 : decode cL_build 138 = .ok (.iload 4, 2) := by decide +kernel
theorem dL_build_140 : decode cL_build 140 = .ok (.bipush 10, 2) := by decide +kernel
theorem dL_build_142 : decode cL_build 142 = .ok (.ishr, 1) := by decide +kernel
theorem dL_build_143 : decode cL_build 143 = .ok (.bipush 7, 2) := by decide +kernel
theorem dL_build_145 : decode cL_build 145 = .ok (.iand, 1) := by decide +kernel
theorem dL_build_146 : decode cL_build 146 = .ok (.aload_n 1, 1) := by decide +kernel
theorem dL_build_147 : decode cL_build 147 = .ok (.invokevirtual 34, 3) := by decide +kernel
theorem dL_build_150 : decode cL_build 150 = .ok (.irem, 1) := by decide +kernel
theorem dL_build_151 : decode cL_build 151 = .ok (.iconst 1, 1) := by decide +kernel
theorem dL_build_152 : decode cL_build 152 = .ok (.iload 4, 2) := by decide +kernel
theorem dL_build_154 : decode cL_build 154 = .ok (.bipush 13, 2) := by decide +kernel
theorem dL_build_156 : decode cL_build 156 = .ok (.ishr, 1) := by decide +kernel
theorem dL_build_157 : decode cL_build 157 = .ok (.bipush 15, 2) := by decide +kernel
theorem dL_build_159 : decode cL_build 159 = .ok (.iand, 1) := by decide +kernel
theorem dL_build_160 : decode cL_build 160 = .ok (.iadd, 1) := by decide +kernel
theorem dL_build_161 : decode cL_build 161 = .ok (.invokestatic 30, 3) := by decide +kernel
theorem dL_build_164 : decode cL_build 164 = .ok (.pop, 1) := by decide +kernel
theorem dL_build_165 : decode cL_build 165 = .ok (.iload 4, 2) := by decide +kernel
theorem dL_build_167 : decode cL_build 167 = .ok (.bipush 8, 2) := by decide +kernel
theorem dL_build_169 : decode cL_build 169 = .ok (.ishr, 1) := by decide +kernel
theorem dL_build_170 : decode cL_build 170 = .ok (.bipush 7, 2) := by decide +kernel
theorem dL_build_172 : decode cL_build 172 = .ok (.iand, 1) := by decide +kernel
theorem dL_build_173 : decode cL_build 173 = .ok (.iconst 1, 1) := by decide +kernel
theorem dL_build_174 : decode cL_build 174 = .ok (.if_icmp .ne 23, 3) := by decide +kernel
theorem dL_build_177 : decode cL_build 177 = .ok (.aload_n 1, 1) := by decide +kernel
theorem dL_build_178 : decode cL_build 178 = .ok (.iconst 2, 1) := by decide +kernel
theorem dL_build_179 : decode cL_build 179 = .ok (.iload 4, 2) := by decide +kernel
theorem dL_build_181 : decode cL_build 181 = .ok (.bipush 11, 2) := by decide +kernel
theorem dL_build_183 : decode cL_build 183 = .ok (.ishr, 1) := by decide +kernel
theorem dL_build_184 : decode cL_build 184 = .ok (.bipush 7, 2) := by decide +kernel
theorem dL_build_186 : decode cL_build 186 = .ok (.iand, 1) := by decide +kernel
theorem dL_build_187 : decode cL_build 187 = .ok (.aload_n 1, 1) := by decide +kernel
theorem dL_build_188 : decode cL_build 188 = .ok (.invokevirtual 34, 3) := by decide +kernel
theorem dL_build_191 : decode cL_build 191 = .ok (.irem, 1) := by decide +kernel
theorem dL_build_192 : decode cL_build 192 = .ok (.iconst 0, 1) := by decide +kernel
theorem dL_build_193 : decode cL_build 193 = .ok (.invokestatic 30, 3) := by decide +kernel
theorem dL_build_196 : decode cL_build 196 = .ok (.pop, 1) := by decide +kernel
theorem dL_build_197 : decode cL_build 197 = .ok (.iload 4, 2) := by decide +kernel
theorem dL_build_199 : decode cL_build 199 = .ok (.bipush 8, 2) := by decide +kernel
theorem dL_build_201 : decode cL_build 201 = .ok (.ishr, 1) := by decide +kernel
theorem dL_build_202 : decode cL_build 202 = .ok (.bipush 7, 2) := by decide +kernel
theorem dL_build_204 : decode cL_build 204 = .ok (.iand, 1) := by decide +kernel
theorem dL_build_205 : decode cL_build 205 = .ok (.iconst 5, 1) := by decide +kernel
theorem dL_build_206 : decode cL_build 206 = .ok (.if_icmp .ne 18, 3) := by decide +kernel
theorem dL_build_209 : decode cL_build 209 = .ok (.aload_n 1, 1) := by decide +kernel
theorem dL_build_210 : decode cL_build 210 = .ok (.iconst 3, 1) := by decide +kernel
theorem dL_build_211 : decode cL_build 211 = .ok (.iload 4, 2) := by decide +kernel
theorem dL_build_213 : decode cL_build 213 = .ok (.bipush 11, 2) := by decide +kernel
theorem dL_build_215 : decode cL_build 215 = .ok (.ishr, 1) := by decide +kernel
theorem dL_build_216 : decode cL_build 216 = .ok (.bipush 31, 2) := by decide +kernel
theorem dL_build_218 : decode cL_build 218 = .ok (.iand, 1) := by decide +kernel
theorem dL_build_219 : decode cL_build 219 = .ok (.iconst 0, 1) := by decide +kernel
theorem dL_build_220 : decode cL_build 220 = .ok (.invokestatic 30, 3) := by decide +kernel
theorem dL_build_223 : decode cL_build 223 = .ok (.pop, 1) := by decide +kernel
theorem dL_build_224 : decode cL_build 224 = .ok (.iload 4, 2) := by decide +kernel
theorem dL_build_226 : decode cL_build 226 = .ok (.bipush 16, 2) := by decide +kernel
theorem dL_build_228 : decode cL_build 228 = .ok (.ishr, 1) := by decide +kernel
theorem dL_build_229 : decode cL_build 229 = .ok (.iconst 3, 1) := by decide +kernel
theorem dL_build_230 : decode cL_build 230 = .ok (.iand, 1) := by decide +kernel
theorem dL_build_231 : decode cL_build 231 = .ok (.ifCond .ne 20, 3) := by decide +kernel
theorem dL_build_234 : decode cL_build 234 = .ok (.aload_n 1, 1) := by decide +kernel
theorem dL_build_235 : decode cL_build 235 = .ok (.iconst 4, 1) := by decide +kernel
theorem dL_build_236 : decode cL_build 236 = .ok (.iconst 1, 1) := by decide +kernel
theorem dL_build_237 : decode cL_build 237 = .ok (.iload 4, 2) := by decide +kernel
theorem dL_build_239 : decode cL_build 239 = .ok (.bipush 18, 2) := by decide +kernel
theorem dL_build_241 : decode cL_build 241 = .ok (.ishr, 1) := by decide +kernel
theorem dL_build_242 : decode cL_build 242 = .ok (.bipush 15, 2) := by decide +kernel
theorem dL_build_244 : decode cL_build 244 = .ok (.iand, 1) := by decide +kernel
theorem dL_build_245 : decode cL_build 245 = .ok (.iadd, 1) := by decide +kernel
theorem dL_build_246 : decode cL_build 246 = .ok (.iconst 0, 1) := by decide +kernel
theorem dL_build_247 : decode cL_build 247 = .ok (.invokestatic 30, 3) := by decide +kernel
theorem dL_build_250 : decode cL_build 250 = .ok (.pop, 1) := by decide +kernel
theorem dL_build_251 : decode cL_build 251 = .ok (.iload 4, 2) := by decide +kernel
theorem dL_build_253 : decode cL_build 253 = .ok (.bipush 16, 2) := by decide +kernel
theorem dL_build_255 : decode cL_build 255 = .ok (.ishr, 1) := by decide +kernel
theorem dL_build_256 : decode cL_build 256 = .ok (.bipush 7, 2) := by decide +kernel
theorem dL_build_258 : decode cL_build 258 = .ok (.iand, 1) := by decide +kernel
theorem dL_build_259 : decode cL_build 259 = .ok (.iconst 1, 1) := by decide +kernel
theorem dL_build_260 : decode cL_build 260 = .ok (.if_icmp .ne 20, 3) := by decide +kernel
theorem dL_build_263 : decode cL_build 263 = .ok (.aload_n 1, 1) := by decide +kernel
theorem dL_build_264 : decode cL_build 264 = .ok (.iconst 4, 1) := by decide +kernel
theorem dL_build_265 : decode cL_build 265 = .ok (.iconst 1, 1) := by decide +kernel
theorem dL_build_266 : decode cL_build 266 = .ok (.iload 4, 2) := by decide +kernel
theorem dL_build_268 : decode cL_build 268 = .ok (.bipush 18, 2) := by decide +kernel
theorem dL_build_270 : decode cL_build 270 = .ok (.ishr, 1) := by decide +kernel
theorem dL_build_271 : decode cL_build 271 = .ok (.bipush 127, 2) := by decide +kernel
theorem dL_build_273 : decode cL_build 273 = .ok (.iand, 1) := by decide +kernel
theorem dL_build_274 : decode cL_build 274 = .ok (.iadd, 1) := by decide +kernel
theorem dL_build_275 : decode cL_build 275 = .ok (.iconst 0, 1) := by decide +kernel
theorem dL_build_276 : decode cL_build 276 = .ok (.invokestatic 30, 3) := by decide +kernel
theorem dL_build_279 : decode cL_build 279 = .ok (.pop, 1) := by decide +kernel
theorem dL_build_280 : decode cL_build 280 = .ok (.iload 4, 2) := by decide +kernel
theorem dL_build_282 : decode cL_build 282 = .ok (.bipush 16, 2) := by decide +kernel
theorem dL_build_284 : decode cL_build 284 = .ok (.ishr, 1) := by decide +kernel
theorem dL_build_285 : decode cL_build 285 = .ok (.bipush 7, 2) := by decide +kernel
theorem dL_build_287 : decode cL_build 287 = .ok (.iand, 1) := by decide +kernel
theorem dL_build_288 : decode cL_build 288 = .ok (.iconst 5, 1) := by decide +kernel
theorem dL_build_289 : decode cL_build 289 = .ok (.if_icmp .ne 23, 3) := by decide +kernel
theorem dL_build_292 : decode cL_build 292 = .ok (.aload_n 1, 1) := by decide +kernel
theorem dL_build_293 : decode cL_build 293 = .ok (.iconst 5, 1) := by decide +kernel
theorem dL_build_294 : decode cL_build 294 = .ok (.iconst 1, 1) := by decide +kernel
theorem dL_build_295 : decode cL_build 295 = .ok (.iload 4, 2) := by decide +kernel
theorem dL_build_297 : decode cL_build 297 = .ok (.bipush 19, 2) := by decide +kernel
theorem dL_build_299 : decode cL_build 299 = .ok (.ishr, 1) := by decide +kernel
theorem dL_build_300 : decode cL_build 300 = .ok (.bipush 63, 2) := by decide +kernel
theorem dL_build_302 : decode cL_build 302 = .ok (.iand, 1) := by decide +kernel
theorem dL_build_303 : decode cL_build 303 = .ok (.bipush 60, 2) := by decide +kernel
theorem dL_build_305 : decode cL_build 305 = .ok (.irem, 1) := by decide +kernel
theorem dL_build_306 : decode cL_build 306 = .ok (.iadd, 1) := by decide +kernel
theorem dL_build_307 : decode cL_build 307 = .ok (.iconst 0, 1) := by decide +kernel
theorem dL_build_308 : decode cL_build 308 = .ok (.invokestatic 30, 3) := by decide +kernel
theorem dL_build_311 : decode cL_build 311 = .ok (.pop, 1) := by decide +kernel
theorem dL_build_312 : decode cL_build 312 = .ok (.iload 4, 2) := by decide +kernel
theorem dL_build_314 : decode cL_build 314 = .ok (.bipush 16, 2) := by decide +kernel
theorem dL_build_316 : decode cL_build 316 = .ok (.ishr, 1) := by decide +kernel
theorem dL_build_317 : decode cL_build 317 = .ok (.bipush 15, 2) := by decide +kernel
theorem dL_build_319 : decode cL_build 319 = .ok (.iand, 1) := by decide +kernel
theorem dL_build_320 : decode cL_build 320 = .ok (.iconst 2, 1) := by decide +kernel
theorem dL_build_321 : decode cL_build 321 = .ok (.if_icmp .ne 18, 3) := by decide +kernel
theorem dL_build_324 : decode cL_build 324 = .ok (.aload_n 1, 1) := by decide +kernel
theorem dL_build_325 : decode cL_build 325 = .ok (.bipush 6, 2) := by decide +kernel
theorem dL_build_327 : decode cL_build 327 = .ok (.iload 4, 2) := by decide +kernel
theorem dL_build_329 : decode cL_build 329 = .ok (.bipush 20, 2) := by decide +kernel
theorem dL_build_331 : decode cL_build 331 = .ok (.ishr, 1) := by decide +kernel
theorem dL_build_332 : decode cL_build 332 = .ok (.iconst 3, 1) := by decide +kernel
theorem dL_build_333 : decode cL_build 333 = .ok (.iand, 1) := by decide +kernel
theorem dL_build_334 : decode cL_build 334 = .ok (.iconst 0, 1) := by decide +kernel
theorem dL_build_335 : decode cL_build 335 = .ok (.invokestatic 30, 3) := by decide +kernel
theorem dL_build_338 : decode cL_build 338 = .ok (.pop, 1) := by decide +kernel
theorem dL_build_339 : decode cL_build 339 = .ok (.iload 4, 2) := by decide +kernel
theorem dL_build_341 : decode cL_build 341 = .ok (.bipush 16, 2) := by decide +kernel
theorem dL_build_343 : decode cL_build 343 = .ok (.ishr, 1) := by decide +kernel
theorem dL_build_344 : decode cL_build 344 = .ok (.bipush 15, 2) := by decide +kernel
theorem dL_build_346 : decode cL_build 346 = .ok (.iand, 1) := by decide +kernel
theorem dL_build_347 : decode cL_build 347 = .ok (.bipush 10, 2) := by decide +kernel
theorem dL_build_349 : decode cL_build 349 = .ok (.if_icmp .ne 23, 3) := by decide +kernel
theorem dL_build_352 : decode cL_build 352 = .ok (.aload_n 1, 1) := by decide +kernel
theorem dL_build_353 : decode cL_build 353 = .ok (.iconst 0, 1) := by decide +kernel
theorem dL_build_354 : decode cL_build 354 = .ok (.iconst 1, 1) := by decide +kernel
theorem dL_build_355 : decode cL_build 355 = .ok (.iload 4, 2) := by decide +kernel
theorem dL_build_357 : decode cL_build 357 = .ok (.bipush 20, 2) := by decide +kernel
theorem dL_build_359 : decode cL_build 359 = .ok (.ishr, 1) := by decide +kernel
theorem dL_build_360 : decode cL_build 360 = .ok (.bipush 127, 2) := by decide +kernel
theorem dL_build_362 : decode cL_build 362 = .ok (.iand, 1) := by decide +kernel
theorem dL_build_363 : decode cL_build 363 = .ok (.bipush 99, 2) := by decide +kernel
theorem dL_build_365 : decode cL_build 365 = .ok (.irem, 1) := by decide +kernel
theorem dL_build_366 : decode cL_build 366 = .ok (.iadd, 1) := by decide +kernel
theorem dL_build_367 : decode cL_build 367 = .ok (.iconst 0, 1) := by decide +kernel
theorem dL_build_368 : decode cL_build 368 = .ok (.invokestatic 30, 3) := by decide +kernel
theorem dL_build_371 : decode cL_build 371 = .ok (.pop, 1) := by decide +kernel
theorem dL_build_372 : decode cL_build 372 = .ok (.iinc 3 1, 3) := by decide +kernel
theorem dL_build_375 : decode cL_build 375 = .ok (.goto (-287), 3) := by decide +kernel
theorem dL_build_378 : decode cL_build 378 = .ok (.aload_n 1, 1) := by decide +kernel
theorem dL_build_379 : decode cL_build 379 = .ok (.areturn, 1) := by decide +kernel
