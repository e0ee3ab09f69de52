theorem dX11_planChange_140 : decode cX11_planChange 140 = .ok (.bipush 6, 2) := by decide +kernel
theorem dX11_planChange_142 : decode cX11_planChange 142 = .ok (.iload 12, 2) := by decide +kernel
theorem dX11_planChange_144 : decode cX11_planChange 144 = .ok (.iload 13, 2) := by decide +kernel
theorem dX11_planChange_146 : decode cX11_planChange 146 = .ok (.invokevirtual 191, 3) := by decide +kernel
theorem dX11_planChange_149 : decode cX11_planChange 149 = .ok (.aload_n 0, 1) := by decide +kernel
theorem dX11_planChange_150 : decode cX11_planChange 150 = .ok (.iload_n 2, 1) := by decide +kernel
theorem dX11_planChange_151 : decode cX11_planChange 151 = .ok (.iconst 0, 1) := by decide +kernel
theorem dX11_planChange_152 : decode cX11_planChange 152 = .ok (.invokevirtual 195, 3) := by decide +kernel
theorem dX11_planChange_155 : decode cX11_planChange 155 = .ok (.aload_n 0, 1) := by decide +kernel
theorem dX11_planChange_156 : decode cX11_planChange 156 = .ok (.iconst 3, 1) := by decide +kernel
theorem dX11_planChange_157 : decode cX11_planChange 157 = .ok (.iload 10, 2) := by decide +kernel
theorem dX11_planChange_159 : decode cX11_planChange 159 = .ok (.iload 10, 2) := by decide +kernel
theorem dX11_planChange_161 : decode cX11_planChange 161 = .ok (.iload_n 3, 1) := by decide +kernel
theorem dX11_planChange_162 : decode cX11_planChange 162 = .ok (.lload 4, 2) := by decide +kernel
theorem dX11_planChange_164 : decode cX11_planChange 164 = .ok (.invokestatic 198, 3) := by decide +kernel
theorem dX11_planChange_167 : decode cX11_planChange 167 = .ok (.lload 4, 2) := by decide +kernel
theorem dX11_planChange_169 : decode cX11_planChange 169 = .ok (.l2i, 1) := by decide +kernel
theorem dX11_planChange_170 : decode cX11_planChange 170 = .ok (.iload 11, 2) := by decide +kernel
theorem dX11_planChange_172 : decode cX11_planChange 172 = .ok (.iload 12, 2) := by decide +kernel
theorem dX11_planChange_174 : decode cX11_planChange 174 = .ok (.iload 13, 2) := by decide +kernel
theorem dX11_planChange_176 : decode cX11_planChange 176 = .ok (.invokestatic 202, 3) := by decide +kernel
theorem dX11_planChange_179 : decode cX11_planChange 179 = .ok (.invokevirtual 191, 3) := by decide +kernel
theorem dX11_planChange_182 : decode cX11_planChange 182 = .ok (.aload_n 0, 1) := by decide +kernel
theorem dX11_planChange_183 : decode cX11_planChange 183 = .ok (.iload_n 2, 1) := by decide +kernel
theorem dX11_planChange_184 : decode cX11_planChange 184 = .ok (.iconst 1, 1) := by decide +kernel
theorem dX11_planChange_185 : decode cX11_planChange 185 = .ok (.invokevirtual 195, 3) := by decide +kernel
theorem dX11_planChange_188 : decode cX11_planChange 188 = .ok (.aload_n 0, 1) := by decide +kernel
theorem dX11_planChange_189 : decode cX11_planChange 189 = .ok (.iload_n 3, 1) := by decide +kernel
theorem dX11_planChange_190 : decode cX11_planChange 190 = .ok (.lload 4, 2) := by decide +kernel
theorem dX11_planChange_192 : decode cX11_planChange 192 = .ok (.invokestatic 198, 3) := by decide +kernel
theorem dX11_planChange_195 : decode cX11_planChange 195 = .ok (.lload 4, 2) := by decide +kernel
theorem dX11_planChange_197 : decode cX11_planChange 197 = .ok (.l2i, 1) := by decide +kernel
theorem dX11_planChange_198 : decode cX11_planChange 198 = .ok (.invokevirtual 191, 3) := by decide +kernel
theorem dX11_planChange_201 : decode cX11_planChange 201 = .ok (.iload 9, 2) := by decide +kernel
theorem dX11_planChange_203 : decode cX11_planChange 203 = .ok (.ifCond .eq 13, 3) := by decide +kernel
theorem dX11_planChange_206 : decode cX11_planChange 206 = .ok (.aload_n 0, 1) := by decide +kernel
theorem dX11_planChange_207 : decode cX11_planChange 207 = .ok (.iload 6, 2) := by decide +kernel
theorem dX11_planChange_209 : decode cX11_planChange 209 = .ok (.iload 12, 2) := by decide +kernel
theorem dX11_planChange_211 : decode cX11_planChange 211 = .ok (.iload 13, 2) := by decide +kernel
theorem dX11_planChange_213 : decode cX11_planChange 213 = .ok (.invokevirtual 191, 3) := by decide +kernel
theorem dX11_planChange_216 : decode cX11_planChange 216 = .ok (.aload_n 0, 1) := by decide +kernel
theorem dX11_planChange_217 : decode cX11_planChange 217 = .ok (.iload_n 2, 1) := by decide +kernel
theorem dX11_planChange_218 : decode cX11_planChange 218 = .ok (.invokevirtual 206, 3) := by decide +kernel
theorem dX11_planChange_221 : decode cX11_planChange 221 = .ok (.goto 119, 3) := by decide +kernel
theorem dX11_planChange_224 : decode cX11_planChange 224 = .ok (.aload_n 0, 1) := by decide +kernel
theorem dX11_planChange_225 : decode cX11_planChange 225 = .ok (.iload_n 1, 1) := by decide +kernel
theorem dX11_planChange_226 : decode cX11_planChange 226 = .ok (.invokevirtual 178, 3) := by decide +kernel
theorem dX11_planChange_229 : decode cX11_planChange 229 = .ok (.iconst 1, 1) := by decide +kernel
theorem dX11_planChange_230 : decode cX11_planChange 230 = .ok (.iadd, 1) := by decide +kernel
theorem dX11_planChange_231 : decode cX11_planChange 231 = .ok (.istore 10, 2) := by decide +kernel
theorem dX11_planChange_233 : decode cX11_planChange 233 = .ok (.iconst 0, 1) := by decide +kernel
theorem dX11_planChange_234 : decode cX11_planChange 234 = .ok (.istore 11, 2) := by decide +kernel
theorem dX11_planChange_236 : decode cX11_planChange 236 = .ok (.iload 11, 2) := by decide +kernel
theorem dX11_planChange_238 : decode cX11_planChange 238 = .ok (.iconst 3, 1) := by decide +kernel
theorem dX11_planChange_239 : decode cX11_planChange 239 = .ok (.if_icmp .ge 61, 3) := by decide +kernel
theorem dX11_planChange_242 : decode cX11_planChange 242 = .ok (.iload 11, 2) := by decide +kernel
theorem dX11_planChange_244 : decode cX11_planChange 244 = .ok (.iload_n 3, 1) := by decide +kernel
theorem dX11_planChange_245 : decode cX11_planChange 245 = .ok (.if_icmp .ne 8, 3) := by decide +kernel
theorem dX11_planChange_248 : decode cX11_planChange 248 = .ok (.lload 4, 2) := by decide +kernel
theorem dX11_planChange_250 : decode cX11_planChange 250 = .ok (.goto 23, 3) := by decide +kernel
theorem dX11_planChange_253 : decode cX11_planChange 253 = .ok (.iload 11, 2) := by decide +kernel
theorem dX11_planChange_255 : decode cX11_planChange 255 = .ok (.iload 6, 2) := by decide +kernel
theorem dX11_planChange_257 : decode cX11_planChange 257 = .ok (.if_icmp .ne 8, 3) := by decide +kernel
theorem dX11_planChange_260 : decode cX11_planChange 260 = .ok (.lload 7, 2) := by decide +kernel
theorem dX11_planChange_262 : decode cX11_planChange 262 = .ok (.goto 11, 3) := by decide +kernel
theorem dX11_planChange_265 : decode cX11_planChange 265 = .ok (.aload_n 0, 1) := by decide +kernel
theorem dX11_planChange_266 : decode cX11_planChange 266 = .ok (.iload_n 1, 1) := by decide +kernel
theorem dX11_planChange_267 : decode cX11_planChange 267 = .ok (.iload_n 2, 1) := by decide +kernel
theorem dX11_planChange_268 : decode cX11_planChange 268 = .ok (.iload 11, 2) := by decide +kernel
theorem dX11_planChange_270 : decode cX11_planChange 270 = .ok (.invokevirtual 210, 3) := by decide +kernel
theorem dX11_planChange_273 : decode cX11_planChange 273 = .ok (.lstore 12, 2) := by decide +kernel
theorem dX11_planChange_275 : decode cX11_planChange 275 = .ok (.aload_n 0, 1) := by decide +kernel
theorem dX11_planChange_276 : decode cX11_planChange 276 = .ok (.iload 11, 2) := by decide +kernel
theorem dX11_planChange_278 : decode cX11_planChange 278 = .ok (.iload 10, 2) := by decide +kernel
theorem dX11_planChange_280 : decode cX11_planChange 280 = .ok (.invokestatic 181, 3) := by decide +kernel
theorem dX11_planChange_283 : decode cX11_planChange 283 = .ok (.lload 12, 2) := by decide +kernel
theorem dX11_planChange_285 : decode cX11_planChange 285 = .ok (.invokestatic 198, 3) := by decide +kernel
theorem dX11_planChange_288 : decode cX11_planChange 288 = .ok (.lload 12, 2) := by decide +kernel
theorem dX11_planChange_290 : decode cX11_planChange 290 = .ok (.l2i, 1) := by decide +kernel
theorem dX11_planChange_291 : decode cX11_planChange 291 = .ok (.invokevirtual 191, 3) := by decide +kernel
theorem dX11_planChange_294 : decode cX11_planChange 294 = .ok (.iinc 11 1, 3) := by decide +kernel
theorem dX11_planChange_297 : decode cX11_planChange 297 = .ok (.goto (-61), 3) := by decide +kernel
theorem dX11_planChange_300 : decode cX11_planChange 300 = .ok (.aload_n 0, 1) := by decide +kernel
theorem dX11_planChange_301 : decode cX11_planChange 301 = .ok (.iload_n 2, 1) := by decide +kernel
theorem dX11_planChange_302 : decode cX11_planChange 302 = .ok (.iconst 0, 1) := by decide +kernel
theorem dX11_planChange_303 : decode cX11_planChange 303 = .ok (.invokevirtual 195, 3) := by decide +kernel
theorem dX11_planChange_306 : decode cX11_planChange 306 = .ok (.aload_n 0, 1) := by decide +kernel
theorem dX11_planChange_307 : decode cX11_planChange 307 = .ok (.iload 10, 2) := by decide +kernel
theorem dX11_planChange_309 : decode cX11_planChange 309 = .ok (.iconst 1, 1) := by decide +kernel
theorem dX11_planChange_310 : decode cX11_planChange 310 = .ok (.iand, 1) := by decide +kernel
theorem dX11_planChange_311 : decode cX11_planChange 311 = .ok (.iconst 1, 1) := by decide +kernel
theorem dX11_planChange_312 : decode cX11_planChange 312 = .ok (.if_icmp .ne 7, 3) := by decide +kernel
theorem dX11_planChange_315 : decode cX11_planChange 315 = .ok (.iconst 3, 1) := by decide +kernel
theorem dX11_planChange_316 : decode cX11_planChange 316 = .ok (.goto 5, 3) := by decide +kernel
theorem dX11_planChange_319 : decode cX11_planChange 319 = .ok (.bipush 7, 2) := by decide +kernel
theorem dX11_planChange_321 : decode cX11_planChange 321 = .ok (.iload 10, 2) := by decide +kernel
theorem dX11_planChange_323 : decode cX11_planChange 323 = .ok (.bipush 31, 2) := by decide +kernel
theorem dX11_planChange_325 : decode cX11_planChange 325 = .ok (.iload 10, 2) := by decide +kernel
theorem dX11_planChange_327 : decode cX11_planChange 327 = .ok (.imul, 1) := by decide +kernel
theorem dX11_planChange_328 : decode cX11_planChange 328 = .ok (.bipush 7, 2) := by decide +kernel
theorem dX11_planChange_330 : decode cX11_planChange 330 = .ok (.iadd, 1) := by decide +kernel
theorem dX11_planChange_331 : decode cX11_planChange 331 = .ok (.invokevirtual 191, 3) := by decide +kernel
theorem dX11_planChange_334 : decode cX11_planChange 334 = .ok (.aload_n 0, 1) := by decide +kernel
theorem dX11_planChange_335 : decode cX11_planChange 335 = .ok (.iload_n 2, 1) := by decide +kernel
theorem dX11_planChange_336 : decode cX11_planChange 336 = .ok (.iconst 1, 1) := by decide +kernel
theorem dX11_planChange_337 : decode cX11_planChange 337 = .ok (.invokevirtual 195, 3) := by decide +kernel
theorem dX11_planChange_340 : decode cX11_planChange 340 = .ok (.return_, 1) := by decide +kernel
theorem dX11_planRise_0 : decode cX11_planRise 0 = .ok (.aload_n 0, 1) := by decide +kernel
theorem dX11_planRise_1 : decode cX11_planRise 1 = .ok (.iconst 0, 1) := by decide +kernel
theorem dX11_planRise_2 : decode cX11_planRise 2 = .ok (.putfield 188, 3) := by decide +kernel
theorem dX11_planRise_5 : decode cX11_planRise 5 = .ok (.iload_n 2, 1) := by decide +kernel
theorem dX11_planRise_6 : decode cX11_planRise 6 = .ok (.iconst 1, 1) := by decide +kernel
theorem dX11_planRise_7 : decode cX11_planRise 7 = .ok (.if_icmp .eq 4, 3) := by decide +kernel
theorem dX11_planRise_10 : decode cX11_planRise 10 = .ok (.return_, 1) := by decide +kernel
theorem dX11_planRise_11 : decode cX11_planRise 11 = .ok (.aload_n 0, 1) := by decide +kernel
theorem dX11_planRise_12 : decode cX11_planRise 12 = .ok (.iload_n 1, 1) := by decide +kernel
theorem dX11_planRise_13 : decode cX11_planRise 13 = .ok (.iconst 3, 1) := by decide +kernel
theorem dX11_planRise_14 : decode cX11_planRise 14 = .ok (.iconst 0, 1) := by decide +kernel
theorem dX11_planRise_15 : decode cX11_planRise 15 = .ok (.invokevirtual 129, 3) := by decide +kernel
theorem dX11_planRise_18 : decode cX11_planRise 18 = .ok (.istore_n 3, 1) := by decide +kernel
theorem dX11_planRise_19 : decode cX11_planRise 19 = .ok (.aload_n 0, 1) := by decide +kernel
theorem dX11_planRise_20 : decode cX11_planRise 20 = .ok (.iload_n 1, 1) := by decide +kernel
theorem dX11_planRise_21 : decode cX11_planRise 21 = .ok (.iconst 4, 1) := by decide +kernel
theorem dX11_planRise_22 : decode cX11_planRise 22 = .ok (.iconst 0, 1) := by decide +kernel
theorem dX11_planRise_23 : decode cX11_planRise 23 = .ok (.invokevirtual 129, 3) := by decide +kernel
theorem dX11_planRise_26 : decode cX11_planRise 26 = .ok (.istore 4, 2) := by decide +kernel
theorem dX11_planRise_28 : decode cX11_planRise 28 = .ok (.aload_n 0, 1) := by decide +kernel
theorem dX11_planRise_29 : decode cX11_planRise 29 = .ok (.iload_n 1, 1) := by decide +kernel
theorem dX11_planRise_30 : decode cX11_planRise 30 = .ok (.iconst 5, 1) := by decide +kernel
theorem dX11_planRise_31 : decode cX11_planRise 31 = .ok (.iconst 1, 1) := by decide +kernel
theorem dX11_planRise_32 : decode cX11_planRise 32 = .ok (.invokevirtual 129, 3) := by decide +kernel
theorem dX11_planRise_35 : decode cX11_planRise 35 = .ok (.istore 5, 2) := by decide +kernel
theorem dX11_planRise_37 : decode cX11_planRise 37 = .ok (.iload_n 3, 1) := by decide +kernel
theorem dX11_planRise_38 : decode cX11_planRise 38 = .ok (.iload 4, 2) := by decide +kernel
theorem dX11_planRise_40 : decode cX11_planRise 40 = .ok (.aload_n 0, 1) := by decide +kernel
theorem dX11_planRise_41 : decode cX11_planRise 41 = .ok (.iload_n 1, 1) := by decide +kernel
theorem dX11_planRise_42 : decode cX11_planRise 42 = .ok (.iconst 4, 1) := by decide +kernel
theorem dX11_planRise_43 : decode cX11_planRise 43 = .ok (.iconst 1, 1) := by decide +kernel
theorem dX11_planRise_44 : decode cX11_planRise 44 = .ok (.invokevirtual 129, 3) := by decide +kernel
theorem dX11_planRise_47 : decode cX11_planRise 47 = .ok (.aload_n 0, 1) := by decide +kernel
theorem dX11_planRise_48 : decode cX11_planRise 48 = .ok (.iload_n 1, 1) := by decide +kernel
theorem dX11_planRise_49 : decode cX11_planRise 49 = .ok (.iconst 5, 1) := by decide +kernel
theorem dX11_planRise_50 : decode cX11_planRise 50 = .ok (.iconst 0, 1) := by decide +kernel
theorem dX11_planRise_51 : decode cX11_planRise 51 = .ok (.invokevirtual 129, 3) := by decide +kernel
theorem dX11_planRise_54 : decode cX11_planRise 54 = .ok (.iload 5, 2) := by decide +kernel
theorem dX11_planRise_56 : decode cX11_planRise 56 = .ok (.aload_n 0, 1) := by decide +kernel
theorem dX11_planRise_57 : decode cX11_planRise 57 = .ok (.iload_n 1, 1) := by decide +kernel
theorem dX11_planRise_58 : decode cX11_planRise 58 = .ok (.bipush 6, 2) := by decide +kernel
theorem dX11_planRise_60 : decode cX11_planRise 60 = .ok (.iconst 0, 1) := by decide +kernel
theorem dX11_planRise_61 : decode cX11_planRise 61 = .ok (.invokevirtual 129, 3) := by decide +kernel
theorem dX11_planRise_64 : decode cX11_planRise 64 = .ok (.aload_n 0, 1) := by decide +kernel
theorem dX11_planRise_65 : decode cX11_planRise 65 = .ok (.iload_n 1, 1) := by decide +kernel
theorem dX11_planRise_66 : decode cX11_planRise 66 = .ok (.bipush 6, 2) := by decide +kernel
theorem dX11_planRise_68 : decode cX11_planRise 68 = .ok (.iconst 1, 1) := by decide +kernel
theorem dX11_planRise_69 : decode cX11_planRise 69 = .ok (.invokevirtual 129, 3) := by decide +kernel
theorem dX11_planRise_72 : decode cX11_planRise 72 = .ok (.invokestatic 202, 3) := by decide +kernel
theorem dX11_planRise_75 : decode cX11_planRise 75 = .ok (.istore 6, 2) := by decide +kernel
theorem dX11_planRise_77 : decode cX11_planRise 77 = .ok (.iload_n 3, 1) := by decide +kernel
theorem dX11_planRise_78 : decode cX11_planRise 78 = .ok (.iconst 1, 1) := by decide +kernel
theorem dX11_planRise_79 : decode cX11_planRise 79 = .ok (.iconst 2, 1) := by decide +kernel
theorem dX11_planRise_80 : decode cX11_planRise 80 = .ok (.invokestatic 110, 3) := by decide +kernel
theorem dX11_planRise_83 : decode cX11_planRise 83 = .ok (.ifCond .eq 95, 3) := by decide +kernel
theorem dX11_planRise_86 : decode cX11_planRise 86 = .ok (.aload_n 0, 1) := by decide +kernel
theorem dX11_planRise_87 : decode cX11_planRise 87 = .ok (.iload_n 1, 1) := by decide +kernel
theorem dX11_planRise_88 : decode cX11_planRise 88 = .ok (.iconst 3, 1) := by decide +kernel
theorem dX11_planRise_89 : decode cX11_planRise 89 = .ok (.iconst 1, 1) := by decide +kernel
theorem dX11_planRise_90 : decode cX11_planRise 90 = .ok (.invokevirtual 129, 3) := by decide +kernel
theorem dX11_planRise_93 : decode cX11_planRise 93 = .ok (.iload 6, 2) := by decide +kernel
theorem dX11_planRise_95 : decode cX11_planRise 95 = .ok (.if_icmp .ne 83, 3) := by decide +kernel
theorem dX11_planRise_98 : decode cX11_planRise 98 = .ok (.iload 4, 2) := by decide +kernel
theorem dX11_planRise_100 : decode cX11_planRise 100 = .ok (.iconst 0, 1) := by decide +kernel
theorem dX11_planRise_101 : decode cX11_planRise 101 = .ok (.iconst 2, 1) := by decide +kernel
theorem dX11_planRise_102 : decode cX11_planRise 102 = .ok (.invokestatic 110, 3) := by decide +kernel
theorem dX11_planRise_105 : decode cX11_planRise 105 = .ok (.ifCond .eq 73, 3) := by decide +kernel
theorem dX11_planRise_108 : decode cX11_planRise 108 = .ok (.iload_n 3, 1) := by decide +kernel
theorem dX11_planRise_109 : decode cX11_planRise 109 = .ok (.iconst 1, 1) := by decide +kernel
theorem dX11_planRise_110 : decode cX11_planRise 110 = .ok (.if_icmp .eq 13, 3) := by decide +kernel
theorem dX11_planRise_113 : decode cX11_planRise 113 = .ok (.iload 5, 2) := by decide +kernel
theorem dX11_planRise_115 : decode cX11_planRise 115 = .ok (.iconst 0, 1) := by decide +kernel
theorem dX11_planRise_116 : decode cX11_planRise 116 = .ok (.iconst 2, 1) := by decide +kernel
theorem dX11_planRise_117 : decode cX11_planRise 117 = .ok (.invokestatic 110, 3) := by decide +kernel
theorem dX11_planRise_120 : decode cX11_planRise 120 = .ok (.ifCond .eq 58, 3) := by decide +kernel
theorem dX11_planRise_123 : decode cX11_planRise 123 = .ok (.aload_n 0, 1) := by decide +kernel
theorem dX11_planRise_124 : decode cX11_planRise 124 = .ok (.iload 4, 2) := by decide +kernel
theorem dX11_planRise_126 : decode cX11_planRise 126 = .ok (.aload_n 0, 1) := by decide +kernel
theorem dX11_planRise_127 : decode cX11_planRise 127 = .ok (.iload_n 1, 1) := by decide +kernel
theorem dX11_planRise_128 : decode cX11_planRise 128 = .ok (.iconst 4, 1) := by decide +kernel
theorem dX11_planRise_129 : decode cX11_planRise 129 = .ok (.iconst 1, 1) := by decide +kernel
theorem dX11_planRise_130 : decode cX11_planRise 130 = .ok (.invokevirtual 129, 3) := by decide +kernel
theorem dX11_planRise_133 : decode cX11_planRise 133 = .ok (.aload_n 0, 1) := by decide +kernel
theorem dX11_planRise_134 : decode cX11_planRise 134 = .ok (.iload_n 1, 1) := by decide +kernel
theorem dX11_planRise_135 : decode cX11_planRise 135 = .ok (.iconst 5, 1) := by decide +kernel
theorem dX11_planRise_136 : decode cX11_planRise 136 = .ok (.iconst 0, 1) := by decide +kernel
theorem dX11_planRise_137 : decode cX11_planRise 137 = .ok (.invokevirtual 129, 3) := by decide +kernel
theorem dX11_planRise_140 : decode cX11_planRise 140 = .ok (.invokevirtual 191, 3) := by decide +kernel
theorem dX11_planRise_143 : decode cX11_planRise 143 = .ok (.iload_n 3, 1) := by decide +kernel
theorem dX11_planRise_144 : decode cX11_planRise 144 = .ok (.iconst 2, 1) := by decide +kernel
theorem dX11_planRise_145 : decode cX11_planRise 145 = .ok (.if_icmp .ne 25, 3) := by decide +kernel
theorem dX11_planRise_148 : decode cX11_planRise 148 = .ok (.aload_n 0, 1) := by decide +kernel
theorem dX11_planRise_149 : decode cX11_planRise 149 = .ok (.iload 5, 2) := by decide +kernel
theorem dX11_planRise_151 : decode cX11_planRise 151 = .ok (.aload_n 0, 1) := by decide +kernel
theorem dX11_planRise_152 : decode cX11_planRise 152 = .ok (.iload_n 1, 1) := by decide +kernel
theorem dX11_planRise_153 : decode cX11_planRise 153 = .ok (.bipush 6, 2) := by decide +kernel
theorem dX11_planRise_155 : decode cX11_planRise 155 = .ok (.iconst 0, 1) := by decide +kernel
theorem dX11_planRise_156 : decode cX11_planRise 156 = .ok (.invokevirtual 129, 3) := by decide +kernel
theorem dX11_planRise_159 : decode cX11_planRise 159 = .ok (.aload_n 0, 1) := by decide +kernel
theorem dX11_planRise_160 : decode cX11_planRise 160 = .ok (.iload_n 1, 1) := by decide +kernel
theorem dX11_planRise_161 : decode cX11_planRise 161 = .ok (.bipush 6, 2) := by decide +kernel
theorem dX11_planRise_163 : decode cX11_planRise 163 = .ok (.iconst 1, 1) := by decide +kernel
theorem dX11_planRise_164 : decode cX11_planRise 164 = .ok (.invokevirtual 129, 3) := by decide +kernel
theorem dX11_planRise_167 : decode cX11_planRise 167 = .ok (.invokevirtual 191, 3) := by decide +kernel
theorem dX11_planRise_170 : decode cX11_planRise 170 = .ok (.aload_n 0, 1) := by decide +kernel
theorem dX11_planRise_171 : decode cX11_planRise 171 = .ok (.iload_n 2, 1) := by decide +kernel
theorem dX11_planRise_172 : decode cX11_planRise 172 = .ok (.invokevirtual 206, 3) := by decide +kernel
theorem dX11_planRise_175 : decode cX11_planRise 175 = .ok (.goto 30, 3) := by decide +kernel
theorem dX11_planRise_178 : decode cX11_planRise 178 = .ok (.iload_n 3, 1) := by decide +kernel
theorem dX11_planRise_179 : decode cX11_planRise 179 = .ok (.ifCond .ne 13, 3) := by decide +kernel
theorem dX11_planRise_182 : decode cX11_planRise 182 = .ok (.aload_n 0, 1) := by decide +kernel
theorem dX11_planRise_183 : decode cX11_planRise 183 = .ok (.iload_n 1, 1) := by decide +kernel
theorem dX11_planRise_184 : decode cX11_planRise 184 = .ok (.iconst 3, 1) := by decide +kernel
theorem dX11_planRise_185 : decode cX11_planRise 185 = .ok (.iconst 1, 1) := by decide +kernel
theorem dX11_planRise_186 : decode cX11_planRise 186 = .ok (.invokevirtual 129, 3) := by decide +kernel
theorem dX11_planRise_189 : decode cX11_planRise 189 = .ok (.ifCond .eq 16, 3) := by decide +kernel
theorem dX11_planRise_192 : decode cX11_planRise 192 = .ok (.aload_n 0, 1) := by decide +kernel
theorem dX11_planRise_193 : decode cX11_planRise 193 = .ok (.iconst 3, 1) := by decide +kernel
theorem dX11_planRise_194 : decode cX11_planRise 194 = .ok (.iconst 0, 1) := by decide +kernel
theorem dX11_planRise_195 : decode cX11_planRise 195 = .ok (.iconst 0, 1) := by decide +kernel
theorem dX11_planRise_196 : decode cX11_planRise 196 = .ok (.invokevirtual 191, 3) := by decide +kernel
theorem dX11_planRise_199 : decode cX11_planRise 199 = .ok (.aload_n 0, 1) := by decide +kernel
theorem dX11_planRise_200 : decode cX11_planRise 200 = .ok (.iload_n 2, 1) := by decide +kernel
theorem dX11_planRise_201 : decode cX11_planRise 201 = .ok (.iconst 3, 1) := by decide +kernel
theorem dX11_planRise_202 : decode cX11_planRise 202 = .ok (.invokevirtual 195, 3) := by decide +kernel
theorem dX11_planRise_205 : decode cX11_planRise 205 = .ok (.return_, 1) := by decide +kernel
theorem dX11_takePlan_0 : decode cX11_takePlan 0 = .ok (.aload_n 0, 1) := by decide +kernel
theorem dX11_takePlan_1 : decode cX11_takePlan 1 = .ok (.getfield 22, 3) := by decide +kernel
theorem dX11_takePlan_4 : decode cX11_takePlan 4 = .ok (.iconst 0, 1) := by decide +kernel
theorem dX11_takePlan_5 : decode cX11_takePlan 5 = .ok (.iaload, 1) := by decide +kernel
theorem dX11_takePlan_6 : decode cX11_takePlan 6 = .ok (.aload_n 0, 1) := by decide +kernel
theorem dX11_takePlan_7 : decode cX11_takePlan 7 = .ok (.getfield 188, 3) := by decide +kernel
theorem dX11_takePlan_10 : decode cX11_takePlan 10 = .ok (.iadd, 1) := by decide +kernel
theorem dX11_takePlan_11 : decode cX11_takePlan 11 = .ok (.bipush 60, 2) := by decide +kernel
theorem dX11_takePlan_13 : decode cX11_takePlan 13 = .ok (.if_icmp .le 10, 3) := by decide +kernel
theorem dX11_takePlan_16 : decode cX11_takePlan 16 = .ok (.aload_n 0, 1) := by decide +kernel
theorem dX11_takePlan_17 : decode cX11_takePlan 17 = .ok (.bipush (-6), 2) := by decide +kernel
theorem dX11_takePlan_19 : decode cX11_takePlan 19 = .ok (.invokevirtual 114, 3) := by decide +kernel
theorem dX11_takePlan_22 : decode cX11_takePlan 22 = .ok (.ireturn, 1) := by decide +kernel
theorem dX11_takePlan_23 : decode cX11_takePlan 23 = .ok (.iconst 0, 1) := by decide +kernel
theorem dX11_takePlan_24 : decode cX11_takePlan 24 = .ok (.istore_n 1, 1) := by decide +kernel
theorem dX11_takePlan_25 : decode cX11_takePlan 25 = .ok (.iload_n 1, 1) := by decide +kernel
theorem dX11_takePlan_26 : decode cX11_takePlan 26 = .ok (.aload_n 0, 1) := by decide +kernel
theorem dX11_takePlan_27 : decode cX11_takePlan 27 = .ok (.getfield 188, 3) := by decide +kernel
theorem dX11_takePlan_30 : decode cX11_takePlan 30 = .ok (.if_icmp .ge 33, 3) := by decide +kernel
theorem dX11_takePlan_33 : decode cX11_takePlan 33 = .ok (.aload_n 0, 1) := by decide +kernel
theorem dX11_takePlan_34 : decode cX11_takePlan 34 = .ok (.iconst 0, 1) := by decide +kernel
theorem dX11_takePlan_35 : decode cX11_takePlan 35 = .ok (.aload_n 0, 1) := by decide +kernel
theorem dX11_takePlan_36 : decode cX11_takePlan 36 = .ok (.getfield 55, 3) := by decide +kernel
theorem dX11_takePlan_39 : decode cX11_takePlan 39 = .ok (.iload_n 1, 1) := by decide +kernel
theorem dX11_takePlan_40 : decode cX11_takePlan 40 = .ok (.iaload, 1) := by decide +kernel
theorem dX11_takePlan_41 : decode cX11_takePlan 41 = .ok (.aload_n 0, 1) := by decide +kernel
theorem dX11_takePlan_42 : decode cX11_takePlan 42 = .ok (.getfield 58, 3) := by decide +kernel
theorem dX11_takePlan_45 : decode cX11_takePlan 45 = .ok (.iload_n 1, 1) := by decide +kernel
theorem dX11_takePlan_46 : decode cX11_takePlan 46 = .ok (.iaload, 1) := by decide +kernel
theorem dX11_takePlan_47 : decode cX11_takePlan 47 = .ok (.aload_n 0, 1) := by decide +kernel
theorem dX11_takePlan_48 : decode cX11_takePlan 48 = .ok (.getfield 61, 3) := by decide +kernel
theorem dX11_takePlan_51 : decode cX11_takePlan 51 = .ok (.iload_n 1, 1) := by decide +kernel
theorem dX11_takePlan_52 : decode cX11_takePlan 52 = .ok (.iaload, 1) := by decide +kernel
theorem dX11_takePlan_53 : decode cX11_takePlan 53 = .ok (.invokevirtual 118, 3) := by decide +kernel
theorem dX11_takePlan_56 : decode cX11_takePlan 56 = .ok (.istore_n 2, 1) := by decide +kernel
theorem dX11_takePlan_57 : decode cX11_takePlan 57 = .ok (.iinc 1 1, 3) := by decide +kernel
theorem dX11_takePlan_60 : decode cX11_takePlan 60 = .ok (.goto (-35), 3) := by decide +kernel
theorem dX11_takePlan_63 : decode cX11_takePlan 63 = .ok (.aload_n 0, 1) := by decide +kernel
theorem dX11_takePlan_64 : decode cX11_takePlan 64 = .ok (.getfield 188, 3) := by decide +kernel
theorem dX11_takePlan_67 : decode cX11_takePlan 67 = .ok (.ireturn, 1) := by decide +kernel
theorem dX11_put_0 : decode cX11_put 0 = .ok (.aload_n 0, 1) := by decide +kernel
theorem dX11_put_1 : decode cX11_put 1 = .ok (.iconst 0, 1) := by decide +kernel
theorem dX11_put_2 : decode cX11_put 2 = .ok (.putfield 104, 3) := by decide +kernel
theorem dX11_put_5 : decode cX11_put 5 = .ok (.aload_n 0, 1) := by decide +kernel
theorem dX11_put_6 : decode cX11_put 6 = .ok (.getfield 25, 3) := by decide +kernel
theorem dX11_put_9 : decode cX11_put 9 = .ok (.ifCond .ge 10, 3) := by decide +kernel
theorem dX11_put_12 : decode cX11_put 12 = .ok (.aload_n 0, 1) := by decide +kernel
theorem dX11_put_13 : decode cX11_put 13 = .ok (.bipush (-5), 2) := by decide +kernel
theorem dX11_put_15 : decode cX11_put 15 = .ok (.invokevirtual 114, 3) := by decide +kernel
theorem dX11_put_18 : decode cX11_put 18 = .ok (.ireturn, 1) := by decide +kernel
theorem dX11_put_19 : decode cX11_put 19 = .ok (.iload_n 1, 1) := by decide +kernel
theorem dX11_put_20 : decode cX11_put 20 = .ok (.iconst 0, 1) := by decide +kernel
theorem dX11_put_21 : decode cX11_put 21 = .ok (.iconst 2, 1) := by decide +kernel
theorem dX11_put_22 : decode cX11_put 22 = .ok (.invokestatic 110, 3) := by decide +kernel
theorem dX11_put_25 : decode cX11_put 25 = .ok (.ifCond .ne 9, 3) := by decide +kernel
theorem dX11_put_28 : decode cX11_put 28 = .ok (.aload_n 0, 1) := by decide +kernel
theorem dX11_put_29 : decode cX11_put 29 = .ok (.iconst (-1), 1) := by decide +kernel
theorem dX11_put_30 : decode cX11_put 30 = .ok (.invokevirtual 114, 3) := by decide +kernel
theorem dX11_put_33 : decode cX11_put 33 = .ok (.ireturn, 1) := by decide +kernel
theorem dX11_put_34 : decode cX11_put 34 = .ok (.aload_n 0, 1) := by decide +kernel
theorem dX11_put_35 : decode cX11_put 35 = .ok (.iconst 0, 1) := by decide +kernel
theorem dX11_put_36 : decode cX11_put 36 = .ok (.aload_n 0, 1) := by decide +kernel
theorem dX11_put_37 : decode cX11_put 37 = .ok (.getfield 25, 3) := by decide +kernel
theorem dX11_put_40 : decode cX11_put 40 = .ok (.iload_n 1, 1) := by decide +kernel
theorem dX11_put_41 : decode cX11_put 41 = .ok (.lload_n 2, 1) := by decide +kernel
theorem dX11_put_42 : decode cX11_put 42 = .ok (.bipush (-9), 2) := by decide +kernel
theorem dX11_put_44 : decode cX11_put 44 = .ok (.lconst 0, 1) := by decide +kernel
theorem dX11_put_45 : decode cX11_put 45 = .ok (.invokevirtual 214, 3) := by decide +kernel
theorem dX11_put_48 : decode cX11_put 48 = .ok (.aload_n 0, 1) := by decide +kernel
theorem dX11_put_49 : decode cX11_put 49 = .ok (.invokevirtual 218, 3) := by decide +kernel
theorem dX11_put_52 : decode cX11_put 52 = .ok (.ireturn, 1) := by decide +kernel
theorem dX11_move_0 : decode cX11_move 0 = .ok (.aload_n 0, 1) := by decide +kernel
theorem dX11_move_1 : decode cX11_move 1 = .ok (.iconst 0, 1) := by decide +kernel
theorem dX11_move_2 : decode cX11_move 2 = .ok (.putfield 104, 3) := by decide +kernel
theorem dX11_move_5 : decode cX11_move 5 = .ok (.aload_n 0, 1) := by decide +kernel
theorem dX11_move_6 : decode cX11_move 6 = .ok (.getfield 25, 3) := by decide +kernel
theorem dX11_move_9 : decode cX11_move 9 = .ok (.ifCond .ge 10, 3) := by decide +kernel
theorem dX11_move_12 : decode cX11_move 12 = .ok (.aload_n 0, 1) := by decide +kernel
theorem dX11_move_13 : decode cX11_move 13 = .ok (.bipush (-5), 2) := by decide +kernel
theorem dX11_move_15 : decode cX11_move 15 = .ok (.invokevirtual 114, 3) := by decide +kernel
theorem dX11_move_18 : decode cX11_move 18 = .ok (.ireturn, 1) := by decide +kernel
theorem dX11_move_19 : decode cX11_move 19 = .ok (.iload_n 1, 1) := by decide +kernel
theorem dX11_move_20 : decode cX11_move 20 = .ok (.iconst 0, 1) := by decide +kernel
theorem dX11_move_21 : decode cX11_move 21 = .ok (.iconst 2, 1) := by decide +kernel
theorem dX11_move_22 : decode cX11_move 22 = .ok (.invokestatic 110, 3) := by decide +kernel
theorem dX11_move_25 : decode cX11_move 25 = .ok (.ifCond .eq 17, 3) := by decide +kernel
theorem dX11_move_28 : decode cX11_move 28 = .ok (.iload_n 2, 1) := by decide +kernel
theorem dX11_move_29 : decode cX11_move 29 = .ok (.iconst 0, 1) := by decide +kernel
theorem dX11_move_30 : decode cX11_move 30 = .ok (.iconst 2, 1) := by decide +kernel
theorem dX11_move_31 : decode cX11_move 31 = .ok (.invokestatic 110, 3) := by decide +kernel
theorem dX11_move_34 : decode cX11_move 34 = .ok (.ifCond .eq 8, 3) := by decide +kernel
theorem dX11_move_37 : decode cX11_move 37 = .ok (.iload_n 1, 1) := by decide +kernel
theorem dX11_move_38 : decode cX11_move 38 = .ok (.iload_n 2, 1) := by decide +kernel
theorem dX11_move_39 : decode cX11_move 39 = .ok (.if_icmp .ne 9, 3) := by decide +kernel
theorem dX11_move_42 : decode cX11_move 42 = .ok (.aload_n 0, 1) := by decide +kernel
theorem dX11_move_43 : decode cX11_move 43 = .ok (.iconst (-1), 1) := by decide +kernel
theorem dX11_move_44 : decode cX11_move 44 = .ok (.invokevirtual 114, 3) := by decide +kernel
theorem dX11_move_47 : decode cX11_move 47 = .ok (.ireturn, 1) := by decide +kernel
theorem dX11_move_48 : decode cX11_move 48 = .ok (.aload_n 0, 1) := by decide +kernel
theorem dX11_move_49 : decode cX11_move 49 = .ok (.iconst 0, 1) := by decide +kernel
theorem dX11_move_50 : decode cX11_move 50 = .ok (.aload_n 0, 1) := by decide +kernel
theorem dX11_move_51 : decode cX11_move 51 = .ok (.getfield 25, 3) := by decide +kernel
theorem dX11_move_54 : decode cX11_move 54 = .ok (.iload_n 2, 1) := by decide +kernel
theorem dX11_move_55 : decode cX11_move 55 = .ok (.aload_n 0, 1) := by decide +kernel
theorem dX11_move_56 : decode cX11_move 56 = .ok (.iconst 0, 1) := by decide +kernel
theorem dX11_move_57 : decode cX11_move 57 = .ok (.aload_n 0, 1) := by decide +kernel
theorem dX11_move_58 : decode cX11_move 58 = .ok (.getfield 25, 3) := by decide +kernel
theorem dX11_move_61 : decode cX11_move 61 = .ok (.iload_n 1, 1) := by decide +kernel
theorem dX11_move_62 : decode cX11_move 62 = .ok (.invokevirtual 210, 3) := by decide +kernel
theorem dX11_move_65 : decode cX11_move 65 = .ok (.iload_n 1, 1) := by decide +kernel
theorem dX11_move_66 : decode cX11_move 66 = .ok (.lconst 0, 1) := by decide +kernel
theorem dX11_move_67 : decode cX11_move 67 = .ok (.invokevirtual 214, 3) := by decide +kernel
theorem dX11_move_70 : decode cX11_move 70 = .ok (.aload_n 0, 1) := by decide +kernel
theorem dX11_move_71 : decode cX11_move 71 = .ok (.invokevirtual 218, 3) := by decide +kernel
theorem dX11_move_74 : decode cX11_move 74 = .ok (.ireturn, 1) := by decide +kernel
theorem dX11_get_0 : decode cX11_get 0 = .ok (.aload_n 0, 1) := by decide +kernel
theorem dX11_get_1 : decode cX11_get 1 = .ok (.aload_n 0, 1) := by decide +kernel
theorem dX11_get_2 : decode cX11_get 2 = .ok (.getfield 25, 3) := by decide +kernel
theorem dX11_get_5 : decode cX11_get 5 = .ok (.ifCond .ge 7, 3) := by decide +kernel
theorem dX11_get_8 : decode cX11_get 8 = .ok (.iconst 1, 1) := by decide +kernel
theorem dX11_get_9 : decode cX11_get 9 = .ok (.goto 17, 3) := by decide +kernel
theorem dX11_get_12 : decode cX11_get 12 = .ok (.iload_n 1, 1) := by decide +kernel
theorem dX11_get_13 : decode cX11_get 13 = .ok (.iconst 0, 1) := by decide +kernel
theorem dX11_get_14 : decode cX11_get 14 = .ok (.iconst 2, 1) := by decide +kernel
theorem dX11_get_15 : decode cX11_get 15 = .ok (.invokestatic 110, 3) := by decide +kernel
theorem dX11_get_18 : decode cX11_get 18 = .ok (.ifCond .eq 7, 3) := by decide +kernel
theorem dX11_get_21 : decode cX11_get 21 = .ok (.iconst 0, 1) := by decide +kernel
theorem dX11_get_22 : decode cX11_get 22 = .ok (.goto 4, 3) := by decide +kernel
theorem dX11_get_25 : decode cX11_get 25 = .ok (.iconst 2, 1) := by decide +kernel
theorem dX11_get_26 : decode cX11_get 26 = .ok (.putfield 104, 3) := by decide +kernel
theorem dX11_get_29 : decode cX11_get 29 = .ok (.aload_n 0, 1) := by decide +kernel
theorem dX11_get_30 : decode cX11_get 30 = .ok (.getfield 104, 3) := by decide +kernel
theorem dX11_get_33 : decode cX11_get 33 = .ok (.ifCond .le 7, 3) := by decide +kernel
theorem dX11_get_36 : decode cX11_get 36 = .ok (.lconst 0, 1) := by decide +kernel
theorem dX11_get_37 : decode cX11_get 37 = .ok (.goto 13, 3) := by decide +kernel
theorem dX11_get_40 : decode cX11_get 40 = .ok (.aload_n 0, 1) := by decide +kernel
theorem dX11_get_41 : decode cX11_get 41 = .ok (.iconst 0, 1) := by decide +kernel
theorem dX11_get_42 : decode cX11_get 42 = .ok (.aload_n 0, 1) := by decide +kernel
theorem dX11_get_43 : decode cX11_get 43 = .ok (.getfield 25, 3) := by decide +kernel
theorem dX11_get_46 : decode cX11_get 46 = .ok (.iload_n 1, 1) := by decide +kernel
theorem dX11_get_47 : decode cX11_get 47 = .ok (.invokevirtual 210, 3) := by decide +kernel
theorem dX11_get_50 : decode cX11_get 50 = .ok (.lreturn, 1) := by decide +kernel
theorem dX11_rise_0 : decode cX11_rise 0 = .ok (.aload_n 0, 1) := by decide +kernel
theorem dX11_rise_1 : decode cX11_rise 1 = .ok (.iconst 0, 1) := by decide +kernel
theorem dX11_rise_2 : decode cX11_rise 2 = .ok (.putfield 104, 3) := by decide +kernel
theorem dX11_rise_5 : decode cX11_rise 5 = .ok (.aload_n 0, 1) := by decide +kernel
theorem dX11_rise_6 : decode cX11_rise 6 = .ok (.getfield 25, 3) := by decide +kernel
theorem dX11_rise_9 : decode cX11_rise 9 = .ok (.ifCond .lt 12, 3) := by decide +kernel
theorem dX11_rise_12 : decode cX11_rise 12 = .ok (.aload_n 0, 1) := by decide +kernel
theorem dX11_rise_13 : decode cX11_rise 13 = .ok (.getfield 22, 3) := by decide +kernel
theorem dX11_rise_16 : decode cX11_rise 16 = .ok (.iconst 0, 1) := by decide +kernel
theorem dX11_rise_17 : decode cX11_rise 17 = .ok (.iaload, 1) := by decide +kernel
theorem dX11_rise_18 : decode cX11_rise 18 = .ok (.ifCond .le 10, 3) := by decide +kernel
theorem dX11_rise_21 : decode cX11_rise 21 = .ok (.aload_n 0, 1) := by decide +kernel
theorem dX11_rise_22 : decode cX11_rise 22 = .ok (.bipush (-5), 2) := by decide +kernel
theorem dX11_rise_24 : decode cX11_rise 24 = .ok (.invokevirtual 114, 3) := by decide +kernel
theorem dX11_rise_27 : decode cX11_rise 27 = .ok (.ireturn, 1) := by decide +kernel
theorem dX11_rise_28 : decode cX11_rise 28 = .ok (.aload_n 0, 1) := by decide +kernel
theorem dX11_rise_29 : decode cX11_rise 29 = .ok (.iconst 0, 1) := by decide +kernel
theorem dX11_rise_30 : decode cX11_rise 30 = .ok (.aload_n 0, 1) := by decide +kernel
theorem dX11_rise_31 : decode cX11_rise 31 = .ok (.getfield 25, 3) := by decide +kernel
theorem dX11_rise_34 : decode cX11_rise 34 = .ok (.invokevirtual 222, 3) := by decide +kernel
theorem dX11_rise_37 : decode cX11_rise 37 = .ok (.aload_n 0, 1) := by decide +kernel
theorem dX11_rise_38 : decode cX11_rise 38 = .ok (.invokevirtual 218, 3) := by decide +kernel
theorem dX11_rise_41 : decode cX11_rise 41 = .ok (.ireturn, 1) := by decide +kernel
theorem dX11_isSound_0 : decode cX11_isSound 0 = .ok (.aload_n 0, 1) := by decide +kernel
theorem dX11_isSound_1 : decode cX11_isSound 1 = .ok (.iconst 0, 1) := by decide +kernel
theorem dX11_isSound_2 : decode cX11_isSound 2 = .ok (.putfield 104, 3) := by decide +kernel
theorem dX11_isSound_5 : decode cX11_isSound 5 = .ok (.aload_n 0, 1) := by decide +kernel
theorem dX11_isSound_6 : decode cX11_isSound 6 = .ok (.getfield 25, 3) := by decide +kernel
theorem dX11_isSound_9 : decode cX11_isSound 9 = .ok (.ifCond .eq 47, 3) := by decide +kernel
theorem dX11_isSound_12 : decode cX11_isSound 12 = .ok (.aload_n 0, 1) := by decide +kernel
theorem dX11_isSound_13 : decode cX11_isSound 13 = .ok (.getfield 25, 3) := by decide +kernel
theorem dX11_isSound_16 : decode cX11_isSound 16 = .ok (.iconst 1, 1) := by decide +kernel
theorem dX11_isSound_17 : decode cX11_isSound 17 = .ok (.if_icmp .ne 23, 3) := by decide +kernel
theorem dX11_isSound_20 : decode cX11_isSound 20 = .ok (.aload_n 0, 1) := by decide +kernel
theorem dX11_isSound_21 : decode cX11_isSound 21 = .ok (.iconst 0, 1) := by decide +kernel
theorem dX11_isSound_22 : decode cX11_isSound 22 = .ok (.iconst 3, 1) := by decide +kernel
theorem dX11_isSound_23 : decode cX11_isSound 23 = .ok (.iconst 0, 1) := by decide +kernel
theorem dX11_isSound_24 : decode cX11_isSound 24 = .ok (.invokevirtual 129, 3) := by decide +kernel
theorem dX11_isSound_27 : decode cX11_isSound 27 = .ok (.ifCond .ne 13, 3) := by decide +kernel
theorem dX11_isSound_30 : decode cX11_isSound 30 = .ok (.aload_n 0, 1) := by decide +kernel
theorem dX11_isSound_31 : decode cX11_isSound 31 = .ok (.iconst 0, 1) := by decide +kernel
theorem dX11_isSound_32 : decode cX11_isSound 32 = .ok (.iconst 3, 1) := by decide +kernel
theorem dX11_isSound_33 : decode cX11_isSound 33 = .ok (.iconst 1, 1) := by decide +kernel
theorem dX11_isSound_34 : decode cX11_isSound 34 = .ok (.invokevirtual 129, 3) := by decide +kernel
theorem dX11_isSound_37 : decode cX11_isSound 37 = .ok (.ifCond .eq 19, 3) := by decide +kernel
theorem dX11_isSound_40 : decode cX11_isSound 40 = .ok (.aload_n 0, 1) := by decide +kernel
theorem dX11_isSound_41 : decode cX11_isSound 41 = .ok (.getfield 25, 3) := by decide +kernel
theorem dX11_isSound_44 : decode cX11_isSound 44 = .ok (.iconst 2, 1) := by decide +kernel
theorem dX11_isSound_45 : decode cX11_isSound 45 = .ok (.if_icmp .ne 15, 3) := by decide +kernel
theorem dX11_isSound_48 : decode cX11_isSound 48 = .ok (.aload_n 0, 1) := by decide +kernel
theorem dX11_isSound_49 : decode cX11_isSound 49 = .ok (.iconst 0, 1) := by decide +kernel
theorem dX11_isSound_50 : decode cX11_isSound 50 = .ok (.invokevirtual 178, 3) := by decide +kernel
theorem dX11_isSound_53 : decode cX11_isSound 53 = .ok (.ifCond .le 7, 3) := by decide +kernel
theorem dX11_isSound_56 : decode cX11_isSound 56 = .ok (.iconst 1, 1) := by decide +kernel
theorem dX11_isSound_57 : decode cX11_isSound 57 = .ok (.goto 4, 3) := by decide +kernel
theorem dX11_isSound_60 : decode cX11_isSound 60 = .ok (.iconst 0, 1) := by decide +kernel
theorem dX11_isSound_61 : decode cX11_isSound 61 = .ok (.ireturn, 1) := by decide +kernel
theorem dX11_add_0 : decode cX11_add 0 = .ok (.aload_n 0, 1) := by decide +kernel
theorem dX11_add_1 : decode cX11_add 1 = .ok (.getfield 225, 3) := by decide +kernel
theorem dX11_add_4 : decode cX11_add 4 = .ok (.bipush 8, 2) := by decide +kernel
theorem dX11_add_6 : decode cX11_add 6 = .ok (.if_icmp .ne 10, 3) := by decide +kernel
theorem dX11_add_9 : decode cX11_add 9 = .ok (.aload_n 0, 1) := by decide +kernel
theorem dX11_add_10 : decode cX11_add 10 = .ok (.bipush (-6), 2) := by decide +kernel
theorem dX11_add_12 : decode cX11_add 12 = .ok (.invokevirtual 114, 3) := by decide +kernel
theorem dX11_add_15 : decode cX11_add 15 = .ok (.ireturn, 1) := by decide +kernel
theorem dX11_add_16 : decode cX11_add 16 = .ok (.aload_n 0, 1) := by decide +kernel
theorem dX11_add_17 : decode cX11_add 17 = .ok (.getfield 64, 3) := by decide +kernel
theorem dX11_add_20 : decode cX11_add 20 = .ok (.aload_n 0, 1) := by decide +kernel
theorem dX11_add_21 : decode cX11_add 21 = .ok (.getfield 225, 3) := by decide +kernel
theorem dX11_add_24 : decode cX11_add 24 = .ok (.iload_n 1, 1) := by decide +kernel
theorem dX11_add_25 : decode cX11_add 25 = .ok (.iastore, 1) := by decide +kernel
theorem dX11_add_26 : decode cX11_add 26 = .ok (.aload_n 0, 1) := by decide +kernel
theorem dX11_add_27 : decode cX11_add 27 = .ok (.getfield 67, 3) := by decide +kernel
theorem dX11_add_30 : decode cX11_add 30 = .ok (.aload_n 0, 1) := by decide +kernel
theorem dX11_add_31 : decode cX11_add 31 = .ok (.getfield 225, 3) := by decide +kernel
theorem dX11_add_34 : decode cX11_add 34 = .ok (.iload_n 2, 1) := by decide +kernel
theorem dX11_add_35 : decode cX11_add 35 = .ok (.iastore, 1) := by decide +kernel
theorem dX11_add_36 : decode cX11_add 36 = .ok (.aload_n 0, 1) := by decide +kernel
theorem dX11_add_37 : decode cX11_add 37 = .ok (.getfield 70, 3) := by decide +kernel
theorem dX11_add_40 : decode cX11_add 40 = .ok (.aload_n 0, 1) := by decide +kernel
theorem dX11_add_41 : decode cX11_add 41 = .ok (.getfield 225, 3) := by decide +kernel
theorem dX11_add_44 : decode cX11_add 44 = .ok (.iload_n 3, 1) := by decide +kernel
theorem dX11_add_45 : decode cX11_add 45 = .ok (.iastore, 1) := by decide +kernel
theorem dX11_add_46 : decode cX11_add 46 = .ok (.aload_n 0, 1) := by decide +kernel
theorem dX11_add_47 : decode cX11_add 47 = .ok (.getfield 73, 3) := by decide +kernel
theorem dX11_add_50 : decode cX11_add 50 = .ok (.aload_n 0, 1) := by decide +kernel
theorem dX11_add_51 : decode cX11_add 51 = .ok (.getfield 225, 3) := by decide +kernel
theorem dX11_add_54 : decode cX11_add 54 = .ok (.lload 4, 2) := by decide +kernel
theorem dX11_add_56 : decode cX11_add 56 = .ok (.lastore, 1) := by decide +kernel
theorem dX11_add_57 : decode cX11_add 57 = .ok (.aload_n 0, 1) := by decide +kernel
theorem dX11_add_58 : decode cX11_add 58 = .ok (.dup, 1) := by decide +kernel
theorem dX11_add_59 : decode cX11_add 59 = .ok (.getfield 225, 3) := by decide +kernel
theorem dX11_add_62 : decode cX11_add 62 = .ok (.iconst 1, 1) := by decide +kernel
theorem dX11_add_63 : decode cX11_add 63 = .ok (.iadd, 1) := by decide +kernel
theorem dX11_add_64 : decode cX11_add 64 = .ok (.putfield 225, 3) := by decide +kernel
theorem dX11_add_67 : decode cX11_add 67 = .ok (.aload_n 0, 1) := by decide +kernel
theorem dX11_add_68 : decode cX11_add 68 = .ok (.getfield 225, 3) := by decide +kernel
theorem dX11_add_71 : decode cX11_add 71 = .ok (.ireturn, 1) := by decide +kernel
theorem dX11_addPut_0 : decode cX11_addPut 0 = .ok (.aload_n 0, 1) := by decide +kernel
theorem dX11_addPut_1 : decode cX11_addPut 1 = .ok (.iconst 0, 1) := by decide +kernel
theorem dX11_addPut_2 : decode cX11_addPut 2 = .ok (.putfield 104, 3) := by decide +kernel
theorem dX11_addPut_5 : decode cX11_addPut 5 = .ok (.iload_n 1, 1) := by decide +kernel
theorem dX11_addPut_6 : decode cX11_addPut 6 = .ok (.iconst 0, 1) := by decide +kernel
theorem dX11_addPut_7 : decode cX11_addPut 7 = .ok (.iconst 2, 1) := by decide +kernel
theorem dX11_addPut_8 : decode cX11_addPut 8 = .ok (.invokestatic 110, 3) := by decide +kernel
theorem dX11_addPut_11 : decode cX11_addPut 11 = .ok (.ifCond .eq 15, 3) := by decide +kernel
theorem dX11_addPut_14 : decode cX11_addPut 14 = .ok (.aload_n 0, 1) := by decide +kernel
theorem dX11_addPut_15 : decode cX11_addPut 15 = .ok (.iconst 0, 1) := by decide +kernel
theorem dX11_addPut_16 : decode cX11_addPut 16 = .ok (.iload_n 1, 1) := by decide +kernel
theorem dX11_addPut_17 : decode cX11_addPut 17 = .ok (.bipush (-9), 2) := by decide +kernel
theorem dX11_addPut_19 : decode cX11_addPut 19 = .ok (.lload_n 2, 1) := by decide +kernel
theorem dX11_addPut_20 : decode cX11_addPut 20 = .ok (.invokevirtual 228, 3) := by decide +kernel
theorem dX11_addPut_23 : decode cX11_addPut 23 = .ok (.goto 8, 3) := by decide +kernel
theorem dX11_addPut_26 : decode cX11_addPut 26 = .ok (.aload_n 0, 1) := by decide +kernel
theorem dX11_addPut_27 : decode cX11_addPut 27 = .ok (.iconst (-1), 1) := by decide +kernel
theorem dX11_addPut_28 : decode cX11_addPut 28 = .ok (.invokevirtual 114, 3) := by decide +kernel
theorem dX11_addPut_31 : decode cX11_addPut 31 = .ok (.ireturn, 1) := by decide +kernel
theorem dX11_addMove_0 : decode cX11_addMove 0 = .ok (.aload_n 0, 1) := by decide +kernel
theorem dX11_addMove_1 : decode cX11_addMove 1 = .ok (.iconst 0, 1) := by decide +kernel
theorem dX11_addMove_2 : decode cX11_addMove 2 = .ok (.putfield 104, 3) := by decide +kernel
theorem dX11_addMove_5 : decode cX11_addMove 5 = .ok (.iload_n 1, 1) := by decide +kernel
theorem dX11_addMove_6 : decode cX11_addMove 6 = .ok (.iconst 0, 1) := by decide +kernel
theorem dX11_addMove_7 : decode cX11_addMove 7 = .ok (.iconst 2, 1) := by decide +kernel
theorem dX11_addMove_8 : decode cX11_addMove 8 = .ok (.invokestatic 110, 3) := by decide +kernel
theorem dX11_addMove_11 : decode cX11_addMove 11 = .ok (.ifCond .eq 28, 3) := by decide +kernel
theorem dX11_addMove_14 : decode cX11_addMove 14 = .ok (.iload_n 2, 1) := by decide +kernel
theorem dX11_addMove_15 : decode cX11_addMove 15 = .ok (.iconst 0, 1) := by decide +kernel
theorem dX11_addMove_16 : decode cX11_addMove 16 = .ok (.iconst 2, 1) := by decide +kernel
theorem dX11_addMove_17 : decode cX11_addMove 17 = .ok (.invokestatic 110, 3) := by decide +kernel
theorem dX11_addMove_20 : decode cX11_addMove 20 = .ok (.ifCond .eq 19, 3) := by decide +kernel
theorem dX11_addMove_23 : decode cX11_addMove 23 = .ok (.iload_n 1, 1) := by decide +kernel
theorem dX11_addMove_24 : decode cX11_addMove 24 = .ok (.iload_n 2, 1) := by decide +kernel
theorem dX11_addMove_25 : decode cX11_addMove 25 = .ok (.if_icmp .eq 14, 3) := by decide +kernel
theorem dX11_addMove_28 : decode cX11_addMove 28 = .ok (.aload_n 0, 1) := by decide +kernel
theorem dX11_addMove_29 : decode cX11_addMove 29 = .ok (.iconst 1, 1) := by decide +kernel
theorem dX11_addMove_30 : decode cX11_addMove 30 = .ok (.iload_n 1, 1) := by decide +kernel
theorem dX11_addMove_31 : decode cX11_addMove 31 = .ok (.iload_n 2, 1) := by decide +kernel
theorem dX11_addMove_32 : decode cX11_addMove 32 = .ok (.lconst 0, 1) := by decide +kernel
theorem dX11_addMove_33 : decode cX11_addMove 33 = .ok (.invokevirtual 228, 3) := by decide +kernel
theorem dX11_addMove_36 : decode cX11_addMove 36 = .ok (.goto 8, 3) := by decide +kernel
theorem dX11_addMove_39 : decode cX11_addMove 39 = .ok (.aload_n 0, 1) := by decide +kernel
theorem dX11_addMove_40 : decode cX11_addMove 40 = .ok (.iconst (-1), 1) := by decide +kernel
theorem dX11_addMove_41 : decode cX11_addMove 41 = .ok (.invokevirtual 114, 3) := by decide +kernel
theorem dX11_addMove_44 : decode cX11_addMove 44 = .ok (.ireturn, 1) := by decide +kernel
theorem dX11_addSure_0 : decode cX11_addSure 0 = .ok (.aload_n 0, 1) := by decide +kernel
theorem dX11_addSure_1 : decode cX11_addSure 1 = .ok (.iconst 0, 1) := by decide +kernel
theorem dX11_addSure_2 : decode cX11_addSure 2 = .ok (.putfield 104, 3) := by decide +kernel
theorem dX11_addSure_5 : decode cX11_addSure 5 = .ok (.aload_n 0, 1) := by decide +kernel
theorem dX11_addSure_6 : decode cX11_addSure 6 = .ok (.iconst 2, 1) := by decide +kernel
theorem dX11_addSure_7 : decode cX11_addSure 7 = .ok (.bipush (-9), 2) := by decide +kernel
theorem dX11_addSure_9 : decode cX11_addSure 9 = .ok (.bipush (-9), 2) := by decide +kernel
theorem dX11_addSure_11 : decode cX11_addSure 11 = .ok (.lconst 0, 1) := by decide +kernel
theorem dX11_addSure_12 : decode cX11_addSure 12 = .ok (.invokevirtual 228, 3) := by decide +kernel
theorem dX11_addSure_15 : decode cX11_addSure 15 = .ok (.ireturn, 1) := by decide +kernel
theorem dX11_clear_0 : decode cX11_clear 0 = .ok (.aload_n 0, 1) := by decide +kernel
theorem dX11_clear_1 : decode cX11_clear 1 = .ok (.iconst 0, 1) := by decide +kernel
theorem dX11_clear_2 : decode cX11_clear 2 = .ok (.putfield 104, 3) := by decide +kernel
theorem dX11_clear_5 : decode cX11_clear 5 = .ok (.aload_n 0, 1) := by decide +kernel
theorem dX11_clear_6 : decode cX11_clear 6 = .ok (.getfield 225, 3) := by decide +kernel
theorem dX11_clear_9 : decode cX11_clear 9 = .ok (.istore_n 1, 1) := by decide +kernel
theorem dX11_clear_10 : decode cX11_clear 10 = .ok (.aload_n 0, 1) := by decide +kernel
theorem dX11_clear_11 : decode cX11_clear 11 = .ok (.iconst 0, 1) := by decide +kernel
theorem dX11_clear_12 : decode cX11_clear 12 = .ok (.putfield 225, 3) := by decide +kernel
theorem dX11_clear_15 : decode cX11_clear 15 = .ok (.iload_n 1, 1) := by decide +kernel
theorem dX11_clear_16 : decode cX11_clear 16 = .ok (.ireturn, 1) := by decide +kernel
theorem dX11_findDue_0 : decode cX11_findDue 0 = .ok (.iconst 0, 1) := by decide +kernel
theorem dX11_findDue_1 : decode cX11_findDue 1 = .ok (.istore_n 1, 1) := by decide +kernel
theorem dX11_findDue_2 : decode cX11_findDue 2 = .ok (.iload_n 1, 1) := by decide +kernel
theorem dX11_findDue_3 : decode cX11_findDue 3 = .ok (.iconst 3, 1) := by decide +kernel
theorem dX11_findDue_4 : decode cX11_findDue 4 = .ok (.if_icmp .ge 16, 3) := by decide +kernel
theorem dX11_findDue_7 : decode cX11_findDue 7 = .ok (.aload_n 0, 1) := by decide +kernel
theorem dX11_findDue_8 : decode cX11_findDue 8 = .ok (.getfield 77, 3) := by decide +kernel
theorem dX11_findDue_11 : decode cX11_findDue 11 = .ok (.iload_n 1, 1) := by decide +kernel
theorem dX11_findDue_12 : decode cX11_findDue 12 = .ok (.lconst 0, 1) := by decide +kernel
theorem dX11_findDue_13 : decode cX11_findDue 13 = .ok (.lastore, 1) := by decide +kernel
theorem dX11_findDue_14 : decode cX11_findDue 14 = .ok (.iinc 1 1, 3) := by decide +kernel
theorem dX11_findDue_17 : decode cX11_findDue 17 = .ok (.goto (-15), 3) := by decide +kernel
theorem dX11_findDue_20 : decode cX11_findDue 20 = .ok (.iconst 0, 1) := by decide +kernel
theorem dX11_findDue_21 : decode cX11_findDue 21 = .ok (.istore_n 1, 1) := by decide +kernel
theorem dX11_findDue_22 : decode cX11_findDue 22 = .ok (.iload_n 1, 1) := by decide +kernel
theorem dX11_findDue_23 : decode cX11_findDue 23 = .ok (.aload_n 0, 1) := by decide +kernel
theorem dX11_findDue_24 : decode cX11_findDue 24 = .ok (.getfield 225, 3) := by decide +kernel
theorem dX11_findDue_27 : decode cX11_findDue 27 = .ok (.if_icmp .ge 139, 3) := by decide +kernel
theorem dX11_findDue_30 : decode cX11_findDue 30 = .ok (.iconst 0, 1) := by decide +kernel
theorem dX11_findDue_31 : decode cX11_findDue 31 = .ok (.istore_n 2, 1) := by decide +kernel
theorem dX11_findDue_32 : decode cX11_findDue 32 = .ok (.iload_n 2, 1) := by decide +kernel
theorem dX11_findDue_33 : decode cX11_findDue 33 = .ok (.iconst 3, 1) := by decide +kernel
theorem dX11_findDue_34 : decode cX11_findDue 34 = .ok (.if_icmp .ge 31, 3) := by decide +kernel
theorem dX11_findDue_37 : decode cX11_findDue 37 = .ok (.aload_n 0, 1) := by decide +kernel
theorem dX11_findDue_38 : decode cX11_findDue 38 = .ok (.getfield 77, 3) := by decide +kernel
theorem dX11_findDue_41 : decode cX11_findDue 41 = .ok (.iconst 3, 1) := by decide +kernel
theorem dX11_findDue_42 : decode cX11_findDue 42 = .ok (.iload_n 1, 1) := by decide +kernel
theorem dX11_findDue_43 : decode cX11_findDue 43 = .ok (.imul, 1) := by decide +kernel
theorem dX11_findDue_44 : decode cX11_findDue 44 = .ok (.iconst 3, 1) := by decide +kernel
theorem dX11_findDue_45 : decode cX11_findDue 45 = .ok (.iadd, 1) := by decide +kernel
theorem dX11_findDue_46 : decode cX11_findDue 46 = .ok (.iload_n 2, 1) := by decide +kernel
theorem dX11_findDue_47 : decode cX11_findDue 47 = .ok (.iadd, 1) := by decide +kernel
theorem dX11_findDue_48 : decode cX11_findDue 48 = .ok (.aload_n 0, 1) := by decide +kernel
theorem dX11_findDue_49 : decode cX11_findDue 49 = .ok (.getfield 77, 3) := by decide +kernel
theorem dX11_findDue_52 : decode cX11_findDue 52 = .ok (.iconst 3, 1) := by decide +kernel
theorem dX11_findDue_53 : decode cX11_findDue 53 = .ok (.iload_n 1, 1) := by decide +kernel
theorem dX11_findDue_54 : decode cX11_findDue 54 = .ok (.imul, 1) := by decide +kernel
theorem dX11_findDue_55 : decode cX11_findDue 55 = .ok (.iload_n 2, 1) := by decide +kernel
theorem dX11_findDue_56 : decode cX11_findDue 56 = .ok (.iadd, 1) := by decide +kernel
theorem dX11_findDue_57 : decode cX11_findDue 57 = .ok (.laload, 1) := by decide +kernel
theorem dX11_findDue_58 : decode cX11_findDue 58 = .ok (.lastore, 1) := by decide +kernel
theorem dX11_findDue_59 : decode cX11_findDue 59 = .ok (.iinc 2 1, 3) := by decide +kernel
theorem dX11_findDue_62 : decode cX11_findDue 62 = .ok (.goto (-30), 3) := by decide +kernel
theorem dX11_findDue_65 : decode cX11_findDue 65 = .ok (.aload_n 0, 1) := by decide +kernel
theorem dX11_findDue_66 : decode cX11_findDue 66 = .ok (.getfield 64, 3) := by decide +kernel
theorem dX11_findDue_69 : decode cX11_findDue 69 = .ok (.iload_n 1, 1) := by decide +kernel
theorem dX11_findDue_70 : decode cX11_findDue 70 = .ok (.iaload, 1) := by decide +kernel
theorem dX11_findDue_71 : decode cX11_findDue 71 = .ok (.ifCond .ne 29, 3) := by decide +kernel
theorem dX11_findDue_74 : decode cX11_findDue 74 = .ok (.aload_n 0, 1) := by decide +kernel
theorem dX11_findDue_75 : decode cX11_findDue 75 = .ok (.getfield 77, 3) := by decide +kernel
theorem dX11_findDue_78 : decode cX11_findDue 78 = .ok (.iconst 3, 1) := by decide +kernel
theorem dX11_findDue_79 : decode cX11_findDue 79 = .ok (.iload_n 1, 1) := by decide +kernel
theorem dX11_findDue_80 : decode cX11_findDue 80 = .ok (.imul, 1) := by decide +kernel
theorem dX11_findDue_81 : decode cX11_findDue 81 = .ok (.iconst 3, 1) := by decide +kernel
theorem dX11_findDue_82 : decode cX11_findDue 82 = .ok (.iadd, 1) := by decide +kernel
theorem dX11_findDue_83 : decode cX11_findDue 83 = .ok (.aload_n 0, 1) := by decide +kernel
theorem dX11_findDue_84 : decode cX11_findDue 84 = .ok (.getfield 67, 3) := by decide +kernel
theorem dX11_findDue_87 : decode cX11_findDue 87 = .ok (.iload_n 1, 1) := by decide +kernel
theorem dX11_findDue_88 : decode cX11_findDue 88 = .ok (.iaload, 1) := by decide +kernel
theorem dX11_findDue_89 : decode cX11_findDue 89 = .ok (.iadd, 1) := by decide +kernel
theorem dX11_findDue_90 : decode cX11_findDue 90 = .ok (.aload_n 0, 1) := by decide +kernel
theorem dX11_findDue_91 : decode cX11_findDue 91 = .ok (.getfield 73, 3) := by decide +kernel
theorem dX11_findDue_94 : decode cX11_findDue 94 = .ok (.iload_n 1, 1) := by decide +kernel
theorem dX11_findDue_95 : decode cX11_findDue 95 = .ok (.laload, 1) := by decide +kernel
theorem dX11_findDue_96 : decode cX11_findDue 96 = .ok (.lastore, 1) := by decide +kernel
theorem dX11_findDue_97 : decode cX11_findDue 97 = .ok (.goto 63, 3) := by decide +kernel
theorem dX11_findDue_100 : decode cX11_findDue 100 = .ok (.aload_n 0, 1) := by decide +kernel
theorem dX11_findDue_101 : decode cX11_findDue 101 = .ok (.getfield 64, 3) := by decide +kernel
theorem dX11_findDue_104 : decode cX11_findDue 104 = .ok (.iload_n 1, 1) := by decide +kernel
theorem dX11_findDue_105 : decode cX11_findDue 105 = .ok (.iaload, 1) := by decide +kernel
theorem dX11_findDue_106 : decode cX11_findDue 106 = .ok (.iconst 1, 1) := by decide +kernel
theorem dX11_findDue_107 : decode cX11_findDue 107 = .ok (.if_icmp .ne 53, 3) := by decide +kernel
theorem dX11_findDue_110 : decode cX11_findDue 110 = .ok (.aload_n 0, 1) := by decide +kernel
theorem dX11_findDue_111 : decode cX11_findDue 111 = .ok (.getfield 77, 3) := by decide +kernel
theorem dX11_findDue_114 : decode cX11_findDue 114 = .ok (.iconst 3, 1) := by decide +kernel
theorem dX11_findDue_115 : decode cX11_findDue 115 = .ok (.iload_n 1, 1) := by decide +kernel
theorem dX11_findDue_116 : decode cX11_findDue 116 = .ok (.imul, 1) := by decide +kernel
theorem dX11_findDue_117 : decode cX11_findDue 117 = .ok (.iconst 3, 1) := by decide +kernel
theorem dX11_findDue_118 : decode cX11_findDue 118 = .ok (.iadd, 1) := by decide +kernel
theorem dX11_findDue_119 : decode cX11_findDue 119 = .ok (.aload_n 0, 1) := by decide +kernel
theorem dX11_findDue_120 : decode cX11_findDue 120 = .ok (.getfield 70, 3) := by decide +kernel
theorem dX11_findDue_123 : decode cX11_findDue 123 = .ok (.iload_n 1, 1) := by decide +kernel
theorem dX11_findDue_124 : decode cX11_findDue 124 = .ok (.iaload, 1) := by decide +kernel
theorem dX11_findDue_125 : decode cX11_findDue 125 = .ok (.iadd, 1) := by decide +kernel
theorem dX11_findDue_126 : decode cX11_findDue 126 = .ok (.aload_n 0, 1) := by decide +kernel
theorem dX11_findDue_127 : decode cX11_findDue 127 = .ok (.getfield 77, 3) := by decide +kernel
theorem dX11_findDue_130 : decode cX11_findDue 130 = .ok (.iconst 3, 1) := by decide +kernel
theorem dX11_findDue_131 : decode cX11_findDue 131 = .ok (.iload_n 1, 1) := by decide +kernel
theorem dX11_findDue_132 : decode cX11_findDue 132 = .ok (.imul, 1) := by decide +kernel
theorem dX11_findDue_133 : decode cX11_findDue 133 = .ok (.aload_n 0, 1) := by decide +kernel
theorem dX11_findDue_134 : decode cX11_findDue 134 = .ok (.getfield 67, 3) := by decide +kernel
theorem dX11_findDue_137 : decode cX11_findDue 137 = .ok (.iload_n 1, 1) := by decide +kernel
theorem dX11_findDue_138 : decode cX11_findDue 138 = .ok (.iaload, 1) := by decide +kernel
theorem dX11_findDue_139 : decode cX11_findDue 139 = .ok (.iadd, 1) := by decide +kernel
theorem dX11_findDue_140 : decode cX11_findDue 140 = .ok (.laload, 1) := by decide +kernel
theorem dX11_findDue_141 : decode cX11_findDue 141 = .ok (.lastore, 1) := by decide +kernel
theorem dX11_findDue_142 : decode cX11_findDue 142 = .ok (.aload_n 0, 1) := by decide +kernel
theorem dX11_findDue_143 : decode cX11_findDue 143 = .ok (.getfield 77, 3) := by decide +kernel
theorem dX11_findDue_146 : decode cX11_findDue 146 = .ok (.iconst 3, 1) := by decide +kernel
theorem dX11_findDue_147 : decode cX11_findDue 147 = .ok (.iload_n 1, 1) := by decide +kernel
theorem dX11_findDue_148 : decode cX11_findDue 148 = .ok (.imul, 1) := by decide +kernel
theorem dX11_findDue_149 : decode cX11_findDue 149 = .ok (.iconst 3, 1) := by decide +kernel
theorem dX11_findDue_150 : decode cX11_findDue 150 = .ok (.iadd, 1) := by decide +kernel
theorem dX11_findDue_151 : decode cX11_findDue 151 = .ok (.aload_n 0, 1) := by decide +kernel
theorem dX11_findDue_152 : decode cX11_findDue 152 = .ok (.getfield 67, 3) := by decide +kernel
theorem dX11_findDue_155 : decode cX11_findDue 155 = .ok (.iload_n 1, 1) := by decide +kernel
theorem dX11_findDue_156 : decode cX11_findDue 156 = .ok (.iaload, 1) := by decide +kernel
theorem dX11_findDue_157 : decode cX11_findDue 157 = .ok (.iadd, 1) := by decide +kernel
theorem dX11_findDue_158 : decode cX11_findDue 158 = .ok (.lconst 0, 1) := by decide +kernel
theorem dX11_findDue_159 : decode cX11_findDue 159 = .ok (.lastore, 1) := by decide +kernel
theorem dX11_findDue_160 : decode cX11_findDue 160 = .ok (.iinc 1 1, 3) := by decide +kernel
theorem dX11_findDue_163 : decode cX11_findDue 163 = .ok (.goto (-141), 3) := by decide +kernel
theorem dX11_findDue_166 : decode cX11_findDue 166 = .ok (.return_, 1) := by decide +kernel
theorem dX11_isRight_0 : decode cX11_isRight 0 = .ok (.aload_n 0, 1) := by decide +kernel
theorem dX11_isRight_1 : decode cX11_isRight 1 = .ok (.getfield 232, 3) := by decide +kernel
theorem dX11_isRight_4 : decode cX11_isRight 4 = .ok (.istore_n 1, 1) := by decide +kernel
theorem dX11_isRight_5 : decode cX11_isRight 5 = .ok (.iload_n 1, 1) := by decide +kernel
theorem dX11_isRight_6 : decode cX11_isRight 6 = .ok (.aload_n 0, 1) := by decide +kernel
theorem dX11_isRight_7 : decode cX11_isRight 7 = .ok (.getfield 235, 3) := by decide +kernel
theorem dX11_isRight_10 : decode cX11_isRight 10 = .ok (.if_icmp .gt 60, 3) := by decide +kernel
theorem dX11_isRight_13 : decode cX11_isRight 13 = .ok (.iconst 1, 1) := by decide +kernel
theorem dX11_isRight_14 : decode cX11_isRight 14 = .ok (.istore_n 2, 1) := by decide +kernel
theorem dX11_isRight_15 : decode cX11_isRight 15 = .ok (.iconst 0, 1) := by decide +kernel
theorem dX11_isRight_16 : decode cX11_isRight 16 = .ok (.istore_n 3, 1) := by decide +kernel
theorem dX11_isRight_17 : decode cX11_isRight 17 = .ok (.iload_n 3, 1) := by decide +kernel
theorem dX11_isRight_18 : decode cX11_isRight 18 = .ok (.iconst 3, 1) := by decide +kernel
theorem dX11_isRight_19 : decode cX11_isRight 19 = .ok (.if_icmp .ge 39, 3) := by decide +kernel
theorem dX11_isRight_22 : decode cX11_isRight 22 = .ok (.iload_n 2, 1) := by decide +kernel
theorem dX11_isRight_23 : decode cX11_isRight 23 = .ok (.ifCond .eq 27, 3) := by decide +kernel
theorem dX11_isRight_26 : decode cX11_isRight 26 = .ok (.aload_n 0, 1) := by decide +kernel
theorem dX11_isRight_27 : decode cX11_isRight 27 = .ok (.getfield 77, 3) := by decide +kernel
theorem dX11_isRight_30 : decode cX11_isRight 30 = .ok (.iconst 3, 1) := by decide +kernel
theorem dX11_isRight_31 : decode cX11_isRight 31 = .ok (.iload_n 1, 1) := by decide +kernel
theorem dX11_isRight_32 : decode cX11_isRight 32 = .ok (.imul, 1) := by decide +kernel
theorem dX11_isRight_33 : decode cX11_isRight 33 = .ok (.iload_n 3, 1) := by decide +kernel
theorem dX11_isRight_34 : decode cX11_isRight 34 = .ok (.iadd, 1) := by decide +kernel
theorem dX11_isRight_35 : decode cX11_isRight 35 = .ok (.laload, 1) := by decide +kernel
theorem dX11_isRight_36 : decode cX11_isRight 36 = .ok (.aload_n 0, 1) := by decide +kernel
theorem dX11_isRight_37 : decode cX11_isRight 37 = .ok (.getfield 92, 3) := by decide +kernel
theorem dX11_isRight_40 : decode cX11_isRight 40 = .ok (.iload_n 3, 1) := by decide +kernel
theorem dX11_isRight_41 : decode cX11_isRight 41 = .ok (.laload, 1) := by decide +kernel
theorem dX11_isRight_42 : decode cX11_isRight 42 = .ok (.lcmp, 1) := by decide +kernel
theorem dX11_isRight_43 : decode cX11_isRight 43 = .ok (.ifCond .ne 7, 3) := by decide +kernel
theorem dX11_isRight_46 : decode cX11_isRight 46 = .ok (.iconst 1, 1) := by decide +kernel
theorem dX11_isRight_47 : decode cX11_isRight 47 = .ok (.goto 4, 3) := by decide +kernel
theorem dX11_isRight_50 : decode cX11_isRight 50 = .ok (.iconst 0, 1) := by decide +kernel
theorem dX11_isRight_51 : decode cX11_isRight 51 = .ok (.istore_n 2, 1) := by decide +kernel
theorem dX11_isRight_52 : decode cX11_isRight 52 = .ok (.iinc 3 1, 3) := by decide +kernel
theorem dX11_isRight_55 : decode cX11_isRight 55 = .ok (.goto (-38), 3) := by decide +kernel
theorem dX11_isRight_58 : decode cX11_isRight 58 = .ok (.iload_n 2, 1) := by decide +kernel
theorem dX11_isRight_59 : decode cX11_isRight 59 = .ok (.ifCond .eq 5, 3) := by decide +kernel
theorem dX11_isRight_62 : decode cX11_isRight 62 = .ok (.iconst 1, 1) := by decide +kernel
theorem dX11_isRight_63 : decode cX11_isRight 63 = .ok (.ireturn, 1) := by decide +kernel
theorem dX11_isRight_64 : decode cX11_isRight 64 = .ok (.iinc 1 1, 3) := by decide +kernel
theorem dX11_isRight_67 : decode cX11_isRight 67 = .ok (.goto (-62), 3) := by decide +kernel
theorem dX11_isRight_70 : decode cX11_isRight 70 = .ok (.iconst 0, 1) := by decide +kernel
theorem dX11_isRight_71 : decode cX11_isRight 71 = .ok (.ireturn, 1) := by decide +kernel
theorem dX11_moment_0 : decode cX11_moment 0 = .ok (.aload_n 0, 1) := by decide +kernel
theorem dX11_moment_1 : decode cX11_moment 1 = .ok (.iconst 1, 1) := by decide +kernel
theorem dX11_moment_2 : decode cX11_moment 2 = .ok (.invokevirtual 160, 3) := by decide +kernel
theorem dX11_moment_5 : decode cX11_moment 5 = .ok (.ifCond .ne 5, 3) := by decide +kernel
theorem dX11_moment_8 : decode cX11_moment 8 = .ok (.iconst 0, 1) := by decide +kernel
theorem dX11_moment_9 : decode cX11_moment 9 = .ok (.ireturn, 1) := by decide +kernel
theorem dX11_moment_10 : decode cX11_moment 10 = .ok (.iconst 0, 1) := by decide +kernel
theorem dX11_moment_11 : decode cX11_moment 11 = .ok (.istore_n 2, 1) := by decide +kernel
theorem dX11_moment_12 : decode cX11_moment 12 = .ok (.iload_n 2, 1) := by decide +kernel
theorem dX11_moment_13 : decode cX11_moment 13 = .ok (.aload_n 0, 1) := by decide +kernel
theorem dX11_moment_14 : decode cX11_moment 14 = .ok (.getfield 137, 3) := by decide +kernel
theorem dX11_moment_17 : decode cX11_moment 17 = .ok (.if_icmp .ge 290, 3) := by decide +kernel
theorem dX11_moment_20 : decode cX11_moment 20 = .ok (.iconst 0, 1) := by decide +kernel
theorem dX11_moment_21 : decode cX11_moment 21 = .ok (.istore_n 3, 1) := by decide +kernel
theorem dX11_moment_22 : decode cX11_moment 22 = .ok (.iload_n 3, 1) := by decide +kernel
theorem dX11_moment_23 : decode cX11_moment 23 = .ok (.bipush 32, 2) := by decide +kernel
theorem dX11_moment_25 : decode cX11_moment 25 = .ok (.if_icmp .ge 34, 3) := by decide +kernel
theorem dX11_moment_28 : decode cX11_moment 28 = .ok (.aload_n 0, 1) := by decide +kernel
theorem dX11_moment_29 : decode cX11_moment 29 = .ok (.getfield 7, 3) := by decide +kernel
theorem dX11_moment_32 : decode cX11_moment 32 = .ok (.bipush 64, 2) := by decide +kernel
theorem dX11_moment_34 : decode cX11_moment 34 = .ok (.iload_n 3, 1) := by decide +kernel
theorem dX11_moment_35 : decode cX11_moment 35 = .ok (.iadd, 1) := by decide +kernel
theorem dX11_moment_36 : decode cX11_moment 36 = .ok (.aload_n 0, 1) := by decide +kernel
theorem dX11_moment_37 : decode cX11_moment 37 = .ok (.getfield 37, 3) := by decide +kernel
theorem dX11_moment_40 : decode cX11_moment 40 = .ok (.bipush 32, 2) := by decide +kernel
theorem dX11_moment_42 : decode cX11_moment 42 = .ok (.aload_n 0, 1) := by decide +kernel
theorem dX11_moment_43 : decode cX11_moment 43 = .ok (.getfield 40, 3) := by decide +kernel
theorem dX11_moment_46 : decode cX11_moment 46 = .ok (.iload_n 2, 1) := by decide +kernel
theorem dX11_moment_47 : decode cX11_moment 47 = .ok (.iaload, 1) := by decide +kernel
theorem dX11_moment_48 : decode cX11_moment 48 = .ok (.imul, 1) := by decide +kernel
theorem dX11_moment_49 : decode cX11_moment 49 = .ok (.iload_n 3, 1) := by decide +kernel
theorem dX11_moment_50 : decode cX11_moment 50 = .ok (.iadd, 1) := by decide +kernel
theorem dX11_moment_51 : decode cX11_moment 51 = .ok (.iaload, 1) := by decide +kernel
theorem dX11_moment_52 : decode cX11_moment 52 = .ok (.iastore, 1) := by decide +kernel
theorem dX11_moment_53 : decode cX11_moment 53 = .ok (.iinc 3 1, 3) := by decide +kernel
theorem dX11_moment_56 : decode cX11_moment 56 = .ok (.goto (-34), 3) := by decide +kernel
theorem dX11_moment_59 : decode cX11_moment 59 = .ok (.aload_n 0, 1) := by decide +kernel
theorem dX11_moment_60 : decode cX11_moment 60 = .ok (.getfield 22, 3) := by decide +kernel
theorem dX11_moment_63 : decode cX11_moment 63 = .ok (.iconst 2, 1) := by decide +kernel
theorem dX11_moment_64 : decode cX11_moment 64 = .ok (.iconst 0, 1) := by decide +kernel
theorem dX11_moment_65 : decode cX11_moment 65 = .ok (.iastore, 1) := by decide +kernel
theorem dX11_moment_66 : decode cX11_moment 66 = .ok (.aload_n 0, 1) := by decide +kernel
theorem dX11_moment_67 : decode cX11_moment 67 = .ok (.iconst 2, 1) := by decide +kernel
theorem dX11_moment_68 : decode cX11_moment 68 = .ok (.iload_n 1, 1) := by decide +kernel
theorem dX11_moment_69 : decode cX11_moment 69 = .ok (.invokevirtual 222, 3) := by decide +kernel
theorem dX11_moment_72 : decode cX11_moment 72 = .ok (.iconst 0, 1) := by decide +kernel
theorem dX11_moment_73 : decode cX11_moment 73 = .ok (.istore_n 3, 1) := by decide +kernel
theorem dX11_moment_74 : decode cX11_moment 74 = .ok (.iload_n 3, 1) := by decide +kernel
theorem dX11_moment_75 : decode cX11_moment 75 = .ok (.aload_n 0, 1) := by decide +kernel
theorem dX11_moment_76 : decode cX11_moment 76 = .ok (.getfield 188, 3) := by decide +kernel
theorem dX11_moment_79 : decode cX11_moment 79 = .ok (.if_icmp .ge 34, 3) := by decide +kernel
theorem dX11_moment_82 : decode cX11_moment 82 = .ok (.aload_n 0, 1) := by decide +kernel
theorem dX11_moment_83 : decode cX11_moment 83 = .ok (.iconst 2, 1) := by decide +kernel
theorem dX11_moment_84 : decode cX11_moment 84 = .ok (.aload_n 0, 1) := by decide +kernel
theorem dX11_moment_85 : decode cX11_moment 85 = .ok (.getfield 55, 3) := by decide +kernel
theorem dX11_moment_88 : decode cX11_moment 88 = .ok (.iload_n 3, 1) := by decide +kernel
theorem dX11_moment_89 : decode cX11_moment 89 = .ok (.iaload, 1) := by decide +kernel
theorem dX11_moment_90 : decode cX11_moment 90 = .ok (.aload_n 0, 1) := by decide +kernel
theorem dX11_moment_91 : decode cX11_moment 91 = .ok (.getfield 58, 3) := by decide +kernel
theorem dX11_moment_94 : decode cX11_moment 94 = .ok (.iload_n 3, 1) := by decide +kernel
theorem dX11_moment_95 : decode cX11_moment 95 = .ok (.iaload, 1) := by decide +kernel
theorem dX11_moment_96 : decode cX11_moment 96 = .ok (.aload_n 0, 1) := by decide +kernel
theorem dX11_moment_97 : decode cX11_moment 97 = .ok (.getfield 61, 3) := by decide +kernel
theorem dX11_moment_100 : decode cX11_moment 100 = .ok (.iload_n 3, 1) := by decide +kernel
theorem dX11_moment_101 : decode cX11_moment 101 = .ok (.iaload, 1) := by decide +kernel
theorem dX11_moment_102 : decode cX11_moment 102 = .ok (.invokevirtual 118, 3) := by decide +kernel
theorem dX11_moment_105 : decode cX11_moment 105 = .ok (.istore 4, 2) := by decide +kernel
theorem dX11_moment_107 : decode cX11_moment 107 = .ok (.iinc 3 1, 3) := by decide +kernel
theorem dX11_moment_110 : decode cX11_moment 110 = .ok (.goto (-36), 3) := by decide +kernel
theorem dX11_moment_113 : decode cX11_moment 113 = .ok (.aload_n 0, 1) := by decide +kernel
theorem dX11_moment_114 : decode cX11_moment 114 = .ok (.iconst 2, 1) := by decide +kernel
theorem dX11_moment_115 : decode cX11_moment 115 = .ok (.invokevirtual 122, 3) := by decide +kernel
theorem dX11_moment_118 : decode cX11_moment 118 = .ok (.istore_n 3, 1) := by decide +kernel
theorem dX11_moment_119 : decode cX11_moment 119 = .ok (.iconst 0, 1) := by decide +kernel
theorem dX11_moment_120 : decode cX11_moment 120 = .ok (.istore 4, 2) := by decide +kernel
theorem dX11_moment_122 : decode cX11_moment 122 = .ok (.iload 4, 2) := by decide +kernel
theorem dX11_moment_124 : decode cX11_moment 124 = .ok (.iconst 3, 1) := by decide +kernel
theorem dX11_moment_125 : decode cX11_moment 125 = .ok (.if_icmp .ge 24, 3) := by decide +kernel
theorem dX11_moment_128 : decode cX11_moment 128 = .ok (.aload_n 0, 1) := by decide +kernel
theorem dX11_moment_129 : decode cX11_moment 129 = .ok (.getfield 92, 3) := by decide +kernel
theorem dX11_moment_132 : decode cX11_moment 132 = .ok (.iload 4, 2) := by decide +kernel
theorem dX11_moment_134 : decode cX11_moment 134 = .ok (.aload_n 0, 1) := by decide +kernel
theorem dX11_moment_135 : decode cX11_moment 135 = .ok (.iconst 2, 1) := by decide +kernel
theorem dX11_moment_136 : decode cX11_moment 136 = .ok (.iload_n 1, 1) := by decide +kernel
theorem dX11_moment_137 : decode cX11_moment 137 = .ok (.iload 4, 2) := by decide +kernel
theorem dX11_moment_139 : decode cX11_moment 139 = .ok (.invokevirtual 210, 3) := by decide +kernel
theorem dX11_moment_142 : decode cX11_moment 142 = .ok (.lastore, 1) := by decide +kernel
theorem dX11_moment_143 : decode cX11_moment 143 = .ok (.iinc 4 1, 3) := by decide +kernel
theorem dX11_moment_146 : decode cX11_moment 146 = .ok (.goto (-24), 3) := by decide +kernel
theorem dX11_moment_149 : decode cX11_moment 149 = .ok (.aload_n 0, 1) := by decide +kernel
theorem dX11_moment_150 : decode cX11_moment 150 = .ok (.invokevirtual 238, 3) := by decide +kernel
theorem dX11_moment_153 : decode cX11_moment 153 = .ok (.ifCond .eq 6, 3) := by decide +kernel
theorem dX11_moment_156 : decode cX11_moment 156 = .ok (.goto 145, 3) := by decide +kernel
theorem dX11_moment_159 : decode cX11_moment 159 = .ok (.bipush 10, 2) := by decide +kernel
theorem dX11_moment_161 : decode cX11_moment 161 = .ok (.aload_n 0, 1) := by decide +kernel
theorem dX11_moment_162 : decode cX11_moment 162 = .ok (.getfield 80, 3) := by decide +kernel
theorem dX11_moment_165 : decode cX11_moment 165 = .ok (.iconst 2, 1) := by decide +kernel
theorem dX11_moment_166 : decode cX11_moment 166 = .ok (.iaload, 1) := by decide +kernel
theorem dX11_moment_167 : decode cX11_moment 167 = .ok (.imul, 1) := by decide +kernel
theorem dX11_moment_168 : decode cX11_moment 168 = .ok (.istore 4, 2) := by decide +kernel
theorem dX11_moment_170 : decode cX11_moment 170 = .ok (.aload_n 0, 1) := by decide +kernel
theorem dX11_moment_171 : decode cX11_moment 171 = .ok (.getfield 80, 3) := by decide +kernel
theorem dX11_moment_174 : decode cX11_moment 174 = .ok (.iconst 2, 1) := by decide +kernel
theorem dX11_moment_175 : decode cX11_moment 175 = .ok (.iaload, 1) := by decide +kernel
theorem dX11_moment_176 : decode cX11_moment 176 = .ok (.bipush 50, 2) := by decide +kernel
theorem dX11_moment_178 : decode cX11_moment 178 = .ok (.if_icmp .ge 113, 3) := by decide +kernel
theorem dX11_moment_181 : decode cX11_moment 181 = .ok (.aload_n 0, 1) := by decide +kernel
theorem dX11_moment_182 : decode cX11_moment 182 = .ok (.getfield 86, 3) := by decide +kernel
theorem dX11_moment_185 : decode cX11_moment 185 = .ok (.iload 4, 2) := by decide +kernel
theorem dX11_moment_187 : decode cX11_moment 187 = .ok (.aload_n 0, 1) := by decide +kernel
theorem dX11_moment_188 : decode cX11_moment 188 = .ok (.getfield 80, 3) := by decide +kernel
theorem dX11_moment_191 : decode cX11_moment 191 = .ok (.iconst 0, 1) := by decide +kernel
theorem dX11_moment_192 : decode cX11_moment 192 = .ok (.iaload, 1) := by decide +kernel
theorem dX11_moment_193 : decode cX11_moment 193 = .ok (.iastore, 1) := by decide +kernel
theorem dX11_moment_194 : decode cX11_moment 194 = .ok (.aload_n 0, 1) := by decide +kernel
theorem dX11_moment_195 : decode cX11_moment 195 = .ok (.getfield 86, 3) := by decide +kernel
theorem dX11_moment_198 : decode cX11_moment 198 = .ok (.iload 4, 2) := by decide +kernel
theorem dX11_moment_200 : decode cX11_moment 200 = .ok (.iconst 1, 1) := by decide +kernel
theorem dX11_moment_201 : decode cX11_moment 201 = .ok (.iadd, 1) := by decide +kernel
theorem dX11_moment_202 : decode cX11_moment 202 = .ok (.iload_n 2, 1) := by decide +kernel
theorem dX11_moment_203 : decode cX11_moment 203 = .ok (.iastore, 1) := by decide +kernel
theorem dX11_moment_204 : decode cX11_moment 204 = .ok (.aload_n 0, 1) := by decide +kernel
theorem dX11_moment_205 : decode cX11_moment 205 = .ok (.getfield 86, 3) := by decide +kernel
theorem dX11_moment_208 : decode cX11_moment 208 = .ok (.iload 4, 2) := by decide +kernel
theorem dX11_moment_210 : decode cX11_moment 210 = .ok (.iconst 2, 1) := by decide +kernel
theorem dX11_moment_211 : decode cX11_moment 211 = .ok (.iadd, 1) := by decide +kernel
theorem dX11_moment_212 : decode cX11_moment 212 = .ok (.aload_n 0, 1) := by decide +kernel
theorem dX11_moment_213 : decode cX11_moment 213 = .ok (.getfield 235, 3) := by decide +kernel
theorem dX11_moment_216 : decode cX11_moment 216 = .ok (.iastore, 1) := by decide +kernel
theorem dX11_moment_217 : decode cX11_moment 217 = .ok (.aload_n 0, 1) := by decide +kernel
theorem dX11_moment_218 : decode cX11_moment 218 = .ok (.getfield 86, 3) := by decide +kernel
theorem dX11_moment_221 : decode cX11_moment 221 = .ok (.iload 4, 2) := by decide +kernel
theorem dX11_moment_223 : decode cX11_moment 223 = .ok (.iconst 3, 1) := by decide +kernel
theorem dX11_moment_224 : decode cX11_moment 224 = .ok (.iadd, 1) := by decide +kernel
theorem dX11_moment_225 : decode cX11_moment 225 = .ok (.aload_n 0, 1) := by decide +kernel
theorem dX11_moment_226 : decode cX11_moment 226 = .ok (.getfield 232, 3) := by decide +kernel
theorem dX11_moment_229 : decode cX11_moment 229 = .ok (.iastore, 1) := by decide +kernel
theorem dX11_moment_230 : decode cX11_moment 230 = .ok (.iconst 0, 1) := by decide +kernel
theorem dX11_moment_231 : decode cX11_moment 231 = .ok (.istore 5, 2) := by decide +kernel
theorem dX11_moment_233 : decode cX11_moment 233 = .ok (.iload 5, 2) := by decide +kernel
theorem dX11_moment_235 : decode cX11_moment 235 = .ok (.iconst 3, 1) := by decide +kernel
theorem dX11_moment_236 : decode cX11_moment 236 = .ok (.if_icmp .ge 55, 3) := by decide +kernel
theorem dX11_moment_239 : decode cX11_moment 239 = .ok (.aload_n 0, 1) := by decide +kernel
theorem dX11_moment_240 : decode cX11_moment 240 = .ok (.getfield 86, 3) := by decide +kernel
theorem dX11_moment_243 : decode cX11_moment 243 = .ok (.iload 4, 2) := by decide +kernel
theorem dX11_moment_245 : decode cX11_moment 245 = .ok (.iconst 4, 1) := by decide +kernel
theorem dX11_moment_246 : decode cX11_moment 246 = .ok (.iadd, 1) := by decide +kernel
theorem dX11_moment_247 : decode cX11_moment 247 = .ok (.iconst 2, 1) := by decide +kernel
theorem dX11_moment_248 : decode cX11_moment 248 = .ok (.iload 5, 2) := by decide +kernel
theorem dX11_moment_250 : decode cX11_moment 250 = .ok (.imul, 1) := by decide +kernel
theorem dX11_moment_251 : decode cX11_moment 251 = .ok (.iadd, 1) := by decide +kernel
theorem dX11_moment_252 : decode cX11_moment 252 = .ok (.aload_n 0, 1) := by decide +kernel
theorem dX11_moment_253 : decode cX11_moment 253 = .ok (.getfield 92, 3) := by decide +kernel
theorem dX11_moment_256 : decode cX11_moment 256 = .ok (.iload 5, 2) := by decide +kernel
theorem dX11_moment_258 : decode cX11_moment 258 = .ok (.laload, 1) := by decide +kernel
theorem dX11_moment_259 : decode cX11_moment 259 = .ok (.invokestatic 198, 3) := by decide +kernel
theorem dX11_moment_262 : decode cX11_moment 262 = .ok (.iastore, 1) := by decide +kernel
theorem dX11_moment_263 : decode cX11_moment 263 = .ok (.aload_n 0, 1) := by decide +kernel
theorem dX11_moment_264 : decode cX11_moment 264 = .ok (.getfield 86, 3) := by decide +kernel
theorem dX11_moment_267 : decode cX11_moment 267 = .ok (.iload 4, 2) := by decide +kernel
theorem dX11_moment_269 : decode cX11_moment 269 = .ok (.iconst 5, 1) := by decide +kernel
theorem dX11_moment_270 : decode cX11_moment 270 = .ok (.iadd, 1) := by decide +kernel
theorem dX11_moment_271 : decode cX11_moment 271 = .ok (.iconst 2, 1) := by decide +kernel
theorem dX11_moment_272 : decode cX11_moment 272 = .ok (.iload 5, 2) := by decide +kernel
theorem dX11_moment_274 : decode cX11_moment 274 = .ok (.imul, 1) := by decide +kernel
theorem dX11_moment_275 : decode cX11_moment 275 = .ok (.iadd, 1) := by decide +kernel
theorem dX11_moment_276 : decode cX11_moment 276 = .ok (.aload_n 0, 1) := by decide +kernel
theorem dX11_moment_277 : decode cX11_moment 277 = .ok (.getfield 92, 3) := by decide +kernel
theorem dX11_moment_280 : decode cX11_moment 280 = .ok (.iload 5, 2) := by decide +kernel
theorem dX11_moment_282 : decode cX11_moment 282 = .ok (.laload, 1) := by decide +kernel
theorem dX11_moment_283 : decode cX11_moment 283 = .ok (.l2i, 1) := by decide +kernel
theorem dX11_moment_284 : decode cX11_moment 284 = .ok (.iastore, 1) := by decide +kernel
theorem dX11_moment_285 : decode cX11_moment 285 = .ok (.iinc 5 1, 3) := by decide +kernel
theorem dX11_moment_288 : decode cX11_moment 288 = .ok (.goto (-55), 3) := by decide +kernel
theorem dX11_moment_291 : decode cX11_moment 291 = .ok (.aload_n 0, 1) := by decide +kernel
theorem dX11_moment_292 : decode cX11_moment 292 = .ok (.getfield 80, 3) := by decide +kernel
theorem dX11_moment_295 : decode cX11_moment 295 = .ok (.iconst 2, 1) := by decide +kernel
theorem dX11_moment_296 : decode cX11_moment 296 = .ok (.dup2, 1) := by decide +kernel
theorem dX11_moment_297 : decode cX11_moment 297 = .ok (.iaload, 1) := by decide +kernel
theorem dX11_moment_298 : decode cX11_moment 298 = .ok (.iconst 1, 1) := by decide +kernel
theorem dX11_moment_299 : decode cX11_moment 299 = .ok (.iadd, 1) := by decide +kernel
theorem dX11_moment_300 : decode cX11_moment 300 = .ok (.iastore, 1) := by decide +kernel
theorem dX11_moment_301 : decode cX11_moment 301 = .ok (.iinc 2 1, 3) := by decide +kernel
theorem dX11_moment_304 : decode cX11_moment 304 = .ok (.goto (-292), 3) := by decide +kernel
theorem dX11_moment_307 : decode cX11_moment 307 = .ok (.aload_n 0, 1) := by decide +kernel
theorem dX11_moment_308 : decode cX11_moment 308 = .ok (.getfield 80, 3) := by decide +kernel
theorem dX11_moment_311 : decode cX11_moment 311 = .ok (.iconst 0, 1) := by decide +kernel
theorem dX11_moment_312 : decode cX11_moment 312 = .ok (.dup2, 1) := by decide +kernel
theorem dX11_moment_313 : decode cX11_moment 313 = .ok (.iaload, 1) := by decide +kernel
theorem dX11_moment_314 : decode cX11_moment 314 = .ok (.iconst 1, 1) := by decide +kernel
theorem dX11_moment_315 : decode cX11_moment 315 = .ok (.iadd, 1) := by decide +kernel
theorem dX11_moment_316 : decode cX11_moment 316 = .ok (.iastore, 1) := by decide +kernel
theorem dX11_moment_317 : decode cX11_moment 317 = .ok (.aload_n 0, 1) := by decide +kernel
theorem dX11_moment_318 : decode cX11_moment 318 = .ok (.getfield 80, 3) := by decide +kernel
theorem dX11_moment_321 : decode cX11_moment 321 = .ok (.iconst 1, 1) := by decide +kernel
theorem dX11_moment_322 : decode cX11_moment 322 = .ok (.dup2, 1) := by decide +kernel
theorem dX11_moment_323 : decode cX11_moment 323 = .ok (.iaload, 1) := by decide +kernel
theorem dX11_moment_324 : decode cX11_moment 324 = .ok (.aload_n 0, 1) := by decide +kernel
theorem dX11_moment_325 : decode cX11_moment 325 = .ok (.getfield 137, 3) := by decide +kernel
theorem dX11_moment_328 : decode cX11_moment 328 = .ok (.iadd, 1) := by decide +kernel
theorem dX11_moment_329 : decode cX11_moment 329 = .ok (.iastore, 1) := by decide +kernel
theorem dX11_moment_330 : decode cX11_moment 330 = .ok (.aload_n 0, 1) := by decide +kernel
theorem dX11_moment_331 : decode cX11_moment 331 = .ok (.getfield 80, 3) := by decide +kernel
theorem dX11_moment_334 : decode cX11_moment 334 = .ok (.bipush 6, 2) := by decide +kernel
theorem dX11_moment_336 : decode cX11_moment 336 = .ok (.aload_n 0, 1) := by decide +kernel
theorem dX11_moment_337 : decode cX11_moment 337 = .ok (.getfield 137, 3) := by decide +kernel
theorem dX11_moment_340 : decode cX11_moment 340 = .ok (.aload_n 0, 1) := by decide +kernel
theorem dX11_moment_341 : decode cX11_moment 341 = .ok (.getfield 80, 3) := by decide +kernel
theorem dX11_moment_344 : decode cX11_moment 344 = .ok (.bipush 6, 2) := by decide +kernel
theorem dX11_moment_346 : decode cX11_moment 346 = .ok (.iaload, 1) := by decide +kernel
theorem dX11_moment_347 : decode cX11_moment 347 = .ok (.if_icmp .le 10, 3) := by decide +kernel
theorem dX11_moment_350 : decode cX11_moment 350 = .ok (.aload_n 0, 1) := by decide +kernel
theorem dX11_moment_351 : decode cX11_moment 351 = .ok (.getfield 137, 3) := by decide +kernel
theorem dX11_moment_354 : decode cX11_moment 354 = .ok (.goto 10, 3) := by decide +kernel
theorem dX11_moment_357 : decode cX11_moment 357 = .ok (.aload_n 0, 1) := by decide +kernel
theorem dX11_moment_358 : decode cX11_moment 358 = .ok (.getfield 80, 3) := by decide +kernel
theorem dX11_moment_361 : decode cX11_moment 361 = .ok (.bipush 6, 2) := by decide +kernel
theorem dX11_moment_363 : decode cX11_moment 363 = .ok (.iaload, 1) := by decide +kernel
theorem dX11_moment_364 : decode cX11_moment 364 = .ok (.iastore, 1) := by decide +kernel
theorem dX11_moment_365 : decode cX11_moment 365 = .ok (.iconst 1, 1) := by decide +kernel
theorem dX11_moment_366 : decode cX11_moment 366 = .ok (.ireturn, 1) := by decide +kernel
theorem dX11_goThroughAct_0 : decode cX11_goThroughAct 0 = .ok (.aload_n 0, 1) := by decide +kernel
theorem dX11_goThroughAct_1 : decode cX11_goThroughAct 1 = .ok (.iload_n 2, 1) := by decide +kernel
theorem dX11_goThroughAct_2 : decode cX11_goThroughAct 2 = .ok (.iconst 1, 1) := by decide +kernel
theorem dX11_goThroughAct_3 : decode cX11_goThroughAct 3 = .ok (.iadd, 1) := by decide +kernel
theorem dX11_goThroughAct_4 : decode cX11_goThroughAct 4 = .ok (.putfield 235, 3) := by decide +kernel
theorem dX11_goThroughAct_7 : decode cX11_goThroughAct 7 = .ok (.aload_n 0, 1) := by decide +kernel
theorem dX11_goThroughAct_8 : decode cX11_goThroughAct 8 = .ok (.getfield 64, 3) := by decide +kernel
theorem dX11_goThroughAct_11 : decode cX11_goThroughAct 11 = .ok (.iload_n 2, 1) := by decide +kernel
theorem dX11_goThroughAct_12 : decode cX11_goThroughAct 12 = .ok (.iaload, 1) := by decide +kernel
theorem dX11_goThroughAct_13 : decode cX11_goThroughAct 13 = .ok (.iconst 2, 1) := by decide +kernel
theorem dX11_goThroughAct_14 : decode cX11_goThroughAct 14 = .ok (.if_icmp .ne 32, 3) := by decide +kernel
theorem dX11_goThroughAct_17 : decode cX11_goThroughAct 17 = .ok (.aload_n 0, 1) := by decide +kernel
theorem dX11_goThroughAct_18 : decode cX11_goThroughAct 18 = .ok (.iconst 1, 1) := by decide +kernel
theorem dX11_goThroughAct_19 : decode cX11_goThroughAct 19 = .ok (.invokevirtual 122, 3) := by decide +kernel
theorem dX11_goThroughAct_22 : decode cX11_goThroughAct 22 = .ok (.istore_n 3, 1) := by decide +kernel
theorem dX11_goThroughAct_23 : decode cX11_goThroughAct 23 = .ok (.aload_n 0, 1) := by decide +kernel
theorem dX11_goThroughAct_24 : decode cX11_goThroughAct 24 = .ok (.getfield 80, 3) := by decide +kernel
theorem dX11_goThroughAct_27 : decode cX11_goThroughAct 27 = .ok (.iconst 5, 1) := by decide +kernel
theorem dX11_goThroughAct_28 : decode cX11_goThroughAct 28 = .ok (.dup2, 1) := by decide +kernel
theorem dX11_goThroughAct_29 : decode cX11_goThroughAct 29 = .ok (.iaload, 1) := by decide +kernel
theorem dX11_goThroughAct_30 : decode cX11_goThroughAct 30 = .ok (.iconst 1, 1) := by decide +kernel
theorem dX11_goThroughAct_31 : decode cX11_goThroughAct 31 = .ok (.iadd, 1) := by decide +kernel
theorem dX11_goThroughAct_32 : decode cX11_goThroughAct 32 = .ok (.iastore, 1) := by decide +kernel
theorem dX11_goThroughAct_33 : decode cX11_goThroughAct 33 = .ok (.aload_n 0, 1) := by decide +kernel
theorem dX11_goThroughAct_34 : decode cX11_goThroughAct 34 = .ok (.iload_n 2, 1) := by decide +kernel
theorem dX11_goThroughAct_35 : decode cX11_goThroughAct 35 = .ok (.iconst 1, 1) := by decide +kernel
theorem dX11_goThroughAct_36 : decode cX11_goThroughAct 36 = .ok (.iadd, 1) := by decide +kernel
theorem dX11_goThroughAct_37 : decode cX11_goThroughAct 37 = .ok (.putfield 232, 3) := by decide +kernel
theorem dX11_goThroughAct_40 : decode cX11_goThroughAct 40 = .ok (.aload_n 0, 1) := by decide +kernel
theorem dX11_goThroughAct_41 : decode cX11_goThroughAct 41 = .ok (.iload_n 1, 1) := by decide +kernel
theorem dX11_goThroughAct_42 : decode cX11_goThroughAct 42 = .ok (.invokevirtual 241, 3) := by decide +kernel
theorem dX11_goThroughAct_45 : decode cX11_goThroughAct 45 = .ok (.ireturn, 1) := by decide +kernel
theorem dX11_goThroughAct_46 : decode cX11_goThroughAct 46 = .ok (.aload_n 0, 1) := by decide +kernel
theorem dX11_goThroughAct_47 : decode cX11_goThroughAct 47 = .ok (.getfield 64, 3) := by decide +kernel
theorem dX11_goThroughAct_50 : decode cX11_goThroughAct 50 = .ok (.iload_n 2, 1) := by decide +kernel
theorem dX11_goThroughAct_51 : decode cX11_goThroughAct 51 = .ok (.iaload, 1) := by decide +kernel
theorem dX11_goThroughAct_52 : decode cX11_goThroughAct 52 = .ok (.ifCond .ne 27, 3) := by decide +kernel
theorem dX11_goThroughAct_55 : decode cX11_goThroughAct 55 = .ok (.aload_n 0, 1) := by decide +kernel
theorem dX11_goThroughAct_56 : decode cX11_goThroughAct 56 = .ok (.iconst 1, 1) := by decide +kernel
theorem dX11_goThroughAct_57 : decode cX11_goThroughAct 57 = .ok (.iload_n 1, 1) := by decide +kernel
theorem dX11_goThroughAct_58 : decode cX11_goThroughAct 58 = .ok (.aload_n 0, 1) := by decide +kernel
theorem dX11_goThroughAct_59 : decode cX11_goThroughAct 59 = .ok (.getfield 67, 3) := by decide +kernel
theorem dX11_goThroughAct_62 : decode cX11_goThroughAct 62 = .ok (.iload_n 2, 1) := by decide +kernel
theorem dX11_goThroughAct_63 : decode cX11_goThroughAct 63 = .ok (.iaload, 1) := by decide +kernel
theorem dX11_goThroughAct_64 : decode cX11_goThroughAct 64 = .ok (.aload_n 0, 1) := by decide +kernel
theorem dX11_goThroughAct_65 : decode cX11_goThroughAct 65 = .ok (.getfield 73, 3) := by decide +kernel
theorem dX11_goThroughAct_68 : decode cX11_goThroughAct 68 = .ok (.iload_n 2, 1) := by decide +kernel
theorem dX11_goThroughAct_69 : decode cX11_goThroughAct 69 = .ok (.laload, 1) := by decide +kernel
theorem dX11_goThroughAct_70 : decode cX11_goThroughAct 70 = .ok (.bipush (-9), 2) := by decide +kernel
theorem dX11_goThroughAct_72 : decode cX11_goThroughAct 72 = .ok (.lconst 0, 1) := by decide +kernel
theorem dX11_goThroughAct_73 : decode cX11_goThroughAct 73 = .ok (.invokevirtual 214, 3) := by decide +kernel
theorem dX11_goThroughAct_76 : decode cX11_goThroughAct 76 = .ok (.goto 34, 3) := by decide +kernel
theorem dX11_goThroughAct_79 : decode cX11_goThroughAct 79 = .ok (.aload_n 0, 1) := by decide +kernel
theorem dX11_goThroughAct_80 : decode cX11_goThroughAct 80 = .ok (.iconst 1, 1) := by decide +kernel
theorem dX11_goThroughAct_81 : decode cX11_goThroughAct 81 = .ok (.iload_n 1, 1) := by decide +kernel
theorem dX11_goThroughAct_82 : decode cX11_goThroughAct 82 = .ok (.aload_n 0, 1) := by decide +kernel
theorem dX11_goThroughAct_83 : decode cX11_goThroughAct 83 = .ok (.getfield 70, 3) := by decide +kernel
theorem dX11_goThroughAct_86 : decode cX11_goThroughAct 86 = .ok (.iload_n 2, 1) := by decide +kernel
theorem dX11_goThroughAct_87 : decode cX11_goThroughAct 87 = .ok (.iaload, 1) := by decide +kernel
theorem dX11_goThroughAct_88 : decode cX11_goThroughAct 88 = .ok (.aload_n 0, 1) := by decide +kernel
theorem dX11_goThroughAct_89 : decode cX11_goThroughAct 89 = .ok (.iconst 1, 1) := by decide +kernel
theorem dX11_goThroughAct_90 : decode cX11_goThroughAct 90 = .ok (.iload_n 1, 1) := by decide +kernel
theorem dX11_goThroughAct_91 : decode cX11_goThroughAct 91 = .ok (.aload_n 0, 1) := by decide +kernel
theorem dX11_goThroughAct_92 : decode cX11_goThroughAct 92 = .ok (.getfield 67, 3) := by decide +kernel
theorem dX11_goThroughAct_95 : decode cX11_goThroughAct 95 = .ok (.iload_n 2, 1) := by decide +kernel
theorem dX11_goThroughAct_96 : decode cX11_goThroughAct 96 = .ok (.iaload, 1) := by decide +kernel
theorem dX11_goThroughAct_97 : decode cX11_goThroughAct 97 = .ok (.invokevirtual 210, 3) := by decide +kernel
theorem dX11_goThroughAct_100 : decode cX11_goThroughAct 100 = .ok (.aload_n 0, 1) := by decide +kernel
theorem dX11_goThroughAct_101 : decode cX11_goThroughAct 101 = .ok (.getfield 67, 3) := by decide +kernel
theorem dX11_goThroughAct_104 : decode cX11_goThroughAct 104 = .ok (.iload_n 2, 1) := by decide +kernel
theorem dX11_goThroughAct_105 : decode cX11_goThroughAct 105 = .ok (.iaload, 1) := by decide +kernel
theorem dX11_goThroughAct_106 : decode cX11_goThroughAct 106 = .ok (.lconst 0, 1) := by decide +kernel
theorem dX11_goThroughAct_107 : decode cX11_goThroughAct 107 = .ok (.invokevirtual 214, 3) := by decide +kernel
theorem dX11_goThroughAct_110 : decode cX11_goThroughAct 110 = .ok (.aload_n 0, 1) := by decide +kernel
theorem dX11_goThroughAct_111 : decode cX11_goThroughAct 111 = .ok (.getfield 188, 3) := by decide +kernel
theorem dX11_goThroughAct_114 : decode cX11_goThroughAct 114 = .ok (.istore_n 3, 1) := by decide +kernel
theorem dX11_goThroughAct_115 : decode cX11_goThroughAct 115 = .ok (.iconst 0, 1) := by decide +kernel
theorem dX11_goThroughAct_116 : decode cX11_goThroughAct 116 = .ok (.istore 4, 2) := by decide +kernel
theorem dX11_goThroughAct_118 : decode cX11_goThroughAct 118 = .ok (.iload 4, 2) := by decide +kernel
theorem dX11_goThroughAct_120 : decode cX11_goThroughAct 120 = .ok (.iload_n 3, 1) := by decide +kernel
theorem dX11_goThroughAct_121 : decode cX11_goThroughAct 121 = .ok (.if_icmp .ge 51, 3) := by decide +kernel
theorem dX11_goThroughAct_124 : decode cX11_goThroughAct 124 = .ok (.aload_n 0, 1) := by decide +kernel
theorem dX11_goThroughAct_125 : decode cX11_goThroughAct 125 = .ok (.getfield 95, 3) := by decide +kernel
theorem dX11_goThroughAct_128 : decode cX11_goThroughAct 128 = .ok (.iload 4, 2) := by decide +kernel
theorem dX11_goThroughAct_130 : decode cX11_goThroughAct 130 = .ok (.aload_n 0, 1) := by decide +kernel
theorem dX11_goThroughAct_131 : decode cX11_goThroughAct 131 = .ok (.getfield 55, 3) := by decide +kernel
theorem dX11_goThroughAct_134 : decode cX11_goThroughAct 134 = .ok (.iload 4, 2) := by decide +kernel
theorem dX11_goThroughAct_136 : decode cX11_goThroughAct 136 = .ok (.iaload, 1) := by decide +kernel
theorem dX11_goThroughAct_137 : decode cX11_goThroughAct 137 = .ok (.iastore, 1) := by decide +kernel
theorem dX11_goThroughAct_138 : decode cX11_goThroughAct 138 = .ok (.aload_n 0, 1) := by decide +kernel
theorem dX11_goThroughAct_139 : decode cX11_goThroughAct 139 = .ok (.getfield 98, 3) := by decide +kernel
theorem dX11_goThroughAct_142 : decode cX11_goThroughAct 142 = .ok (.iload 4, 2) := by decide +kernel
theorem dX11_goThroughAct_144 : decode cX11_goThroughAct 144 = .ok (.aload_n 0, 1) := by decide +kernel
theorem dX11_goThroughAct_145 : decode cX11_goThroughAct 145 = .ok (.getfield 58, 3) := by decide +kernel
theorem dX11_goThroughAct_148 : decode cX11_goThroughAct 148 = .ok (.iload 4, 2) := by decide +kernel
theorem dX11_goThroughAct_150 : decode cX11_goThroughAct 150 = .ok (.iaload, 1) := by decide +kernel
theorem dX11_goThroughAct_151 : decode cX11_goThroughAct 151 = .ok (.iastore, 1) := by decide +kernel
theorem dX11_goThroughAct_152 : decode cX11_goThroughAct 152 = .ok (.aload_n 0, 1) := by decide +kernel
theorem dX11_goThroughAct_153 : decode cX11_goThroughAct 153 = .ok (.getfield 101, 3) := by decide +kernel
theorem dX11_goThroughAct_156 : decode cX11_goThroughAct 156 = .ok (.iload 4, 2) := by decide +kernel
theorem dX11_goThroughAct_158 : decode cX11_goThroughAct 158 = .ok (.aload_n 0, 1) := by decide +kernel
theorem dX11_goThroughAct_159 : decode cX11_goThroughAct 159 = .ok (.getfield 61, 3) := by decide +kernel
theorem dX11_goThroughAct_162 : decode cX11_goThroughAct 162 = .ok (.iload 4, 2) := by decide +kernel
theorem dX11_goThroughAct_164 : decode cX11_goThroughAct 164 = .ok (.iaload, 1) := by decide +kernel
theorem dX11_goThroughAct_165 : decode cX11_goThroughAct 165 = .ok (.iastore, 1) := by decide +kernel
theorem dX11_goThroughAct_166 : decode cX11_goThroughAct 166 = .ok (.iinc 4 1, 3) := by decide +kernel
theorem dX11_goThroughAct_169 : decode cX11_goThroughAct 169 = .ok (.goto (-51), 3) := by decide +kernel
theorem dX11_goThroughAct_172 : decode cX11_goThroughAct 172 = .ok (.iconst 0, 1) := by decide +kernel
theorem dX11_goThroughAct_173 : decode cX11_goThroughAct 173 = .ok (.istore 4, 2) := by decide +kernel
theorem dX11_goThroughAct_175 : decode cX11_goThroughAct 175 = .ok (.iload 4, 2) := by decide +kernel
theorem dX11_goThroughAct_177 : decode cX11_goThroughAct 177 = .ok (.iload_n 3, 1) := by decide +kernel
theorem dX11_goThroughAct_178 : decode cX11_goThroughAct 178 = .ok (.if_icmp .ge 86, 3) := by decide +kernel
theorem dX11_goThroughAct_181 : decode cX11_goThroughAct 181 = .ok (.aload_n 0, 1) := by decide +kernel
theorem dX11_goThroughAct_182 : decode cX11_goThroughAct 182 = .ok (.iconst 1, 1) := by decide +kernel
theorem dX11_goThroughAct_183 : decode cX11_goThroughAct 183 = .ok (.aload_n 0, 1) := by decide +kernel
theorem dX11_goThroughAct_184 : decode cX11_goThroughAct 184 = .ok (.getfield 95, 3) := by decide +kernel
theorem dX11_goThroughAct_187 : decode cX11_goThroughAct 187 = .ok (.iload 4, 2) := by decide +kernel
theorem dX11_goThroughAct_189 : decode cX11_goThroughAct 189 = .ok (.iaload, 1) := by decide +kernel
theorem dX11_goThroughAct_190 : decode cX11_goThroughAct 190 = .ok (.aload_n 0, 1) := by decide +kernel
theorem dX11_goThroughAct_191 : decode cX11_goThroughAct 191 = .ok (.getfield 98, 3) := by decide +kernel
theorem dX11_goThroughAct_194 : decode cX11_goThroughAct 194 = .ok (.iload 4, 2) := by decide +kernel
theorem dX11_goThroughAct_196 : decode cX11_goThroughAct 196 = .ok (.iaload, 1) := by decide +kernel
theorem dX11_goThroughAct_197 : decode cX11_goThroughAct 197 = .ok (.aload_n 0, 1) := by decide +kernel
theorem dX11_goThroughAct_198 : decode cX11_goThroughAct 198 = .ok (.getfield 101, 3) := by decide +kernel
theorem dX11_goThroughAct_201 : decode cX11_goThroughAct 201 = .ok (.iload 4, 2) := by decide +kernel
theorem dX11_goThroughAct_203 : decode cX11_goThroughAct 203 = .ok (.iaload, 1) := by decide +kernel
theorem dX11_goThroughAct_204 : decode cX11_goThroughAct 204 = .ok (.invokevirtual 118, 3) := by decide +kernel
theorem dX11_goThroughAct_207 : decode cX11_goThroughAct 207 = .ok (.ifCond .ne 5, 3) := by decide +kernel
theorem dX11_goThroughAct_210 : decode cX11_goThroughAct 210 = .ok (.iconst 0, 1) := by decide +kernel
theorem dX11_goThroughAct_211 : decode cX11_goThroughAct 211 = .ok (.ireturn, 1) := by decide +kernel
theorem dX11_goThroughAct_212 : decode cX11_goThroughAct 212 = .ok (.aload_n 0, 1) := by decide +kernel
theorem dX11_goThroughAct_213 : decode cX11_goThroughAct 213 = .ok (.getfield 80, 3) := by decide +kernel
theorem dX11_goThroughAct_216 : decode cX11_goThroughAct 216 = .ok (.aload_n 0, 1) := by decide +kernel
theorem dX11_goThroughAct_217 : decode cX11_goThroughAct 217 = .ok (.getfield 95, 3) := by decide +kernel
theorem dX11_goThroughAct_220 : decode cX11_goThroughAct 220 = .ok (.iload 4, 2) := by decide +kernel
theorem dX11_goThroughAct_222 : decode cX11_goThroughAct 222 = .ok (.iaload, 1) := by decide +kernel
theorem dX11_goThroughAct_223 : decode cX11_goThroughAct 223 = .ok (.iconst (-1), 1) := by decide +kernel
theorem dX11_goThroughAct_224 : decode cX11_goThroughAct 224 = .ok (.if_icmp .ne 7, 3) := by decide +kernel
theorem dX11_goThroughAct_227 : decode cX11_goThroughAct 227 = .ok (.iconst 4, 1) := by decide +kernel
theorem dX11_goThroughAct_228 : decode cX11_goThroughAct 228 = .ok (.goto 4, 3) := by decide +kernel
theorem dX11_goThroughAct_231 : decode cX11_goThroughAct 231 = .ok (.iconst 3, 1) := by decide +kernel
theorem dX11_goThroughAct_232 : decode cX11_goThroughAct 232 = .ok (.dup2, 1) := by decide +kernel
theorem dX11_goThroughAct_233 : decode cX11_goThroughAct 233 = .ok (.iaload, 1) := by decide +kernel
theorem dX11_goThroughAct_234 : decode cX11_goThroughAct 234 = .ok (.iconst 1, 1) := by decide +kernel
theorem dX11_goThroughAct_235 : decode cX11_goThroughAct 235 = .ok (.iadd, 1) := by decide +kernel
theorem dX11_goThroughAct_236 : decode cX11_goThroughAct 236 = .ok (.iastore, 1) := by decide +kernel
theorem dX11_goThroughAct_237 : decode cX11_goThroughAct 237 = .ok (.aload_n 0, 1) := by decide +kernel
theorem dX11_goThroughAct_238 : decode cX11_goThroughAct 238 = .ok (.getfield 95, 3) := by decide +kernel
theorem dX11_goThroughAct_241 : decode cX11_goThroughAct 241 = .ok (.iload 4, 2) := by decide +kernel
theorem dX11_goThroughAct_243 : decode cX11_goThroughAct 243 = .ok (.iaload, 1) := by decide +kernel
theorem dX11_goThroughAct_244 : decode cX11_goThroughAct 244 = .ok (.iconst (-1), 1) := by decide +kernel
theorem dX11_goThroughAct_245 : decode cX11_goThroughAct 245 = .ok (.if_icmp .eq 13, 3) := by decide +kernel
theorem dX11_goThroughAct_248 : decode cX11_goThroughAct 248 = .ok (.aload_n 0, 1) := by decide +kernel
theorem dX11_goThroughAct_249 : decode cX11_goThroughAct 249 = .ok (.iload_n 1, 1) := by decide +kernel
theorem dX11_goThroughAct_250 : decode cX11_goThroughAct 250 = .ok (.invokevirtual 241, 3) := by decide +kernel
theorem dX11_goThroughAct_253 : decode cX11_goThroughAct 253 = .ok (.ifCond .ne 5, 3) := by decide +kernel
theorem dX11_goThroughAct_256 : decode cX11_goThroughAct 256 = .ok (.iconst 0, 1) := by decide +kernel
theorem dX11_goThroughAct_257 : decode cX11_goThroughAct 257 = .ok (.ireturn, 1) := by decide +kernel
theorem dX11_goThroughAct_258 : decode cX11_goThroughAct 258 = .ok (.iinc 4 1, 3) := by decide +kernel
theorem dX11_goThroughAct_261 : decode cX11_goThroughAct 261 = .ok (.goto (-86), 3) := by decide +kernel
theorem dX11_goThroughAct_264 : decode cX11_goThroughAct 264 = .ok (.iconst 1, 1) := by decide +kernel
theorem dX11_goThroughAct_265 : decode cX11_goThroughAct 265 = .ok (.ireturn, 1) := by decide +kernel
theorem dX11_goThrough_0 : decode cX11_goThrough 0 = .ok (.iconst 0, 1) := by decide +kernel
theorem dX11_goThrough_1 : decode cX11_goThrough 1 = .ok (.istore_n 2, 1) := by decide +kernel
theorem dX11_goThrough_2 : decode cX11_goThrough 2 = .ok (.iload_n 2, 1) := by decide +kernel
theorem dX11_goThrough_3 : decode cX11_goThrough 3 = .ok (.bipush 7, 2) := by decide +kernel
theorem dX11_goThrough_5 : decode cX11_goThrough 5 = .ok (.if_icmp .ge 16, 3) := by decide +kernel
theorem dX11_goThrough_8 : decode cX11_goThrough 8 = .ok (.aload_n 0, 1) := by decide +kernel
theorem dX11_goThrough_9 : decode cX11_goThrough 9 = .ok (.getfield 80, 3) := by decide +kernel
theorem dX11_goThrough_12 : decode cX11_goThrough 12 = .ok (.iload_n 2, 1) := by decide +kernel
theorem dX11_goThrough_13 : decode cX11_goThrough 13 = .ok (.iconst 0, 1) := by decide +kernel
theorem dX11_goThrough_14 : decode cX11_goThrough 14 = .ok (.iastore, 1) := by decide +kernel
theorem dX11_goThrough_15 : decode cX11_goThrough 15 = .ok (.iinc 2 1, 3) := by decide +kernel
theorem dX11_goThrough_18 : decode cX11_goThrough 18 = .ok (.goto (-16), 3) := by decide +kernel
theorem dX11_goThrough_21 : decode cX11_goThrough 21 = .ok (.aload_n 0, 1) := by decide +kernel
theorem dX11_goThrough_22 : decode cX11_goThrough 22 = .ok (.invokevirtual 244, 3) := by decide +kernel
theorem dX11_goThrough_25 : decode cX11_goThrough 25 = .ok (.aload_n 0, 1) := by decide +kernel
theorem dX11_goThrough_26 : decode cX11_goThrough 26 = .ok (.iconst 1, 1) := by decide +kernel
theorem dX11_goThrough_27 : decode cX11_goThrough 27 = .ok (.iload_n 1, 1) := by decide +kernel
theorem dX11_goThrough_28 : decode cX11_goThrough 28 = .ok (.invokevirtual 167, 3) := by decide +kernel
theorem dX11_goThrough_31 : decode cX11_goThrough 31 = .ok (.aload_n 0, 1) := by decide +kernel
theorem dX11_goThrough_32 : decode cX11_goThrough 32 = .ok (.iconst 0, 1) := by decide +kernel
theorem dX11_goThrough_33 : decode cX11_goThrough 33 = .ok (.putfield 232, 3) := by decide +kernel
theorem dX11_goThrough_36 : decode cX11_goThrough 36 = .ok (.aload_n 0, 1) := by decide +kernel
theorem dX11_goThrough_37 : decode cX11_goThrough 37 = .ok (.iconst 0, 1) := by decide +kernel
theorem dX11_goThrough_38 : decode cX11_goThrough 38 = .ok (.putfield 235, 3) := by decide +kernel
theorem dX11_goThrough_41 : decode cX11_goThrough 41 = .ok (.aload_n 0, 1) := by decide +kernel
theorem dX11_goThrough_42 : decode cX11_goThrough 42 = .ok (.iload_n 1, 1) := by decide +kernel
theorem dX11_goThrough_43 : decode cX11_goThrough 43 = .ok (.invokevirtual 241, 3) := by decide +kernel
theorem dX11_goThrough_46 : decode cX11_goThrough 46 = .ok (.istore_n 2, 1) := by decide +kernel
theorem dX11_goThrough_47 : decode cX11_goThrough 47 = .ok (.iconst 0, 1) := by decide +kernel
theorem dX11_goThrough_48 : decode cX11_goThrough 48 = .ok (.istore_n 3, 1) := by decide +kernel
theorem dX11_goThrough_49 : decode cX11_goThrough 49 = .ok (.iload_n 3, 1) := by decide +kernel
theorem dX11_goThrough_50 : decode cX11_goThrough 50 = .ok (.aload_n 0, 1) := by decide +kernel
theorem dX11_goThrough_51 : decode cX11_goThrough 51 = .ok (.getfield 225, 3) := by decide +kernel
theorem dX11_goThrough_54 : decode cX11_goThrough 54 = .ok (.if_icmp .ge 20, 3) := by decide +kernel
theorem dX11_goThrough_57 : decode cX11_goThrough 57 = .ok (.iload_n 2, 1) := by decide +kernel
theorem dX11_goThrough_58 : decode cX11_goThrough 58 = .ok (.ifCond .eq 16, 3) := by decide +kernel
theorem dX11_goThrough_61 : decode cX11_goThrough 61 = .ok (.aload_n 0, 1) := by decide +kernel
theorem dX11_goThrough_62 : decode cX11_goThrough 62 = .ok (.iload_n 1, 1) := by decide +kernel
theorem dX11_goThrough_63 : decode cX11_goThrough 63 = .ok (.iload_n 3, 1) := by decide +kernel
theorem dX11_goThrough_64 : decode cX11_goThrough 64 = .ok (.invokevirtual 247, 3) := by decide +kernel
theorem dX11_goThrough_67 : decode cX11_goThrough 67 = .ok (.istore_n 2, 1) := by decide +kernel
theorem dX11_goThrough_68 : decode cX11_goThrough 68 = .ok (.iinc 3 1, 3) := by decide +kernel
theorem dX11_goThrough_71 : decode cX11_goThrough 71 = .ok (.goto (-22), 3) := by decide +kernel
theorem dX11_goThrough_74 : decode cX11_goThrough 74 = .ok (.iload_n 2, 1) := by decide +kernel
theorem dX11_goThrough_75 : decode cX11_goThrough 75 = .ok (.ireturn, 1) := by decide +kernel
theorem dX11_through_0 : decode cX11_through 0 = .ok (.aload_n 0, 1) := by decide +kernel
theorem dX11_through_1 : decode cX11_through 1 = .ok (.iconst 0, 1) := by decide +kernel
theorem dX11_through_2 : decode cX11_through 2 = .ok (.putfield 104, 3) := by decide +kernel
theorem dX11_through_5 : decode cX11_through 5 = .ok (.iload_n 1, 1) := by decide +kernel
theorem dX11_through_6 : decode cX11_through 6 = .ok (.iconst 0, 1) := by decide +kernel
theorem dX11_through_7 : decode cX11_through 7 = .ok (.iconst 2, 1) := by decide +kernel
theorem dX11_through_8 : decode cX11_through 8 = .ok (.invokestatic 110, 3) := by decide +kernel
theorem dX11_through_11 : decode cX11_through 11 = .ok (.ifCond .ne 10, 3) := by decide +kernel
theorem dX11_through_14 : decode cX11_through 14 = .ok (.aload_n 0, 1) := by decide +kernel
theorem dX11_through_15 : decode cX11_through 15 = .ok (.bipush (-2), 2) := by decide +kernel
theorem dX11_through_17 : decode cX11_through 17 = .ok (.invokevirtual 114, 3) := by decide +kernel
theorem dX11_through_20 : decode cX11_through 20 = .ok (.ireturn, 1) := by decide +kernel
theorem dX11_through_21 : decode cX11_through 21 = .ok (.aload_n 0, 1) := by decide +kernel
theorem dX11_through_22 : decode cX11_through 22 = .ok (.iload_n 1, 1) := by decide +kernel
theorem dX11_through_23 : decode cX11_through 23 = .ok (.invokevirtual 250, 3) := by decide +kernel
theorem dX11_through_26 : decode cX11_through 26 = .ok (.ifCond .ne 10, 3) := by decide +kernel
theorem dX11_through_29 : decode cX11_through 29 = .ok (.aload_n 0, 1) := by decide +kernel
theorem dX11_through_30 : decode cX11_through 30 = .ok (.bipush (-6), 2) := by decide +kernel
theorem dX11_through_32 : decode cX11_through 32 = .ok (.invokevirtual 114, 3) := by decide +kernel
theorem dX11_through_35 : decode cX11_through 35 = .ok (.ireturn, 1) := by decide +kernel
theorem dX11_through_36 : decode cX11_through 36 = .ok (.iconst 0, 1) := by decide +kernel
theorem dX11_through_37 : decode cX11_through 37 = .ok (.istore_n 2, 1) := by decide +kernel
theorem dX11_through_38 : decode cX11_through 38 = .ok (.iload_n 2, 1) := by decide +kernel
theorem dX11_through_39 : decode cX11_through 39 = .ok (.bipush 7, 2) := by decide +kernel
theorem dX11_through_41 : decode cX11_through 41 = .ok (.if_icmp .ge 21, 3) := by decide +kernel
theorem dX11_through_44 : decode cX11_through 44 = .ok (.aload_n 0, 1) := by decide +kernel
theorem dX11_through_45 : decode cX11_through 45 = .ok (.getfield 83, 3) := by decide +kernel
theorem dX11_through_48 : decode cX11_through 48 = .ok (.iload_n 2, 1) := by decide +kernel
theorem dX11_through_49 : decode cX11_through 49 = .ok (.aload_n 0, 1) := by decide +kernel
theorem dX11_through_50 : decode cX11_through 50 = .ok (.getfield 80, 3) := by decide +kernel
theorem dX11_through_53 : decode cX11_through 53 = .ok (.iload_n 2, 1) := by decide +kernel
theorem dX11_through_54 : decode cX11_through 54 = .ok (.iaload, 1) := by decide +kernel
theorem dX11_through_55 : decode cX11_through 55 = .ok (.iastore, 1) := by decide +kernel
theorem dX11_through_56 : decode cX11_through 56 = .ok (.iinc 2 1, 3) := by decide +kernel
theorem dX11_through_59 : decode cX11_through 59 = .ok (.goto (-21), 3) := by decide +kernel
theorem dX11_through_62 : decode cX11_through 62 = .ok (.iconst 0, 1) := by decide +kernel
theorem dX11_through_63 : decode cX11_through 63 = .ok (.istore_n 2, 1) := by decide +kernel
theorem dX11_through_64 : decode cX11_through 64 = .ok (.iload_n 2, 1) := by decide +kernel
theorem dX11_through_65 : decode cX11_through 65 = .ok (.sipush 500, 3) := by decide +kernel
theorem dX11_through_68 : decode cX11_through 68 = .ok (.if_icmp .ge 21, 3) := by decide +kernel
theorem dX11_through_71 : decode cX11_through 71 = .ok (.aload_n 0, 1) := by decide +kernel
theorem dX11_through_72 : decode cX11_through 72 = .ok (.getfield 89, 3) := by decide +kernel
theorem dX11_through_75 : decode cX11_through 75 = .ok (.iload_n 2, 1) := by decide +kernel
theorem dX11_through_76 : decode cX11_through 76 = .ok (.aload_n 0, 1) := by decide +kernel
theorem dX11_through_77 : decode cX11_through 77 = .ok (.getfield 86, 3) := by decide +kernel
theorem dX11_through_80 : decode cX11_through 80 = .ok (.iload_n 2, 1) := by decide +kernel
theorem dX11_through_81 : decode cX11_through 81 = .ok (.iaload, 1) := by decide +kernel
theorem dX11_through_82 : decode cX11_through 82 = .ok (.iastore, 1) := by decide +kernel
theorem dX11_through_83 : decode cX11_through 83 = .ok (.iinc 2 1, 3) := by decide +kernel
theorem dX11_through_86 : decode cX11_through 86 = .ok (.goto (-22), 3) := by decide +kernel
theorem dX11_through_89 : decode cX11_through 89 = .ok (.aload_n 0, 1) := by decide +kernel
theorem dX11_through_90 : decode cX11_through 90 = .ok (.getfield 83, 3) := by decide +kernel
theorem dX11_through_93 : decode cX11_through 93 = .ok (.iconst 2, 1) := by decide +kernel
theorem dX11_through_94 : decode cX11_through 94 = .ok (.iaload, 1) := by decide +kernel
theorem dX11_through_95 : decode cX11_through 95 = .ok (.ireturn, 1) := by decide +kernel
theorem dX11_gone_0 : decode cX11_gone 0 = .ok (.aload_n 0, 1) := by decide +kernel
theorem dX11_gone_1 : decode cX11_gone 1 = .ok (.iconst 0, 1) := by decide +kernel
theorem dX11_gone_2 : decode cX11_gone 2 = .ok (.putfield 104, 3) := by decide +kernel
theorem dX11_gone_5 : decode cX11_gone 5 = .ok (.iload_n 1, 1) := by decide +kernel
theorem dX11_gone_6 : decode cX11_gone 6 = .ok (.iconst 0, 1) := by decide +kernel
theorem dX11_gone_7 : decode cX11_gone 7 = .ok (.bipush 6, 2) := by decide +kernel
theorem dX11_gone_9 : decode cX11_gone 9 = .ok (.invokestatic 110, 3) := by decide +kernel
theorem dX11_gone_12 : decode cX11_gone 12 = .ok (.ifCond .eq 12, 3) := by decide +kernel
theorem dX11_gone_15 : decode cX11_gone 15 = .ok (.aload_n 0, 1) := by decide +kernel
theorem dX11_gone_16 : decode cX11_gone 16 = .ok (.getfield 83, 3) := by decide +kernel
theorem dX11_gone_19 : decode cX11_gone 19 = .ok (.iload_n 1, 1) := by decide +kernel
theorem dX11_gone_20 : decode cX11_gone 20 = .ok (.iaload, 1) := by decide +kernel
theorem dX11_gone_21 : decode cX11_gone 21 = .ok (.goto 5, 3) := by decide +kernel
theorem dX11_gone_24 : decode cX11_gone 24 = .ok (.bipush (-9), 2) := by decide +kernel
theorem dX11_gone_26 : decode cX11_gone 26 = .ok (.ireturn, 1) := by decide +kernel
theorem dX11_bad_0 : decode cX11_bad 0 = .ok (.aload_n 0, 1) := by decide +kernel
theorem dX11_bad_1 : decode cX11_bad 1 = .ok (.iconst 0, 1) := by decide +kernel
theorem dX11_bad_2 : decode cX11_bad 2 = .ok (.putfield 104, 3) := by decide +kernel
theorem dX11_bad_5 : decode cX11_bad 5 = .ok (.iload_n 1, 1) := by decide +kernel
theorem dX11_bad_6 : decode cX11_bad 6 = .ok (.iconst 0, 1) := by decide +kernel
theorem dX11_bad_7 : decode cX11_bad 7 = .ok (.aload_n 0, 1) := by decide +kernel
theorem dX11_bad_8 : decode cX11_bad 8 = .ok (.getfield 83, 3) := by decide +kernel
theorem dX11_bad_11 : decode cX11_bad 11 = .ok (.iconst 2, 1) := by decide +kernel
theorem dX11_bad_12 : decode cX11_bad 12 = .ok (.iaload, 1) := by decide +kernel
theorem dX11_bad_13 : decode cX11_bad 13 = .ok (.bipush 50, 2) := by decide +kernel
theorem dX11_bad_15 : decode cX11_bad 15 = .ok (.if_icmp .ge 12, 3) := by decide +kernel
theorem dX11_bad_18 : decode cX11_bad 18 = .ok (.aload_n 0, 1) := by decide +kernel
theorem dX11_bad_19 : decode cX11_bad 19 = .ok (.getfield 83, 3) := by decide +kernel
theorem dX11_bad_22 : decode cX11_bad 22 = .ok (.iconst 2, 1) := by decide +kernel
theorem dX11_bad_23 : decode cX11_bad 23 = .ok (.iaload, 1) := by decide +kernel
theorem dX11_bad_24 : decode cX11_bad 24 = .ok (.goto 5, 3) := by decide +kernel
theorem dX11_bad_27 : decode cX11_bad 27 = .ok (.bipush 50, 2) := by decide +kernel
theorem dX11_bad_29 : decode cX11_bad 29 = .ok (.iconst 1, 1) := by decide +kernel
theorem dX11_bad_30 : decode cX11_bad 30 = .ok (.isub, 1) := by decide +kernel
theorem dX11_bad_31 : decode cX11_bad 31 = .ok (.invokestatic 110, 3) := by decide +kernel
theorem dX11_bad_34 : decode cX11_bad 34 = .ok (.ifCond .ne 9, 3) := by decide +kernel
theorem dX11_bad_37 : decode cX11_bad 37 = .ok (.aload_n 0, 1) := by decide +kernel
theorem dX11_bad_38 : decode cX11_bad 38 = .ok (.iconst (-1), 1) := by decide +kernel
theorem dX11_bad_39 : decode cX11_bad 39 = .ok (.invokevirtual 114, 3) := by decide +kernel
theorem dX11_bad_42 : decode cX11_bad 42 = .ok (.ireturn, 1) := by decide +kernel
theorem dX11_bad_43 : decode cX11_bad 43 = .ok (.iload_n 2, 1) := by decide +kernel
theorem dX11_bad_44 : decode cX11_bad 44 = .ok (.iconst 0, 1) := by decide +kernel
theorem dX11_bad_45 : decode cX11_bad 45 = .ok (.bipush 9, 2) := by decide +kernel
theorem dX11_bad_47 : decode cX11_bad 47 = .ok (.invokestatic 110, 3) := by decide +kernel
theorem dX11_bad_50 : decode cX11_bad 50 = .ok (.ifCond .eq 17, 3) := by decide +kernel
theorem dX11_bad_53 : decode cX11_bad 53 = .ok (.aload_n 0, 1) := by decide +kernel
theorem dX11_bad_54 : decode cX11_bad 54 = .ok (.getfield 89, 3) := by decide +kernel
theorem dX11_bad_57 : decode cX11_bad 57 = .ok (.bipush 10, 2) := by decide +kernel
theorem dX11_bad_59 : decode cX11_bad 59 = .ok (.iload_n 1, 1) := by decide +kernel
theorem dX11_bad_60 : decode cX11_bad 60 = .ok (.imul, 1) := by decide +kernel
theorem dX11_bad_61 : decode cX11_bad 61 = .ok (.iload_n 2, 1) := by decide +kernel
theorem dX11_bad_62 : decode cX11_bad 62 = .ok (.iadd, 1) := by decide +kernel
theorem dX11_bad_63 : decode cX11_bad 63 = .ok (.iaload, 1) := by decide +kernel
theorem dX11_bad_64 : decode cX11_bad 64 = .ok (.goto 5, 3) := by decide +kernel
theorem dX11_bad_67 : decode cX11_bad 67 = .ok (.bipush (-9), 2) := by decide +kernel
theorem dX11_bad_69 : decode cX11_bad 69 = .ok (.ireturn, 1) := by decide +kernel
theorem dX11_spare_0 : decode cX11_spare 0 = .ok (.aload_n 0, 1) := by decide +kernel
theorem dX11_spare_1 : decode cX11_spare 1 = .ok (.iconst 0, 1) := by decide +kernel
theorem dX11_spare_2 : decode cX11_spare 2 = .ok (.putfield 104, 3) := by decide +kernel
theorem dX11_spare_5 : decode cX11_spare 5 = .ok (.iload_n 1, 1) := by decide +kernel
theorem dX11_spare_6 : decode cX11_spare 6 = .ok (.iconst 0, 1) := by decide +kernel
theorem dX11_spare_7 : decode cX11_spare 7 = .ok (.iconst 2, 1) := by decide +kernel
theorem dX11_spare_8 : decode cX11_spare 8 = .ok (.invokestatic 110, 3) := by decide +kernel
theorem dX11_spare_11 : decode cX11_spare 11 = .ok (.ifCond .eq 31, 3) := by decide +kernel
theorem dX11_spare_14 : decode cX11_spare 14 = .ok (.iload_n 2, 1) := by decide +kernel
theorem dX11_spare_15 : decode cX11_spare 15 = .ok (.iconst 0, 1) := by decide +kernel
theorem dX11_spare_16 : decode cX11_spare 16 = .ok (.iload_n 1, 1) := by decide +kernel
theorem dX11_spare_17 : decode cX11_spare 17 = .ok (.invokestatic 170, 3) := by decide +kernel
theorem dX11_spare_20 : decode cX11_spare 20 = .ok (.iconst 1, 1) := by decide +kernel
theorem dX11_spare_21 : decode cX11_spare 21 = .ok (.isub, 1) := by decide +kernel
theorem dX11_spare_22 : decode cX11_spare 22 = .ok (.invokestatic 110, 3) := by decide +kernel
theorem dX11_spare_25 : decode cX11_spare 25 = .ok (.ifCond .eq 17, 3) := by decide +kernel
theorem dX11_spare_28 : decode cX11_spare 28 = .ok (.aload_n 0, 1) := by decide +kernel
theorem dX11_spare_29 : decode cX11_spare 29 = .ok (.getfield 29, 3) := by decide +kernel
theorem dX11_spare_32 : decode cX11_spare 32 = .ok (.iconst 4, 1) := by decide +kernel
theorem dX11_spare_33 : decode cX11_spare 33 = .ok (.iload_n 1, 1) := by decide +kernel
theorem dX11_spare_34 : decode cX11_spare 34 = .ok (.imul, 1) := by decide +kernel
theorem dX11_spare_35 : decode cX11_spare 35 = .ok (.iload_n 2, 1) := by decide +kernel
theorem dX11_spare_36 : decode cX11_spare 36 = .ok (.iadd, 1) := by decide +kernel
theorem dX11_spare_37 : decode cX11_spare 37 = .ok (.baload, 1) := by decide +kernel
theorem dX11_spare_38 : decode cX11_spare 38 = .ok (.iload_n 3, 1) := by decide +kernel
theorem dX11_spare_39 : decode cX11_spare 39 = .ok (.if_icmp .ne 5, 3) := by decide +kernel
theorem dX11_spare_42 : decode cX11_spare 42 = .ok (.iconst 0, 1) := by decide +kernel
theorem dX11_spare_43 : decode cX11_spare 43 = .ok (.ireturn, 1) := by decide +kernel
theorem dX11_spare_44 : decode cX11_spare 44 = .ok (.aload_n 0, 1) := by decide +kernel
theorem dX11_spare_45 : decode cX11_spare 45 = .ok (.getfield 29, 3) := by decide +kernel
theorem dX11_spare_48 : decode cX11_spare 48 = .ok (.iconst 4, 1) := by decide +kernel
theorem dX11_spare_49 : decode cX11_spare 49 = .ok (.iload_n 1, 1) := by decide +kernel
theorem dX11_spare_50 : decode cX11_spare 50 = .ok (.imul, 1) := by decide +kernel
theorem dX11_spare_51 : decode cX11_spare 51 = .ok (.iload_n 2, 1) := by decide +kernel
theorem dX11_spare_52 : decode cX11_spare 52 = .ok (.iadd, 1) := by decide +kernel
theorem dX11_spare_53 : decode cX11_spare 53 = .ok (.iload_n 3, 1) := by decide +kernel
theorem dX11_spare_54 : decode cX11_spare 54 = .ok (.bastore, 1) := by decide +kernel
theorem dX11_spare_55 : decode cX11_spare 55 = .ok (.iconst 1, 1) := by decide +kernel
theorem dX11_spare_56 : decode cX11_spare 56 = .ok (.ireturn, 1) := by decide +kernel
theorem dX11_least_0 : decode cX11_least 0 = .ok (.aload_n 0, 1) := by decide +kernel
theorem dX11_least_1 : decode cX11_least 1 = .ok (.iconst 0, 1) := by decide +kernel
theorem dX11_least_2 : decode cX11_least 2 = .ok (.putfield 104, 3) := by decide +kernel
theorem dX11_least_5 : decode cX11_least 5 = .ok (.iload_n 1, 1) := by decide +kernel
theorem dX11_least_6 : decode cX11_least 6 = .ok (.iconst 0, 1) := by decide +kernel
theorem dX11_least_7 : decode cX11_least 7 = .ok (.iconst 2, 1) := by decide +kernel
theorem dX11_least_8 : decode cX11_least 8 = .ok (.invokestatic 110, 3) := by decide +kernel
theorem dX11_least_11 : decode cX11_least 11 = .ok (.ifCond .ne 10, 3) := by decide +kernel
theorem dX11_least_14 : decode cX11_least 14 = .ok (.aload_n 0, 1) := by decide +kernel
theorem dX11_least_15 : decode cX11_least 15 = .ok (.bipush (-2), 2) := by decide +kernel
theorem dX11_least_17 : decode cX11_least 17 = .ok (.invokevirtual 114, 3) := by decide +kernel
theorem dX11_least_20 : decode cX11_least 20 = .ok (.ireturn, 1) := by decide +kernel
theorem dX11_least_21 : decode cX11_least 21 = .ok (.iconst 0, 1) := by decide +kernel
theorem dX11_least_22 : decode cX11_least 22 = .ok (.istore_n 2, 1) := by decide +kernel
theorem dX11_least_23 : decode cX11_least 23 = .ok (.iload_n 1, 1) := by decide +kernel
theorem dX11_least_24 : decode cX11_least 24 = .ok (.invokestatic 170, 3) := by decide +kernel
theorem dX11_least_27 : decode cX11_least 27 = .ok (.istore_n 3, 1) := by decide +kernel
theorem dX11_least_28 : decode cX11_least 28 = .ok (.iconst 0, 1) := by decide +kernel
theorem dX11_least_29 : decode cX11_least 29 = .ok (.istore 4, 2) := by decide +kernel
theorem dX11_least_31 : decode cX11_least 31 = .ok (.iload 4, 2) := by decide +kernel
theorem dX11_least_33 : decode cX11_least 33 = .ok (.iload_n 3, 1) := by decide +kernel
theorem dX11_least_34 : decode cX11_least 34 = .ok (.if_icmp .ge 46, 3) := by decide +kernel
theorem dX11_least_37 : decode cX11_least 37 = .ok (.iload_n 2, 1) := by decide +kernel
theorem dX11_least_38 : decode cX11_least 38 = .ok (.aload_n 0, 1) := by decide +kernel
theorem dX11_least_39 : decode cX11_least 39 = .ok (.getfield 29, 3) := by decide +kernel
theorem dX11_least_42 : decode cX11_least 42 = .ok (.iconst 4, 1) := by decide +kernel
theorem dX11_least_43 : decode cX11_least 43 = .ok (.iload_n 1, 1) := by decide +kernel
theorem dX11_least_44 : decode cX11_least 44 = .ok (.imul, 1) := by decide +kernel
theorem dX11_least_45 : decode cX11_least 45 = .ok (.iload 4, 2) := by decide +kernel
theorem dX11_least_47 : decode cX11_least 47 = .ok (.iadd, 1) := by decide +kernel
theorem dX11_least_48 : decode cX11_least 48 = .ok (.baload, 1) := by decide +kernel
theorem dX11_least_49 : decode cX11_least 49 = .ok (.ifCond .eq 10, 3) := by decide +kernel
theorem dX11_least_52 : decode cX11_least 52 = .ok (.iconst 1, 1) := by decide +kernel
theorem dX11_least_53 : decode cX11_least 53 = .ok (.iload 4, 2) := by decide +kernel
theorem dX11_least_55 : decode cX11_least 55 = .ok (.ishl, 1) := by decide +kernel
theorem dX11_least_56 : decode cX11_least 56 = .ok (.goto 4, 3) := by decide +kernel
theorem dX11_least_59 : decode cX11_least 59 = .ok (.iconst 0, 1) := by decide +kernel
theorem dX11_least_60 : decode cX11_least 60 = .ok (.ior, 1) := by decide +kernel
theorem dX11_least_61 : decode cX11_least 61 = .ok (.istore_n 2, 1) := by decide +kernel
theorem dX11_least_62 : decode cX11_least 62 = .ok (.aload_n 0, 1) := by decide +kernel
theorem dX11_least_63 : decode cX11_least 63 = .ok (.getfield 29, 3) := by decide +kernel
theorem dX11_least_66 : decode cX11_least 66 = .ok (.iconst 4, 1) := by decide +kernel
theorem dX11_least_67 : decode cX11_least 67 = .ok (.iload_n 1, 1) := by decide +kernel
theorem dX11_least_68 : decode cX11_least 68 = .ok (.imul, 1) := by decide +kernel
theorem dX11_least_69 : decode cX11_least 69 = .ok (.iload 4, 2) := by decide +kernel
theorem dX11_least_71 : decode cX11_least 71 = .ok (.iadd, 1) := by decide +kernel
theorem dX11_least_72 : decode cX11_least 72 = .ok (.iconst 0, 1) := by decide +kernel
theorem dX11_least_73 : decode cX11_least 73 = .ok (.bastore, 1) := by decide +kernel
theorem dX11_least_74 : decode cX11_least 74 = .ok (.iinc 4 1, 3) := by decide +kernel
theorem dX11_least_77 : decode cX11_least 77 = .ok (.goto (-46), 3) := by decide +kernel
theorem dX11_least_80 : decode cX11_least 80 = .ok (.aload_n 0, 1) := by decide +kernel
theorem dX11_least_81 : decode cX11_least 81 = .ok (.iload_n 1, 1) := by decide +kernel
theorem dX11_least_82 : decode cX11_least 82 = .ok (.invokevirtual 250, 3) := by decide +kernel
theorem dX11_least_85 : decode cX11_least 85 = .ok (.istore 4, 2) := by decide +kernel
theorem dX11_least_87 : decode cX11_least 87 = .ok (.iload 4, 2) := by decide +kernel
theorem dX11_least_89 : decode cX11_least 89 = .ok (.ifCond .eq 16, 3) := by decide +kernel
theorem dX11_least_92 : decode cX11_least 92 = .ok (.aload_n 0, 1) := by decide +kernel
theorem dX11_least_93 : decode cX11_least 93 = .ok (.getfield 80, 3) := by decide +kernel
theorem dX11_least_96 : decode cX11_least 96 = .ok (.iconst 2, 1) := by decide +kernel
theorem dX11_least_97 : decode cX11_least 97 = .ok (.iaload, 1) := by decide +kernel
theorem dX11_least_98 : decode cX11_least 98 = .ok (.ifCond .ne 7, 3) := by decide +kernel
theorem dX11_least_101 : decode cX11_least 101 = .ok (.iconst 1, 1) := by decide +kernel
theorem dX11_least_102 : decode cX11_least 102 = .ok (.goto 4, 3) := by decide +kernel
theorem dX11_least_105 : decode cX11_least 105 = .ok (.iconst 0, 1) := by decide +kernel
theorem dX11_least_106 : decode cX11_least 106 = .ok (.istore 5, 2) := by decide +kernel
theorem dX11_least_108 : decode cX11_least 108 = .ok (.iconst 0, 1) := by decide +kernel
theorem dX11_least_109 : decode cX11_least 109 = .ok (.istore 6, 2) := by decide +kernel
theorem dX11_least_111 : decode cX11_least 111 = .ok (.iconst 0, 1) := by decide +kernel
theorem dX11_least_112 : decode cX11_least 112 = .ok (.istore 7, 2) := by decide +kernel
theorem dX11_least_114 : decode cX11_least 114 = .ok (.iload 7, 2) := by decide +kernel
theorem dX11_least_116 : decode cX11_least 116 = .ok (.iload_n 3, 1) := by decide +kernel
theorem dX11_least_117 : decode cX11_least 117 = .ok (.if_icmp .ge 64, 3) := by decide +kernel
theorem dX11_least_120 : decode cX11_least 120 = .ok (.iload 5, 2) := by decide +kernel
theorem dX11_least_122 : decode cX11_least 122 = .ok (.ifCond .eq 59, 3) := by decide +kernel
theorem dX11_least_125 : decode cX11_least 125 = .ok (.aload_n 0, 1) := by decide +kernel
theorem dX11_least_126 : decode cX11_least 126 = .ok (.getfield 29, 3) := by decide +kernel
theorem dX11_least_129 : decode cX11_least 129 = .ok (.iconst 4, 1) := by decide +kernel
theorem dX11_least_130 : decode cX11_least 130 = .ok (.iload_n 1, 1) := by decide +kernel
theorem dX11_least_131 : decode cX11_least 131 = .ok (.imul, 1) := by decide +kernel
theorem dX11_least_132 : decode cX11_least 132 = .ok (.iload 7, 2) := by decide +kernel
theorem dX11_least_134 : decode cX11_least 134 = .ok (.iadd, 1) := by decide +kernel
theorem dX11_least_135 : decode cX11_least 135 = .ok (.iconst 1, 1) := by decide +kernel
theorem dX11_least_136 : decode cX11_least 136 = .ok (.bastore, 1) := by decide +kernel
theorem dX11_least_137 : decode cX11_least 137 = .ok (.aload_n 0, 1) := by decide +kernel
theorem dX11_least_138 : decode cX11_least 138 = .ok (.iload_n 1, 1) := by decide +kernel
theorem dX11_least_139 : decode cX11_least 139 = .ok (.invokevirtual 250, 3) := by decide +kernel
theorem dX11_least_142 : decode cX11_least 142 = .ok (.ifCond .eq 12, 3) := by decide +kernel
theorem dX11_least_145 : decode cX11_least 145 = .ok (.aload_n 0, 1) := by decide +kernel
theorem dX11_least_146 : decode cX11_least 146 = .ok (.getfield 80, 3) := by decide +kernel
theorem dX11_least_149 : decode cX11_least 149 = .ok (.iconst 2, 1) := by decide +kernel
theorem dX11_least_150 : decode cX11_least 150 = .ok (.iaload, 1) := by decide +kernel
theorem dX11_least_151 : decode cX11_least 151 = .ok (.ifCond .le 24, 3) := by decide +kernel
theorem dX11_least_154 : decode cX11_least 154 = .ok (.aload_n 0, 1) := by decide +kernel
theorem dX11_least_155 : decode cX11_least 155 = .ok (.getfield 29, 3) := by decide +kernel
theorem dX11_least_158 : decode cX11_least 158 = .ok (.iconst 4, 1) := by decide +kernel
theorem dX11_least_159 : decode cX11_least 159 = .ok (.iload_n 1, 1) := by decide +kernel
theorem dX11_least_160 : decode cX11_least 160 = .ok (.imul, 1) := by decide +kernel
theorem dX11_least_161 : decode cX11_least 161 = .ok (.iload 7, 2) := by decide +kernel
theorem dX11_least_163 : decode cX11_least 163 = .ok (.iadd, 1) := by decide +kernel
theorem dX11_least_164 : decode cX11_least 164 = .ok (.iconst 0, 1) := by decide +kernel
theorem dX11_least_165 : decode cX11_least 165 = .ok (.bastore, 1) := by decide +kernel
theorem dX11_least_166 : decode cX11_least 166 = .ok (.iload 6, 2) := by decide +kernel
theorem dX11_least_168 : decode cX11_least 168 = .ok (.iconst 1, 1) := by decide +kernel
theorem dX11_least_169 : decode cX11_least 169 = .ok (.iload 7, 2) := by decide +kernel
theorem dX11_least_171 : decode cX11_least 171 = .ok (.ishl, 1) := by decide +kernel
theorem dX11_least_172 : decode cX11_least 172 = .ok (.ior, 1) := by decide +kernel
theorem dX11_least_173 : decode cX11_least 173 = .ok (.istore 6, 2) := by decide +kernel
theorem dX11_least_175 : decode cX11_least 175 = .ok (.iinc 7 1, 3) := by decide +kernel
theorem dX11_least_178 : decode cX11_least 178 = .ok (.goto (-64), 3) := by decide +kernel
theorem dX11_least_181 : decode cX11_least 181 = .ok (.iconst 0, 1) := by decide +kernel
theorem dX11_least_182 : decode cX11_least 182 = .ok (.istore 7, 2) := by decide +kernel
theorem dX11_least_184 : decode cX11_least 184 = .ok (.iload 7, 2) := by decide +kernel
theorem dX11_least_186 : decode cX11_least 186 = .ok (.iload_n 3, 1) := by decide +kernel
theorem dX11_least_187 : decode cX11_least 187 = .ok (.if_icmp .ge 35, 3) := by decide +kernel
theorem dX11_least_190 : decode cX11_least 190 = .ok (.aload_n 0, 1) := by decide +kernel
theorem dX11_least_191 : decode cX11_least 191 = .ok (.getfield 29, 3) := by decide +kernel
theorem dX11_least_194 : decode cX11_least 194 = .ok (.iconst 4, 1) := by decide +kernel
theorem dX11_least_195 : decode cX11_least 195 = .ok (.iload_n 1, 1) := by decide +kernel
theorem dX11_least_196 : decode cX11_least 196 = .ok (.imul, 1) := by decide +kernel
theorem dX11_least_197 : decode cX11_least 197 = .ok (.iload 7, 2) := by decide +kernel
theorem dX11_least_199 : decode cX11_least 199 = .ok (.iadd, 1) := by decide +kernel
theorem dX11_least_200 : decode cX11_least 200 = .ok (.iload_n 2, 1) := by decide +kernel
theorem dX11_least_201 : decode cX11_least 201 = .ok (.iload 7, 2) := by decide +kernel
theorem dX11_least_203 : decode cX11_least 203 = .ok (.ishr, 1) := by decide +kernel
theorem dX11_least_204 : decode cX11_least 204 = .ok (.iconst 1, 1) := by decide +kernel
theorem dX11_least_205 : decode cX11_least 205 = .ok (.iand, 1) := by decide +kernel
theorem dX11_least_206 : decode cX11_least 206 = .ok (.iconst 1, 1) := by decide +kernel
theorem dX11_least_207 : decode cX11_least 207 = .ok (.if_icmp .ne 7, 3) := by decide +kernel
theorem dX11_least_210 : decode cX11_least 210 = .ok (.iconst 1, 1) := by decide +kernel
theorem dX11_least_211 : decode cX11_least 211 = .ok (.goto 4, 3) := by decide +kernel
theorem dX11_least_214 : decode cX11_least 214 = .ok (.iconst 0, 1) := by decide +kernel
theorem dX11_least_215 : decode cX11_least 215 = .ok (.bastore, 1) := by decide +kernel
theorem dX11_least_216 : decode cX11_least 216 = .ok (.iinc 7 1, 3) := by decide +kernel
theorem dX11_least_219 : decode cX11_least 219 = .ok (.goto (-35), 3) := by decide +kernel
theorem dX11_least_222 : decode cX11_least 222 = .ok (.iload 4, 2) := by decide +kernel
theorem dX11_least_224 : decode cX11_least 224 = .ok (.ifCond .ne 12, 3) := by decide +kernel
theorem dX11_least_227 : decode cX11_least 227 = .ok (.aload_n 0, 1) := by decide +kernel
theorem dX11_least_228 : decode cX11_least 228 = .ok (.bipush (-6), 2) := by decide +kernel
theorem dX11_least_230 : decode cX11_least 230 = .ok (.invokevirtual 114, 3) := by decide +kernel
theorem dX11_least_233 : decode cX11_least 233 = .ok (.goto 19, 3) := by decide +kernel
theorem dX11_least_236 : decode cX11_least 236 = .ok (.iload 5, 2) := by decide +kernel
theorem dX11_least_238 : decode cX11_least 238 = .ok (.ifCond .eq 8, 3) := by decide +kernel
theorem dX11_least_241 : decode cX11_least 241 = .ok (.iload 6, 2) := by decide +kernel
theorem dX11_least_243 : decode cX11_least 243 = .ok (.goto 9, 3) := by decide +kernel
theorem dX11_least_246 : decode cX11_least 246 = .ok (.aload_n 0, 1) := by decide +kernel
theorem dX11_least_247 : decode cX11_least 247 = .ok (.bipush (-5), 2) := by decide +kernel
theorem dX11_least_249 : decode cX11_least 249 = .ok (.invokevirtual 114, 3) := by decide +kernel
theorem dX11_least_252 : decode cX11_least 252 = .ok (.ireturn, 1) := by decide +kernel
theorem dX11_digest_0 : decode cX11_digest 0 = .ok (.aload_n 0, 1) := by decide +kernel
theorem dX11_digest_1 : decode cX11_digest 1 = .ok (.iconst 0, 1) := by decide +kernel
theorem dX11_digest_2 : decode cX11_digest 2 = .ok (.putfield 104, 3) := by decide +kernel
theorem dX11_digest_5 : decode cX11_digest 5 = .ok (.iload_n 1, 1) := by decide +kernel
theorem dX11_digest_6 : decode cX11_digest 6 = .ok (.iconst 0, 1) := by decide +kernel
theorem dX11_digest_7 : decode cX11_digest 7 = .ok (.iconst 1, 1) := by decide +kernel
theorem dX11_digest_8 : decode cX11_digest 8 = .ok (.invokestatic 110, 3) := by decide +kernel
theorem dX11_digest_11 : decode cX11_digest 11 = .ok (.ifCond .ne 6, 3) := by decide +kernel
theorem dX11_digest_14 : decode cX11_digest 14 = .ok (.bipush (-9), 2) := by decide +kernel
theorem dX11_digest_16 : decode cX11_digest 16 = .ok (.ireturn, 1) := by decide +kernel
theorem dX11_digest_17 : decode cX11_digest 17 = .ok (.iconst 0, 1) := by decide +kernel
theorem dX11_digest_18 : decode cX11_digest 18 = .ok (.istore_n 2, 1) := by decide +kernel
theorem dX11_digest_19 : decode cX11_digest 19 = .ok (.iconst 0, 1) := by decide +kernel
theorem dX11_digest_20 : decode cX11_digest 20 = .ok (.istore_n 3, 1) := by decide +kernel
theorem dX11_digest_21 : decode cX11_digest 21 = .ok (.iload_n 3, 1) := by decide +kernel
theorem dX11_digest_22 : decode cX11_digest 22 = .ok (.bipush 32, 2) := by decide +kernel
theorem dX11_digest_24 : decode cX11_digest 24 = .ok (.if_icmp .ge 39, 3) := by decide +kernel
theorem dX11_digest_27 : decode cX11_digest 27 = .ok (.bipush 31, 2) := by decide +kernel
theorem dX11_digest_29 : decode cX11_digest 29 = .ok (.iload_n 2, 1) := by decide +kernel
theorem dX11_digest_30 : decode cX11_digest 30 = .ok (.imul, 1) := by decide +kernel
theorem dX11_digest_31 : decode cX11_digest 31 = .ok (.iload_n 1, 1) := by decide +kernel
theorem dX11_digest_32 : decode cX11_digest 32 = .ok (.ifCond .ne 12, 3) := by decide +kernel
theorem dX11_digest_35 : decode cX11_digest 35 = .ok (.aload_n 0, 1) := by decide +kernel
theorem dX11_digest_36 : decode cX11_digest 36 = .ok (.getfield 7, 3) := by decide +kernel
theorem dX11_digest_39 : decode cX11_digest 39 = .ok (.iload_n 3, 1) := by decide +kernel
theorem dX11_digest_40 : decode cX11_digest 40 = .ok (.iaload, 1) := by decide +kernel
theorem dX11_digest_41 : decode cX11_digest 41 = .ok (.goto 14, 3) := by decide +kernel
theorem dX11_digest_44 : decode cX11_digest 44 = .ok (.aload_n 0, 1) := by decide +kernel
theorem dX11_digest_45 : decode cX11_digest 45 = .ok (.iconst 0, 1) := by decide +kernel
theorem dX11_digest_46 : decode cX11_digest 46 = .ok (.iload_n 3, 1) := by decide +kernel
theorem dX11_digest_47 : decode cX11_digest 47 = .ok (.iconst 2, 1) := by decide +kernel
theorem dX11_digest_48 : decode cX11_digest 48 = .ok (.idiv, 1) := by decide +kernel
theorem dX11_digest_49 : decode cX11_digest 49 = .ok (.iload_n 3, 1) := by decide +kernel
theorem dX11_digest_50 : decode cX11_digest 50 = .ok (.iconst 2, 1) := by decide +kernel
theorem dX11_digest_51 : decode cX11_digest 51 = .ok (.irem, 1) := by decide +kernel
theorem dX11_digest_52 : decode cX11_digest 52 = .ok (.invokevirtual 129, 3) := by decide +kernel
theorem dX11_digest_55 : decode cX11_digest 55 = .ok (.iadd, 1) := by decide +kernel
theorem dX11_digest_56 : decode cX11_digest 56 = .ok (.istore_n 2, 1) := by decide +kernel
theorem dX11_digest_57 : decode cX11_digest 57 = .ok (.iinc 3 1, 3) := by decide +kernel
theorem dX11_digest_60 : decode cX11_digest 60 = .ok (.goto (-39), 3) := by decide +kernel
theorem dX11_digest_63 : decode cX11_digest 63 = .ok (.iload_n 2, 1) := by decide +kernel
theorem dX11_digest_64 : decode cX11_digest 64 = .ok (.ireturn, 1) := by decide +kernel
theorem dX11_status_0 : decode cX11_status 0 = .ok (.aload_n 0, 1) := by decide +kernel
theorem dX11_status_1 : decode cX11_status 1 = .ok (.iconst 0, 1) := by decide +kernel
theorem dX11_status_2 : decode cX11_status 2 = .ok (.putfield 104, 3) := by decide +kernel
theorem dX11_status_5 : decode cX11_status 5 = .ok (.iconst 0, 1) := by decide +kernel
theorem dX11_status_6 : decode cX11_status 6 = .ok (.istore_n 2, 1) := by decide +kernel
theorem dX11_status_7 : decode cX11_status 7 = .ok (.iload_n 1, 1) := by decide +kernel
theorem dX11_status_8 : decode cX11_status 8 = .ok (.tableswitch 143 0 7 #[48, 55, 93, 105, 110, 115, 133, 138], 48) := by decide +kernel
theorem dX11_status_56 : decode cX11_status 56 = .ok (.aload_n 0, 1) := by decide +kernel
theorem dX11_status_57 : decode cX11_status 57 = .ok (.getfield 22, 3) := by decide +kernel
theorem dX11_status_60 : decode cX11_status 60 = .ok (.iconst 0, 1) := by decide +kernel
theorem dX11_status_61 : decode cX11_status 61 = .ok (.iaload, 1) := by decide +kernel
theorem dX11_status_62 : decode cX11_status 62 = .ok (.ireturn, 1) := by decide +kernel
theorem dX11_status_63 : decode cX11_status 63 = .ok (.iconst 0, 1) := by decide +kernel
theorem dX11_status_64 : decode cX11_status 64 = .ok (.istore_n 3, 1) := by decide +kernel
theorem dX11_status_65 : decode cX11_status 65 = .ok (.iload_n 3, 1) := by decide +kernel
theorem dX11_status_66 : decode cX11_status 66 = .ok (.aload_n 0, 1) := by decide +kernel
theorem dX11_status_67 : decode cX11_status 67 = .ok (.getfield 22, 3) := by decide +kernel
theorem dX11_status_70 : decode cX11_status 70 = .ok (.iconst 0, 1) := by decide +kernel
theorem dX11_status_71 : decode cX11_status 71 = .ok (.iaload, 1) := by decide +kernel
theorem dX11_status_72 : decode cX11_status 72 = .ok (.if_icmp .ge 27, 3) := by decide +kernel
theorem dX11_status_75 : decode cX11_status 75 = .ok (.iload_n 2, 1) := by decide +kernel
theorem dX11_status_76 : decode cX11_status 76 = .ok (.aload_n 0, 1) := by decide +kernel
theorem dX11_status_77 : decode cX11_status 77 = .ok (.getfield 13, 3) := by decide +kernel
theorem dX11_status_80 : decode cX11_status 80 = .ok (.iload_n 3, 1) := by decide +kernel
theorem dX11_status_81 : decode cX11_status 81 = .ok (.iaload, 1) := by decide +kernel
theorem dX11_status_82 : decode cX11_status 82 = .ok (.iconst (-1), 1) := by decide +kernel
theorem dX11_status_83 : decode cX11_status 83 = .ok (.if_icmp .eq 7, 3) := by decide +kernel
theorem dX11_status_86 : decode cX11_status 86 = .ok (.iconst 1, 1) := by decide +kernel
theorem dX11_status_87 : decode cX11_status 87 = .ok (.goto 4, 3) := by decide +kernel
theorem dX11_status_90 : decode cX11_status 90 = .ok (.iconst 0, 1) := by decide +kernel
theorem dX11_status_91 : decode cX11_status 91 = .ok (.iadd, 1) := by decide +kernel
theorem dX11_status_92 : decode cX11_status 92 = .ok (.istore_n 2, 1) := by decide +kernel
theorem dX11_status_93 : decode cX11_status 93 = .ok (.iinc 3 1, 3) := by decide +kernel
theorem dX11_status_96 : decode cX11_status 96 = .ok (.goto (-31), 3) := by decide +kernel
theorem dX11_status_99 : decode cX11_status 99 = .ok (.iload_n 2, 1) := by decide +kernel
theorem dX11_status_100 : decode cX11_status 100 = .ok (.ireturn, 1) := by decide +kernel
theorem dX11_status_101 : decode cX11_status 101 = .ok (.aload_n 0, 1) := by decide +kernel
theorem dX11_status_102 : decode cX11_status 102 = .ok (.iconst 0, 1) := by decide +kernel
theorem dX11_status_103 : decode cX11_status 103 = .ok (.aload_n 0, 1) := by decide +kernel
theorem dX11_status_104 : decode cX11_status 104 = .ok (.getfield 22, 3) := by decide +kernel
theorem dX11_status_107 : decode cX11_status 107 = .ok (.iconst 0, 1) := by decide +kernel
theorem dX11_status_108 : decode cX11_status 108 = .ok (.iaload, 1) := by decide +kernel
theorem dX11_status_109 : decode cX11_status 109 = .ok (.invokevirtual 151, 3) := by decide +kernel
theorem dX11_status_112 : decode cX11_status 112 = .ok (.ireturn, 1) := by decide +kernel
theorem dX11_status_113 : decode cX11_status 113 = .ok (.aload_n 0, 1) := by decide +kernel
theorem dX11_status_114 : decode cX11_status 114 = .ok (.getfield 25, 3) := by decide +kernel
theorem dX11_status_117 : decode cX11_status 117 = .ok (.ireturn, 1) := by decide +kernel
theorem dX11_status_118 : decode cX11_status 118 = .ok (.aload_n 0, 1) := by decide +kernel
theorem dX11_status_119 : decode cX11_status 119 = .ok (.getfield 225, 3) := by decide +kernel
theorem dX11_status_122 : decode cX11_status 122 = .ok (.ireturn, 1) := by decide +kernel
theorem dX11_status_123 : decode cX11_status 123 = .ok (.aload_n 0, 1) := by decide +kernel
theorem dX11_status_124 : decode cX11_status 124 = .ok (.getfield 25, 3) := by decide +kernel
theorem dX11_status_127 : decode cX11_status 127 = .ok (.iconst 2, 1) := by decide +kernel
theorem dX11_status_128 : decode cX11_status 128 = .ok (.if_icmp .ne 11, 3) := by decide +kernel
theorem dX11_status_131 : decode cX11_status 131 = .ok (.aload_n 0, 1) := by decide +kernel
theorem dX11_status_132 : decode cX11_status 132 = .ok (.iconst 0, 1) := by decide +kernel
theorem dX11_status_133 : decode cX11_status 133 = .ok (.invokevirtual 178, 3) := by decide +kernel
theorem dX11_status_136 : decode cX11_status 136 = .ok (.goto 4, 3) := by decide +kernel
theorem dX11_status_139 : decode cX11_status 139 = .ok (.iconst 0, 1) := by decide +kernel
theorem dX11_status_140 : decode cX11_status 140 = .ok (.ireturn, 1) := by decide +kernel
theorem dX11_status_141 : decode cX11_status 141 = .ok (.aload_n 0, 1) := by decide +kernel
theorem dX11_status_142 : decode cX11_status 142 = .ok (.getfield 107, 3) := by decide +kernel
theorem dX11_status_145 : decode cX11_status 145 = .ok (.ireturn, 1) := by decide +kernel
theorem dX11_status_146 : decode cX11_status 146 = .ok (.aload_n 0, 1) := by decide +kernel
theorem dX11_status_147 : decode cX11_status 147 = .ok (.getfield 164, 3) := by decide +kernel
theorem dX11_status_150 : decode cX11_status 150 = .ok (.ireturn, 1) := by decide +kernel
theorem dX11_status_151 : decode cX11_status 151 = .ok (.iload_n 1, 1) := by decide +kernel
theorem dX11_status_152 : decode cX11_status 152 = .ok (.bipush 11, 2) := by decide +kernel
theorem dX11_status_154 : decode cX11_status 154 = .ok (.bipush 16, 2) := by decide +kernel
theorem dX11_status_156 : decode cX11_status 156 = .ok (.invokestatic 110, 3) := by decide +kernel
theorem dX11_status_159 : decode cX11_status 159 = .ok (.ifCond .eq 15, 3) := by decide +kernel
theorem dX11_status_162 : decode cX11_status 162 = .ok (.aload_n 0, 1) := by decide +kernel
theorem dX11_status_163 : decode cX11_status 163 = .ok (.getfield 33, 3) := by decide +kernel
theorem dX11_status_166 : decode cX11_status 166 = .ok (.iload_n 1, 1) := by decide +kernel
theorem dX11_status_167 : decode cX11_status 167 = .ok (.bipush 10, 2) := by decide +kernel
theorem dX11_status_169 : decode cX11_status 169 = .ok (.isub, 1) := by decide +kernel
theorem dX11_status_170 : decode cX11_status 170 = .ok (.iaload, 1) := by decide +kernel
theorem dX11_status_171 : decode cX11_status 171 = .ok (.goto 5, 3) := by decide +kernel
theorem dX11_status_174 : decode cX11_status 174 = .ok (.bipush (-9), 2) := by decide +kernel
theorem dX11_status_176 : decode cX11_status 176 = .ok (.ireturn, 1) := by decide +kernel
theorem dJ6_bitCount_0f7a4_0 : decode cJ6_bitCount_0f7a4 0 = .ok (.iload_n 0, 1) := by decide +kernel
theorem dJ6_bitCount_0f7a4_1 : decode cJ6_bitCount_0f7a4 1 = .ok (.iload_n 0, 1) := by decide +kernel
theorem dJ6_bitCount_0f7a4_2 : decode cJ6_bitCount_0f7a4 2 = .ok (.iconst 1, 1) := by decide +kernel
theorem dJ6_bitCount_0f7a4_3 : decode cJ6_bitCount_0f7a4 3 = .ok (.iushr, 1) := by decide +kernel
theorem dJ6_bitCount_0f7a4_4 : decode cJ6_bitCount_0f7a4 4 = .ok (.ldc_w 265, 3) := by decide +kernel
theorem dJ6_bitCount_0f7a4_7 : decode cJ6_bitCount_0f7a4 7 = .ok (.iand, 1) := by decide +kernel
theorem dJ6_bitCount_0f7a4_8 : decode cJ6_bitCount_0f7a4 8 = .ok (.isub, 1) := by decide +kernel
theorem dJ6_bitCount_0f7a4_9 : decode cJ6_bitCount_0f7a4 9 = .ok (.istore_n 0, 1) := by decide +kernel
theorem dJ6_bitCount_0f7a4_10 : decode cJ6_bitCount_0f7a4 10 = .ok (.iload_n 0, 1) := by decide +kernel
theorem dJ6_bitCount_0f7a4_11 : decode cJ6_bitCount_0f7a4 11 = .ok (.ldc_w 266, 3) := by decide +kernel
theorem dJ6_bitCount_0f7a4_14 : decode cJ6_bitCount_0f7a4 14 = .ok (.iand, 1) := by decide +kernel
theorem dJ6_bitCount_0f7a4_15 : decode cJ6_bitCount_0f7a4 15 = .ok (.iload_n 0, 1) := by decide +kernel
theorem dJ6_bitCount_0f7a4_16 : decode cJ6_bitCount_0f7a4 16 = .ok (.iconst 2, 1) := by decide +kernel
theorem dJ6_bitCount_0f7a4_17 : decode cJ6_bitCount_0f7a4 17 = .ok (.iushr, 1) := by decide +kernel
theorem dJ6_bitCount_0f7a4_18 : decode cJ6_bitCount_0f7a4 18 = .ok (.ldc_w 266, 3) := by decide +kernel
theorem dJ6_bitCount_0f7a4_21 : decode cJ6_bitCount_0f7a4 21 = .ok (.iand, 1) := by decide +kernel
theorem dJ6_bitCount_0f7a4_22 : decode cJ6_bitCount_0f7a4 22 = .ok (.iadd, 1) := by decide +kernel
theorem dJ6_bitCount_0f7a4_23 : decode cJ6_bitCount_0f7a4 23 = .ok (.istore_n 0, 1) := by decide +kernel
theorem dJ6_bitCount_0f7a4_24 : decode cJ6_bitCount_0f7a4 24 = .ok (.iload_n 0, 1) := by decide +kernel
theorem dJ6_bitCount_0f7a4_25 : decode cJ6_bitCount_0f7a4 25 = .ok (.iload_n 0, 1) := by decide +kernel
theorem dJ6_bitCount_0f7a4_26 : decode cJ6_bitCount_0f7a4 26 = .ok (.iconst 4, 1) := by decide +kernel
theorem dJ6_bitCount_0f7a4_27 : decode cJ6_bitCount_0f7a4 27 = .ok (.iushr, 1) := by decide +kernel
theorem dJ6_bitCount_0f7a4_28 : decode cJ6_bitCount_0f7a4 28 = .ok (.iadd, 1) := by decide +kernel
theorem dJ6_bitCount_0f7a4_29 : decode cJ6_bitCount_0f7a4 29 = .ok (.ldc_w 267, 3) := by decide +kernel
theorem dJ6_bitCount_0f7a4_32 : decode cJ6_bitCount_0f7a4 32 = .ok (.iand, 1) := by decide +kernel
theorem dJ6_bitCount_0f7a4_33 : decode cJ6_bitCount_0f7a4 33 = .ok (.istore_n 0, 1) := by decide +kernel
theorem dJ6_bitCount_0f7a4_34 : decode cJ6_bitCount_0f7a4 34 = .ok (.iload_n 0, 1) := by decide +kernel
theorem dJ6_bitCount_0f7a4_35 : decode cJ6_bitCount_0f7a4 35 = .ok (.iload_n 0, 1) := by decide +kernel
theorem dJ6_bitCount_0f7a4_36 : decode cJ6_bitCount_0f7a4 36 = .ok (.bipush 8, 2) := by decide +kernel
theorem dJ6_bitCount_0f7a4_38 : decode cJ6_bitCount_0f7a4 38 = .ok (.iushr, 1) := by decide +kernel
theorem dJ6_bitCount_0f7a4_39 : decode cJ6_bitCount_0f7a4 39 = .ok (.iadd, 1) := by decide +kernel
theorem dJ6_bitCount_0f7a4_40 : decode cJ6_bitCount_0f7a4 40 = .ok (.istore_n 0, 1) := by decide +kernel
theorem dJ6_bitCount_0f7a4_41 : decode cJ6_bitCount_0f7a4 41 = .ok (.iload_n 0, 1) := by decide +kernel
theorem dJ6_bitCount_0f7a4_42 : decode cJ6_bitCount_0f7a4 42 = .ok (.iload_n 0, 1) := by decide +kernel
theorem dJ6_bitCount_0f7a4_43 : decode cJ6_bitCount_0f7a4 43 = .ok (.bipush 16, 2) := by decide +kernel
theorem dJ6_bitCount_0f7a4_45 : decode cJ6_bitCount_0f7a4 45 = .ok (.iushr, 1) := by decide +kernel
theorem dJ6_bitCount_0f7a4_46 : decode cJ6_bitCount_0f7a4 46 = .ok (.iadd, 1) := by decide +kernel
theorem dJ6_bitCount_0f7a4_47 : decode cJ6_bitCount_0f7a4 47 = .ok (.istore_n 0, 1) := by decide +kernel
theorem dJ6_bitCount_0f7a4_48 : decode cJ6_bitCount_0f7a4 48 = .ok (.iload_n 0, 1) := by decide +kernel
theorem dJ6_bitCount_0f7a4_49 : decode cJ6_bitCount_0f7a4 49 = .ok (.bipush 63, 2) := by decide +kernel
theorem dJ6_bitCount_0f7a4_51 : decode cJ6_bitCount_0f7a4 51 = .ok (.iand, 1) := by decide +kernel
theorem dJ6_bitCount_0f7a4_52 : decode cJ6_bitCount_0f7a4 52 = .ok (.ireturn, 1) := by decide +kernel
theorem dJ9_max_7cf53_0 : decode cJ9_max_7cf53 0 = .ok (.iload_n 0, 1) := by decide +kernel
theorem dJ9_max_7cf53_1 : decode cJ9_max_7cf53 1 = .ok (.iload_n 1, 1) := by decide +kernel
theorem dJ9_max_7cf53_2 : decode cJ9_max_7cf53 2 = .ok (.if_icmp .lt 7, 3) := by decide +kernel
theorem dJ9_max_7cf53_5 : decode cJ9_max_7cf53 5 = .ok (.iload_n 0, 1) := by decide +kernel
theorem dJ9_max_7cf53_6 : decode cJ9_max_7cf53 6 = .ok (.goto 4, 3) := by decide +kernel
theorem dJ9_max_7cf53_9 : decode cJ9_max_7cf53 9 = .ok (.iload_n 1, 1) := by decide +kernel
theorem dJ9_max_7cf53_10 : decode cJ9_max_7cf53 10 = .ok (.ireturn, 1) := by decide +kernel
theorem dJ9_min_7cf53_0 : decode cJ9_min_7cf53 0 = .ok (.iload_n 0, 1) := by decide +kernel
theorem dJ9_min_7cf53_1 : decode cJ9_min_7cf53 1 = .ok (.iload_n 1, 1) := by decide +kernel
theorem dJ9_min_7cf53_2 : decode cJ9_min_7cf53 2 = .ok (.if_icmp .gt 7, 3) := by decide +kernel
theorem dJ9_min_7cf53_5 : decode cJ9_min_7cf53 5 = .ok (.iload_n 0, 1) := by decide +kernel
theorem dJ9_min_7cf53_6 : decode cJ9_min_7cf53 6 = .ok (.goto 4, 3) := by decide +kernel
theorem dJ9_min_7cf53_9 : decode cJ9_min_7cf53 9 = .ok (.iload_n 1, 1) := by decide +kernel
theorem dJ9_min_7cf53_10 : decode cJ9_min_7cf53 10 = .ok (.ireturn, 1) := by decide +kernel
theorem dJ7_fill_53178_0 : decode cJ7_fill_53178 0 = .ok (.iconst 0, 1) := by decide +kernel
theorem dJ7_fill_53178_1 : decode cJ7_fill_53178 1 = .ok (.istore_n 2, 1) := by decide +kernel
theorem dJ7_fill_53178_2 : decode cJ7_fill_53178 2 = .ok (.aload_n 0, 1) := by decide +kernel
theorem dJ7_fill_53178_3 : decode cJ7_fill_53178 3 = .ok (.arraylength, 1) := by decide +kernel
theorem dJ7_fill_53178_4 : decode cJ7_fill_53178 4 = .ok (.istore_n 3, 1) := by decide +kernel
theorem dJ7_fill_53178_5 : decode cJ7_fill_53178 5 = .ok (.iload_n 2, 1) := by decide +kernel
theorem dJ7_fill_53178_6 : decode cJ7_fill_53178 6 = .ok (.iload_n 3, 1) := by decide +kernel
theorem dJ7_fill_53178_7 : decode cJ7_fill_53178 7 = .ok (.if_icmp .ge 13, 3) := by decide +kernel
theorem dJ7_fill_53178_10 : decode cJ7_fill_53178 10 = .ok (.aload_n 0, 1) := by decide +kernel
theorem dJ7_fill_53178_11 : decode cJ7_fill_53178 11 = .ok (.iload_n 2, 1) := by decide +kernel
theorem dJ7_fill_53178_12 : decode cJ7_fill_53178 12 = .ok (.iload_n 1, 1) := by decide +kernel
theorem dJ7_fill_53178_13 : decode cJ7_fill_53178 13 = .ok (.iastore, 1) := by decide +kernel
theorem dJ7_fill_53178_14 : decode cJ7_fill_53178 14 = .ok (.iinc 2 1, 3) := by decide +kernel
theorem dJ7_fill_53178_17 : decode cJ7_fill_53178 17 = .ok (.goto (-12), 3) := by decide +kernel
theorem dJ7_fill_53178_20 : decode cJ7_fill_53178 20 = .ok (.return_, 1) := by decide +kernel
theorem dL_read_0 : decode cL_read 0 = .ok (.aload_n 3, 1) := by decide +kernel
theorem dL_read_1 : decode cL_read 1 = .ok (.iconst 0, 1) := by decide +kernel
theorem dL_read_2 : decode cL_read 2 = .ok (.aload_n 0, 1) := by decide +kernel
theorem dL_read_3 : decode cL_read 3 = .ok (.iload_n 1, 1) := by decide +kernel
theorem dL_read_4 : decode cL_read 4 = .ok (.iload_n 2, 1) := by decide +kernel
theorem dL_read_5 : decode cL_read 5 = .ok (.invokevirtual 7, 3) := by decide +kernel
theorem dL_read_8 : decode cL_read 8 = .ok (.i2l, 1) := by decide +kernel
theorem dL_read_9 : decode cL_read 9 = .ok (.lastore, 1) := by decide +kernel
theorem dL_read_10 : decode cL_read 10 = .ok (.goto 7, 3) := by decide +kernel
theorem dL_read_13 : decode cL_read 13 = .ok (.astore 4, 2) := by decide +kernel
theorem dL_read_15 : decode cL_read 15 = .ok (.iconst 1, 1) := by decide +kernel
theorem dL_read_16 : decode cL_read 16 = .ok (.ireturn, 1) := by decide +kernel
theorem dL_read_17 : decode cL_read 17 = .ok (.iconst 0, 1) := by decide +kernel
theorem dL_read_18 : decode cL_read 18 = .ok (.ireturn, 1) := by decide +kernel
theorem dL_plate_0 : decode cL_plate 0 = .ok (.aload_n 3, 1) := by decide +kernel
theorem dL_plate_1 : decode cL_plate 1 = .ok (.iconst 0, 1) := by decide +kernel
theorem dL_plate_2 : decode cL_plate 2 = .ok (.aload_n 0, 1) := by decide +kernel
theorem dL_plate_3 : decode cL_plate 3 = .ok (.iload_n 1, 1) := by decide +kernel
theorem dL_plate_4 : decode cL_plate 4 = .ok (.iload_n 2, 1) := by decide +kernel
theorem dL_plate_5 : decode cL_plate 5 = .ok (.invokevirtual 15, 3) := by decide +kernel
theorem dL_plate_8 : decode cL_plate 8 = .ok (.i2l, 1) := by decide +kernel
theorem dL_plate_9 : decode cL_plate 9 = .ok (.lastore, 1) := by decide +kernel
theorem dL_plate_10 : decode cL_plate 10 = .ok (.goto 7, 3) := by decide +kernel
theorem dL_plate_13 : decode cL_plate 13 = .ok (.astore 4, 2) := by decide +kernel
theorem dL_plate_15 : decode cL_plate 15 = .ok (.iconst 1, 1) := by decide +kernel
theorem dL_plate_16 : decode cL_plate 16 = .ok (.ireturn, 1) := by decide +kernel
theorem dL_plate_17 : decode cL_plate 17 = .ok (.iconst 0, 1) := by decide +kernel
theorem dL_plate_18 : decode cL_plate 18 = .ok (.ireturn, 1) := by decide +kernel
theorem dL_state_0 : decode cL_state 0 = .ok (.aload 4, 2) := by decide +kernel
theorem dL_state_2 : decode cL_state 2 = .ok (.iconst 0, 1) := by decide +kernel
theorem dL_state_3 : decode cL_state 3 = .ok (.aload_n 0, 1) := by decide +kernel
theorem dL_state_4 : decode cL_state 4 = .ok (.iload_n 1, 1) := by decide +kernel
theorem dL_state_5 : decode cL_state 5 = .ok (.iload_n 2, 1) := by decide +kernel
theorem dL_state_6 : decode cL_state 6 = .ok (.iload_n 3, 1) := by decide +kernel
theorem dL_state_7 : decode cL_state 7 = .ok (.invokevirtual 18, 3) := by decide +kernel
theorem dL_state_10 : decode cL_state 10 = .ok (.i2l, 1) := by decide +kernel
theorem dL_state_11 : decode cL_state 11 = .ok (.lastore, 1) := by decide +kernel
theorem dL_state_12 : decode cL_state 12 = .ok (.goto 7, 3) := by decide +kernel
theorem dL_state_15 : decode cL_state 15 = .ok (.astore 5, 2) := by decide +kernel
theorem dL_state_17 : decode cL_state 17 = .ok (.iconst 1, 1) := by decide +kernel
theorem dL_state_18 : decode cL_state 18 = .ok (.ireturn, 1) := by decide +kernel
theorem dL_state_19 : decode cL_state 19 = .ok (.iconst 0, 1) := by decide +kernel
theorem dL_state_20 : decode cL_state 20 = .ok (.ireturn, 1) := by decide +kernel
theorem dL_get_0 : decode cL_get 0 = .ok (.aload_n 2, 1) := by decide +kernel
theorem dL_get_1 : decode cL_get 1 = .ok (.iconst 0, 1) := by decide +kernel
theorem dL_get_2 : decode cL_get 2 = .ok (.aload_n 0, 1) := by decide +kernel
theorem dL_get_3 : decode cL_get 3 = .ok (.iload_n 1, 1) := by decide +kernel
theorem dL_get_4 : decode cL_get 4 = .ok (.invokevirtual 22, 3) := by decide +kernel
theorem dL_get_7 : decode cL_get 7 = .ok (.lastore, 1) := by decide +kernel
theorem dL_get_8 : decode cL_get 8 = .ok (.goto 9, 3) := by decide +kernel
theorem dL_get_11 : decode cL_get 11 = .ok (.astore_n 3, 1) := by decide +kernel
theorem dL_get_12 : decode cL_get 12 = .ok (.iconst 1, 1) := by decide +kernel
theorem dL_get_13 : decode cL_get 13 = .ok (.ireturn, 1) := by decide +kernel
theorem dL_get_14 : decode cL_get 14 = .ok (.astore_n 3, 1) := by decide +kernel
theorem dL_get_15 : decode cL_get 15 = .ok (.iconst 2, 1) := by decide +kernel
theorem dL_get_16 : decode cL_get 16 = .ok (.ireturn, 1) := by decide +kernel
theorem dL_get_17 : decode cL_get 17 = .ok (.iconst 0, 1) := by decide +kernel
theorem dL_get_18 : decode cL_get 18 = .ok (.ireturn, 1) := by decide +kernel
theorem dL_law_0 : decode cL_law 0 = .ok (.new 8, 3) := by decide +kernel
theorem dL_law_3 : decode cL_law 3 = .ok (.dup, 1) := by decide +kernel
theorem dL_law_4 : decode cL_law 4 = .ok (.invokespecial 28, 3) := by decide +kernel
theorem dL_law_7 : decode cL_law 7 = .ok (.astore_n 1, 1) := by decide +kernel
theorem dL_law_8 : decode cL_law 8 = .ok (.new 29, 3) := by decide +kernel
theorem dL_law_11 : decode cL_law 11 = .ok (.dup, 1) := by decide +kernel
theorem dL_law_12 : decode cL_law 12 = .ok (.invokespecial 31, 3) := by decide +kernel
theorem dL_law_15 : decode cL_law 15 = .ok (.astore_n 2, 1) := by decide +kernel
theorem dL_law_16 : decode cL_law 16 = .ok (.iconst 1, 1) := by decide +kernel
theorem dL_law_17 : decode cL_law 17 = .ok (.newarray .long, 2) := by decide +kernel
theorem dL_law_19 : decode cL_law 19 = .ok (.astore_n 3, 1) := by decide +kernel
theorem dL_law_20 : decode cL_law 20 = .ok (.iconst 0, 1) := by decide +kernel
theorem dL_law_21 : decode cL_law 21 = .ok (.istore 4, 2) := by decide +kernel
theorem dL_law_23 : decode cL_law 23 = .ok (.iload 4, 2) := by decide +kernel
theorem dL_law_25 : decode cL_law 25 = .ok (.aload_n 0, 1) := by decide +kernel
theorem dL_law_26 : decode cL_law 26 = .ok (.arraylength, 1) := by decide +kernel
theorem dL_law_27 : decode cL_law 27 = .ok (.iconst 4, 1) := by decide +kernel
theorem dL_law_28 : decode cL_law 28 = .ok (.isub, 1) := by decide +kernel
theorem dL_law_29 : decode cL_law 29 = .ok (.if_icmp .gt 1070, 3) := by decide +kernel
theorem dL_law_32 : decode cL_law 32 = .ok (.aload_n 0, 1) := by decide +kernel
theorem dL_law_33 : decode cL_law 33 = .ok (.iload 4, 2) := by decide +kernel
theorem dL_law_35 : decode cL_law 35 = .ok (.iaload, 1) := by decide +kernel
theorem dL_law_36 : decode cL_law 36 = .ok (.bipush 31, 2) := by decide +kernel
theorem dL_law_38 : decode cL_law 38 = .ok (.iand, 1) := by decide +kernel
theorem dL_law_39 : decode cL_law 39 = .ok (.tableswitch 1054 0 25 #[117, 166, 179, 192, 260, 328, 365, 378, 458, 483, 508, 577, 614, 669, 682, 695, 764, 801, 814, 827, 852, 877, 914, 979, 1004, 1029], 117) := by decide +kernel
theorem dL_law_156 : decode cL_law 156 = .ok (.aload_n 1, 1) := by decide +kernel
theorem dL_law_157 : decode cL_law 157 = .ok (.aload_n 0, 1) := by decide +kernel
theorem dL_law_158 : decode cL_law 158 = .ok (.iload 4, 2) := by decide +kernel
theorem dL_law_160 : decode cL_law 160 = .ok (.iconst 1, 1) := by decide +kernel
theorem dL_law_161 : decode cL_law 161 = .ok (.iadd, 1) := by decide +kernel
theorem dL_law_162 : decode cL_law 162 = .ok (.iaload, 1) := by decide +kernel
theorem dL_law_163 : decode cL_law 163 = .ok (.aload_n 0, 1) := by decide +kernel
theorem dL_law_164 : decode cL_law 164 = .ok (.iload 4, 2) := by decide +kernel
theorem dL_law_166 : decode cL_law 166 = .ok (.iconst 2, 1) := by decide +kernel
theorem dL_law_167 : decode cL_law 167 = .ok (.iadd, 1) := by decide +kernel
theorem dL_law_168 : decode cL_law 168 = .ok (.iaload, 1) := by decide +kernel
theorem dL_law_169 : decode cL_law 169 = .ok (.aload_n 0, 1) := by decide +kernel
theorem dL_law_170 : decode cL_law 170 = .ok (.iload 4, 2) := by decide +kernel
theorem dL_law_172 : decode cL_law 172 = .ok (.iconst 3, 1) := by decide +kernel
theorem dL_law_173 : decode cL_law 173 = .ok (.iadd, 1) := by decide +kernel
theorem dL_law_174 : decode cL_law 174 = .ok (.iaload, 1) := by decide +kernel
theorem dL_law_175 : decode cL_law 175 = .ok (.invokevirtual 32, 3) := by decide +kernel
theorem dL_law_178 : decode cL_law 178 = .ok (.aload_n 2, 1) := by decide +kernel
theorem dL_law_179 : decode cL_law 179 = .ok (.aload_n 0, 1) := by decide +kernel
theorem dL_law_180 : decode cL_law 180 = .ok (.iload 4, 2) := by decide +kernel
theorem dL_law_182 : decode cL_law 182 = .ok (.iconst 1, 1) := by decide +kernel
theorem dL_law_183 : decode cL_law 183 = .ok (.iadd, 1) := by decide +kernel
theorem dL_law_184 : decode cL_law 184 = .ok (.iaload, 1) := by decide +kernel
theorem dL_law_185 : decode cL_law 185 = .ok (.aload_n 0, 1) := by decide +kernel
theorem dL_law_186 : decode cL_law 186 = .ok (.iload 4, 2) := by decide +kernel
theorem dL_law_188 : decode cL_law 188 = .ok (.iconst 2, 1) := by decide +kernel
theorem dL_law_189 : decode cL_law 189 = .ok (.iadd, 1) := by decide +kernel
theorem dL_law_190 : decode cL_law 190 = .ok (.iaload, 1) := by decide +kernel
theorem dL_law_191 : decode cL_law 191 = .ok (.aload_n 0, 1) := by decide +kernel
theorem dL_law_192 : decode cL_law 192 = .ok (.iload 4, 2) := by decide +kernel
theorem dL_law_194 : decode cL_law 194 = .ok (.iconst 3, 1) := by decide +kernel
theorem dL_law_195 : decode cL_law 195 = .ok (.iadd, 1) := by decide +kernel
theorem dL_law_196 : decode cL_law 196 = .ok (.iaload, 1) := by decide +kernel
theorem dL_law_197 : decode cL_law 197 = .ok (.invokevirtual 35, 3) := by decide +kernel
theorem dL_law_200 : decode cL_law 200 = .ok (.if_icmp .eq 893, 3) := by decide +kernel
theorem dL_law_203 : decode cL_law 203 = .ok (.iconst 0, 1) := by decide +kernel
theorem dL_law_204 : decode cL_law 204 = .ok (.ireturn, 1) := by decide +kernel
theorem dL_law_205 : decode cL_law 205 = .ok (.aload_n 1, 1) := by decide +kernel
theorem dL_law_206 : decode cL_law 206 = .ok (.invokevirtual 36, 3) := by decide +kernel
theorem dL_law_209 : decode cL_law 209 = .ok (.aload_n 2, 1) := by decide +kernel
theorem dL_law_210 : decode cL_law 210 = .ok (.invokevirtual 40, 3) := by decide +kernel
theorem dL_law_213 : decode cL_law 213 = .ok (.if_icmp .eq 880, 3) := by decide +kernel
theorem dL_law_216 : decode cL_law 216 = .ok (.iconst 0, 1) := by decide +kernel
theorem dL_law_217 : decode cL_law 217 = .ok (.ireturn, 1) := by decide +kernel
theorem dL_law_218 : decode cL_law 218 = .ok (.aload_n 1, 1) := by decide +kernel
theorem dL_law_219 : decode cL_law 219 = .ok (.invokevirtual 41, 3) := by decide +kernel
theorem dL_law_222 : decode cL_law 222 = .ok (.aload_n 2, 1) := by decide +kernel
theorem dL_law_223 : decode cL_law 223 = .ok (.invokevirtual 44, 3) := by decide +kernel
theorem dL_law_226 : decode cL_law 226 = .ok (.if_icmp .eq 867, 3) := by decide +kernel
theorem dL_law_229 : decode cL_law 229 = .ok (.iconst 0, 1) := by decide +kernel
theorem dL_law_230 : decode cL_law 230 = .ok (.ireturn, 1) := by decide +kernel
theorem dL_law_231 : decode cL_law 231 = .ok (.aload_n 1, 1) := by decide +kernel
theorem dL_law_232 : decode cL_law 232 = .ok (.aload_n 0, 1) := by decide +kernel
theorem dL_law_233 : decode cL_law 233 = .ok (.iload 4, 2) := by decide +kernel
theorem dL_law_235 : decode cL_law 235 = .ok (.iconst 1, 1) := by decide +kernel
theorem dL_law_236 : decode cL_law 236 = .ok (.iadd, 1) := by decide +kernel
theorem dL_law_237 : decode cL_law 237 = .ok (.iaload, 1) := by decide +kernel
theorem dL_law_238 : decode cL_law 238 = .ok (.aload_n 0, 1) := by decide +kernel
theorem dL_law_239 : decode cL_law 239 = .ok (.iload 4, 2) := by decide +kernel
theorem dL_law_241 : decode cL_law 241 = .ok (.iconst 2, 1) := by decide +kernel
theorem dL_law_242 : decode cL_law 242 = .ok (.iadd, 1) := by decide +kernel
theorem dL_law_243 : decode cL_law 243 = .ok (.iaload, 1) := by decide +kernel
theorem dL_law_244 : decode cL_law 244 = .ok (.aload_n 3, 1) := by decide +kernel
theorem dL_law_245 : decode cL_law 245 = .ok (.invokestatic 45, 3) := by decide +kernel
theorem dL_law_248 : decode cL_law 248 = .ok (.istore 5, 2) := by decide +kernel
theorem dL_law_250 : decode cL_law 250 = .ok (.aload_n 2, 1) := by decide +kernel
theorem dL_law_251 : decode cL_law 251 = .ok (.aload_n 0, 1) := by decide +kernel
theorem dL_law_252 : decode cL_law 252 = .ok (.iload 4, 2) := by decide +kernel
theorem dL_law_254 : decode cL_law 254 = .ok (.iconst 1, 1) := by decide +kernel
theorem dL_law_255 : decode cL_law 255 = .ok (.iadd, 1) := by decide +kernel
theorem dL_law_256 : decode cL_law 256 = .ok (.iaload, 1) := by decide +kernel
theorem dL_law_257 : decode cL_law 257 = .ok (.aload_n 0, 1) := by decide +kernel
theorem dL_law_258 : decode cL_law 258 = .ok (.iload 4, 2) := by decide +kernel
theorem dL_law_260 : decode cL_law 260 = .ok (.iconst 2, 1) := by decide +kernel
theorem dL_law_261 : decode cL_law 261 = .ok (.iadd, 1) := by decide +kernel
theorem dL_law_262 : decode cL_law 262 = .ok (.iaload, 1) := by decide +kernel
theorem dL_law_263 : decode cL_law 263 = .ok (.invokevirtual 50, 3) := by decide +kernel
theorem dL_law_266 : decode cL_law 266 = .ok (.istore 6, 2) := by decide +kernel
theorem dL_law_268 : decode cL_law 268 = .ok (.aload_n 2, 1) := by decide +kernel
theorem dL_law_269 : decode cL_law 269 = .ok (.invokevirtual 51, 3) := by decide +kernel
theorem dL_law_272 : decode cL_law 272 = .ok (.iload 5, 2) := by decide +kernel
theorem dL_law_274 : decode cL_law 274 = .ok (.if_icmp .eq 5, 3) := by decide +kernel
theorem dL_law_277 : decode cL_law 277 = .ok (.iconst 0, 1) := by decide +kernel
theorem dL_law_278 : decode cL_law 278 = .ok (.ireturn, 1) := by decide +kernel
theorem dL_law_279 : decode cL_law 279 = .ok (.iload 5, 2) := by decide +kernel
theorem dL_law_281 : decode cL_law 281 = .ok (.ifCond .ne 15, 3) := by decide +kernel
theorem dL_law_284 : decode cL_law 284 = .ok (.aload_n 3, 1) := by decide +kernel
theorem dL_law_285 : decode cL_law 285 = .ok (.iconst 0, 1) := by decide +kernel
theorem dL_law_286 : decode cL_law 286 = .ok (.laload, 1) := by decide +kernel
theorem dL_law_287 : decode cL_law 287 = .ok (.iload 6, 2) := by decide +kernel
theorem dL_law_289 : decode cL_law 289 = .ok (.i2l, 1) := by decide +kernel
theorem dL_law_290 : decode cL_law 290 = .ok (.lcmp, 1) := by decide +kernel
theorem dL_law_291 : decode cL_law 291 = .ok (.ifCond .eq 5, 3) := by decide +kernel
theorem dL_law_294 : decode cL_law 294 = .ok (.iconst 0, 1) := by decide +kernel
theorem dL_law_295 : decode cL_law 295 = .ok (.ireturn, 1) := by decide +kernel
theorem dL_law_296 : decode cL_law 296 = .ok (.goto 797, 3) := by decide +kernel
theorem dL_law_299 : decode cL_law 299 = .ok (.aload_n 1, 1) := by decide +kernel
theorem dL_law_300 : decode cL_law 300 = .ok (.aload_n 0, 1) := by decide +kernel
theorem dL_law_301 : decode cL_law 301 = .ok (.iload 4, 2) := by decide +kernel
theorem dL_law_303 : decode cL_law 303 = .ok (.iconst 1, 1) := by decide +kernel
theorem dL_law_304 : decode cL_law 304 = .ok (.iadd, 1) := by decide +kernel
theorem dL_law_305 : decode cL_law 305 = .ok (.iaload, 1) := by decide +kernel
theorem dL_law_306 : decode cL_law 306 = .ok (.aload_n 0, 1) := by decide +kernel
theorem dL_law_307 : decode cL_law 307 = .ok (.iload 4, 2) := by decide +kernel
theorem dL_law_309 : decode cL_law 309 = .ok (.iconst 2, 1) := by decide +kernel
theorem dL_law_310 : decode cL_law 310 = .ok (.iadd, 1) := by decide +kernel
theorem dL_law_311 : decode cL_law 311 = .ok (.iaload, 1) := by decide +kernel
theorem dL_law_312 : decode cL_law 312 = .ok (.aload_n 3, 1) := by decide +kernel
theorem dL_law_313 : decode cL_law 313 = .ok (.invokestatic 54, 3) := by decide +kernel
theorem dL_law_316 : decode cL_law 316 = .ok (.istore 5, 2) := by decide +kernel
theorem dL_law_318 : decode cL_law 318 = .ok (.aload_n 2, 1) := by decide +kernel
theorem dL_law_319 : decode cL_law 319 = .ok (.aload_n 0, 1) := by decide +kernel
theorem dL_law_320 : decode cL_law 320 = .ok (.iload 4, 2) := by decide +kernel
theorem dL_law_322 : decode cL_law 322 = .ok (.iconst 1, 1) := by decide +kernel
theorem dL_law_323 : decode cL_law 323 = .ok (.iadd, 1) := by decide +kernel
theorem dL_law_324 : decode cL_law 324 = .ok (.iaload, 1) := by decide +kernel
theorem dL_law_325 : decode cL_law 325 = .ok (.aload_n 0, 1) := by decide +kernel
theorem dL_law_326 : decode cL_law 326 = .ok (.iload 4, 2) := by decide +kernel
theorem dL_law_328 : decode cL_law 328 = .ok (.iconst 2, 1) := by decide +kernel
theorem dL_law_329 : decode cL_law 329 = .ok (.iadd, 1) := by decide +kernel
theorem dL_law_330 : decode cL_law 330 = .ok (.iaload, 1) := by decide +kernel
theorem dL_law_331 : decode cL_law 331 = .ok (.invokevirtual 56, 3) := by decide +kernel
theorem dL_law_334 : decode cL_law 334 = .ok (.istore 6, 2) := by decide +kernel
theorem dL_law_336 : decode cL_law 336 = .ok (.aload_n 2, 1) := by decide +kernel
theorem dL_law_337 : decode cL_law 337 = .ok (.invokevirtual 51, 3) := by decide +kernel
theorem dL_law_340 : decode cL_law 340 = .ok (.iload 5, 2) := by decide +kernel
theorem dL_law_342 : decode cL_law 342 = .ok (.if_icmp .eq 5, 3) := by decide +kernel
theorem dL_law_345 : decode cL_law 345 = .ok (.iconst 0, 1) := by decide +kernel
theorem dL_law_346 : decode cL_law 346 = .ok (.ireturn, 1) := by decide +kernel
theorem dL_law_347 : decode cL_law 347 = .ok (.iload 5, 2) := by decide +kernel
theorem dL_law_349 : decode cL_law 349 = .ok (.ifCond .ne 15, 3) := by decide +kernel
theorem dL_law_352 : decode cL_law 352 = .ok (.aload_n 3, 1) := by decide +kernel
theorem dL_law_353 : decode cL_law 353 = .ok (.iconst 0, 1) := by decide +kernel
theorem dL_law_354 : decode cL_law 354 = .ok (.laload, 1) := by decide +kernel
theorem dL_law_355 : decode cL_law 355 = .ok (.iload 6, 2) := by decide +kernel
theorem dL_law_357 : decode cL_law 357 = .ok (.i2l, 1) := by decide +kernel
theorem dL_law_358 : decode cL_law 358 = .ok (.lcmp, 1) := by decide +kernel
theorem dL_law_359 : decode cL_law 359 = .ok (.ifCond .eq 5, 3) := by decide +kernel
theorem dL_law_362 : decode cL_law 362 = .ok (.iconst 0, 1) := by decide +kernel
theorem dL_law_363 : decode cL_law 363 = .ok (.ireturn, 1) := by decide +kernel
theorem dL_law_364 : decode cL_law 364 = .ok (.goto 729, 3) := by decide +kernel
theorem dL_law_367 : decode cL_law 367 = .ok (.aload_n 1, 1) := by decide +kernel
theorem dL_law_368 : decode cL_law 368 = .ok (.aload_n 0, 1) := by decide +kernel
theorem dL_law_369 : decode cL_law 369 = .ok (.iload 4, 2) := by decide +kernel
theorem dL_law_371 : decode cL_law 371 = .ok (.iconst 1, 1) := by decide +kernel
theorem dL_law_372 : decode cL_law 372 = .ok (.iadd, 1) := by decide +kernel
theorem dL_law_373 : decode cL_law 373 = .ok (.iaload, 1) := by decide +kernel
theorem dL_law_374 : decode cL_law 374 = .ok (.aload_n 0, 1) := by decide +kernel
theorem dL_law_375 : decode cL_law 375 = .ok (.iload 4, 2) := by decide +kernel
theorem dL_law_377 : decode cL_law 377 = .ok (.iconst 2, 1) := by decide +kernel
theorem dL_law_378 : decode cL_law 378 = .ok (.iadd, 1) := by decide +kernel
theorem dL_law_379 : decode cL_law 379 = .ok (.iaload, 1) := by decide +kernel
theorem dL_law_380 : decode cL_law 380 = .ok (.invokevirtual 57, 3) := by decide +kernel
theorem dL_law_383 : decode cL_law 383 = .ok (.aload_n 2, 1) := by decide +kernel
theorem dL_law_384 : decode cL_law 384 = .ok (.aload_n 0, 1) := by decide +kernel
theorem dL_law_385 : decode cL_law 385 = .ok (.iload 4, 2) := by decide +kernel
theorem dL_law_387 : decode cL_law 387 = .ok (.iconst 1, 1) := by decide +kernel
theorem dL_law_388 : decode cL_law 388 = .ok (.iadd, 1) := by decide +kernel
theorem dL_law_389 : decode cL_law 389 = .ok (.iaload, 1) := by decide +kernel
theorem dL_law_390 : decode cL_law 390 = .ok (.aload_n 0, 1) := by decide +kernel
theorem dL_law_391 : decode cL_law 391 = .ok (.iload 4, 2) := by decide +kernel
theorem dL_law_393 : decode cL_law 393 = .ok (.iconst 2, 1) := by decide +kernel
theorem dL_law_394 : decode cL_law 394 = .ok (.iadd, 1) := by decide +kernel
theorem dL_law_395 : decode cL_law 395 = .ok (.iaload, 1) := by decide +kernel
theorem dL_law_396 : decode cL_law 396 = .ok (.invokevirtual 60, 3) := by decide +kernel
theorem dL_law_399 : decode cL_law 399 = .ok (.if_icmp .eq 694, 3) := by decide +kernel
theorem dL_law_402 : decode cL_law 402 = .ok (.iconst 0, 1) := by decide +kernel
theorem dL_law_403 : decode cL_law 403 = .ok (.ireturn, 1) := by decide +kernel
theorem dL_law_404 : decode cL_law 404 = .ok (.aload_n 1, 1) := by decide +kernel
theorem dL_law_405 : decode cL_law 405 = .ok (.invokevirtual 61, 3) := by decide +kernel
theorem dL_law_408 : decode cL_law 408 = .ok (.aload_n 2, 1) := by decide +kernel
theorem dL_law_409 : decode cL_law 409 = .ok (.invokevirtual 64, 3) := by decide +kernel
theorem dL_law_412 : decode cL_law 412 = .ok (.if_icmp .eq 681, 3) := by decide +kernel
theorem dL_law_415 : decode cL_law 415 = .ok (.iconst 0, 1) := by decide +kernel
theorem dL_law_416 : decode cL_law 416 = .ok (.ireturn, 1) := by decide +kernel
theorem dL_law_417 : decode cL_law 417 = .ok (.aload_n 1, 1) := by decide +kernel
theorem dL_law_418 : decode cL_law 418 = .ok (.aload_n 0, 1) := by decide +kernel
theorem dL_law_419 : decode cL_law 419 = .ok (.iload 4, 2) := by decide +kernel
theorem dL_law_421 : decode cL_law 421 = .ok (.iconst 1, 1) := by decide +kernel
theorem dL_law_422 : decode cL_law 422 = .ok (.iadd, 1) := by decide +kernel
theorem dL_law_423 : decode cL_law 423 = .ok (.iaload, 1) := by decide +kernel
theorem dL_law_424 : decode cL_law 424 = .ok (.aload_n 0, 1) := by decide +kernel
theorem dL_law_425 : decode cL_law 425 = .ok (.iload 4, 2) := by decide +kernel
theorem dL_law_427 : decode cL_law 427 = .ok (.iconst 2, 1) := by decide +kernel
theorem dL_law_428 : decode cL_law 428 = .ok (.iadd, 1) := by decide +kernel
theorem dL_law_429 : decode cL_law 429 = .ok (.iaload, 1) := by decide +kernel
theorem dL_law_430 : decode cL_law 430 = .ok (.aload_n 0, 1) := by decide +kernel
theorem dL_law_431 : decode cL_law 431 = .ok (.iload 4, 2) := by decide +kernel
theorem dL_law_433 : decode cL_law 433 = .ok (.iconst 3, 1) := by decide +kernel
theorem dL_law_434 : decode cL_law 434 = .ok (.iadd, 1) := by decide +kernel
theorem dL_law_435 : decode cL_law 435 = .ok (.iaload, 1) := by decide +kernel
theorem dL_law_436 : decode cL_law 436 = .ok (.aload_n 3, 1) := by decide +kernel
theorem dL_law_437 : decode cL_law 437 = .ok (.invokestatic 65, 3) := by decide +kernel
theorem dL_law_440 : decode cL_law 440 = .ok (.istore 5, 2) := by decide +kernel
theorem dL_law_442 : decode cL_law 442 = .ok (.aload_n 2, 1) := by decide +kernel
theorem dL_law_443 : decode cL_law 443 = .ok (.aload_n 0, 1) := by decide +kernel
theorem dL_law_444 : decode cL_law 444 = .ok (.iload 4, 2) := by decide +kernel
theorem dL_law_446 : decode cL_law 446 = .ok (.iconst 1, 1) := by decide +kernel
theorem dL_law_447 : decode cL_law 447 = .ok (.iadd, 1) := by decide +kernel
theorem dL_law_448 : decode cL_law 448 = .ok (.iaload, 1) := by decide +kernel
theorem dL_law_449 : decode cL_law 449 = .ok (.aload_n 0, 1) := by decide +kernel
theorem dL_law_450 : decode cL_law 450 = .ok (.iload 4, 2) := by decide +kernel
theorem dL_law_452 : decode cL_law 452 = .ok (.iconst 2, 1) := by decide +kernel
theorem dL_law_453 : decode cL_law 453 = .ok (.iadd, 1) := by decide +kernel
theorem dL_law_454 : decode cL_law 454 = .ok (.iaload, 1) := by decide +kernel
theorem dL_law_455 : decode cL_law 455 = .ok (.aload_n 0, 1) := by decide +kernel
theorem dL_law_456 : decode cL_law 456 = .ok (.iload 4, 2) := by decide +kernel
theorem dL_law_458 : decode cL_law 458 = .ok (.iconst 3, 1) := by decide +kernel
theorem dL_law_459 : decode cL_law 459 = .ok (.iadd, 1) := by decide +kernel
theorem dL_law_460 : decode cL_law 460 = .ok (.iaload, 1) := by decide +kernel
theorem dL_law_461 : decode cL_law 461 = .ok (.invokevirtual 68, 3) := by decide +kernel
theorem dL_law_464 : decode cL_law 464 = .ok (.istore 6, 2) := by decide +kernel
theorem dL_law_466 : decode cL_law 466 = .ok (.aload_n 2, 1) := by decide +kernel
theorem dL_law_467 : decode cL_law 467 = .ok (.invokevirtual 51, 3) := by decide +kernel
theorem dL_law_470 : decode cL_law 470 = .ok (.iload 5, 2) := by decide +kernel
theorem dL_law_472 : decode cL_law 472 = .ok (.if_icmp .eq 5, 3) := by decide +kernel
theorem dL_law_475 : decode cL_law 475 = .ok (.iconst 0, 1) := by decide +kernel
theorem dL_law_476 : decode cL_law 476 = .ok (.ireturn, 1) := by decide +kernel
theorem dL_law_477 : decode cL_law 477 = .ok (.iload 5, 2) := by decide +kernel
theorem dL_law_479 : decode cL_law 479 = .ok (.ifCond .ne 15, 3) := by decide +kernel
theorem dL_law_482 : decode cL_law 482 = .ok (.aload_n 3, 1) := by decide +kernel
theorem dL_law_483 : decode cL_law 483 = .ok (.iconst 0, 1) := by decide +kernel
theorem dL_law_484 : decode cL_law 484 = .ok (.laload, 1) := by decide +kernel
theorem dL_law_485 : decode cL_law 485 = .ok (.iload 6, 2) := by decide +kernel
theorem dL_law_487 : decode cL_law 487 = .ok (.i2l, 1) := by decide +kernel
theorem dL_law_488 : decode cL_law 488 = .ok (.lcmp, 1) := by decide +kernel
theorem dL_law_489 : decode cL_law 489 = .ok (.ifCond .eq 5, 3) := by decide +kernel
theorem dL_law_492 : decode cL_law 492 = .ok (.iconst 0, 1) := by decide +kernel
theorem dL_law_493 : decode cL_law 493 = .ok (.ireturn, 1) := by decide +kernel
theorem dL_law_494 : decode cL_law 494 = .ok (.goto 599, 3) := by decide +kernel
theorem dL_law_497 : decode cL_law 497 = .ok (.aload_n 1, 1) := by decide +kernel
theorem dL_law_498 : decode cL_law 498 = .ok (.aload_n 0, 1) := by decide +kernel
theorem dL_law_499 : decode cL_law 499 = .ok (.iload 4, 2) := by decide +kernel
theorem dL_law_501 : decode cL_law 501 = .ok (.iconst 1, 1) := by decide +kernel
theorem dL_law_502 : decode cL_law 502 = .ok (.iadd, 1) := by decide +kernel
theorem dL_law_503 : decode cL_law 503 = .ok (.iaload, 1) := by decide +kernel
theorem dL_law_504 : decode cL_law 504 = .ok (.invokevirtual 69, 3) := by decide +kernel
theorem dL_law_507 : decode cL_law 507 = .ok (.aload_n 2, 1) := by decide +kernel
theorem dL_law_508 : decode cL_law 508 = .ok (.aload_n 0, 1) := by decide +kernel
theorem dL_law_509 : decode cL_law 509 = .ok (.iload 4, 2) := by decide +kernel
theorem dL_law_511 : decode cL_law 511 = .ok (.iconst 1, 1) := by decide +kernel
theorem dL_law_512 : decode cL_law 512 = .ok (.iadd, 1) := by decide +kernel
theorem dL_law_513 : decode cL_law 513 = .ok (.iaload, 1) := by decide +kernel
theorem dL_law_514 : decode cL_law 514 = .ok (.invokevirtual 73, 3) := by decide +kernel
theorem dL_law_517 : decode cL_law 517 = .ok (.if_icmp .eq 576, 3) := by decide +kernel
theorem dL_law_520 : decode cL_law 520 = .ok (.iconst 0, 1) := by decide +kernel
theorem dL_law_521 : decode cL_law 521 = .ok (.ireturn, 1) := by decide +kernel
theorem dL_law_522 : decode cL_law 522 = .ok (.aload_n 1, 1) := by decide +kernel
theorem dL_law_523 : decode cL_law 523 = .ok (.aload_n 0, 1) := by decide +kernel
theorem dL_law_524 : decode cL_law 524 = .ok (.iload 4, 2) := by decide +kernel
theorem dL_law_526 : decode cL_law 526 = .ok (.iconst 1, 1) := by decide +kernel
theorem dL_law_527 : decode cL_law 527 = .ok (.iadd, 1) := by decide +kernel
theorem dL_law_528 : decode cL_law 528 = .ok (.iaload, 1) := by decide +kernel
theorem dL_law_529 : decode cL_law 529 = .ok (.invokevirtual 74, 3) := by decide +kernel
theorem dL_law_532 : decode cL_law 532 = .ok (.aload_n 2, 1) := by decide +kernel
theorem dL_law_533 : decode cL_law 533 = .ok (.aload_n 0, 1) := by decide +kernel
theorem dL_law_534 : decode cL_law 534 = .ok (.iload 4, 2) := by decide +kernel
theorem dL_law_536 : decode cL_law 536 = .ok (.iconst 1, 1) := by decide +kernel
theorem dL_law_537 : decode cL_law 537 = .ok (.iadd, 1) := by decide +kernel
theorem dL_law_538 : decode cL_law 538 = .ok (.iaload, 1) := by decide +kernel
theorem dL_law_539 : decode cL_law 539 = .ok (.invokevirtual 77, 3) := by decide +kernel
theorem dL_law_542 : decode cL_law 542 = .ok (.if_icmp .eq 551, 3) := by decide +kernel
theorem dL_law_545 : decode cL_law 545 = .ok (.iconst 0, 1) := by decide +kernel
theorem dL_law_546 : decode cL_law 546 = .ok (.ireturn, 1) := by decide +kernel
theorem dL_law_547 : decode cL_law 547 = .ok (.aload_n 1, 1) := by decide +kernel
theorem dL_law_548 : decode cL_law 548 = .ok (.aload_n 0, 1) := by decide +kernel
theorem dL_law_549 : decode cL_law 549 = .ok (.iload 4, 2) := by decide +kernel
theorem dL_law_551 : decode cL_law 551 = .ok (.iconst 1, 1) := by decide +kernel
theorem dL_law_552 : decode cL_law 552 = .ok (.iadd, 1) := by decide +kernel
theorem dL_law_553 : decode cL_law 553 = .ok (.iaload, 1) := by decide +kernel
theorem dL_law_554 : decode cL_law 554 = .ok (.aload_n 0, 1) := by decide +kernel
theorem dL_law_555 : decode cL_law 555 = .ok (.iload 4, 2) := by decide +kernel
theorem dL_law_557 : decode cL_law 557 = .ok (.iconst 2, 1) := by decide +kernel
theorem dL_law_558 : decode cL_law 558 = .ok (.iadd, 1) := by decide +kernel
theorem dL_law_559 : decode cL_law 559 = .ok (.iaload, 1) := by decide +kernel
theorem dL_law_560 : decode cL_law 560 = .ok (.i2l, 1) := by decide +kernel
theorem dL_law_561 : decode cL_law 561 = .ok (.bipush 32, 2) := by decide +kernel
theorem dL_law_563 : decode cL_law 563 = .ok (.lshl, 1) := by decide +kernel
theorem dL_law_564 : decode cL_law 564 = .ok (.aload_n 0, 1) := by decide +kernel
theorem dL_law_565 : decode cL_law 565 = .ok (.iload 4, 2) := by decide +kernel
theorem dL_law_567 : decode cL_law 567 = .ok (.iconst 3, 1) := by decide +kernel
theorem dL_law_568 : decode cL_law 568 = .ok (.iadd, 1) := by decide +kernel
theorem dL_law_569 : decode cL_law 569 = .ok (.iaload, 1) := by decide +kernel
theorem dL_law_570 : decode cL_law 570 = .ok (.i2l, 1) := by decide +kernel
theorem dL_law_571 : decode cL_law 571 = .ok (.ldc2_w 78, 3) := by decide +kernel
theorem dL_law_574 : decode cL_law 574 = .ok (.land, 1) := by decide +kernel
theorem dL_law_575 : decode cL_law 575 = .ok (.lor, 1) := by decide +kernel
theorem dL_law_576 : decode cL_law 576 = .ok (.invokevirtual 80, 3) := by decide +kernel
theorem dL_law_579 : decode cL_law 579 = .ok (.aload_n 2, 1) := by decide +kernel
theorem dL_law_580 : decode cL_law 580 = .ok (.aload_n 0, 1) := by decide +kernel
theorem dL_law_581 : decode cL_law 581 = .ok (.iload 4, 2) := by decide +kernel
theorem dL_law_583 : decode cL_law 583 = .ok (.iconst 1, 1) := by decide +kernel
theorem dL_law_584 : decode cL_law 584 = .ok (.iadd, 1) := by decide +kernel
theorem dL_law_585 : decode cL_law 585 = .ok (.iaload, 1) := by decide +kernel
theorem dL_law_586 : decode cL_law 586 = .ok (.aload_n 0, 1) := by decide +kernel
theorem dL_law_587 : decode cL_law 587 = .ok (.iload 4, 2) := by decide +kernel
theorem dL_law_589 : decode cL_law 589 = .ok (.iconst 2, 1) := by decide +kernel
theorem dL_law_590 : decode cL_law 590 = .ok (.iadd, 1) := by decide +kernel
theorem dL_law_591 : decode cL_law 591 = .ok (.iaload, 1) := by decide +kernel
theorem dL_law_592 : decode cL_law 592 = .ok (.i2l, 1) := by decide +kernel
theorem dL_law_593 : decode cL_law 593 = .ok (.bipush 32, 2) := by decide +kernel
theorem dL_law_595 : decode cL_law 595 = .ok (.lshl, 1) := by decide +kernel
theorem dL_law_596 : decode cL_law 596 = .ok (.aload_n 0, 1) := by decide +kernel
theorem dL_law_597 : decode cL_law 597 = .ok (.iload 4, 2) := by decide +kernel
theorem dL_law_599 : decode cL_law 599 = .ok (.iconst 3, 1) := by decide +kernel
theorem dL_law_600 : decode cL_law 600 = .ok (.iadd, 1) := by decide +kernel
theorem dL_law_601 : decode cL_law 601 = .ok (.iaload, 1) := by decide +kernel
theorem dL_law_602 : decode cL_law 602 = .ok (.i2l, 1) := by decide +kernel
theorem dL_law_603 : decode cL_law 603 = .ok (.ldc2_w 78, 3) := by decide +kernel
theorem dL_law_606 : decode cL_law 606 = .ok (.land, 1) := by decide +kernel
theorem dL_law_607 : decode cL_law 607 = .ok (.lor, 1) := by decide +kernel
theorem dL_law_608 : decode cL_law 608 = .ok (.invokevirtual 84, 3) := by decide +kernel
theorem dL_law_611 : decode cL_law 611 = .ok (.if_icmp .eq 482, 3) := by decide +kernel
theorem dL_law_614 : decode cL_law 614 = .ok (.iconst 0, 1) := by decide +kernel
theorem dL_law_615 : decode cL_law 615 = .ok (.ireturn, 1) := by decide +kernel
theorem dL_law_616 : decode cL_law 616 = .ok (.aload_n 1, 1) := by decide +kernel
theorem dL_law_617 : decode cL_law 617 = .ok (.aload_n 0, 1) := by decide +kernel
theorem dL_law_618 : decode cL_law 618 = .ok (.iload 4, 2) := by decide +kernel
theorem dL_law_620 : decode cL_law 620 = .ok (.iconst 1, 1) := by decide +kernel
theorem dL_law_621 : decode cL_law 621 = .ok (.iadd, 1) := by decide +kernel
theorem dL_law_622 : decode cL_law 622 = .ok (.iaload, 1) := by decide +kernel
theorem dL_law_623 : decode cL_law 623 = .ok (.aload_n 0, 1) := by decide +kernel
theorem dL_law_624 : decode cL_law 624 = .ok (.iload 4, 2) := by decide +kernel
theorem dL_law_626 : decode cL_law 626 = .ok (.iconst 2, 1) := by decide +kernel
theorem dL_law_627 : decode cL_law 627 = .ok (.iadd, 1) := by decide +kernel
theorem dL_law_628 : decode cL_law 628 = .ok (.iaload, 1) := by decide +kernel
theorem dL_law_629 : decode cL_law 629 = .ok (.invokevirtual 85, 3) := by decide +kernel
theorem dL_law_632 : decode cL_law 632 = .ok (.aload_n 2, 1) := by decide +kernel
theorem dL_law_633 : decode cL_law 633 = .ok (.aload_n 0, 1) := by decide +kernel
theorem dL_law_634 : decode cL_law 634 = .ok (.iload 4, 2) := by decide +kernel
theorem dL_law_636 : decode cL_law 636 = .ok (.iconst 1, 1) := by decide +kernel
theorem dL_law_637 : decode cL_law 637 = .ok (.iadd, 1) := by decide +kernel
theorem dL_law_638 : decode cL_law 638 = .ok (.iaload, 1) := by decide +kernel
theorem dL_law_639 : decode cL_law 639 = .ok (.aload_n 0, 1) := by decide +kernel
theorem dL_law_640 : decode cL_law 640 = .ok (.iload 4, 2) := by decide +kernel
theorem dL_law_642 : decode cL_law 642 = .ok (.iconst 2, 1) := by decide +kernel
theorem dL_law_643 : decode cL_law 643 = .ok (.iadd, 1) := by decide +kernel
theorem dL_law_644 : decode cL_law 644 = .ok (.iaload, 1) := by decide +kernel
theorem dL_law_645 : decode cL_law 645 = .ok (.invokevirtual 88, 3) := by decide +kernel
theorem dL_law_648 : decode cL_law 648 = .ok (.if_icmp .eq 445, 3) := by decide +kernel
theorem dL_law_651 : decode cL_law 651 = .ok (.iconst 0, 1) := by decide +kernel
theorem dL_law_652 : decode cL_law 652 = .ok (.ireturn, 1) := by decide +kernel
theorem dL_law_653 : decode cL_law 653 = .ok (.aload_n 1, 1) := by decide +kernel
theorem dL_law_654 : decode cL_law 654 = .ok (.aload_n 0, 1) := by decide +kernel
theorem dL_law_655 : decode cL_law 655 = .ok (.iload 4, 2) := by decide +kernel
theorem dL_law_657 : decode cL_law 657 = .ok (.iconst 1, 1) := by decide +kernel
theorem dL_law_658 : decode cL_law 658 = .ok (.iadd, 1) := by decide +kernel
theorem dL_law_659 : decode cL_law 659 = .ok (.iaload, 1) := by decide +kernel
theorem dL_law_660 : decode cL_law 660 = .ok (.aload_n 3, 1) := by decide +kernel
theorem dL_law_661 : decode cL_law 661 = .ok (.invokestatic 89, 3) := by decide +kernel
theorem dL_law_664 : decode cL_law 664 = .ok (.istore 5, 2) := by decide +kernel
theorem dL_law_666 : decode cL_law 666 = .ok (.aload_n 2, 1) := by decide +kernel
theorem dL_law_667 : decode cL_law 667 = .ok (.aload_n 0, 1) := by decide +kernel
theorem dL_law_668 : decode cL_law 668 = .ok (.iload 4, 2) := by decide +kernel
theorem dL_law_670 : decode cL_law 670 = .ok (.iconst 1, 1) := by decide +kernel
theorem dL_law_671 : decode cL_law 671 = .ok (.iadd, 1) := by decide +kernel
theorem dL_law_672 : decode cL_law 672 = .ok (.iaload, 1) := by decide +kernel
theorem dL_law_673 : decode cL_law 673 = .ok (.invokevirtual 92, 3) := by decide +kernel
theorem dL_law_676 : decode cL_law 676 = .ok (.lstore 6, 2) := by decide +kernel
theorem dL_law_678 : decode cL_law 678 = .ok (.aload_n 2, 1) := by decide +kernel
theorem dL_law_679 : decode cL_law 679 = .ok (.invokevirtual 51, 3) := by decide +kernel
theorem dL_law_682 : decode cL_law 682 = .ok (.iload 5, 2) := by decide +kernel
theorem dL_law_684 : decode cL_law 684 = .ok (.if_icmp .eq 5, 3) := by decide +kernel
theorem dL_law_687 : decode cL_law 687 = .ok (.iconst 0, 1) := by decide +kernel
theorem dL_law_688 : decode cL_law 688 = .ok (.ireturn, 1) := by decide +kernel
theorem dL_law_689 : decode cL_law 689 = .ok (.iload 5, 2) := by decide +kernel
theorem dL_law_691 : decode cL_law 691 = .ok (.ifCond .ne 14, 3) := by decide +kernel
theorem dL_law_694 : decode cL_law 694 = .ok (.aload_n 3, 1) := by decide +kernel
theorem dL_law_695 : decode cL_law 695 = .ok (.iconst 0, 1) := by decide +kernel
theorem dL_law_696 : decode cL_law 696 = .ok (.laload, 1) := by decide +kernel
theorem dL_law_697 : decode cL_law 697 = .ok (.lload 6, 2) := by decide +kernel
theorem dL_law_699 : decode cL_law 699 = .ok (.lcmp, 1) := by decide +kernel
theorem dL_law_700 : decode cL_law 700 = .ok (.ifCond .eq 5, 3) := by decide +kernel
theorem dL_law_703 : decode cL_law 703 = .ok (.iconst 0, 1) := by decide +kernel
theorem dL_law_704 : decode cL_law 704 = .ok (.ireturn, 1) := by decide +kernel
theorem dL_law_705 : decode cL_law 705 = .ok (.goto 388, 3) := by decide +kernel
theorem dL_law_708 : decode cL_law 708 = .ok (.aload_n 1, 1) := by decide +kernel
theorem dL_law_709 : decode cL_law 709 = .ok (.invokevirtual 93, 3) := by decide +kernel
theorem dL_law_712 : decode cL_law 712 = .ok (.aload_n 2, 1) := by decide +kernel
theorem dL_law_713 : decode cL_law 713 = .ok (.invokevirtual 96, 3) := by decide +kernel
theorem dL_law_716 : decode cL_law 716 = .ok (.if_icmp .eq 377, 3) := by decide +kernel
theorem dL_law_719 : decode cL_law 719 = .ok (.iconst 0, 1) := by decide +kernel
theorem dL_law_720 : decode cL_law 720 = .ok (.ireturn, 1) := by decide +kernel
theorem dL_law_721 : decode cL_law 721 = .ok (.aload_n 1, 1) := by decide +kernel
theorem dL_law_722 : decode cL_law 722 = .ok (.invokevirtual 97, 3) := by decide +kernel
theorem dL_law_725 : decode cL_law 725 = .ok (.aload_n 2, 1) := by decide +kernel
theorem dL_law_726 : decode cL_law 726 = .ok (.invokevirtual 101, 3) := by decide +kernel
theorem dL_law_729 : decode cL_law 729 = .ok (.if_icmp .eq 364, 3) := by decide +kernel
theorem dL_law_732 : decode cL_law 732 = .ok (.iconst 0, 1) := by decide +kernel
theorem dL_law_733 : decode cL_law 733 = .ok (.ireturn, 1) := by decide +kernel
theorem dL_law_734 : decode cL_law 734 = .ok (.aload_n 1, 1) := by decide +kernel
theorem dL_law_735 : decode cL_law 735 = .ok (.aload_n 0, 1) := by decide +kernel
theorem dL_law_736 : decode cL_law 736 = .ok (.iload 4, 2) := by decide +kernel
theorem dL_law_738 : decode cL_law 738 = .ok (.iconst 1, 1) := by decide +kernel
theorem dL_law_739 : decode cL_law 739 = .ok (.iadd, 1) := by decide +kernel
theorem dL_law_740 : decode cL_law 740 = .ok (.iaload, 1) := by decide +kernel
theorem dL_law_741 : decode cL_law 741 = .ok (.aload_n 0, 1) := by decide +kernel
theorem dL_law_742 : decode cL_law 742 = .ok (.iload 4, 2) := by decide +kernel
theorem dL_law_744 : decode cL_law 744 = .ok (.iconst 2, 1) := by decide +kernel
theorem dL_law_745 : decode cL_law 745 = .ok (.iadd, 1) := by decide +kernel
theorem dL_law_746 : decode cL_law 746 = .ok (.iaload, 1) := by decide +kernel
theorem dL_law_747 : decode cL_law 747 = .ok (.i2l, 1) := by decide +kernel
theorem dL_law_748 : decode cL_law 748 = .ok (.bipush 32, 2) := by decide +kernel
theorem dL_law_750 : decode cL_law 750 = .ok (.lshl, 1) := by decide +kernel
theorem dL_law_751 : decode cL_law 751 = .ok (.aload_n 0, 1) := by decide +kernel
theorem dL_law_752 : decode cL_law 752 = .ok (.iload 4, 2) := by decide +kernel
theorem dL_law_754 : decode cL_law 754 = .ok (.iconst 3, 1) := by decide +kernel
theorem dL_law_755 : decode cL_law 755 = .ok (.iadd, 1) := by decide +kernel
theorem dL_law_756 : decode cL_law 756 = .ok (.iaload, 1) := by decide +kernel
theorem dL_law_757 : decode cL_law 757 = .ok (.i2l, 1) := by decide +kernel
theorem dL_law_758 : decode cL_law 758 = .ok (.ldc2_w 78, 3) := by decide +kernel
theorem dL_law_761 : decode cL_law 761 = .ok (.land, 1) := by decide +kernel
theorem dL_law_762 : decode cL_law 762 = .ok (.lor, 1) := by decide +kernel
theorem dL_law_763 : decode cL_law 763 = .ok (.invokevirtual 102, 3) := by decide +kernel
theorem dL_law_766 : decode cL_law 766 = .ok (.aload_n 2, 1) := by decide +kernel
theorem dL_law_767 : decode cL_law 767 = .ok (.aload_n 0, 1) := by decide +kernel
theorem dL_law_768 : decode cL_law 768 = .ok (.iload 4, 2) := by decide +kernel
theorem dL_law_770 : decode cL_law 770 = .ok (.iconst 1, 1) := by decide +kernel
theorem dL_law_771 : decode cL_law 771 = .ok (.iadd, 1) := by decide +kernel
theorem dL_law_772 : decode cL_law 772 = .ok (.iaload, 1) := by decide +kernel
theorem dL_law_773 : decode cL_law 773 = .ok (.aload_n 0, 1) := by decide +kernel
theorem dL_law_774 : decode cL_law 774 = .ok (.iload 4, 2) := by decide +kernel
theorem dL_law_776 : decode cL_law 776 = .ok (.iconst 2, 1) := by decide +kernel
theorem dL_law_777 : decode cL_law 777 = .ok (.iadd, 1) := by decide +kernel
theorem dL_law_778 : decode cL_law 778 = .ok (.iaload, 1) := by decide +kernel
theorem dL_law_779 : decode cL_law 779 = .ok (.i2l, 1) := by decide +kernel
theorem dL_law_780 : decode cL_law 780 = .ok (.bipush 32, 2) := by decide +kernel
theorem dL_law_782 : decode cL_law 782 = .ok (.lshl, 1) := by decide +kernel
theorem dL_law_783 : decode cL_law 783 = .ok (.aload_n 0, 1) := by decide +kernel
theorem dL_law_784 : decode cL_law 784 = .ok (.iload 4, 2) := by decide +kernel
theorem dL_law_786 : decode cL_law 786 = .ok (.iconst 3, 1) := by decide +kernel
theorem dL_law_787 : decode cL_law 787 = .ok (.iadd, 1) := by decide +kernel
theorem dL_law_788 : decode cL_law 788 = .ok (.iaload, 1) := by decide +kernel
theorem dL_law_789 : decode cL_law 789 = .ok (.i2l, 1) := by decide +kernel
theorem dL_law_790 : decode cL_law 790 = .ok (.ldc2_w 78, 3) := by decide +kernel
theorem dL_law_793 : decode cL_law 793 = .ok (.land, 1) := by decide +kernel
theorem dL_law_794 : decode cL_law 794 = .ok (.lor, 1) := by decide +kernel
theorem dL_law_795 : decode cL_law 795 = .ok (.invokevirtual 105, 3) := by decide +kernel
theorem dL_law_798 : decode cL_law 798 = .ok (.if_icmp .eq 295, 3) := by decide +kernel
theorem dL_law_801 : decode cL_law 801 = .ok (.iconst 0, 1) := by decide +kernel
theorem dL_law_802 : decode cL_law 802 = .ok (.ireturn, 1) := by decide +kernel
theorem dL_law_803 : decode cL_law 803 = .ok (.aload_n 1, 1) := by decide +kernel
theorem dL_law_804 : decode cL_law 804 = .ok (.aload_n 0, 1) := by decide +kernel
theorem dL_law_805 : decode cL_law 805 = .ok (.iload 4, 2) := by decide +kernel
theorem dL_law_807 : decode cL_law 807 = .ok (.iconst 1, 1) := by decide +kernel
theorem dL_law_808 : decode cL_law 808 = .ok (.iadd, 1) := by decide +kernel
theorem dL_law_809 : decode cL_law 809 = .ok (.iaload, 1) := by decide +kernel
theorem dL_law_810 : decode cL_law 810 = .ok (.aload_n 0, 1) := by decide +kernel
theorem dL_law_811 : decode cL_law 811 = .ok (.iload 4, 2) := by decide +kernel
theorem dL_law_813 : decode cL_law 813 = .ok (.iconst 2, 1) := by decide +kernel
theorem dL_law_814 : decode cL_law 814 = .ok (.iadd, 1) := by decide +kernel
theorem dL_law_815 : decode cL_law 815 = .ok (.iaload, 1) := by decide +kernel
theorem dL_law_816 : decode cL_law 816 = .ok (.invokevirtual 106, 3) := by decide +kernel
theorem dL_law_819 : decode cL_law 819 = .ok (.aload_n 2, 1) := by decide +kernel
theorem dL_law_820 : decode cL_law 820 = .ok (.aload_n 0, 1) := by decide +kernel
theorem dL_law_821 : decode cL_law 821 = .ok (.iload 4, 2) := by decide +kernel
theorem dL_law_823 : decode cL_law 823 = .ok (.iconst 1, 1) := by decide +kernel
theorem dL_law_824 : decode cL_law 824 = .ok (.iadd, 1) := by decide +kernel
theorem dL_law_825 : decode cL_law 825 = .ok (.iaload, 1) := by decide +kernel
theorem dL_law_826 : decode cL_law 826 = .ok (.aload_n 0, 1) := by decide +kernel
theorem dL_law_827 : decode cL_law 827 = .ok (.iload 4, 2) := by decide +kernel
theorem dL_law_829 : decode cL_law 829 = .ok (.iconst 2, 1) := by decide +kernel
theorem dL_law_830 : decode cL_law 830 = .ok (.iadd, 1) := by decide +kernel
theorem dL_law_831 : decode cL_law 831 = .ok (.iaload, 1) := by decide +kernel
theorem dL_law_832 : decode cL_law 832 = .ok (.invokevirtual 109, 3) := by decide +kernel
theorem dL_law_835 : decode cL_law 835 = .ok (.if_icmp .eq 258, 3) := by decide +kernel
theorem dL_law_838 : decode cL_law 838 = .ok (.iconst 0, 1) := by decide +kernel
theorem dL_law_839 : decode cL_law 839 = .ok (.ireturn, 1) := by decide +kernel
theorem dL_law_840 : decode cL_law 840 = .ok (.aload_n 1, 1) := by decide +kernel
theorem dL_law_841 : decode cL_law 841 = .ok (.invokevirtual 110, 3) := by decide +kernel
theorem dL_law_844 : decode cL_law 844 = .ok (.aload_n 2, 1) := by decide +kernel
theorem dL_law_845 : decode cL_law 845 = .ok (.invokevirtual 113, 3) := by decide +kernel
theorem dL_law_848 : decode cL_law 848 = .ok (.if_icmp .eq 245, 3) := by decide +kernel
theorem dL_law_851 : decode cL_law 851 = .ok (.iconst 0, 1) := by decide +kernel
theorem dL_law_852 : decode cL_law 852 = .ok (.ireturn, 1) := by decide +kernel
theorem dL_law_853 : decode cL_law 853 = .ok (.aload_n 1, 1) := by decide +kernel
theorem dL_law_854 : decode cL_law 854 = .ok (.invokevirtual 114, 3) := by decide +kernel
theorem dL_law_857 : decode cL_law 857 = .ok (.aload_n 2, 1) := by decide +kernel
theorem dL_law_858 : decode cL_law 858 = .ok (.invokevirtual 117, 3) := by decide +kernel
theorem dL_law_861 : decode cL_law 861 = .ok (.if_icmp .eq 232, 3) := by decide +kernel
theorem dL_law_864 : decode cL_law 864 = .ok (.iconst 0, 1) := by decide +kernel
theorem dL_law_865 : decode cL_law 865 = .ok (.ireturn, 1) := by decide +kernel
theorem dL_law_866 : decode cL_law 866 = .ok (.aload_n 1, 1) := by decide +kernel
theorem dL_law_867 : decode cL_law 867 = .ok (.aload_n 0, 1) := by decide +kernel
theorem dL_law_868 : decode cL_law 868 = .ok (.iload 4, 2) := by decide +kernel
theorem dL_law_870 : decode cL_law 870 = .ok (.iconst 1, 1) := by decide +kernel
theorem dL_law_871 : decode cL_law 871 = .ok (.iadd, 1) := by decide +kernel
theorem dL_law_872 : decode cL_law 872 = .ok (.iaload, 1) := by decide +kernel
theorem dL_law_873 : decode cL_law 873 = .ok (.invokevirtual 118, 3) := by decide +kernel
theorem dL_law_876 : decode cL_law 876 = .ok (.aload_n 2, 1) := by decide +kernel
theorem dL_law_877 : decode cL_law 877 = .ok (.aload_n 0, 1) := by decide +kernel
theorem dL_law_878 : decode cL_law 878 = .ok (.iload 4, 2) := by decide +kernel
theorem dL_law_880 : decode cL_law 880 = .ok (.iconst 1, 1) := by decide +kernel
theorem dL_law_881 : decode cL_law 881 = .ok (.iadd, 1) := by decide +kernel
theorem dL_law_882 : decode cL_law 882 = .ok (.iaload, 1) := by decide +kernel
theorem dL_law_883 : decode cL_law 883 = .ok (.invokevirtual 121, 3) := by decide +kernel
theorem dL_law_886 : decode cL_law 886 = .ok (.if_icmp .eq 207, 3) := by decide +kernel
theorem dL_law_889 : decode cL_law 889 = .ok (.iconst 0, 1) := by decide +kernel
theorem dL_law_890 : decode cL_law 890 = .ok (.ireturn, 1) := by decide +kernel
theorem dL_law_891 : decode cL_law 891 = .ok (.aload_n 1, 1) := by decide +kernel
theorem dL_law_892 : decode cL_law 892 = .ok (.aload_n 0, 1) := by decide +kernel
theorem dL_law_893 : decode cL_law 893 = .ok (.iload 4, 2) := by decide +kernel
theorem dL_law_895 : decode cL_law 895 = .ok (.iconst 1, 1) := by decide +kernel
theorem dL_law_896 : decode cL_law 896 = .ok (.iadd, 1) := by decide +kernel
theorem dL_law_897 : decode cL_law 897 = .ok (.iaload, 1) := by decide +kernel
theorem dL_law_898 : decode cL_law 898 = .ok (.invokevirtual 122, 3) := by decide +kernel
theorem dL_law_901 : decode cL_law 901 = .ok (.aload_n 2, 1) := by decide +kernel
theorem dL_law_902 : decode cL_law 902 = .ok (.aload_n 0, 1) := by decide +kernel
theorem dL_law_903 : decode cL_law 903 = .ok (.iload 4, 2) := by decide +kernel
theorem dL_law_905 : decode cL_law 905 = .ok (.iconst 1, 1) := by decide +kernel
theorem dL_law_906 : decode cL_law 906 = .ok (.iadd, 1) := by decide +kernel
theorem dL_law_907 : decode cL_law 907 = .ok (.iaload, 1) := by decide +kernel
theorem dL_law_908 : decode cL_law 908 = .ok (.invokevirtual 125, 3) := by decide +kernel
theorem dL_law_911 : decode cL_law 911 = .ok (.if_icmp .eq 182, 3) := by decide +kernel
theorem dL_law_914 : decode cL_law 914 = .ok (.iconst 0, 1) := by decide +kernel
theorem dL_law_915 : decode cL_law 915 = .ok (.ireturn, 1) := by decide +kernel
theorem dL_law_916 : decode cL_law 916 = .ok (.aload_n 1, 1) := by decide +kernel
theorem dL_law_917 : decode cL_law 917 = .ok (.aload_n 0, 1) := by decide +kernel
theorem dL_law_918 : decode cL_law 918 = .ok (.iload 4, 2) := by decide +kernel
theorem dL_law_920 : decode cL_law 920 = .ok (.iconst 1, 1) := by decide +kernel
theorem dL_law_921 : decode cL_law 921 = .ok (.iadd, 1) := by decide +kernel
theorem dL_law_922 : decode cL_law 922 = .ok (.iaload, 1) := by decide +kernel
theorem dL_law_923 : decode cL_law 923 = .ok (.aload_n 0, 1) := by decide +kernel
theorem dL_law_924 : decode cL_law 924 = .ok (.iload 4, 2) := by decide +kernel
theorem dL_law_926 : decode cL_law 926 = .ok (.iconst 2, 1) := by decide +kernel
theorem dL_law_927 : decode cL_law 927 = .ok (.iadd, 1) := by decide +kernel
theorem dL_law_928 : decode cL_law 928 = .ok (.iaload, 1) := by decide +kernel
theorem dL_law_929 : decode cL_law 929 = .ok (.invokevirtual 126, 3) := by decide +kernel
theorem dL_law_932 : decode cL_law 932 = .ok (.aload_n 2, 1) := by decide +kernel
theorem dL_law_933 : decode cL_law 933 = .ok (.aload_n 0, 1) := by decide +kernel
theorem dL_law_934 : decode cL_law 934 = .ok (.iload 4, 2) := by decide +kernel
theorem dL_law_936 : decode cL_law 936 = .ok (.iconst 1, 1) := by decide +kernel
theorem dL_law_937 : decode cL_law 937 = .ok (.iadd, 1) := by decide +kernel
theorem dL_law_938 : decode cL_law 938 = .ok (.iaload, 1) := by decide +kernel
theorem dL_law_939 : decode cL_law 939 = .ok (.aload_n 0, 1) := by decide +kernel
theorem dL_law_940 : decode cL_law 940 = .ok (.iload 4, 2) := by decide +kernel
theorem dL_law_942 : decode cL_law 942 = .ok (.iconst 2, 1) := by decide +kernel
theorem dL_law_943 : decode cL_law 943 = .ok (.iadd, 1) := by decide +kernel
theorem dL_law_944 : decode cL_law 944 = .ok (.iaload, 1) := by decide +kernel
theorem dL_law_945 : decode cL_law 945 = .ok (.invokevirtual 129, 3) := by decide +kernel
theorem dL_law_948 : decode cL_law 948 = .ok (.if_icmp .eq 145, 3) := by decide +kernel
theorem dL_law_951 : decode cL_law 951 = .ok (.iconst 0, 1) := by decide +kernel
theorem dL_law_952 : decode cL_law 952 = .ok (.ireturn, 1) := by decide +kernel
theorem dL_law_953 : decode cL_law 953 = .ok (.aload_n 1, 1) := by decide +kernel
theorem dL_law_954 : decode cL_law 954 = .ok (.aload_n 0, 1) := by decide +kernel
theorem dL_law_955 : decode cL_law 955 = .ok (.iload 4, 2) := by decide +kernel
theorem dL_law_957 : decode cL_law 957 = .ok (.iconst 1, 1) := by decide +kernel
theorem dL_law_958 : decode cL_law 958 = .ok (.iadd, 1) := by decide +kernel
theorem dL_law_959 : decode cL_law 959 = .ok (.iaload, 1) := by decide +kernel
theorem dL_law_960 : decode cL_law 960 = .ok (.aload_n 0, 1) := by decide +kernel
theorem dL_law_961 : decode cL_law 961 = .ok (.iload 4, 2) := by decide +kernel
theorem dL_law_963 : decode cL_law 963 = .ok (.iconst 2, 1) := by decide +kernel
theorem dL_law_964 : decode cL_law 964 = .ok (.iadd, 1) := by decide +kernel
theorem dL_law_965 : decode cL_law 965 = .ok (.iaload, 1) := by decide +kernel
theorem dL_law_966 : decode cL_law 966 = .ok (.aload_n 0, 1) := by decide +kernel
theorem dL_law_967 : decode cL_law 967 = .ok (.iload 4, 2) := by decide +kernel
theorem dL_law_969 : decode cL_law 969 = .ok (.iconst 3, 1) := by decide +kernel
theorem dL_law_970 : decode cL_law 970 = .ok (.iadd, 1) := by decide +kernel
theorem dL_law_971 : decode cL_law 971 = .ok (.iaload, 1) := by decide +kernel
theorem dL_law_972 : decode cL_law 972 = .ok (.ifCond .eq 7, 3) := by decide +kernel
theorem dL_law_975 : decode cL_law 975 = .ok (.iconst 1, 1) := by decide +kernel
theorem dL_law_976 : decode cL_law 976 = .ok (.goto 4, 3) := by decide +kernel
theorem dL_law_979 : decode cL_law 979 = .ok (.iconst 0, 1) := by decide +kernel
theorem dL_law_980 : decode cL_law 980 = .ok (.invokevirtual 130, 3) := by decide +kernel
theorem dL_law_983 : decode cL_law 983 = .ok (.aload_n 2, 1) := by decide +kernel
theorem dL_law_984 : decode cL_law 984 = .ok (.aload_n 0, 1) := by decide +kernel
theorem dL_law_985 : decode cL_law 985 = .ok (.iload 4, 2) := by decide +kernel
theorem dL_law_987 : decode cL_law 987 = .ok (.iconst 1, 1) := by decide +kernel
theorem dL_law_988 : decode cL_law 988 = .ok (.iadd, 1) := by decide +kernel
theorem dL_law_989 : decode cL_law 989 = .ok (.iaload, 1) := by decide +kernel
theorem dL_law_990 : decode cL_law 990 = .ok (.aload_n 0, 1) := by decide +kernel
theorem dL_law_991 : decode cL_law 991 = .ok (.iload 4, 2) := by decide +kernel
theorem dL_law_993 : decode cL_law 993 = .ok (.iconst 2, 1) := by decide +kernel
theorem dL_law_994 : decode cL_law 994 = .ok (.iadd, 1) := by decide +kernel
theorem dL_law_995 : decode cL_law 995 = .ok (.iaload, 1) := by decide +kernel
theorem dL_law_996 : decode cL_law 996 = .ok (.aload_n 0, 1) := by decide +kernel
theorem dL_law_997 : decode cL_law 997 = .ok (.iload 4, 2) := by decide +kernel
theorem dL_law_999 : decode cL_law 999 = .ok (.iconst 3, 1) := by decide +kernel
theorem dL_law_1000 : decode cL_law 1000 = .ok (.iadd, 1) := by decide +kernel
theorem dL_law_1001 : decode cL_law 1001 = .ok (.iaload, 1) := by decide +kernel
theorem dL_law_1002 : decode cL_law 1002 = .ok (.ifCond .eq 7, 3) := by decide +kernel
theorem dL_law_1005 : decode cL_law 1005 = .ok (.iconst 1, 1) := by decide +kernel
theorem dL_law_1006 : decode cL_law 1006 = .ok (.goto 4, 3) := by decide +kernel
theorem dL_law_1009 : decode cL_law 1009 = .ok (.iconst 0, 1) := by decide +kernel
theorem dL_law_1010 : decode cL_law 1010 = .ok (.invokevirtual 134, 3) := by decide +kernel
theorem dL_law_1013 : decode cL_law 1013 = .ok (.if_icmp .eq 80, 3) := by decide +kernel
theorem dL_law_1016 : decode cL_law 1016 = .ok (.iconst 0, 1) := by decide +kernel
theorem dL_law_1017 : decode cL_law 1017 = .ok (.ireturn, 1) := by decide +kernel
theorem dL_law_1018 : decode cL_law 1018 = .ok (.aload_n 1, 1) := by decide +kernel
theorem dL_law_1019 : decode cL_law 1019 = .ok (.aload_n 0, 1) := by decide +kernel
theorem dL_law_1020 : decode cL_law 1020 = .ok (.iload 4, 2) := by decide +kernel
theorem dL_law_1022 : decode cL_law 1022 = .ok (.iconst 1, 1) := by decide +kernel
theorem dL_law_1023 : decode cL_law 1023 = .ok (.iadd, 1) := by decide +kernel
theorem dL_law_1024 : decode cL_law 1024 = .ok (.iaload, 1) := by decide +kernel
theorem dL_law_1025 : decode cL_law 1025 = .ok (.invokevirtual 135, 3) := by decide +kernel
theorem dL_law_1028 : decode cL_law 1028 = .ok (.aload_n 2, 1) := by decide +kernel
theorem dL_law_1029 : decode cL_law 1029 = .ok (.aload_n 0, 1) := by decide +kernel
theorem dL_law_1030 : decode cL_law 1030 = .ok (.iload 4, 2) := by decide +kernel
theorem dL_law_1032 : decode cL_law 1032 = .ok (.iconst 1, 1) := by decide +kernel
theorem dL_law_1033 : decode cL_law 1033 = .ok (.iadd, 1) := by decide +kernel
theorem dL_law_1034 : decode cL_law 1034 = .ok (.iaload, 1) := by decide +kernel
theorem dL_law_1035 : decode cL_law 1035 = .ok (.invokevirtual 138, 3) := by decide +kernel
theorem dL_law_1038 : decode cL_law 1038 = .ok (.if_icmp .eq 55, 3) := by decide +kernel
theorem dL_law_1041 : decode cL_law 1041 = .ok (.iconst 0, 1) := by decide +kernel
theorem dL_law_1042 : decode cL_law 1042 = .ok (.ireturn, 1) := by decide +kernel
theorem dL_law_1043 : decode cL_law 1043 = .ok (.aload_n 1, 1) := by decide +kernel
theorem dL_law_1044 : decode cL_law 1044 = .ok (.aload_n 0, 1) := by decide +kernel
theorem dL_law_1045 : decode cL_law 1045 = .ok (.iload 4, 2) := by decide +kernel
theorem dL_law_1047 : decode cL_law 1047 = .ok (.iconst 1, 1) := by decide +kernel
theorem dL_law_1048 : decode cL_law 1048 = .ok (.iadd, 1) := by decide +kernel
theorem dL_law_1049 : decode cL_law 1049 = .ok (.iaload, 1) := by decide +kernel
theorem dL_law_1050 : decode cL_law 1050 = .ok (.invokevirtual 139, 3) := by decide +kernel
theorem dL_law_1053 : decode cL_law 1053 = .ok (.aload_n 2, 1) := by decide +kernel
theorem dL_law_1054 : decode cL_law 1054 = .ok (.aload_n 0, 1) := by decide +kernel
theorem dL_law_1055 : decode cL_law 1055 = .ok (.iload 4, 2) := by decide +kernel
theorem dL_law_1057 : decode cL_law 1057 = .ok (.iconst 1, 1) := by decide +kernel
theorem dL_law_1058 : decode cL_law 1058 = .ok (.iadd, 1) := by decide +kernel
theorem dL_law_1059 : decode cL_law 1059 = .ok (.iaload, 1) := by decide +kernel
theorem dL_law_1060 : decode cL_law 1060 = .ok (.invokevirtual 142, 3) := by decide +kernel
theorem dL_law_1063 : decode cL_law 1063 = .ok (.if_icmp .eq 30, 3) := by decide +kernel
theorem dL_law_1066 : decode cL_law 1066 = .ok (.iconst 0, 1) := by decide +kernel
theorem dL_law_1067 : decode cL_law 1067 = .ok (.ireturn, 1) := by decide +kernel
theorem dL_law_1068 : decode cL_law 1068 = .ok (.aload_n 1, 1) := by decide +kernel
theorem dL_law_1069 : decode cL_law 1069 = .ok (.aload_n 0, 1) := by decide +kernel
theorem dL_law_1070 : decode cL_law 1070 = .ok (.iload 4, 2) := by decide +kernel
theorem dL_law_1072 : decode cL_law 1072 = .ok (.iconst 1, 1) := by decide +kernel
theorem dL_law_1073 : decode cL_law 1073 = .ok (.iadd, 1) := by decide +kernel
theorem dL_law_1074 : decode cL_law 1074 = .ok (.iaload, 1) := by decide +kernel
theorem dL_law_1075 : decode cL_law 1075 = .ok (.invokevirtual 143, 3) := by decide +kernel
theorem dL_law_1078 : decode cL_law 1078 = .ok (.aload_n 2, 1) := by decide +kernel
theorem dL_law_1079 : decode cL_law 1079 = .ok (.aload_n 0, 1) := by decide +kernel
theorem dL_law_1080 : decode cL_law 1080 = .ok (.iload 4, 2) := by decide +kernel
theorem dL_law_1082 : decode cL_law 1082 = .ok (.iconst 1, 1) := by decide +kernel
theorem dL_law_1083 : decode cL_law 1083 = .ok (.iadd, 1) := by decide +kernel
theorem dL_law_1084 : decode cL_law 1084 = .ok (.iaload, 1) := by decide +kernel
theorem dL_law_1085 : decode cL_law 1085 = .ok (.invokevirtual 146, 3) := by decide +kernel
theorem dL_law_1088 : decode cL_law 1088 = .ok (.if_icmp .eq 5, 3) := by decide +kernel
theorem dL_law_1091 : decode cL_law 1091 = .ok (.iconst 0, 1) := by decide +kernel
theorem dL_law_1092 : decode cL_law 1092 = .ok (.ireturn, 1) := by decide +kernel
theorem dL_law_1093 : decode cL_law 1093 = .ok (.iinc 4 4, 3) := by decide +kernel
theorem dL_law_1096 : decode cL_law 1096 = .ok (.goto (-1073), 3) := by decide +kernel
theorem dL_law_1099 : decode cL_law 1099 = .ok (.iconst 1, 1) := by decide +kernel
theorem dL_law_1100 : decode cL_law 1100 = .ok (.ireturn, 1) := by decide +kernel
