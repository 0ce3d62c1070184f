theorem dX0_init_0 : decode cX0_init 0 = .ok (.aload_n 0, 1) := by decide +kernel
theorem dX0_init_1 : decode cX0_init 1 = .ok (.invokespecial 3, 3) := by decide +kernel
theorem dX0_init_4 : decode cX0_init 4 = .ok (.aload_n 0, 1) := by decide +kernel
theorem dX0_init_5 : decode cX0_init 5 = .ok (.new 9, 3) := by decide +kernel
theorem dX0_init_8 : decode cX0_init 8 = .ok (.dup, 1) := by decide +kernel
theorem dX0_init_9 : decode cX0_init 9 = .ok (.invokespecial 11, 3) := by decide +kernel
theorem dX0_init_12 : decode cX0_init 12 = .ok (.putfield 12, 3) := by decide +kernel
theorem dX0_init_15 : decode cX0_init 15 = .ok (.aload_n 0, 1) := by decide +kernel
theorem dX0_init_16 : decode cX0_init 16 = .ok (.new 18, 3) := by decide +kernel
theorem dX0_init_19 : decode cX0_init 19 = .ok (.dup, 1) := by decide +kernel
theorem dX0_init_20 : decode cX0_init 20 = .ok (.invokespecial 20, 3) := by decide +kernel
theorem dX0_init_23 : decode cX0_init 23 = .ok (.putfield 21, 3) := by decide +kernel
theorem dX0_init_26 : decode cX0_init 26 = .ok (.return_, 1) := by decide +kernel
theorem dX0_check_0 : decode cX0_check 0 = .ok (.aload_n 0, 1) := by decide +kernel
theorem dX0_check_1 : decode cX0_check 1 = .ok (.getfield 21, 3) := by decide +kernel
theorem dX0_check_4 : decode cX0_check 4 = .ok (.invokevirtual 25, 3) := by decide +kernel
theorem dX0_check_7 : decode cX0_check 7 = .ok (.aload_n 0, 1) := by decide +kernel
theorem dX0_check_8 : decode cX0_check 8 = .ok (.iconst 0, 1) := by decide +kernel
theorem dX0_check_9 : decode cX0_check 9 = .ok (.putfield 28, 3) := by decide +kernel
theorem dX0_check_12 : decode cX0_check 12 = .ok (.aload_n 0, 1) := by decide +kernel
theorem dX0_check_13 : decode cX0_check 13 = .ok (.aload_n 0, 1) := by decide +kernel
theorem dX0_check_14 : decode cX0_check 14 = .ok (.getfield 12, 3) := by decide +kernel
theorem dX0_check_17 : decode cX0_check 17 = .ok (.iconst 0, 1) := by decide +kernel
theorem dX0_check_18 : decode cX0_check 18 = .ok (.invokevirtual 32, 3) := by decide +kernel
theorem dX0_check_21 : decode cX0_check 21 = .ok (.putfield 36, 3) := by decide +kernel
theorem dX0_check_24 : decode cX0_check 24 = .ok (.aload_n 0, 1) := by decide +kernel
theorem dX0_check_25 : decode cX0_check 25 = .ok (.iconst 0, 1) := by decide +kernel
theorem dX0_check_26 : decode cX0_check 26 = .ok (.putfield 39, 3) := by decide +kernel
theorem dX0_check_29 : decode cX0_check 29 = .ok (.aload_n 0, 1) := by decide +kernel
theorem dX0_check_30 : decode cX0_check 30 = .ok (.iconst 0, 1) := by decide +kernel
theorem dX0_check_31 : decode cX0_check 31 = .ok (.putfield 42, 3) := by decide +kernel
theorem dX0_check_34 : decode cX0_check 34 = .ok (.aload_n 0, 1) := by decide +kernel
theorem dX0_check_35 : decode cX0_check 35 = .ok (.iconst 0, 1) := by decide +kernel
theorem dX0_check_36 : decode cX0_check 36 = .ok (.putfield 45, 3) := by decide +kernel
theorem dX0_check_39 : decode cX0_check 39 = .ok (.aload_n 0, 1) := by decide +kernel
theorem dX0_check_40 : decode cX0_check 40 = .ok (.iconst 0, 1) := by decide +kernel
theorem dX0_check_41 : decode cX0_check 41 = .ok (.putfield 48, 3) := by decide +kernel
theorem dX0_check_44 : decode cX0_check 44 = .ok (.iconst 1, 1) := by decide +kernel
theorem dX0_check_45 : decode cX0_check 45 = .ok (.istore_n 1, 1) := by decide +kernel
theorem dX0_check_46 : decode cX0_check 46 = .ok (.iconst 0, 1) := by decide +kernel
theorem dX0_check_47 : decode cX0_check 47 = .ok (.istore_n 2, 1) := by decide +kernel
theorem dX0_check_48 : decode cX0_check 48 = .ok (.iload_n 2, 1) := by decide +kernel
theorem dX0_check_49 : decode cX0_check 49 = .ok (.sipush 400, 3) := by decide +kernel
theorem dX0_check_52 : decode cX0_check 52 = .ok (.if_icmp .gt 78, 3) := by decide +kernel
theorem dX0_check_55 : decode cX0_check 55 = .ok (.iload_n 1, 1) := by decide +kernel
theorem dX0_check_56 : decode cX0_check 56 = .ok (.ifCond .eq 74, 3) := by decide +kernel
theorem dX0_check_59 : decode cX0_check 59 = .ok (.aload_n 0, 1) := by decide +kernel
theorem dX0_check_60 : decode cX0_check 60 = .ok (.getfield 36, 3) := by decide +kernel
theorem dX0_check_63 : decode cX0_check 63 = .ok (.ifCond .eq 67, 3) := by decide +kernel
theorem dX0_check_66 : decode cX0_check 66 = .ok (.aload_n 0, 1) := by decide +kernel
theorem dX0_check_67 : decode cX0_check 67 = .ok (.getfield 36, 3) := by decide +kernel
theorem dX0_check_70 : decode cX0_check 70 = .ok (.sipush 141, 3) := by decide +kernel
theorem dX0_check_73 : decode cX0_check 73 = .ok (.if_icmp .ne 46, 3) := by decide +kernel
theorem dX0_check_76 : decode cX0_check 76 = .ok (.aload_n 0, 1) := by decide +kernel
theorem dX0_check_77 : decode cX0_check 77 = .ok (.sipush 141, 3) := by decide +kernel
theorem dX0_check_80 : decode cX0_check 80 = .ok (.invokevirtual 51, 3) := by decide +kernel
theorem dX0_check_83 : decode cX0_check 83 = .ok (.ifCond .eq 32, 3) := by decide +kernel
theorem dX0_check_86 : decode cX0_check 86 = .ok (.aload_n 0, 1) := by decide +kernel
theorem dX0_check_87 : decode cX0_check 87 = .ok (.bipush 61, 2) := by decide +kernel
theorem dX0_check_89 : decode cX0_check 89 = .ok (.invokevirtual 51, 3) := by decide +kernel
theorem dX0_check_92 : decode cX0_check 92 = .ok (.ifCond .eq 23, 3) := by decide +kernel
theorem dX0_check_95 : decode cX0_check 95 = .ok (.aload_n 0, 1) := by decide +kernel
theorem dX0_check_96 : decode cX0_check 96 = .ok (.invokevirtual 55, 3) := by decide +kernel
theorem dX0_check_99 : decode cX0_check 99 = .ok (.ifCond .eq 16, 3) := by decide +kernel
theorem dX0_check_102 : decode cX0_check 102 = .ok (.aload_n 0, 1) := by decide +kernel
theorem dX0_check_103 : decode cX0_check 103 = .ok (.bipush 59, 2) := by decide +kernel
theorem dX0_check_105 : decode cX0_check 105 = .ok (.invokevirtual 51, 3) := by decide +kernel
theorem dX0_check_108 : decode cX0_check 108 = .ok (.ifCond .eq 7, 3) := by decide +kernel
theorem dX0_check_111 : decode cX0_check 111 = .ok (.iconst 1, 1) := by decide +kernel
theorem dX0_check_112 : decode cX0_check 112 = .ok (.goto 11, 3) := by decide +kernel
theorem dX0_check_115 : decode cX0_check 115 = .ok (.iconst 0, 1) := by decide +kernel
theorem dX0_check_116 : decode cX0_check 116 = .ok (.goto 7, 3) := by decide +kernel
theorem dX0_check_119 : decode cX0_check 119 = .ok (.aload_n 0, 1) := by decide +kernel
theorem dX0_check_120 : decode cX0_check 120 = .ok (.invokevirtual 59, 3) := by decide +kernel
theorem dX0_check_123 : decode cX0_check 123 = .ok (.istore_n 1, 1) := by decide +kernel
theorem dX0_check_124 : decode cX0_check 124 = .ok (.iinc 2 1, 3) := by decide +kernel
theorem dX0_check_127 : decode cX0_check 127 = .ok (.goto (-79), 3) := by decide +kernel
theorem dX0_check_130 : decode cX0_check 130 = .ok (.aload_n 0, 1) := by decide +kernel
theorem dX0_check_131 : decode cX0_check 131 = .ok (.getfield 39, 3) := by decide +kernel
theorem dX0_check_134 : decode cX0_check 134 = .ok (.ireturn, 1) := by decide +kernel
theorem dX0_tell_0 : decode cX0_tell 0 = .ok (.aload_n 0, 1) := by decide +kernel
theorem dX0_tell_1 : decode cX0_tell 1 = .ok (.getfield 36, 3) := by decide +kernel
theorem dX0_tell_4 : decode cX0_tell 4 = .ok (.tableswitch 393 128 140 #[68, 117, 174, 230, 263, 296, 393, 393, 393, 393, 328, 393, 360], 68) := by decide +kernel
theorem dX0_tell_72 : decode cX0_tell 72 = .ok (.aload_n 0, 1) := by decide +kernel
theorem dX0_tell_73 : decode cX0_tell 73 = .ok (.iconst 1, 1) := by decide +kernel
theorem dX0_tell_74 : decode cX0_tell 74 = .ok (.invokevirtual 62, 3) := by decide +kernel
theorem dX0_tell_77 : decode cX0_tell 77 = .ok (.ifCond .eq 42, 3) := by decide +kernel
theorem dX0_tell_80 : decode cX0_tell 80 = .ok (.aload_n 0, 1) := by decide +kernel
theorem dX0_tell_81 : decode cX0_tell 81 = .ok (.sipush 128, 3) := by decide +kernel
theorem dX0_tell_84 : decode cX0_tell 84 = .ok (.invokevirtual 51, 3) := by decide +kernel
theorem dX0_tell_87 : decode cX0_tell 87 = .ok (.ifCond .eq 32, 3) := by decide +kernel
theorem dX0_tell_90 : decode cX0_tell 90 = .ok (.aload_n 0, 1) := by decide +kernel
theorem dX0_tell_91 : decode cX0_tell 91 = .ok (.iconst 1, 1) := by decide +kernel
theorem dX0_tell_92 : decode cX0_tell 92 = .ok (.invokevirtual 51, 3) := by decide +kernel
theorem dX0_tell_95 : decode cX0_tell 95 = .ok (.ifCond .eq 24, 3) := by decide +kernel
theorem dX0_tell_98 : decode cX0_tell 98 = .ok (.aload_n 0, 1) := by decide +kernel
theorem dX0_tell_99 : decode cX0_tell 99 = .ok (.iconst 2, 1) := by decide +kernel
theorem dX0_tell_100 : decode cX0_tell 100 = .ok (.invokevirtual 51, 3) := by decide +kernel
theorem dX0_tell_103 : decode cX0_tell 103 = .ok (.ifCond .eq 16, 3) := by decide +kernel
theorem dX0_tell_106 : decode cX0_tell 106 = .ok (.aload_n 0, 1) := by decide +kernel
theorem dX0_tell_107 : decode cX0_tell 107 = .ok (.bipush 59, 2) := by decide +kernel
theorem dX0_tell_109 : decode cX0_tell 109 = .ok (.invokevirtual 51, 3) := by decide +kernel
theorem dX0_tell_112 : decode cX0_tell 112 = .ok (.ifCond .eq 7, 3) := by decide +kernel
theorem dX0_tell_115 : decode cX0_tell 115 = .ok (.iconst 1, 1) := by decide +kernel
theorem dX0_tell_116 : decode cX0_tell 116 = .ok (.goto 4, 3) := by decide +kernel
theorem dX0_tell_119 : decode cX0_tell 119 = .ok (.iconst 0, 1) := by decide +kernel
theorem dX0_tell_120 : decode cX0_tell 120 = .ok (.ireturn, 1) := by decide +kernel
theorem dX0_tell_121 : decode cX0_tell 121 = .ok (.aload_n 0, 1) := by decide +kernel
theorem dX0_tell_122 : decode cX0_tell 122 = .ok (.iconst 2, 1) := by decide +kernel
theorem dX0_tell_123 : decode cX0_tell 123 = .ok (.invokevirtual 62, 3) := by decide +kernel
theorem dX0_tell_126 : decode cX0_tell 126 = .ok (.ifCond .eq 50, 3) := by decide +kernel
theorem dX0_tell_129 : decode cX0_tell 129 = .ok (.aload_n 0, 1) := by decide +kernel
theorem dX0_tell_130 : decode cX0_tell 130 = .ok (.sipush 129, 3) := by decide +kernel
theorem dX0_tell_133 : decode cX0_tell 133 = .ok (.invokevirtual 51, 3) := by decide +kernel
theorem dX0_tell_136 : decode cX0_tell 136 = .ok (.ifCond .eq 40, 3) := by decide +kernel
theorem dX0_tell_139 : decode cX0_tell 139 = .ok (.aload_n 0, 1) := by decide +kernel
theorem dX0_tell_140 : decode cX0_tell 140 = .ok (.iconst 1, 1) := by decide +kernel
theorem dX0_tell_141 : decode cX0_tell 141 = .ok (.invokevirtual 51, 3) := by decide +kernel
theorem dX0_tell_144 : decode cX0_tell 144 = .ok (.ifCond .eq 32, 3) := by decide +kernel
theorem dX0_tell_147 : decode cX0_tell 147 = .ok (.aload_n 0, 1) := by decide +kernel
theorem dX0_tell_148 : decode cX0_tell 148 = .ok (.iconst 2, 1) := by decide +kernel
theorem dX0_tell_149 : decode cX0_tell 149 = .ok (.invokevirtual 51, 3) := by decide +kernel
theorem dX0_tell_152 : decode cX0_tell 152 = .ok (.ifCond .eq 24, 3) := by decide +kernel
theorem dX0_tell_155 : decode cX0_tell 155 = .ok (.aload_n 0, 1) := by decide +kernel
theorem dX0_tell_156 : decode cX0_tell 156 = .ok (.iconst 2, 1) := by decide +kernel
theorem dX0_tell_157 : decode cX0_tell 157 = .ok (.invokevirtual 51, 3) := by decide +kernel
theorem dX0_tell_160 : decode cX0_tell 160 = .ok (.ifCond .eq 16, 3) := by decide +kernel
theorem dX0_tell_163 : decode cX0_tell 163 = .ok (.aload_n 0, 1) := by decide +kernel
theorem dX0_tell_164 : decode cX0_tell 164 = .ok (.bipush 59, 2) := by decide +kernel
theorem dX0_tell_166 : decode cX0_tell 166 = .ok (.invokevirtual 51, 3) := by decide +kernel
theorem dX0_tell_169 : decode cX0_tell 169 = .ok (.ifCond .eq 7, 3) := by decide +kernel
theorem dX0_tell_172 : decode cX0_tell 172 = .ok (.iconst 1, 1) := by decide +kernel
theorem dX0_tell_173 : decode cX0_tell 173 = .ok (.goto 4, 3) := by decide +kernel
theorem dX0_tell_176 : decode cX0_tell 176 = .ok (.iconst 0, 1) := by decide +kernel
theorem dX0_tell_177 : decode cX0_tell 177 = .ok (.ireturn, 1) := by decide +kernel
theorem dX0_tell_178 : decode cX0_tell 178 = .ok (.aload_n 0, 1) := by decide +kernel
theorem dX0_tell_179 : decode cX0_tell 179 = .ok (.invokevirtual 65, 3) := by decide +kernel
theorem dX0_tell_182 : decode cX0_tell 182 = .ok (.ifCond .eq 50, 3) := by decide +kernel
theorem dX0_tell_185 : decode cX0_tell 185 = .ok (.aload_n 0, 1) := by decide +kernel
theorem dX0_tell_186 : decode cX0_tell 186 = .ok (.sipush 130, 3) := by decide +kernel
theorem dX0_tell_189 : decode cX0_tell 189 = .ok (.invokevirtual 51, 3) := by decide +kernel
theorem dX0_tell_192 : decode cX0_tell 192 = .ok (.ifCond .eq 40, 3) := by decide +kernel
theorem dX0_tell_195 : decode cX0_tell 195 = .ok (.aload_n 0, 1) := by decide +kernel
theorem dX0_tell_196 : decode cX0_tell 196 = .ok (.iconst 1, 1) := by decide +kernel
theorem dX0_tell_197 : decode cX0_tell 197 = .ok (.invokevirtual 51, 3) := by decide +kernel
theorem dX0_tell_200 : decode cX0_tell 200 = .ok (.ifCond .eq 32, 3) := by decide +kernel
theorem dX0_tell_203 : decode cX0_tell 203 = .ok (.aload_n 0, 1) := by decide +kernel
theorem dX0_tell_204 : decode cX0_tell 204 = .ok (.iconst 1, 1) := by decide +kernel
theorem dX0_tell_205 : decode cX0_tell 205 = .ok (.invokevirtual 51, 3) := by decide +kernel
theorem dX0_tell_208 : decode cX0_tell 208 = .ok (.ifCond .eq 24, 3) := by decide +kernel
theorem dX0_tell_211 : decode cX0_tell 211 = .ok (.aload_n 0, 1) := by decide +kernel
theorem dX0_tell_212 : decode cX0_tell 212 = .ok (.iconst 2, 1) := by decide +kernel
theorem dX0_tell_213 : decode cX0_tell 213 = .ok (.invokevirtual 51, 3) := by decide +kernel
theorem dX0_tell_216 : decode cX0_tell 216 = .ok (.ifCond .eq 16, 3) := by decide +kernel
theorem dX0_tell_219 : decode cX0_tell 219 = .ok (.aload_n 0, 1) := by decide +kernel
theorem dX0_tell_220 : decode cX0_tell 220 = .ok (.bipush 59, 2) := by decide +kernel
theorem dX0_tell_222 : decode cX0_tell 222 = .ok (.invokevirtual 51, 3) := by decide +kernel
theorem dX0_tell_225 : decode cX0_tell 225 = .ok (.ifCond .eq 7, 3) := by decide +kernel
theorem dX0_tell_228 : decode cX0_tell 228 = .ok (.iconst 1, 1) := by decide +kernel
theorem dX0_tell_229 : decode cX0_tell 229 = .ok (.goto 4, 3) := by decide +kernel
theorem dX0_tell_232 : decode cX0_tell 232 = .ok (.iconst 0, 1) := by decide +kernel
theorem dX0_tell_233 : decode cX0_tell 233 = .ok (.ireturn, 1) := by decide +kernel
theorem dX0_tell_234 : decode cX0_tell 234 = .ok (.aload_n 0, 1) := by decide +kernel
theorem dX0_tell_235 : decode cX0_tell 235 = .ok (.sipush 131, 3) := by decide +kernel
theorem dX0_tell_238 : decode cX0_tell 238 = .ok (.invokevirtual 51, 3) := by decide +kernel
theorem dX0_tell_241 : decode cX0_tell 241 = .ok (.ifCond .eq 24, 3) := by decide +kernel
theorem dX0_tell_244 : decode cX0_tell 244 = .ok (.aload_n 0, 1) := by decide +kernel
theorem dX0_tell_245 : decode cX0_tell 245 = .ok (.iconst 2, 1) := by decide +kernel
theorem dX0_tell_246 : decode cX0_tell 246 = .ok (.invokevirtual 51, 3) := by decide +kernel
theorem dX0_tell_249 : decode cX0_tell 249 = .ok (.ifCond .eq 16, 3) := by decide +kernel
theorem dX0_tell_252 : decode cX0_tell 252 = .ok (.aload_n 0, 1) := by decide +kernel
theorem dX0_tell_253 : decode cX0_tell 253 = .ok (.bipush 59, 2) := by decide +kernel
theorem dX0_tell_255 : decode cX0_tell 255 = .ok (.invokevirtual 51, 3) := by decide +kernel
theorem dX0_tell_258 : decode cX0_tell 258 = .ok (.ifCond .eq 7, 3) := by decide +kernel
theorem dX0_tell_261 : decode cX0_tell 261 = .ok (.iconst 1, 1) := by decide +kernel
theorem dX0_tell_262 : decode cX0_tell 262 = .ok (.goto 4, 3) := by decide +kernel
theorem dX0_tell_265 : decode cX0_tell 265 = .ok (.iconst 0, 1) := by decide +kernel
theorem dX0_tell_266 : decode cX0_tell 266 = .ok (.ireturn, 1) := by decide +kernel
theorem dX0_tell_267 : decode cX0_tell 267 = .ok (.aload_n 0, 1) := by decide +kernel
theorem dX0_tell_268 : decode cX0_tell 268 = .ok (.sipush 132, 3) := by decide +kernel
theorem dX0_tell_271 : decode cX0_tell 271 = .ok (.invokevirtual 51, 3) := by decide +kernel
theorem dX0_tell_274 : decode cX0_tell 274 = .ok (.ifCond .eq 24, 3) := by decide +kernel
theorem dX0_tell_277 : decode cX0_tell 277 = .ok (.aload_n 0, 1) := by decide +kernel
theorem dX0_tell_278 : decode cX0_tell 278 = .ok (.iconst 2, 1) := by decide +kernel
theorem dX0_tell_279 : decode cX0_tell 279 = .ok (.invokevirtual 51, 3) := by decide +kernel
theorem dX0_tell_282 : decode cX0_tell 282 = .ok (.ifCond .eq 16, 3) := by decide +kernel
theorem dX0_tell_285 : decode cX0_tell 285 = .ok (.aload_n 0, 1) := by decide +kernel
theorem dX0_tell_286 : decode cX0_tell 286 = .ok (.bipush 59, 2) := by decide +kernel
theorem dX0_tell_288 : decode cX0_tell 288 = .ok (.invokevirtual 51, 3) := by decide +kernel
theorem dX0_tell_291 : decode cX0_tell 291 = .ok (.ifCond .eq 7, 3) := by decide +kernel
theorem dX0_tell_294 : decode cX0_tell 294 = .ok (.iconst 1, 1) := by decide +kernel
theorem dX0_tell_295 : decode cX0_tell 295 = .ok (.goto 4, 3) := by decide +kernel
theorem dX0_tell_298 : decode cX0_tell 298 = .ok (.iconst 0, 1) := by decide +kernel
theorem dX0_tell_299 : decode cX0_tell 299 = .ok (.ireturn, 1) := by decide +kernel
theorem dX0_tell_300 : decode cX0_tell 300 = .ok (.aload_n 0, 1) := by decide +kernel
theorem dX0_tell_301 : decode cX0_tell 301 = .ok (.sipush 133, 3) := by decide +kernel
theorem dX0_tell_304 : decode cX0_tell 304 = .ok (.invokevirtual 51, 3) := by decide +kernel
theorem dX0_tell_307 : decode cX0_tell 307 = .ok (.ifCond .eq 23, 3) := by decide +kernel
theorem dX0_tell_310 : decode cX0_tell 310 = .ok (.aload_n 0, 1) := by decide +kernel
theorem dX0_tell_311 : decode cX0_tell 311 = .ok (.invokevirtual 68, 3) := by decide +kernel
theorem dX0_tell_314 : decode cX0_tell 314 = .ok (.ifCond .eq 16, 3) := by decide +kernel
theorem dX0_tell_317 : decode cX0_tell 317 = .ok (.aload_n 0, 1) := by decide +kernel
theorem dX0_tell_318 : decode cX0_tell 318 = .ok (.bipush 59, 2) := by decide +kernel
theorem dX0_tell_320 : decode cX0_tell 320 = .ok (.invokevirtual 51, 3) := by decide +kernel
theorem dX0_tell_323 : decode cX0_tell 323 = .ok (.ifCond .eq 7, 3) := by decide +kernel
theorem dX0_tell_326 : decode cX0_tell 326 = .ok (.iconst 1, 1) := by decide +kernel
theorem dX0_tell_327 : decode cX0_tell 327 = .ok (.goto 4, 3) := by decide +kernel
theorem dX0_tell_330 : decode cX0_tell 330 = .ok (.iconst 0, 1) := by decide +kernel
theorem dX0_tell_331 : decode cX0_tell 331 = .ok (.ireturn, 1) := by decide +kernel
theorem dX0_tell_332 : decode cX0_tell 332 = .ok (.aload_n 0, 1) := by decide +kernel
theorem dX0_tell_333 : decode cX0_tell 333 = .ok (.sipush 138, 3) := by decide +kernel
theorem dX0_tell_336 : decode cX0_tell 336 = .ok (.invokevirtual 51, 3) := by decide +kernel
theorem dX0_tell_339 : decode cX0_tell 339 = .ok (.ifCond .eq 23, 3) := by decide +kernel
theorem dX0_tell_342 : decode cX0_tell 342 = .ok (.aload_n 0, 1) := by decide +kernel
theorem dX0_tell_343 : decode cX0_tell 343 = .ok (.invokevirtual 71, 3) := by decide +kernel
theorem dX0_tell_346 : decode cX0_tell 346 = .ok (.ifCond .eq 16, 3) := by decide +kernel
theorem dX0_tell_349 : decode cX0_tell 349 = .ok (.aload_n 0, 1) := by decide +kernel
theorem dX0_tell_350 : decode cX0_tell 350 = .ok (.bipush 59, 2) := by decide +kernel
theorem dX0_tell_352 : decode cX0_tell 352 = .ok (.invokevirtual 51, 3) := by decide +kernel
theorem dX0_tell_355 : decode cX0_tell 355 = .ok (.ifCond .eq 7, 3) := by decide +kernel
theorem dX0_tell_358 : decode cX0_tell 358 = .ok (.iconst 1, 1) := by decide +kernel
theorem dX0_tell_359 : decode cX0_tell 359 = .ok (.goto 4, 3) := by decide +kernel
theorem dX0_tell_362 : decode cX0_tell 362 = .ok (.iconst 0, 1) := by decide +kernel
theorem dX0_tell_363 : decode cX0_tell 363 = .ok (.ireturn, 1) := by decide +kernel
theorem dX0_tell_364 : decode cX0_tell 364 = .ok (.aload_n 0, 1) := by decide +kernel
theorem dX0_tell_365 : decode cX0_tell 365 = .ok (.sipush 140, 3) := by decide +kernel
theorem dX0_tell_368 : decode cX0_tell 368 = .ok (.invokevirtual 51, 3) := by decide +kernel
theorem dX0_tell_371 : decode cX0_tell 371 = .ok (.ifCond .eq 24, 3) := by decide +kernel
theorem dX0_tell_374 : decode cX0_tell 374 = .ok (.aload_n 0, 1) := by decide +kernel
theorem dX0_tell_375 : decode cX0_tell 375 = .ok (.iconst 2, 1) := by decide +kernel
theorem dX0_tell_376 : decode cX0_tell 376 = .ok (.invokevirtual 51, 3) := by decide +kernel
theorem dX0_tell_379 : decode cX0_tell 379 = .ok (.ifCond .eq 16, 3) := by decide +kernel
theorem dX0_tell_382 : decode cX0_tell 382 = .ok (.aload_n 0, 1) := by decide +kernel
theorem dX0_tell_383 : decode cX0_tell 383 = .ok (.bipush 59, 2) := by decide +kernel
theorem dX0_tell_385 : decode cX0_tell 385 = .ok (.invokevirtual 51, 3) := by decide +kernel
theorem dX0_tell_388 : decode cX0_tell 388 = .ok (.ifCond .eq 7, 3) := by decide +kernel
theorem dX0_tell_391 : decode cX0_tell 391 = .ok (.iconst 1, 1) := by decide +kernel
theorem dX0_tell_392 : decode cX0_tell 392 = .ok (.goto 4, 3) := by decide +kernel
theorem dX0_tell_395 : decode cX0_tell 395 = .ok (.iconst 0, 1) := by decide +kernel
theorem dX0_tell_396 : decode cX0_tell 396 = .ok (.ireturn, 1) := by decide +kernel
theorem dX0_tell_397 : decode cX0_tell 397 = .ok (.aload_n 0, 1) := by decide +kernel
theorem dX0_tell_398 : decode cX0_tell 398 = .ok (.iconst 1, 1) := by decide +kernel
theorem dX0_tell_399 : decode cX0_tell 399 = .ok (.invokevirtual 74, 3) := by decide +kernel
theorem dX0_tell_402 : decode cX0_tell 402 = .ok (.ireturn, 1) := by decide +kernel
theorem dX0_addKinds_0 : decode cX0_addKinds 0 = .ok (.aload_n 0, 1) := by decide +kernel
theorem dX0_addKinds_1 : decode cX0_addKinds 1 = .ok (.dup, 1) := by decide +kernel
theorem dX0_addKinds_2 : decode cX0_addKinds 2 = .ok (.getfield 42, 3) := by decide +kernel
theorem dX0_addKinds_5 : decode cX0_addKinds 5 = .ok (.iload_n 1, 1) := by decide +kernel
theorem dX0_addKinds_6 : decode cX0_addKinds 6 = .ok (.iadd, 1) := by decide +kernel
theorem dX0_addKinds_7 : decode cX0_addKinds 7 = .ok (.putfield 42, 3) := by decide +kernel
theorem dX0_addKinds_10 : decode cX0_addKinds 10 = .ok (.aload_n 0, 1) := by decide +kernel
theorem dX0_addKinds_11 : decode cX0_addKinds 11 = .ok (.getfield 42, 3) := by decide +kernel
theorem dX0_addKinds_14 : decode cX0_addKinds 14 = .ok (.bipush 8, 2) := by decide +kernel
theorem dX0_addKinds_16 : decode cX0_addKinds 16 = .ok (.if_icmp .le 11, 3) := by decide +kernel
theorem dX0_addKinds_19 : decode cX0_addKinds 19 = .ok (.aload_n 0, 1) := by decide +kernel
theorem dX0_addKinds_20 : decode cX0_addKinds 20 = .ok (.iconst 2, 1) := by decide +kernel
theorem dX0_addKinds_21 : decode cX0_addKinds 21 = .ok (.invokevirtual 74, 3) := by decide +kernel
theorem dX0_addKinds_24 : decode cX0_addKinds 24 = .ok (.ifCond .eq 7, 3) := by decide +kernel
theorem dX0_addKinds_27 : decode cX0_addKinds 27 = .ok (.iconst 1, 1) := by decide +kernel
theorem dX0_addKinds_28 : decode cX0_addKinds 28 = .ok (.goto 4, 3) := by decide +kernel
theorem dX0_addKinds_31 : decode cX0_addKinds 31 = .ok (.iconst 0, 1) := by decide +kernel
theorem dX0_addKinds_32 : decode cX0_addKinds 32 = .ok (.ireturn, 1) := by decide +kernel
theorem dX0_addLike_0 : decode cX0_addLike 0 = .ok (.aload_n 0, 1) := by decide +kernel
theorem dX0_addLike_1 : decode cX0_addLike 1 = .ok (.dup, 1) := by decide +kernel
theorem dX0_addLike_2 : decode cX0_addLike 2 = .ok (.getfield 45, 3) := by decide +kernel
theorem dX0_addLike_5 : decode cX0_addLike 5 = .ok (.iconst 1, 1) := by decide +kernel
theorem dX0_addLike_6 : decode cX0_addLike 6 = .ok (.iadd, 1) := by decide +kernel
theorem dX0_addLike_7 : decode cX0_addLike 7 = .ok (.putfield 45, 3) := by decide +kernel
theorem dX0_addLike_10 : decode cX0_addLike 10 = .ok (.aload_n 0, 1) := by decide +kernel
theorem dX0_addLike_11 : decode cX0_addLike 11 = .ok (.getfield 45, 3) := by decide +kernel
theorem dX0_addLike_14 : decode cX0_addLike 14 = .ok (.bipush 15, 2) := by decide +kernel
theorem dX0_addLike_16 : decode cX0_addLike 16 = .ok (.if_icmp .le 11, 3) := by decide +kernel
theorem dX0_addLike_19 : decode cX0_addLike 19 = .ok (.aload_n 0, 1) := by decide +kernel
theorem dX0_addLike_20 : decode cX0_addLike 20 = .ok (.iconst 2, 1) := by decide +kernel
theorem dX0_addLike_21 : decode cX0_addLike 21 = .ok (.invokevirtual 74, 3) := by decide +kernel
theorem dX0_addLike_24 : decode cX0_addLike 24 = .ok (.ifCond .eq 7, 3) := by decide +kernel
theorem dX0_addLike_27 : decode cX0_addLike 27 = .ok (.iconst 1, 1) := by decide +kernel
theorem dX0_addLike_28 : decode cX0_addLike 28 = .ok (.goto 4, 3) := by decide +kernel
theorem dX0_addLike_31 : decode cX0_addLike 31 = .ok (.iconst 0, 1) := by decide +kernel
theorem dX0_addLike_32 : decode cX0_addLike 32 = .ok (.ireturn, 1) := by decide +kernel
theorem dX0_addIf_0 : decode cX0_addIf 0 = .ok (.aload_n 0, 1) := by decide +kernel
theorem dX0_addIf_1 : decode cX0_addIf 1 = .ok (.dup, 1) := by decide +kernel
theorem dX0_addIf_2 : decode cX0_addIf 2 = .ok (.getfield 48, 3) := by decide +kernel
theorem dX0_addIf_5 : decode cX0_addIf 5 = .ok (.iconst 1, 1) := by decide +kernel
theorem dX0_addIf_6 : decode cX0_addIf 6 = .ok (.iadd, 1) := by decide +kernel
theorem dX0_addIf_7 : decode cX0_addIf 7 = .ok (.putfield 48, 3) := by decide +kernel
theorem dX0_addIf_10 : decode cX0_addIf 10 = .ok (.aload_n 0, 1) := by decide +kernel
theorem dX0_addIf_11 : decode cX0_addIf 11 = .ok (.getfield 48, 3) := by decide +kernel
theorem dX0_addIf_14 : decode cX0_addIf 14 = .ok (.iconst 4, 1) := by decide +kernel
theorem dX0_addIf_15 : decode cX0_addIf 15 = .ok (.if_icmp .le 11, 3) := by decide +kernel
theorem dX0_addIf_18 : decode cX0_addIf 18 = .ok (.aload_n 0, 1) := by decide +kernel
theorem dX0_addIf_19 : decode cX0_addIf 19 = .ok (.iconst 2, 1) := by decide +kernel
theorem dX0_addIf_20 : decode cX0_addIf 20 = .ok (.invokevirtual 74, 3) := by decide +kernel
theorem dX0_addIf_23 : decode cX0_addIf 23 = .ok (.ifCond .eq 7, 3) := by decide +kernel
theorem dX0_addIf_26 : decode cX0_addIf 26 = .ok (.iconst 1, 1) := by decide +kernel
theorem dX0_addIf_27 : decode cX0_addIf 27 = .ok (.goto 4, 3) := by decide +kernel
theorem dX0_addIf_30 : decode cX0_addIf 30 = .ok (.iconst 0, 1) := by decide +kernel
theorem dX0_addIf_31 : decode cX0_addIf 31 = .ok (.ireturn, 1) := by decide +kernel
theorem dX0_wayOfFull_0 : decode cX0_wayOfFull 0 = .ok (.aload_n 0, 1) := by decide +kernel
theorem dX0_wayOfFull_1 : decode cX0_wayOfFull 1 = .ok (.getfield 36, 3) := by decide +kernel
theorem dX0_wayOfFull_4 : decode cX0_wayOfFull 4 = .ok (.sipush 134, 3) := by decide +kernel
theorem dX0_wayOfFull_7 : decode cX0_wayOfFull 7 = .ok (.if_icmp .lt 24, 3) := by decide +kernel
theorem dX0_wayOfFull_10 : decode cX0_wayOfFull 10 = .ok (.aload_n 0, 1) := by decide +kernel
theorem dX0_wayOfFull_11 : decode cX0_wayOfFull 11 = .ok (.getfield 36, 3) := by decide +kernel
theorem dX0_wayOfFull_14 : decode cX0_wayOfFull 14 = .ok (.sipush 137, 3) := by decide +kernel
theorem dX0_wayOfFull_17 : decode cX0_wayOfFull 17 = .ok (.if_icmp .gt 14, 3) := by decide +kernel
theorem dX0_wayOfFull_20 : decode cX0_wayOfFull 20 = .ok (.aload_n 0, 1) := by decide +kernel
theorem dX0_wayOfFull_21 : decode cX0_wayOfFull 21 = .ok (.aload_n 0, 1) := by decide +kernel
theorem dX0_wayOfFull_22 : decode cX0_wayOfFull 22 = .ok (.getfield 36, 3) := by decide +kernel
theorem dX0_wayOfFull_25 : decode cX0_wayOfFull 25 = .ok (.invokevirtual 51, 3) := by decide +kernel
theorem dX0_wayOfFull_28 : decode cX0_wayOfFull 28 = .ok (.goto 8, 3) := by decide +kernel
theorem dX0_wayOfFull_31 : decode cX0_wayOfFull 31 = .ok (.aload_n 0, 1) := by decide +kernel
theorem dX0_wayOfFull_32 : decode cX0_wayOfFull 32 = .ok (.iconst 1, 1) := by decide +kernel
theorem dX0_wayOfFull_33 : decode cX0_wayOfFull 33 = .ok (.invokevirtual 74, 3) := by decide +kernel
theorem dX0_wayOfFull_36 : decode cX0_wayOfFull 36 = .ok (.ireturn, 1) := by decide +kernel
theorem dX0_sides_0 : decode cX0_sides 0 = .ok (.iconst 1, 1) := by decide +kernel
theorem dX0_sides_1 : decode cX0_sides 1 = .ok (.istore_n 1, 1) := by decide +kernel
theorem dX0_sides_2 : decode cX0_sides 2 = .ok (.iconst 0, 1) := by decide +kernel
theorem dX0_sides_3 : decode cX0_sides 3 = .ok (.istore_n 2, 1) := by decide +kernel
theorem dX0_sides_4 : decode cX0_sides 4 = .ok (.iload_n 2, 1) := by decide +kernel
theorem dX0_sides_5 : decode cX0_sides 5 = .ok (.sipush 400, 3) := by decide +kernel
theorem dX0_sides_8 : decode cX0_sides 8 = .ok (.if_icmp .gt 71, 3) := by decide +kernel
theorem dX0_sides_11 : decode cX0_sides 11 = .ok (.iload_n 1, 1) := by decide +kernel
theorem dX0_sides_12 : decode cX0_sides 12 = .ok (.ifCond .eq 67, 3) := by decide +kernel
theorem dX0_sides_15 : decode cX0_sides 15 = .ok (.aload_n 0, 1) := by decide +kernel
theorem dX0_sides_16 : decode cX0_sides 16 = .ok (.getfield 36, 3) := by decide +kernel
theorem dX0_sides_19 : decode cX0_sides 19 = .ok (.iconst 1, 1) := by decide +kernel
theorem dX0_sides_20 : decode cX0_sides 20 = .ok (.if_icmp .eq 13, 3) := by decide +kernel
theorem dX0_sides_23 : decode cX0_sides 23 = .ok (.aload_n 0, 1) := by decide +kernel
theorem dX0_sides_24 : decode cX0_sides 24 = .ok (.getfield 36, 3) := by decide +kernel
theorem dX0_sides_27 : decode cX0_sides 27 = .ok (.sipush 139, 3) := by decide +kernel
theorem dX0_sides_30 : decode cX0_sides 30 = .ok (.if_icmp .ne 49, 3) := by decide +kernel
theorem dX0_sides_33 : decode cX0_sides 33 = .ok (.aload_n 0, 1) := by decide +kernel
theorem dX0_sides_34 : decode cX0_sides 34 = .ok (.getfield 36, 3) := by decide +kernel
theorem dX0_sides_37 : decode cX0_sides 37 = .ok (.iconst 1, 1) := by decide +kernel
theorem dX0_sides_38 : decode cX0_sides 38 = .ok (.if_icmp .ne 11, 3) := by decide +kernel
theorem dX0_sides_41 : decode cX0_sides 41 = .ok (.aload_n 0, 1) := by decide +kernel
theorem dX0_sides_42 : decode cX0_sides 42 = .ok (.iconst 1, 1) := by decide +kernel
theorem dX0_sides_43 : decode cX0_sides 43 = .ok (.invokevirtual 51, 3) := by decide +kernel
theorem dX0_sides_46 : decode cX0_sides 46 = .ok (.goto 26, 3) := by decide +kernel
theorem dX0_sides_49 : decode cX0_sides 49 = .ok (.aload_n 0, 1) := by decide +kernel
theorem dX0_sides_50 : decode cX0_sides 50 = .ok (.sipush 139, 3) := by decide +kernel
theorem dX0_sides_53 : decode cX0_sides 53 = .ok (.invokevirtual 51, 3) := by decide +kernel
theorem dX0_sides_56 : decode cX0_sides 56 = .ok (.ifCond .eq 15, 3) := by decide +kernel
theorem dX0_sides_59 : decode cX0_sides 59 = .ok (.aload_n 0, 1) := by decide +kernel
theorem dX0_sides_60 : decode cX0_sides 60 = .ok (.iconst 1, 1) := by decide +kernel
theorem dX0_sides_61 : decode cX0_sides 61 = .ok (.invokevirtual 51, 3) := by decide +kernel
theorem dX0_sides_64 : decode cX0_sides 64 = .ok (.ifCond .eq 7, 3) := by decide +kernel
theorem dX0_sides_67 : decode cX0_sides 67 = .ok (.iconst 1, 1) := by decide +kernel
theorem dX0_sides_68 : decode cX0_sides 68 = .ok (.goto 4, 3) := by decide +kernel
theorem dX0_sides_71 : decode cX0_sides 71 = .ok (.iconst 0, 1) := by decide +kernel
theorem dX0_sides_72 : decode cX0_sides 72 = .ok (.istore_n 1, 1) := by decide +kernel
theorem dX0_sides_73 : decode cX0_sides 73 = .ok (.iinc 2 1, 3) := by decide +kernel
theorem dX0_sides_76 : decode cX0_sides 76 = .ok (.goto (-72), 3) := by decide +kernel
theorem dX0_sides_79 : decode cX0_sides 79 = .ok (.iload_n 1, 1) := by decide +kernel
theorem dX0_sides_80 : decode cX0_sides 80 = .ok (.ireturn, 1) := by decide +kernel
theorem dX0_wholeLaw_0 : decode cX0_wholeLaw 0 = .ok (.aload_n 0, 1) := by decide +kernel
theorem dX0_wholeLaw_1 : decode cX0_wholeLaw 1 = .ok (.getfield 21, 3) := by decide +kernel
theorem dX0_wholeLaw_4 : decode cX0_wholeLaw 4 = .ok (.invokevirtual 25, 3) := by decide +kernel
theorem dX0_wholeLaw_7 : decode cX0_wholeLaw 7 = .ok (.iconst 1, 1) := by decide +kernel
theorem dX0_wholeLaw_8 : decode cX0_wholeLaw 8 = .ok (.istore_n 1, 1) := by decide +kernel
theorem dX0_wholeLaw_9 : decode cX0_wholeLaw 9 = .ok (.iconst 0, 1) := by decide +kernel
theorem dX0_wholeLaw_10 : decode cX0_wholeLaw 10 = .ok (.istore_n 2, 1) := by decide +kernel
theorem dX0_wholeLaw_11 : decode cX0_wholeLaw 11 = .ok (.iload_n 2, 1) := by decide +kernel
theorem dX0_wholeLaw_12 : decode cX0_wholeLaw 12 = .ok (.iconst 4, 1) := by decide +kernel
theorem dX0_wholeLaw_13 : decode cX0_wholeLaw 13 = .ok (.if_icmp .gt 137, 3) := by decide +kernel
theorem dX0_wholeLaw_16 : decode cX0_wholeLaw 16 = .ok (.iload_n 1, 1) := by decide +kernel
theorem dX0_wholeLaw_17 : decode cX0_wholeLaw 17 = .ok (.ifCond .eq 133, 3) := by decide +kernel
theorem dX0_wholeLaw_20 : decode cX0_wholeLaw 20 = .ok (.aload_n 0, 1) := by decide +kernel
theorem dX0_wholeLaw_21 : decode cX0_wholeLaw 21 = .ok (.getfield 36, 3) := by decide +kernel
theorem dX0_wholeLaw_24 : decode cX0_wholeLaw 24 = .ok (.sipush 142, 3) := by decide +kernel
theorem dX0_wholeLaw_27 : decode cX0_wholeLaw 27 = .ok (.if_icmp .ne 123, 3) := by decide +kernel
theorem dX0_wholeLaw_30 : decode cX0_wholeLaw 30 = .ok (.aload_n 0, 1) := by decide +kernel
theorem dX0_wholeLaw_31 : decode cX0_wholeLaw 31 = .ok (.invokevirtual 77, 3) := by decide +kernel
theorem dX0_wholeLaw_34 : decode cX0_wholeLaw 34 = .ok (.ifCond .eq 52, 3) := by decide +kernel
theorem dX0_wholeLaw_37 : decode cX0_wholeLaw 37 = .ok (.aload_n 0, 1) := by decide +kernel
theorem dX0_wholeLaw_38 : decode cX0_wholeLaw 38 = .ok (.sipush 142, 3) := by decide +kernel
theorem dX0_wholeLaw_41 : decode cX0_wholeLaw 41 = .ok (.invokevirtual 51, 3) := by decide +kernel
theorem dX0_wholeLaw_44 : decode cX0_wholeLaw 44 = .ok (.ifCond .eq 42, 3) := by decide +kernel
theorem dX0_wholeLaw_47 : decode cX0_wholeLaw 47 = .ok (.aload_n 0, 1) := by decide +kernel
theorem dX0_wholeLaw_48 : decode cX0_wholeLaw 48 = .ok (.iconst 0, 1) := by decide +kernel
theorem dX0_wholeLaw_49 : decode cX0_wholeLaw 49 = .ok (.invokevirtual 80, 3) := by decide +kernel
theorem dX0_wholeLaw_52 : decode cX0_wholeLaw 52 = .ok (.ifCond .eq 34, 3) := by decide +kernel
theorem dX0_wholeLaw_55 : decode cX0_wholeLaw 55 = .ok (.aload_n 0, 1) := by decide +kernel
theorem dX0_wholeLaw_56 : decode cX0_wholeLaw 56 = .ok (.bipush 60, 2) := by decide +kernel
theorem dX0_wholeLaw_58 : decode cX0_wholeLaw 58 = .ok (.invokevirtual 51, 3) := by decide +kernel
theorem dX0_wholeLaw_61 : decode cX0_wholeLaw 61 = .ok (.ifCond .eq 25, 3) := by decide +kernel
theorem dX0_wholeLaw_64 : decode cX0_wholeLaw 64 = .ok (.aload_n 0, 1) := by decide +kernel
theorem dX0_wholeLaw_65 : decode cX0_wholeLaw 65 = .ok (.iconst 0, 1) := by decide +kernel
theorem dX0_wholeLaw_66 : decode cX0_wholeLaw 66 = .ok (.invokevirtual 80, 3) := by decide +kernel
theorem dX0_wholeLaw_69 : decode cX0_wholeLaw 69 = .ok (.ifCond .eq 17, 3) := by decide +kernel
theorem dX0_wholeLaw_72 : decode cX0_wholeLaw 72 = .ok (.aload_n 0, 1) := by decide +kernel
theorem dX0_wholeLaw_73 : decode cX0_wholeLaw 73 = .ok (.sipush 143, 3) := by decide +kernel
theorem dX0_wholeLaw_76 : decode cX0_wholeLaw 76 = .ok (.invokevirtual 51, 3) := by decide +kernel
theorem dX0_wholeLaw_79 : decode cX0_wholeLaw 79 = .ok (.ifCond .eq 7, 3) := by decide +kernel
theorem dX0_wholeLaw_82 : decode cX0_wholeLaw 82 = .ok (.iconst 1, 1) := by decide +kernel
theorem dX0_wholeLaw_83 : decode cX0_wholeLaw 83 = .ok (.goto 4, 3) := by decide +kernel
theorem dX0_wholeLaw_86 : decode cX0_wholeLaw 86 = .ok (.iconst 0, 1) := by decide +kernel
theorem dX0_wholeLaw_87 : decode cX0_wholeLaw 87 = .ok (.istore_n 1, 1) := by decide +kernel
theorem dX0_wholeLaw_88 : decode cX0_wholeLaw 88 = .ok (.aload_n 0, 1) := by decide +kernel
theorem dX0_wholeLaw_89 : decode cX0_wholeLaw 89 = .ok (.getfield 21, 3) := by decide +kernel
theorem dX0_wholeLaw_92 : decode cX0_wholeLaw 92 = .ok (.iconst 4, 1) := by decide +kernel
theorem dX0_wholeLaw_93 : decode cX0_wholeLaw 93 = .ok (.iconst 0, 1) := by decide +kernel
theorem dX0_wholeLaw_94 : decode cX0_wholeLaw 94 = .ok (.invokevirtual 83, 3) := by decide +kernel
theorem dX0_wholeLaw_97 : decode cX0_wholeLaw 97 = .ok (.istore_n 3, 1) := by decide +kernel
theorem dX0_wholeLaw_98 : decode cX0_wholeLaw 98 = .ok (.iload_n 1, 1) := by decide +kernel
theorem dX0_wholeLaw_99 : decode cX0_wholeLaw 99 = .ok (.ifCond .eq 25, 3) := by decide +kernel
theorem dX0_wholeLaw_102 : decode cX0_wholeLaw 102 = .ok (.aload_n 0, 1) := by decide +kernel
theorem dX0_wholeLaw_103 : decode cX0_wholeLaw 103 = .ok (.iconst 0, 1) := by decide +kernel
theorem dX0_wholeLaw_104 : decode cX0_wholeLaw 104 = .ok (.invokevirtual 80, 3) := by decide +kernel
theorem dX0_wholeLaw_107 : decode cX0_wholeLaw 107 = .ok (.ifCond .eq 17, 3) := by decide +kernel
theorem dX0_wholeLaw_110 : decode cX0_wholeLaw 110 = .ok (.aload_n 0, 1) := by decide +kernel
theorem dX0_wholeLaw_111 : decode cX0_wholeLaw 111 = .ok (.sipush 144, 3) := by decide +kernel
theorem dX0_wholeLaw_114 : decode cX0_wholeLaw 114 = .ok (.invokevirtual 51, 3) := by decide +kernel
theorem dX0_wholeLaw_117 : decode cX0_wholeLaw 117 = .ok (.ifCond .eq 7, 3) := by decide +kernel
theorem dX0_wholeLaw_120 : decode cX0_wholeLaw 120 = .ok (.iconst 1, 1) := by decide +kernel
theorem dX0_wholeLaw_121 : decode cX0_wholeLaw 121 = .ok (.goto 4, 3) := by decide +kernel
theorem dX0_wholeLaw_124 : decode cX0_wholeLaw 124 = .ok (.iconst 0, 1) := by decide +kernel
theorem dX0_wholeLaw_125 : decode cX0_wholeLaw 125 = .ok (.istore_n 1, 1) := by decide +kernel
theorem dX0_wholeLaw_126 : decode cX0_wholeLaw 126 = .ok (.aload_n 0, 1) := by decide +kernel
theorem dX0_wholeLaw_127 : decode cX0_wholeLaw 127 = .ok (.getfield 21, 3) := by decide +kernel
theorem dX0_wholeLaw_130 : decode cX0_wholeLaw 130 = .ok (.iconst 5, 1) := by decide +kernel
theorem dX0_wholeLaw_131 : decode cX0_wholeLaw 131 = .ok (.iconst 0, 1) := by decide +kernel
theorem dX0_wholeLaw_132 : decode cX0_wholeLaw 132 = .ok (.invokevirtual 83, 3) := by decide +kernel
theorem dX0_wholeLaw_135 : decode cX0_wholeLaw 135 = .ok (.pop, 1) := by decide +kernel
theorem dX0_wholeLaw_136 : decode cX0_wholeLaw 136 = .ok (.aload_n 0, 1) := by decide +kernel
theorem dX0_wholeLaw_137 : decode cX0_wholeLaw 137 = .ok (.getfield 21, 3) := by decide +kernel
theorem dX0_wholeLaw_140 : decode cX0_wholeLaw 140 = .ok (.iload_n 3, 1) := by decide +kernel
theorem dX0_wholeLaw_141 : decode cX0_wholeLaw 141 = .ok (.invokevirtual 87, 3) := by decide +kernel
theorem dX0_wholeLaw_144 : decode cX0_wholeLaw 144 = .ok (.iinc 2 1, 3) := by decide +kernel
theorem dX0_wholeLaw_147 : decode cX0_wholeLaw 147 = .ok (.goto (-136), 3) := by decide +kernel
theorem dX0_wholeLaw_150 : decode cX0_wholeLaw 150 = .ok (.iload_n 1, 1) := by decide +kernel
theorem dX0_wholeLaw_151 : decode cX0_wholeLaw 151 = .ok (.ifCond .eq 15, 3) := by decide +kernel
theorem dX0_wholeLaw_154 : decode cX0_wholeLaw 154 = .ok (.aload_n 0, 1) := by decide +kernel
theorem dX0_wholeLaw_155 : decode cX0_wholeLaw 155 = .ok (.iconst 0, 1) := by decide +kernel
theorem dX0_wholeLaw_156 : decode cX0_wholeLaw 156 = .ok (.invokevirtual 80, 3) := by decide +kernel
theorem dX0_wholeLaw_159 : decode cX0_wholeLaw 159 = .ok (.ifCond .eq 7, 3) := by decide +kernel
theorem dX0_wholeLaw_162 : decode cX0_wholeLaw 162 = .ok (.iconst 1, 1) := by decide +kernel
theorem dX0_wholeLaw_163 : decode cX0_wholeLaw 163 = .ok (.goto 4, 3) := by decide +kernel
theorem dX0_wholeLaw_166 : decode cX0_wholeLaw 166 = .ok (.iconst 0, 1) := by decide +kernel
theorem dX0_wholeLaw_167 : decode cX0_wholeLaw 167 = .ok (.istore_n 1, 1) := by decide +kernel
theorem dX0_wholeLaw_168 : decode cX0_wholeLaw 168 = .ok (.aload_n 0, 1) := by decide +kernel
theorem dX0_wholeLaw_169 : decode cX0_wholeLaw 169 = .ok (.getfield 21, 3) := by decide +kernel
theorem dX0_wholeLaw_172 : decode cX0_wholeLaw 172 = .ok (.iconst 5, 1) := by decide +kernel
theorem dX0_wholeLaw_173 : decode cX0_wholeLaw 173 = .ok (.iconst 0, 1) := by decide +kernel
theorem dX0_wholeLaw_174 : decode cX0_wholeLaw 174 = .ok (.invokevirtual 83, 3) := by decide +kernel
theorem dX0_wholeLaw_177 : decode cX0_wholeLaw 177 = .ok (.pop, 1) := by decide +kernel
theorem dX0_wholeLaw_178 : decode cX0_wholeLaw 178 = .ok (.iload_n 1, 1) := by decide +kernel
theorem dX0_wholeLaw_179 : decode cX0_wholeLaw 179 = .ok (.ireturn, 1) := by decide +kernel
theorem dX0_sum_0 : decode cX0_sum 0 = .ok (.aload_n 0, 1) := by decide +kernel
theorem dX0_sum_1 : decode cX0_sum 1 = .ok (.iload_n 1, 1) := by decide +kernel
theorem dX0_sum_2 : decode cX0_sum 2 = .ok (.invokevirtual 91, 3) := by decide +kernel
theorem dX0_sum_5 : decode cX0_sum 5 = .ok (.istore_n 2, 1) := by decide +kernel
theorem dX0_sum_6 : decode cX0_sum 6 = .ok (.iconst 0, 1) := by decide +kernel
theorem dX0_sum_7 : decode cX0_sum 7 = .ok (.istore_n 3, 1) := by decide +kernel
theorem dX0_sum_8 : decode cX0_sum 8 = .ok (.iload_n 3, 1) := by decide +kernel
theorem dX0_sum_9 : decode cX0_sum 9 = .ok (.sipush 400, 3) := by decide +kernel
theorem dX0_sum_12 : decode cX0_sum 12 = .ok (.if_icmp .gt 71, 3) := by decide +kernel
theorem dX0_sum_15 : decode cX0_sum 15 = .ok (.iload_n 2, 1) := by decide +kernel
theorem dX0_sum_16 : decode cX0_sum 16 = .ok (.ifCond .eq 67, 3) := by decide +kernel
theorem dX0_sum_19 : decode cX0_sum 19 = .ok (.aload_n 0, 1) := by decide +kernel
theorem dX0_sum_20 : decode cX0_sum 20 = .ok (.getfield 36, 3) := by decide +kernel
theorem dX0_sum_23 : decode cX0_sum 23 = .ok (.bipush 43, 2) := by decide +kernel
theorem dX0_sum_25 : decode cX0_sum 25 = .ok (.if_icmp .eq 12, 3) := by decide +kernel
theorem dX0_sum_28 : decode cX0_sum 28 = .ok (.aload_n 0, 1) := by decide +kernel
theorem dX0_sum_29 : decode cX0_sum 29 = .ok (.getfield 36, 3) := by decide +kernel
theorem dX0_sum_32 : decode cX0_sum 32 = .ok (.bipush 45, 2) := by decide +kernel
theorem dX0_sum_34 : decode cX0_sum 34 = .ok (.if_icmp .ne 49, 3) := by decide +kernel
theorem dX0_sum_37 : decode cX0_sum 37 = .ok (.aload_n 0, 1) := by decide +kernel
theorem dX0_sum_38 : decode cX0_sum 38 = .ok (.getfield 36, 3) := by decide +kernel
theorem dX0_sum_41 : decode cX0_sum 41 = .ok (.istore 4, 2) := by decide +kernel
theorem dX0_sum_43 : decode cX0_sum 43 = .ok (.aload_n 0, 1) := by decide +kernel
theorem dX0_sum_44 : decode cX0_sum 44 = .ok (.iload 4, 2) := by decide +kernel
theorem dX0_sum_46 : decode cX0_sum 46 = .ok (.invokevirtual 51, 3) := by decide +kernel
theorem dX0_sum_49 : decode cX0_sum 49 = .ok (.ifCond .eq 15, 3) := by decide +kernel
theorem dX0_sum_52 : decode cX0_sum 52 = .ok (.aload_n 0, 1) := by decide +kernel
theorem dX0_sum_53 : decode cX0_sum 53 = .ok (.iload_n 1, 1) := by decide +kernel
theorem dX0_sum_54 : decode cX0_sum 54 = .ok (.invokevirtual 91, 3) := by decide +kernel
theorem dX0_sum_57 : decode cX0_sum 57 = .ok (.ifCond .eq 7, 3) := by decide +kernel
theorem dX0_sum_60 : decode cX0_sum 60 = .ok (.iconst 1, 1) := by decide +kernel
theorem dX0_sum_61 : decode cX0_sum 61 = .ok (.goto 4, 3) := by decide +kernel
theorem dX0_sum_64 : decode cX0_sum 64 = .ok (.iconst 0, 1) := by decide +kernel
theorem dX0_sum_65 : decode cX0_sum 65 = .ok (.istore_n 2, 1) := by decide +kernel
theorem dX0_sum_66 : decode cX0_sum 66 = .ok (.aload_n 0, 1) := by decide +kernel
theorem dX0_sum_67 : decode cX0_sum 67 = .ok (.getfield 21, 3) := by decide +kernel
theorem dX0_sum_70 : decode cX0_sum 70 = .ok (.iload 4, 2) := by decide +kernel
theorem dX0_sum_72 : decode cX0_sum 72 = .ok (.iconst 0, 1) := by decide +kernel
theorem dX0_sum_73 : decode cX0_sum 73 = .ok (.invokevirtual 83, 3) := by decide +kernel
theorem dX0_sum_76 : decode cX0_sum 76 = .ok (.pop, 1) := by decide +kernel
theorem dX0_sum_77 : decode cX0_sum 77 = .ok (.iinc 3 1, 3) := by decide +kernel
theorem dX0_sum_80 : decode cX0_sum 80 = .ok (.goto (-72), 3) := by decide +kernel
theorem dX0_sum_83 : decode cX0_sum 83 = .ok (.iload_n 2, 1) := by decide +kernel
theorem dX0_sum_84 : decode cX0_sum 84 = .ok (.ireturn, 1) := by decide +kernel
theorem dX0_product_0 : decode cX0_product 0 = .ok (.aload_n 0, 1) := by decide +kernel
theorem dX0_product_1 : decode cX0_product 1 = .ok (.iload_n 1, 1) := by decide +kernel
theorem dX0_product_2 : decode cX0_product 2 = .ok (.invokevirtual 94, 3) := by decide +kernel
theorem dX0_product_5 : decode cX0_product 5 = .ok (.istore_n 2, 1) := by decide +kernel
theorem dX0_product_6 : decode cX0_product 6 = .ok (.iconst 0, 1) := by decide +kernel
theorem dX0_product_7 : decode cX0_product 7 = .ok (.istore_n 3, 1) := by decide +kernel
theorem dX0_product_8 : decode cX0_product 8 = .ok (.iload_n 3, 1) := by decide +kernel
theorem dX0_product_9 : decode cX0_product 9 = .ok (.sipush 400, 3) := by decide +kernel
theorem dX0_product_12 : decode cX0_product 12 = .ok (.if_icmp .gt 71, 3) := by decide +kernel
theorem dX0_product_15 : decode cX0_product 15 = .ok (.iload_n 2, 1) := by decide +kernel
theorem dX0_product_16 : decode cX0_product 16 = .ok (.ifCond .eq 67, 3) := by decide +kernel
theorem dX0_product_19 : decode cX0_product 19 = .ok (.aload_n 0, 1) := by decide +kernel
theorem dX0_product_20 : decode cX0_product 20 = .ok (.getfield 36, 3) := by decide +kernel
theorem dX0_product_23 : decode cX0_product 23 = .ok (.bipush 42, 2) := by decide +kernel
theorem dX0_product_25 : decode cX0_product 25 = .ok (.if_icmp .eq 12, 3) := by decide +kernel
theorem dX0_product_28 : decode cX0_product 28 = .ok (.aload_n 0, 1) := by decide +kernel
theorem dX0_product_29 : decode cX0_product 29 = .ok (.getfield 36, 3) := by decide +kernel
theorem dX0_product_32 : decode cX0_product 32 = .ok (.bipush 47, 2) := by decide +kernel
theorem dX0_product_34 : decode cX0_product 34 = .ok (.if_icmp .ne 49, 3) := by decide +kernel
theorem dX0_product_37 : decode cX0_product 37 = .ok (.aload_n 0, 1) := by decide +kernel
theorem dX0_product_38 : decode cX0_product 38 = .ok (.getfield 36, 3) := by decide +kernel
theorem dX0_product_41 : decode cX0_product 41 = .ok (.istore 4, 2) := by decide +kernel
theorem dX0_product_43 : decode cX0_product 43 = .ok (.aload_n 0, 1) := by decide +kernel
theorem dX0_product_44 : decode cX0_product 44 = .ok (.iload 4, 2) := by decide +kernel
theorem dX0_product_46 : decode cX0_product 46 = .ok (.invokevirtual 51, 3) := by decide +kernel
theorem dX0_product_49 : decode cX0_product 49 = .ok (.ifCond .eq 15, 3) := by decide +kernel
theorem dX0_product_52 : decode cX0_product 52 = .ok (.aload_n 0, 1) := by decide +kernel
theorem dX0_product_53 : decode cX0_product 53 = .ok (.iload_n 1, 1) := by decide +kernel
theorem dX0_product_54 : decode cX0_product 54 = .ok (.invokevirtual 94, 3) := by decide +kernel
theorem dX0_product_57 : decode cX0_product 57 = .ok (.ifCond .eq 7, 3) := by decide +kernel
theorem dX0_product_60 : decode cX0_product 60 = .ok (.iconst 1, 1) := by decide +kernel
theorem dX0_product_61 : decode cX0_product 61 = .ok (.goto 4, 3) := by decide +kernel
theorem dX0_product_64 : decode cX0_product 64 = .ok (.iconst 0, 1) := by decide +kernel
theorem dX0_product_65 : decode cX0_product 65 = .ok (.istore_n 2, 1) := by decide +kernel
theorem dX0_product_66 : decode cX0_product 66 = .ok (.aload_n 0, 1) := by decide +kernel
theorem dX0_product_67 : decode cX0_product 67 = .ok (.getfield 21, 3) := by decide +kernel
theorem dX0_product_70 : decode cX0_product 70 = .ok (.iload 4, 2) := by decide +kernel
theorem dX0_product_72 : decode cX0_product 72 = .ok (.iconst 0, 1) := by decide +kernel
theorem dX0_product_73 : decode cX0_product 73 = .ok (.invokevirtual 83, 3) := by decide +kernel
theorem dX0_product_76 : decode cX0_product 76 = .ok (.pop, 1) := by decide +kernel
theorem dX0_product_77 : decode cX0_product 77 = .ok (.iinc 3 1, 3) := by decide +kernel
theorem dX0_product_80 : decode cX0_product 80 = .ok (.goto (-72), 3) := by decide +kernel
theorem dX0_product_83 : decode cX0_product 83 = .ok (.iload_n 2, 1) := by decide +kernel
theorem dX0_product_84 : decode cX0_product 84 = .ok (.ireturn, 1) := by decide +kernel
theorem dX0_unit_0 : decode cX0_unit 0 = .ok (.aload_n 0, 1) := by decide +kernel
theorem dX0_unit_1 : decode cX0_unit 1 = .ok (.getfield 36, 3) := by decide +kernel
theorem dX0_unit_4 : decode cX0_unit 4 = .ok (.iconst 2, 1) := by decide +kernel
theorem dX0_unit_5 : decode cX0_unit 5 = .ok (.if_icmp .ne 29, 3) := by decide +kernel
theorem dX0_unit_8 : decode cX0_unit 8 = .ok (.aload_n 0, 1) := by decide +kernel
theorem dX0_unit_9 : decode cX0_unit 9 = .ok (.getfield 21, 3) := by decide +kernel
theorem dX0_unit_12 : decode cX0_unit 12 = .ok (.iconst 2, 1) := by decide +kernel
theorem dX0_unit_13 : decode cX0_unit 13 = .ok (.aload_n 0, 1) := by decide +kernel
theorem dX0_unit_14 : decode cX0_unit 14 = .ok (.getfield 12, 3) := by decide +kernel
theorem dX0_unit_17 : decode cX0_unit 17 = .ok (.aload_n 0, 1) := by decide +kernel
theorem dX0_unit_18 : decode cX0_unit 18 = .ok (.getfield 28, 3) := by decide +kernel
theorem dX0_unit_21 : decode cX0_unit 21 = .ok (.invokevirtual 97, 3) := by decide +kernel
theorem dX0_unit_24 : decode cX0_unit 24 = .ok (.invokevirtual 83, 3) := by decide +kernel
theorem dX0_unit_27 : decode cX0_unit 27 = .ok (.pop, 1) := by decide +kernel
theorem dX0_unit_28 : decode cX0_unit 28 = .ok (.aload_n 0, 1) := by decide +kernel
theorem dX0_unit_29 : decode cX0_unit 29 = .ok (.iconst 2, 1) := by decide +kernel
theorem dX0_unit_30 : decode cX0_unit 30 = .ok (.invokevirtual 51, 3) := by decide +kernel
theorem dX0_unit_33 : decode cX0_unit 33 = .ok (.ireturn, 1) := by decide +kernel
theorem dX0_unit_34 : decode cX0_unit 34 = .ok (.aload_n 0, 1) := by decide +kernel
theorem dX0_unit_35 : decode cX0_unit 35 = .ok (.getfield 36, 3) := by decide +kernel
theorem dX0_unit_38 : decode cX0_unit 38 = .ok (.sipush 145, 3) := by decide +kernel
theorem dX0_unit_41 : decode cX0_unit 41 = .ok (.if_icmp .lt 39, 3) := by decide +kernel
theorem dX0_unit_44 : decode cX0_unit 44 = .ok (.aload_n 0, 1) := by decide +kernel
theorem dX0_unit_45 : decode cX0_unit 45 = .ok (.getfield 36, 3) := by decide +kernel
theorem dX0_unit_48 : decode cX0_unit 48 = .ok (.sipush 149, 3) := by decide +kernel
theorem dX0_unit_51 : decode cX0_unit 51 = .ok (.if_icmp .gt 29, 3) := by decide +kernel
theorem dX0_unit_54 : decode cX0_unit 54 = .ok (.aload_n 0, 1) := by decide +kernel
theorem dX0_unit_55 : decode cX0_unit 55 = .ok (.getfield 21, 3) := by decide +kernel
theorem dX0_unit_58 : decode cX0_unit 58 = .ok (.iconst 1, 1) := by decide +kernel
theorem dX0_unit_59 : decode cX0_unit 59 = .ok (.aload_n 0, 1) := by decide +kernel
theorem dX0_unit_60 : decode cX0_unit 60 = .ok (.getfield 36, 3) := by decide +kernel
theorem dX0_unit_63 : decode cX0_unit 63 = .ok (.sipush 145, 3) := by decide +kernel
theorem dX0_unit_66 : decode cX0_unit 66 = .ok (.isub, 1) := by decide +kernel
theorem dX0_unit_67 : decode cX0_unit 67 = .ok (.invokevirtual 83, 3) := by decide +kernel
theorem dX0_unit_70 : decode cX0_unit 70 = .ok (.pop, 1) := by decide +kernel
theorem dX0_unit_71 : decode cX0_unit 71 = .ok (.aload_n 0, 1) := by decide +kernel
theorem dX0_unit_72 : decode cX0_unit 72 = .ok (.aload_n 0, 1) := by decide +kernel
theorem dX0_unit_73 : decode cX0_unit 73 = .ok (.getfield 36, 3) := by decide +kernel
theorem dX0_unit_76 : decode cX0_unit 76 = .ok (.invokevirtual 51, 3) := by decide +kernel
theorem dX0_unit_79 : decode cX0_unit 79 = .ok (.ireturn, 1) := by decide +kernel
theorem dX0_unit_80 : decode cX0_unit 80 = .ok (.aload_n 0, 1) := by decide +kernel
theorem dX0_unit_81 : decode cX0_unit 81 = .ok (.getfield 36, 3) := by decide +kernel
theorem dX0_unit_84 : decode cX0_unit 84 = .ok (.bipush 40, 2) := by decide +kernel
theorem dX0_unit_86 : decode cX0_unit 86 = .ok (.if_icmp .eq 9, 3) := by decide +kernel
theorem dX0_unit_89 : decode cX0_unit 89 = .ok (.aload_n 0, 1) := by decide +kernel
theorem dX0_unit_90 : decode cX0_unit 90 = .ok (.iconst 1, 1) := by decide +kernel
theorem dX0_unit_91 : decode cX0_unit 91 = .ok (.invokevirtual 74, 3) := by decide +kernel
theorem dX0_unit_94 : decode cX0_unit 94 = .ok (.ireturn, 1) := by decide +kernel
theorem dX0_unit_95 : decode cX0_unit 95 = .ok (.iload_n 1, 1) := by decide +kernel
theorem dX0_unit_96 : decode cX0_unit 96 = .ok (.bipush 6, 2) := by decide +kernel
theorem dX0_unit_98 : decode cX0_unit 98 = .ok (.if_icmp .lt 9, 3) := by decide +kernel
theorem dX0_unit_101 : decode cX0_unit 101 = .ok (.aload_n 0, 1) := by decide +kernel
theorem dX0_unit_102 : decode cX0_unit 102 = .ok (.iconst 2, 1) := by decide +kernel
theorem dX0_unit_103 : decode cX0_unit 103 = .ok (.invokevirtual 74, 3) := by decide +kernel
theorem dX0_unit_106 : decode cX0_unit 106 = .ok (.ireturn, 1) := by decide +kernel
theorem dX0_unit_107 : decode cX0_unit 107 = .ok (.aload_n 0, 1) := by decide +kernel
theorem dX0_unit_108 : decode cX0_unit 108 = .ok (.bipush 40, 2) := by decide +kernel
theorem dX0_unit_110 : decode cX0_unit 110 = .ok (.invokevirtual 51, 3) := by decide +kernel
theorem dX0_unit_113 : decode cX0_unit 113 = .ok (.ifCond .eq 26, 3) := by decide +kernel
theorem dX0_unit_116 : decode cX0_unit 116 = .ok (.aload_n 0, 1) := by decide +kernel
theorem dX0_unit_117 : decode cX0_unit 117 = .ok (.iload_n 1, 1) := by decide +kernel
theorem dX0_unit_118 : decode cX0_unit 118 = .ok (.iconst 1, 1) := by decide +kernel
theorem dX0_unit_119 : decode cX0_unit 119 = .ok (.iadd, 1) := by decide +kernel
theorem dX0_unit_120 : decode cX0_unit 120 = .ok (.invokevirtual 80, 3) := by decide +kernel
theorem dX0_unit_123 : decode cX0_unit 123 = .ok (.ifCond .eq 16, 3) := by decide +kernel
theorem dX0_unit_126 : decode cX0_unit 126 = .ok (.aload_n 0, 1) := by decide +kernel
theorem dX0_unit_127 : decode cX0_unit 127 = .ok (.bipush 41, 2) := by decide +kernel
theorem dX0_unit_129 : decode cX0_unit 129 = .ok (.invokevirtual 51, 3) := by decide +kernel
theorem dX0_unit_132 : decode cX0_unit 132 = .ok (.ifCond .eq 7, 3) := by decide +kernel
theorem dX0_unit_135 : decode cX0_unit 135 = .ok (.iconst 1, 1) := by decide +kernel
theorem dX0_unit_136 : decode cX0_unit 136 = .ok (.goto 4, 3) := by decide +kernel
theorem dX0_unit_139 : decode cX0_unit 139 = .ok (.iconst 0, 1) := by decide +kernel
theorem dX0_unit_140 : decode cX0_unit 140 = .ok (.ireturn, 1) := by decide +kernel
theorem dX0_step_0 : decode cX0_step 0 = .ok (.aload_n 0, 1) := by decide +kernel
theorem dX0_step_1 : decode cX0_step 1 = .ok (.getfield 36, 3) := by decide +kernel
theorem dX0_step_4 : decode cX0_step 4 = .ok (.iload_n 1, 1) := by decide +kernel
theorem dX0_step_5 : decode cX0_step 5 = .ok (.if_icmp .eq 9, 3) := by decide +kernel
theorem dX0_step_8 : decode cX0_step 8 = .ok (.aload_n 0, 1) := by decide +kernel
theorem dX0_step_9 : decode cX0_step 9 = .ok (.iconst 1, 1) := by decide +kernel
theorem dX0_step_10 : decode cX0_step 10 = .ok (.invokevirtual 74, 3) := by decide +kernel
theorem dX0_step_13 : decode cX0_step 13 = .ok (.ireturn, 1) := by decide +kernel
theorem dX0_step_14 : decode cX0_step 14 = .ok (.aload_n 0, 1) := by decide +kernel
theorem dX0_step_15 : decode cX0_step 15 = .ok (.getfield 28, 3) := by decide +kernel
theorem dX0_step_18 : decode cX0_step 18 = .ok (.sipush 400, 3) := by decide +kernel
theorem dX0_step_21 : decode cX0_step 21 = .ok (.if_icmp .lt 9, 3) := by decide +kernel
theorem dX0_step_24 : decode cX0_step 24 = .ok (.aload_n 0, 1) := by decide +kernel
theorem dX0_step_25 : decode cX0_step 25 = .ok (.iconst 2, 1) := by decide +kernel
theorem dX0_step_26 : decode cX0_step 26 = .ok (.invokevirtual 74, 3) := by decide +kernel
theorem dX0_step_29 : decode cX0_step 29 = .ok (.ireturn, 1) := by decide +kernel
theorem dX0_step_30 : decode cX0_step 30 = .ok (.aload_n 0, 1) := by decide +kernel
theorem dX0_step_31 : decode cX0_step 31 = .ok (.dup, 1) := by decide +kernel
theorem dX0_step_32 : decode cX0_step 32 = .ok (.getfield 28, 3) := by decide +kernel
theorem dX0_step_35 : decode cX0_step 35 = .ok (.iconst 1, 1) := by decide +kernel
theorem dX0_step_36 : decode cX0_step 36 = .ok (.iadd, 1) := by decide +kernel
theorem dX0_step_37 : decode cX0_step 37 = .ok (.putfield 28, 3) := by decide +kernel
theorem dX0_step_40 : decode cX0_step 40 = .ok (.aload_n 0, 1) := by decide +kernel
theorem dX0_step_41 : decode cX0_step 41 = .ok (.aload_n 0, 1) := by decide +kernel
theorem dX0_step_42 : decode cX0_step 42 = .ok (.getfield 12, 3) := by decide +kernel
theorem dX0_step_45 : decode cX0_step 45 = .ok (.aload_n 0, 1) := by decide +kernel
theorem dX0_step_46 : decode cX0_step 46 = .ok (.getfield 28, 3) := by decide +kernel
theorem dX0_step_49 : decode cX0_step 49 = .ok (.invokevirtual 32, 3) := by decide +kernel
theorem dX0_step_52 : decode cX0_step 52 = .ok (.putfield 36, 3) := by decide +kernel
theorem dX0_step_55 : decode cX0_step 55 = .ok (.iconst 1, 1) := by decide +kernel
theorem dX0_step_56 : decode cX0_step 56 = .ok (.ireturn, 1) := by decide +kernel
theorem dX0_fail_0 : decode cX0_fail 0 = .ok (.aload_n 0, 1) := by decide +kernel
theorem dX0_fail_1 : decode cX0_fail 1 = .ok (.iload_n 1, 1) := by decide +kernel
theorem dX0_fail_2 : decode cX0_fail 2 = .ok (.putfield 39, 3) := by decide +kernel
theorem dX0_fail_5 : decode cX0_fail 5 = .ok (.iconst 0, 1) := by decide +kernel
theorem dX0_fail_6 : decode cX0_fail 6 = .ok (.ireturn, 1) := by decide +kernel
theorem dX1_init_0 : decode cX1_init 0 = .ok (.aload_n 0, 1) := by decide +kernel
theorem dX1_init_1 : decode cX1_init 1 = .ok (.invokespecial 3, 3) := by decide +kernel
theorem dX1_init_4 : decode cX1_init 4 = .ok (.aload_n 0, 1) := by decide +kernel
theorem dX1_init_5 : decode cX1_init 5 = .ok (.bipush 8, 2) := by decide +kernel
theorem dX1_init_7 : decode cX1_init 7 = .ok (.newarray .int, 2) := by decide +kernel
theorem dX1_init_9 : decode cX1_init 9 = .ok (.putfield 9, 3) := by decide +kernel
theorem dX1_init_12 : decode cX1_init 12 = .ok (.aload_n 0, 1) := by decide +kernel
theorem dX1_init_13 : decode cX1_init 13 = .ok (.bipush 8, 2) := by decide +kernel
theorem dX1_init_15 : decode cX1_init 15 = .ok (.newarray .int, 2) := by decide +kernel
theorem dX1_init_17 : decode cX1_init 17 = .ok (.putfield 15, 3) := by decide +kernel
theorem dX1_init_20 : decode cX1_init 20 = .ok (.aload_n 0, 1) := by decide +kernel
theorem dX1_init_21 : decode cX1_init 21 = .ok (.bipush 8, 2) := by decide +kernel
theorem dX1_init_23 : decode cX1_init 23 = .ok (.newarray .int, 2) := by decide +kernel
theorem dX1_init_25 : decode cX1_init 25 = .ok (.putfield 18, 3) := by decide +kernel
theorem dX1_init_28 : decode cX1_init 28 = .ok (.return_, 1) := by decide +kernel
theorem dX1_begin_0 : decode cX1_begin 0 = .ok (.iconst 1, 1) := by decide +kernel
theorem dX1_begin_1 : decode cX1_begin 1 = .ok (.istore_n 2, 1) := by decide +kernel
theorem dX1_begin_2 : decode cX1_begin 2 = .ok (.iconst 0, 1) := by decide +kernel
theorem dX1_begin_3 : decode cX1_begin 3 = .ok (.istore_n 3, 1) := by decide +kernel
theorem dX1_begin_4 : decode cX1_begin 4 = .ok (.iload_n 3, 1) := by decide +kernel
theorem dX1_begin_5 : decode cX1_begin 5 = .ok (.bipush 8, 2) := by decide +kernel
theorem dX1_begin_7 : decode cX1_begin 7 = .ok (.if_icmp .ge 45, 3) := by decide +kernel
theorem dX1_begin_10 : decode cX1_begin 10 = .ok (.aload_n 0, 1) := by decide +kernel
theorem dX1_begin_11 : decode cX1_begin 11 = .ok (.getfield 9, 3) := by decide +kernel
theorem dX1_begin_14 : decode cX1_begin 14 = .ok (.iload_n 3, 1) := by decide +kernel
theorem dX1_begin_15 : decode cX1_begin 15 = .ok (.aload_n 1, 1) := by decide +kernel
theorem dX1_begin_16 : decode cX1_begin 16 = .ok (.iload_n 3, 1) := by decide +kernel
theorem dX1_begin_17 : decode cX1_begin 17 = .ok (.invokestatic 21, 3) := by decide +kernel
theorem dX1_begin_20 : decode cX1_begin 20 = .ok (.iastore, 1) := by decide +kernel
theorem dX1_begin_21 : decode cX1_begin 21 = .ok (.aload_n 0, 1) := by decide +kernel
theorem dX1_begin_22 : decode cX1_begin 22 = .ok (.getfield 18, 3) := by decide +kernel
theorem dX1_begin_25 : decode cX1_begin 25 = .ok (.iload_n 3, 1) := by decide +kernel
theorem dX1_begin_26 : decode cX1_begin 26 = .ok (.iconst 0, 1) := by decide +kernel
theorem dX1_begin_27 : decode cX1_begin 27 = .ok (.iastore, 1) := by decide +kernel
theorem dX1_begin_28 : decode cX1_begin 28 = .ok (.aload_n 0, 1) := by decide +kernel
theorem dX1_begin_29 : decode cX1_begin 29 = .ok (.getfield 15, 3) := by decide +kernel
theorem dX1_begin_32 : decode cX1_begin 32 = .ok (.iload_n 3, 1) := by decide +kernel
theorem dX1_begin_33 : decode cX1_begin 33 = .ok (.iload_n 2, 1) := by decide +kernel
theorem dX1_begin_34 : decode cX1_begin 34 = .ok (.iastore, 1) := by decide +kernel
theorem dX1_begin_35 : decode cX1_begin 35 = .ok (.iload_n 2, 1) := by decide +kernel
theorem dX1_begin_36 : decode cX1_begin 36 = .ok (.aload_n 0, 1) := by decide +kernel
theorem dX1_begin_37 : decode cX1_begin 37 = .ok (.getfield 9, 3) := by decide +kernel
theorem dX1_begin_40 : decode cX1_begin 40 = .ok (.iload_n 3, 1) := by decide +kernel
theorem dX1_begin_41 : decode cX1_begin 41 = .ok (.iaload, 1) := by decide +kernel
theorem dX1_begin_42 : decode cX1_begin 42 = .ok (.iconst 1, 1) := by decide +kernel
theorem dX1_begin_43 : decode cX1_begin 43 = .ok (.iadd, 1) := by decide +kernel
theorem dX1_begin_44 : decode cX1_begin 44 = .ok (.imul, 1) := by decide +kernel
theorem dX1_begin_45 : decode cX1_begin 45 = .ok (.istore_n 2, 1) := by decide +kernel
theorem dX1_begin_46 : decode cX1_begin 46 = .ok (.iinc 3 1, 3) := by decide +kernel
theorem dX1_begin_49 : decode cX1_begin 49 = .ok (.goto (-45), 3) := by decide +kernel
theorem dX1_begin_52 : decode cX1_begin 52 = .ok (.aload_n 0, 1) := by decide +kernel
theorem dX1_begin_53 : decode cX1_begin 53 = .ok (.iload_n 2, 1) := by decide +kernel
theorem dX1_begin_54 : decode cX1_begin 54 = .ok (.sipush 11664, 3) := by decide +kernel
theorem dX1_begin_57 : decode cX1_begin 57 = .ok (.invokestatic 25, 3) := by decide +kernel
theorem dX1_begin_60 : decode cX1_begin 60 = .ok (.putfield 31, 3) := by decide +kernel
theorem dX1_begin_63 : decode cX1_begin 63 = .ok (.return_, 1) := by decide +kernel
theorem dX1_step_0 : decode cX1_step 0 = .ok (.iconst 0, 1) := by decide +kernel
theorem dX1_step_1 : decode cX1_step 1 = .ok (.istore_n 1, 1) := by decide +kernel
theorem dX1_step_2 : decode cX1_step 2 = .ok (.iload_n 1, 1) := by decide +kernel
theorem dX1_step_3 : decode cX1_step 3 = .ok (.bipush 8, 2) := by decide +kernel
theorem dX1_step_5 : decode cX1_step 5 = .ok (.if_icmp .ge 31, 3) := by decide +kernel
theorem dX1_step_8 : decode cX1_step 8 = .ok (.aload_n 0, 1) := by decide +kernel
theorem dX1_step_9 : decode cX1_step 9 = .ok (.getfield 18, 3) := by decide +kernel
theorem dX1_step_12 : decode cX1_step 12 = .ok (.iload_n 1, 1) := by decide +kernel
theorem dX1_step_13 : decode cX1_step 13 = .ok (.iaload, 1) := by decide +kernel
theorem dX1_step_14 : decode cX1_step 14 = .ok (.aload_n 0, 1) := by decide +kernel
theorem dX1_step_15 : decode cX1_step 15 = .ok (.getfield 9, 3) := by decide +kernel
theorem dX1_step_18 : decode cX1_step 18 = .ok (.iload_n 1, 1) := by decide +kernel
theorem dX1_step_19 : decode cX1_step 19 = .ok (.iaload, 1) := by decide +kernel
theorem dX1_step_20 : decode cX1_step 20 = .ok (.if_icmp .lt 16, 3) := by decide +kernel
theorem dX1_step_23 : decode cX1_step 23 = .ok (.aload_n 0, 1) := by decide +kernel
theorem dX1_step_24 : decode cX1_step 24 = .ok (.getfield 18, 3) := by decide +kernel
theorem dX1_step_27 : decode cX1_step 27 = .ok (.iload_n 1, 1) := by decide +kernel
theorem dX1_step_28 : decode cX1_step 28 = .ok (.iconst 0, 1) := by decide +kernel
theorem dX1_step_29 : decode cX1_step 29 = .ok (.iastore, 1) := by decide +kernel
theorem dX1_step_30 : decode cX1_step 30 = .ok (.iinc 1 1, 3) := by decide +kernel
theorem dX1_step_33 : decode cX1_step 33 = .ok (.goto (-31), 3) := by decide +kernel
theorem dX1_step_36 : decode cX1_step 36 = .ok (.iload_n 1, 1) := by decide +kernel
theorem dX1_step_37 : decode cX1_step 37 = .ok (.bipush 8, 2) := by decide +kernel
theorem dX1_step_39 : decode cX1_step 39 = .ok (.if_icmp .ge 13, 3) := by decide +kernel
theorem dX1_step_42 : decode cX1_step 42 = .ok (.aload_n 0, 1) := by decide +kernel
theorem dX1_step_43 : decode cX1_step 43 = .ok (.getfield 18, 3) := by decide +kernel
theorem dX1_step_46 : decode cX1_step 46 = .ok (.iload_n 1, 1) := by decide +kernel
theorem dX1_step_47 : decode cX1_step 47 = .ok (.dup2, 1) := by decide +kernel
theorem dX1_step_48 : decode cX1_step 48 = .ok (.iaload, 1) := by decide +kernel
theorem dX1_step_49 : decode cX1_step 49 = .ok (.iconst 1, 1) := by decide +kernel
theorem dX1_step_50 : decode cX1_step 50 = .ok (.iadd, 1) := by decide +kernel
theorem dX1_step_51 : decode cX1_step 51 = .ok (.iastore, 1) := by decide +kernel
theorem dX1_step_52 : decode cX1_step 52 = .ok (.return_, 1) := by decide +kernel
theorem dX2_init_0 : decode cX2_init 0 = .ok (.aload_n 0, 1) := by decide +kernel
theorem dX2_init_1 : decode cX2_init 1 = .ok (.invokespecial 3, 3) := by decide +kernel
theorem dX2_init_4 : decode cX2_init 4 = .ok (.aload_n 0, 1) := by decide +kernel
theorem dX2_init_5 : decode cX2_init 5 = .ok (.sipush 402, 3) := by decide +kernel
theorem dX2_init_8 : decode cX2_init 8 = .ok (.newarray .int, 2) := by decide +kernel
theorem dX2_init_10 : decode cX2_init 10 = .ok (.putfield 9, 3) := by decide +kernel
theorem dX2_init_13 : decode cX2_init 13 = .ok (.aload_n 0, 1) := by decide +kernel
theorem dX2_init_14 : decode cX2_init 14 = .ok (.sipush 402, 3) := by decide +kernel
theorem dX2_init_17 : decode cX2_init 17 = .ok (.newarray .int, 2) := by decide +kernel
theorem dX2_init_19 : decode cX2_init 19 = .ok (.putfield 15, 3) := by decide +kernel
theorem dX2_init_22 : decode cX2_init 22 = .ok (.aload_n 0, 1) := by decide +kernel
theorem dX2_init_23 : decode cX2_init 23 = .ok (.bipush 24, 2) := by decide +kernel
theorem dX2_init_25 : decode cX2_init 25 = .ok (.newarray .int, 2) := by decide +kernel
theorem dX2_init_27 : decode cX2_init 27 = .ok (.putfield 18, 3) := by decide +kernel
theorem dX2_init_30 : decode cX2_init 30 = .ok (.return_, 1) := by decide +kernel
theorem dX2_clear_0 : decode cX2_clear 0 = .ok (.aload_n 0, 1) := by decide +kernel
theorem dX2_clear_1 : decode cX2_clear 1 = .ok (.iconst 0, 1) := by decide +kernel
theorem dX2_clear_2 : decode cX2_clear 2 = .ok (.putfield 21, 3) := by decide +kernel
theorem dX2_clear_5 : decode cX2_clear 5 = .ok (.return_, 1) := by decide +kernel
theorem dX2_become_0 : decode cX2_become 0 = .ok (.aload_n 1, 1) := by decide +kernel
theorem dX2_become_1 : decode cX2_become 1 = .ok (.getfield 9, 3) := by decide +kernel
theorem dX2_become_4 : decode cX2_become 4 = .ok (.aload_n 0, 1) := by decide +kernel
theorem dX2_become_5 : decode cX2_become 5 = .ok (.getfield 9, 3) := by decide +kernel
theorem dX2_become_8 : decode cX2_become 8 = .ok (.invokestatic 25, 3) := by decide +kernel
theorem dX2_become_11 : decode cX2_become 11 = .ok (.aload_n 1, 1) := by decide +kernel
theorem dX2_become_12 : decode cX2_become 12 = .ok (.getfield 15, 3) := by decide +kernel
theorem dX2_become_15 : decode cX2_become 15 = .ok (.aload_n 0, 1) := by decide +kernel
theorem dX2_become_16 : decode cX2_become 16 = .ok (.getfield 15, 3) := by decide +kernel
theorem dX2_become_19 : decode cX2_become 19 = .ok (.invokestatic 25, 3) := by decide +kernel
theorem dX2_become_22 : decode cX2_become 22 = .ok (.aload_n 0, 1) := by decide +kernel
theorem dX2_become_23 : decode cX2_become 23 = .ok (.aload_n 1, 1) := by decide +kernel
theorem dX2_become_24 : decode cX2_become 24 = .ok (.getfield 21, 3) := by decide +kernel
theorem dX2_become_27 : decode cX2_become 27 = .ok (.putfield 21, 3) := by decide +kernel
theorem dX2_become_30 : decode cX2_become 30 = .ok (.return_, 1) := by decide +kernel
theorem dX2_write_0 : decode cX2_write 0 = .ok (.aload_n 0, 1) := by decide +kernel
theorem dX2_write_1 : decode cX2_write 1 = .ok (.getfield 9, 3) := by decide +kernel
theorem dX2_write_4 : decode cX2_write 4 = .ok (.aload_n 0, 1) := by decide +kernel
theorem dX2_write_5 : decode cX2_write 5 = .ok (.getfield 21, 3) := by decide +kernel
theorem dX2_write_8 : decode cX2_write 8 = .ok (.iload_n 1, 1) := by decide +kernel
theorem dX2_write_9 : decode cX2_write 9 = .ok (.invokestatic 29, 3) := by decide +kernel
theorem dX2_write_12 : decode cX2_write 12 = .ok (.aload_n 0, 1) := by decide +kernel
theorem dX2_write_13 : decode cX2_write 13 = .ok (.getfield 15, 3) := by decide +kernel
theorem dX2_write_16 : decode cX2_write 16 = .ok (.aload_n 0, 1) := by decide +kernel
theorem dX2_write_17 : decode cX2_write 17 = .ok (.getfield 21, 3) := by decide +kernel
theorem dX2_write_20 : decode cX2_write 20 = .ok (.iload_n 2, 1) := by decide +kernel
theorem dX2_write_21 : decode cX2_write 21 = .ok (.invokestatic 29, 3) := by decide +kernel
theorem dX2_write_24 : decode cX2_write 24 = .ok (.aload_n 0, 1) := by decide +kernel
theorem dX2_write_25 : decode cX2_write 25 = .ok (.dup, 1) := by decide +kernel
theorem dX2_write_26 : decode cX2_write 26 = .ok (.getfield 21, 3) := by decide +kernel
theorem dX2_write_29 : decode cX2_write 29 = .ok (.iconst 1, 1) := by decide +kernel
theorem dX2_write_30 : decode cX2_write 30 = .ok (.iadd, 1) := by decide +kernel
theorem dX2_write_31 : decode cX2_write 31 = .ok (.putfield 21, 3) := by decide +kernel
theorem dX2_write_34 : decode cX2_write 34 = .ok (.aload_n 0, 1) := by decide +kernel
theorem dX2_write_35 : decode cX2_write 35 = .ok (.getfield 21, 3) := by decide +kernel
theorem dX2_write_38 : decode cX2_write 38 = .ok (.iconst 1, 1) := by decide +kernel
theorem dX2_write_39 : decode cX2_write 39 = .ok (.isub, 1) := by decide +kernel
theorem dX2_write_40 : decode cX2_write 40 = .ok (.ireturn, 1) := by decide +kernel
theorem dX2_aim_0 : decode cX2_aim 0 = .ok (.aload_n 0, 1) := by decide +kernel
theorem dX2_aim_1 : decode cX2_aim 1 = .ok (.getfield 15, 3) := by decide +kernel
theorem dX2_aim_4 : decode cX2_aim 4 = .ok (.iload_n 1, 1) := by decide +kernel
theorem dX2_aim_5 : decode cX2_aim 5 = .ok (.aload_n 0, 1) := by decide +kernel
theorem dX2_aim_6 : decode cX2_aim 6 = .ok (.getfield 21, 3) := by decide +kernel
theorem dX2_aim_9 : decode cX2_aim 9 = .ok (.invokestatic 29, 3) := by decide +kernel
theorem dX2_aim_12 : decode cX2_aim 12 = .ok (.return_, 1) := by decide +kernel
theorem dX2_value_0 : decode cX2_value 0 = .ok (.iconst (-1), 1) := by decide +kernel
theorem dX2_value_1 : decode cX2_value 1 = .ok (.istore_n 2, 1) := by decide +kernel
theorem dX2_value_2 : decode cX2_value 2 = .ok (.iconst 0, 1) := by decide +kernel
theorem dX2_value_3 : decode cX2_value 3 = .ok (.istore_n 3, 1) := by decide +kernel
theorem dX2_value_4 : decode cX2_value 4 = .ok (.iconst 0, 1) := by decide +kernel
theorem dX2_value_5 : decode cX2_value 5 = .ok (.istore 4, 2) := by decide +kernel
theorem dX2_value_7 : decode cX2_value 7 = .ok (.iload 4, 2) := by decide +kernel
theorem dX2_value_9 : decode cX2_value 9 = .ok (.aload_n 0, 1) := by decide +kernel
theorem dX2_value_10 : decode cX2_value 10 = .ok (.getfield 21, 3) := by decide +kernel
theorem dX2_value_13 : decode cX2_value 13 = .ok (.if_icmp .ge 192, 3) := by decide +kernel
theorem dX2_value_16 : decode cX2_value 16 = .ok (.iload 4, 2) := by decide +kernel
theorem dX2_value_18 : decode cX2_value 18 = .ok (.aload_n 0, 1) := by decide +kernel
theorem dX2_value_19 : decode cX2_value 19 = .ok (.getfield 9, 3) := by decide +kernel
theorem dX2_value_22 : decode cX2_value 22 = .ok (.arraylength, 1) := by decide +kernel
theorem dX2_value_23 : decode cX2_value 23 = .ok (.if_icmp .ge 182, 3) := by decide +kernel
theorem dX2_value_26 : decode cX2_value 26 = .ok (.iload 4, 2) := by decide +kernel
theorem dX2_value_28 : decode cX2_value 28 = .ok (.iload_n 3, 1) := by decide +kernel
theorem dX2_value_29 : decode cX2_value 29 = .ok (.if_icmp .ge 6, 3) := by decide +kernel
theorem dX2_value_32 : decode cX2_value 32 = .ok (.goto 167, 3) := by decide +kernel
theorem dX2_value_35 : decode cX2_value 35 = .ok (.aload_n 0, 1) := by decide +kernel
theorem dX2_value_36 : decode cX2_value 36 = .ok (.getfield 9, 3) := by decide +kernel
theorem dX2_value_39 : decode cX2_value 39 = .ok (.iload 4, 2) := by decide +kernel
theorem dX2_value_41 : decode cX2_value 41 = .ok (.iaload, 1) := by decide +kernel
theorem dX2_value_42 : decode cX2_value 42 = .ok (.istore 5, 2) := by decide +kernel
theorem dX2_value_44 : decode cX2_value 44 = .ok (.aload_n 0, 1) := by decide +kernel
theorem dX2_value_45 : decode cX2_value 45 = .ok (.getfield 18, 3) := by decide +kernel
theorem dX2_value_48 : decode cX2_value 48 = .ok (.iload_n 2, 1) := by decide +kernel
theorem dX2_value_49 : decode cX2_value 49 = .ok (.invokestatic 33, 3) := by decide +kernel
theorem dX2_value_52 : decode cX2_value 52 = .ok (.istore 6, 2) := by decide +kernel
theorem dX2_value_54 : decode cX2_value 54 = .ok (.aload_n 0, 1) := by decide +kernel
theorem dX2_value_55 : decode cX2_value 55 = .ok (.getfield 18, 3) := by decide +kernel
theorem dX2_value_58 : decode cX2_value 58 = .ok (.iload_n 2, 1) := by decide +kernel
theorem dX2_value_59 : decode cX2_value 59 = .ok (.iconst 1, 1) := by decide +kernel
theorem dX2_value_60 : decode cX2_value 60 = .ok (.isub, 1) := by decide +kernel
theorem dX2_value_61 : decode cX2_value 61 = .ok (.invokestatic 33, 3) := by decide +kernel
theorem dX2_value_64 : decode cX2_value 64 = .ok (.istore 7, 2) := by decide +kernel
theorem dX2_value_66 : decode cX2_value 66 = .ok (.iload 5, 2) := by decide +kernel
theorem dX2_value_68 : decode cX2_value 68 = .ok (.iconst 5, 1) := by decide +kernel
theorem dX2_value_69 : decode cX2_value 69 = .ok (.if_icmp .ne 6, 3) := by decide +kernel
theorem dX2_value_72 : decode cX2_value 72 = .ok (.iload 6, 2) := by decide +kernel
theorem dX2_value_74 : decode cX2_value 74 = .ok (.ireturn, 1) := by decide +kernel
theorem dX2_value_75 : decode cX2_value 75 = .ok (.iload 5, 2) := by decide +kernel
theorem dX2_value_77 : decode cX2_value 77 = .ok (.iconst 2, 1) := by decide +kernel
theorem dX2_value_78 : decode cX2_value 78 = .ok (.if_icmp .eq 9, 3) := by decide +kernel
theorem dX2_value_81 : decode cX2_value 81 = .ok (.iload 5, 2) := by decide +kernel
theorem dX2_value_83 : decode cX2_value 83 = .ok (.iconst 1, 1) := by decide +kernel
theorem dX2_value_84 : decode cX2_value 84 = .ok (.if_icmp .ne 48, 3) := by decide +kernel
theorem dX2_value_87 : decode cX2_value 87 = .ok (.iinc 2 1, 3) := by decide +kernel
theorem dX2_value_90 : decode cX2_value 90 = .ok (.aload_n 0, 1) := by decide +kernel
theorem dX2_value_91 : decode cX2_value 91 = .ok (.getfield 18, 3) := by decide +kernel
theorem dX2_value_94 : decode cX2_value 94 = .ok (.iload_n 2, 1) := by decide +kernel
theorem dX2_value_95 : decode cX2_value 95 = .ok (.iload 5, 2) := by decide +kernel
theorem dX2_value_97 : decode cX2_value 97 = .ok (.iconst 2, 1) := by decide +kernel
theorem dX2_value_98 : decode cX2_value 98 = .ok (.if_icmp .ne 15, 3) := by decide +kernel
theorem dX2_value_101 : decode cX2_value 101 = .ok (.aload_n 0, 1) := by decide +kernel
theorem dX2_value_102 : decode cX2_value 102 = .ok (.getfield 15, 3) := by decide +kernel
theorem dX2_value_105 : decode cX2_value 105 = .ok (.iload 4, 2) := by decide +kernel
theorem dX2_value_107 : decode cX2_value 107 = .ok (.invokestatic 33, 3) := by decide +kernel
theorem dX2_value_110 : decode cX2_value 110 = .ok (.goto 16, 3) := by decide +kernel
theorem dX2_value_113 : decode cX2_value 113 = .ok (.aload_n 1, 1) := by decide +kernel
theorem dX2_value_114 : decode cX2_value 114 = .ok (.aload_n 0, 1) := by decide +kernel
theorem dX2_value_115 : decode cX2_value 115 = .ok (.getfield 15, 3) := by decide +kernel
theorem dX2_value_118 : decode cX2_value 118 = .ok (.iload 4, 2) := by decide +kernel
theorem dX2_value_120 : decode cX2_value 120 = .ok (.invokestatic 33, 3) := by decide +kernel
theorem dX2_value_123 : decode cX2_value 123 = .ok (.invokestatic 33, 3) := by decide +kernel
theorem dX2_value_126 : decode cX2_value 126 = .ok (.invokestatic 29, 3) := by decide +kernel
theorem dX2_value_129 : decode cX2_value 129 = .ok (.goto 70, 3) := by decide +kernel
theorem dX2_value_132 : decode cX2_value 132 = .ok (.iload 5, 2) := by decide +kernel
theorem dX2_value_134 : decode cX2_value 134 = .ok (.iconst 4, 1) := by decide +kernel
theorem dX2_value_135 : decode cX2_value 135 = .ok (.if_icmp .ne 30, 3) := by decide +kernel
theorem dX2_value_138 : decode cX2_value 138 = .ok (.iinc 2 (-2), 3) := by decide +kernel
theorem dX2_value_141 : decode cX2_value 141 = .ok (.iload 7, 2) := by decide +kernel
theorem dX2_value_143 : decode cX2_value 143 = .ok (.iload 6, 2) := by decide +kernel
theorem dX2_value_145 : decode cX2_value 145 = .ok (.if_icmp .ge 7, 3) := by decide +kernel
theorem dX2_value_148 : decode cX2_value 148 = .ok (.iload_n 3, 1) := by decide +kernel
theorem dX2_value_149 : decode cX2_value 149 = .ok (.goto 12, 3) := by decide +kernel
theorem dX2_value_152 : decode cX2_value 152 = .ok (.aload_n 0, 1) := by decide +kernel
theorem dX2_value_153 : decode cX2_value 153 = .ok (.getfield 15, 3) := by decide +kernel
theorem dX2_value_156 : decode cX2_value 156 = .ok (.iload 4, 2) := by decide +kernel
theorem dX2_value_158 : decode cX2_value 158 = .ok (.invokestatic 33, 3) := by decide +kernel
theorem dX2_value_161 : decode cX2_value 161 = .ok (.istore_n 3, 1) := by decide +kernel
theorem dX2_value_162 : decode cX2_value 162 = .ok (.goto 37, 3) := by decide +kernel
theorem dX2_value_165 : decode cX2_value 165 = .ok (.iload 5, 2) := by decide +kernel
theorem dX2_value_167 : decode cX2_value 167 = .ok (.bipush 47, 2) := by decide +kernel
theorem dX2_value_169 : decode cX2_value 169 = .ok (.if_icmp .ne 10, 3) := by decide +kernel
theorem dX2_value_172 : decode cX2_value 172 = .ok (.iload 6, 2) := by decide +kernel
theorem dX2_value_174 : decode cX2_value 174 = .ok (.ifCond .ne 5, 3) := by decide +kernel
theorem dX2_value_177 : decode cX2_value 177 = .ok (.iconst 0, 1) := by decide +kernel
theorem dX2_value_178 : decode cX2_value 178 = .ok (.ireturn, 1) := by decide +kernel
theorem dX2_value_179 : decode cX2_value 179 = .ok (.iinc 2 (-1), 3) := by decide +kernel
theorem dX2_value_182 : decode cX2_value 182 = .ok (.aload_n 0, 1) := by decide +kernel
theorem dX2_value_183 : decode cX2_value 183 = .ok (.getfield 18, 3) := by decide +kernel
theorem dX2_value_186 : decode cX2_value 186 = .ok (.iload_n 2, 1) := by decide +kernel
theorem dX2_value_187 : decode cX2_value 187 = .ok (.iload 5, 2) := by decide +kernel
theorem dX2_value_189 : decode cX2_value 189 = .ok (.iload 7, 2) := by decide +kernel
theorem dX2_value_191 : decode cX2_value 191 = .ok (.iload 6, 2) := by decide +kernel
theorem dX2_value_193 : decode cX2_value 193 = .ok (.invokestatic 37, 3) := by decide +kernel
theorem dX2_value_196 : decode cX2_value 196 = .ok (.invokestatic 29, 3) := by decide +kernel
theorem dX2_value_199 : decode cX2_value 199 = .ok (.iinc 4 1, 3) := by decide +kernel
theorem dX2_value_202 : decode cX2_value 202 = .ok (.goto (-195), 3) := by decide +kernel
theorem dX2_value_205 : decode cX2_value 205 = .ok (.iconst 0, 1) := by decide +kernel
theorem dX2_value_206 : decode cX2_value 206 = .ok (.ireturn, 1) := by decide +kernel
theorem dX2_joined_0 : decode cX2_joined 0 = .ok (.iload_n 0, 1) := by decide +kernel
theorem dX2_joined_1 : decode cX2_joined 1 = .ok (.tableswitch 43 42 45 #[39, 31, 43, 35], 31) := by decide +kernel
theorem dX2_joined_32 : decode cX2_joined 32 = .ok (.iload_n 1, 1) := by decide +kernel
theorem dX2_joined_33 : decode cX2_joined 33 = .ok (.iload_n 2, 1) := by decide +kernel
theorem dX2_joined_34 : decode cX2_joined 34 = .ok (.iadd, 1) := by decide +kernel
theorem dX2_joined_35 : decode cX2_joined 35 = .ok (.ireturn, 1) := by decide +kernel
theorem dX2_joined_36 : decode cX2_joined 36 = .ok (.iload_n 1, 1) := by decide +kernel
theorem dX2_joined_37 : decode cX2_joined 37 = .ok (.iload_n 2, 1) := by decide +kernel
theorem dX2_joined_38 : decode cX2_joined 38 = .ok (.isub, 1) := by decide +kernel
theorem dX2_joined_39 : decode cX2_joined 39 = .ok (.ireturn, 1) := by decide +kernel
theorem dX2_joined_40 : decode cX2_joined 40 = .ok (.iload_n 1, 1) := by decide +kernel
theorem dX2_joined_41 : decode cX2_joined 41 = .ok (.iload_n 2, 1) := by decide +kernel
theorem dX2_joined_42 : decode cX2_joined 42 = .ok (.imul, 1) := by decide +kernel
theorem dX2_joined_43 : decode cX2_joined 43 = .ok (.ireturn, 1) := by decide +kernel
theorem dX2_joined_44 : decode cX2_joined 44 = .ok (.iload_n 2, 1) := by decide +kernel
theorem dX2_joined_45 : decode cX2_joined 45 = .ok (.ifCond .ne 7, 3) := by decide +kernel
theorem dX2_joined_48 : decode cX2_joined 48 = .ok (.iconst 0, 1) := by decide +kernel
theorem dX2_joined_49 : decode cX2_joined 49 = .ok (.goto 6, 3) := by decide +kernel
theorem dX2_joined_52 : decode cX2_joined 52 = .ok (.iload_n 1, 1) := by decide +kernel
theorem dX2_joined_53 : decode cX2_joined 53 = .ok (.iload_n 2, 1) := by decide +kernel
theorem dX2_joined_54 : decode cX2_joined 54 = .ok (.idiv, 1) := by decide +kernel
theorem dX2_joined_55 : decode cX2_joined 55 = .ok (.ireturn, 1) := by decide +kernel
theorem dX3_init_0 : decode cX3_init 0 = .ok (.aload_n 0, 1) := by decide +kernel
theorem dX3_init_1 : decode cX3_init 1 = .ok (.invokespecial 3, 3) := by decide +kernel
theorem dX3_init_4 : decode cX3_init 4 = .ok (.aload_n 0, 1) := by decide +kernel
theorem dX3_init_5 : decode cX3_init 5 = .ok (.bipush 19, 2) := by decide +kernel
theorem dX3_init_7 : decode cX3_init 7 = .ok (.newarray .long, 2) := by decide +kernel
theorem dX3_init_9 : decode cX3_init 9 = .ok (.putfield 9, 3) := by decide +kernel
theorem dX3_init_12 : decode cX3_init 12 = .ok (.aload_n 0, 1) := by decide +kernel
theorem dX3_init_13 : decode cX3_init 13 = .ok (.bipush 19, 2) := by decide +kernel
theorem dX3_init_15 : decode cX3_init 15 = .ok (.newarray .long, 2) := by decide +kernel
theorem dX3_init_17 : decode cX3_init 17 = .ok (.putfield 15, 3) := by decide +kernel
theorem dX3_init_20 : decode cX3_init 20 = .ok (.aload_n 0, 1) := by decide +kernel
theorem dX3_init_21 : decode cX3_init 21 = .ok (.bipush 8, 2) := by decide +kernel
theorem dX3_init_23 : decode cX3_init 23 = .ok (.newarray .int, 2) := by decide +kernel
theorem dX3_init_25 : decode cX3_init 25 = .ok (.putfield 18, 3) := by decide +kernel
theorem dX3_init_28 : decode cX3_init 28 = .ok (.aload_n 0, 1) := by decide +kernel
theorem dX3_init_29 : decode cX3_init 29 = .ok (.bipush 18, 2) := by decide +kernel
theorem dX3_init_31 : decode cX3_init 31 = .ok (.newarray .boolean, 2) := by decide +kernel
theorem dX3_init_33 : decode cX3_init 33 = .ok (.putfield 22, 3) := by decide +kernel
theorem dX3_init_36 : decode cX3_init 36 = .ok (.aload_n 0, 1) := by decide +kernel
theorem dX3_init_37 : decode cX3_init 37 = .ok (.iconst 5, 1) := by decide +kernel
theorem dX3_init_38 : decode cX3_init 38 = .ok (.newarray .int, 2) := by decide +kernel
theorem dX3_init_40 : decode cX3_init 40 = .ok (.putfield 26, 3) := by decide +kernel
theorem dX3_init_43 : decode cX3_init 43 = .ok (.aload_n 0, 1) := by decide +kernel
theorem dX3_init_44 : decode cX3_init 44 = .ok (.iconst (-1), 1) := by decide +kernel
theorem dX3_init_45 : decode cX3_init 45 = .ok (.putfield 29, 3) := by decide +kernel
theorem dX3_init_48 : decode cX3_init 48 = .ok (.aload_n 0, 1) := by decide +kernel
theorem dX3_init_49 : decode cX3_init 49 = .ok (.sipush 200, 3) := by decide +kernel
theorem dX3_init_52 : decode cX3_init 52 = .ok (.newarray .int, 2) := by decide +kernel
theorem dX3_init_54 : decode cX3_init 54 = .ok (.putfield 33, 3) := by decide +kernel
theorem dX3_init_57 : decode cX3_init 57 = .ok (.aload_n 0, 1) := by decide +kernel
theorem dX3_init_58 : decode cX3_init 58 = .ok (.sipush 200, 3) := by decide +kernel
theorem dX3_init_61 : decode cX3_init 61 = .ok (.newarray .int, 2) := by decide +kernel
theorem dX3_init_63 : decode cX3_init 63 = .ok (.putfield 36, 3) := by decide +kernel
theorem dX3_init_66 : decode cX3_init 66 = .ok (.return_, 1) := by decide +kernel
theorem dX3_waysWithout_0 : decode cX3_waysWithout 0 = .ok (.iconst 0, 1) := by decide +kernel
theorem dX3_waysWithout_1 : decode cX3_waysWithout 1 = .ok (.istore 6, 2) := by decide +kernel
theorem dX3_waysWithout_3 : decode cX3_waysWithout 3 = .ok (.iload 6, 2) := by decide +kernel
theorem dX3_waysWithout_5 : decode cX3_waysWithout 5 = .ok (.aload_n 0, 1) := by decide +kernel
theorem dX3_waysWithout_6 : decode cX3_waysWithout 6 = .ok (.getfield 9, 3) := by decide +kernel
theorem dX3_waysWithout_9 : decode cX3_waysWithout 9 = .ok (.arraylength, 1) := by decide +kernel
theorem dX3_waysWithout_10 : decode cX3_waysWithout 10 = .ok (.if_icmp .ge 26, 3) := by decide +kernel
theorem dX3_waysWithout_13 : decode cX3_waysWithout 13 = .ok (.aload_n 0, 1) := by decide +kernel
theorem dX3_waysWithout_14 : decode cX3_waysWithout 14 = .ok (.getfield 9, 3) := by decide +kernel
theorem dX3_waysWithout_17 : decode cX3_waysWithout 17 = .ok (.iload 6, 2) := by decide +kernel
theorem dX3_waysWithout_19 : decode cX3_waysWithout 19 = .ok (.iload 6, 2) := by decide +kernel
theorem dX3_waysWithout_21 : decode cX3_waysWithout 21 = .ok (.ifCond .ne 7, 3) := by decide +kernel
theorem dX3_waysWithout_24 : decode cX3_waysWithout 24 = .ok (.lconst 1, 1) := by decide +kernel
theorem dX3_waysWithout_25 : decode cX3_waysWithout 25 = .ok (.goto 4, 3) := by decide +kernel
theorem dX3_waysWithout_28 : decode cX3_waysWithout 28 = .ok (.lconst 0, 1) := by decide +kernel
theorem dX3_waysWithout_29 : decode cX3_waysWithout 29 = .ok (.lastore, 1) := by decide +kernel
theorem dX3_waysWithout_30 : decode cX3_waysWithout 30 = .ok (.iinc 6 1, 3) := by decide +kernel
theorem dX3_waysWithout_33 : decode cX3_waysWithout 33 = .ok (.goto (-30), 3) := by decide +kernel
theorem dX3_waysWithout_36 : decode cX3_waysWithout 36 = .ok (.iconst 0, 1) := by decide +kernel
theorem dX3_waysWithout_37 : decode cX3_waysWithout 37 = .ok (.istore 6, 2) := by decide +kernel
theorem dX3_waysWithout_39 : decode cX3_waysWithout 39 = .ok (.iload 6, 2) := by decide +kernel
theorem dX3_waysWithout_41 : decode cX3_waysWithout 41 = .ok (.bipush 8, 2) := by decide +kernel
theorem dX3_waysWithout_43 : decode cX3_waysWithout 43 = .ok (.if_icmp .ge 84, 3) := by decide +kernel
theorem dX3_waysWithout_46 : decode cX3_waysWithout 46 = .ok (.aload_n 2, 1) := by decide +kernel
theorem dX3_waysWithout_47 : decode cX3_waysWithout 47 = .ok (.getfield 39, 3) := by decide +kernel
theorem dX3_waysWithout_50 : decode cX3_waysWithout 50 = .ok (.iload 6, 2) := by decide +kernel
theorem dX3_waysWithout_52 : decode cX3_waysWithout 52 = .ok (.invokestatic 44, 3) := by decide +kernel
theorem dX3_waysWithout_55 : decode cX3_waysWithout 55 = .ok (.istore 7, 2) := by decide +kernel
theorem dX3_waysWithout_57 : decode cX3_waysWithout 57 = .ok (.aload_n 1, 1) := by decide +kernel
theorem dX3_waysWithout_58 : decode cX3_waysWithout 58 = .ok (.getfield 48, 3) := by decide +kernel
theorem dX3_waysWithout_61 : decode cX3_waysWithout 61 = .ok (.iload 6, 2) := by decide +kernel
theorem dX3_waysWithout_63 : decode cX3_waysWithout 63 = .ok (.iaload, 1) := by decide +kernel
theorem dX3_waysWithout_64 : decode cX3_waysWithout 64 = .ok (.aload_n 1, 1) := by decide +kernel
theorem dX3_waysWithout_65 : decode cX3_waysWithout 65 = .ok (.getfield 53, 3) := by decide +kernel
theorem dX3_waysWithout_68 : decode cX3_waysWithout 68 = .ok (.iload 6, 2) := by decide +kernel
theorem dX3_waysWithout_70 : decode cX3_waysWithout 70 = .ok (.iaload, 1) := by decide +kernel
theorem dX3_waysWithout_71 : decode cX3_waysWithout 71 = .ok (.iadd, 1) := by decide +kernel
theorem dX3_waysWithout_72 : decode cX3_waysWithout 72 = .ok (.istore 8, 2) := by decide +kernel
theorem dX3_waysWithout_74 : decode cX3_waysWithout 74 = .ok (.iload 6, 2) := by decide +kernel
theorem dX3_waysWithout_76 : decode cX3_waysWithout 76 = .ok (.iload 7, 2) := by decide +kernel
theorem dX3_waysWithout_78 : decode cX3_waysWithout 78 = .ok (.if_icmp .gt 43, 3) := by decide +kernel
theorem dX3_waysWithout_81 : decode cX3_waysWithout 81 = .ok (.aload_n 0, 1) := by decide +kernel
theorem dX3_waysWithout_82 : decode cX3_waysWithout 82 = .ok (.iload 8, 2) := by decide +kernel
theorem dX3_waysWithout_84 : decode cX3_waysWithout 84 = .ok (.iload 6, 2) := by decide +kernel
theorem dX3_waysWithout_86 : decode cX3_waysWithout 86 = .ok (.iload 7, 2) := by decide +kernel
theorem dX3_waysWithout_88 : decode cX3_waysWithout 88 = .ok (.if_icmp .ne 7, 3) := by decide +kernel
theorem dX3_waysWithout_91 : decode cX3_waysWithout 91 = .ok (.iconst (-1), 1) := by decide +kernel
theorem dX3_waysWithout_92 : decode cX3_waysWithout 92 = .ok (.goto 22, 3) := by decide +kernel
theorem dX3_waysWithout_95 : decode cX3_waysWithout 95 = .ok (.aload_n 1, 1) := by decide +kernel
theorem dX3_waysWithout_96 : decode cX3_waysWithout 96 = .ok (.getfield 48, 3) := by decide +kernel
theorem dX3_waysWithout_99 : decode cX3_waysWithout 99 = .ok (.iload 7, 2) := by decide +kernel
theorem dX3_waysWithout_101 : decode cX3_waysWithout 101 = .ok (.invokestatic 44, 3) := by decide +kernel
theorem dX3_waysWithout_104 : decode cX3_waysWithout 104 = .ok (.aload_n 1, 1) := by decide +kernel
theorem dX3_waysWithout_105 : decode cX3_waysWithout 105 = .ok (.getfield 53, 3) := by decide +kernel
theorem dX3_waysWithout_108 : decode cX3_waysWithout 108 = .ok (.iload 7, 2) := by decide +kernel
theorem dX3_waysWithout_110 : decode cX3_waysWithout 110 = .ok (.invokestatic 44, 3) := by decide +kernel
theorem dX3_waysWithout_113 : decode cX3_waysWithout 113 = .ok (.iadd, 1) := by decide +kernel
theorem dX3_waysWithout_114 : decode cX3_waysWithout 114 = .ok (.iload 4, 2) := by decide +kernel
theorem dX3_waysWithout_116 : decode cX3_waysWithout 116 = .ok (.iload 5, 2) := by decide +kernel
theorem dX3_waysWithout_118 : decode cX3_waysWithout 118 = .ok (.invokevirtual 56, 3) := by decide +kernel
theorem dX3_waysWithout_121 : decode cX3_waysWithout 121 = .ok (.iinc 6 1, 3) := by decide +kernel
theorem dX3_waysWithout_124 : decode cX3_waysWithout 124 = .ok (.goto (-85), 3) := by decide +kernel
theorem dX3_waysWithout_127 : decode cX3_waysWithout 127 = .ok (.aload_n 0, 1) := by decide +kernel
theorem dX3_waysWithout_128 : decode cX3_waysWithout 128 = .ok (.getfield 9, 3) := by decide +kernel
theorem dX3_waysWithout_131 : decode cX3_waysWithout 131 = .ok (.iload_n 3, 1) := by decide +kernel
theorem dX3_waysWithout_132 : decode cX3_waysWithout 132 = .ok (.invokestatic 60, 3) := by decide +kernel
theorem dX3_waysWithout_135 : decode cX3_waysWithout 135 = .ok (.lreturn, 1) := by decide +kernel
theorem dX3_joinKinds_0 : decode cX3_joinKinds 0 = .ok (.iconst 0, 1) := by decide +kernel
theorem dX3_joinKinds_1 : decode cX3_joinKinds 1 = .ok (.istore 5, 2) := by decide +kernel
theorem dX3_joinKinds_3 : decode cX3_joinKinds 3 = .ok (.iload 5, 2) := by decide +kernel
theorem dX3_joinKinds_5 : decode cX3_joinKinds 5 = .ok (.aload_n 0, 1) := by decide +kernel
theorem dX3_joinKinds_6 : decode cX3_joinKinds 6 = .ok (.getfield 15, 3) := by decide +kernel
theorem dX3_joinKinds_9 : decode cX3_joinKinds 9 = .ok (.arraylength, 1) := by decide +kernel
theorem dX3_joinKinds_10 : decode cX3_joinKinds 10 = .ok (.if_icmp .ge 17, 3) := by decide +kernel
theorem dX3_joinKinds_13 : decode cX3_joinKinds 13 = .ok (.aload_n 0, 1) := by decide +kernel
theorem dX3_joinKinds_14 : decode cX3_joinKinds 14 = .ok (.getfield 15, 3) := by decide +kernel
theorem dX3_joinKinds_17 : decode cX3_joinKinds 17 = .ok (.iload 5, 2) := by decide +kernel
theorem dX3_joinKinds_19 : decode cX3_joinKinds 19 = .ok (.lconst 0, 1) := by decide +kernel
theorem dX3_joinKinds_20 : decode cX3_joinKinds 20 = .ok (.lastore, 1) := by decide +kernel
theorem dX3_joinKinds_21 : decode cX3_joinKinds 21 = .ok (.iinc 5 1, 3) := by decide +kernel
theorem dX3_joinKinds_24 : decode cX3_joinKinds 24 = .ok (.goto (-21), 3) := by decide +kernel
theorem dX3_joinKinds_27 : decode cX3_joinKinds 27 = .ok (.iconst 0, 1) := by decide +kernel
theorem dX3_joinKinds_28 : decode cX3_joinKinds 28 = .ok (.istore 5, 2) := by decide +kernel
theorem dX3_joinKinds_30 : decode cX3_joinKinds 30 = .ok (.iload 5, 2) := by decide +kernel
theorem dX3_joinKinds_32 : decode cX3_joinKinds 32 = .ok (.iload_n 1, 1) := by decide +kernel
theorem dX3_joinKinds_33 : decode cX3_joinKinds 33 = .ok (.if_icmp .gt 79, 3) := by decide +kernel
theorem dX3_joinKinds_36 : decode cX3_joinKinds 36 = .ok (.iconst 0, 1) := by decide +kernel
theorem dX3_joinKinds_37 : decode cX3_joinKinds 37 = .ok (.istore 6, 2) := by decide +kernel
theorem dX3_joinKinds_39 : decode cX3_joinKinds 39 = .ok (.iload 6, 2) := by decide +kernel
theorem dX3_joinKinds_41 : decode cX3_joinKinds 41 = .ok (.iconst 0, 1) := by decide +kernel
theorem dX3_joinKinds_42 : decode cX3_joinKinds 42 = .ok (.iload_n 2, 1) := by decide +kernel
theorem dX3_joinKinds_43 : decode cX3_joinKinds 43 = .ok (.invokestatic 64, 3) := by decide +kernel
theorem dX3_joinKinds_46 : decode cX3_joinKinds 46 = .ok (.if_icmp .gt 60, 3) := by decide +kernel
theorem dX3_joinKinds_49 : decode cX3_joinKinds 49 = .ok (.iload_n 1, 1) := by decide +kernel
theorem dX3_joinKinds_50 : decode cX3_joinKinds 50 = .ok (.iload 5, 2) := by decide +kernel
theorem dX3_joinKinds_52 : decode cX3_joinKinds 52 = .ok (.iload_n 3, 1) := by decide +kernel
theorem dX3_joinKinds_53 : decode cX3_joinKinds 53 = .ok (.iload 4, 2) := by decide +kernel
theorem dX3_joinKinds_55 : decode cX3_joinKinds 55 = .ok (.invokestatic 70, 3) := by decide +kernel
theorem dX3_joinKinds_58 : decode cX3_joinKinds 58 = .ok (.iconst 0, 1) := by decide +kernel
theorem dX3_joinKinds_59 : decode cX3_joinKinds 59 = .ok (.iload_n 2, 1) := by decide +kernel
theorem dX3_joinKinds_60 : decode cX3_joinKinds 60 = .ok (.invokestatic 64, 3) := by decide +kernel
theorem dX3_joinKinds_63 : decode cX3_joinKinds 63 = .ok (.iload 6, 2) := by decide +kernel
theorem dX3_joinKinds_65 : decode cX3_joinKinds 65 = .ok (.iload_n 3, 1) := by decide +kernel
theorem dX3_joinKinds_66 : decode cX3_joinKinds 66 = .ok (.iload 4, 2) := by decide +kernel
theorem dX3_joinKinds_68 : decode cX3_joinKinds 68 = .ok (.invokestatic 70, 3) := by decide +kernel
theorem dX3_joinKinds_71 : decode cX3_joinKinds 71 = .ok (.lmul, 1) := by decide +kernel
theorem dX3_joinKinds_72 : decode cX3_joinKinds 72 = .ok (.lstore 7, 2) := by decide +kernel
theorem dX3_joinKinds_74 : decode cX3_joinKinds 74 = .ok (.aload_n 0, 1) := by decide +kernel
theorem dX3_joinKinds_75 : decode cX3_joinKinds 75 = .ok (.iload_n 2, 1) := by decide +kernel
theorem dX3_joinKinds_76 : decode cX3_joinKinds 76 = .ok (.iconst (-1), 1) := by decide +kernel
theorem dX3_joinKinds_77 : decode cX3_joinKinds 77 = .ok (.if_icmp .ne 10, 3) := by decide +kernel
theorem dX3_joinKinds_80 : decode cX3_joinKinds 80 = .ok (.iload 5, 2) := by decide +kernel
theorem dX3_joinKinds_82 : decode cX3_joinKinds 82 = .ok (.iconst 1, 1) := by decide +kernel
theorem dX3_joinKinds_83 : decode cX3_joinKinds 83 = .ok (.iand, 1) := by decide +kernel
theorem dX3_joinKinds_84 : decode cX3_joinKinds 84 = .ok (.goto 11, 3) := by decide +kernel
theorem dX3_joinKinds_87 : decode cX3_joinKinds 87 = .ok (.iload 5, 2) := by decide +kernel
theorem dX3_joinKinds_89 : decode cX3_joinKinds 89 = .ok (.iload 6, 2) := by decide +kernel
theorem dX3_joinKinds_91 : decode cX3_joinKinds 91 = .ok (.isub, 1) := by decide +kernel
theorem dX3_joinKinds_92 : decode cX3_joinKinds 92 = .ok (.invokestatic 74, 3) := by decide +kernel
theorem dX3_joinKinds_95 : decode cX3_joinKinds 95 = .ok (.lload 7, 2) := by decide +kernel
theorem dX3_joinKinds_97 : decode cX3_joinKinds 97 = .ok (.invokevirtual 78, 3) := by decide +kernel
theorem dX3_joinKinds_100 : decode cX3_joinKinds 100 = .ok (.iinc 6 1, 3) := by decide +kernel
theorem dX3_joinKinds_103 : decode cX3_joinKinds 103 = .ok (.goto (-64), 3) := by decide +kernel
theorem dX3_joinKinds_106 : decode cX3_joinKinds 106 = .ok (.iinc 5 1, 3) := by decide +kernel
theorem dX3_joinKinds_109 : decode cX3_joinKinds 109 = .ok (.goto (-79), 3) := by decide +kernel
theorem dX3_joinKinds_112 : decode cX3_joinKinds 112 = .ok (.aload_n 0, 1) := by decide +kernel
theorem dX3_joinKinds_113 : decode cX3_joinKinds 113 = .ok (.getfield 9, 3) := by decide +kernel
theorem dX3_joinKinds_116 : decode cX3_joinKinds 116 = .ok (.astore 5, 2) := by decide +kernel
theorem dX3_joinKinds_118 : decode cX3_joinKinds 118 = .ok (.aload_n 0, 1) := by decide +kernel
theorem dX3_joinKinds_119 : decode cX3_joinKinds 119 = .ok (.aload_n 0, 1) := by decide +kernel
theorem dX3_joinKinds_120 : decode cX3_joinKinds 120 = .ok (.getfield 15, 3) := by decide +kernel
theorem dX3_joinKinds_123 : decode cX3_joinKinds 123 = .ok (.putfield 9, 3) := by decide +kernel
theorem dX3_joinKinds_126 : decode cX3_joinKinds 126 = .ok (.aload_n 0, 1) := by decide +kernel
theorem dX3_joinKinds_127 : decode cX3_joinKinds 127 = .ok (.aload 5, 2) := by decide +kernel
theorem dX3_joinKinds_129 : decode cX3_joinKinds 129 = .ok (.putfield 15, 3) := by decide +kernel
theorem dX3_joinKinds_132 : decode cX3_joinKinds 132 = .ok (.return_, 1) := by decide +kernel
theorem dX3_addShifted_0 : decode cX3_addShifted 0 = .ok (.iconst 0, 1) := by decide +kernel
theorem dX3_addShifted_1 : decode cX3_addShifted 1 = .ok (.istore 4, 2) := by decide +kernel
theorem dX3_addShifted_3 : decode cX3_addShifted 3 = .ok (.iload 4, 2) := by decide +kernel
theorem dX3_addShifted_5 : decode cX3_addShifted 5 = .ok (.aload_n 0, 1) := by decide +kernel
theorem dX3_addShifted_6 : decode cX3_addShifted 6 = .ok (.getfield 15, 3) := by decide +kernel
theorem dX3_addShifted_9 : decode cX3_addShifted 9 = .ok (.arraylength, 1) := by decide +kernel
theorem dX3_addShifted_10 : decode cX3_addShifted 10 = .ok (.if_icmp .ge 32, 3) := by decide +kernel
theorem dX3_addShifted_13 : decode cX3_addShifted 13 = .ok (.aload_n 0, 1) := by decide +kernel
theorem dX3_addShifted_14 : decode cX3_addShifted 14 = .ok (.getfield 15, 3) := by decide +kernel
theorem dX3_addShifted_17 : decode cX3_addShifted 17 = .ok (.iload 4, 2) := by decide +kernel
theorem dX3_addShifted_19 : decode cX3_addShifted 19 = .ok (.dup2, 1) := by decide +kernel
theorem dX3_addShifted_20 : decode cX3_addShifted 20 = .ok (.laload, 1) := by decide +kernel
theorem dX3_addShifted_21 : decode cX3_addShifted 21 = .ok (.aload_n 0, 1) := by decide +kernel
theorem dX3_addShifted_22 : decode cX3_addShifted 22 = .ok (.getfield 9, 3) := by decide +kernel
theorem dX3_addShifted_25 : decode cX3_addShifted 25 = .ok (.iload 4, 2) := by decide +kernel
theorem dX3_addShifted_27 : decode cX3_addShifted 27 = .ok (.iload_n 1, 1) := by decide +kernel
theorem dX3_addShifted_28 : decode cX3_addShifted 28 = .ok (.isub, 1) := by decide +kernel
theorem dX3_addShifted_29 : decode cX3_addShifted 29 = .ok (.invokestatic 60, 3) := by decide +kernel
theorem dX3_addShifted_32 : decode cX3_addShifted 32 = .ok (.lload_n 2, 1) := by decide +kernel
theorem dX3_addShifted_33 : decode cX3_addShifted 33 = .ok (.lmul, 1) := by decide +kernel
theorem dX3_addShifted_34 : decode cX3_addShifted 34 = .ok (.ladd, 1) := by decide +kernel
theorem dX3_addShifted_35 : decode cX3_addShifted 35 = .ok (.lastore, 1) := by decide +kernel
theorem dX3_addShifted_36 : decode cX3_addShifted 36 = .ok (.iinc 4 1, 3) := by decide +kernel
theorem dX3_addShifted_39 : decode cX3_addShifted 39 = .ok (.goto (-36), 3) := by decide +kernel
theorem dX3_addShifted_42 : decode cX3_addShifted 42 = .ok (.return_, 1) := by decide +kernel
theorem dX3_waysLeft_0 : decode cX3_waysLeft 0 = .ok (.iload_n 0, 1) := by decide +kernel
theorem dX3_waysLeft_1 : decode cX3_waysLeft 1 = .ok (.iload_n 1, 1) := by decide +kernel
theorem dX3_waysLeft_2 : decode cX3_waysLeft 2 = .ok (.invokestatic 82, 3) := by decide +kernel
theorem dX3_waysLeft_5 : decode cX3_waysLeft 5 = .ok (.iload_n 3, 1) := by decide +kernel
theorem dX3_waysLeft_6 : decode cX3_waysLeft 6 = .ok (.iload_n 2, 1) := by decide +kernel
theorem dX3_waysLeft_7 : decode cX3_waysLeft 7 = .ok (.isub, 1) := by decide +kernel
theorem dX3_waysLeft_8 : decode cX3_waysLeft 8 = .ok (.iload_n 1, 1) := by decide +kernel
theorem dX3_waysLeft_9 : decode cX3_waysLeft 9 = .ok (.invokestatic 86, 3) := by decide +kernel
theorem dX3_waysLeft_12 : decode cX3_waysLeft 12 = .ok (.lmul, 1) := by decide +kernel
theorem dX3_waysLeft_13 : decode cX3_waysLeft 13 = .ok (.iload_n 2, 1) := by decide +kernel
theorem dX3_waysLeft_14 : decode cX3_waysLeft 14 = .ok (.iload_n 0, 1) := by decide +kernel
theorem dX3_waysLeft_15 : decode cX3_waysLeft 15 = .ok (.iload_n 1, 1) := by decide +kernel
theorem dX3_waysLeft_16 : decode cX3_waysLeft 16 = .ok (.isub, 1) := by decide +kernel
theorem dX3_waysLeft_17 : decode cX3_waysLeft 17 = .ok (.invokestatic 86, 3) := by decide +kernel
theorem dX3_waysLeft_20 : decode cX3_waysLeft 20 = .ok (.lmul, 1) := by decide +kernel
theorem dX3_waysLeft_21 : decode cX3_waysLeft 21 = .ok (.lreturn, 1) := by decide +kernel
theorem dX3_begin_0 : decode cX3_begin 0 = .ok (.aload_n 1, 1) := by decide +kernel
theorem dX3_begin_1 : decode cX3_begin 1 = .ok (.getfield 89, 3) := by decide +kernel
theorem dX3_begin_4 : decode cX3_begin 4 = .ok (.aload_n 0, 1) := by decide +kernel
theorem dX3_begin_5 : decode cX3_begin 5 = .ok (.getfield 18, 3) := by decide +kernel
theorem dX3_begin_8 : decode cX3_begin 8 = .ok (.invokestatic 92, 3) := by decide +kernel
theorem dX3_begin_11 : decode cX3_begin 11 = .ok (.iconst 0, 1) := by decide +kernel
theorem dX3_begin_12 : decode cX3_begin 12 = .ok (.istore_n 2, 1) := by decide +kernel
theorem dX3_begin_13 : decode cX3_begin 13 = .ok (.iload_n 2, 1) := by decide +kernel
theorem dX3_begin_14 : decode cX3_begin 14 = .ok (.aload_n 0, 1) := by decide +kernel
theorem dX3_begin_15 : decode cX3_begin 15 = .ok (.getfield 22, 3) := by decide +kernel
theorem dX3_begin_18 : decode cX3_begin 18 = .ok (.arraylength, 1) := by decide +kernel
theorem dX3_begin_19 : decode cX3_begin 19 = .ok (.if_icmp .ge 16, 3) := by decide +kernel
theorem dX3_begin_22 : decode cX3_begin 22 = .ok (.aload_n 0, 1) := by decide +kernel
theorem dX3_begin_23 : decode cX3_begin 23 = .ok (.getfield 22, 3) := by decide +kernel
theorem dX3_begin_26 : decode cX3_begin 26 = .ok (.iload_n 2, 1) := by decide +kernel
theorem dX3_begin_27 : decode cX3_begin 27 = .ok (.iconst 0, 1) := by decide +kernel
theorem dX3_begin_28 : decode cX3_begin 28 = .ok (.bastore, 1) := by decide +kernel
theorem dX3_begin_29 : decode cX3_begin 29 = .ok (.iinc 2 1, 3) := by decide +kernel
theorem dX3_begin_32 : decode cX3_begin 32 = .ok (.goto (-19), 3) := by decide +kernel
theorem dX3_begin_35 : decode cX3_begin 35 = .ok (.aload_n 0, 1) := by decide +kernel
theorem dX3_begin_36 : decode cX3_begin 36 = .ok (.iconst 0, 1) := by decide +kernel
theorem dX3_begin_37 : decode cX3_begin 37 = .ok (.putfield 96, 3) := by decide +kernel
theorem dX3_begin_40 : decode cX3_begin 40 = .ok (.aload_n 0, 1) := by decide +kernel
theorem dX3_begin_41 : decode cX3_begin 41 = .ok (.iconst (-1), 1) := by decide +kernel
theorem dX3_begin_42 : decode cX3_begin 42 = .ok (.putfield 29, 3) := by decide +kernel
theorem dX3_begin_45 : decode cX3_begin 45 = .ok (.return_, 1) := by decide +kernel
theorem dX3_liveUntil_0 : decode cX3_liveUntil 0 = .ok (.aload_n 0, 1) := by decide +kernel
theorem dX3_liveUntil_1 : decode cX3_liveUntil 1 = .ok (.getfield 96, 3) := by decide +kernel
theorem dX3_liveUntil_4 : decode cX3_liveUntil 4 = .ok (.istore_n 3, 1) := by decide +kernel
theorem dX3_liveUntil_5 : decode cX3_liveUntil 5 = .ok (.iload_n 3, 1) := by decide +kernel
theorem dX3_liveUntil_6 : decode cX3_liveUntil 6 = .ok (.iload_n 2, 1) := by decide +kernel
theorem dX3_liveUntil_7 : decode cX3_liveUntil 7 = .ok (.if_icmp .ge 46, 3) := by decide +kernel
theorem dX3_liveUntil_10 : decode cX3_liveUntil 10 = .ok (.iload_n 3, 1) := by decide +kernel
theorem dX3_liveUntil_11 : decode cX3_liveUntil 11 = .ok (.sipush 200, 3) := by decide +kernel
theorem dX3_liveUntil_14 : decode cX3_liveUntil 14 = .ok (.if_icmp .ge 39, 3) := by decide +kernel
theorem dX3_liveUntil_17 : decode cX3_liveUntil 17 = .ok (.aload_n 0, 1) := by decide +kernel
theorem dX3_liveUntil_18 : decode cX3_liveUntil 18 = .ok (.aload_n 1, 1) := by decide +kernel
theorem dX3_liveUntil_19 : decode cX3_liveUntil 19 = .ok (.iload_n 3, 1) := by decide +kernel
theorem dX3_liveUntil_20 : decode cX3_liveUntil 20 = .ok (.invokevirtual 99, 3) := by decide +kernel
theorem dX3_liveUntil_23 : decode cX3_liveUntil 23 = .ok (.aload_n 0, 1) := by decide +kernel
theorem dX3_liveUntil_24 : decode cX3_liveUntil 24 = .ok (.getfield 33, 3) := by decide +kernel
theorem dX3_liveUntil_27 : decode cX3_liveUntil 27 = .ok (.iload_n 3, 1) := by decide +kernel
theorem dX3_liveUntil_28 : decode cX3_liveUntil 28 = .ok (.aload_n 0, 1) := by decide +kernel
theorem dX3_liveUntil_29 : decode cX3_liveUntil 29 = .ok (.getfield 18, 3) := by decide +kernel
theorem dX3_liveUntil_32 : decode cX3_liveUntil 32 = .ok (.invokestatic 103, 3) := by decide +kernel
theorem dX3_liveUntil_35 : decode cX3_liveUntil 35 = .ok (.iastore, 1) := by decide +kernel
theorem dX3_liveUntil_36 : decode cX3_liveUntil 36 = .ok (.aload_n 0, 1) := by decide +kernel
theorem dX3_liveUntil_37 : decode cX3_liveUntil 37 = .ok (.getfield 36, 3) := by decide +kernel
theorem dX3_liveUntil_40 : decode cX3_liveUntil 40 = .ok (.iload_n 3, 1) := by decide +kernel
theorem dX3_liveUntil_41 : decode cX3_liveUntil 41 = .ok (.aload_n 0, 1) := by decide +kernel
theorem dX3_liveUntil_42 : decode cX3_liveUntil 42 = .ok (.aload_n 1, 1) := by decide +kernel
theorem dX3_liveUntil_43 : decode cX3_liveUntil 43 = .ok (.invokevirtual 107, 3) := by decide +kernel
theorem dX3_liveUntil_46 : decode cX3_liveUntil 46 = .ok (.iastore, 1) := by decide +kernel
theorem dX3_liveUntil_47 : decode cX3_liveUntil 47 = .ok (.iinc 3 1, 3) := by decide +kernel
theorem dX3_liveUntil_50 : decode cX3_liveUntil 50 = .ok (.goto (-45), 3) := by decide +kernel
theorem dX3_liveUntil_53 : decode cX3_liveUntil 53 = .ok (.aload_n 0, 1) := by decide +kernel
theorem dX3_liveUntil_54 : decode cX3_liveUntil 54 = .ok (.aload_n 0, 1) := by decide +kernel
theorem dX3_liveUntil_55 : decode cX3_liveUntil 55 = .ok (.getfield 96, 3) := by decide +kernel
theorem dX3_liveUntil_58 : decode cX3_liveUntil 58 = .ok (.iload_n 2, 1) := by decide +kernel
theorem dX3_liveUntil_59 : decode cX3_liveUntil 59 = .ok (.invokestatic 64, 3) := by decide +kernel
theorem dX3_liveUntil_62 : decode cX3_liveUntil 62 = .ok (.putfield 96, 3) := by decide +kernel
theorem dX3_liveUntil_65 : decode cX3_liveUntil 65 = .ok (.return_, 1) := by decide +kernel
theorem dX3_liveWeek_0 : decode cX3_liveWeek 0 = .ok (.iconst 0, 1) := by decide +kernel
theorem dX3_liveWeek_1 : decode cX3_liveWeek 1 = .ok (.istore_n 3, 1) := by decide +kernel
theorem dX3_liveWeek_2 : decode cX3_liveWeek 2 = .ok (.iconst 0, 1) := by decide +kernel
theorem dX3_liveWeek_3 : decode cX3_liveWeek 3 = .ok (.istore 4, 2) := by decide +kernel
theorem dX3_liveWeek_5 : decode cX3_liveWeek 5 = .ok (.iload 4, 2) := by decide +kernel
theorem dX3_liveWeek_7 : decode cX3_liveWeek 7 = .ok (.bipush 8, 2) := by decide +kernel
theorem dX3_liveWeek_9 : decode cX3_liveWeek 9 = .ok (.if_icmp .ge 91, 3) := by decide +kernel
theorem dX3_liveWeek_12 : decode cX3_liveWeek 12 = .ok (.iload_n 3, 1) := by decide +kernel
theorem dX3_liveWeek_13 : decode cX3_liveWeek 13 = .ok (.aload_n 1, 1) := by decide +kernel
theorem dX3_liveWeek_14 : decode cX3_liveWeek 14 = .ok (.getfield 89, 3) := by decide +kernel
theorem dX3_liveWeek_17 : decode cX3_liveWeek 17 = .ok (.iload 4, 2) := by decide +kernel
theorem dX3_liveWeek_19 : decode cX3_liveWeek 19 = .ok (.iaload, 1) := by decide +kernel
theorem dX3_liveWeek_20 : decode cX3_liveWeek 20 = .ok (.iadd, 1) := by decide +kernel
theorem dX3_liveWeek_21 : decode cX3_liveWeek 21 = .ok (.istore 5, 2) := by decide +kernel
theorem dX3_liveWeek_23 : decode cX3_liveWeek 23 = .ok (.iload_n 3, 1) := by decide +kernel
theorem dX3_liveWeek_24 : decode cX3_liveWeek 24 = .ok (.iload 5, 2) := by decide +kernel
theorem dX3_liveWeek_26 : decode cX3_liveWeek 26 = .ok (.if_icmp .ge 68, 3) := by decide +kernel
theorem dX3_liveWeek_29 : decode cX3_liveWeek 29 = .ok (.iload_n 3, 1) := by decide +kernel
theorem dX3_liveWeek_30 : decode cX3_liveWeek 30 = .ok (.aload_n 0, 1) := by decide +kernel
theorem dX3_liveWeek_31 : decode cX3_liveWeek 31 = .ok (.getfield 22, 3) := by decide +kernel
theorem dX3_liveWeek_34 : decode cX3_liveWeek 34 = .ok (.arraylength, 1) := by decide +kernel
theorem dX3_liveWeek_35 : decode cX3_liveWeek 35 = .ok (.if_icmp .ge 59, 3) := by decide +kernel
theorem dX3_liveWeek_38 : decode cX3_liveWeek 38 = .ok (.aload_n 0, 1) := by decide +kernel
theorem dX3_liveWeek_39 : decode cX3_liveWeek 39 = .ok (.aload_n 1, 1) := by decide +kernel
theorem dX3_liveWeek_40 : decode cX3_liveWeek 40 = .ok (.iload_n 2, 1) := by decide +kernel
theorem dX3_liveWeek_41 : decode cX3_liveWeek 41 = .ok (.iload 4, 2) := by decide +kernel
theorem dX3_liveWeek_43 : decode cX3_liveWeek 43 = .ok (.iload_n 3, 1) := by decide +kernel
theorem dX3_liveWeek_44 : decode cX3_liveWeek 44 = .ok (.invokevirtual 111, 3) := by decide +kernel
theorem dX3_liveWeek_47 : decode cX3_liveWeek 47 = .ok (.ifCond .eq 41, 3) := by decide +kernel
theorem dX3_liveWeek_50 : decode cX3_liveWeek 50 = .ok (.aload_n 0, 1) := by decide +kernel
theorem dX3_liveWeek_51 : decode cX3_liveWeek 51 = .ok (.getfield 22, 3) := by decide +kernel
theorem dX3_liveWeek_54 : decode cX3_liveWeek 54 = .ok (.iload_n 3, 1) := by decide +kernel
theorem dX3_liveWeek_55 : decode cX3_liveWeek 55 = .ok (.iconst 1, 1) := by decide +kernel
theorem dX3_liveWeek_56 : decode cX3_liveWeek 56 = .ok (.bastore, 1) := by decide +kernel
theorem dX3_liveWeek_57 : decode cX3_liveWeek 57 = .ok (.aload_n 0, 1) := by decide +kernel
theorem dX3_liveWeek_58 : decode cX3_liveWeek 58 = .ok (.getfield 18, 3) := by decide +kernel
theorem dX3_liveWeek_61 : decode cX3_liveWeek 61 = .ok (.iload 4, 2) := by decide +kernel
theorem dX3_liveWeek_63 : decode cX3_liveWeek 63 = .ok (.dup2, 1) := by decide +kernel
theorem dX3_liveWeek_64 : decode cX3_liveWeek 64 = .ok (.iaload, 1) := by decide +kernel
theorem dX3_liveWeek_65 : decode cX3_liveWeek 65 = .ok (.iconst 1, 1) := by decide +kernel
theorem dX3_liveWeek_66 : decode cX3_liveWeek 66 = .ok (.isub, 1) := by decide +kernel
theorem dX3_liveWeek_67 : decode cX3_liveWeek 67 = .ok (.iastore, 1) := by decide +kernel
theorem dX3_liveWeek_68 : decode cX3_liveWeek 68 = .ok (.aload_n 0, 1) := by decide +kernel
theorem dX3_liveWeek_69 : decode cX3_liveWeek 69 = .ok (.aload_n 0, 1) := by decide +kernel
theorem dX3_liveWeek_70 : decode cX3_liveWeek 70 = .ok (.getfield 29, 3) := by decide +kernel
theorem dX3_liveWeek_73 : decode cX3_liveWeek 73 = .ok (.iconst (-1), 1) := by decide +kernel
theorem dX3_liveWeek_74 : decode cX3_liveWeek 74 = .ok (.if_icmp .ne 7, 3) := by decide +kernel
theorem dX3_liveWeek_77 : decode cX3_liveWeek 77 = .ok (.iload_n 2, 1) := by decide +kernel
theorem dX3_liveWeek_78 : decode cX3_liveWeek 78 = .ok (.goto 7, 3) := by decide +kernel
theorem dX3_liveWeek_81 : decode cX3_liveWeek 81 = .ok (.aload_n 0, 1) := by decide +kernel
theorem dX3_liveWeek_82 : decode cX3_liveWeek 82 = .ok (.getfield 29, 3) := by decide +kernel
theorem dX3_liveWeek_85 : decode cX3_liveWeek 85 = .ok (.putfield 29, 3) := by decide +kernel
theorem dX3_liveWeek_88 : decode cX3_liveWeek 88 = .ok (.iinc 3 1, 3) := by decide +kernel
theorem dX3_liveWeek_91 : decode cX3_liveWeek 91 = .ok (.goto (-68), 3) := by decide +kernel
theorem dX3_liveWeek_94 : decode cX3_liveWeek 94 = .ok (.iinc 4 1, 3) := by decide +kernel
theorem dX3_liveWeek_97 : decode cX3_liveWeek 97 = .ok (.goto (-92), 3) := by decide +kernel
theorem dX3_liveWeek_100 : decode cX3_liveWeek 100 = .ok (.return_, 1) := by decide +kernel
theorem dX3_isLost_0 : decode cX3_isLost 0 = .ok (.iload 4, 2) := by decide +kernel
theorem dX3_isLost_2 : decode cX3_isLost 2 = .ok (.ifCond .lt 23, 3) := by decide +kernel
theorem dX3_isLost_5 : decode cX3_isLost 5 = .ok (.iload 4, 2) := by decide +kernel
theorem dX3_isLost_7 : decode cX3_isLost 7 = .ok (.aload_n 0, 1) := by decide +kernel
theorem dX3_isLost_8 : decode cX3_isLost 8 = .ok (.getfield 22, 3) := by decide +kernel
theorem dX3_isLost_11 : decode cX3_isLost 11 = .ok (.arraylength, 1) := by decide +kernel
theorem dX3_isLost_12 : decode cX3_isLost 12 = .ok (.if_icmp .ge 13, 3) := by decide +kernel
theorem dX3_isLost_15 : decode cX3_isLost 15 = .ok (.aload_n 0, 1) := by decide +kernel
theorem dX3_isLost_16 : decode cX3_isLost 16 = .ok (.getfield 22, 3) := by decide +kernel
theorem dX3_isLost_19 : decode cX3_isLost 19 = .ok (.iload 4, 2) := by decide +kernel
theorem dX3_isLost_21 : decode cX3_isLost 21 = .ok (.baload, 1) := by decide +kernel
theorem dX3_isLost_22 : decode cX3_isLost 22 = .ok (.ifCond .eq 5, 3) := by decide +kernel
theorem dX3_isLost_25 : decode cX3_isLost 25 = .ok (.iconst 0, 1) := by decide +kernel
theorem dX3_isLost_26 : decode cX3_isLost 26 = .ok (.ireturn, 1) := by decide +kernel
theorem dX3_isLost_27 : decode cX3_isLost 27 = .ok (.bipush 20, 2) := by decide +kernel
theorem dX3_isLost_29 : decode cX3_isLost 29 = .ok (.iload_n 2, 1) := by decide +kernel
theorem dX3_isLost_30 : decode cX3_isLost 30 = .ok (.imul, 1) := by decide +kernel
theorem dX3_isLost_31 : decode cX3_isLost 31 = .ok (.iload 4, 2) := by decide +kernel
theorem dX3_isLost_33 : decode cX3_isLost 33 = .ok (.iadd, 1) := by decide +kernel
theorem dX3_isLost_34 : decode cX3_isLost 34 = .ok (.istore 5, 2) := by decide +kernel
theorem dX3_isLost_36 : decode cX3_isLost 36 = .ok (.aload_n 0, 1) := by decide +kernel
theorem dX3_isLost_37 : decode cX3_isLost 37 = .ok (.getfield 26, 3) := by decide +kernel
theorem dX3_isLost_40 : decode cX3_isLost 40 = .ok (.iconst 0, 1) := by decide +kernel
theorem dX3_isLost_41 : decode cX3_isLost 41 = .ok (.iload_n 2, 1) := by decide +kernel
theorem dX3_isLost_42 : decode cX3_isLost 42 = .ok (.invokestatic 115, 3) := by decide +kernel
theorem dX3_isLost_45 : decode cX3_isLost 45 = .ok (.aload_n 0, 1) := by decide +kernel
theorem dX3_isLost_46 : decode cX3_isLost 46 = .ok (.getfield 26, 3) := by decide +kernel
theorem dX3_isLost_49 : decode cX3_isLost 49 = .ok (.iconst 1, 1) := by decide +kernel
theorem dX3_isLost_50 : decode cX3_isLost 50 = .ok (.iload_n 3, 1) := by decide +kernel
theorem dX3_isLost_51 : decode cX3_isLost 51 = .ok (.invokestatic 115, 3) := by decide +kernel
theorem dX3_isLost_54 : decode cX3_isLost 54 = .ok (.aload_n 0, 1) := by decide +kernel
theorem dX3_isLost_55 : decode cX3_isLost 55 = .ok (.getfield 26, 3) := by decide +kernel
theorem dX3_isLost_58 : decode cX3_isLost 58 = .ok (.iconst 2, 1) := by decide +kernel
theorem dX3_isLost_59 : decode cX3_isLost 59 = .ok (.aload_n 0, 1) := by decide +kernel
theorem dX3_isLost_60 : decode cX3_isLost 60 = .ok (.getfield 18, 3) := by decide +kernel
theorem dX3_isLost_63 : decode cX3_isLost 63 = .ok (.iload_n 3, 1) := by decide +kernel
theorem dX3_isLost_64 : decode cX3_isLost 64 = .ok (.invokestatic 44, 3) := by decide +kernel
theorem dX3_isLost_67 : decode cX3_isLost 67 = .ok (.invokestatic 115, 3) := by decide +kernel
theorem dX3_isLost_70 : decode cX3_isLost 70 = .ok (.aload_n 0, 1) := by decide +kernel
theorem dX3_isLost_71 : decode cX3_isLost 71 = .ok (.getfield 26, 3) := by decide +kernel
theorem dX3_isLost_74 : decode cX3_isLost 74 = .ok (.iconst 3, 1) := by decide +kernel
theorem dX3_isLost_75 : decode cX3_isLost 75 = .ok (.aload_n 0, 1) := by decide +kernel
theorem dX3_isLost_76 : decode cX3_isLost 76 = .ok (.getfield 18, 3) := by decide +kernel
theorem dX3_isLost_79 : decode cX3_isLost 79 = .ok (.invokestatic 103, 3) := by decide +kernel
theorem dX3_isLost_82 : decode cX3_isLost 82 = .ok (.invokestatic 115, 3) := by decide +kernel
theorem dX3_isLost_85 : decode cX3_isLost 85 = .ok (.aload_n 0, 1) := by decide +kernel
theorem dX3_isLost_86 : decode cX3_isLost 86 = .ok (.getfield 26, 3) := by decide +kernel
theorem dX3_isLost_89 : decode cX3_isLost 89 = .ok (.iconst 4, 1) := by decide +kernel
theorem dX3_isLost_90 : decode cX3_isLost 90 = .ok (.bipush 100, 2) := by decide +kernel
theorem dX3_isLost_92 : decode cX3_isLost 92 = .ok (.aload_n 1, 1) := by decide +kernel
theorem dX3_isLost_93 : decode cX3_isLost 93 = .ok (.getfield 119, 3) := by decide +kernel
theorem dX3_isLost_96 : decode cX3_isLost 96 = .ok (.iload 5, 2) := by decide +kernel
theorem dX3_isLost_98 : decode cX3_isLost 98 = .ok (.invokestatic 122, 3) := by decide +kernel
theorem dX3_isLost_101 : decode cX3_isLost 101 = .ok (.invokestatic 115, 3) := by decide +kernel
theorem dX3_isLost_104 : decode cX3_isLost 104 = .ok (.sipush 1000, 3) := by decide +kernel
theorem dX3_isLost_107 : decode cX3_isLost 107 = .ok (.aload_n 1, 1) := by decide +kernel
theorem dX3_isLost_108 : decode cX3_isLost 108 = .ok (.getfield 119, 3) := by decide +kernel
theorem dX3_isLost_111 : decode cX3_isLost 111 = .ok (.iload 5, 2) := by decide +kernel
theorem dX3_isLost_113 : decode cX3_isLost 113 = .ok (.invokestatic 122, 3) := by decide +kernel
theorem dX3_isLost_116 : decode cX3_isLost 116 = .ok (.aload_n 1, 1) := by decide +kernel
theorem dX3_isLost_117 : decode cX3_isLost 117 = .ok (.getfield 126, 3) := by decide +kernel
theorem dX3_isLost_120 : decode cX3_isLost 120 = .ok (.aload_n 0, 1) := by decide +kernel
theorem dX3_isLost_121 : decode cX3_isLost 121 = .ok (.getfield 26, 3) := by decide +kernel
theorem dX3_isLost_124 : decode cX3_isLost 124 = .ok (.invokevirtual 130, 3) := by decide +kernel
theorem dX3_isLost_127 : decode cX3_isLost 127 = .ok (.if_icmp .ge 7, 3) := by decide +kernel
theorem dX3_isLost_130 : decode cX3_isLost 130 = .ok (.iconst 1, 1) := by decide +kernel
theorem dX3_isLost_131 : decode cX3_isLost 131 = .ok (.goto 4, 3) := by decide +kernel
theorem dX3_isLost_134 : decode cX3_isLost 134 = .ok (.iconst 0, 1) := by decide +kernel
theorem dX3_isLost_135 : decode cX3_isLost 135 = .ok (.ireturn, 1) := by decide +kernel
theorem dX3_pairsLeft_0 : decode cX3_pairsLeft 0 = .ok (.iconst 0, 1) := by decide +kernel
theorem dX3_pairsLeft_1 : decode cX3_pairsLeft 1 = .ok (.istore_n 2, 1) := by decide +kernel
theorem dX3_pairsLeft_2 : decode cX3_pairsLeft 2 = .ok (.iconst 0, 1) := by decide +kernel
theorem dX3_pairsLeft_3 : decode cX3_pairsLeft 3 = .ok (.istore_n 3, 1) := by decide +kernel
theorem dX3_pairsLeft_4 : decode cX3_pairsLeft 4 = .ok (.iload_n 3, 1) := by decide +kernel
theorem dX3_pairsLeft_5 : decode cX3_pairsLeft 5 = .ok (.bipush 8, 2) := by decide +kernel
theorem dX3_pairsLeft_7 : decode cX3_pairsLeft 7 = .ok (.if_icmp .ge 66, 3) := by decide +kernel
theorem dX3_pairsLeft_10 : decode cX3_pairsLeft 10 = .ok (.aload_n 1, 1) := by decide +kernel
theorem dX3_pairsLeft_11 : decode cX3_pairsLeft 11 = .ok (.getfield 39, 3) := by decide +kernel
theorem dX3_pairsLeft_14 : decode cX3_pairsLeft 14 = .ok (.iload_n 3, 1) := by decide +kernel
theorem dX3_pairsLeft_15 : decode cX3_pairsLeft 15 = .ok (.invokestatic 44, 3) := by decide +kernel
theorem dX3_pairsLeft_18 : decode cX3_pairsLeft 18 = .ok (.istore 4, 2) := by decide +kernel
theorem dX3_pairsLeft_20 : decode cX3_pairsLeft 20 = .ok (.iload_n 3, 1) := by decide +kernel
theorem dX3_pairsLeft_21 : decode cX3_pairsLeft 21 = .ok (.iload 4, 2) := by decide +kernel
theorem dX3_pairsLeft_23 : decode cX3_pairsLeft 23 = .ok (.if_icmp .ne 17, 3) := by decide +kernel
theorem dX3_pairsLeft_26 : decode cX3_pairsLeft 26 = .ok (.iload_n 2, 1) := by decide +kernel
theorem dX3_pairsLeft_27 : decode cX3_pairsLeft 27 = .ok (.aload_n 0, 1) := by decide +kernel
theorem dX3_pairsLeft_28 : decode cX3_pairsLeft 28 = .ok (.getfield 18, 3) := by decide +kernel
theorem dX3_pairsLeft_31 : decode cX3_pairsLeft 31 = .ok (.iload_n 3, 1) := by decide +kernel
theorem dX3_pairsLeft_32 : decode cX3_pairsLeft 32 = .ok (.iaload, 1) := by decide +kernel
theorem dX3_pairsLeft_33 : decode cX3_pairsLeft 33 = .ok (.iconst 2, 1) := by decide +kernel
theorem dX3_pairsLeft_34 : decode cX3_pairsLeft 34 = .ok (.idiv, 1) := by decide +kernel
theorem dX3_pairsLeft_35 : decode cX3_pairsLeft 35 = .ok (.iadd, 1) := by decide +kernel
theorem dX3_pairsLeft_36 : decode cX3_pairsLeft 36 = .ok (.istore_n 2, 1) := by decide +kernel
theorem dX3_pairsLeft_37 : decode cX3_pairsLeft 37 = .ok (.goto 30, 3) := by decide +kernel
theorem dX3_pairsLeft_40 : decode cX3_pairsLeft 40 = .ok (.iload_n 3, 1) := by decide +kernel
theorem dX3_pairsLeft_41 : decode cX3_pairsLeft 41 = .ok (.iload 4, 2) := by decide +kernel
theorem dX3_pairsLeft_43 : decode cX3_pairsLeft 43 = .ok (.if_icmp .ge 24, 3) := by decide +kernel
theorem dX3_pairsLeft_46 : decode cX3_pairsLeft 46 = .ok (.iload_n 2, 1) := by decide +kernel
theorem dX3_pairsLeft_47 : decode cX3_pairsLeft 47 = .ok (.aload_n 0, 1) := by decide +kernel
theorem dX3_pairsLeft_48 : decode cX3_pairsLeft 48 = .ok (.getfield 18, 3) := by decide +kernel
theorem dX3_pairsLeft_51 : decode cX3_pairsLeft 51 = .ok (.iload_n 3, 1) := by decide +kernel
theorem dX3_pairsLeft_52 : decode cX3_pairsLeft 52 = .ok (.iaload, 1) := by decide +kernel
theorem dX3_pairsLeft_53 : decode cX3_pairsLeft 53 = .ok (.aload_n 0, 1) := by decide +kernel
theorem dX3_pairsLeft_54 : decode cX3_pairsLeft 54 = .ok (.getfield 18, 3) := by decide +kernel
theorem dX3_pairsLeft_57 : decode cX3_pairsLeft 57 = .ok (.iload 4, 2) := by decide +kernel
theorem dX3_pairsLeft_59 : decode cX3_pairsLeft 59 = .ok (.invokestatic 44, 3) := by decide +kernel
theorem dX3_pairsLeft_62 : decode cX3_pairsLeft 62 = .ok (.invokestatic 135, 3) := by decide +kernel
theorem dX3_pairsLeft_65 : decode cX3_pairsLeft 65 = .ok (.iadd, 1) := by decide +kernel
theorem dX3_pairsLeft_66 : decode cX3_pairsLeft 66 = .ok (.istore_n 2, 1) := by decide +kernel
theorem dX3_pairsLeft_67 : decode cX3_pairsLeft 67 = .ok (.iinc 3 1, 3) := by decide +kernel
theorem dX3_pairsLeft_70 : decode cX3_pairsLeft 70 = .ok (.goto (-66), 3) := by decide +kernel
theorem dX3_pairsLeft_73 : decode cX3_pairsLeft 73 = .ok (.iload_n 2, 1) := by decide +kernel
theorem dX3_pairsLeft_74 : decode cX3_pairsLeft 74 = .ok (.ireturn, 1) := by decide +kernel
theorem dX4_init_0 : decode cX4_init 0 = .ok (.aload_n 0, 1) := by decide +kernel
theorem dX4_init_1 : decode cX4_init 1 = .ok (.invokespecial 3, 3) := by decide +kernel
theorem dX4_init_4 : decode cX4_init 4 = .ok (.aload_n 0, 1) := by decide +kernel
theorem dX4_init_5 : decode cX4_init 5 = .ok (.new 9, 3) := by decide +kernel
theorem dX4_init_8 : decode cX4_init 8 = .ok (.dup, 1) := by decide +kernel
theorem dX4_init_9 : decode cX4_init 9 = .ok (.invokespecial 11, 3) := by decide +kernel
theorem dX4_init_12 : decode cX4_init 12 = .ok (.putfield 12, 3) := by decide +kernel
theorem dX4_init_15 : decode cX4_init 15 = .ok (.aload_n 0, 1) := by decide +kernel
theorem dX4_init_16 : decode cX4_init 16 = .ok (.sipush 1024, 3) := by decide +kernel
theorem dX4_init_19 : decode cX4_init 19 = .ok (.newarray .int, 2) := by decide +kernel
theorem dX4_init_21 : decode cX4_init 21 = .ok (.putfield 18, 3) := by decide +kernel
theorem dX4_init_24 : decode cX4_init 24 = .ok (.return_, 1) := by decide +kernel
theorem dX4_pairUp_0 : decode cX4_pairUp 0 = .ok (.aload_n 0, 1) := by decide +kernel
theorem dX4_pairUp_1 : decode cX4_pairUp 1 = .ok (.getfield 12, 3) := by decide +kernel
theorem dX4_pairUp_4 : decode cX4_pairUp 4 = .ok (.aload_n 1, 1) := by decide +kernel
theorem dX4_pairUp_5 : decode cX4_pairUp 5 = .ok (.invokevirtual 22, 3) := by decide +kernel
theorem dX4_pairUp_8 : decode cX4_pairUp 8 = .ok (.aload_n 0, 1) := by decide +kernel
theorem dX4_pairUp_9 : decode cX4_pairUp 9 = .ok (.getfield 18, 3) := by decide +kernel
theorem dX4_pairUp_12 : decode cX4_pairUp 12 = .ok (.iconst 0, 1) := by decide +kernel
theorem dX4_pairUp_13 : decode cX4_pairUp 13 = .ok (.iconst 0, 1) := by decide +kernel
theorem dX4_pairUp_14 : decode cX4_pairUp 14 = .ok (.iastore, 1) := by decide +kernel
theorem dX4_pairUp_15 : decode cX4_pairUp 15 = .ok (.iconst 1, 1) := by decide +kernel
theorem dX4_pairUp_16 : decode cX4_pairUp 16 = .ok (.istore_n 3, 1) := by decide +kernel
theorem dX4_pairUp_17 : decode cX4_pairUp 17 = .ok (.iload_n 3, 1) := by decide +kernel
theorem dX4_pairUp_18 : decode cX4_pairUp 18 = .ok (.aload_n 0, 1) := by decide +kernel
theorem dX4_pairUp_19 : decode cX4_pairUp 19 = .ok (.getfield 12, 3) := by decide +kernel
theorem dX4_pairUp_22 : decode cX4_pairUp 22 = .ok (.getfield 26, 3) := by decide +kernel
theorem dX4_pairUp_25 : decode cX4_pairUp 25 = .ok (.if_icmp .ge 37, 3) := by decide +kernel
theorem dX4_pairUp_28 : decode cX4_pairUp 28 = .ok (.iload_n 3, 1) := by decide +kernel
theorem dX4_pairUp_29 : decode cX4_pairUp 29 = .ok (.aload_n 0, 1) := by decide +kernel
theorem dX4_pairUp_30 : decode cX4_pairUp 30 = .ok (.getfield 18, 3) := by decide +kernel
theorem dX4_pairUp_33 : decode cX4_pairUp 33 = .ok (.arraylength, 1) := by decide +kernel
theorem dX4_pairUp_34 : decode cX4_pairUp 34 = .ok (.if_icmp .ge 28, 3) := by decide +kernel
theorem dX4_pairUp_37 : decode cX4_pairUp 37 = .ok (.aload_n 0, 1) := by decide +kernel
theorem dX4_pairUp_38 : decode cX4_pairUp 38 = .ok (.getfield 12, 3) := by decide +kernel
theorem dX4_pairUp_41 : decode cX4_pairUp 41 = .ok (.invokevirtual 30, 3) := by decide +kernel
theorem dX4_pairUp_44 : decode cX4_pairUp 44 = .ok (.aload_n 0, 1) := by decide +kernel
theorem dX4_pairUp_45 : decode cX4_pairUp 45 = .ok (.getfield 18, 3) := by decide +kernel
theorem dX4_pairUp_48 : decode cX4_pairUp 48 = .ok (.iload_n 3, 1) := by decide +kernel
theorem dX4_pairUp_49 : decode cX4_pairUp 49 = .ok (.aload_n 0, 1) := by decide +kernel
theorem dX4_pairUp_50 : decode cX4_pairUp 50 = .ok (.iload_n 3, 1) := by decide +kernel
theorem dX4_pairUp_51 : decode cX4_pairUp 51 = .ok (.aload_n 2, 1) := by decide +kernel
theorem dX4_pairUp_52 : decode cX4_pairUp 52 = .ok (.invokevirtual 33, 3) := by decide +kernel
theorem dX4_pairUp_55 : decode cX4_pairUp 55 = .ok (.iastore, 1) := by decide +kernel
theorem dX4_pairUp_56 : decode cX4_pairUp 56 = .ok (.iinc 3 1, 3) := by decide +kernel
theorem dX4_pairUp_59 : decode cX4_pairUp 59 = .ok (.goto (-42), 3) := by decide +kernel
theorem dX4_pairUp_62 : decode cX4_pairUp 62 = .ok (.aload_n 0, 1) := by decide +kernel
theorem dX4_pairUp_63 : decode cX4_pairUp 63 = .ok (.getfield 18, 3) := by decide +kernel
theorem dX4_pairUp_66 : decode cX4_pairUp 66 = .ok (.aload_n 0, 1) := by decide +kernel
theorem dX4_pairUp_67 : decode cX4_pairUp 67 = .ok (.getfield 12, 3) := by decide +kernel
theorem dX4_pairUp_70 : decode cX4_pairUp 70 = .ok (.getfield 26, 3) := by decide +kernel
theorem dX4_pairUp_73 : decode cX4_pairUp 73 = .ok (.iconst 1, 1) := by decide +kernel
theorem dX4_pairUp_74 : decode cX4_pairUp 74 = .ok (.isub, 1) := by decide +kernel
theorem dX4_pairUp_75 : decode cX4_pairUp 75 = .ok (.invokestatic 37, 3) := by decide +kernel
theorem dX4_pairUp_78 : decode cX4_pairUp 78 = .ok (.istore_n 3, 1) := by decide +kernel
theorem dX4_pairUp_79 : decode cX4_pairUp 79 = .ok (.aload_n 0, 1) := by decide +kernel
theorem dX4_pairUp_80 : decode cX4_pairUp 80 = .ok (.iload_n 3, 1) := by decide +kernel
theorem dX4_pairUp_81 : decode cX4_pairUp 81 = .ok (.sipush 10000, 3) := by decide +kernel
theorem dX4_pairUp_84 : decode cX4_pairUp 84 = .ok (.iadd, 1) := by decide +kernel
theorem dX4_pairUp_85 : decode cX4_pairUp 85 = .ok (.iconst 1, 1) := by decide +kernel
theorem dX4_pairUp_86 : decode cX4_pairUp 86 = .ok (.isub, 1) := by decide +kernel
theorem dX4_pairUp_87 : decode cX4_pairUp 87 = .ok (.sipush 10000, 3) := by decide +kernel
theorem dX4_pairUp_90 : decode cX4_pairUp 90 = .ok (.idiv, 1) := by decide +kernel
theorem dX4_pairUp_91 : decode cX4_pairUp 91 = .ok (.putfield 41, 3) := by decide +kernel
theorem dX4_pairUp_94 : decode cX4_pairUp 94 = .ok (.aload_n 0, 1) := by decide +kernel
theorem dX4_pairUp_95 : decode cX4_pairUp 95 = .ok (.aload_n 0, 1) := by decide +kernel
theorem dX4_pairUp_96 : decode cX4_pairUp 96 = .ok (.getfield 41, 3) := by decide +kernel
theorem dX4_pairUp_99 : decode cX4_pairUp 99 = .ok (.sipush 10000, 3) := by decide +kernel
theorem dX4_pairUp_102 : decode cX4_pairUp 102 = .ok (.imul, 1) := by decide +kernel
theorem dX4_pairUp_103 : decode cX4_pairUp 103 = .ok (.iload_n 3, 1) := by decide +kernel
theorem dX4_pairUp_104 : decode cX4_pairUp 104 = .ok (.isub, 1) := by decide +kernel
theorem dX4_pairUp_105 : decode cX4_pairUp 105 = .ok (.putfield 44, 3) := by decide +kernel
theorem dX4_pairUp_108 : decode cX4_pairUp 108 = .ok (.return_, 1) := by decide +kernel
theorem dX4_bestWorth_0 : decode cX4_bestWorth 0 = .ok (.iconst 0, 1) := by decide +kernel
theorem dX4_bestWorth_1 : decode cX4_bestWorth 1 = .ok (.istore_n 3, 1) := by decide +kernel
theorem dX4_bestWorth_2 : decode cX4_bestWorth 2 = .ok (.iload_n 3, 1) := by decide +kernel
theorem dX4_bestWorth_3 : decode cX4_bestWorth 3 = .ok (.bipush 7, 2) := by decide +kernel
theorem dX4_bestWorth_5 : decode cX4_bestWorth 5 = .ok (.if_icmp .ge 21, 3) := by decide +kernel
theorem dX4_bestWorth_8 : decode cX4_bestWorth 8 = .ok (.aload_n 0, 1) := by decide +kernel
theorem dX4_bestWorth_9 : decode cX4_bestWorth 9 = .ok (.getfield 12, 3) := by decide +kernel
theorem dX4_bestWorth_12 : decode cX4_bestWorth 12 = .ok (.getfield 47, 3) := by decide +kernel
theorem dX4_bestWorth_15 : decode cX4_bestWorth 15 = .ok (.iload_n 3, 1) := by decide +kernel
theorem dX4_bestWorth_16 : decode cX4_bestWorth 16 = .ok (.iaload, 1) := by decide +kernel
theorem dX4_bestWorth_17 : decode cX4_bestWorth 17 = .ok (.ifCond .ne 9, 3) := by decide +kernel
theorem dX4_bestWorth_20 : decode cX4_bestWorth 20 = .ok (.iinc 3 1, 3) := by decide +kernel
theorem dX4_bestWorth_23 : decode cX4_bestWorth 23 = .ok (.goto (-21), 3) := by decide +kernel
theorem dX4_bestWorth_26 : decode cX4_bestWorth 26 = .ok (.iload_n 1, 1) := by decide +kernel
theorem dX4_bestWorth_27 : decode cX4_bestWorth 27 = .ok (.aload_n 0, 1) := by decide +kernel
theorem dX4_bestWorth_28 : decode cX4_bestWorth 28 = .ok (.getfield 12, 3) := by decide +kernel
theorem dX4_bestWorth_31 : decode cX4_bestWorth 31 = .ok (.getfield 50, 3) := by decide +kernel
theorem dX4_bestWorth_34 : decode cX4_bestWorth 34 = .ok (.iload_n 3, 1) := by decide +kernel
theorem dX4_bestWorth_35 : decode cX4_bestWorth 35 = .ok (.invokestatic 37, 3) := by decide +kernel
theorem dX4_bestWorth_38 : decode cX4_bestWorth 38 = .ok (.isub, 1) := by decide +kernel
theorem dX4_bestWorth_39 : decode cX4_bestWorth 39 = .ok (.istore 4, 2) := by decide +kernel
theorem dX4_bestWorth_41 : decode cX4_bestWorth 41 = .ok (.aload_n 0, 1) := by decide +kernel
theorem dX4_bestWorth_42 : decode cX4_bestWorth 42 = .ok (.getfield 18, 3) := by decide +kernel
theorem dX4_bestWorth_45 : decode cX4_bestWorth 45 = .ok (.iload 4, 2) := by decide +kernel
theorem dX4_bestWorth_47 : decode cX4_bestWorth 47 = .ok (.invokestatic 37, 3) := by decide +kernel
theorem dX4_bestWorth_50 : decode cX4_bestWorth 50 = .ok (.istore 5, 2) := by decide +kernel
theorem dX4_bestWorth_52 : decode cX4_bestWorth 52 = .ok (.iload_n 3, 1) := by decide +kernel
theorem dX4_bestWorth_53 : decode cX4_bestWorth 53 = .ok (.istore 6, 2) := by decide +kernel
theorem dX4_bestWorth_55 : decode cX4_bestWorth 55 = .ok (.iload 6, 2) := by decide +kernel
theorem dX4_bestWorth_57 : decode cX4_bestWorth 57 = .ok (.bipush 8, 2) := by decide +kernel
theorem dX4_bestWorth_59 : decode cX4_bestWorth 59 = .ok (.if_icmp .ge 91, 3) := by decide +kernel
theorem dX4_bestWorth_62 : decode cX4_bestWorth 62 = .ok (.aload_n 0, 1) := by decide +kernel
theorem dX4_bestWorth_63 : decode cX4_bestWorth 63 = .ok (.getfield 12, 3) := by decide +kernel
theorem dX4_bestWorth_66 : decode cX4_bestWorth 66 = .ok (.getfield 47, 3) := by decide +kernel
theorem dX4_bestWorth_69 : decode cX4_bestWorth 69 = .ok (.iload 6, 2) := by decide +kernel
theorem dX4_bestWorth_71 : decode cX4_bestWorth 71 = .ok (.iaload, 1) := by decide +kernel
theorem dX4_bestWorth_72 : decode cX4_bestWorth 72 = .ok (.iload 6, 2) := by decide +kernel
theorem dX4_bestWorth_74 : decode cX4_bestWorth 74 = .ok (.iload_n 3, 1) := by decide +kernel
theorem dX4_bestWorth_75 : decode cX4_bestWorth 75 = .ok (.if_icmp .ne 7, 3) := by decide +kernel
theorem dX4_bestWorth_78 : decode cX4_bestWorth 78 = .ok (.iconst 1, 1) := by decide +kernel
theorem dX4_bestWorth_79 : decode cX4_bestWorth 79 = .ok (.goto 4, 3) := by decide +kernel
theorem dX4_bestWorth_82 : decode cX4_bestWorth 82 = .ok (.iconst 0, 1) := by decide +kernel
theorem dX4_bestWorth_83 : decode cX4_bestWorth 83 = .ok (.isub, 1) := by decide +kernel
theorem dX4_bestWorth_84 : decode cX4_bestWorth 84 = .ok (.istore 7, 2) := by decide +kernel
theorem dX4_bestWorth_86 : decode cX4_bestWorth 86 = .ok (.iload 7, 2) := by decide +kernel
theorem dX4_bestWorth_88 : decode cX4_bestWorth 88 = .ok (.ifCond .le 56, 3) := by decide +kernel
theorem dX4_bestWorth_91 : decode cX4_bestWorth 91 = .ok (.aload_n 2, 1) := by decide +kernel
theorem dX4_bestWorth_92 : decode cX4_bestWorth 92 = .ok (.iload_n 3, 1) := by decide +kernel
theorem dX4_bestWorth_93 : decode cX4_bestWorth 93 = .ok (.iload 6, 2) := by decide +kernel
theorem dX4_bestWorth_95 : decode cX4_bestWorth 95 = .ok (.invokestatic 53, 3) := by decide +kernel
theorem dX4_bestWorth_98 : decode cX4_bestWorth 98 = .ok (.ifCond .eq 46, 3) := by decide +kernel
theorem dX4_bestWorth_101 : decode cX4_bestWorth 101 = .ok (.aload_n 0, 1) := by decide +kernel
theorem dX4_bestWorth_102 : decode cX4_bestWorth 102 = .ok (.getfield 18, 3) := by decide +kernel
theorem dX4_bestWorth_105 : decode cX4_bestWorth 105 = .ok (.iload 4, 2) := by decide +kernel
theorem dX4_bestWorth_107 : decode cX4_bestWorth 107 = .ok (.aload_n 0, 1) := by decide +kernel
theorem dX4_bestWorth_108 : decode cX4_bestWorth 108 = .ok (.getfield 12, 3) := by decide +kernel
theorem dX4_bestWorth_111 : decode cX4_bestWorth 111 = .ok (.getfield 50, 3) := by decide +kernel
theorem dX4_bestWorth_114 : decode cX4_bestWorth 114 = .ok (.iload 6, 2) := by decide +kernel
theorem dX4_bestWorth_116 : decode cX4_bestWorth 116 = .ok (.iaload, 1) := by decide +kernel
theorem dX4_bestWorth_117 : decode cX4_bestWorth 117 = .ok (.isub, 1) := by decide +kernel
theorem dX4_bestWorth_118 : decode cX4_bestWorth 118 = .ok (.invokestatic 37, 3) := by decide +kernel
theorem dX4_bestWorth_121 : decode cX4_bestWorth 121 = .ok (.sipush 10000, 3) := by decide +kernel
theorem dX4_bestWorth_124 : decode cX4_bestWorth 124 = .ok (.iadd, 1) := by decide +kernel
theorem dX4_bestWorth_125 : decode cX4_bestWorth 125 = .ok (.aload_n 2, 1) := by decide +kernel
theorem dX4_bestWorth_126 : decode cX4_bestWorth 126 = .ok (.iload_n 3, 1) := by decide +kernel
theorem dX4_bestWorth_127 : decode cX4_bestWorth 127 = .ok (.iload 6, 2) := by decide +kernel
theorem dX4_bestWorth_129 : decode cX4_bestWorth 129 = .ok (.invokestatic 57, 3) := by decide +kernel
theorem dX4_bestWorth_132 : decode cX4_bestWorth 132 = .ok (.isub, 1) := by decide +kernel
theorem dX4_bestWorth_133 : decode cX4_bestWorth 133 = .ok (.istore 8, 2) := by decide +kernel
theorem dX4_bestWorth_135 : decode cX4_bestWorth 135 = .ok (.iload 5, 2) := by decide +kernel
theorem dX4_bestWorth_137 : decode cX4_bestWorth 137 = .ok (.iload 8, 2) := by decide +kernel
theorem dX4_bestWorth_139 : decode cX4_bestWorth 139 = .ok (.invokestatic 61, 3) := by decide +kernel
theorem dX4_bestWorth_142 : decode cX4_bestWorth 142 = .ok (.istore 5, 2) := by decide +kernel
theorem dX4_bestWorth_144 : decode cX4_bestWorth 144 = .ok (.iinc 6 1, 3) := by decide +kernel
theorem dX4_bestWorth_147 : decode cX4_bestWorth 147 = .ok (.goto (-92), 3) := by decide +kernel
theorem dX4_bestWorth_150 : decode cX4_bestWorth 150 = .ok (.iload 5, 2) := by decide +kernel
theorem dX4_bestWorth_152 : decode cX4_bestWorth 152 = .ok (.ireturn, 1) := by decide +kernel
theorem dX4_canPair_0 : decode cX4_canPair 0 = .ok (.aload_n 0, 1) := by decide +kernel
theorem dX4_canPair_1 : decode cX4_canPair 1 = .ok (.iload_n 1, 1) := by decide +kernel
theorem dX4_canPair_2 : decode cX4_canPair 2 = .ok (.invokestatic 67, 3) := by decide +kernel
theorem dX4_canPair_5 : decode cX4_canPair 5 = .ok (.aload_n 0, 1) := by decide +kernel
theorem dX4_canPair_6 : decode cX4_canPair 6 = .ok (.iload_n 2, 1) := by decide +kernel
theorem dX4_canPair_7 : decode cX4_canPair 7 = .ok (.invokestatic 67, 3) := by decide +kernel
theorem dX4_canPair_10 : decode cX4_canPair 10 = .ok (.iadd, 1) := by decide +kernel
theorem dX4_canPair_11 : decode cX4_canPair 11 = .ok (.ifCond .ne 20, 3) := by decide +kernel
theorem dX4_canPair_14 : decode cX4_canPair 14 = .ok (.aload_n 0, 1) := by decide +kernel
theorem dX4_canPair_15 : decode cX4_canPair 15 = .ok (.iload_n 1, 1) := by decide +kernel
theorem dX4_canPair_16 : decode cX4_canPair 16 = .ok (.iload_n 2, 1) := by decide +kernel
theorem dX4_canPair_17 : decode cX4_canPair 17 = .ok (.invokestatic 57, 3) := by decide +kernel
theorem dX4_canPair_20 : decode cX4_canPair 20 = .ok (.aload_n 0, 1) := by decide +kernel
theorem dX4_canPair_21 : decode cX4_canPair 21 = .ok (.getfield 71, 3) := by decide +kernel
theorem dX4_canPair_24 : decode cX4_canPair 24 = .ok (.if_icmp .gt 7, 3) := by decide +kernel
theorem dX4_canPair_27 : decode cX4_canPair 27 = .ok (.iconst 1, 1) := by decide +kernel
theorem dX4_canPair_28 : decode cX4_canPair 28 = .ok (.goto 4, 3) := by decide +kernel
theorem dX4_canPair_31 : decode cX4_canPair 31 = .ok (.iconst 0, 1) := by decide +kernel
theorem dX4_canPair_32 : decode cX4_canPair 32 = .ok (.ireturn, 1) := by decide +kernel
theorem dX4_sideOf_0 : decode cX4_sideOf 0 = .ok (.iload_n 1, 1) := by decide +kernel
theorem dX4_sideOf_1 : decode cX4_sideOf 1 = .ok (.aload_n 0, 1) := by decide +kernel
theorem dX4_sideOf_2 : decode cX4_sideOf 2 = .ok (.getfield 76, 3) := by decide +kernel
theorem dX4_sideOf_5 : decode cX4_sideOf 5 = .ok (.iload_n 1, 1) := by decide +kernel
theorem dX4_sideOf_6 : decode cX4_sideOf 6 = .ok (.invokestatic 37, 3) := by decide +kernel
theorem dX4_sideOf_9 : decode cX4_sideOf 9 = .ok (.invokestatic 79, 3) := by decide +kernel
theorem dX4_sideOf_12 : decode cX4_sideOf 12 = .ok (.ireturn, 1) := by decide +kernel
theorem dX4_unlikeKinds_0 : decode cX4_unlikeKinds 0 = .ok (.aload_n 0, 1) := by decide +kernel
theorem dX4_unlikeKinds_1 : decode cX4_unlikeKinds 1 = .ok (.aload_n 0, 1) := by decide +kernel
theorem dX4_unlikeKinds_2 : decode cX4_unlikeKinds 2 = .ok (.getfield 84, 3) := by decide +kernel
theorem dX4_unlikeKinds_5 : decode cX4_unlikeKinds 5 = .ok (.iload_n 1, 1) := by decide +kernel
theorem dX4_unlikeKinds_6 : decode cX4_unlikeKinds 6 = .ok (.invokestatic 37, 3) := by decide +kernel
theorem dX4_unlikeKinds_9 : decode cX4_unlikeKinds 9 = .ok (.aload_n 0, 1) := by decide +kernel
theorem dX4_unlikeKinds_10 : decode cX4_unlikeKinds 10 = .ok (.getfield 84, 3) := by decide +kernel
theorem dX4_unlikeKinds_13 : decode cX4_unlikeKinds 13 = .ok (.iload_n 2, 1) := by decide +kernel
theorem dX4_unlikeKinds_14 : decode cX4_unlikeKinds 14 = .ok (.invokestatic 37, 3) := by decide +kernel
theorem dX4_unlikeKinds_17 : decode cX4_unlikeKinds 17 = .ok (.invokevirtual 87, 3) := by decide +kernel
theorem dX4_unlikeKinds_20 : decode cX4_unlikeKinds 20 = .ok (.ireturn, 1) := by decide +kernel
theorem dX5_init_0 : decode cX5_init 0 = .ok (.aload_n 0, 1) := by decide +kernel
theorem dX5_init_1 : decode cX5_init 1 = .ok (.invokespecial 3, 3) := by decide +kernel
theorem dX5_init_4 : decode cX5_init 4 = .ok (.aload_n 0, 1) := by decide +kernel
theorem dX5_init_5 : decode cX5_init 5 = .ok (.bipush 8, 2) := by decide +kernel
theorem dX5_init_7 : decode cX5_init 7 = .ok (.newarray .int, 2) := by decide +kernel
theorem dX5_init_9 : decode cX5_init 9 = .ok (.putfield 9, 3) := by decide +kernel
theorem dX5_init_12 : decode cX5_init 12 = .ok (.aload_n 0, 1) := by decide +kernel
theorem dX5_init_13 : decode cX5_init 13 = .ok (.bipush 8, 2) := by decide +kernel
theorem dX5_init_15 : decode cX5_init 15 = .ok (.newarray .int, 2) := by decide +kernel
theorem dX5_init_17 : decode cX5_init 17 = .ok (.putfield 15, 3) := by decide +kernel
theorem dX5_init_20 : decode cX5_init 20 = .ok (.aload_n 0, 1) := by decide +kernel
theorem dX5_init_21 : decode cX5_init 21 = .ok (.bipush 8, 2) := by decide +kernel
theorem dX5_init_23 : decode cX5_init 23 = .ok (.newarray .int, 2) := by decide +kernel
theorem dX5_init_25 : decode cX5_init 25 = .ok (.putfield 18, 3) := by decide +kernel
theorem dX5_init_28 : decode cX5_init 28 = .ok (.aload_n 0, 1) := by decide +kernel
theorem dX5_init_29 : decode cX5_init 29 = .ok (.new 21, 3) := by decide +kernel
theorem dX5_init_32 : decode cX5_init 32 = .ok (.dup, 1) := by decide +kernel
theorem dX5_init_33 : decode cX5_init 33 = .ok (.invokespecial 23, 3) := by decide +kernel
theorem dX5_init_36 : decode cX5_init 36 = .ok (.putfield 24, 3) := by decide +kernel
theorem dX5_init_39 : decode cX5_init 39 = .ok (.aload_n 0, 1) := by decide +kernel
theorem dX5_init_40 : decode cX5_init 40 = .ok (.sipush 11664, 3) := by decide +kernel
theorem dX5_init_43 : decode cX5_init 43 = .ok (.newarray .long, 2) := by decide +kernel
theorem dX5_init_45 : decode cX5_init 45 = .ok (.putfield 28, 3) := by decide +kernel
theorem dX5_init_48 : decode cX5_init 48 = .ok (.aload_n 0, 1) := by decide +kernel
theorem dX5_init_49 : decode cX5_init 49 = .ok (.bipush 19, 2) := by decide +kernel
theorem dX5_init_51 : decode cX5_init 51 = .ok (.newarray .long, 2) := by decide +kernel
theorem dX5_init_53 : decode cX5_init 53 = .ok (.putfield 32, 3) := by decide +kernel
theorem dX5_init_56 : decode cX5_init 56 = .ok (.aload_n 0, 1) := by decide +kernel
theorem dX5_init_57 : decode cX5_init 57 = .ok (.invokevirtual 35, 3) := by decide +kernel
theorem dX5_init_60 : decode cX5_init 60 = .ok (.return_, 1) := by decide +kernel
theorem dX5_look_0 : decode cX5_look 0 = .ok (.aload_n 0, 1) := by decide +kernel
theorem dX5_look_1 : decode cX5_look 1 = .ok (.getfield 9, 3) := by decide +kernel
theorem dX5_look_4 : decode cX5_look 4 = .ok (.aload_n 1, 1) := by decide +kernel
theorem dX5_look_5 : decode cX5_look 5 = .ok (.getfield 38, 3) := by decide +kernel
theorem dX5_look_8 : decode cX5_look 8 = .ok (.invokestatic 41, 3) := by decide +kernel
theorem dX5_look_11 : decode cX5_look 11 = .ok (.ifCond .eq 35, 3) := by decide +kernel
theorem dX5_look_14 : decode cX5_look 14 = .ok (.aload_n 0, 1) := by decide +kernel
theorem dX5_look_15 : decode cX5_look 15 = .ok (.getfield 15, 3) := by decide +kernel
theorem dX5_look_18 : decode cX5_look 18 = .ok (.aload_n 1, 1) := by decide +kernel
theorem dX5_look_19 : decode cX5_look 19 = .ok (.getfield 45, 3) := by decide +kernel
theorem dX5_look_22 : decode cX5_look 22 = .ok (.invokestatic 41, 3) := by decide +kernel
theorem dX5_look_25 : decode cX5_look 25 = .ok (.ifCond .eq 21, 3) := by decide +kernel
theorem dX5_look_28 : decode cX5_look 28 = .ok (.aload_n 0, 1) := by decide +kernel
theorem dX5_look_29 : decode cX5_look 29 = .ok (.getfield 18, 3) := by decide +kernel
theorem dX5_look_32 : decode cX5_look 32 = .ok (.aload_n 2, 1) := by decide +kernel
theorem dX5_look_33 : decode cX5_look 33 = .ok (.getfield 46, 3) := by decide +kernel
theorem dX5_look_36 : decode cX5_look 36 = .ok (.invokestatic 41, 3) := by decide +kernel
theorem dX5_look_39 : decode cX5_look 39 = .ok (.ifCond .eq 7, 3) := by decide +kernel
theorem dX5_look_42 : decode cX5_look 42 = .ok (.iconst 1, 1) := by decide +kernel
theorem dX5_look_43 : decode cX5_look 43 = .ok (.goto 4, 3) := by decide +kernel
theorem dX5_look_46 : decode cX5_look 46 = .ok (.iconst 0, 1) := by decide +kernel
theorem dX5_look_47 : decode cX5_look 47 = .ok (.istore_n 3, 1) := by decide +kernel
theorem dX5_look_48 : decode cX5_look 48 = .ok (.iload_n 3, 1) := by decide +kernel
theorem dX5_look_49 : decode cX5_look 49 = .ok (.ifCond .eq 4, 3) := by decide +kernel
theorem dX5_look_52 : decode cX5_look 52 = .ok (.return_, 1) := by decide +kernel
theorem dX5_look_53 : decode cX5_look 53 = .ok (.aload_n 1, 1) := by decide +kernel
theorem dX5_look_54 : decode cX5_look 54 = .ok (.getfield 38, 3) := by decide +kernel
theorem dX5_look_57 : decode cX5_look 57 = .ok (.aload_n 0, 1) := by decide +kernel
theorem dX5_look_58 : decode cX5_look 58 = .ok (.getfield 9, 3) := by decide +kernel
theorem dX5_look_61 : decode cX5_look 61 = .ok (.invokestatic 49, 3) := by decide +kernel
theorem dX5_look_64 : decode cX5_look 64 = .ok (.aload_n 1, 1) := by decide +kernel
theorem dX5_look_65 : decode cX5_look 65 = .ok (.getfield 45, 3) := by decide +kernel
theorem dX5_look_68 : decode cX5_look 68 = .ok (.aload_n 0, 1) := by decide +kernel
theorem dX5_look_69 : decode cX5_look 69 = .ok (.getfield 15, 3) := by decide +kernel
theorem dX5_look_72 : decode cX5_look 72 = .ok (.invokestatic 49, 3) := by decide +kernel
theorem dX5_look_75 : decode cX5_look 75 = .ok (.aload_n 2, 1) := by decide +kernel
theorem dX5_look_76 : decode cX5_look 76 = .ok (.getfield 46, 3) := by decide +kernel
theorem dX5_look_79 : decode cX5_look 79 = .ok (.aload_n 0, 1) := by decide +kernel
theorem dX5_look_80 : decode cX5_look 80 = .ok (.getfield 18, 3) := by decide +kernel
theorem dX5_look_83 : decode cX5_look 83 = .ok (.invokestatic 49, 3) := by decide +kernel
theorem dX5_look_86 : decode cX5_look 86 = .ok (.aload_n 0, 1) := by decide +kernel
theorem dX5_look_87 : decode cX5_look 87 = .ok (.aload_n 0, 1) := by decide +kernel
theorem dX5_look_88 : decode cX5_look 88 = .ok (.getfield 9, 3) := by decide +kernel
theorem dX5_look_91 : decode cX5_look 91 = .ok (.invokestatic 53, 3) := by decide +kernel
theorem dX5_look_94 : decode cX5_look 94 = .ok (.putfield 57, 3) := by decide +kernel
theorem dX5_look_97 : decode cX5_look 97 = .ok (.aload_n 0, 1) := by decide +kernel
theorem dX5_look_98 : decode cX5_look 98 = .ok (.invokevirtual 35, 3) := by decide +kernel
theorem dX5_look_101 : decode cX5_look 101 = .ok (.return_, 1) := by decide +kernel
theorem dX5_forgetCounts_0 : decode cX5_forgetCounts 0 = .ok (.iconst 0, 1) := by decide +kernel
theorem dX5_forgetCounts_1 : decode cX5_forgetCounts 1 = .ok (.istore_n 1, 1) := by decide +kernel
theorem dX5_forgetCounts_2 : decode cX5_forgetCounts 2 = .ok (.iload_n 1, 1) := by decide +kernel
theorem dX5_forgetCounts_3 : decode cX5_forgetCounts 3 = .ok (.aload_n 0, 1) := by decide +kernel
theorem dX5_forgetCounts_4 : decode cX5_forgetCounts 4 = .ok (.getfield 32, 3) := by decide +kernel
theorem dX5_forgetCounts_7 : decode cX5_forgetCounts 7 = .ok (.arraylength, 1) := by decide +kernel
theorem dX5_forgetCounts_8 : decode cX5_forgetCounts 8 = .ok (.if_icmp .ge 18, 3) := by decide +kernel
theorem dX5_forgetCounts_11 : decode cX5_forgetCounts 11 = .ok (.aload_n 0, 1) := by decide +kernel
theorem dX5_forgetCounts_12 : decode cX5_forgetCounts 12 = .ok (.getfield 32, 3) := by decide +kernel
theorem dX5_forgetCounts_15 : decode cX5_forgetCounts 15 = .ok (.iload_n 1, 1) := by decide +kernel
theorem dX5_forgetCounts_16 : decode cX5_forgetCounts 16 = .ok (.ldc2_w 61, 3) := by decide +kernel
theorem dX5_forgetCounts_19 : decode cX5_forgetCounts 19 = .ok (.lastore, 1) := by decide +kernel
theorem dX5_forgetCounts_20 : decode cX5_forgetCounts 20 = .ok (.iinc 1 1, 3) := by decide +kernel
theorem dX5_forgetCounts_23 : decode cX5_forgetCounts 23 = .ok (.goto (-21), 3) := by decide +kernel
theorem dX5_forgetCounts_26 : decode cX5_forgetCounts 26 = .ok (.return_, 1) := by decide +kernel
theorem dX5_withinCount_0 : decode cX5_withinCount 0 = .ok (.iload_n 1, 1) := by decide +kernel
theorem dX5_withinCount_1 : decode cX5_withinCount 1 = .ok (.ifCond .lt 12, 3) := by decide +kernel
theorem dX5_withinCount_4 : decode cX5_withinCount 4 = .ok (.iload_n 1, 1) := by decide +kernel
theorem dX5_withinCount_5 : decode cX5_withinCount 5 = .ok (.aload_n 0, 1) := by decide +kernel
theorem dX5_withinCount_6 : decode cX5_withinCount 6 = .ok (.getfield 32, 3) := by decide +kernel
theorem dX5_withinCount_9 : decode cX5_withinCount 9 = .ok (.arraylength, 1) := by decide +kernel
theorem dX5_withinCount_10 : decode cX5_withinCount 10 = .ok (.if_icmp .lt 5, 3) := by decide +kernel
theorem dX5_withinCount_13 : decode cX5_withinCount 13 = .ok (.lconst 0, 1) := by decide +kernel
theorem dX5_withinCount_14 : decode cX5_withinCount 14 = .ok (.lreturn, 1) := by decide +kernel
theorem dX5_withinCount_15 : decode cX5_withinCount 15 = .ok (.aload_n 0, 1) := by decide +kernel
theorem dX5_withinCount_16 : decode cX5_withinCount 16 = .ok (.getfield 32, 3) := by decide +kernel
theorem dX5_withinCount_19 : decode cX5_withinCount 19 = .ok (.iload_n 1, 1) := by decide +kernel
theorem dX5_withinCount_20 : decode cX5_withinCount 20 = .ok (.laload, 1) := by decide +kernel
theorem dX5_withinCount_21 : decode cX5_withinCount 21 = .ok (.ldc2_w 61, 3) := by decide +kernel
theorem dX5_withinCount_24 : decode cX5_withinCount 24 = .ok (.lcmp, 1) := by decide +kernel
theorem dX5_withinCount_25 : decode cX5_withinCount 25 = .ok (.ifCond .ne 14, 3) := by decide +kernel
theorem dX5_withinCount_28 : decode cX5_withinCount 28 = .ok (.aload_n 0, 1) := by decide +kernel
theorem dX5_withinCount_29 : decode cX5_withinCount 29 = .ok (.getfield 32, 3) := by decide +kernel
theorem dX5_withinCount_32 : decode cX5_withinCount 32 = .ok (.iload_n 1, 1) := by decide +kernel
theorem dX5_withinCount_33 : decode cX5_withinCount 33 = .ok (.aload_n 0, 1) := by decide +kernel
theorem dX5_withinCount_34 : decode cX5_withinCount 34 = .ok (.iload_n 1, 1) := by decide +kernel
theorem dX5_withinCount_35 : decode cX5_withinCount 35 = .ok (.invokevirtual 63, 3) := by decide +kernel
theorem dX5_withinCount_38 : decode cX5_withinCount 38 = .ok (.lastore, 1) := by decide +kernel
theorem dX5_withinCount_39 : decode cX5_withinCount 39 = .ok (.aload_n 0, 1) := by decide +kernel
theorem dX5_withinCount_40 : decode cX5_withinCount 40 = .ok (.getfield 32, 3) := by decide +kernel
theorem dX5_withinCount_43 : decode cX5_withinCount 43 = .ok (.iload_n 1, 1) := by decide +kernel
theorem dX5_withinCount_44 : decode cX5_withinCount 44 = .ok (.laload, 1) := by decide +kernel
theorem dX5_withinCount_45 : decode cX5_withinCount 45 = .ok (.lreturn, 1) := by decide +kernel
theorem dX5_sumOfMosts_0 : decode cX5_sumOfMosts 0 = .ok (.aload_n 0, 1) := by decide +kernel
theorem dX5_sumOfMosts_1 : decode cX5_sumOfMosts 1 = .ok (.getfield 57, 3) := by decide +kernel
theorem dX5_sumOfMosts_4 : decode cX5_sumOfMosts 4 = .ok (.invokestatic 67, 3) := by decide +kernel
theorem dX5_sumOfMosts_7 : decode cX5_sumOfMosts 7 = .ok (.lstore_n 1, 1) := by decide +kernel
theorem dX5_sumOfMosts_8 : decode cX5_sumOfMosts 8 = .ok (.lconst 0, 1) := by decide +kernel
theorem dX5_sumOfMosts_9 : decode cX5_sumOfMosts 9 = .ok (.lstore_n 3, 1) := by decide +kernel
theorem dX5_sumOfMosts_10 : decode cX5_sumOfMosts 10 = .ok (.iconst 0, 1) := by decide +kernel
theorem dX5_sumOfMosts_11 : decode cX5_sumOfMosts 11 = .ok (.istore 5, 2) := by decide +kernel
theorem dX5_sumOfMosts_13 : decode cX5_sumOfMosts 13 = .ok (.iload 5, 2) := by decide +kernel
theorem dX5_sumOfMosts_15 : decode cX5_sumOfMosts 15 = .ok (.bipush 18, 2) := by decide +kernel
theorem dX5_sumOfMosts_17 : decode cX5_sumOfMosts 17 = .ok (.if_icmp .gt 34, 3) := by decide +kernel
theorem dX5_sumOfMosts_20 : decode cX5_sumOfMosts 20 = .ok (.aload_n 0, 1) := by decide +kernel
theorem dX5_sumOfMosts_21 : decode cX5_sumOfMosts 21 = .ok (.iload 5, 2) := by decide +kernel
theorem dX5_sumOfMosts_23 : decode cX5_sumOfMosts 23 = .ok (.invokevirtual 70, 3) := by decide +kernel
theorem dX5_sumOfMosts_26 : decode cX5_sumOfMosts 26 = .ok (.lstore 6, 2) := by decide +kernel
theorem dX5_sumOfMosts_28 : decode cX5_sumOfMosts 28 = .ok (.lload 6, 2) := by decide +kernel
theorem dX5_sumOfMosts_30 : decode cX5_sumOfMosts 30 = .ok (.lload_n 1, 1) := by decide +kernel
theorem dX5_sumOfMosts_31 : decode cX5_sumOfMosts 31 = .ok (.lcmp, 1) := by decide +kernel
theorem dX5_sumOfMosts_32 : decode cX5_sumOfMosts 32 = .ok (.ifCond .ne 6, 3) := by decide +kernel
theorem dX5_sumOfMosts_35 : decode cX5_sumOfMosts 35 = .ok (.goto 16, 3) := by decide +kernel
theorem dX5_sumOfMosts_38 : decode cX5_sumOfMosts 38 = .ok (.lload_n 3, 1) := by decide +kernel
theorem dX5_sumOfMosts_39 : decode cX5_sumOfMosts 39 = .ok (.lload_n 1, 1) := by decide +kernel
theorem dX5_sumOfMosts_40 : decode cX5_sumOfMosts 40 = .ok (.lload 6, 2) := by decide +kernel
theorem dX5_sumOfMosts_42 : decode cX5_sumOfMosts 42 = .ok (.lsub, 1) := by decide +kernel
theorem dX5_sumOfMosts_43 : decode cX5_sumOfMosts 43 = .ok (.ladd, 1) := by decide +kernel
theorem dX5_sumOfMosts_44 : decode cX5_sumOfMosts 44 = .ok (.lstore_n 3, 1) := by decide +kernel
theorem dX5_sumOfMosts_45 : decode cX5_sumOfMosts 45 = .ok (.iinc 5 1, 3) := by decide +kernel
theorem dX5_sumOfMosts_48 : decode cX5_sumOfMosts 48 = .ok (.goto (-35), 3) := by decide +kernel
theorem dX5_sumOfMosts_51 : decode cX5_sumOfMosts 51 = .ok (.lload_n 3, 1) := by decide +kernel
theorem dX5_sumOfMosts_52 : decode cX5_sumOfMosts 52 = .ok (.lreturn, 1) := by decide +kernel
theorem dX5_leastSure_0 : decode cX5_leastSure 0 = .ok (.iload_n 1, 1) := by decide +kernel
theorem dX5_leastSure_1 : decode cX5_leastSure 1 = .ok (.i2l, 1) := by decide +kernel
theorem dX5_leastSure_2 : decode cX5_leastSure 2 = .ok (.aload_n 0, 1) := by decide +kernel
theorem dX5_leastSure_3 : decode cX5_leastSure 3 = .ok (.getfield 57, 3) := by decide +kernel
theorem dX5_leastSure_6 : decode cX5_leastSure 6 = .ok (.invokestatic 67, 3) := by decide +kernel
theorem dX5_leastSure_9 : decode cX5_leastSure 9 = .ok (.lmul, 1) := by decide +kernel
theorem dX5_leastSure_10 : decode cX5_leastSure 10 = .ok (.lstore_n 3, 1) := by decide +kernel
theorem dX5_leastSure_11 : decode cX5_leastSure 11 = .ok (.iconst 0, 1) := by decide +kernel
theorem dX5_leastSure_12 : decode cX5_leastSure 12 = .ok (.istore 5, 2) := by decide +kernel
theorem dX5_leastSure_14 : decode cX5_leastSure 14 = .ok (.iload 5, 2) := by decide +kernel
theorem dX5_leastSure_16 : decode cX5_leastSure 16 = .ok (.bipush 18, 2) := by decide +kernel
theorem dX5_leastSure_18 : decode cX5_leastSure 18 = .ok (.if_icmp .gt 32, 3) := by decide +kernel
theorem dX5_leastSure_21 : decode cX5_leastSure 21 = .ok (.lload_n 3, 1) := by decide +kernel
theorem dX5_leastSure_22 : decode cX5_leastSure 22 = .ok (.lconst 0, 1) := by decide +kernel
theorem dX5_leastSure_23 : decode cX5_leastSure 23 = .ok (.lcmp, 1) := by decide +kernel
theorem dX5_leastSure_24 : decode cX5_leastSure 24 = .ok (.ifCond .eq 17, 3) := by decide +kernel
theorem dX5_leastSure_27 : decode cX5_leastSure 27 = .ok (.aload_n 0, 1) := by decide +kernel
theorem dX5_leastSure_28 : decode cX5_leastSure 28 = .ok (.iload 5, 2) := by decide +kernel
theorem dX5_leastSure_30 : decode cX5_leastSure 30 = .ok (.invokevirtual 70, 3) := by decide +kernel
theorem dX5_leastSure_33 : decode cX5_leastSure 33 = .ok (.iload_n 2, 1) := by decide +kernel
theorem dX5_leastSure_34 : decode cX5_leastSure 34 = .ok (.i2l, 1) := by decide +kernel
theorem dX5_leastSure_35 : decode cX5_leastSure 35 = .ok (.lmul, 1) := by decide +kernel
theorem dX5_leastSure_36 : decode cX5_leastSure 36 = .ok (.lload_n 3, 1) := by decide +kernel
theorem dX5_leastSure_37 : decode cX5_leastSure 37 = .ok (.lcmp, 1) := by decide +kernel
theorem dX5_leastSure_38 : decode cX5_leastSure 38 = .ok (.ifCond .lt 6, 3) := by decide +kernel
theorem dX5_leastSure_41 : decode cX5_leastSure 41 = .ok (.iload 5, 2) := by decide +kernel
theorem dX5_leastSure_43 : decode cX5_leastSure 43 = .ok (.ireturn, 1) := by decide +kernel
theorem dX5_leastSure_44 : decode cX5_leastSure 44 = .ok (.iinc 5 1, 3) := by decide +kernel
theorem dX5_leastSure_47 : decode cX5_leastSure 47 = .ok (.goto (-33), 3) := by decide +kernel
theorem dX5_leastSure_50 : decode cX5_leastSure 50 = .ok (.iconst (-1), 1) := by decide +kernel
theorem dX5_leastSure_51 : decode cX5_leastSure 51 = .ok (.ireturn, 1) := by decide +kernel
theorem dX5_lyingAfter_0 : decode cX5_lyingAfter 0 = .ok (.lconst 0, 1) := by decide +kernel
theorem dX5_lyingAfter_1 : decode cX5_lyingAfter 1 = .ok (.lstore_n 2, 1) := by decide +kernel
theorem dX5_lyingAfter_2 : decode cX5_lyingAfter 2 = .ok (.iconst 0, 1) := by decide +kernel
theorem dX5_lyingAfter_3 : decode cX5_lyingAfter 3 = .ok (.istore 4, 2) := by decide +kernel
theorem dX5_lyingAfter_5 : decode cX5_lyingAfter 5 = .ok (.iload 4, 2) := by decide +kernel
theorem dX5_lyingAfter_7 : decode cX5_lyingAfter 7 = .ok (.bipush 8, 2) := by decide +kernel
theorem dX5_lyingAfter_9 : decode cX5_lyingAfter 9 = .ok (.if_icmp .ge 42, 3) := by decide +kernel
theorem dX5_lyingAfter_12 : decode cX5_lyingAfter 12 = .ok (.lload_n 2, 1) := by decide +kernel
theorem dX5_lyingAfter_13 : decode cX5_lyingAfter 13 = .ok (.iload 4, 2) := by decide +kernel
theorem dX5_lyingAfter_15 : decode cX5_lyingAfter 15 = .ok (.aload_n 0, 1) := by decide +kernel
theorem dX5_lyingAfter_16 : decode cX5_lyingAfter 16 = .ok (.getfield 18, 3) := by decide +kernel
theorem dX5_lyingAfter_19 : decode cX5_lyingAfter 19 = .ok (.iload 4, 2) := by decide +kernel
theorem dX5_lyingAfter_21 : decode cX5_lyingAfter 21 = .ok (.iaload, 1) := by decide +kernel
theorem dX5_lyingAfter_22 : decode cX5_lyingAfter 22 = .ok (.if_icmp .gt 20, 3) := by decide +kernel
theorem dX5_lyingAfter_25 : decode cX5_lyingAfter 25 = .ok (.aload_n 0, 1) := by decide +kernel
theorem dX5_lyingAfter_26 : decode cX5_lyingAfter 26 = .ok (.iload 4, 2) := by decide +kernel
theorem dX5_lyingAfter_28 : decode cX5_lyingAfter 28 = .ok (.aload_n 0, 1) := by decide +kernel
theorem dX5_lyingAfter_29 : decode cX5_lyingAfter 29 = .ok (.getfield 18, 3) := by decide +kernel
theorem dX5_lyingAfter_32 : decode cX5_lyingAfter 32 = .ok (.iload 4, 2) := by decide +kernel
theorem dX5_lyingAfter_34 : decode cX5_lyingAfter 34 = .ok (.iaload, 1) := by decide +kernel
theorem dX5_lyingAfter_35 : decode cX5_lyingAfter 35 = .ok (.iload_n 1, 1) := by decide +kernel
theorem dX5_lyingAfter_36 : decode cX5_lyingAfter 36 = .ok (.invokevirtual 73, 3) := by decide +kernel
theorem dX5_lyingAfter_39 : decode cX5_lyingAfter 39 = .ok (.goto 4, 3) := by decide +kernel
theorem dX5_lyingAfter_42 : decode cX5_lyingAfter 42 = .ok (.lconst 0, 1) := by decide +kernel
theorem dX5_lyingAfter_43 : decode cX5_lyingAfter 43 = .ok (.ladd, 1) := by decide +kernel
theorem dX5_lyingAfter_44 : decode cX5_lyingAfter 44 = .ok (.lstore_n 2, 1) := by decide +kernel
theorem dX5_lyingAfter_45 : decode cX5_lyingAfter 45 = .ok (.iinc 4 1, 3) := by decide +kernel
theorem dX5_lyingAfter_48 : decode cX5_lyingAfter 48 = .ok (.goto (-43), 3) := by decide +kernel
theorem dX5_lyingAfter_51 : decode cX5_lyingAfter 51 = .ok (.lload_n 2, 1) := by decide +kernel
theorem dX5_lyingAfter_52 : decode cX5_lyingAfter 52 = .ok (.iload_n 1, 1) := by decide +kernel
theorem dX5_lyingAfter_53 : decode cX5_lyingAfter 53 = .ok (.invokestatic 67, 3) := by decide +kernel
theorem dX5_lyingAfter_56 : decode cX5_lyingAfter 56 = .ok (.lmul, 1) := by decide +kernel
theorem dX5_lyingAfter_57 : decode cX5_lyingAfter 57 = .ok (.aload_n 0, 1) := by decide +kernel
theorem dX5_lyingAfter_58 : decode cX5_lyingAfter 58 = .ok (.getfield 57, 3) := by decide +kernel
theorem dX5_lyingAfter_61 : decode cX5_lyingAfter 61 = .ok (.iload_n 1, 1) := by decide +kernel
theorem dX5_lyingAfter_62 : decode cX5_lyingAfter 62 = .ok (.isub, 1) := by decide +kernel
theorem dX5_lyingAfter_63 : decode cX5_lyingAfter 63 = .ok (.invokestatic 67, 3) := by decide +kernel
theorem dX5_lyingAfter_66 : decode cX5_lyingAfter 66 = .ok (.lmul, 1) := by decide +kernel
theorem dX5_lyingAfter_67 : decode cX5_lyingAfter 67 = .ok (.lreturn, 1) := by decide +kernel
theorem dX5_choicesLying_0 : decode cX5_choicesLying 0 = .ok (.aload_n 0, 1) := by decide +kernel
theorem dX5_choicesLying_1 : decode cX5_choicesLying 1 = .ok (.getfield 9, 3) := by decide +kernel
theorem dX5_choicesLying_4 : decode cX5_choicesLying 4 = .ok (.iload_n 1, 1) := by decide +kernel
theorem dX5_choicesLying_5 : decode cX5_choicesLying 5 = .ok (.invokestatic 77, 3) := by decide +kernel
theorem dX5_choicesLying_8 : decode cX5_choicesLying 8 = .ok (.istore 4, 2) := by decide +kernel
theorem dX5_choicesLying_10 : decode cX5_choicesLying 10 = .ok (.iload_n 1, 1) := by decide +kernel
theorem dX5_choicesLying_11 : decode cX5_choicesLying 11 = .ok (.iload_n 2, 1) := by decide +kernel
theorem dX5_choicesLying_12 : decode cX5_choicesLying 12 = .ok (.if_icmp .ne 7, 3) := by decide +kernel
theorem dX5_choicesLying_15 : decode cX5_choicesLying 15 = .ok (.iconst 0, 1) := by decide +kernel
theorem dX5_choicesLying_16 : decode cX5_choicesLying 16 = .ok (.goto 11, 3) := by decide +kernel
theorem dX5_choicesLying_19 : decode cX5_choicesLying 19 = .ok (.aload_n 0, 1) := by decide +kernel
theorem dX5_choicesLying_20 : decode cX5_choicesLying 20 = .ok (.getfield 9, 3) := by decide +kernel
theorem dX5_choicesLying_23 : decode cX5_choicesLying 23 = .ok (.iload_n 2, 1) := by decide +kernel
theorem dX5_choicesLying_24 : decode cX5_choicesLying 24 = .ok (.invokestatic 77, 3) := by decide +kernel
theorem dX5_choicesLying_27 : decode cX5_choicesLying 27 = .ok (.istore 5, 2) := by decide +kernel
theorem dX5_choicesLying_29 : decode cX5_choicesLying 29 = .ok (.lconst 0, 1) := by decide +kernel
theorem dX5_choicesLying_30 : decode cX5_choicesLying 30 = .ok (.lstore 6, 2) := by decide +kernel
theorem dX5_choicesLying_32 : decode cX5_choicesLying 32 = .ok (.iconst 0, 1) := by decide +kernel
theorem dX5_choicesLying_33 : decode cX5_choicesLying 33 = .ok (.istore 8, 2) := by decide +kernel
theorem dX5_choicesLying_35 : decode cX5_choicesLying 35 = .ok (.iload 8, 2) := by decide +kernel
theorem dX5_choicesLying_37 : decode cX5_choicesLying 37 = .ok (.iload 4, 2) := by decide +kernel
theorem dX5_choicesLying_39 : decode cX5_choicesLying 39 = .ok (.if_icmp .gt 82, 3) := by decide +kernel
theorem dX5_choicesLying_42 : decode cX5_choicesLying 42 = .ok (.iconst 0, 1) := by decide +kernel
theorem dX5_choicesLying_43 : decode cX5_choicesLying 43 = .ok (.istore 9, 2) := by decide +kernel
theorem dX5_choicesLying_45 : decode cX5_choicesLying 45 = .ok (.iload 9, 2) := by decide +kernel
theorem dX5_choicesLying_47 : decode cX5_choicesLying 47 = .ok (.iload 5, 2) := by decide +kernel
theorem dX5_choicesLying_49 : decode cX5_choicesLying 49 = .ok (.if_icmp .gt 66, 3) := by decide +kernel
theorem dX5_choicesLying_52 : decode cX5_choicesLying 52 = .ok (.aload_n 0, 1) := by decide +kernel
theorem dX5_choicesLying_53 : decode cX5_choicesLying 53 = .ok (.getfield 57, 3) := by decide +kernel
theorem dX5_choicesLying_56 : decode cX5_choicesLying 56 = .ok (.iload 4, 2) := by decide +kernel
theorem dX5_choicesLying_58 : decode cX5_choicesLying 58 = .ok (.isub, 1) := by decide +kernel
theorem dX5_choicesLying_59 : decode cX5_choicesLying 59 = .ok (.iload 5, 2) := by decide +kernel
theorem dX5_choicesLying_61 : decode cX5_choicesLying 61 = .ok (.isub, 1) := by decide +kernel
theorem dX5_choicesLying_62 : decode cX5_choicesLying 62 = .ok (.iload_n 3, 1) := by decide +kernel
theorem dX5_choicesLying_63 : decode cX5_choicesLying 63 = .ok (.iload 8, 2) := by decide +kernel
theorem dX5_choicesLying_65 : decode cX5_choicesLying 65 = .ok (.isub, 1) := by decide +kernel
theorem dX5_choicesLying_66 : decode cX5_choicesLying 66 = .ok (.iload 9, 2) := by decide +kernel
theorem dX5_choicesLying_68 : decode cX5_choicesLying 68 = .ok (.isub, 1) := by decide +kernel
theorem dX5_choicesLying_69 : decode cX5_choicesLying 69 = .ok (.invokestatic 81, 3) := by decide +kernel
theorem dX5_choicesLying_72 : decode cX5_choicesLying 72 = .ok (.lstore 10, 2) := by decide +kernel
theorem dX5_choicesLying_74 : decode cX5_choicesLying 74 = .ok (.lload 6, 2) := by decide +kernel
theorem dX5_choicesLying_76 : decode cX5_choicesLying 76 = .ok (.iload 4, 2) := by decide +kernel
theorem dX5_choicesLying_78 : decode cX5_choicesLying 78 = .ok (.iload 8, 2) := by decide +kernel
theorem dX5_choicesLying_80 : decode cX5_choicesLying 80 = .ok (.invokestatic 81, 3) := by decide +kernel
theorem dX5_choicesLying_83 : decode cX5_choicesLying 83 = .ok (.iload 5, 2) := by decide +kernel
theorem dX5_choicesLying_85 : decode cX5_choicesLying 85 = .ok (.iload 9, 2) := by decide +kernel
theorem dX5_choicesLying_87 : decode cX5_choicesLying 87 = .ok (.invokestatic 81, 3) := by decide +kernel
theorem dX5_choicesLying_90 : decode cX5_choicesLying 90 = .ok (.lmul, 1) := by decide +kernel
theorem dX5_choicesLying_91 : decode cX5_choicesLying 91 = .ok (.lload 10, 2) := by decide +kernel
theorem dX5_choicesLying_93 : decode cX5_choicesLying 93 = .ok (.lmul, 1) := by decide +kernel
theorem dX5_choicesLying_94 : decode cX5_choicesLying 94 = .ok (.aload_n 0, 1) := by decide +kernel
theorem dX5_choicesLying_95 : decode cX5_choicesLying 95 = .ok (.iload_n 1, 1) := by decide +kernel
theorem dX5_choicesLying_96 : decode cX5_choicesLying 96 = .ok (.iload_n 2, 1) := by decide +kernel
theorem dX5_choicesLying_97 : decode cX5_choicesLying 97 = .ok (.iload 8, 2) := by decide +kernel
theorem dX5_choicesLying_99 : decode cX5_choicesLying 99 = .ok (.iload 9, 2) := by decide +kernel
theorem dX5_choicesLying_101 : decode cX5_choicesLying 101 = .ok (.invokevirtual 85, 3) := by decide +kernel
theorem dX5_choicesLying_104 : decode cX5_choicesLying 104 = .ok (.i2l, 1) := by decide +kernel
theorem dX5_choicesLying_105 : decode cX5_choicesLying 105 = .ok (.lmul, 1) := by decide +kernel
theorem dX5_choicesLying_106 : decode cX5_choicesLying 106 = .ok (.ladd, 1) := by decide +kernel
theorem dX5_choicesLying_107 : decode cX5_choicesLying 107 = .ok (.lstore 6, 2) := by decide +kernel
theorem dX5_choicesLying_109 : decode cX5_choicesLying 109 = .ok (.iinc 9 1, 3) := by decide +kernel
theorem dX5_choicesLying_112 : decode cX5_choicesLying 112 = .ok (.goto (-67), 3) := by decide +kernel
theorem dX5_choicesLying_115 : decode cX5_choicesLying 115 = .ok (.iinc 8 1, 3) := by decide +kernel
theorem dX5_choicesLying_118 : decode cX5_choicesLying 118 = .ok (.goto (-83), 3) := by decide +kernel
theorem dX5_choicesLying_121 : decode cX5_choicesLying 121 = .ok (.lload 6, 2) := by decide +kernel
theorem dX5_choicesLying_123 : decode cX5_choicesLying 123 = .ok (.lreturn, 1) := by decide +kernel
theorem dX5_lyingOf_0 : decode cX5_lyingOf 0 = .ok (.aload_n 0, 1) := by decide +kernel
theorem dX5_lyingOf_1 : decode cX5_lyingOf 1 = .ok (.getfield 15, 3) := by decide +kernel
theorem dX5_lyingOf_4 : decode cX5_lyingOf 4 = .ok (.iload_n 1, 1) := by decide +kernel
theorem dX5_lyingOf_5 : decode cX5_lyingOf 5 = .ok (.invokestatic 77, 3) := by decide +kernel
theorem dX5_lyingOf_8 : decode cX5_lyingOf 8 = .ok (.iload_n 3, 1) := by decide +kernel
theorem dX5_lyingOf_9 : decode cX5_lyingOf 9 = .ok (.iadd, 1) := by decide +kernel
theorem dX5_lyingOf_10 : decode cX5_lyingOf 10 = .ok (.istore 5, 2) := by decide +kernel
theorem dX5_lyingOf_12 : decode cX5_lyingOf 12 = .ok (.iload_n 1, 1) := by decide +kernel
theorem dX5_lyingOf_13 : decode cX5_lyingOf 13 = .ok (.iload_n 2, 1) := by decide +kernel
theorem dX5_lyingOf_14 : decode cX5_lyingOf 14 = .ok (.if_icmp .ne 10, 3) := by decide +kernel
theorem dX5_lyingOf_17 : decode cX5_lyingOf 17 = .ok (.iload 5, 2) := by decide +kernel
theorem dX5_lyingOf_19 : decode cX5_lyingOf 19 = .ok (.iconst 1, 1) := by decide +kernel
theorem dX5_lyingOf_20 : decode cX5_lyingOf 20 = .ok (.iand, 1) := by decide +kernel
theorem dX5_lyingOf_21 : decode cX5_lyingOf 21 = .ok (.goto 20, 3) := by decide +kernel
theorem dX5_lyingOf_24 : decode cX5_lyingOf 24 = .ok (.iload 5, 2) := by decide +kernel
theorem dX5_lyingOf_26 : decode cX5_lyingOf 26 = .ok (.aload_n 0, 1) := by decide +kernel
theorem dX5_lyingOf_27 : decode cX5_lyingOf 27 = .ok (.getfield 15, 3) := by decide +kernel
theorem dX5_lyingOf_30 : decode cX5_lyingOf 30 = .ok (.iload_n 2, 1) := by decide +kernel
theorem dX5_lyingOf_31 : decode cX5_lyingOf 31 = .ok (.invokestatic 77, 3) := by decide +kernel
theorem dX5_lyingOf_34 : decode cX5_lyingOf 34 = .ok (.isub, 1) := by decide +kernel
theorem dX5_lyingOf_35 : decode cX5_lyingOf 35 = .ok (.iload 4, 2) := by decide +kernel
theorem dX5_lyingOf_37 : decode cX5_lyingOf 37 = .ok (.isub, 1) := by decide +kernel
theorem dX5_lyingOf_38 : decode cX5_lyingOf 38 = .ok (.invokestatic 89, 3) := by decide +kernel
theorem dX5_lyingOf_41 : decode cX5_lyingOf 41 = .ok (.ireturn, 1) := by decide +kernel
theorem dX5_countWithin_0 : decode cX5_countWithin 0 = .ok (.aload_n 0, 1) := by decide +kernel
theorem dX5_countWithin_1 : decode cX5_countWithin 1 = .ok (.getfield 24, 3) := by decide +kernel
theorem dX5_countWithin_4 : decode cX5_countWithin 4 = .ok (.aload_n 0, 1) := by decide +kernel
theorem dX5_countWithin_5 : decode cX5_countWithin 5 = .ok (.getfield 9, 3) := by decide +kernel
theorem dX5_countWithin_8 : decode cX5_countWithin 8 = .ok (.invokevirtual 95, 3) := by decide +kernel
theorem dX5_countWithin_11 : decode cX5_countWithin 11 = .ok (.aload_n 0, 1) := by decide +kernel
theorem dX5_countWithin_12 : decode cX5_countWithin 12 = .ok (.getfield 28, 3) := by decide +kernel
theorem dX5_countWithin_15 : decode cX5_countWithin 15 = .ok (.iconst 0, 1) := by decide +kernel
theorem dX5_countWithin_16 : decode cX5_countWithin 16 = .ok (.lconst 1, 1) := by decide +kernel
theorem dX5_countWithin_17 : decode cX5_countWithin 17 = .ok (.lastore, 1) := by decide +kernel
theorem dX5_countWithin_18 : decode cX5_countWithin 18 = .ok (.iconst 1, 1) := by decide +kernel
theorem dX5_countWithin_19 : decode cX5_countWithin 19 = .ok (.istore_n 2, 1) := by decide +kernel
theorem dX5_countWithin_20 : decode cX5_countWithin 20 = .ok (.iload_n 2, 1) := by decide +kernel
theorem dX5_countWithin_21 : decode cX5_countWithin 21 = .ok (.aload_n 0, 1) := by decide +kernel
theorem dX5_countWithin_22 : decode cX5_countWithin 22 = .ok (.getfield 24, 3) := by decide +kernel
theorem dX5_countWithin_25 : decode cX5_countWithin 25 = .ok (.getfield 99, 3) := by decide +kernel
theorem dX5_countWithin_28 : decode cX5_countWithin 28 = .ok (.if_icmp .ge 48, 3) := by decide +kernel
theorem dX5_countWithin_31 : decode cX5_countWithin 31 = .ok (.iload_n 2, 1) := by decide +kernel
theorem dX5_countWithin_32 : decode cX5_countWithin 32 = .ok (.aload_n 0, 1) := by decide +kernel
theorem dX5_countWithin_33 : decode cX5_countWithin 33 = .ok (.getfield 28, 3) := by decide +kernel
theorem dX5_countWithin_36 : decode cX5_countWithin 36 = .ok (.arraylength, 1) := by decide +kernel
theorem dX5_countWithin_37 : decode cX5_countWithin 37 = .ok (.if_icmp .ge 39, 3) := by decide +kernel
theorem dX5_countWithin_40 : decode cX5_countWithin 40 = .ok (.aload_n 0, 1) := by decide +kernel
theorem dX5_countWithin_41 : decode cX5_countWithin 41 = .ok (.getfield 24, 3) := by decide +kernel
theorem dX5_countWithin_44 : decode cX5_countWithin 44 = .ok (.invokevirtual 102, 3) := by decide +kernel
theorem dX5_countWithin_47 : decode cX5_countWithin 47 = .ok (.aload_n 0, 1) := by decide +kernel
theorem dX5_countWithin_48 : decode cX5_countWithin 48 = .ok (.getfield 28, 3) := by decide +kernel
theorem dX5_countWithin_51 : decode cX5_countWithin 51 = .ok (.iload_n 2, 1) := by decide +kernel
theorem dX5_countWithin_52 : decode cX5_countWithin 52 = .ok (.aload_n 0, 1) := by decide +kernel
theorem dX5_countWithin_53 : decode cX5_countWithin 53 = .ok (.invokevirtual 105, 3) := by decide +kernel
theorem dX5_countWithin_56 : decode cX5_countWithin 56 = .ok (.iload_n 1, 1) := by decide +kernel
theorem dX5_countWithin_57 : decode cX5_countWithin 57 = .ok (.if_icmp .le 7, 3) := by decide +kernel
theorem dX5_countWithin_60 : decode cX5_countWithin 60 = .ok (.lconst 0, 1) := by decide +kernel
theorem dX5_countWithin_61 : decode cX5_countWithin 61 = .ok (.goto 8, 3) := by decide +kernel
theorem dX5_countWithin_64 : decode cX5_countWithin 64 = .ok (.aload_n 0, 1) := by decide +kernel
theorem dX5_countWithin_65 : decode cX5_countWithin 65 = .ok (.iload_n 2, 1) := by decide +kernel
theorem dX5_countWithin_66 : decode cX5_countWithin 66 = .ok (.invokevirtual 109, 3) := by decide +kernel
theorem dX5_countWithin_69 : decode cX5_countWithin 69 = .ok (.lastore, 1) := by decide +kernel
theorem dX5_countWithin_70 : decode cX5_countWithin 70 = .ok (.iinc 2 1, 3) := by decide +kernel
theorem dX5_countWithin_73 : decode cX5_countWithin 73 = .ok (.goto (-53), 3) := by decide +kernel
theorem dX5_countWithin_76 : decode cX5_countWithin 76 = .ok (.aload_n 0, 1) := by decide +kernel
theorem dX5_countWithin_77 : decode cX5_countWithin 77 = .ok (.getfield 28, 3) := by decide +kernel
theorem dX5_countWithin_80 : decode cX5_countWithin 80 = .ok (.aload_n 0, 1) := by decide +kernel
theorem dX5_countWithin_81 : decode cX5_countWithin 81 = .ok (.getfield 24, 3) := by decide +kernel
theorem dX5_countWithin_84 : decode cX5_countWithin 84 = .ok (.getfield 99, 3) := by decide +kernel
theorem dX5_countWithin_87 : decode cX5_countWithin 87 = .ok (.iconst 1, 1) := by decide +kernel
theorem dX5_countWithin_88 : decode cX5_countWithin 88 = .ok (.isub, 1) := by decide +kernel
theorem dX5_countWithin_89 : decode cX5_countWithin 89 = .ok (.invokestatic 112, 3) := by decide +kernel
theorem dX5_countWithin_92 : decode cX5_countWithin 92 = .ok (.lreturn, 1) := by decide +kernel
theorem dX5_lyingNow_0 : decode cX5_lyingNow 0 = .ok (.iconst 0, 1) := by decide +kernel
theorem dX5_lyingNow_1 : decode cX5_lyingNow 1 = .ok (.istore_n 1, 1) := by decide +kernel
theorem dX5_lyingNow_2 : decode cX5_lyingNow 2 = .ok (.iconst 0, 1) := by decide +kernel
theorem dX5_lyingNow_3 : decode cX5_lyingNow 3 = .ok (.istore_n 2, 1) := by decide +kernel
theorem dX5_lyingNow_4 : decode cX5_lyingNow 4 = .ok (.iload_n 2, 1) := by decide +kernel
theorem dX5_lyingNow_5 : decode cX5_lyingNow 5 = .ok (.bipush 8, 2) := by decide +kernel
theorem dX5_lyingNow_7 : decode cX5_lyingNow 7 = .ok (.if_icmp .ge 54, 3) := by decide +kernel
theorem dX5_lyingNow_10 : decode cX5_lyingNow 10 = .ok (.aload_n 0, 1) := by decide +kernel
theorem dX5_lyingNow_11 : decode cX5_lyingNow 11 = .ok (.getfield 18, 3) := by decide +kernel
theorem dX5_lyingNow_14 : decode cX5_lyingNow 14 = .ok (.iload_n 2, 1) := by decide +kernel
theorem dX5_lyingNow_15 : decode cX5_lyingNow 15 = .ok (.iaload, 1) := by decide +kernel
theorem dX5_lyingNow_16 : decode cX5_lyingNow 16 = .ok (.istore_n 3, 1) := by decide +kernel
theorem dX5_lyingNow_17 : decode cX5_lyingNow 17 = .ok (.iload_n 1, 1) := by decide +kernel
theorem dX5_lyingNow_18 : decode cX5_lyingNow 18 = .ok (.iload_n 2, 1) := by decide +kernel
theorem dX5_lyingNow_19 : decode cX5_lyingNow 19 = .ok (.iload_n 3, 1) := by decide +kernel
theorem dX5_lyingNow_20 : decode cX5_lyingNow 20 = .ok (.if_icmp .gt 32, 3) := by decide +kernel
theorem dX5_lyingNow_23 : decode cX5_lyingNow 23 = .ok (.aload_n 0, 1) := by decide +kernel
theorem dX5_lyingNow_24 : decode cX5_lyingNow 24 = .ok (.iload_n 2, 1) := by decide +kernel
theorem dX5_lyingNow_25 : decode cX5_lyingNow 25 = .ok (.iload_n 3, 1) := by decide +kernel
theorem dX5_lyingNow_26 : decode cX5_lyingNow 26 = .ok (.aload_n 0, 1) := by decide +kernel
theorem dX5_lyingNow_27 : decode cX5_lyingNow 27 = .ok (.getfield 24, 3) := by decide +kernel
theorem dX5_lyingNow_30 : decode cX5_lyingNow 30 = .ok (.getfield 116, 3) := by decide +kernel
theorem dX5_lyingNow_33 : decode cX5_lyingNow 33 = .ok (.iload_n 2, 1) := by decide +kernel
theorem dX5_lyingNow_34 : decode cX5_lyingNow 34 = .ok (.iaload, 1) := by decide +kernel
theorem dX5_lyingNow_35 : decode cX5_lyingNow 35 = .ok (.aload_n 0, 1) := by decide +kernel
theorem dX5_lyingNow_36 : decode cX5_lyingNow 36 = .ok (.getfield 24, 3) := by decide +kernel
theorem dX5_lyingNow_39 : decode cX5_lyingNow 39 = .ok (.getfield 116, 3) := by decide +kernel
theorem dX5_lyingNow_42 : decode cX5_lyingNow 42 = .ok (.iload_n 3, 1) := by decide +kernel
theorem dX5_lyingNow_43 : decode cX5_lyingNow 43 = .ok (.invokestatic 77, 3) := by decide +kernel
theorem dX5_lyingNow_46 : decode cX5_lyingNow 46 = .ok (.invokevirtual 85, 3) := by decide +kernel
theorem dX5_lyingNow_49 : decode cX5_lyingNow 49 = .ok (.goto 4, 3) := by decide +kernel
theorem dX5_lyingNow_52 : decode cX5_lyingNow 52 = .ok (.iconst 0, 1) := by decide +kernel
theorem dX5_lyingNow_53 : decode cX5_lyingNow 53 = .ok (.iadd, 1) := by decide +kernel
theorem dX5_lyingNow_54 : decode cX5_lyingNow 54 = .ok (.istore_n 1, 1) := by decide +kernel
theorem dX5_lyingNow_55 : decode cX5_lyingNow 55 = .ok (.iinc 2 1, 3) := by decide +kernel
theorem dX5_lyingNow_58 : decode cX5_lyingNow 58 = .ok (.goto (-54), 3) := by decide +kernel
theorem dX5_lyingNow_61 : decode cX5_lyingNow 61 = .ok (.iload_n 1, 1) := by decide +kernel
theorem dX5_lyingNow_62 : decode cX5_lyingNow 62 = .ok (.ireturn, 1) := by decide +kernel
theorem dX5_waysTo_0 : decode cX5_waysTo 0 = .ok (.lconst 0, 1) := by decide +kernel
theorem dX5_waysTo_1 : decode cX5_waysTo 1 = .ok (.lstore_n 2, 1) := by decide +kernel
theorem dX5_waysTo_2 : decode cX5_waysTo 2 = .ok (.iconst 0, 1) := by decide +kernel
theorem dX5_waysTo_3 : decode cX5_waysTo 3 = .ok (.istore 4, 2) := by decide +kernel
theorem dX5_waysTo_5 : decode cX5_waysTo 5 = .ok (.iload 4, 2) := by decide +kernel
theorem dX5_waysTo_7 : decode cX5_waysTo 7 = .ok (.bipush 8, 2) := by decide +kernel
theorem dX5_waysTo_9 : decode cX5_waysTo 9 = .ok (.if_icmp .ge 62, 3) := by decide +kernel
theorem dX5_waysTo_12 : decode cX5_waysTo 12 = .ok (.aload_n 0, 1) := by decide +kernel
theorem dX5_waysTo_13 : decode cX5_waysTo 13 = .ok (.getfield 24, 3) := by decide +kernel
theorem dX5_waysTo_16 : decode cX5_waysTo 16 = .ok (.getfield 116, 3) := by decide +kernel
theorem dX5_waysTo_19 : decode cX5_waysTo 19 = .ok (.iload 4, 2) := by decide +kernel
theorem dX5_waysTo_21 : decode cX5_waysTo 21 = .ok (.iaload, 1) := by decide +kernel
theorem dX5_waysTo_22 : decode cX5_waysTo 22 = .ok (.istore 5, 2) := by decide +kernel
theorem dX5_waysTo_24 : decode cX5_waysTo 24 = .ok (.iload 5, 2) := by decide +kernel
theorem dX5_waysTo_26 : decode cX5_waysTo 26 = .ok (.ifCond .le 39, 3) := by decide +kernel
theorem dX5_waysTo_29 : decode cX5_waysTo 29 = .ok (.lload_n 2, 1) := by decide +kernel
theorem dX5_waysTo_30 : decode cX5_waysTo 30 = .ok (.aload_n 0, 1) := by decide +kernel
theorem dX5_waysTo_31 : decode cX5_waysTo 31 = .ok (.getfield 28, 3) := by decide +kernel
theorem dX5_waysTo_34 : decode cX5_waysTo 34 = .ok (.iload_n 1, 1) := by decide +kernel
theorem dX5_waysTo_35 : decode cX5_waysTo 35 = .ok (.aload_n 0, 1) := by decide +kernel
theorem dX5_waysTo_36 : decode cX5_waysTo 36 = .ok (.getfield 24, 3) := by decide +kernel
theorem dX5_waysTo_39 : decode cX5_waysTo 39 = .ok (.getfield 119, 3) := by decide +kernel
theorem dX5_waysTo_42 : decode cX5_waysTo 42 = .ok (.iload 4, 2) := by decide +kernel
theorem dX5_waysTo_44 : decode cX5_waysTo 44 = .ok (.iaload, 1) := by decide +kernel
theorem dX5_waysTo_45 : decode cX5_waysTo 45 = .ok (.isub, 1) := by decide +kernel
theorem dX5_waysTo_46 : decode cX5_waysTo 46 = .ok (.invokestatic 112, 3) := by decide +kernel
theorem dX5_waysTo_49 : decode cX5_waysTo 49 = .ok (.aload_n 0, 1) := by decide +kernel
theorem dX5_waysTo_50 : decode cX5_waysTo 50 = .ok (.getfield 9, 3) := by decide +kernel
theorem dX5_waysTo_53 : decode cX5_waysTo 53 = .ok (.iload 4, 2) := by decide +kernel
theorem dX5_waysTo_55 : decode cX5_waysTo 55 = .ok (.iaload, 1) := by decide +kernel
theorem dX5_waysTo_56 : decode cX5_waysTo 56 = .ok (.iload 5, 2) := by decide +kernel
theorem dX5_waysTo_58 : decode cX5_waysTo 58 = .ok (.isub, 1) := by decide +kernel
theorem dX5_waysTo_59 : decode cX5_waysTo 59 = .ok (.iconst 1, 1) := by decide +kernel
theorem dX5_waysTo_60 : decode cX5_waysTo 60 = .ok (.iadd, 1) := by decide +kernel
theorem dX5_waysTo_61 : decode cX5_waysTo 61 = .ok (.i2l, 1) := by decide +kernel
theorem dX5_waysTo_62 : decode cX5_waysTo 62 = .ok (.lmul, 1) := by decide +kernel
theorem dX5_waysTo_63 : decode cX5_waysTo 63 = .ok (.ladd, 1) := by decide +kernel
theorem dX5_waysTo_64 : decode cX5_waysTo 64 = .ok (.lstore_n 2, 1) := by decide +kernel
theorem dX5_waysTo_65 : decode cX5_waysTo 65 = .ok (.iinc 4 1, 3) := by decide +kernel
theorem dX5_waysTo_68 : decode cX5_waysTo 68 = .ok (.goto (-63), 3) := by decide +kernel
theorem dX5_waysTo_71 : decode cX5_waysTo 71 = .ok (.lload_n 2, 1) := by decide +kernel
theorem dX5_waysTo_72 : decode cX5_waysTo 72 = .ok (.lreturn, 1) := by decide +kernel
theorem dX6_init_0 : decode cX6_init 0 = .ok (.aload_n 0, 1) := by decide +kernel
theorem dX6_init_1 : decode cX6_init 1 = .ok (.invokespecial 3, 3) := by decide +kernel
theorem dX6_init_4 : decode cX6_init 4 = .ok (.aload_n 0, 1) := by decide +kernel
theorem dX6_init_5 : decode cX6_init 5 = .ok (.bipush 20, 2) := by decide +kernel
theorem dX6_init_7 : decode cX6_init 7 = .ok (.newarray .int, 2) := by decide +kernel
theorem dX6_init_9 : decode cX6_init 9 = .ok (.putfield 11, 3) := by decide +kernel
theorem dX6_init_12 : decode cX6_init 12 = .ok (.aload_n 0, 1) := by decide +kernel
theorem dX6_init_13 : decode cX6_init 13 = .ok (.bipush 20, 2) := by decide +kernel
theorem dX6_init_15 : decode cX6_init 15 = .ok (.newarray .int, 2) := by decide +kernel
theorem dX6_init_17 : decode cX6_init 17 = .ok (.putfield 15, 3) := by decide +kernel
theorem dX6_init_20 : decode cX6_init 20 = .ok (.aload_n 0, 1) := by decide +kernel
theorem dX6_init_21 : decode cX6_init 21 = .ok (.bipush 19, 2) := by decide +kernel
theorem dX6_init_23 : decode cX6_init 23 = .ok (.newarray .long, 2) := by decide +kernel
theorem dX6_init_25 : decode cX6_init 25 = .ok (.putfield 18, 3) := by decide +kernel
theorem dX6_init_28 : decode cX6_init 28 = .ok (.aload_n 0, 1) := by decide +kernel
theorem dX6_init_29 : decode cX6_init 29 = .ok (.bipush 19, 2) := by decide +kernel
theorem dX6_init_31 : decode cX6_init 31 = .ok (.newarray .long, 2) := by decide +kernel
theorem dX6_init_33 : decode cX6_init 33 = .ok (.putfield 22, 3) := by decide +kernel
theorem dX6_init_36 : decode cX6_init 36 = .ok (.return_, 1) := by decide +kernel
theorem dX6_note_0 : decode cX6_note 0 = .ok (.aload_n 0, 1) := by decide +kernel
theorem dX6_note_1 : decode cX6_note 1 = .ok (.getfield 25, 3) := by decide +kernel
theorem dX6_note_4 : decode cX6_note 4 = .ok (.ifCond .lt 12, 3) := by decide +kernel
theorem dX6_note_7 : decode cX6_note 7 = .ok (.aload_n 0, 1) := by decide +kernel
theorem dX6_note_8 : decode cX6_note 8 = .ok (.getfield 25, 3) := by decide +kernel
theorem dX6_note_11 : decode cX6_note 11 = .ok (.bipush 20, 2) := by decide +kernel
theorem dX6_note_13 : decode cX6_note 13 = .ok (.if_icmp .lt 5, 3) := by decide +kernel
theorem dX6_note_16 : decode cX6_note 16 = .ok (.iconst (-1), 1) := by decide +kernel
theorem dX6_note_17 : decode cX6_note 17 = .ok (.ireturn, 1) := by decide +kernel
theorem dX6_note_18 : decode cX6_note 18 = .ok (.aload_n 0, 1) := by decide +kernel
theorem dX6_note_19 : decode cX6_note 19 = .ok (.getfield 11, 3) := by decide +kernel
theorem dX6_note_22 : decode cX6_note 22 = .ok (.aload_n 0, 1) := by decide +kernel
theorem dX6_note_23 : decode cX6_note 23 = .ok (.getfield 25, 3) := by decide +kernel
theorem dX6_note_26 : decode cX6_note 26 = .ok (.iload_n 1, 1) := by decide +kernel
theorem dX6_note_27 : decode cX6_note 27 = .ok (.iastore, 1) := by decide +kernel
theorem dX6_note_28 : decode cX6_note 28 = .ok (.aload_n 0, 1) := by decide +kernel
theorem dX6_note_29 : decode cX6_note 29 = .ok (.getfield 15, 3) := by decide +kernel
theorem dX6_note_32 : decode cX6_note 32 = .ok (.aload_n 0, 1) := by decide +kernel
theorem dX6_note_33 : decode cX6_note 33 = .ok (.getfield 25, 3) := by decide +kernel
theorem dX6_note_36 : decode cX6_note 36 = .ok (.iload_n 2, 1) := by decide +kernel
theorem dX6_note_37 : decode cX6_note 37 = .ok (.iastore, 1) := by decide +kernel
theorem dX6_note_38 : decode cX6_note 38 = .ok (.aload_n 0, 1) := by decide +kernel
theorem dX6_note_39 : decode cX6_note 39 = .ok (.dup, 1) := by decide +kernel
theorem dX6_note_40 : decode cX6_note 40 = .ok (.getfield 25, 3) := by decide +kernel
theorem dX6_note_43 : decode cX6_note 43 = .ok (.iconst 1, 1) := by decide +kernel
theorem dX6_note_44 : decode cX6_note 44 = .ok (.iadd, 1) := by decide +kernel
theorem dX6_note_45 : decode cX6_note 45 = .ok (.putfield 25, 3) := by decide +kernel
theorem dX6_note_48 : decode cX6_note 48 = .ok (.aload_n 0, 1) := by decide +kernel
theorem dX6_note_49 : decode cX6_note 49 = .ok (.getfield 25, 3) := by decide +kernel
theorem dX6_note_52 : decode cX6_note 52 = .ok (.iconst 1, 1) := by decide +kernel
theorem dX6_note_53 : decode cX6_note 53 = .ok (.isub, 1) := by decide +kernel
theorem dX6_note_54 : decode cX6_note 54 = .ok (.ireturn, 1) := by decide +kernel
theorem dX6_countRows_0 : decode cX6_countRows 0 = .ok (.iconst 0, 1) := by decide +kernel
theorem dX6_countRows_1 : decode cX6_countRows 1 = .ok (.istore 6, 2) := by decide +kernel
theorem dX6_countRows_3 : decode cX6_countRows 3 = .ok (.iload 6, 2) := by decide +kernel
theorem dX6_countRows_5 : decode cX6_countRows 5 = .ok (.aload_n 0, 1) := by decide +kernel
theorem dX6_countRows_6 : decode cX6_countRows 6 = .ok (.getfield 18, 3) := by decide +kernel
theorem dX6_countRows_9 : decode cX6_countRows 9 = .ok (.arraylength, 1) := by decide +kernel
theorem dX6_countRows_10 : decode cX6_countRows 10 = .ok (.if_icmp .ge 26, 3) := by decide +kernel
theorem dX6_countRows_13 : decode cX6_countRows 13 = .ok (.aload_n 0, 1) := by decide +kernel
theorem dX6_countRows_14 : decode cX6_countRows 14 = .ok (.getfield 18, 3) := by decide +kernel
theorem dX6_countRows_17 : decode cX6_countRows 17 = .ok (.iload 6, 2) := by decide +kernel
theorem dX6_countRows_19 : decode cX6_countRows 19 = .ok (.iload 6, 2) := by decide +kernel
theorem dX6_countRows_21 : decode cX6_countRows 21 = .ok (.ifCond .ne 7, 3) := by decide +kernel
theorem dX6_countRows_24 : decode cX6_countRows 24 = .ok (.lconst 1, 1) := by decide +kernel
theorem dX6_countRows_25 : decode cX6_countRows 25 = .ok (.goto 4, 3) := by decide +kernel
theorem dX6_countRows_28 : decode cX6_countRows 28 = .ok (.lconst 0, 1) := by decide +kernel
theorem dX6_countRows_29 : decode cX6_countRows 29 = .ok (.lastore, 1) := by decide +kernel
theorem dX6_countRows_30 : decode cX6_countRows 30 = .ok (.iinc 6 1, 3) := by decide +kernel
theorem dX6_countRows_33 : decode cX6_countRows 33 = .ok (.goto (-30), 3) := by decide +kernel
theorem dX6_countRows_36 : decode cX6_countRows 36 = .ok (.iconst 0, 1) := by decide +kernel
theorem dX6_countRows_37 : decode cX6_countRows 37 = .ok (.istore 6, 2) := by decide +kernel
theorem dX6_countRows_39 : decode cX6_countRows 39 = .ok (.iload 6, 2) := by decide +kernel
theorem dX6_countRows_41 : decode cX6_countRows 41 = .ok (.bipush 8, 2) := by decide +kernel
theorem dX6_countRows_43 : decode cX6_countRows 43 = .ok (.if_icmp .ge 33, 3) := by decide +kernel
theorem dX6_countRows_46 : decode cX6_countRows 46 = .ok (.iload 6, 2) := by decide +kernel
theorem dX6_countRows_48 : decode cX6_countRows 48 = .ok (.aload_n 1, 1) := by decide +kernel
theorem dX6_countRows_49 : decode cX6_countRows 49 = .ok (.getfield 29, 3) := by decide +kernel
theorem dX6_countRows_52 : decode cX6_countRows 52 = .ok (.iload 6, 2) := by decide +kernel
theorem dX6_countRows_54 : decode cX6_countRows 54 = .ok (.iaload, 1) := by decide +kernel
theorem dX6_countRows_55 : decode cX6_countRows 55 = .ok (.if_icmp .gt 15, 3) := by decide +kernel
theorem dX6_countRows_58 : decode cX6_countRows 58 = .ok (.aload_n 0, 1) := by decide +kernel
theorem dX6_countRows_59 : decode cX6_countRows 59 = .ok (.aload_n 1, 1) := by decide +kernel
theorem dX6_countRows_60 : decode cX6_countRows 60 = .ok (.iload_n 2, 1) := by decide +kernel
theorem dX6_countRows_61 : decode cX6_countRows 61 = .ok (.iload 6, 2) := by decide +kernel
theorem dX6_countRows_63 : decode cX6_countRows 63 = .ok (.iload 4, 2) := by decide +kernel
theorem dX6_countRows_65 : decode cX6_countRows 65 = .ok (.iload 5, 2) := by decide +kernel
theorem dX6_countRows_67 : decode cX6_countRows 67 = .ok (.invokevirtual 34, 3) := by decide +kernel
theorem dX6_countRows_70 : decode cX6_countRows 70 = .ok (.iinc 6 1, 3) := by decide +kernel
theorem dX6_countRows_73 : decode cX6_countRows 73 = .ok (.goto (-34), 3) := by decide +kernel
theorem dX6_countRows_76 : decode cX6_countRows 76 = .ok (.aload_n 0, 1) := by decide +kernel
theorem dX6_countRows_77 : decode cX6_countRows 77 = .ok (.getfield 18, 3) := by decide +kernel
theorem dX6_countRows_80 : decode cX6_countRows 80 = .ok (.iload_n 3, 1) := by decide +kernel
theorem dX6_countRows_81 : decode cX6_countRows 81 = .ok (.invokestatic 38, 3) := by decide +kernel
theorem dX6_countRows_84 : decode cX6_countRows 84 = .ok (.lreturn, 1) := by decide +kernel
theorem dX6_joinKinds_0 : decode cX6_joinKinds 0 = .ok (.aload_n 1, 1) := by decide +kernel
theorem dX6_joinKinds_1 : decode cX6_joinKinds 1 = .ok (.getfield 29, 3) := by decide +kernel
theorem dX6_joinKinds_4 : decode cX6_joinKinds 4 = .ok (.iload_n 3, 1) := by decide +kernel
theorem dX6_joinKinds_5 : decode cX6_joinKinds 5 = .ok (.invokestatic 42, 3) := by decide +kernel
theorem dX6_joinKinds_8 : decode cX6_joinKinds 8 = .ok (.istore 6, 2) := by decide +kernel
theorem dX6_joinKinds_10 : decode cX6_joinKinds 10 = .ok (.iload 6, 2) := by decide +kernel
theorem dX6_joinKinds_12 : decode cX6_joinKinds 12 = .ok (.iload_n 3, 1) := by decide +kernel
theorem dX6_joinKinds_13 : decode cX6_joinKinds 13 = .ok (.if_icmp .ne 7, 3) := by decide +kernel
theorem dX6_joinKinds_16 : decode cX6_joinKinds 16 = .ok (.iconst 0, 1) := by decide +kernel
theorem dX6_joinKinds_17 : decode cX6_joinKinds 17 = .ok (.goto 12, 3) := by decide +kernel
theorem dX6_joinKinds_20 : decode cX6_joinKinds 20 = .ok (.aload_n 1, 1) := by decide +kernel
theorem dX6_joinKinds_21 : decode cX6_joinKinds 21 = .ok (.getfield 46, 3) := by decide +kernel
theorem dX6_joinKinds_24 : decode cX6_joinKinds 24 = .ok (.iload 6, 2) := by decide +kernel
theorem dX6_joinKinds_26 : decode cX6_joinKinds 26 = .ok (.invokestatic 42, 3) := by decide +kernel
theorem dX6_joinKinds_29 : decode cX6_joinKinds 29 = .ok (.istore 7, 2) := by decide +kernel
theorem dX6_joinKinds_31 : decode cX6_joinKinds 31 = .ok (.iconst 0, 1) := by decide +kernel
theorem dX6_joinKinds_32 : decode cX6_joinKinds 32 = .ok (.istore 8, 2) := by decide +kernel
theorem dX6_joinKinds_34 : decode cX6_joinKinds 34 = .ok (.iload 8, 2) := by decide +kernel
theorem dX6_joinKinds_36 : decode cX6_joinKinds 36 = .ok (.aload_n 0, 1) := by decide +kernel
theorem dX6_joinKinds_37 : decode cX6_joinKinds 37 = .ok (.getfield 22, 3) := by decide +kernel
theorem dX6_joinKinds_40 : decode cX6_joinKinds 40 = .ok (.arraylength, 1) := by decide +kernel
theorem dX6_joinKinds_41 : decode cX6_joinKinds 41 = .ok (.if_icmp .ge 17, 3) := by decide +kernel
theorem dX6_joinKinds_44 : decode cX6_joinKinds 44 = .ok (.aload_n 0, 1) := by decide +kernel
theorem dX6_joinKinds_45 : decode cX6_joinKinds 45 = .ok (.getfield 22, 3) := by decide +kernel
theorem dX6_joinKinds_48 : decode cX6_joinKinds 48 = .ok (.iload 8, 2) := by decide +kernel
theorem dX6_joinKinds_50 : decode cX6_joinKinds 50 = .ok (.lconst 0, 1) := by decide +kernel
theorem dX6_joinKinds_51 : decode cX6_joinKinds 51 = .ok (.lastore, 1) := by decide +kernel
theorem dX6_joinKinds_52 : decode cX6_joinKinds 52 = .ok (.iinc 8 1, 3) := by decide +kernel
theorem dX6_joinKinds_55 : decode cX6_joinKinds 55 = .ok (.goto (-21), 3) := by decide +kernel
theorem dX6_joinKinds_58 : decode cX6_joinKinds 58 = .ok (.iconst 0, 1) := by decide +kernel
theorem dX6_joinKinds_59 : decode cX6_joinKinds 59 = .ok (.istore 8, 2) := by decide +kernel
theorem dX6_joinKinds_61 : decode cX6_joinKinds 61 = .ok (.iload 8, 2) := by decide +kernel
theorem dX6_joinKinds_63 : decode cX6_joinKinds 63 = .ok (.aload_n 1, 1) := by decide +kernel
theorem dX6_joinKinds_64 : decode cX6_joinKinds 64 = .ok (.getfield 46, 3) := by decide +kernel
theorem dX6_joinKinds_67 : decode cX6_joinKinds 67 = .ok (.iload_n 3, 1) := by decide +kernel
theorem dX6_joinKinds_68 : decode cX6_joinKinds 68 = .ok (.invokestatic 42, 3) := by decide +kernel
theorem dX6_joinKinds_71 : decode cX6_joinKinds 71 = .ok (.if_icmp .gt 131, 3) := by decide +kernel
theorem dX6_joinKinds_74 : decode cX6_joinKinds 74 = .ok (.iconst 0, 1) := by decide +kernel
theorem dX6_joinKinds_75 : decode cX6_joinKinds 75 = .ok (.istore 9, 2) := by decide +kernel
theorem dX6_joinKinds_77 : decode cX6_joinKinds 77 = .ok (.iload 9, 2) := by decide +kernel
theorem dX6_joinKinds_79 : decode cX6_joinKinds 79 = .ok (.iload 7, 2) := by decide +kernel
theorem dX6_joinKinds_81 : decode cX6_joinKinds 81 = .ok (.if_icmp .gt 115, 3) := by decide +kernel
theorem dX6_joinKinds_84 : decode cX6_joinKinds 84 = .ok (.iload 4, 2) := by decide +kernel
theorem dX6_joinKinds_86 : decode cX6_joinKinds 86 = .ok (.iload_n 3, 1) := by decide +kernel
theorem dX6_joinKinds_87 : decode cX6_joinKinds 87 = .ok (.if_icmp .ne 18, 3) := by decide +kernel
theorem dX6_joinKinds_90 : decode cX6_joinKinds 90 = .ok (.iload 8, 2) := by decide +kernel
theorem dX6_joinKinds_92 : decode cX6_joinKinds 92 = .ok (.iload 5, 2) := by decide +kernel
theorem dX6_joinKinds_94 : decode cX6_joinKinds 94 = .ok (.if_icmp .ne 7, 3) := by decide +kernel
theorem dX6_joinKinds_97 : decode cX6_joinKinds 97 = .ok (.iconst 1, 1) := by decide +kernel
theorem dX6_joinKinds_98 : decode cX6_joinKinds 98 = .ok (.goto 26, 3) := by decide +kernel
theorem dX6_joinKinds_101 : decode cX6_joinKinds 101 = .ok (.iconst 0, 1) := by decide +kernel
theorem dX6_joinKinds_102 : decode cX6_joinKinds 102 = .ok (.goto 22, 3) := by decide +kernel
theorem dX6_joinKinds_105 : decode cX6_joinKinds 105 = .ok (.iload 4, 2) := by decide +kernel
theorem dX6_joinKinds_107 : decode cX6_joinKinds 107 = .ok (.iload 6, 2) := by decide +kernel
theorem dX6_joinKinds_109 : decode cX6_joinKinds 109 = .ok (.if_icmp .ne 10, 3) := by decide +kernel
theorem dX6_joinKinds_112 : decode cX6_joinKinds 112 = .ok (.iload 9, 2) := by decide +kernel
theorem dX6_joinKinds_114 : decode cX6_joinKinds 114 = .ok (.iload 5, 2) := by decide +kernel
theorem dX6_joinKinds_116 : decode cX6_joinKinds 116 = .ok (.if_icmp .ne 7, 3) := by decide +kernel
theorem dX6_joinKinds_119 : decode cX6_joinKinds 119 = .ok (.iconst 1, 1) := by decide +kernel
theorem dX6_joinKinds_120 : decode cX6_joinKinds 120 = .ok (.goto 4, 3) := by decide +kernel
theorem dX6_joinKinds_123 : decode cX6_joinKinds 123 = .ok (.iconst 0, 1) := by decide +kernel
theorem dX6_joinKinds_124 : decode cX6_joinKinds 124 = .ok (.istore 10, 2) := by decide +kernel
theorem dX6_joinKinds_126 : decode cX6_joinKinds 126 = .ok (.iload 6, 2) := by decide +kernel
theorem dX6_joinKinds_128 : decode cX6_joinKinds 128 = .ok (.iload_n 3, 1) := by decide +kernel
theorem dX6_joinKinds_129 : decode cX6_joinKinds 129 = .ok (.if_icmp .ne 10, 3) := by decide +kernel
theorem dX6_joinKinds_132 : decode cX6_joinKinds 132 = .ok (.iload 8, 2) := by decide +kernel
theorem dX6_joinKinds_134 : decode cX6_joinKinds 134 = .ok (.iconst 1, 1) := by decide +kernel
theorem dX6_joinKinds_135 : decode cX6_joinKinds 135 = .ok (.iand, 1) := by decide +kernel
theorem dX6_joinKinds_136 : decode cX6_joinKinds 136 = .ok (.goto 8, 3) := by decide +kernel
theorem dX6_joinKinds_139 : decode cX6_joinKinds 139 = .ok (.iload 8, 2) := by decide +kernel
theorem dX6_joinKinds_141 : decode cX6_joinKinds 141 = .ok (.iload 9, 2) := by decide +kernel
theorem dX6_joinKinds_143 : decode cX6_joinKinds 143 = .ok (.isub, 1) := by decide +kernel
theorem dX6_joinKinds_144 : decode cX6_joinKinds 144 = .ok (.istore 11, 2) := by decide +kernel
theorem dX6_joinKinds_146 : decode cX6_joinKinds 146 = .ok (.iload 10, 2) := by decide +kernel
theorem dX6_joinKinds_148 : decode cX6_joinKinds 148 = .ok (.ifCond .eq 42, 3) := by decide +kernel
theorem dX6_joinKinds_151 : decode cX6_joinKinds 151 = .ok (.aload_n 0, 1) := by decide +kernel
theorem dX6_joinKinds_152 : decode cX6_joinKinds 152 = .ok (.iload_n 2, 1) := by decide +kernel
theorem dX6_joinKinds_153 : decode cX6_joinKinds 153 = .ok (.iload_n 3, 1) := by decide +kernel
theorem dX6_joinKinds_154 : decode cX6_joinKinds 154 = .ok (.iload 11, 2) := by decide +kernel
theorem dX6_joinKinds_156 : decode cX6_joinKinds 156 = .ok (.invokevirtual 49, 3) := by decide +kernel
theorem dX6_joinKinds_159 : decode cX6_joinKinds 159 = .ok (.ifCond .eq 31, 3) := by decide +kernel
theorem dX6_joinKinds_162 : decode cX6_joinKinds 162 = .ok (.iload 6, 2) := by decide +kernel
theorem dX6_joinKinds_164 : decode cX6_joinKinds 164 = .ok (.iload_n 3, 1) := by decide +kernel
theorem dX6_joinKinds_165 : decode cX6_joinKinds 165 = .ok (.if_icmp .eq 16, 3) := by decide +kernel
theorem dX6_joinKinds_168 : decode cX6_joinKinds 168 = .ok (.aload_n 0, 1) := by decide +kernel
theorem dX6_joinKinds_169 : decode cX6_joinKinds 169 = .ok (.iload_n 2, 1) := by decide +kernel
theorem dX6_joinKinds_170 : decode cX6_joinKinds 170 = .ok (.iload 6, 2) := by decide +kernel
theorem dX6_joinKinds_172 : decode cX6_joinKinds 172 = .ok (.iload 11, 2) := by decide +kernel
theorem dX6_joinKinds_174 : decode cX6_joinKinds 174 = .ok (.ineg, 1) := by decide +kernel
theorem dX6_joinKinds_175 : decode cX6_joinKinds 175 = .ok (.invokevirtual 49, 3) := by decide +kernel
theorem dX6_joinKinds_178 : decode cX6_joinKinds 178 = .ok (.ifCond .eq 12, 3) := by decide +kernel
theorem dX6_joinKinds_181 : decode cX6_joinKinds 181 = .ok (.aload_n 0, 1) := by decide +kernel
theorem dX6_joinKinds_182 : decode cX6_joinKinds 182 = .ok (.iload 8, 2) := by decide +kernel
theorem dX6_joinKinds_184 : decode cX6_joinKinds 184 = .ok (.iload 9, 2) := by decide +kernel
theorem dX6_joinKinds_186 : decode cX6_joinKinds 186 = .ok (.iadd, 1) := by decide +kernel
theorem dX6_joinKinds_187 : decode cX6_joinKinds 187 = .ok (.invokevirtual 53, 3) := by decide +kernel
theorem dX6_joinKinds_190 : decode cX6_joinKinds 190 = .ok (.iinc 9 1, 3) := by decide +kernel
theorem dX6_joinKinds_193 : decode cX6_joinKinds 193 = .ok (.goto (-116), 3) := by decide +kernel
theorem dX6_joinKinds_196 : decode cX6_joinKinds 196 = .ok (.iinc 8 1, 3) := by decide +kernel
theorem dX6_joinKinds_199 : decode cX6_joinKinds 199 = .ok (.goto (-138), 3) := by decide +kernel
theorem dX6_joinKinds_202 : decode cX6_joinKinds 202 = .ok (.aload_n 0, 1) := by decide +kernel
theorem dX6_joinKinds_203 : decode cX6_joinKinds 203 = .ok (.getfield 18, 3) := by decide +kernel
theorem dX6_joinKinds_206 : decode cX6_joinKinds 206 = .ok (.astore 8, 2) := by decide +kernel
theorem dX6_joinKinds_208 : decode cX6_joinKinds 208 = .ok (.aload_n 0, 1) := by decide +kernel
theorem dX6_joinKinds_209 : decode cX6_joinKinds 209 = .ok (.aload_n 0, 1) := by decide +kernel
theorem dX6_joinKinds_210 : decode cX6_joinKinds 210 = .ok (.getfield 22, 3) := by decide +kernel
theorem dX6_joinKinds_213 : decode cX6_joinKinds 213 = .ok (.putfield 18, 3) := by decide +kernel
theorem dX6_joinKinds_216 : decode cX6_joinKinds 216 = .ok (.aload_n 0, 1) := by decide +kernel
theorem dX6_joinKinds_217 : decode cX6_joinKinds 217 = .ok (.aload 8, 2) := by decide +kernel
theorem dX6_joinKinds_219 : decode cX6_joinKinds 219 = .ok (.putfield 22, 3) := by decide +kernel
theorem dX6_joinKinds_222 : decode cX6_joinKinds 222 = .ok (.return_, 1) := by decide +kernel
theorem dX6_fits_0 : decode cX6_fits 0 = .ok (.iconst 0, 1) := by decide +kernel
theorem dX6_fits_1 : decode cX6_fits 1 = .ok (.istore 4, 2) := by decide +kernel
theorem dX6_fits_3 : decode cX6_fits 3 = .ok (.iload 4, 2) := by decide +kernel
theorem dX6_fits_5 : decode cX6_fits 5 = .ok (.iload_n 1, 1) := by decide +kernel
theorem dX6_fits_6 : decode cX6_fits 6 = .ok (.if_icmp .ge 44, 3) := by decide +kernel
theorem dX6_fits_9 : decode cX6_fits 9 = .ok (.iload 4, 2) := by decide +kernel
theorem dX6_fits_11 : decode cX6_fits 11 = .ok (.bipush 20, 2) := by decide +kernel
theorem dX6_fits_13 : decode cX6_fits 13 = .ok (.if_icmp .ge 37, 3) := by decide +kernel
theorem dX6_fits_16 : decode cX6_fits 16 = .ok (.aload_n 0, 1) := by decide +kernel
theorem dX6_fits_17 : decode cX6_fits 17 = .ok (.getfield 11, 3) := by decide +kernel
theorem dX6_fits_20 : decode cX6_fits 20 = .ok (.iload 4, 2) := by decide +kernel
theorem dX6_fits_22 : decode cX6_fits 22 = .ok (.iaload, 1) := by decide +kernel
theorem dX6_fits_23 : decode cX6_fits 23 = .ok (.iload_n 2, 1) := by decide +kernel
theorem dX6_fits_24 : decode cX6_fits 24 = .ok (.if_icmp .ne 20, 3) := by decide +kernel
theorem dX6_fits_27 : decode cX6_fits 27 = .ok (.aload_n 0, 1) := by decide +kernel
theorem dX6_fits_28 : decode cX6_fits 28 = .ok (.getfield 15, 3) := by decide +kernel
theorem dX6_fits_31 : decode cX6_fits 31 = .ok (.iload 4, 2) := by decide +kernel
theorem dX6_fits_33 : decode cX6_fits 33 = .ok (.iaload, 1) := by decide +kernel
theorem dX6_fits_34 : decode cX6_fits 34 = .ok (.iconst 0, 1) := by decide +kernel
theorem dX6_fits_35 : decode cX6_fits 35 = .ok (.iload_n 3, 1) := by decide +kernel
theorem dX6_fits_36 : decode cX6_fits 36 = .ok (.invokestatic 57, 3) := by decide +kernel
theorem dX6_fits_39 : decode cX6_fits 39 = .ok (.if_icmp .eq 5, 3) := by decide +kernel
theorem dX6_fits_42 : decode cX6_fits 42 = .ok (.iconst 0, 1) := by decide +kernel
theorem dX6_fits_43 : decode cX6_fits 43 = .ok (.ireturn, 1) := by decide +kernel
theorem dX6_fits_44 : decode cX6_fits 44 = .ok (.iinc 4 1, 3) := by decide +kernel
theorem dX6_fits_47 : decode cX6_fits 47 = .ok (.goto (-44), 3) := by decide +kernel
theorem dX6_fits_50 : decode cX6_fits 50 = .ok (.iconst 1, 1) := by decide +kernel
theorem dX6_fits_51 : decode cX6_fits 51 = .ok (.ireturn, 1) := by decide +kernel
theorem dX6_addShifted_0 : decode cX6_addShifted 0 = .ok (.iconst 0, 1) := by decide +kernel
theorem dX6_addShifted_1 : decode cX6_addShifted 1 = .ok (.istore_n 2, 1) := by decide +kernel
theorem dX6_addShifted_2 : decode cX6_addShifted 2 = .ok (.iload_n 2, 1) := by decide +kernel
theorem dX6_addShifted_3 : decode cX6_addShifted 3 = .ok (.aload_n 0, 1) := by decide +kernel
theorem dX6_addShifted_4 : decode cX6_addShifted 4 = .ok (.getfield 22, 3) := by decide +kernel
theorem dX6_addShifted_7 : decode cX6_addShifted 7 = .ok (.arraylength, 1) := by decide +kernel
theorem dX6_addShifted_8 : decode cX6_addShifted 8 = .ok (.if_icmp .ge 28, 3) := by decide +kernel
theorem dX6_addShifted_11 : decode cX6_addShifted 11 = .ok (.aload_n 0, 1) := by decide +kernel
theorem dX6_addShifted_12 : decode cX6_addShifted 12 = .ok (.getfield 22, 3) := by decide +kernel
theorem dX6_addShifted_15 : decode cX6_addShifted 15 = .ok (.iload_n 2, 1) := by decide +kernel
theorem dX6_addShifted_16 : decode cX6_addShifted 16 = .ok (.dup2, 1) := by decide +kernel
theorem dX6_addShifted_17 : decode cX6_addShifted 17 = .ok (.laload, 1) := by decide +kernel
theorem dX6_addShifted_18 : decode cX6_addShifted 18 = .ok (.aload_n 0, 1) := by decide +kernel
theorem dX6_addShifted_19 : decode cX6_addShifted 19 = .ok (.getfield 18, 3) := by decide +kernel
theorem dX6_addShifted_22 : decode cX6_addShifted 22 = .ok (.iload_n 2, 1) := by decide +kernel
theorem dX6_addShifted_23 : decode cX6_addShifted 23 = .ok (.iload_n 1, 1) := by decide +kernel
theorem dX6_addShifted_24 : decode cX6_addShifted 24 = .ok (.isub, 1) := by decide +kernel
theorem dX6_addShifted_25 : decode cX6_addShifted 25 = .ok (.invokestatic 38, 3) := by decide +kernel
theorem dX6_addShifted_28 : decode cX6_addShifted 28 = .ok (.ladd, 1) := by decide +kernel
theorem dX6_addShifted_29 : decode cX6_addShifted 29 = .ok (.lastore, 1) := by decide +kernel
theorem dX6_addShifted_30 : decode cX6_addShifted 30 = .ok (.iinc 2 1, 3) := by decide +kernel
theorem dX6_addShifted_33 : decode cX6_addShifted 33 = .ok (.goto (-31), 3) := by decide +kernel
theorem dX6_addShifted_36 : decode cX6_addShifted 36 = .ok (.return_, 1) := by decide +kernel
theorem dX7_init_0 : decode cX7_init 0 = .ok (.aload_n 0, 1) := by decide +kernel
theorem dX7_init_1 : decode cX7_init 1 = .ok (.invokespecial 3, 3) := by decide +kernel
theorem dX7_init_4 : decode cX7_init 4 = .ok (.aload_n 0, 1) := by decide +kernel
theorem dX7_init_5 : decode cX7_init 5 = .ok (.bipush 8, 2) := by decide +kernel
theorem dX7_init_7 : decode cX7_init 7 = .ok (.newarray .int, 2) := by decide +kernel
theorem dX7_init_9 : decode cX7_init 9 = .ok (.putfield 9, 3) := by decide +kernel
theorem dX7_init_12 : decode cX7_init 12 = .ok (.aload_n 0, 1) := by decide +kernel
theorem dX7_init_13 : decode cX7_init 13 = .ok (.bipush 8, 2) := by decide +kernel
theorem dX7_init_15 : decode cX7_init 15 = .ok (.newarray .int, 2) := by decide +kernel
theorem dX7_init_17 : decode cX7_init 17 = .ok (.putfield 15, 3) := by decide +kernel
theorem dX7_init_20 : decode cX7_init 20 = .ok (.aload_n 0, 1) := by decide +kernel
theorem dX7_init_21 : decode cX7_init 21 = .ok (.bipush 8, 2) := by decide +kernel
theorem dX7_init_23 : decode cX7_init 23 = .ok (.newarray .int, 2) := by decide +kernel
theorem dX7_init_25 : decode cX7_init 25 = .ok (.putfield 18, 3) := by decide +kernel
theorem dX7_init_28 : decode cX7_init 28 = .ok (.return_, 1) := by decide +kernel
theorem dX7_begin_0 : decode cX7_begin 0 = .ok (.aload_n 1, 1) := by decide +kernel
theorem dX7_begin_1 : decode cX7_begin 1 = .ok (.getfield 21, 3) := by decide +kernel
theorem dX7_begin_4 : decode cX7_begin 4 = .ok (.aload_n 0, 1) := by decide +kernel
theorem dX7_begin_5 : decode cX7_begin 5 = .ok (.getfield 9, 3) := by decide +kernel
theorem dX7_begin_8 : decode cX7_begin 8 = .ok (.invokestatic 26, 3) := by decide +kernel
theorem dX7_begin_11 : decode cX7_begin 11 = .ok (.iconst 0, 1) := by decide +kernel
theorem dX7_begin_12 : decode cX7_begin 12 = .ok (.istore_n 2, 1) := by decide +kernel
theorem dX7_begin_13 : decode cX7_begin 13 = .ok (.iload_n 2, 1) := by decide +kernel
theorem dX7_begin_14 : decode cX7_begin 14 = .ok (.bipush 8, 2) := by decide +kernel
theorem dX7_begin_16 : decode cX7_begin 16 = .ok (.if_icmp .ge 23, 3) := by decide +kernel
theorem dX7_begin_19 : decode cX7_begin 19 = .ok (.aload_n 0, 1) := by decide +kernel
theorem dX7_begin_20 : decode cX7_begin 20 = .ok (.getfield 15, 3) := by decide +kernel
theorem dX7_begin_23 : decode cX7_begin 23 = .ok (.iload_n 2, 1) := by decide +kernel
theorem dX7_begin_24 : decode cX7_begin 24 = .ok (.iconst 0, 1) := by decide +kernel
theorem dX7_begin_25 : decode cX7_begin 25 = .ok (.iastore, 1) := by decide +kernel
theorem dX7_begin_26 : decode cX7_begin 26 = .ok (.aload_n 0, 1) := by decide +kernel
theorem dX7_begin_27 : decode cX7_begin 27 = .ok (.getfield 18, 3) := by decide +kernel
theorem dX7_begin_30 : decode cX7_begin 30 = .ok (.iload_n 2, 1) := by decide +kernel
theorem dX7_begin_31 : decode cX7_begin 31 = .ok (.iconst 0, 1) := by decide +kernel
theorem dX7_begin_32 : decode cX7_begin 32 = .ok (.iastore, 1) := by decide +kernel
theorem dX7_begin_33 : decode cX7_begin 33 = .ok (.iinc 2 1, 3) := by decide +kernel
theorem dX7_begin_36 : decode cX7_begin 36 = .ok (.goto (-23), 3) := by decide +kernel
theorem dX7_begin_39 : decode cX7_begin 39 = .ok (.aload_n 0, 1) := by decide +kernel
theorem dX7_begin_40 : decode cX7_begin 40 = .ok (.iconst 0, 1) := by decide +kernel
theorem dX7_begin_41 : decode cX7_begin 41 = .ok (.putfield 30, 3) := by decide +kernel
theorem dX7_begin_44 : decode cX7_begin 44 = .ok (.aload_n 0, 1) := by decide +kernel
theorem dX7_begin_45 : decode cX7_begin 45 = .ok (.iconst 0, 1) := by decide +kernel
theorem dX7_begin_46 : decode cX7_begin 46 = .ok (.putfield 34, 3) := by decide +kernel
theorem dX7_begin_49 : decode cX7_begin 49 = .ok (.return_, 1) := by decide +kernel
theorem dX7_become_0 : decode cX7_become 0 = .ok (.aload_n 1, 1) := by decide +kernel
theorem dX7_become_1 : decode cX7_become 1 = .ok (.getfield 9, 3) := by decide +kernel
theorem dX7_become_4 : decode cX7_become 4 = .ok (.aload_n 0, 1) := by decide +kernel
theorem dX7_become_5 : decode cX7_become 5 = .ok (.getfield 9, 3) := by decide +kernel
theorem dX7_become_8 : decode cX7_become 8 = .ok (.invokestatic 26, 3) := by decide +kernel
theorem dX7_become_11 : decode cX7_become 11 = .ok (.aload_n 1, 1) := by decide +kernel
theorem dX7_become_12 : decode cX7_become 12 = .ok (.getfield 15, 3) := by decide +kernel
theorem dX7_become_15 : decode cX7_become 15 = .ok (.aload_n 0, 1) := by decide +kernel
theorem dX7_become_16 : decode cX7_become 16 = .ok (.getfield 15, 3) := by decide +kernel
theorem dX7_become_19 : decode cX7_become 19 = .ok (.invokestatic 26, 3) := by decide +kernel
theorem dX7_become_22 : decode cX7_become 22 = .ok (.aload_n 1, 1) := by decide +kernel
theorem dX7_become_23 : decode cX7_become 23 = .ok (.getfield 18, 3) := by decide +kernel
theorem dX7_become_26 : decode cX7_become 26 = .ok (.aload_n 0, 1) := by decide +kernel
theorem dX7_become_27 : decode cX7_become 27 = .ok (.getfield 18, 3) := by decide +kernel
theorem dX7_become_30 : decode cX7_become 30 = .ok (.invokestatic 26, 3) := by decide +kernel
theorem dX7_become_33 : decode cX7_become 33 = .ok (.aload_n 0, 1) := by decide +kernel
theorem dX7_become_34 : decode cX7_become 34 = .ok (.aload_n 1, 1) := by decide +kernel
theorem dX7_become_35 : decode cX7_become 35 = .ok (.getfield 30, 3) := by decide +kernel
theorem dX7_become_38 : decode cX7_become 38 = .ok (.putfield 30, 3) := by decide +kernel
theorem dX7_become_41 : decode cX7_become 41 = .ok (.aload_n 0, 1) := by decide +kernel
theorem dX7_become_42 : decode cX7_become 42 = .ok (.aload_n 1, 1) := by decide +kernel
theorem dX7_become_43 : decode cX7_become 43 = .ok (.getfield 34, 3) := by decide +kernel
theorem dX7_become_46 : decode cX7_become 46 = .ok (.putfield 34, 3) := by decide +kernel
theorem dX7_become_49 : decode cX7_become 49 = .ok (.return_, 1) := by decide +kernel
theorem dX7_drawOne_0 : decode cX7_drawOne 0 = .ok (.aload_n 1, 1) := by decide +kernel
theorem dX7_drawOne_1 : decode cX7_drawOne 1 = .ok (.getfield 38, 3) := by decide +kernel
theorem dX7_drawOne_4 : decode cX7_drawOne 4 = .ok (.iload_n 2, 1) := by decide +kernel
theorem dX7_drawOne_5 : decode cX7_drawOne 5 = .ok (.invokestatic 41, 3) := by decide +kernel
theorem dX7_drawOne_8 : decode cX7_drawOne 8 = .ok (.istore 4, 2) := by decide +kernel
theorem dX7_drawOne_10 : decode cX7_drawOne 10 = .ok (.aload_n 0, 1) := by decide +kernel
theorem dX7_drawOne_11 : decode cX7_drawOne 11 = .ok (.getfield 9, 3) := by decide +kernel
theorem dX7_drawOne_14 : decode cX7_drawOne 14 = .ok (.iload_n 2, 1) := by decide +kernel
theorem dX7_drawOne_15 : decode cX7_drawOne 15 = .ok (.iconst (-1), 1) := by decide +kernel
theorem dX7_drawOne_16 : decode cX7_drawOne 16 = .ok (.invokestatic 45, 3) := by decide +kernel
theorem dX7_drawOne_19 : decode cX7_drawOne 19 = .ok (.aload_n 0, 1) := by decide +kernel
theorem dX7_drawOne_20 : decode cX7_drawOne 20 = .ok (.dup, 1) := by decide +kernel
theorem dX7_drawOne_21 : decode cX7_drawOne 21 = .ok (.getfield 30, 3) := by decide +kernel
theorem dX7_drawOne_24 : decode cX7_drawOne 24 = .ok (.iconst 1, 1) := by decide +kernel
theorem dX7_drawOne_25 : decode cX7_drawOne 25 = .ok (.iadd, 1) := by decide +kernel
theorem dX7_drawOne_26 : decode cX7_drawOne 26 = .ok (.putfield 30, 3) := by decide +kernel
theorem dX7_drawOne_29 : decode cX7_drawOne 29 = .ok (.aload_n 0, 1) := by decide +kernel
theorem dX7_drawOne_30 : decode cX7_drawOne 30 = .ok (.getfield 15, 3) := by decide +kernel
theorem dX7_drawOne_33 : decode cX7_drawOne 33 = .ok (.iload 4, 2) := by decide +kernel
theorem dX7_drawOne_35 : decode cX7_drawOne 35 = .ok (.invokestatic 41, 3) := by decide +kernel
theorem dX7_drawOne_38 : decode cX7_drawOne 38 = .ok (.ifCond .le 29, 3) := by decide +kernel
theorem dX7_drawOne_41 : decode cX7_drawOne 41 = .ok (.aload_n 0, 1) := by decide +kernel
theorem dX7_drawOne_42 : decode cX7_drawOne 42 = .ok (.getfield 15, 3) := by decide +kernel
theorem dX7_drawOne_45 : decode cX7_drawOne 45 = .ok (.iload 4, 2) := by decide +kernel
theorem dX7_drawOne_47 : decode cX7_drawOne 47 = .ok (.iconst (-1), 1) := by decide +kernel
theorem dX7_drawOne_48 : decode cX7_drawOne 48 = .ok (.invokestatic 45, 3) := by decide +kernel
theorem dX7_drawOne_51 : decode cX7_drawOne 51 = .ok (.aload_n 0, 1) := by decide +kernel
theorem dX7_drawOne_52 : decode cX7_drawOne 52 = .ok (.getfield 18, 3) := by decide +kernel
theorem dX7_drawOne_55 : decode cX7_drawOne 55 = .ok (.iload_n 2, 1) := by decide +kernel
theorem dX7_drawOne_56 : decode cX7_drawOne 56 = .ok (.iload 4, 2) := by decide +kernel
theorem dX7_drawOne_58 : decode cX7_drawOne 58 = .ok (.invokestatic 49, 3) := by decide +kernel
theorem dX7_drawOne_61 : decode cX7_drawOne 61 = .ok (.iconst 1, 1) := by decide +kernel
theorem dX7_drawOne_62 : decode cX7_drawOne 62 = .ok (.invokestatic 45, 3) := by decide +kernel
theorem dX7_drawOne_65 : decode cX7_drawOne 65 = .ok (.iconst 1, 1) := by decide +kernel
theorem dX7_drawOne_66 : decode cX7_drawOne 66 = .ok (.ireturn, 1) := by decide +kernel
theorem dX7_drawOne_67 : decode cX7_drawOne 67 = .ok (.aload_n 0, 1) := by decide +kernel
theorem dX7_drawOne_68 : decode cX7_drawOne 68 = .ok (.getfield 15, 3) := by decide +kernel
theorem dX7_drawOne_71 : decode cX7_drawOne 71 = .ok (.invokestatic 55, 3) := by decide +kernel
theorem dX7_drawOne_74 : decode cX7_drawOne 74 = .ok (.aload_n 1, 1) := by decide +kernel
theorem dX7_drawOne_75 : decode cX7_drawOne 75 = .ok (.getfield 59, 3) := by decide +kernel
theorem dX7_drawOne_78 : decode cX7_drawOne 78 = .ok (.if_icmp .ge 14, 3) := by decide +kernel
theorem dX7_drawOne_81 : decode cX7_drawOne 81 = .ok (.aload_n 0, 1) := by decide +kernel
theorem dX7_drawOne_82 : decode cX7_drawOne 82 = .ok (.getfield 15, 3) := by decide +kernel
theorem dX7_drawOne_85 : decode cX7_drawOne 85 = .ok (.iload_n 2, 1) := by decide +kernel
theorem dX7_drawOne_86 : decode cX7_drawOne 86 = .ok (.iconst 1, 1) := by decide +kernel
theorem dX7_drawOne_87 : decode cX7_drawOne 87 = .ok (.invokestatic 45, 3) := by decide +kernel
theorem dX7_drawOne_90 : decode cX7_drawOne 90 = .ok (.iconst 0, 1) := by decide +kernel
theorem dX7_drawOne_91 : decode cX7_drawOne 91 = .ok (.ireturn, 1) := by decide +kernel
theorem dX7_drawOne_92 : decode cX7_drawOne 92 = .ok (.iload_n 3, 1) := by decide +kernel
theorem dX7_drawOne_93 : decode cX7_drawOne 93 = .ok (.iconst 2, 1) := by decide +kernel
theorem dX7_drawOne_94 : decode cX7_drawOne 94 = .ok (.if_icmp .eq 8, 3) := by decide +kernel
theorem dX7_drawOne_97 : decode cX7_drawOne 97 = .ok (.iload_n 3, 1) := by decide +kernel
theorem dX7_drawOne_98 : decode cX7_drawOne 98 = .ok (.iconst 3, 1) := by decide +kernel
theorem dX7_drawOne_99 : decode cX7_drawOne 99 = .ok (.if_icmp .ne 43, 3) := by decide +kernel
theorem dX7_drawOne_102 : decode cX7_drawOne 102 = .ok (.aload_n 0, 1) := by decide +kernel
theorem dX7_drawOne_103 : decode cX7_drawOne 103 = .ok (.aload_n 1, 1) := by decide +kernel
theorem dX7_drawOne_104 : decode cX7_drawOne 104 = .ok (.iload_n 3, 1) := by decide +kernel
theorem dX7_drawOne_105 : decode cX7_drawOne 105 = .ok (.invokevirtual 62, 3) := by decide +kernel
theorem dX7_drawOne_108 : decode cX7_drawOne 108 = .ok (.istore 5, 2) := by decide +kernel
theorem dX7_drawOne_110 : decode cX7_drawOne 110 = .ok (.aload_n 0, 1) := by decide +kernel
theorem dX7_drawOne_111 : decode cX7_drawOne 111 = .ok (.getfield 15, 3) := by decide +kernel
theorem dX7_drawOne_114 : decode cX7_drawOne 114 = .ok (.iload 5, 2) := by decide +kernel
theorem dX7_drawOne_116 : decode cX7_drawOne 116 = .ok (.iconst (-1), 1) := by decide +kernel
theorem dX7_drawOne_117 : decode cX7_drawOne 117 = .ok (.invokestatic 45, 3) := by decide +kernel
theorem dX7_drawOne_120 : decode cX7_drawOne 120 = .ok (.aload_n 0, 1) := by decide +kernel
theorem dX7_drawOne_121 : decode cX7_drawOne 121 = .ok (.getfield 9, 3) := by decide +kernel
theorem dX7_drawOne_124 : decode cX7_drawOne 124 = .ok (.iload 5, 2) := by decide +kernel
theorem dX7_drawOne_126 : decode cX7_drawOne 126 = .ok (.iconst 1, 1) := by decide +kernel
theorem dX7_drawOne_127 : decode cX7_drawOne 127 = .ok (.invokestatic 45, 3) := by decide +kernel
theorem dX7_drawOne_130 : decode cX7_drawOne 130 = .ok (.aload_n 0, 1) := by decide +kernel
theorem dX7_drawOne_131 : decode cX7_drawOne 131 = .ok (.getfield 15, 3) := by decide +kernel
theorem dX7_drawOne_134 : decode cX7_drawOne 134 = .ok (.iload_n 2, 1) := by decide +kernel
theorem dX7_drawOne_135 : decode cX7_drawOne 135 = .ok (.iconst 1, 1) := by decide +kernel
theorem dX7_drawOne_136 : decode cX7_drawOne 136 = .ok (.invokestatic 45, 3) := by decide +kernel
theorem dX7_drawOne_139 : decode cX7_drawOne 139 = .ok (.goto 26, 3) := by decide +kernel
theorem dX7_drawOne_142 : decode cX7_drawOne 142 = .ok (.aload_n 0, 1) := by decide +kernel
theorem dX7_drawOne_143 : decode cX7_drawOne 143 = .ok (.getfield 9, 3) := by decide +kernel
theorem dX7_drawOne_146 : decode cX7_drawOne 146 = .ok (.iload_n 2, 1) := by decide +kernel
theorem dX7_drawOne_147 : decode cX7_drawOne 147 = .ok (.iconst 1, 1) := by decide +kernel
theorem dX7_drawOne_148 : decode cX7_drawOne 148 = .ok (.invokestatic 45, 3) := by decide +kernel
theorem dX7_drawOne_151 : decode cX7_drawOne 151 = .ok (.aload_n 0, 1) := by decide +kernel
theorem dX7_drawOne_152 : decode cX7_drawOne 152 = .ok (.iload_n 3, 1) := by decide +kernel
theorem dX7_drawOne_153 : decode cX7_drawOne 153 = .ok (.iconst 1, 1) := by decide +kernel
theorem dX7_drawOne_154 : decode cX7_drawOne 154 = .ok (.if_icmp .ne 7, 3) := by decide +kernel
theorem dX7_drawOne_157 : decode cX7_drawOne 157 = .ok (.iconst 1, 1) := by decide +kernel
theorem dX7_drawOne_158 : decode cX7_drawOne 158 = .ok (.goto 4, 3) := by decide +kernel
theorem dX7_drawOne_161 : decode cX7_drawOne 161 = .ok (.iconst 0, 1) := by decide +kernel
theorem dX7_drawOne_162 : decode cX7_drawOne 162 = .ok (.putfield 34, 3) := by decide +kernel
theorem dX7_drawOne_165 : decode cX7_drawOne 165 = .ok (.iconst 2, 1) := by decide +kernel
theorem dX7_drawOne_166 : decode cX7_drawOne 166 = .ok (.ireturn, 1) := by decide +kernel
theorem dX7_goingBack_0 : decode cX7_goingBack 0 = .ok (.iconst (-1), 1) := by decide +kernel
theorem dX7_goingBack_1 : decode cX7_goingBack 1 = .ok (.istore_n 3, 1) := by decide +kernel
theorem dX7_goingBack_2 : decode cX7_goingBack 2 = .ok (.iconst 0, 1) := by decide +kernel
theorem dX7_goingBack_3 : decode cX7_goingBack 3 = .ok (.istore 4, 2) := by decide +kernel
theorem dX7_goingBack_5 : decode cX7_goingBack 5 = .ok (.iconst 0, 1) := by decide +kernel
theorem dX7_goingBack_6 : decode cX7_goingBack 6 = .ok (.istore 5, 2) := by decide +kernel
theorem dX7_goingBack_8 : decode cX7_goingBack 8 = .ok (.iload 5, 2) := by decide +kernel
theorem dX7_goingBack_10 : decode cX7_goingBack 10 = .ok (.bipush 8, 2) := by decide +kernel
theorem dX7_goingBack_12 : decode cX7_goingBack 12 = .ok (.if_icmp .ge 88, 3) := by decide +kernel
theorem dX7_goingBack_15 : decode cX7_goingBack 15 = .ok (.aload_n 0, 1) := by decide +kernel
theorem dX7_goingBack_16 : decode cX7_goingBack 16 = .ok (.getfield 9, 3) := by decide +kernel
theorem dX7_goingBack_19 : decode cX7_goingBack 19 = .ok (.aload_n 1, 1) := by decide +kernel
theorem dX7_goingBack_20 : decode cX7_goingBack 20 = .ok (.getfield 38, 3) := by decide +kernel
theorem dX7_goingBack_23 : decode cX7_goingBack 23 = .ok (.iload 5, 2) := by decide +kernel
theorem dX7_goingBack_25 : decode cX7_goingBack 25 = .ok (.invokestatic 41, 3) := by decide +kernel
theorem dX7_goingBack_28 : decode cX7_goingBack 28 = .ok (.invokestatic 41, 3) := by decide +kernel
theorem dX7_goingBack_31 : decode cX7_goingBack 31 = .ok (.istore 6, 2) := by decide +kernel
theorem dX7_goingBack_33 : decode cX7_goingBack 33 = .ok (.iload_n 2, 1) := by decide +kernel
theorem dX7_goingBack_34 : decode cX7_goingBack 34 = .ok (.iconst 2, 1) := by decide +kernel
theorem dX7_goingBack_35 : decode cX7_goingBack 35 = .ok (.if_icmp .ne 18, 3) := by decide +kernel
theorem dX7_goingBack_38 : decode cX7_goingBack 38 = .ok (.iload 6, 2) := by decide +kernel
theorem dX7_goingBack_40 : decode cX7_goingBack 40 = .ok (.iload 4, 2) := by decide +kernel
theorem dX7_goingBack_42 : decode cX7_goingBack 42 = .ok (.if_icmp .ge 7, 3) := by decide +kernel
theorem dX7_goingBack_45 : decode cX7_goingBack 45 = .ok (.iconst 1, 1) := by decide +kernel
theorem dX7_goingBack_46 : decode cX7_goingBack 46 = .ok (.goto 19, 3) := by decide +kernel
theorem dX7_goingBack_49 : decode cX7_goingBack 49 = .ok (.iconst 0, 1) := by decide +kernel
theorem dX7_goingBack_50 : decode cX7_goingBack 50 = .ok (.goto 15, 3) := by decide +kernel
theorem dX7_goingBack_53 : decode cX7_goingBack 53 = .ok (.iload 6, 2) := by decide +kernel
theorem dX7_goingBack_55 : decode cX7_goingBack 55 = .ok (.iload 4, 2) := by decide +kernel
theorem dX7_goingBack_57 : decode cX7_goingBack 57 = .ok (.if_icmp .le 7, 3) := by decide +kernel
theorem dX7_goingBack_60 : decode cX7_goingBack 60 = .ok (.iconst 1, 1) := by decide +kernel
theorem dX7_goingBack_61 : decode cX7_goingBack 61 = .ok (.goto 4, 3) := by decide +kernel
theorem dX7_goingBack_64 : decode cX7_goingBack 64 = .ok (.iconst 0, 1) := by decide +kernel
theorem dX7_goingBack_65 : decode cX7_goingBack 65 = .ok (.istore 7, 2) := by decide +kernel
theorem dX7_goingBack_67 : decode cX7_goingBack 67 = .ok (.aload_n 0, 1) := by decide +kernel
theorem dX7_goingBack_68 : decode cX7_goingBack 68 = .ok (.getfield 15, 3) := by decide +kernel
theorem dX7_goingBack_71 : decode cX7_goingBack 71 = .ok (.iload 5, 2) := by decide +kernel
theorem dX7_goingBack_73 : decode cX7_goingBack 73 = .ok (.iaload, 1) := by decide +kernel
theorem dX7_goingBack_74 : decode cX7_goingBack 74 = .ok (.ifCond .le 20, 3) := by decide +kernel
theorem dX7_goingBack_77 : decode cX7_goingBack 77 = .ok (.iload_n 3, 1) := by decide +kernel
theorem dX7_goingBack_78 : decode cX7_goingBack 78 = .ok (.iconst (-1), 1) := by decide +kernel
theorem dX7_goingBack_79 : decode cX7_goingBack 79 = .ok (.if_icmp .eq 8, 3) := by decide +kernel
theorem dX7_goingBack_82 : decode cX7_goingBack 82 = .ok (.iload 7, 2) := by decide +kernel
theorem dX7_goingBack_84 : decode cX7_goingBack 84 = .ok (.ifCond .eq 10, 3) := by decide +kernel
theorem dX7_goingBack_87 : decode cX7_goingBack 87 = .ok (.iload 5, 2) := by decide +kernel
theorem dX7_goingBack_89 : decode cX7_goingBack 89 = .ok (.istore_n 3, 1) := by decide +kernel
theorem dX7_goingBack_90 : decode cX7_goingBack 90 = .ok (.iload 6, 2) := by decide +kernel
theorem dX7_goingBack_92 : decode cX7_goingBack 92 = .ok (.istore 4, 2) := by decide +kernel
theorem dX7_goingBack_94 : decode cX7_goingBack 94 = .ok (.iinc 5 1, 3) := by decide +kernel
theorem dX7_goingBack_97 : decode cX7_goingBack 97 = .ok (.goto (-89), 3) := by decide +kernel
theorem dX7_goingBack_100 : decode cX7_goingBack 100 = .ok (.iload_n 3, 1) := by decide +kernel
theorem dX7_goingBack_101 : decode cX7_goingBack 101 = .ok (.ireturn, 1) := by decide +kernel
theorem dX7_takeAway_0 : decode cX7_takeAway 0 = .ok (.aload_n 0, 1) := by decide +kernel
theorem dX7_takeAway_1 : decode cX7_takeAway 1 = .ok (.getfield 15, 3) := by decide +kernel
theorem dX7_takeAway_4 : decode cX7_takeAway 4 = .ok (.iload_n 1, 1) := by decide +kernel
theorem dX7_takeAway_5 : decode cX7_takeAway 5 = .ok (.iconst (-1), 1) := by decide +kernel
theorem dX7_takeAway_6 : decode cX7_takeAway 6 = .ok (.invokestatic 45, 3) := by decide +kernel
theorem dX7_takeAway_9 : decode cX7_takeAway 9 = .ok (.aload_n 0, 1) := by decide +kernel
theorem dX7_takeAway_10 : decode cX7_takeAway 10 = .ok (.getfield 9, 3) := by decide +kernel
theorem dX7_takeAway_13 : decode cX7_takeAway 13 = .ok (.iload_n 1, 1) := by decide +kernel
theorem dX7_takeAway_14 : decode cX7_takeAway 14 = .ok (.iconst 1, 1) := by decide +kernel
theorem dX7_takeAway_15 : decode cX7_takeAway 15 = .ok (.invokestatic 45, 3) := by decide +kernel
theorem dX7_takeAway_18 : decode cX7_takeAway 18 = .ok (.aload_n 0, 1) := by decide +kernel
theorem dX7_takeAway_19 : decode cX7_takeAway 19 = .ok (.iconst 0, 1) := by decide +kernel
theorem dX7_takeAway_20 : decode cX7_takeAway 20 = .ok (.putfield 34, 3) := by decide +kernel
theorem dX7_takeAway_23 : decode cX7_takeAway 23 = .ok (.return_, 1) := by decide +kernel
theorem dX7_pick_0 : decode cX7_pick 0 = .ok (.aload_n 0, 1) := by decide +kernel
theorem dX7_pick_1 : decode cX7_pick 1 = .ok (.getfield 9, 3) := by decide +kernel
theorem dX7_pick_4 : decode cX7_pick 4 = .ok (.invokestatic 55, 3) := by decide +kernel
theorem dX7_pick_7 : decode cX7_pick 7 = .ok (.iload_n 1, 1) := by decide +kernel
theorem dX7_pick_8 : decode cX7_pick 8 = .ok (.aload_n 0, 1) := by decide +kernel
theorem dX7_pick_9 : decode cX7_pick 9 = .ok (.getfield 30, 3) := by decide +kernel
theorem dX7_pick_12 : decode cX7_pick 12 = .ok (.invokestatic 66, 3) := by decide +kernel
theorem dX7_pick_15 : decode cX7_pick 15 = .ok (.istore_n 2, 1) := by decide +kernel
theorem dX7_pick_16 : decode cX7_pick 16 = .ok (.iconst 0, 1) := by decide +kernel
theorem dX7_pick_17 : decode cX7_pick 17 = .ok (.istore_n 3, 1) := by decide +kernel
theorem dX7_pick_18 : decode cX7_pick 18 = .ok (.iload_n 3, 1) := by decide +kernel
theorem dX7_pick_19 : decode cX7_pick 19 = .ok (.bipush 8, 2) := by decide +kernel
theorem dX7_pick_21 : decode cX7_pick 21 = .ok (.if_icmp .ge 30, 3) := by decide +kernel
theorem dX7_pick_24 : decode cX7_pick 24 = .ok (.iload_n 2, 1) := by decide +kernel
theorem dX7_pick_25 : decode cX7_pick 25 = .ok (.aload_n 0, 1) := by decide +kernel
theorem dX7_pick_26 : decode cX7_pick 26 = .ok (.getfield 9, 3) := by decide +kernel
theorem dX7_pick_29 : decode cX7_pick 29 = .ok (.iload_n 3, 1) := by decide +kernel
theorem dX7_pick_30 : decode cX7_pick 30 = .ok (.iaload, 1) := by decide +kernel
theorem dX7_pick_31 : decode cX7_pick 31 = .ok (.if_icmp .ge 5, 3) := by decide +kernel
theorem dX7_pick_34 : decode cX7_pick 34 = .ok (.iload_n 3, 1) := by decide +kernel
theorem dX7_pick_35 : decode cX7_pick 35 = .ok (.ireturn, 1) := by decide +kernel
theorem dX7_pick_36 : decode cX7_pick 36 = .ok (.iload_n 2, 1) := by decide +kernel
theorem dX7_pick_37 : decode cX7_pick 37 = .ok (.aload_n 0, 1) := by decide +kernel
theorem dX7_pick_38 : decode cX7_pick 38 = .ok (.getfield 9, 3) := by decide +kernel
theorem dX7_pick_41 : decode cX7_pick 41 = .ok (.iload_n 3, 1) := by decide +kernel
theorem dX7_pick_42 : decode cX7_pick 42 = .ok (.iaload, 1) := by decide +kernel
theorem dX7_pick_43 : decode cX7_pick 43 = .ok (.isub, 1) := by decide +kernel
theorem dX7_pick_44 : decode cX7_pick 44 = .ok (.istore_n 2, 1) := by decide +kernel
theorem dX7_pick_45 : decode cX7_pick 45 = .ok (.iinc 3 1, 3) := by decide +kernel
theorem dX7_pick_48 : decode cX7_pick 48 = .ok (.goto (-30), 3) := by decide +kernel
theorem dX7_pick_51 : decode cX7_pick 51 = .ok (.iconst (-1), 1) := by decide +kernel
theorem dX7_pick_52 : decode cX7_pick 52 = .ok (.ireturn, 1) := by decide +kernel
theorem dX7_playOut_0 : decode cX7_playOut 0 = .ok (.iconst 0, 1) := by decide +kernel
theorem dX7_playOut_1 : decode cX7_playOut 1 = .ok (.istore 5, 2) := by decide +kernel
theorem dX7_playOut_3 : decode cX7_playOut 3 = .ok (.iload 5, 2) := by decide +kernel
theorem dX7_playOut_5 : decode cX7_playOut 5 = .ok (.iload 4, 2) := by decide +kernel
theorem dX7_playOut_7 : decode cX7_playOut 7 = .ok (.if_icmp .ge 38, 3) := by decide +kernel
theorem dX7_playOut_10 : decode cX7_playOut 10 = .ok (.aload_n 0, 1) := by decide +kernel
theorem dX7_playOut_11 : decode cX7_playOut 11 = .ok (.getfield 34, 3) := by decide +kernel
theorem dX7_playOut_14 : decode cX7_playOut 14 = .ok (.ifCond .ne 31, 3) := by decide +kernel
theorem dX7_playOut_17 : decode cX7_playOut 17 = .ok (.aload_n 0, 1) := by decide +kernel
theorem dX7_playOut_18 : decode cX7_playOut 18 = .ok (.getfield 9, 3) := by decide +kernel
theorem dX7_playOut_21 : decode cX7_playOut 21 = .ok (.invokestatic 55, 3) := by decide +kernel
theorem dX7_playOut_24 : decode cX7_playOut 24 = .ok (.ifCond .le 21, 3) := by decide +kernel
theorem dX7_playOut_27 : decode cX7_playOut 27 = .ok (.aload_n 0, 1) := by decide +kernel
theorem dX7_playOut_28 : decode cX7_playOut 28 = .ok (.aload_n 1, 1) := by decide +kernel
theorem dX7_playOut_29 : decode cX7_playOut 29 = .ok (.aload_n 0, 1) := by decide +kernel
theorem dX7_playOut_30 : decode cX7_playOut 30 = .ok (.iload_n 2, 1) := by decide +kernel
theorem dX7_playOut_31 : decode cX7_playOut 31 = .ok (.invokevirtual 70, 3) := by decide +kernel
theorem dX7_playOut_34 : decode cX7_playOut 34 = .ok (.iload_n 3, 1) := by decide +kernel
theorem dX7_playOut_35 : decode cX7_playOut 35 = .ok (.invokevirtual 74, 3) := by decide +kernel
theorem dX7_playOut_38 : decode cX7_playOut 38 = .ok (.pop, 1) := by decide +kernel
theorem dX7_playOut_39 : decode cX7_playOut 39 = .ok (.iinc 5 1, 3) := by decide +kernel
theorem dX7_playOut_42 : decode cX7_playOut 42 = .ok (.goto (-39), 3) := by decide +kernel
theorem dX7_playOut_45 : decode cX7_playOut 45 = .ok (.iload 5, 2) := by decide +kernel
theorem dX7_playOut_47 : decode cX7_playOut 47 = .ok (.ireturn, 1) := by decide +kernel
theorem dX8_init_0 : decode cX8_init 0 = .ok (.aload_n 0, 1) := by decide +kernel
theorem dX8_init_1 : decode cX8_init 1 = .ok (.invokespecial 3, 3) := by decide +kernel
theorem dX8_init_4 : decode cX8_init 4 = .ok (.aload_n 0, 1) := by decide +kernel
theorem dX8_init_5 : decode cX8_init 5 = .ok (.sipush 2000, 3) := by decide +kernel
theorem dX8_init_8 : decode cX8_init 8 = .ok (.newarray .int, 2) := by decide +kernel
theorem dX8_init_10 : decode cX8_init 10 = .ok (.putfield 9, 3) := by decide +kernel
theorem dX8_init_13 : decode cX8_init 13 = .ok (.aload_n 0, 1) := by decide +kernel
theorem dX8_init_14 : decode cX8_init 14 = .ok (.sipush 402, 3) := by decide +kernel
theorem dX8_init_17 : decode cX8_init 17 = .ok (.newarray .int, 2) := by decide +kernel
theorem dX8_init_19 : decode cX8_init 19 = .ok (.putfield 15, 3) := by decide +kernel
theorem dX8_init_22 : decode cX8_init 22 = .ok (.aload_n 0, 1) := by decide +kernel
theorem dX8_init_23 : decode cX8_init 23 = .ok (.sipush 402, 3) := by decide +kernel
theorem dX8_init_26 : decode cX8_init 26 = .ok (.newarray .long, 2) := by decide +kernel
theorem dX8_init_28 : decode cX8_init 28 = .ok (.putfield 18, 3) := by decide +kernel
theorem dX8_init_31 : decode cX8_init 31 = .ok (.aload_n 0, 1) := by decide +kernel
theorem dX8_init_32 : decode cX8_init 32 = .ok (.sipush 402, 3) := by decide +kernel
theorem dX8_init_35 : decode cX8_init 35 = .ok (.newarray .int, 2) := by decide +kernel
theorem dX8_init_37 : decode cX8_init 37 = .ok (.putfield 22, 3) := by decide +kernel
theorem dX8_init_40 : decode cX8_init 40 = .ok (.aload_n 0, 1) := by decide +kernel
theorem dX8_init_41 : decode cX8_init 41 = .ok (.bipush 22, 2) := by decide +kernel
theorem dX8_init_43 : decode cX8_init 43 = .ok (.newarray .long, 2) := by decide +kernel
theorem dX8_init_45 : decode cX8_init 45 = .ok (.putfield 25, 3) := by decide +kernel
theorem dX8_init_48 : decode cX8_init 48 = .ok (.iconst 0, 1) := by decide +kernel
theorem dX8_init_49 : decode cX8_init 49 = .ok (.istore_n 1, 1) := by decide +kernel
theorem dX8_init_50 : decode cX8_init 50 = .ok (.iconst 0, 1) := by decide +kernel
theorem dX8_init_51 : decode cX8_init 51 = .ok (.istore_n 2, 1) := by decide +kernel
theorem dX8_init_52 : decode cX8_init 52 = .ok (.iload_n 2, 1) := by decide +kernel
theorem dX8_init_53 : decode cX8_init 53 = .ok (.ldc 28, 2) := by decide +kernel
theorem dX8_init_55 : decode cX8_init 55 = .ok (.invokevirtual 30, 3) := by decide +kernel
theorem dX8_init_58 : decode cX8_init 58 = .ok (.if_icmp .ge 53, 3) := by decide +kernel
theorem dX8_init_61 : decode cX8_init 61 = .ok (.ldc 28, 2) := by decide +kernel
theorem dX8_init_63 : decode cX8_init 63 = .ok (.iload_n 2, 1) := by decide +kernel
theorem dX8_init_64 : decode cX8_init 64 = .ok (.invokevirtual 36, 3) := by decide +kernel
theorem dX8_init_67 : decode cX8_init 67 = .ok (.istore_n 3, 1) := by decide +kernel
theorem dX8_init_68 : decode cX8_init 68 = .ok (.iload_n 3, 1) := by decide +kernel
theorem dX8_init_69 : decode cX8_init 69 = .ok (.bipush 32, 2) := by decide +kernel
theorem dX8_init_71 : decode cX8_init 71 = .ok (.if_icmp .ne 9, 3) := by decide +kernel
theorem dX8_init_74 : decode cX8_init 74 = .ok (.iinc 1 1, 3) := by decide +kernel
theorem dX8_init_77 : decode cX8_init 77 = .ok (.goto 28, 3) := by decide +kernel
theorem dX8_init_80 : decode cX8_init 80 = .ok (.iload_n 1, 1) := by decide +kernel
theorem dX8_init_81 : decode cX8_init 81 = .ok (.aload_n 0, 1) := by decide +kernel
theorem dX8_init_82 : decode cX8_init 82 = .ok (.getfield 25, 3) := by decide +kernel
theorem dX8_init_85 : decode cX8_init 85 = .ok (.arraylength, 1) := by decide +kernel
theorem dX8_init_86 : decode cX8_init 86 = .ok (.if_icmp .ge 19, 3) := by decide +kernel
theorem dX8_init_89 : decode cX8_init 89 = .ok (.aload_n 0, 1) := by decide +kernel
theorem dX8_init_90 : decode cX8_init 90 = .ok (.getfield 25, 3) := by decide +kernel
theorem dX8_init_93 : decode cX8_init 93 = .ok (.iload_n 1, 1) := by decide +kernel
theorem dX8_init_94 : decode cX8_init 94 = .ok (.aload_n 0, 1) := by decide +kernel
theorem dX8_init_95 : decode cX8_init 95 = .ok (.getfield 25, 3) := by decide +kernel
theorem dX8_init_98 : decode cX8_init 98 = .ok (.iload_n 1, 1) := by decide +kernel
theorem dX8_init_99 : decode cX8_init 99 = .ok (.laload, 1) := by decide +kernel
theorem dX8_init_100 : decode cX8_init 100 = .ok (.iload_n 3, 1) := by decide +kernel
theorem dX8_init_101 : decode cX8_init 101 = .ok (.invokestatic 40, 3) := by decide +kernel
theorem dX8_init_104 : decode cX8_init 104 = .ok (.lastore, 1) := by decide +kernel
theorem dX8_init_105 : decode cX8_init 105 = .ok (.iinc 2 1, 3) := by decide +kernel
theorem dX8_init_108 : decode cX8_init 108 = .ok (.goto (-56), 3) := by decide +kernel
theorem dX8_init_111 : decode cX8_init 111 = .ok (.return_, 1) := by decide +kernel
theorem dX8_addFour_0 : decode cX8_addFour 0 = .ok (.bipush 24, 2) := by decide +kernel
theorem dX8_addFour_2 : decode cX8_addFour 2 = .ok (.istore_n 2, 1) := by decide +kernel
theorem dX8_addFour_3 : decode cX8_addFour 3 = .ok (.iload_n 2, 1) := by decide +kernel
theorem dX8_addFour_4 : decode cX8_addFour 4 = .ok (.ifCond .lt 37, 3) := by decide +kernel
theorem dX8_addFour_7 : decode cX8_addFour 7 = .ok (.aload_n 0, 1) := by decide +kernel
theorem dX8_addFour_8 : decode cX8_addFour 8 = .ok (.getfield 9, 3) := by decide +kernel
theorem dX8_addFour_11 : decode cX8_addFour 11 = .ok (.aload_n 0, 1) := by decide +kernel
theorem dX8_addFour_12 : decode cX8_addFour 12 = .ok (.getfield 44, 3) := by decide +kernel
theorem dX8_addFour_15 : decode cX8_addFour 15 = .ok (.iload_n 1, 1) := by decide +kernel
theorem dX8_addFour_16 : decode cX8_addFour 16 = .ok (.iload_n 2, 1) := by decide +kernel
theorem dX8_addFour_17 : decode cX8_addFour 17 = .ok (.iushr, 1) := by decide +kernel
theorem dX8_addFour_18 : decode cX8_addFour 18 = .ok (.sipush 255, 3) := by decide +kernel
theorem dX8_addFour_21 : decode cX8_addFour 21 = .ok (.iand, 1) := by decide +kernel
theorem dX8_addFour_22 : decode cX8_addFour 22 = .ok (.invokestatic 47, 3) := by decide +kernel
theorem dX8_addFour_25 : decode cX8_addFour 25 = .ok (.aload_n 0, 1) := by decide +kernel
theorem dX8_addFour_26 : decode cX8_addFour 26 = .ok (.dup, 1) := by decide +kernel
theorem dX8_addFour_27 : decode cX8_addFour 27 = .ok (.getfield 44, 3) := by decide +kernel
theorem dX8_addFour_30 : decode cX8_addFour 30 = .ok (.iconst 1, 1) := by decide +kernel
theorem dX8_addFour_31 : decode cX8_addFour 31 = .ok (.iadd, 1) := by decide +kernel
theorem dX8_addFour_32 : decode cX8_addFour 32 = .ok (.putfield 44, 3) := by decide +kernel
theorem dX8_addFour_35 : decode cX8_addFour 35 = .ok (.iinc 2 (-8), 3) := by decide +kernel
theorem dX8_addFour_38 : decode cX8_addFour 38 = .ok (.goto (-35), 3) := by decide +kernel
theorem dX8_addFour_41 : decode cX8_addFour 41 = .ok (.return_, 1) := by decide +kernel
theorem dX8_split_0 : decode cX8_split 0 = .ok (.aload_n 0, 1) := by decide +kernel
theorem dX8_split_1 : decode cX8_split 1 = .ok (.iconst 0, 1) := by decide +kernel
theorem dX8_split_2 : decode cX8_split 2 = .ok (.putfield 51, 3) := by decide +kernel
theorem dX8_split_5 : decode cX8_split 5 = .ok (.aload_n 0, 1) := by decide +kernel
theorem dX8_split_6 : decode cX8_split 6 = .ok (.iconst 0, 1) := by decide +kernel
theorem dX8_split_7 : decode cX8_split 7 = .ok (.invokevirtual 54, 3) := by decide +kernel
theorem dX8_split_10 : decode cX8_split 10 = .ok (.istore_n 1, 1) := by decide +kernel
theorem dX8_split_11 : decode cX8_split 11 = .ok (.iconst 0, 1) := by decide +kernel
theorem dX8_split_12 : decode cX8_split 12 = .ok (.istore_n 2, 1) := by decide +kernel
theorem dX8_split_13 : decode cX8_split 13 = .ok (.iload_n 2, 1) := by decide +kernel
theorem dX8_split_14 : decode cX8_split 14 = .ok (.sipush 400, 3) := by decide +kernel
theorem dX8_split_17 : decode cX8_split 17 = .ok (.if_icmp .gt 27, 3) := by decide +kernel
theorem dX8_split_20 : decode cX8_split 20 = .ok (.iload_n 1, 1) := by decide +kernel
theorem dX8_split_21 : decode cX8_split 21 = .ok (.aload_n 0, 1) := by decide +kernel
theorem dX8_split_22 : decode cX8_split 22 = .ok (.getfield 44, 3) := by decide +kernel
theorem dX8_split_25 : decode cX8_split 25 = .ok (.if_icmp .ge 19, 3) := by decide +kernel
theorem dX8_split_28 : decode cX8_split 28 = .ok (.aload_n 0, 1) := by decide +kernel
theorem dX8_split_29 : decode cX8_split 29 = .ok (.aload_n 0, 1) := by decide +kernel
theorem dX8_split_30 : decode cX8_split 30 = .ok (.iload_n 1, 1) := by decide +kernel
theorem dX8_split_31 : decode cX8_split 31 = .ok (.invokevirtual 58, 3) := by decide +kernel
theorem dX8_split_34 : decode cX8_split 34 = .ok (.invokevirtual 54, 3) := by decide +kernel
theorem dX8_split_37 : decode cX8_split 37 = .ok (.istore_n 1, 1) := by decide +kernel
theorem dX8_split_38 : decode cX8_split 38 = .ok (.iinc 2 1, 3) := by decide +kernel
theorem dX8_split_41 : decode cX8_split 41 = .ok (.goto (-28), 3) := by decide +kernel
theorem dX8_split_44 : decode cX8_split 44 = .ok (.aload_n 0, 1) := by decide +kernel
theorem dX8_split_45 : decode cX8_split 45 = .ok (.iconst 0, 1) := by decide +kernel
theorem dX8_split_46 : decode cX8_split 46 = .ok (.lconst 0, 1) := by decide +kernel
theorem dX8_split_47 : decode cX8_split 47 = .ok (.aload_n 0, 1) := by decide +kernel
theorem dX8_split_48 : decode cX8_split 48 = .ok (.getfield 44, 3) := by decide +kernel
theorem dX8_split_51 : decode cX8_split 51 = .ok (.invokevirtual 61, 3) := by decide +kernel
theorem dX8_split_54 : decode cX8_split 54 = .ok (.return_, 1) := by decide +kernel
theorem dX8_typeAt_0 : decode cX8_typeAt 0 = .ok (.iload_n 1, 1) := by decide +kernel
theorem dX8_typeAt_1 : decode cX8_typeAt 1 = .ok (.ifCond .lt 29, 3) := by decide +kernel
theorem dX8_typeAt_4 : decode cX8_typeAt 4 = .ok (.iload_n 1, 1) := by decide +kernel
theorem dX8_typeAt_5 : decode cX8_typeAt 5 = .ok (.aload_n 0, 1) := by decide +kernel
theorem dX8_typeAt_6 : decode cX8_typeAt 6 = .ok (.getfield 51, 3) := by decide +kernel
theorem dX8_typeAt_9 : decode cX8_typeAt 9 = .ok (.if_icmp .ge 21, 3) := by decide +kernel
theorem dX8_typeAt_12 : decode cX8_typeAt 12 = .ok (.iload_n 1, 1) := by decide +kernel
theorem dX8_typeAt_13 : decode cX8_typeAt 13 = .ok (.aload_n 0, 1) := by decide +kernel
theorem dX8_typeAt_14 : decode cX8_typeAt 14 = .ok (.getfield 15, 3) := by decide +kernel
theorem dX8_typeAt_17 : decode cX8_typeAt 17 = .ok (.arraylength, 1) := by decide +kernel
theorem dX8_typeAt_18 : decode cX8_typeAt 18 = .ok (.if_icmp .ge 12, 3) := by decide +kernel
theorem dX8_typeAt_21 : decode cX8_typeAt 21 = .ok (.aload_n 0, 1) := by decide +kernel
theorem dX8_typeAt_22 : decode cX8_typeAt 22 = .ok (.getfield 15, 3) := by decide +kernel
theorem dX8_typeAt_25 : decode cX8_typeAt 25 = .ok (.iload_n 1, 1) := by decide +kernel
theorem dX8_typeAt_26 : decode cX8_typeAt 26 = .ok (.iaload, 1) := by decide +kernel
theorem dX8_typeAt_27 : decode cX8_typeAt 27 = .ok (.goto 4, 3) := by decide +kernel
theorem dX8_typeAt_30 : decode cX8_typeAt 30 = .ok (.iconst 0, 1) := by decide +kernel
theorem dX8_typeAt_31 : decode cX8_typeAt 31 = .ok (.ireturn, 1) := by decide +kernel
theorem dX8_valueAt_0 : decode cX8_valueAt 0 = .ok (.aload_n 0, 1) := by decide +kernel
theorem dX8_valueAt_1 : decode cX8_valueAt 1 = .ok (.getfield 18, 3) := by decide +kernel
theorem dX8_valueAt_4 : decode cX8_valueAt 4 = .ok (.iload_n 1, 1) := by decide +kernel
theorem dX8_valueAt_5 : decode cX8_valueAt 5 = .ok (.invokestatic 65, 3) := by decide +kernel
theorem dX8_valueAt_8 : decode cX8_valueAt 8 = .ok (.lreturn, 1) := by decide +kernel
theorem dX8_intAt_0 : decode cX8_intAt 0 = .ok (.aload_n 0, 1) := by decide +kernel
theorem dX8_intAt_1 : decode cX8_intAt 1 = .ok (.getfield 18, 3) := by decide +kernel
theorem dX8_intAt_4 : decode cX8_intAt 4 = .ok (.iload_n 1, 1) := by decide +kernel
theorem dX8_intAt_5 : decode cX8_intAt 5 = .ok (.invokestatic 65, 3) := by decide +kernel
theorem dX8_intAt_8 : decode cX8_intAt 8 = .ok (.l2i, 1) := by decide +kernel
theorem dX8_intAt_9 : decode cX8_intAt 9 = .ok (.ireturn, 1) := by decide +kernel
theorem dX8_startAt_0 : decode cX8_startAt 0 = .ok (.aload_n 0, 1) := by decide +kernel
theorem dX8_startAt_1 : decode cX8_startAt 1 = .ok (.getfield 22, 3) := by decide +kernel
theorem dX8_startAt_4 : decode cX8_startAt 4 = .ok (.iload_n 1, 1) := by decide +kernel
theorem dX8_startAt_5 : decode cX8_startAt 5 = .ok (.invokestatic 69, 3) := by decide +kernel
theorem dX8_startAt_8 : decode cX8_startAt 8 = .ok (.ireturn, 1) := by decide +kernel
theorem dX8_afterBlanks_0 : decode cX8_afterBlanks 0 = .ok (.iload_n 1, 1) := by decide +kernel
theorem dX8_afterBlanks_1 : decode cX8_afterBlanks 1 = .ok (.istore_n 2, 1) := by decide +kernel
theorem dX8_afterBlanks_2 : decode cX8_afterBlanks 2 = .ok (.iload_n 2, 1) := by decide +kernel
theorem dX8_afterBlanks_3 : decode cX8_afterBlanks 3 = .ok (.aload_n 0, 1) := by decide +kernel
theorem dX8_afterBlanks_4 : decode cX8_afterBlanks 4 = .ok (.getfield 44, 3) := by decide +kernel
theorem dX8_afterBlanks_7 : decode cX8_afterBlanks 7 = .ok (.if_icmp .ge 23, 3) := by decide +kernel
theorem dX8_afterBlanks_10 : decode cX8_afterBlanks 10 = .ok (.aload_n 0, 1) := by decide +kernel
theorem dX8_afterBlanks_11 : decode cX8_afterBlanks 11 = .ok (.getfield 9, 3) := by decide +kernel
theorem dX8_afterBlanks_14 : decode cX8_afterBlanks 14 = .ok (.iload_n 2, 1) := by decide +kernel
theorem dX8_afterBlanks_15 : decode cX8_afterBlanks 15 = .ok (.invokestatic 69, 3) := by decide +kernel
theorem dX8_afterBlanks_18 : decode cX8_afterBlanks 18 = .ok (.invokestatic 73, 3) := by decide +kernel
theorem dX8_afterBlanks_21 : decode cX8_afterBlanks 21 = .ok (.ifCond .eq 9, 3) := by decide +kernel
theorem dX8_afterBlanks_24 : decode cX8_afterBlanks 24 = .ok (.iinc 2 1, 3) := by decide +kernel
theorem dX8_afterBlanks_27 : decode cX8_afterBlanks 27 = .ok (.goto (-25), 3) := by decide +kernel
theorem dX8_afterBlanks_30 : decode cX8_afterBlanks 30 = .ok (.iload_n 2, 1) := by decide +kernel
theorem dX8_afterBlanks_31 : decode cX8_afterBlanks 31 = .ok (.ireturn, 1) := by decide +kernel
theorem dX8_splitOff_0 : decode cX8_splitOff 0 = .ok (.aload_n 0, 1) := by decide +kernel
theorem dX8_splitOff_1 : decode cX8_splitOff 1 = .ok (.getfield 9, 3) := by decide +kernel
theorem dX8_splitOff_4 : decode cX8_splitOff 4 = .ok (.iload_n 1, 1) := by decide +kernel
theorem dX8_splitOff_5 : decode cX8_splitOff 5 = .ok (.invokestatic 69, 3) := by decide +kernel
theorem dX8_splitOff_8 : decode cX8_splitOff 8 = .ok (.istore_n 2, 1) := by decide +kernel
theorem dX8_splitOff_9 : decode cX8_splitOff 9 = .ok (.iload_n 2, 1) := by decide +kernel
theorem dX8_splitOff_10 : decode cX8_splitOff 10 = .ok (.invokestatic 77, 3) := by decide +kernel
theorem dX8_splitOff_13 : decode cX8_splitOff 13 = .ok (.ifCond .eq 9, 3) := by decide +kernel
theorem dX8_splitOff_16 : decode cX8_splitOff 16 = .ok (.aload_n 0, 1) := by decide +kernel
theorem dX8_splitOff_17 : decode cX8_splitOff 17 = .ok (.iload_n 1, 1) := by decide +kernel
theorem dX8_splitOff_18 : decode cX8_splitOff 18 = .ok (.invokevirtual 80, 3) := by decide +kernel
theorem dX8_splitOff_21 : decode cX8_splitOff 21 = .ok (.ireturn, 1) := by decide +kernel
theorem dX8_splitOff_22 : decode cX8_splitOff 22 = .ok (.iload_n 2, 1) := by decide +kernel
theorem dX8_splitOff_23 : decode cX8_splitOff 23 = .ok (.invokestatic 83, 3) := by decide +kernel
theorem dX8_splitOff_26 : decode cX8_splitOff 26 = .ok (.ifCond .eq 9, 3) := by decide +kernel
theorem dX8_splitOff_29 : decode cX8_splitOff 29 = .ok (.aload_n 0, 1) := by decide +kernel
theorem dX8_splitOff_30 : decode cX8_splitOff 30 = .ok (.iload_n 1, 1) := by decide +kernel
theorem dX8_splitOff_31 : decode cX8_splitOff 31 = .ok (.invokevirtual 86, 3) := by decide +kernel
theorem dX8_splitOff_34 : decode cX8_splitOff 34 = .ok (.ireturn, 1) := by decide +kernel
theorem dX8_splitOff_35 : decode cX8_splitOff 35 = .ok (.aload_n 0, 1) := by decide +kernel
theorem dX8_splitOff_36 : decode cX8_splitOff 36 = .ok (.iload_n 2, 1) := by decide +kernel
theorem dX8_splitOff_37 : decode cX8_splitOff 37 = .ok (.invokestatic 89, 3) := by decide +kernel
theorem dX8_splitOff_40 : decode cX8_splitOff 40 = .ok (.ifCond .eq 7, 3) := by decide +kernel
theorem dX8_splitOff_43 : decode cX8_splitOff 43 = .ok (.iload_n 2, 1) := by decide +kernel
theorem dX8_splitOff_44 : decode cX8_splitOff 44 = .ok (.goto 4, 3) := by decide +kernel
theorem dX8_splitOff_47 : decode cX8_splitOff 47 = .ok (.iconst 3, 1) := by decide +kernel
theorem dX8_splitOff_48 : decode cX8_splitOff 48 = .ok (.lconst 0, 1) := by decide +kernel
theorem dX8_splitOff_49 : decode cX8_splitOff 49 = .ok (.iload_n 1, 1) := by decide +kernel
theorem dX8_splitOff_50 : decode cX8_splitOff 50 = .ok (.invokevirtual 61, 3) := by decide +kernel
theorem dX8_splitOff_53 : decode cX8_splitOff 53 = .ok (.iload_n 1, 1) := by decide +kernel
theorem dX8_splitOff_54 : decode cX8_splitOff 54 = .ok (.iconst 1, 1) := by decide +kernel
theorem dX8_splitOff_55 : decode cX8_splitOff 55 = .ok (.iadd, 1) := by decide +kernel
theorem dX8_splitOff_56 : decode cX8_splitOff 56 = .ok (.ireturn, 1) := by decide +kernel
theorem dX8_splitOffLetters_0 : decode cX8_splitOffLetters 0 = .ok (.iload_n 1, 1) := by decide +kernel
theorem dX8_splitOffLetters_1 : decode cX8_splitOffLetters 1 = .ok (.istore_n 2, 1) := by decide +kernel
theorem dX8_splitOffLetters_2 : decode cX8_splitOffLetters 2 = .ok (.lconst 0, 1) := by decide +kernel
theorem dX8_splitOffLetters_3 : decode cX8_splitOffLetters 3 = .ok (.lstore_n 3, 1) := by decide +kernel
theorem dX8_splitOffLetters_4 : decode cX8_splitOffLetters 4 = .ok (.iload_n 2, 1) := by decide +kernel
theorem dX8_splitOffLetters_5 : decode cX8_splitOffLetters 5 = .ok (.aload_n 0, 1) := by decide +kernel
theorem dX8_splitOffLetters_6 : decode cX8_splitOffLetters 6 = .ok (.getfield 44, 3) := by decide +kernel
theorem dX8_splitOffLetters_9 : decode cX8_splitOffLetters 9 = .ok (.if_icmp .ge 48, 3) := by decide +kernel
theorem dX8_splitOffLetters_12 : decode cX8_splitOffLetters 12 = .ok (.aload_n 0, 1) := by decide +kernel
theorem dX8_splitOffLetters_13 : decode cX8_splitOffLetters 13 = .ok (.getfield 9, 3) := by decide +kernel
theorem dX8_splitOffLetters_16 : decode cX8_splitOffLetters 16 = .ok (.iload_n 2, 1) := by decide +kernel
theorem dX8_splitOffLetters_17 : decode cX8_splitOffLetters 17 = .ok (.invokestatic 69, 3) := by decide +kernel
theorem dX8_splitOffLetters_20 : decode cX8_splitOffLetters 20 = .ok (.invokestatic 77, 3) := by decide +kernel
theorem dX8_splitOffLetters_23 : decode cX8_splitOffLetters 23 = .ok (.ifCond .eq 34, 3) := by decide +kernel
theorem dX8_splitOffLetters_26 : decode cX8_splitOffLetters 26 = .ok (.iload_n 2, 1) := by decide +kernel
theorem dX8_splitOffLetters_27 : decode cX8_splitOffLetters 27 = .ok (.iload_n 1, 1) := by decide +kernel
theorem dX8_splitOffLetters_28 : decode cX8_splitOffLetters 28 = .ok (.isub, 1) := by decide +kernel
theorem dX8_splitOffLetters_29 : decode cX8_splitOffLetters 29 = .ok (.bipush 8, 2) := by decide +kernel
theorem dX8_splitOffLetters_31 : decode cX8_splitOffLetters 31 = .ok (.if_icmp .ge 18, 3) := by decide +kernel
theorem dX8_splitOffLetters_34 : decode cX8_splitOffLetters 34 = .ok (.lload_n 3, 1) := by decide +kernel
theorem dX8_splitOffLetters_35 : decode cX8_splitOffLetters 35 = .ok (.aload_n 0, 1) := by decide +kernel
theorem dX8_splitOffLetters_36 : decode cX8_splitOffLetters 36 = .ok (.getfield 9, 3) := by decide +kernel
theorem dX8_splitOffLetters_39 : decode cX8_splitOffLetters 39 = .ok (.iload_n 2, 1) := by decide +kernel
theorem dX8_splitOffLetters_40 : decode cX8_splitOffLetters 40 = .ok (.invokestatic 69, 3) := by decide +kernel
theorem dX8_splitOffLetters_43 : decode cX8_splitOffLetters 43 = .ok (.invokestatic 40, 3) := by decide +kernel
theorem dX8_splitOffLetters_46 : decode cX8_splitOffLetters 46 = .ok (.goto 4, 3) := by decide +kernel
theorem dX8_splitOffLetters_49 : decode cX8_splitOffLetters 49 = .ok (.lload_n 3, 1) := by decide +kernel
theorem dX8_splitOffLetters_50 : decode cX8_splitOffLetters 50 = .ok (.lstore_n 3, 1) := by decide +kernel
theorem dX8_splitOffLetters_51 : decode cX8_splitOffLetters 51 = .ok (.iinc 2 1, 3) := by decide +kernel
theorem dX8_splitOffLetters_54 : decode cX8_splitOffLetters 54 = .ok (.goto (-50), 3) := by decide +kernel
theorem dX8_splitOffLetters_57 : decode cX8_splitOffLetters 57 = .ok (.aload_n 0, 1) := by decide +kernel
theorem dX8_splitOffLetters_58 : decode cX8_splitOffLetters 58 = .ok (.iload_n 2, 1) := by decide +kernel
theorem dX8_splitOffLetters_59 : decode cX8_splitOffLetters 59 = .ok (.iload_n 1, 1) := by decide +kernel
theorem dX8_splitOffLetters_60 : decode cX8_splitOffLetters 60 = .ok (.isub, 1) := by decide +kernel
theorem dX8_splitOffLetters_61 : decode cX8_splitOffLetters 61 = .ok (.bipush 8, 2) := by decide +kernel
theorem dX8_splitOffLetters_63 : decode cX8_splitOffLetters 63 = .ok (.if_icmp .le 7, 3) := by decide +kernel
theorem dX8_splitOffLetters_66 : decode cX8_splitOffLetters 66 = .ok (.iconst 3, 1) := by decide +kernel
theorem dX8_splitOffLetters_67 : decode cX8_splitOffLetters 67 = .ok (.goto 8, 3) := by decide +kernel
theorem dX8_splitOffLetters_70 : decode cX8_splitOffLetters 70 = .ok (.aload_n 0, 1) := by decide +kernel
theorem dX8_splitOffLetters_71 : decode cX8_splitOffLetters 71 = .ok (.lload_n 3, 1) := by decide +kernel
theorem dX8_splitOffLetters_72 : decode cX8_splitOffLetters 72 = .ok (.invokevirtual 92, 3) := by decide +kernel
theorem dX8_splitOffLetters_75 : decode cX8_splitOffLetters 75 = .ok (.lload_n 3, 1) := by decide +kernel
theorem dX8_splitOffLetters_76 : decode cX8_splitOffLetters 76 = .ok (.iload_n 1, 1) := by decide +kernel
theorem dX8_splitOffLetters_77 : decode cX8_splitOffLetters 77 = .ok (.invokevirtual 61, 3) := by decide +kernel
theorem dX8_splitOffLetters_80 : decode cX8_splitOffLetters 80 = .ok (.iload_n 2, 1) := by decide +kernel
theorem dX8_splitOffLetters_81 : decode cX8_splitOffLetters 81 = .ok (.ireturn, 1) := by decide +kernel
theorem dX8_splitOffDigits_0 : decode cX8_splitOffDigits 0 = .ok (.iload_n 1, 1) := by decide +kernel
theorem dX8_splitOffDigits_1 : decode cX8_splitOffDigits 1 = .ok (.istore_n 2, 1) := by decide +kernel
theorem dX8_splitOffDigits_2 : decode cX8_splitOffDigits 2 = .ok (.iconst 0, 1) := by decide +kernel
theorem dX8_splitOffDigits_3 : decode cX8_splitOffDigits 3 = .ok (.istore_n 3, 1) := by decide +kernel
theorem dX8_splitOffDigits_4 : decode cX8_splitOffDigits 4 = .ok (.iload_n 2, 1) := by decide +kernel
theorem dX8_splitOffDigits_5 : decode cX8_splitOffDigits 5 = .ok (.aload_n 0, 1) := by decide +kernel
theorem dX8_splitOffDigits_6 : decode cX8_splitOffDigits 6 = .ok (.getfield 44, 3) := by decide +kernel
theorem dX8_splitOffDigits_9 : decode cX8_splitOffDigits 9 = .ok (.if_icmp .ge 51, 3) := by decide +kernel
theorem dX8_splitOffDigits_12 : decode cX8_splitOffDigits 12 = .ok (.aload_n 0, 1) := by decide +kernel
theorem dX8_splitOffDigits_13 : decode cX8_splitOffDigits 13 = .ok (.getfield 9, 3) := by decide +kernel
theorem dX8_splitOffDigits_16 : decode cX8_splitOffDigits 16 = .ok (.iload_n 2, 1) := by decide +kernel
theorem dX8_splitOffDigits_17 : decode cX8_splitOffDigits 17 = .ok (.invokestatic 69, 3) := by decide +kernel
theorem dX8_splitOffDigits_20 : decode cX8_splitOffDigits 20 = .ok (.invokestatic 83, 3) := by decide +kernel
theorem dX8_splitOffDigits_23 : decode cX8_splitOffDigits 23 = .ok (.ifCond .eq 37, 3) := by decide +kernel
theorem dX8_splitOffDigits_26 : decode cX8_splitOffDigits 26 = .ok (.iload_n 2, 1) := by decide +kernel
theorem dX8_splitOffDigits_27 : decode cX8_splitOffDigits 27 = .ok (.iload_n 1, 1) := by decide +kernel
theorem dX8_splitOffDigits_28 : decode cX8_splitOffDigits 28 = .ok (.isub, 1) := by decide +kernel
theorem dX8_splitOffDigits_29 : decode cX8_splitOffDigits 29 = .ok (.iconst 4, 1) := by decide +kernel
theorem dX8_splitOffDigits_30 : decode cX8_splitOffDigits 30 = .ok (.if_icmp .ge 22, 3) := by decide +kernel
theorem dX8_splitOffDigits_33 : decode cX8_splitOffDigits 33 = .ok (.bipush 10, 2) := by decide +kernel
theorem dX8_splitOffDigits_35 : decode cX8_splitOffDigits 35 = .ok (.iload_n 3, 1) := by decide +kernel
theorem dX8_splitOffDigits_36 : decode cX8_splitOffDigits 36 = .ok (.imul, 1) := by decide +kernel
theorem dX8_splitOffDigits_37 : decode cX8_splitOffDigits 37 = .ok (.aload_n 0, 1) := by decide +kernel
theorem dX8_splitOffDigits_38 : decode cX8_splitOffDigits 38 = .ok (.getfield 9, 3) := by decide +kernel
theorem dX8_splitOffDigits_41 : decode cX8_splitOffDigits 41 = .ok (.iload_n 2, 1) := by decide +kernel
theorem dX8_splitOffDigits_42 : decode cX8_splitOffDigits 42 = .ok (.invokestatic 69, 3) := by decide +kernel
theorem dX8_splitOffDigits_45 : decode cX8_splitOffDigits 45 = .ok (.iadd, 1) := by decide +kernel
theorem dX8_splitOffDigits_46 : decode cX8_splitOffDigits 46 = .ok (.bipush 48, 2) := by decide +kernel
theorem dX8_splitOffDigits_48 : decode cX8_splitOffDigits 48 = .ok (.isub, 1) := by decide +kernel
theorem dX8_splitOffDigits_49 : decode cX8_splitOffDigits 49 = .ok (.goto 4, 3) := by decide +kernel
theorem dX8_splitOffDigits_52 : decode cX8_splitOffDigits 52 = .ok (.iload_n 3, 1) := by decide +kernel
theorem dX8_splitOffDigits_53 : decode cX8_splitOffDigits 53 = .ok (.istore_n 3, 1) := by decide +kernel
theorem dX8_splitOffDigits_54 : decode cX8_splitOffDigits 54 = .ok (.iinc 2 1, 3) := by decide +kernel
theorem dX8_splitOffDigits_57 : decode cX8_splitOffDigits 57 = .ok (.goto (-53), 3) := by decide +kernel
theorem dX8_splitOffDigits_60 : decode cX8_splitOffDigits 60 = .ok (.aload_n 0, 1) := by decide +kernel
theorem dX8_splitOffDigits_61 : decode cX8_splitOffDigits 61 = .ok (.iload_n 2, 1) := by decide +kernel
theorem dX8_splitOffDigits_62 : decode cX8_splitOffDigits 62 = .ok (.iload_n 1, 1) := by decide +kernel
theorem dX8_splitOffDigits_63 : decode cX8_splitOffDigits 63 = .ok (.isub, 1) := by decide +kernel
theorem dX8_splitOffDigits_64 : decode cX8_splitOffDigits 64 = .ok (.iconst 4, 1) := by decide +kernel
theorem dX8_splitOffDigits_65 : decode cX8_splitOffDigits 65 = .ok (.if_icmp .le 7, 3) := by decide +kernel
theorem dX8_splitOffDigits_68 : decode cX8_splitOffDigits 68 = .ok (.iconst 3, 1) := by decide +kernel
theorem dX8_splitOffDigits_69 : decode cX8_splitOffDigits 69 = .ok (.goto 4, 3) := by decide +kernel
theorem dX8_splitOffDigits_72 : decode cX8_splitOffDigits 72 = .ok (.iconst 2, 1) := by decide +kernel
theorem dX8_splitOffDigits_73 : decode cX8_splitOffDigits 73 = .ok (.iload_n 3, 1) := by decide +kernel
theorem dX8_splitOffDigits_74 : decode cX8_splitOffDigits 74 = .ok (.i2l, 1) := by decide +kernel
theorem dX8_splitOffDigits_75 : decode cX8_splitOffDigits 75 = .ok (.iload_n 1, 1) := by decide +kernel
theorem dX8_splitOffDigits_76 : decode cX8_splitOffDigits 76 = .ok (.invokevirtual 61, 3) := by decide +kernel
theorem dX8_splitOffDigits_79 : decode cX8_splitOffDigits 79 = .ok (.iload_n 2, 1) := by decide +kernel
theorem dX8_splitOffDigits_80 : decode cX8_splitOffDigits 80 = .ok (.ireturn, 1) := by decide +kernel
theorem dX8_typeOfLetters_0 : decode cX8_typeOfLetters 0 = .ok (.iconst 0, 1) := by decide +kernel
theorem dX8_typeOfLetters_1 : decode cX8_typeOfLetters 1 = .ok (.istore_n 3, 1) := by decide +kernel
theorem dX8_typeOfLetters_2 : decode cX8_typeOfLetters 2 = .ok (.iload_n 3, 1) := by decide +kernel
theorem dX8_typeOfLetters_3 : decode cX8_typeOfLetters 3 = .ok (.aload_n 0, 1) := by decide +kernel
theorem dX8_typeOfLetters_4 : decode cX8_typeOfLetters 4 = .ok (.getfield 25, 3) := by decide +kernel
theorem dX8_typeOfLetters_7 : decode cX8_typeOfLetters 7 = .ok (.arraylength, 1) := by decide +kernel
theorem dX8_typeOfLetters_8 : decode cX8_typeOfLetters 8 = .ok (.if_icmp .ge 26, 3) := by decide +kernel
theorem dX8_typeOfLetters_11 : decode cX8_typeOfLetters 11 = .ok (.aload_n 0, 1) := by decide +kernel
theorem dX8_typeOfLetters_12 : decode cX8_typeOfLetters 12 = .ok (.getfield 25, 3) := by decide +kernel
theorem dX8_typeOfLetters_15 : decode cX8_typeOfLetters 15 = .ok (.iload_n 3, 1) := by decide +kernel
theorem dX8_typeOfLetters_16 : decode cX8_typeOfLetters 16 = .ok (.laload, 1) := by decide +kernel
theorem dX8_typeOfLetters_17 : decode cX8_typeOfLetters 17 = .ok (.lload_n 1, 1) := by decide +kernel
theorem dX8_typeOfLetters_18 : decode cX8_typeOfLetters 18 = .ok (.lcmp, 1) := by decide +kernel
theorem dX8_typeOfLetters_19 : decode cX8_typeOfLetters 19 = .ok (.ifCond .ne 9, 3) := by decide +kernel
theorem dX8_typeOfLetters_22 : decode cX8_typeOfLetters 22 = .ok (.sipush 128, 3) := by decide +kernel
theorem dX8_typeOfLetters_25 : decode cX8_typeOfLetters 25 = .ok (.iload_n 3, 1) := by decide +kernel
theorem dX8_typeOfLetters_26 : decode cX8_typeOfLetters 26 = .ok (.iadd, 1) := by decide +kernel
theorem dX8_typeOfLetters_27 : decode cX8_typeOfLetters 27 = .ok (.ireturn, 1) := by decide +kernel
theorem dX8_typeOfLetters_28 : decode cX8_typeOfLetters 28 = .ok (.iinc 3 1, 3) := by decide +kernel
theorem dX8_typeOfLetters_31 : decode cX8_typeOfLetters 31 = .ok (.goto (-29), 3) := by decide +kernel
theorem dX8_typeOfLetters_34 : decode cX8_typeOfLetters 34 = .ok (.iconst 1, 1) := by decide +kernel
theorem dX8_typeOfLetters_35 : decode cX8_typeOfLetters 35 = .ok (.ireturn, 1) := by decide +kernel
theorem dX8_addToken_0 : decode cX8_addToken 0 = .ok (.aload_n 0, 1) := by decide +kernel
theorem dX8_addToken_1 : decode cX8_addToken 1 = .ok (.getfield 51, 3) := by decide +kernel
theorem dX8_addToken_4 : decode cX8_addToken 4 = .ok (.ifCond .lt 80, 3) := by decide +kernel
theorem dX8_addToken_7 : decode cX8_addToken 7 = .ok (.aload_n 0, 1) := by decide +kernel
theorem dX8_addToken_8 : decode cX8_addToken 8 = .ok (.getfield 51, 3) := by decide +kernel
theorem dX8_addToken_11 : decode cX8_addToken 11 = .ok (.aload_n 0, 1) := by decide +kernel
theorem dX8_addToken_12 : decode cX8_addToken 12 = .ok (.getfield 15, 3) := by decide +kernel
theorem dX8_addToken_15 : decode cX8_addToken 15 = .ok (.arraylength, 1) := by decide +kernel
theorem dX8_addToken_16 : decode cX8_addToken 16 = .ok (.if_icmp .ge 68, 3) := by decide +kernel
theorem dX8_addToken_19 : decode cX8_addToken 19 = .ok (.aload_n 0, 1) := by decide +kernel
theorem dX8_addToken_20 : decode cX8_addToken 20 = .ok (.getfield 51, 3) := by decide +kernel
theorem dX8_addToken_23 : decode cX8_addToken 23 = .ok (.aload_n 0, 1) := by decide +kernel
theorem dX8_addToken_24 : decode cX8_addToken 24 = .ok (.getfield 18, 3) := by decide +kernel
theorem dX8_addToken_27 : decode cX8_addToken 27 = .ok (.arraylength, 1) := by decide +kernel
theorem dX8_addToken_28 : decode cX8_addToken 28 = .ok (.if_icmp .ge 56, 3) := by decide +kernel
theorem dX8_addToken_31 : decode cX8_addToken 31 = .ok (.aload_n 0, 1) := by decide +kernel
theorem dX8_addToken_32 : decode cX8_addToken 32 = .ok (.getfield 51, 3) := by decide +kernel
theorem dX8_addToken_35 : decode cX8_addToken 35 = .ok (.aload_n 0, 1) := by decide +kernel
theorem dX8_addToken_36 : decode cX8_addToken 36 = .ok (.getfield 22, 3) := by decide +kernel
theorem dX8_addToken_39 : decode cX8_addToken 39 = .ok (.arraylength, 1) := by decide +kernel
theorem dX8_addToken_40 : decode cX8_addToken 40 = .ok (.if_icmp .ge 44, 3) := by decide +kernel
theorem dX8_addToken_43 : decode cX8_addToken 43 = .ok (.aload_n 0, 1) := by decide +kernel
theorem dX8_addToken_44 : decode cX8_addToken 44 = .ok (.getfield 15, 3) := by decide +kernel
theorem dX8_addToken_47 : decode cX8_addToken 47 = .ok (.aload_n 0, 1) := by decide +kernel
theorem dX8_addToken_48 : decode cX8_addToken 48 = .ok (.getfield 51, 3) := by decide +kernel
theorem dX8_addToken_51 : decode cX8_addToken 51 = .ok (.iload_n 1, 1) := by decide +kernel
theorem dX8_addToken_52 : decode cX8_addToken 52 = .ok (.iastore, 1) := by decide +kernel
theorem dX8_addToken_53 : decode cX8_addToken 53 = .ok (.aload_n 0, 1) := by decide +kernel
theorem dX8_addToken_54 : decode cX8_addToken 54 = .ok (.getfield 18, 3) := by decide +kernel
theorem dX8_addToken_57 : decode cX8_addToken 57 = .ok (.aload_n 0, 1) := by decide +kernel
theorem dX8_addToken_58 : decode cX8_addToken 58 = .ok (.getfield 51, 3) := by decide +kernel
theorem dX8_addToken_61 : decode cX8_addToken 61 = .ok (.lload_n 2, 1) := by decide +kernel
theorem dX8_addToken_62 : decode cX8_addToken 62 = .ok (.lastore, 1) := by decide +kernel
theorem dX8_addToken_63 : decode cX8_addToken 63 = .ok (.aload_n 0, 1) := by decide +kernel
theorem dX8_addToken_64 : decode cX8_addToken 64 = .ok (.getfield 22, 3) := by decide +kernel
theorem dX8_addToken_67 : decode cX8_addToken 67 = .ok (.aload_n 0, 1) := by decide +kernel
theorem dX8_addToken_68 : decode cX8_addToken 68 = .ok (.getfield 51, 3) := by decide +kernel
theorem dX8_addToken_71 : decode cX8_addToken 71 = .ok (.iload 4, 2) := by decide +kernel
theorem dX8_addToken_73 : decode cX8_addToken 73 = .ok (.iastore, 1) := by decide +kernel
theorem dX8_addToken_74 : decode cX8_addToken 74 = .ok (.aload_n 0, 1) := by decide +kernel
theorem dX8_addToken_75 : decode cX8_addToken 75 = .ok (.dup, 1) := by decide +kernel
theorem dX8_addToken_76 : decode cX8_addToken 76 = .ok (.getfield 51, 3) := by decide +kernel
theorem dX8_addToken_79 : decode cX8_addToken 79 = .ok (.iconst 1, 1) := by decide +kernel
theorem dX8_addToken_80 : decode cX8_addToken 80 = .ok (.iadd, 1) := by decide +kernel
theorem dX8_addToken_81 : decode cX8_addToken 81 = .ok (.putfield 51, 3) := by decide +kernel
theorem dX8_addToken_84 : decode cX8_addToken 84 = .ok (.return_, 1) := by decide +kernel
theorem dX8_withLetter_0 : decode cX8_withLetter 0 = .ok (.ldc2_w 96, 3) := by decide +kernel
theorem dX8_withLetter_3 : decode cX8_withLetter 3 = .ok (.lload_n 0, 1) := by decide +kernel
theorem dX8_withLetter_4 : decode cX8_withLetter 4 = .ok (.lmul, 1) := by decide +kernel
theorem dX8_withLetter_5 : decode cX8_withLetter 5 = .ok (.iload_n 2, 1) := by decide +kernel
theorem dX8_withLetter_6 : decode cX8_withLetter 6 = .ok (.i2l, 1) := by decide +kernel
theorem dX8_withLetter_7 : decode cX8_withLetter 7 = .ok (.ladd, 1) := by decide +kernel
theorem dX8_withLetter_8 : decode cX8_withLetter 8 = .ok (.ldc2_w 98, 3) := by decide +kernel
theorem dX8_withLetter_11 : decode cX8_withLetter 11 = .ok (.lsub, 1) := by decide +kernel
theorem dX8_withLetter_12 : decode cX8_withLetter 12 = .ok (.lconst 1, 1) := by decide +kernel
theorem dX8_withLetter_13 : decode cX8_withLetter 13 = .ok (.ladd, 1) := by decide +kernel
theorem dX8_withLetter_14 : decode cX8_withLetter 14 = .ok (.lreturn, 1) := by decide +kernel
theorem dX8_isBlank_0 : decode cX8_isBlank 0 = .ok (.iload_n 0, 1) := by decide +kernel
theorem dX8_isBlank_1 : decode cX8_isBlank 1 = .ok (.bipush 9, 2) := by decide +kernel
theorem dX8_isBlank_3 : decode cX8_isBlank 3 = .ok (.if_icmp .eq 21, 3) := by decide +kernel
theorem dX8_isBlank_6 : decode cX8_isBlank 6 = .ok (.iload_n 0, 1) := by decide +kernel
theorem dX8_isBlank_7 : decode cX8_isBlank 7 = .ok (.bipush 10, 2) := by decide +kernel
theorem dX8_isBlank_9 : decode cX8_isBlank 9 = .ok (.if_icmp .eq 15, 3) := by decide +kernel
theorem dX8_isBlank_12 : decode cX8_isBlank 12 = .ok (.iload_n 0, 1) := by decide +kernel
theorem dX8_isBlank_13 : decode cX8_isBlank 13 = .ok (.bipush 13, 2) := by decide +kernel
theorem dX8_isBlank_15 : decode cX8_isBlank 15 = .ok (.if_icmp .eq 9, 3) := by decide +kernel
theorem dX8_isBlank_18 : decode cX8_isBlank 18 = .ok (.iload_n 0, 1) := by decide +kernel
theorem dX8_isBlank_19 : decode cX8_isBlank 19 = .ok (.bipush 32, 2) := by decide +kernel
theorem dX8_isBlank_21 : decode cX8_isBlank 21 = .ok (.if_icmp .ne 7, 3) := by decide +kernel
theorem dX8_isBlank_24 : decode cX8_isBlank 24 = .ok (.iconst 1, 1) := by decide +kernel
theorem dX8_isBlank_25 : decode cX8_isBlank 25 = .ok (.goto 4, 3) := by decide +kernel
theorem dX8_isBlank_28 : decode cX8_isBlank 28 = .ok (.iconst 0, 1) := by decide +kernel
theorem dX8_isBlank_29 : decode cX8_isBlank 29 = .ok (.ireturn, 1) := by decide +kernel
theorem dX8_isLetter_0 : decode cX8_isLetter 0 = .ok (.iload_n 0, 1) := by decide +kernel
theorem dX8_isLetter_1 : decode cX8_isLetter 1 = .ok (.bipush 97, 2) := by decide +kernel
theorem dX8_isLetter_3 : decode cX8_isLetter 3 = .ok (.if_icmp .lt 13, 3) := by decide +kernel
theorem dX8_isLetter_6 : decode cX8_isLetter 6 = .ok (.iload_n 0, 1) := by decide +kernel
theorem dX8_isLetter_7 : decode cX8_isLetter 7 = .ok (.bipush 122, 2) := by decide +kernel
theorem dX8_isLetter_9 : decode cX8_isLetter 9 = .ok (.if_icmp .gt 7, 3) := by decide +kernel
theorem dX8_isLetter_12 : decode cX8_isLetter 12 = .ok (.iconst 1, 1) := by decide +kernel
theorem dX8_isLetter_13 : decode cX8_isLetter 13 = .ok (.goto 4, 3) := by decide +kernel
theorem dX8_isLetter_16 : decode cX8_isLetter 16 = .ok (.iconst 0, 1) := by decide +kernel
theorem dX8_isLetter_17 : decode cX8_isLetter 17 = .ok (.ireturn, 1) := by decide +kernel
theorem dX8_isDigit_0 : decode cX8_isDigit 0 = .ok (.iload_n 0, 1) := by decide +kernel
theorem dX8_isDigit_1 : decode cX8_isDigit 1 = .ok (.bipush 48, 2) := by decide +kernel
theorem dX8_isDigit_3 : decode cX8_isDigit 3 = .ok (.if_icmp .lt 13, 3) := by decide +kernel
theorem dX8_isDigit_6 : decode cX8_isDigit 6 = .ok (.iload_n 0, 1) := by decide +kernel
theorem dX8_isDigit_7 : decode cX8_isDigit 7 = .ok (.bipush 57, 2) := by decide +kernel
theorem dX8_isDigit_9 : decode cX8_isDigit 9 = .ok (.if_icmp .gt 7, 3) := by decide +kernel
theorem dX8_isDigit_12 : decode cX8_isDigit 12 = .ok (.iconst 1, 1) := by decide +kernel
theorem dX8_isDigit_13 : decode cX8_isDigit 13 = .ok (.goto 4, 3) := by decide +kernel
theorem dX8_isDigit_16 : decode cX8_isDigit 16 = .ok (.iconst 0, 1) := by decide +kernel
theorem dX8_isDigit_17 : decode cX8_isDigit 17 = .ok (.ireturn, 1) := by decide +kernel
theorem dX8_isSign_0 : decode cX8_isSign 0 = .ok (.ldc 100, 2) := by decide +kernel
theorem dX8_isSign_2 : decode cX8_isSign 2 = .ok (.iload_n 0, 1) := by decide +kernel
theorem dX8_isSign_3 : decode cX8_isSign 3 = .ok (.i2c, 1) := by decide +kernel
theorem dX8_isSign_4 : decode cX8_isSign 4 = .ok (.invokevirtual 102, 3) := by decide +kernel
theorem dX8_isSign_7 : decode cX8_isSign 7 = .ok (.ifCond .lt 7, 3) := by decide +kernel
theorem dX8_isSign_10 : decode cX8_isSign 10 = .ok (.iconst 1, 1) := by decide +kernel
theorem dX8_isSign_11 : decode cX8_isSign 11 = .ok (.goto 4, 3) := by decide +kernel
theorem dX8_isSign_14 : decode cX8_isSign 14 = .ok (.iconst 0, 1) := by decide +kernel
theorem dX8_isSign_15 : decode cX8_isSign 15 = .ok (.ireturn, 1) := by decide +kernel
theorem dX9_init_0 : decode cX9_init 0 = .ok (.aload_n 0, 1) := by decide +kernel
theorem dX9_init_1 : decode cX9_init 1 = .ok (.invokespecial 3, 3) := by decide +kernel
theorem dX9_init_4 : decode cX9_init 4 = .ok (.aload_n 0, 1) := by decide +kernel
theorem dX9_init_5 : decode cX9_init 5 = .ok (.new 9, 3) := by decide +kernel
theorem dX9_init_8 : decode cX9_init 8 = .ok (.dup, 1) := by decide +kernel
theorem dX9_init_9 : decode cX9_init 9 = .ok (.invokespecial 11, 3) := by decide +kernel
theorem dX9_init_12 : decode cX9_init 12 = .ok (.putfield 12, 3) := by decide +kernel
theorem dX9_init_15 : decode cX9_init 15 = .ok (.aload_n 0, 1) := by decide +kernel
theorem dX9_init_16 : decode cX9_init 16 = .ok (.aload_n 0, 1) := by decide +kernel
theorem dX9_init_17 : decode cX9_init 17 = .ok (.getfield 12, 3) := by decide +kernel
theorem dX9_init_20 : decode cX9_init 20 = .ok (.getfield 18, 3) := by decide +kernel
theorem dX9_init_23 : decode cX9_init 23 = .ok (.putfield 22, 3) := by decide +kernel
theorem dX9_init_26 : decode cX9_init 26 = .ok (.aload_n 0, 1) := by decide +kernel
theorem dX9_init_27 : decode cX9_init 27 = .ok (.new 23, 3) := by decide +kernel
theorem dX9_init_30 : decode cX9_init 30 = .ok (.dup, 1) := by decide +kernel
theorem dX9_init_31 : decode cX9_init 31 = .ok (.invokespecial 25, 3) := by decide +kernel
theorem dX9_init_34 : decode cX9_init 34 = .ok (.putfield 26, 3) := by decide +kernel
theorem dX9_init_37 : decode cX9_init 37 = .ok (.return_, 1) := by decide +kernel
theorem dX9_tellAll_0 : decode cX9_tellAll 0 = .ok (.aload_n 0, 1) := by decide +kernel
theorem dX9_tellAll_1 : decode cX9_tellAll 1 = .ok (.getfield 26, 3) := by decide +kernel
theorem dX9_tellAll_4 : decode cX9_tellAll 4 = .ok (.invokevirtual 30, 3) := by decide +kernel
theorem dX9_tellAll_7 : decode cX9_tellAll 7 = .ok (.aload_n 0, 1) := by decide +kernel
theorem dX9_tellAll_8 : decode cX9_tellAll 8 = .ok (.getfield 26, 3) := by decide +kernel
theorem dX9_tellAll_11 : decode cX9_tellAll 11 = .ok (.getfield 33, 3) := by decide +kernel
theorem dX9_tellAll_14 : decode cX9_tellAll 14 = .ok (.aload_n 0, 1) := by decide +kernel
theorem dX9_tellAll_15 : decode cX9_tellAll 15 = .ok (.getfield 12, 3) := by decide +kernel
theorem dX9_tellAll_18 : decode cX9_tellAll 18 = .ok (.getfield 37, 3) := by decide +kernel
theorem dX9_tellAll_21 : decode cX9_tellAll 21 = .ok (.invokevirtual 38, 3) := by decide +kernel
theorem dX9_tellAll_24 : decode cX9_tellAll 24 = .ok (.aload_n 0, 1) := by decide +kernel
theorem dX9_tellAll_25 : decode cX9_tellAll 25 = .ok (.iconst 0, 1) := by decide +kernel
theorem dX9_tellAll_26 : decode cX9_tellAll 26 = .ok (.putfield 44, 3) := by decide +kernel
theorem dX9_tellAll_29 : decode cX9_tellAll 29 = .ok (.aload_n 0, 1) := by decide +kernel
theorem dX9_tellAll_30 : decode cX9_tellAll 30 = .ok (.iconst (-1), 1) := by decide +kernel
theorem dX9_tellAll_31 : decode cX9_tellAll 31 = .ok (.putfield 48, 3) := by decide +kernel
theorem dX9_tellAll_34 : decode cX9_tellAll 34 = .ok (.iconst 0, 1) := by decide +kernel
theorem dX9_tellAll_35 : decode cX9_tellAll 35 = .ok (.istore_n 1, 1) := by decide +kernel
theorem dX9_tellAll_36 : decode cX9_tellAll 36 = .ok (.iload_n 1, 1) := by decide +kernel
theorem dX9_tellAll_37 : decode cX9_tellAll 37 = .ok (.aload_n 0, 1) := by decide +kernel
theorem dX9_tellAll_38 : decode cX9_tellAll 38 = .ok (.getfield 22, 3) := by decide +kernel
theorem dX9_tellAll_41 : decode cX9_tellAll 41 = .ok (.getfield 51, 3) := by decide +kernel
theorem dX9_tellAll_44 : decode cX9_tellAll 44 = .ok (.if_icmp .ge 21, 3) := by decide +kernel
theorem dX9_tellAll_47 : decode cX9_tellAll 47 = .ok (.aload_n 0, 1) := by decide +kernel
theorem dX9_tellAll_48 : decode cX9_tellAll 48 = .ok (.getfield 44, 3) := by decide +kernel
theorem dX9_tellAll_51 : decode cX9_tellAll 51 = .ok (.ifCond .ne 14, 3) := by decide +kernel
theorem dX9_tellAll_54 : decode cX9_tellAll 54 = .ok (.aload_n 0, 1) := by decide +kernel
theorem dX9_tellAll_55 : decode cX9_tellAll 55 = .ok (.iload_n 1, 1) := by decide +kernel
theorem dX9_tellAll_56 : decode cX9_tellAll 56 = .ok (.invokevirtual 56, 3) := by decide +kernel
theorem dX9_tellAll_59 : decode cX9_tellAll 59 = .ok (.iinc 1 1, 3) := by decide +kernel
theorem dX9_tellAll_62 : decode cX9_tellAll 62 = .ok (.goto (-26), 3) := by decide +kernel
theorem dX9_tellAll_65 : decode cX9_tellAll 65 = .ok (.aload_n 0, 1) := by decide +kernel
theorem dX9_tellAll_66 : decode cX9_tellAll 66 = .ok (.getfield 44, 3) := by decide +kernel
theorem dX9_tellAll_69 : decode cX9_tellAll 69 = .ok (.ireturn, 1) := by decide +kernel
theorem dX9_tell_0 : decode cX9_tell 0 = .ok (.aload_n 0, 1) := by decide +kernel
theorem dX9_tell_1 : decode cX9_tell 1 = .ok (.getfield 22, 3) := by decide +kernel
theorem dX9_tell_4 : decode cX9_tell 4 = .ok (.iload_n 1, 1) := by decide +kernel
theorem dX9_tell_5 : decode cX9_tell 5 = .ok (.invokevirtual 60, 3) := by decide +kernel
theorem dX9_tell_8 : decode cX9_tell 8 = .ok (.tableswitch 186 128 140 #[68, 76, 84, 92, 112, 132, 186, 186, 186, 186, 156, 186, 166], 68) := by decide +kernel
theorem dX9_tell_76 : decode cX9_tell 76 = .ok (.aload_n 0, 1) := by decide +kernel
theorem dX9_tell_77 : decode cX9_tell 77 = .ok (.iload_n 1, 1) := by decide +kernel
theorem dX9_tell_78 : decode cX9_tell 78 = .ok (.invokevirtual 64, 3) := by decide +kernel
theorem dX9_tell_81 : decode cX9_tell 81 = .ok (.goto 113, 3) := by decide +kernel
theorem dX9_tell_84 : decode cX9_tell 84 = .ok (.aload_n 0, 1) := by decide +kernel
theorem dX9_tell_85 : decode cX9_tell 85 = .ok (.iload_n 1, 1) := by decide +kernel
theorem dX9_tell_86 : decode cX9_tell 86 = .ok (.invokevirtual 67, 3) := by decide +kernel
theorem dX9_tell_89 : decode cX9_tell 89 = .ok (.goto 105, 3) := by decide +kernel
theorem dX9_tell_92 : decode cX9_tell 92 = .ok (.aload_n 0, 1) := by decide +kernel
theorem dX9_tell_93 : decode cX9_tell 93 = .ok (.iload_n 1, 1) := by decide +kernel
theorem dX9_tell_94 : decode cX9_tell 94 = .ok (.invokevirtual 70, 3) := by decide +kernel
theorem dX9_tell_97 : decode cX9_tell 97 = .ok (.goto 97, 3) := by decide +kernel
theorem dX9_tell_100 : decode cX9_tell 100 = .ok (.aload_n 0, 1) := by decide +kernel
theorem dX9_tell_101 : decode cX9_tell 101 = .ok (.getfield 26, 3) := by decide +kernel
theorem dX9_tell_104 : decode cX9_tell 104 = .ok (.aload_n 0, 1) := by decide +kernel
theorem dX9_tell_105 : decode cX9_tell 105 = .ok (.iload_n 1, 1) := by decide +kernel
theorem dX9_tell_106 : decode cX9_tell 106 = .ok (.iconst 1, 1) := by decide +kernel
theorem dX9_tell_107 : decode cX9_tell 107 = .ok (.iadd, 1) := by decide +kernel
theorem dX9_tell_108 : decode cX9_tell 108 = .ok (.iconst 0, 1) := by decide +kernel
theorem dX9_tell_109 : decode cX9_tell 109 = .ok (.bipush 99, 2) := by decide +kernel
theorem dX9_tell_111 : decode cX9_tell 111 = .ok (.invokevirtual 73, 3) := by decide +kernel
theorem dX9_tell_114 : decode cX9_tell 114 = .ok (.putfield 77, 3) := by decide +kernel
theorem dX9_tell_117 : decode cX9_tell 117 = .ok (.goto 77, 3) := by decide +kernel
theorem dX9_tell_120 : decode cX9_tell 120 = .ok (.aload_n 0, 1) := by decide +kernel
theorem dX9_tell_121 : decode cX9_tell 121 = .ok (.getfield 26, 3) := by decide +kernel
theorem dX9_tell_124 : decode cX9_tell 124 = .ok (.aload_n 0, 1) := by decide +kernel
theorem dX9_tell_125 : decode cX9_tell 125 = .ok (.iload_n 1, 1) := by decide +kernel
theorem dX9_tell_126 : decode cX9_tell 126 = .ok (.iconst 1, 1) := by decide +kernel
theorem dX9_tell_127 : decode cX9_tell 127 = .ok (.iadd, 1) := by decide +kernel
theorem dX9_tell_128 : decode cX9_tell 128 = .ok (.iconst 1, 1) := by decide +kernel
theorem dX9_tell_129 : decode cX9_tell 129 = .ok (.bipush 18, 2) := by decide +kernel
theorem dX9_tell_131 : decode cX9_tell 131 = .ok (.invokevirtual 73, 3) := by decide +kernel
theorem dX9_tell_134 : decode cX9_tell 134 = .ok (.putfield 80, 3) := by decide +kernel
theorem dX9_tell_137 : decode cX9_tell 137 = .ok (.goto 57, 3) := by decide +kernel
theorem dX9_tell_140 : decode cX9_tell 140 = .ok (.aload_n 0, 1) := by decide +kernel
theorem dX9_tell_141 : decode cX9_tell 141 = .ok (.getfield 26, 3) := by decide +kernel
theorem dX9_tell_144 : decode cX9_tell 144 = .ok (.aload_n 0, 1) := by decide +kernel
theorem dX9_tell_145 : decode cX9_tell 145 = .ok (.getfield 22, 3) := by decide +kernel
theorem dX9_tell_148 : decode cX9_tell 148 = .ok (.iload_n 1, 1) := by decide +kernel
theorem dX9_tell_149 : decode cX9_tell 149 = .ok (.iconst 1, 1) := by decide +kernel
theorem dX9_tell_150 : decode cX9_tell 150 = .ok (.iadd, 1) := by decide +kernel
theorem dX9_tell_151 : decode cX9_tell 151 = .ok (.invokevirtual 60, 3) := by decide +kernel
theorem dX9_tell_154 : decode cX9_tell 154 = .ok (.sipush 134, 3) := by decide +kernel
theorem dX9_tell_157 : decode cX9_tell 157 = .ok (.isub, 1) := by decide +kernel
theorem dX9_tell_158 : decode cX9_tell 158 = .ok (.putfield 83, 3) := by decide +kernel
theorem dX9_tell_161 : decode cX9_tell 161 = .ok (.goto 33, 3) := by decide +kernel
theorem dX9_tell_164 : decode cX9_tell 164 = .ok (.aload_n 0, 1) := by decide +kernel
theorem dX9_tell_165 : decode cX9_tell 165 = .ok (.iload_n 1, 1) := by decide +kernel
theorem dX9_tell_166 : decode cX9_tell 166 = .ok (.iconst 1, 1) := by decide +kernel
theorem dX9_tell_167 : decode cX9_tell 167 = .ok (.iadd, 1) := by decide +kernel
theorem dX9_tell_168 : decode cX9_tell 168 = .ok (.invokevirtual 86, 3) := by decide +kernel
theorem dX9_tell_171 : decode cX9_tell 171 = .ok (.goto 23, 3) := by decide +kernel
theorem dX9_tell_174 : decode cX9_tell 174 = .ok (.aload_n 0, 1) := by decide +kernel
theorem dX9_tell_175 : decode cX9_tell 175 = .ok (.getfield 26, 3) := by decide +kernel
theorem dX9_tell_178 : decode cX9_tell 178 = .ok (.aload_n 0, 1) := by decide +kernel
theorem dX9_tell_179 : decode cX9_tell 179 = .ok (.getfield 22, 3) := by decide +kernel
theorem dX9_tell_182 : decode cX9_tell 182 = .ok (.iload_n 1, 1) := by decide +kernel
theorem dX9_tell_183 : decode cX9_tell 183 = .ok (.iconst 1, 1) := by decide +kernel
theorem dX9_tell_184 : decode cX9_tell 184 = .ok (.iadd, 1) := by decide +kernel
theorem dX9_tell_185 : decode cX9_tell 185 = .ok (.invokevirtual 89, 3) := by decide +kernel
theorem dX9_tell_188 : decode cX9_tell 188 = .ok (.putfield 92, 3) := by decide +kernel
theorem dX9_tell_191 : decode cX9_tell 191 = .ok (.goto 3, 3) := by decide +kernel
theorem dX9_tell_194 : decode cX9_tell 194 = .ok (.return_, 1) := by decide +kernel
theorem dX9_tellSock_0 : decode cX9_tellSock 0 = .ok (.aload_n 0, 1) := by decide +kernel
theorem dX9_tellSock_1 : decode cX9_tellSock 1 = .ok (.iload_n 1, 1) := by decide +kernel
theorem dX9_tellSock_2 : decode cX9_tellSock 2 = .ok (.iconst 1, 1) := by decide +kernel
theorem dX9_tellSock_3 : decode cX9_tellSock 3 = .ok (.iadd, 1) := by decide +kernel
theorem dX9_tellSock_4 : decode cX9_tellSock 4 = .ok (.invokevirtual 95, 3) := by decide +kernel
theorem dX9_tellSock_7 : decode cX9_tellSock 7 = .ok (.aload_n 0, 1) := by decide +kernel
theorem dX9_tellSock_8 : decode cX9_tellSock 8 = .ok (.iload_n 1, 1) := by decide +kernel
theorem dX9_tellSock_9 : decode cX9_tellSock 9 = .ok (.iconst 2, 1) := by decide +kernel
theorem dX9_tellSock_10 : decode cX9_tellSock 10 = .ok (.iadd, 1) := by decide +kernel
theorem dX9_tellSock_11 : decode cX9_tellSock 11 = .ok (.iconst 0, 1) := by decide +kernel
theorem dX9_tellSock_12 : decode cX9_tellSock 12 = .ok (.bipush 9, 2) := by decide +kernel
theorem dX9_tellSock_14 : decode cX9_tellSock 14 = .ok (.invokevirtual 73, 3) := by decide +kernel
theorem dX9_tellSock_17 : decode cX9_tellSock 17 = .ok (.istore_n 2, 1) := by decide +kernel
theorem dX9_tellSock_18 : decode cX9_tellSock 18 = .ok (.aload_n 0, 1) := by decide +kernel
theorem dX9_tellSock_19 : decode cX9_tellSock 19 = .ok (.getfield 26, 3) := by decide +kernel
theorem dX9_tellSock_22 : decode cX9_tellSock 22 = .ok (.getfield 98, 3) := by decide +kernel
theorem dX9_tellSock_25 : decode cX9_tellSock 25 = .ok (.invokestatic 101, 3) := by decide +kernel
theorem dX9_tellSock_28 : decode cX9_tellSock 28 = .ok (.iload_n 2, 1) := by decide +kernel
theorem dX9_tellSock_29 : decode cX9_tellSock 29 = .ok (.iadd, 1) := by decide +kernel
theorem dX9_tellSock_30 : decode cX9_tellSock 30 = .ok (.bipush 18, 2) := by decide +kernel
theorem dX9_tellSock_32 : decode cX9_tellSock 32 = .ok (.if_icmp .le 11, 3) := by decide +kernel
theorem dX9_tellSock_35 : decode cX9_tellSock 35 = .ok (.aload_n 0, 1) := by decide +kernel
theorem dX9_tellSock_36 : decode cX9_tellSock 36 = .ok (.iconst 5, 1) := by decide +kernel
theorem dX9_tellSock_37 : decode cX9_tellSock 37 = .ok (.iload_n 1, 1) := by decide +kernel
theorem dX9_tellSock_38 : decode cX9_tellSock 38 = .ok (.iconst 2, 1) := by decide +kernel
theorem dX9_tellSock_39 : decode cX9_tellSock 39 = .ok (.iadd, 1) := by decide +kernel
theorem dX9_tellSock_40 : decode cX9_tellSock 40 = .ok (.invokevirtual 105, 3) := by decide +kernel
theorem dX9_tellSock_43 : decode cX9_tellSock 43 = .ok (.aload_n 0, 1) := by decide +kernel
theorem dX9_tellSock_44 : decode cX9_tellSock 44 = .ok (.getfield 26, 3) := by decide +kernel
theorem dX9_tellSock_47 : decode cX9_tellSock 47 = .ok (.iload_n 2, 1) := by decide +kernel
theorem dX9_tellSock_48 : decode cX9_tellSock 48 = .ok (.aload_n 0, 1) := by decide +kernel
theorem dX9_tellSock_49 : decode cX9_tellSock 49 = .ok (.getfield 26, 3) := by decide +kernel
theorem dX9_tellSock_52 : decode cX9_tellSock 52 = .ok (.getfield 109, 3) := by decide +kernel
theorem dX9_tellSock_55 : decode cX9_tellSock 55 = .ok (.invokevirtual 112, 3) := by decide +kernel
theorem dX9_tellSock_58 : decode cX9_tellSock 58 = .ok (.aload_n 0, 1) := by decide +kernel
theorem dX9_tellSock_59 : decode cX9_tellSock 59 = .ok (.getfield 26, 3) := by decide +kernel
theorem dX9_tellSock_62 : decode cX9_tellSock 62 = .ok (.aload_n 0, 1) := by decide +kernel
theorem dX9_tellSock_63 : decode cX9_tellSock 63 = .ok (.getfield 22, 3) := by decide +kernel
theorem dX9_tellSock_66 : decode cX9_tellSock 66 = .ok (.iload_n 1, 1) := by decide +kernel
theorem dX9_tellSock_67 : decode cX9_tellSock 67 = .ok (.iconst 1, 1) := by decide +kernel
theorem dX9_tellSock_68 : decode cX9_tellSock 68 = .ok (.iadd, 1) := by decide +kernel
theorem dX9_tellSock_69 : decode cX9_tellSock 69 = .ok (.invokevirtual 115, 3) := by decide +kernel
theorem dX9_tellSock_72 : decode cX9_tellSock 72 = .ok (.aload_n 0, 1) := by decide +kernel
theorem dX9_tellSock_73 : decode cX9_tellSock 73 = .ok (.getfield 26, 3) := by decide +kernel
theorem dX9_tellSock_76 : decode cX9_tellSock 76 = .ok (.getfield 109, 3) := by decide +kernel
theorem dX9_tellSock_79 : decode cX9_tellSock 79 = .ok (.iconst 1, 1) := by decide +kernel
theorem dX9_tellSock_80 : decode cX9_tellSock 80 = .ok (.isub, 1) := by decide +kernel
theorem dX9_tellSock_81 : decode cX9_tellSock 81 = .ok (.invokevirtual 119, 3) := by decide +kernel
theorem dX9_tellSock_84 : decode cX9_tellSock 84 = .ok (.return_, 1) := by decide +kernel
theorem dX9_tellGlove_0 : decode cX9_tellGlove 0 = .ok (.aload_n 0, 1) := by decide +kernel
theorem dX9_tellGlove_1 : decode cX9_tellGlove 1 = .ok (.iload_n 1, 1) := by decide +kernel
theorem dX9_tellGlove_2 : decode cX9_tellGlove 2 = .ok (.iconst 1, 1) := by decide +kernel
theorem dX9_tellGlove_3 : decode cX9_tellGlove 3 = .ok (.iadd, 1) := by decide +kernel
theorem dX9_tellGlove_4 : decode cX9_tellGlove 4 = .ok (.invokevirtual 95, 3) := by decide +kernel
theorem dX9_tellGlove_7 : decode cX9_tellGlove 7 = .ok (.aload_n 0, 1) := by decide +kernel
theorem dX9_tellGlove_8 : decode cX9_tellGlove 8 = .ok (.iload_n 1, 1) := by decide +kernel
theorem dX9_tellGlove_9 : decode cX9_tellGlove 9 = .ok (.iconst 2, 1) := by decide +kernel
theorem dX9_tellGlove_10 : decode cX9_tellGlove 10 = .ok (.iadd, 1) := by decide +kernel
theorem dX9_tellGlove_11 : decode cX9_tellGlove 11 = .ok (.iconst 0, 1) := by decide +kernel
theorem dX9_tellGlove_12 : decode cX9_tellGlove 12 = .ok (.bipush 9, 2) := by decide +kernel
theorem dX9_tellGlove_14 : decode cX9_tellGlove 14 = .ok (.invokevirtual 73, 3) := by decide +kernel
theorem dX9_tellGlove_17 : decode cX9_tellGlove 17 = .ok (.istore_n 2, 1) := by decide +kernel
theorem dX9_tellGlove_18 : decode cX9_tellGlove 18 = .ok (.aload_n 0, 1) := by decide +kernel
theorem dX9_tellGlove_19 : decode cX9_tellGlove 19 = .ok (.iload_n 1, 1) := by decide +kernel
theorem dX9_tellGlove_20 : decode cX9_tellGlove 20 = .ok (.iconst 3, 1) := by decide +kernel
theorem dX9_tellGlove_21 : decode cX9_tellGlove 21 = .ok (.iadd, 1) := by decide +kernel
theorem dX9_tellGlove_22 : decode cX9_tellGlove 22 = .ok (.iconst 0, 1) := by decide +kernel
theorem dX9_tellGlove_23 : decode cX9_tellGlove 23 = .ok (.bipush 9, 2) := by decide +kernel
theorem dX9_tellGlove_25 : decode cX9_tellGlove 25 = .ok (.invokevirtual 73, 3) := by decide +kernel
theorem dX9_tellGlove_28 : decode cX9_tellGlove 28 = .ok (.istore_n 3, 1) := by decide +kernel
theorem dX9_tellGlove_29 : decode cX9_tellGlove 29 = .ok (.aload_n 0, 1) := by decide +kernel
theorem dX9_tellGlove_30 : decode cX9_tellGlove 30 = .ok (.getfield 26, 3) := by decide +kernel
theorem dX9_tellGlove_33 : decode cX9_tellGlove 33 = .ok (.getfield 98, 3) := by decide +kernel
theorem dX9_tellGlove_36 : decode cX9_tellGlove 36 = .ok (.invokestatic 101, 3) := by decide +kernel
theorem dX9_tellGlove_39 : decode cX9_tellGlove 39 = .ok (.iload_n 2, 1) := by decide +kernel
theorem dX9_tellGlove_40 : decode cX9_tellGlove 40 = .ok (.iadd, 1) := by decide +kernel
theorem dX9_tellGlove_41 : decode cX9_tellGlove 41 = .ok (.iload_n 3, 1) := by decide +kernel
theorem dX9_tellGlove_42 : decode cX9_tellGlove 42 = .ok (.iadd, 1) := by decide +kernel
theorem dX9_tellGlove_43 : decode cX9_tellGlove 43 = .ok (.bipush 18, 2) := by decide +kernel
theorem dX9_tellGlove_45 : decode cX9_tellGlove 45 = .ok (.if_icmp .le 11, 3) := by decide +kernel
theorem dX9_tellGlove_48 : decode cX9_tellGlove 48 = .ok (.aload_n 0, 1) := by decide +kernel
theorem dX9_tellGlove_49 : decode cX9_tellGlove 49 = .ok (.iconst 5, 1) := by decide +kernel
theorem dX9_tellGlove_50 : decode cX9_tellGlove 50 = .ok (.iload_n 1, 1) := by decide +kernel
theorem dX9_tellGlove_51 : decode cX9_tellGlove 51 = .ok (.iconst 3, 1) := by decide +kernel
theorem dX9_tellGlove_52 : decode cX9_tellGlove 52 = .ok (.iadd, 1) := by decide +kernel
theorem dX9_tellGlove_53 : decode cX9_tellGlove 53 = .ok (.invokevirtual 105, 3) := by decide +kernel
theorem dX9_tellGlove_56 : decode cX9_tellGlove 56 = .ok (.aload_n 0, 1) := by decide +kernel
theorem dX9_tellGlove_57 : decode cX9_tellGlove 57 = .ok (.getfield 26, 3) := by decide +kernel
theorem dX9_tellGlove_60 : decode cX9_tellGlove 60 = .ok (.iload_n 2, 1) := by decide +kernel
theorem dX9_tellGlove_61 : decode cX9_tellGlove 61 = .ok (.aload_n 0, 1) := by decide +kernel
theorem dX9_tellGlove_62 : decode cX9_tellGlove 62 = .ok (.getfield 26, 3) := by decide +kernel
theorem dX9_tellGlove_65 : decode cX9_tellGlove 65 = .ok (.getfield 109, 3) := by decide +kernel
theorem dX9_tellGlove_68 : decode cX9_tellGlove 68 = .ok (.iconst 1, 1) := by decide +kernel
theorem dX9_tellGlove_69 : decode cX9_tellGlove 69 = .ok (.iadd, 1) := by decide +kernel
theorem dX9_tellGlove_70 : decode cX9_tellGlove 70 = .ok (.invokevirtual 112, 3) := by decide +kernel
theorem dX9_tellGlove_73 : decode cX9_tellGlove 73 = .ok (.aload_n 0, 1) := by decide +kernel
theorem dX9_tellGlove_74 : decode cX9_tellGlove 74 = .ok (.getfield 26, 3) := by decide +kernel
theorem dX9_tellGlove_77 : decode cX9_tellGlove 77 = .ok (.iload_n 3, 1) := by decide +kernel
theorem dX9_tellGlove_78 : decode cX9_tellGlove 78 = .ok (.aload_n 0, 1) := by decide +kernel
theorem dX9_tellGlove_79 : decode cX9_tellGlove 79 = .ok (.getfield 26, 3) := by decide +kernel
theorem dX9_tellGlove_82 : decode cX9_tellGlove 82 = .ok (.getfield 109, 3) := by decide +kernel
theorem dX9_tellGlove_85 : decode cX9_tellGlove 85 = .ok (.iconst 1, 1) := by decide +kernel
theorem dX9_tellGlove_86 : decode cX9_tellGlove 86 = .ok (.isub, 1) := by decide +kernel
theorem dX9_tellGlove_87 : decode cX9_tellGlove 87 = .ok (.invokevirtual 112, 3) := by decide +kernel
theorem dX9_tellGlove_90 : decode cX9_tellGlove 90 = .ok (.aload_n 0, 1) := by decide +kernel
theorem dX9_tellGlove_91 : decode cX9_tellGlove 91 = .ok (.getfield 26, 3) := by decide +kernel
theorem dX9_tellGlove_94 : decode cX9_tellGlove 94 = .ok (.aload_n 0, 1) := by decide +kernel
theorem dX9_tellGlove_95 : decode cX9_tellGlove 95 = .ok (.getfield 22, 3) := by decide +kernel
theorem dX9_tellGlove_98 : decode cX9_tellGlove 98 = .ok (.iload_n 1, 1) := by decide +kernel
theorem dX9_tellGlove_99 : decode cX9_tellGlove 99 = .ok (.iconst 1, 1) := by decide +kernel
theorem dX9_tellGlove_100 : decode cX9_tellGlove 100 = .ok (.iadd, 1) := by decide +kernel
theorem dX9_tellGlove_101 : decode cX9_tellGlove 101 = .ok (.invokevirtual 115, 3) := by decide +kernel
theorem dX9_tellGlove_104 : decode cX9_tellGlove 104 = .ok (.aload_n 0, 1) := by decide +kernel
theorem dX9_tellGlove_105 : decode cX9_tellGlove 105 = .ok (.getfield 26, 3) := by decide +kernel
theorem dX9_tellGlove_108 : decode cX9_tellGlove 108 = .ok (.getfield 109, 3) := by decide +kernel
theorem dX9_tellGlove_111 : decode cX9_tellGlove 111 = .ok (.iconst 2, 1) := by decide +kernel
theorem dX9_tellGlove_112 : decode cX9_tellGlove 112 = .ok (.isub, 1) := by decide +kernel
theorem dX9_tellGlove_113 : decode cX9_tellGlove 113 = .ok (.invokevirtual 119, 3) := by decide +kernel
theorem dX9_tellGlove_116 : decode cX9_tellGlove 116 = .ok (.return_, 1) := by decide +kernel
theorem dX9_tellLike_0 : decode cX9_tellLike 0 = .ok (.aload_n 0, 1) := by decide +kernel
theorem dX9_tellLike_1 : decode cX9_tellLike 1 = .ok (.iload_n 1, 1) := by decide +kernel
theorem dX9_tellLike_2 : decode cX9_tellLike 2 = .ok (.iconst 1, 1) := by decide +kernel
theorem dX9_tellLike_3 : decode cX9_tellLike 3 = .ok (.iadd, 1) := by decide +kernel
theorem dX9_tellLike_4 : decode cX9_tellLike 4 = .ok (.invokevirtual 123, 3) := by decide +kernel
theorem dX9_tellLike_7 : decode cX9_tellLike 7 = .ok (.istore_n 2, 1) := by decide +kernel
theorem dX9_tellLike_8 : decode cX9_tellLike 8 = .ok (.aload_n 0, 1) := by decide +kernel
theorem dX9_tellLike_9 : decode cX9_tellLike 9 = .ok (.iload_n 1, 1) := by decide +kernel
theorem dX9_tellLike_10 : decode cX9_tellLike 10 = .ok (.iconst 2, 1) := by decide +kernel
theorem dX9_tellLike_11 : decode cX9_tellLike 11 = .ok (.iadd, 1) := by decide +kernel
theorem dX9_tellLike_12 : decode cX9_tellLike 12 = .ok (.invokevirtual 123, 3) := by decide +kernel
theorem dX9_tellLike_15 : decode cX9_tellLike 15 = .ok (.istore_n 3, 1) := by decide +kernel
theorem dX9_tellLike_16 : decode cX9_tellLike 16 = .ok (.aload_n 0, 1) := by decide +kernel
theorem dX9_tellLike_17 : decode cX9_tellLike 17 = .ok (.iload_n 1, 1) := by decide +kernel
theorem dX9_tellLike_18 : decode cX9_tellLike 18 = .ok (.iconst 3, 1) := by decide +kernel
theorem dX9_tellLike_19 : decode cX9_tellLike 19 = .ok (.iadd, 1) := by decide +kernel
theorem dX9_tellLike_20 : decode cX9_tellLike 20 = .ok (.iconst 0, 1) := by decide +kernel
theorem dX9_tellLike_21 : decode cX9_tellLike 21 = .ok (.bipush 99, 2) := by decide +kernel
theorem dX9_tellLike_23 : decode cX9_tellLike 23 = .ok (.invokevirtual 73, 3) := by decide +kernel
theorem dX9_tellLike_26 : decode cX9_tellLike 26 = .ok (.istore 4, 2) := by decide +kernel
theorem dX9_tellLike_28 : decode cX9_tellLike 28 = .ok (.aload_n 0, 1) := by decide +kernel
theorem dX9_tellLike_29 : decode cX9_tellLike 29 = .ok (.getfield 44, 3) := by decide +kernel
theorem dX9_tellLike_32 : decode cX9_tellLike 32 = .ok (.ifCond .ne 14, 3) := by decide +kernel
theorem dX9_tellLike_35 : decode cX9_tellLike 35 = .ok (.aload_n 0, 1) := by decide +kernel
theorem dX9_tellLike_36 : decode cX9_tellLike 36 = .ok (.getfield 26, 3) := by decide +kernel
theorem dX9_tellLike_39 : decode cX9_tellLike 39 = .ok (.iload_n 2, 1) := by decide +kernel
theorem dX9_tellLike_40 : decode cX9_tellLike 40 = .ok (.iload_n 3, 1) := by decide +kernel
theorem dX9_tellLike_41 : decode cX9_tellLike 41 = .ok (.iload 4, 2) := by decide +kernel
theorem dX9_tellLike_43 : decode cX9_tellLike 43 = .ok (.invokevirtual 126, 3) := by decide +kernel
theorem dX9_tellLike_46 : decode cX9_tellLike 46 = .ok (.return_, 1) := by decide +kernel
theorem dX9_tellLine_0 : decode cX9_tellLine 0 = .ok (.aload_n 0, 1) := by decide +kernel
theorem dX9_tellLine_1 : decode cX9_tellLine 1 = .ok (.getfield 26, 3) := by decide +kernel
theorem dX9_tellLine_4 : decode cX9_tellLine 4 = .ok (.invokevirtual 130, 3) := by decide +kernel
theorem dX9_tellLine_7 : decode cX9_tellLine 7 = .ok (.iload_n 1, 1) := by decide +kernel
theorem dX9_tellLine_8 : decode cX9_tellLine 8 = .ok (.istore_n 2, 1) := by decide +kernel
theorem dX9_tellLine_9 : decode cX9_tellLine 9 = .ok (.iload_n 2, 1) := by decide +kernel
theorem dX9_tellLine_10 : decode cX9_tellLine 10 = .ok (.aload_n 0, 1) := by decide +kernel
theorem dX9_tellLine_11 : decode cX9_tellLine 11 = .ok (.getfield 22, 3) := by decide +kernel
theorem dX9_tellLine_14 : decode cX9_tellLine 14 = .ok (.getfield 51, 3) := by decide +kernel
theorem dX9_tellLine_17 : decode cX9_tellLine 17 = .ok (.if_icmp .ge 67, 3) := by decide +kernel
theorem dX9_tellLine_20 : decode cX9_tellLine 20 = .ok (.aload_n 0, 1) := by decide +kernel
theorem dX9_tellLine_21 : decode cX9_tellLine 21 = .ok (.getfield 44, 3) := by decide +kernel
theorem dX9_tellLine_24 : decode cX9_tellLine 24 = .ok (.ifCond .ne 60, 3) := by decide +kernel
theorem dX9_tellLine_27 : decode cX9_tellLine 27 = .ok (.aload_n 0, 1) := by decide +kernel
theorem dX9_tellLine_28 : decode cX9_tellLine 28 = .ok (.getfield 22, 3) := by decide +kernel
theorem dX9_tellLine_31 : decode cX9_tellLine 31 = .ok (.iload_n 2, 1) := by decide +kernel
theorem dX9_tellLine_32 : decode cX9_tellLine 32 = .ok (.invokevirtual 60, 3) := by decide +kernel
theorem dX9_tellLine_35 : decode cX9_tellLine 35 = .ok (.bipush 59, 2) := by decide +kernel
theorem dX9_tellLine_37 : decode cX9_tellLine 37 = .ok (.if_icmp .eq 47, 3) := by decide +kernel
theorem dX9_tellLine_40 : decode cX9_tellLine 40 = .ok (.aload_n 0, 1) := by decide +kernel
theorem dX9_tellLine_41 : decode cX9_tellLine 41 = .ok (.getfield 22, 3) := by decide +kernel
theorem dX9_tellLine_44 : decode cX9_tellLine 44 = .ok (.iload_n 2, 1) := by decide +kernel
theorem dX9_tellLine_45 : decode cX9_tellLine 45 = .ok (.invokevirtual 60, 3) := by decide +kernel
theorem dX9_tellLine_48 : decode cX9_tellLine 48 = .ok (.iconst 1, 1) := by decide +kernel
theorem dX9_tellLine_49 : decode cX9_tellLine 49 = .ok (.if_icmp .ne 29, 3) := by decide +kernel
theorem dX9_tellLine_52 : decode cX9_tellLine 52 = .ok (.aload_n 0, 1) := by decide +kernel
theorem dX9_tellLine_53 : decode cX9_tellLine 53 = .ok (.iload_n 2, 1) := by decide +kernel
theorem dX9_tellLine_54 : decode cX9_tellLine 54 = .ok (.aload_n 0, 1) := by decide +kernel
theorem dX9_tellLine_55 : decode cX9_tellLine 55 = .ok (.getfield 22, 3) := by decide +kernel
theorem dX9_tellLine_58 : decode cX9_tellLine 58 = .ok (.iload_n 2, 1) := by decide +kernel
theorem dX9_tellLine_59 : decode cX9_tellLine 59 = .ok (.iconst 1, 1) := by decide +kernel
theorem dX9_tellLine_60 : decode cX9_tellLine 60 = .ok (.isub, 1) := by decide +kernel
theorem dX9_tellLine_61 : decode cX9_tellLine 61 = .ok (.invokevirtual 60, 3) := by decide +kernel
theorem dX9_tellLine_64 : decode cX9_tellLine 64 = .ok (.sipush 139, 3) := by decide +kernel
theorem dX9_tellLine_67 : decode cX9_tellLine 67 = .ok (.if_icmp .ne 7, 3) := by decide +kernel
theorem dX9_tellLine_70 : decode cX9_tellLine 70 = .ok (.iconst 1, 1) := by decide +kernel
theorem dX9_tellLine_71 : decode cX9_tellLine 71 = .ok (.goto 4, 3) := by decide +kernel
theorem dX9_tellLine_74 : decode cX9_tellLine 74 = .ok (.iconst 0, 1) := by decide +kernel
theorem dX9_tellLine_75 : decode cX9_tellLine 75 = .ok (.invokevirtual 133, 3) := by decide +kernel
theorem dX9_tellLine_78 : decode cX9_tellLine 78 = .ok (.iinc 2 1, 3) := by decide +kernel
theorem dX9_tellLine_81 : decode cX9_tellLine 81 = .ok (.goto (-72), 3) := by decide +kernel
theorem dX9_tellLine_84 : decode cX9_tellLine 84 = .ok (.return_, 1) := by decide +kernel
theorem dX9_hang_0 : decode cX9_hang 0 = .ok (.aload_n 0, 1) := by decide +kernel
theorem dX9_hang_1 : decode cX9_hang 1 = .ok (.iload_n 1, 1) := by decide +kernel
theorem dX9_hang_2 : decode cX9_hang 2 = .ok (.invokevirtual 123, 3) := by decide +kernel
theorem dX9_hang_5 : decode cX9_hang 5 = .ok (.istore_n 3, 1) := by decide +kernel
theorem dX9_hang_6 : decode cX9_hang 6 = .ok (.iload_n 3, 1) := by decide +kernel
theorem dX9_hang_7 : decode cX9_hang 7 = .ok (.iconst (-1), 1) := by decide +kernel
theorem dX9_hang_8 : decode cX9_hang 8 = .ok (.if_icmp .ne 4, 3) := by decide +kernel
theorem dX9_hang_11 : decode cX9_hang 11 = .ok (.return_, 1) := by decide +kernel
theorem dX9_hang_12 : decode cX9_hang 12 = .ok (.aload_n 0, 1) := by decide +kernel
theorem dX9_hang_13 : decode cX9_hang 13 = .ok (.getfield 26, 3) := by decide +kernel
theorem dX9_hang_16 : decode cX9_hang 16 = .ok (.getfield 137, 3) := by decide +kernel
theorem dX9_hang_19 : decode cX9_hang 19 = .ok (.iload_n 3, 1) := by decide +kernel
theorem dX9_hang_20 : decode cX9_hang 20 = .ok (.invokestatic 140, 3) := by decide +kernel
theorem dX9_hang_23 : decode cX9_hang 23 = .ok (.istore 4, 2) := by decide +kernel
theorem dX9_hang_25 : decode cX9_hang 25 = .ok (.aload_n 0, 1) := by decide +kernel
theorem dX9_hang_26 : decode cX9_hang 26 = .ok (.getfield 26, 3) := by decide +kernel
theorem dX9_hang_29 : decode cX9_hang 29 = .ok (.getfield 144, 3) := by decide +kernel
theorem dX9_hang_32 : decode cX9_hang 32 = .ok (.iload 4, 2) := by decide +kernel
theorem dX9_hang_34 : decode cX9_hang 34 = .ok (.invokestatic 140, 3) := by decide +kernel
theorem dX9_hang_37 : decode cX9_hang 37 = .ok (.istore 5, 2) := by decide +kernel
theorem dX9_hang_39 : decode cX9_hang 39 = .ok (.iload_n 2, 1) := by decide +kernel
theorem dX9_hang_40 : decode cX9_hang 40 = .ok (.ifCond .eq 10, 3) := by decide +kernel
theorem dX9_hang_43 : decode cX9_hang 43 = .ok (.iload 5, 2) := by decide +kernel
theorem dX9_hang_45 : decode cX9_hang 45 = .ok (.iload 4, 2) := by decide +kernel
theorem dX9_hang_47 : decode cX9_hang 47 = .ok (.if_icmp .eq 24, 3) := by decide +kernel
theorem dX9_hang_50 : decode cX9_hang 50 = .ok (.aload_n 0, 1) := by decide +kernel
theorem dX9_hang_51 : decode cX9_hang 51 = .ok (.getfield 26, 3) := by decide +kernel
theorem dX9_hang_54 : decode cX9_hang 54 = .ok (.iload_n 2, 1) := by decide +kernel
theorem dX9_hang_55 : decode cX9_hang 55 = .ok (.ifCond .eq 8, 3) := by decide +kernel
theorem dX9_hang_58 : decode cX9_hang 58 = .ok (.iload 5, 2) := by decide +kernel
theorem dX9_hang_60 : decode cX9_hang 60 = .ok (.goto 5, 3) := by decide +kernel
theorem dX9_hang_63 : decode cX9_hang 63 = .ok (.iload 4, 2) := by decide +kernel
theorem dX9_hang_65 : decode cX9_hang 65 = .ok (.invokevirtual 147, 3) := by decide +kernel
theorem dX9_hang_68 : decode cX9_hang 68 = .ok (.ifCond .ne 9, 3) := by decide +kernel
theorem dX9_hang_71 : decode cX9_hang 71 = .ok (.aload_n 0, 1) := by decide +kernel
theorem dX9_hang_72 : decode cX9_hang 72 = .ok (.iconst 5, 1) := by decide +kernel
theorem dX9_hang_73 : decode cX9_hang 73 = .ok (.iload_n 1, 1) := by decide +kernel
theorem dX9_hang_74 : decode cX9_hang 74 = .ok (.invokevirtual 105, 3) := by decide +kernel
theorem dX9_hang_77 : decode cX9_hang 77 = .ok (.return_, 1) := by decide +kernel
theorem dX9_newName_0 : decode cX9_newName 0 = .ok (.aload_n 0, 1) := by decide +kernel
theorem dX9_newName_1 : decode cX9_newName 1 = .ok (.getfield 26, 3) := by decide +kernel
theorem dX9_newName_4 : decode cX9_newName 4 = .ok (.aload_n 0, 1) := by decide +kernel
theorem dX9_newName_5 : decode cX9_newName 5 = .ok (.getfield 22, 3) := by decide +kernel
theorem dX9_newName_8 : decode cX9_newName 8 = .ok (.iload_n 1, 1) := by decide +kernel
theorem dX9_newName_9 : decode cX9_newName 9 = .ok (.invokevirtual 115, 3) := by decide +kernel
theorem dX9_newName_12 : decode cX9_newName 12 = .ok (.invokevirtual 150, 3) := by decide +kernel
theorem dX9_newName_15 : decode cX9_newName 15 = .ok (.iconst (-1), 1) := by decide +kernel
theorem dX9_newName_16 : decode cX9_newName 16 = .ok (.if_icmp .eq 9, 3) := by decide +kernel
theorem dX9_newName_19 : decode cX9_newName 19 = .ok (.aload_n 0, 1) := by decide +kernel
theorem dX9_newName_20 : decode cX9_newName 20 = .ok (.iconst 3, 1) := by decide +kernel
theorem dX9_newName_21 : decode cX9_newName 21 = .ok (.iload_n 1, 1) := by decide +kernel
theorem dX9_newName_22 : decode cX9_newName 22 = .ok (.invokevirtual 105, 3) := by decide +kernel
theorem dX9_newName_25 : decode cX9_newName 25 = .ok (.return_, 1) := by decide +kernel
theorem dX9_oldName_0 : decode cX9_oldName 0 = .ok (.aload_n 0, 1) := by decide +kernel
theorem dX9_oldName_1 : decode cX9_oldName 1 = .ok (.getfield 26, 3) := by decide +kernel
theorem dX9_oldName_4 : decode cX9_oldName 4 = .ok (.aload_n 0, 1) := by decide +kernel
theorem dX9_oldName_5 : decode cX9_oldName 5 = .ok (.getfield 22, 3) := by decide +kernel
theorem dX9_oldName_8 : decode cX9_oldName 8 = .ok (.iload_n 1, 1) := by decide +kernel
theorem dX9_oldName_9 : decode cX9_oldName 9 = .ok (.invokevirtual 115, 3) := by decide +kernel
theorem dX9_oldName_12 : decode cX9_oldName 12 = .ok (.invokevirtual 150, 3) := by decide +kernel
theorem dX9_oldName_15 : decode cX9_oldName 15 = .ok (.istore_n 2, 1) := by decide +kernel
theorem dX9_oldName_16 : decode cX9_oldName 16 = .ok (.iload_n 2, 1) := by decide +kernel
theorem dX9_oldName_17 : decode cX9_oldName 17 = .ok (.iconst (-1), 1) := by decide +kernel
theorem dX9_oldName_18 : decode cX9_oldName 18 = .ok (.if_icmp .ne 9, 3) := by decide +kernel
theorem dX9_oldName_21 : decode cX9_oldName 21 = .ok (.aload_n 0, 1) := by decide +kernel
theorem dX9_oldName_22 : decode cX9_oldName 22 = .ok (.iconst 4, 1) := by decide +kernel
theorem dX9_oldName_23 : decode cX9_oldName 23 = .ok (.iload_n 1, 1) := by decide +kernel
theorem dX9_oldName_24 : decode cX9_oldName 24 = .ok (.invokevirtual 105, 3) := by decide +kernel
theorem dX9_oldName_27 : decode cX9_oldName 27 = .ok (.iload_n 2, 1) := by decide +kernel
theorem dX9_oldName_28 : decode cX9_oldName 28 = .ok (.ireturn, 1) := by decide +kernel
theorem dX9_number_0 : decode cX9_number 0 = .ok (.aload_n 0, 1) := by decide +kernel
theorem dX9_number_1 : decode cX9_number 1 = .ok (.getfield 22, 3) := by decide +kernel
theorem dX9_number_4 : decode cX9_number 4 = .ok (.iload_n 1, 1) := by decide +kernel
theorem dX9_number_5 : decode cX9_number 5 = .ok (.invokevirtual 89, 3) := by decide +kernel
theorem dX9_number_8 : decode cX9_number 8 = .ok (.istore 4, 2) := by decide +kernel
theorem dX9_number_10 : decode cX9_number 10 = .ok (.iload 4, 2) := by decide +kernel
theorem dX9_number_12 : decode cX9_number 12 = .ok (.iload_n 2, 1) := by decide +kernel
theorem dX9_number_13 : decode cX9_number 13 = .ok (.if_icmp .lt 9, 3) := by decide +kernel
theorem dX9_number_16 : decode cX9_number 16 = .ok (.iload 4, 2) := by decide +kernel
theorem dX9_number_18 : decode cX9_number 18 = .ok (.iload_n 3, 1) := by decide +kernel
theorem dX9_number_19 : decode cX9_number 19 = .ok (.if_icmp .le 9, 3) := by decide +kernel
theorem dX9_number_22 : decode cX9_number 22 = .ok (.aload_n 0, 1) := by decide +kernel
theorem dX9_number_23 : decode cX9_number 23 = .ok (.iconst 5, 1) := by decide +kernel
theorem dX9_number_24 : decode cX9_number 24 = .ok (.iload_n 1, 1) := by decide +kernel
theorem dX9_number_25 : decode cX9_number 25 = .ok (.invokevirtual 105, 3) := by decide +kernel
theorem dX9_number_28 : decode cX9_number 28 = .ok (.iload 4, 2) := by decide +kernel
theorem dX9_number_30 : decode cX9_number 30 = .ok (.ireturn, 1) := by decide +kernel
theorem dX9_fail_0 : decode cX9_fail 0 = .ok (.aload_n 0, 1) := by decide +kernel
theorem dX9_fail_1 : decode cX9_fail 1 = .ok (.getfield 44, 3) := by decide +kernel
theorem dX9_fail_4 : decode cX9_fail 4 = .ok (.ifCond .ne 13, 3) := by decide +kernel
theorem dX9_fail_7 : decode cX9_fail 7 = .ok (.aload_n 0, 1) := by decide +kernel
theorem dX9_fail_8 : decode cX9_fail 8 = .ok (.iload_n 1, 1) := by decide +kernel
theorem dX9_fail_9 : decode cX9_fail 9 = .ok (.putfield 44, 3) := by decide +kernel
theorem dX9_fail_12 : decode cX9_fail 12 = .ok (.aload_n 0, 1) := by decide +kernel
theorem dX9_fail_13 : decode cX9_fail 13 = .ok (.iload_n 2, 1) := by decide +kernel
theorem dX9_fail_14 : decode cX9_fail 14 = .ok (.putfield 48, 3) := by decide +kernel
theorem dX9_fail_17 : decode cX9_fail 17 = .ok (.return_, 1) := by decide +kernel
theorem dX10_init_0 : decode cX10_init 0 = .ok (.aload_n 0, 1) := by decide +kernel
theorem dX10_init_1 : decode cX10_init 1 = .ok (.invokespecial 3, 3) := by decide +kernel
theorem dX10_init_4 : decode cX10_init 4 = .ok (.aload_n 0, 1) := by decide +kernel
theorem dX10_init_5 : decode cX10_init 5 = .ok (.bipush 8, 2) := by decide +kernel
theorem dX10_init_7 : decode cX10_init 7 = .ok (.newarray .int, 2) := by decide +kernel
theorem dX10_init_9 : decode cX10_init 9 = .ok (.putfield 9, 3) := by decide +kernel
theorem dX10_init_12 : decode cX10_init 12 = .ok (.aload_n 0, 1) := by decide +kernel
theorem dX10_init_13 : decode cX10_init 13 = .ok (.bipush 8, 2) := by decide +kernel
theorem dX10_init_15 : decode cX10_init 15 = .ok (.newarray .int, 2) := by decide +kernel
theorem dX10_init_17 : decode cX10_init 17 = .ok (.putfield 15, 3) := by decide +kernel
theorem dX10_init_20 : decode cX10_init 20 = .ok (.aload_n 0, 1) := by decide +kernel
theorem dX10_init_21 : decode cX10_init 21 = .ok (.bipush 8, 2) := by decide +kernel
theorem dX10_init_23 : decode cX10_init 23 = .ok (.newarray .int, 2) := by decide +kernel
theorem dX10_init_25 : decode cX10_init 25 = .ok (.putfield 18, 3) := by decide +kernel
theorem dX10_init_28 : decode cX10_init 28 = .ok (.aload_n 0, 1) := by decide +kernel
theorem dX10_init_29 : decode cX10_init 29 = .ok (.bipush 8, 2) := by decide +kernel
theorem dX10_init_31 : decode cX10_init 31 = .ok (.newarray .long, 2) := by decide +kernel
theorem dX10_init_33 : decode cX10_init 33 = .ok (.putfield 21, 3) := by decide +kernel
theorem dX10_init_36 : decode cX10_init 36 = .ok (.aload_n 0, 1) := by decide +kernel
theorem dX10_init_37 : decode cX10_init 37 = .ok (.bipush 8, 2) := by decide +kernel
theorem dX10_init_39 : decode cX10_init 39 = .ok (.newarray .int, 2) := by decide +kernel
theorem dX10_init_41 : decode cX10_init 41 = .ok (.putfield 25, 3) := by decide +kernel
theorem dX10_init_44 : decode cX10_init 44 = .ok (.aload_n 0, 1) := by decide +kernel
theorem dX10_init_45 : decode cX10_init 45 = .ok (.bipush 64, 2) := by decide +kernel
theorem dX10_init_47 : decode cX10_init 47 = .ok (.newarray .int, 2) := by decide +kernel
theorem dX10_init_49 : decode cX10_init 49 = .ok (.putfield 28, 3) := by decide +kernel
theorem dX10_init_52 : decode cX10_init 52 = .ok (.aload_n 0, 1) := by decide +kernel
theorem dX10_init_53 : decode cX10_init 53 = .ok (.bipush 18, 2) := by decide +kernel
theorem dX10_init_55 : decode cX10_init 55 = .ok (.newarray .int, 2) := by decide +kernel
theorem dX10_init_57 : decode cX10_init 57 = .ok (.putfield 31, 3) := by decide +kernel
theorem dX10_init_60 : decode cX10_init 60 = .ok (.aload_n 0, 1) := by decide +kernel
theorem dX10_init_61 : decode cX10_init 61 = .ok (.bipush 8, 2) := by decide +kernel
theorem dX10_init_63 : decode cX10_init 63 = .ok (.newarray .int, 2) := by decide +kernel
theorem dX10_init_65 : decode cX10_init 65 = .ok (.putfield 34, 3) := by decide +kernel
theorem dX10_init_68 : decode cX10_init 68 = .ok (.aload_n 0, 1) := by decide +kernel
theorem dX10_init_69 : decode cX10_init 69 = .ok (.bipush 8, 2) := by decide +kernel
theorem dX10_init_71 : decode cX10_init 71 = .ok (.newarray .int, 2) := by decide +kernel
theorem dX10_init_73 : decode cX10_init 73 = .ok (.putfield 37, 3) := by decide +kernel
theorem dX10_init_76 : decode cX10_init 76 = .ok (.aload_n 0, 1) := by decide +kernel
theorem dX10_init_77 : decode cX10_init 77 = .ok (.new 40, 3) := by decide +kernel
theorem dX10_init_80 : decode cX10_init 80 = .ok (.dup, 1) := by decide +kernel
theorem dX10_init_81 : decode cX10_init 81 = .ok (.invokespecial 42, 3) := by decide +kernel
theorem dX10_init_84 : decode cX10_init 84 = .ok (.putfield 43, 3) := by decide +kernel
theorem dX10_init_87 : decode cX10_init 87 = .ok (.aload_n 0, 1) := by decide +kernel
theorem dX10_init_88 : decode cX10_init 88 = .ok (.invokevirtual 47, 3) := by decide +kernel
theorem dX10_init_91 : decode cX10_init 91 = .ok (.return_, 1) := by decide +kernel
theorem dX10_clear_0 : decode cX10_clear 0 = .ok (.aload_n 0, 1) := by decide +kernel
theorem dX10_clear_1 : decode cX10_clear 1 = .ok (.iconst 0, 1) := by decide +kernel
theorem dX10_clear_2 : decode cX10_clear 2 = .ok (.putfield 50, 3) := by decide +kernel
theorem dX10_clear_5 : decode cX10_clear 5 = .ok (.aload_n 0, 1) := by decide +kernel
theorem dX10_clear_6 : decode cX10_clear 6 = .ok (.iconst 0, 1) := by decide +kernel
theorem dX10_clear_7 : decode cX10_clear 7 = .ok (.putfield 54, 3) := by decide +kernel
theorem dX10_clear_10 : decode cX10_clear 10 = .ok (.iconst 0, 1) := by decide +kernel
theorem dX10_clear_11 : decode cX10_clear 11 = .ok (.istore_n 1, 1) := by decide +kernel
theorem dX10_clear_12 : decode cX10_clear 12 = .ok (.iload_n 1, 1) := by decide +kernel
theorem dX10_clear_13 : decode cX10_clear 13 = .ok (.bipush 8, 2) := by decide +kernel
theorem dX10_clear_15 : decode cX10_clear 15 = .ok (.if_icmp .ge 68, 3) := by decide +kernel
theorem dX10_clear_18 : decode cX10_clear 18 = .ok (.aload_n 0, 1) := by decide +kernel
theorem dX10_clear_19 : decode cX10_clear 19 = .ok (.getfield 9, 3) := by decide +kernel
theorem dX10_clear_22 : decode cX10_clear 22 = .ok (.iload_n 1, 1) := by decide +kernel
theorem dX10_clear_23 : decode cX10_clear 23 = .ok (.iconst 0, 1) := by decide +kernel
theorem dX10_clear_24 : decode cX10_clear 24 = .ok (.iastore, 1) := by decide +kernel
theorem dX10_clear_25 : decode cX10_clear 25 = .ok (.aload_n 0, 1) := by decide +kernel
theorem dX10_clear_26 : decode cX10_clear 26 = .ok (.getfield 15, 3) := by decide +kernel
theorem dX10_clear_29 : decode cX10_clear 29 = .ok (.iload_n 1, 1) := by decide +kernel
theorem dX10_clear_30 : decode cX10_clear 30 = .ok (.iload_n 1, 1) := by decide +kernel
theorem dX10_clear_31 : decode cX10_clear 31 = .ok (.iastore, 1) := by decide +kernel
theorem dX10_clear_32 : decode cX10_clear 32 = .ok (.aload_n 0, 1) := by decide +kernel
theorem dX10_clear_33 : decode cX10_clear 33 = .ok (.getfield 18, 3) := by decide +kernel
theorem dX10_clear_36 : decode cX10_clear 36 = .ok (.iload_n 1, 1) := by decide +kernel
theorem dX10_clear_37 : decode cX10_clear 37 = .ok (.iconst 0, 1) := by decide +kernel
theorem dX10_clear_38 : decode cX10_clear 38 = .ok (.iastore, 1) := by decide +kernel
theorem dX10_clear_39 : decode cX10_clear 39 = .ok (.iconst 0, 1) := by decide +kernel
theorem dX10_clear_40 : decode cX10_clear 40 = .ok (.istore_n 2, 1) := by decide +kernel
theorem dX10_clear_41 : decode cX10_clear 41 = .ok (.iload_n 2, 1) := by decide +kernel
theorem dX10_clear_42 : decode cX10_clear 42 = .ok (.bipush 8, 2) := by decide +kernel
theorem dX10_clear_44 : decode cX10_clear 44 = .ok (.if_icmp .ge 33, 3) := by decide +kernel
theorem dX10_clear_47 : decode cX10_clear 47 = .ok (.aload_n 0, 1) := by decide +kernel
theorem dX10_clear_48 : decode cX10_clear 48 = .ok (.getfield 28, 3) := by decide +kernel
theorem dX10_clear_51 : decode cX10_clear 51 = .ok (.iload_n 1, 1) := by decide +kernel
theorem dX10_clear_52 : decode cX10_clear 52 = .ok (.bipush 8, 2) := by decide +kernel
theorem dX10_clear_54 : decode cX10_clear 54 = .ok (.imul, 1) := by decide +kernel
theorem dX10_clear_55 : decode cX10_clear 55 = .ok (.iload_n 2, 1) := by decide +kernel
theorem dX10_clear_56 : decode cX10_clear 56 = .ok (.iadd, 1) := by decide +kernel
theorem dX10_clear_57 : decode cX10_clear 57 = .ok (.iload_n 1, 1) := by decide +kernel
theorem dX10_clear_58 : decode cX10_clear 58 = .ok (.iload_n 2, 1) := by decide +kernel
theorem dX10_clear_59 : decode cX10_clear 59 = .ok (.if_icmp .ne 7, 3) := by decide +kernel
theorem dX10_clear_62 : decode cX10_clear 62 = .ok (.iconst 0, 1) := by decide +kernel
theorem dX10_clear_63 : decode cX10_clear 63 = .ok (.goto 5, 3) := by decide +kernel
theorem dX10_clear_66 : decode cX10_clear 66 = .ok (.bipush 100, 2) := by decide +kernel
theorem dX10_clear_68 : decode cX10_clear 68 = .ok (.invokestatic 57, 3) := by decide +kernel
theorem dX10_clear_71 : decode cX10_clear 71 = .ok (.iinc 2 1, 3) := by decide +kernel
theorem dX10_clear_74 : decode cX10_clear 74 = .ok (.goto (-33), 3) := by decide +kernel
theorem dX10_clear_77 : decode cX10_clear 77 = .ok (.iinc 1 1, 3) := by decide +kernel
theorem dX10_clear_80 : decode cX10_clear 80 = .ok (.goto (-68), 3) := by decide +kernel
theorem dX10_clear_83 : decode cX10_clear 83 = .ok (.aload_n 0, 1) := by decide +kernel
theorem dX10_clear_84 : decode cX10_clear 84 = .ok (.iconst 0, 1) := by decide +kernel
theorem dX10_clear_85 : decode cX10_clear 85 = .ok (.putfield 61, 3) := by decide +kernel
theorem dX10_clear_88 : decode cX10_clear 88 = .ok (.aload_n 0, 1) := by decide +kernel
theorem dX10_clear_89 : decode cX10_clear 89 = .ok (.bipush 18, 2) := by decide +kernel
theorem dX10_clear_91 : decode cX10_clear 91 = .ok (.putfield 64, 3) := by decide +kernel
theorem dX10_clear_94 : decode cX10_clear 94 = .ok (.aload_n 0, 1) := by decide +kernel
theorem dX10_clear_95 : decode cX10_clear 95 = .ok (.iconst 1, 1) := by decide +kernel
theorem dX10_clear_96 : decode cX10_clear 96 = .ok (.putfield 67, 3) := by decide +kernel
theorem dX10_clear_99 : decode cX10_clear 99 = .ok (.aload_n 0, 1) := by decide +kernel
theorem dX10_clear_100 : decode cX10_clear 100 = .ok (.iconst 0, 1) := by decide +kernel
theorem dX10_clear_101 : decode cX10_clear 101 = .ok (.putfield 70, 3) := by decide +kernel
theorem dX10_clear_104 : decode cX10_clear 104 = .ok (.aload_n 0, 1) := by decide +kernel
theorem dX10_clear_105 : decode cX10_clear 105 = .ok (.invokevirtual 73, 3) := by decide +kernel
theorem dX10_clear_108 : decode cX10_clear 108 = .ok (.aload_n 0, 1) := by decide +kernel
theorem dX10_clear_109 : decode cX10_clear 109 = .ok (.getfield 43, 3) := by decide +kernel
theorem dX10_clear_112 : decode cX10_clear 112 = .ok (.invokevirtual 76, 3) := by decide +kernel
theorem dX10_clear_115 : decode cX10_clear 115 = .ok (.return_, 1) := by decide +kernel
theorem dX10_become_0 : decode cX10_become 0 = .ok (.aload_n 0, 1) := by decide +kernel
theorem dX10_become_1 : decode cX10_become 1 = .ok (.aload_n 1, 1) := by decide +kernel
theorem dX10_become_2 : decode cX10_become 2 = .ok (.getfield 50, 3) := by decide +kernel
theorem dX10_become_5 : decode cX10_become 5 = .ok (.putfield 50, 3) := by decide +kernel
theorem dX10_become_8 : decode cX10_become 8 = .ok (.aload_n 0, 1) := by decide +kernel
theorem dX10_become_9 : decode cX10_become 9 = .ok (.aload_n 1, 1) := by decide +kernel
theorem dX10_become_10 : decode cX10_become 10 = .ok (.getfield 54, 3) := by decide +kernel
theorem dX10_become_13 : decode cX10_become 13 = .ok (.putfield 54, 3) := by decide +kernel
theorem dX10_become_16 : decode cX10_become 16 = .ok (.aload_n 1, 1) := by decide +kernel
theorem dX10_become_17 : decode cX10_become 17 = .ok (.getfield 9, 3) := by decide +kernel
theorem dX10_become_20 : decode cX10_become 20 = .ok (.aload_n 0, 1) := by decide +kernel
theorem dX10_become_21 : decode cX10_become 21 = .ok (.getfield 9, 3) := by decide +kernel
theorem dX10_become_24 : decode cX10_become 24 = .ok (.invokestatic 77, 3) := by decide +kernel
theorem dX10_become_27 : decode cX10_become 27 = .ok (.aload_n 1, 1) := by decide +kernel
theorem dX10_become_28 : decode cX10_become 28 = .ok (.getfield 15, 3) := by decide +kernel
theorem dX10_become_31 : decode cX10_become 31 = .ok (.aload_n 0, 1) := by decide +kernel
theorem dX10_become_32 : decode cX10_become 32 = .ok (.getfield 15, 3) := by decide +kernel
theorem dX10_become_35 : decode cX10_become 35 = .ok (.invokestatic 77, 3) := by decide +kernel
theorem dX10_become_38 : decode cX10_become 38 = .ok (.aload_n 1, 1) := by decide +kernel
theorem dX10_become_39 : decode cX10_become 39 = .ok (.getfield 18, 3) := by decide +kernel
theorem dX10_become_42 : decode cX10_become 42 = .ok (.aload_n 0, 1) := by decide +kernel
theorem dX10_become_43 : decode cX10_become 43 = .ok (.getfield 18, 3) := by decide +kernel
theorem dX10_become_46 : decode cX10_become 46 = .ok (.invokestatic 77, 3) := by decide +kernel
theorem dX10_become_49 : decode cX10_become 49 = .ok (.aload_n 1, 1) := by decide +kernel
theorem dX10_become_50 : decode cX10_become 50 = .ok (.getfield 28, 3) := by decide +kernel
theorem dX10_become_53 : decode cX10_become 53 = .ok (.aload_n 0, 1) := by decide +kernel
theorem dX10_become_54 : decode cX10_become 54 = .ok (.getfield 28, 3) := by decide +kernel
theorem dX10_become_57 : decode cX10_become 57 = .ok (.invokestatic 77, 3) := by decide +kernel
theorem dX10_become_60 : decode cX10_become 60 = .ok (.aload_n 0, 1) := by decide +kernel
theorem dX10_become_61 : decode cX10_become 61 = .ok (.aload_n 1, 1) := by decide +kernel
theorem dX10_become_62 : decode cX10_become 62 = .ok (.getfield 61, 3) := by decide +kernel
theorem dX10_become_65 : decode cX10_become 65 = .ok (.putfield 61, 3) := by decide +kernel
theorem dX10_become_68 : decode cX10_become 68 = .ok (.aload_n 0, 1) := by decide +kernel
theorem dX10_become_69 : decode cX10_become 69 = .ok (.aload_n 1, 1) := by decide +kernel
theorem dX10_become_70 : decode cX10_become 70 = .ok (.getfield 64, 3) := by decide +kernel
theorem dX10_become_73 : decode cX10_become 73 = .ok (.putfield 64, 3) := by decide +kernel
theorem dX10_become_76 : decode cX10_become 76 = .ok (.aload_n 0, 1) := by decide +kernel
theorem dX10_become_77 : decode cX10_become 77 = .ok (.aload_n 1, 1) := by decide +kernel
theorem dX10_become_78 : decode cX10_become 78 = .ok (.getfield 67, 3) := by decide +kernel
theorem dX10_become_81 : decode cX10_become 81 = .ok (.putfield 67, 3) := by decide +kernel
theorem dX10_become_84 : decode cX10_become 84 = .ok (.aload_n 0, 1) := by decide +kernel
theorem dX10_become_85 : decode cX10_become 85 = .ok (.aload_n 1, 1) := by decide +kernel
theorem dX10_become_86 : decode cX10_become 86 = .ok (.getfield 70, 3) := by decide +kernel
theorem dX10_become_89 : decode cX10_become 89 = .ok (.putfield 70, 3) := by decide +kernel
theorem dX10_become_92 : decode cX10_become 92 = .ok (.aload_n 1, 1) := by decide +kernel
theorem dX10_become_93 : decode cX10_become 93 = .ok (.getfield 31, 3) := by decide +kernel
theorem dX10_become_96 : decode cX10_become 96 = .ok (.aload_n 0, 1) := by decide +kernel
theorem dX10_become_97 : decode cX10_become 97 = .ok (.getfield 31, 3) := by decide +kernel
theorem dX10_become_100 : decode cX10_become 100 = .ok (.invokestatic 77, 3) := by decide +kernel
theorem dX10_become_103 : decode cX10_become 103 = .ok (.aload_n 0, 1) := by decide +kernel
theorem dX10_become_104 : decode cX10_become 104 = .ok (.aload_n 1, 1) := by decide +kernel
theorem dX10_become_105 : decode cX10_become 105 = .ok (.getfield 81, 3) := by decide +kernel
theorem dX10_become_108 : decode cX10_become 108 = .ok (.putfield 81, 3) := by decide +kernel
theorem dX10_become_111 : decode cX10_become 111 = .ok (.aload_n 0, 1) := by decide +kernel
theorem dX10_become_112 : decode cX10_become 112 = .ok (.getfield 43, 3) := by decide +kernel
theorem dX10_become_115 : decode cX10_become 115 = .ok (.aload_n 1, 1) := by decide +kernel
theorem dX10_become_116 : decode cX10_become 116 = .ok (.getfield 43, 3) := by decide +kernel
theorem dX10_become_119 : decode cX10_become 119 = .ok (.invokevirtual 84, 3) := by decide +kernel
theorem dX10_become_122 : decode cX10_become 122 = .ok (.return_, 1) := by decide +kernel
theorem dX10_find_0 : decode cX10_find 0 = .ok (.iconst 0, 1) := by decide +kernel
theorem dX10_find_1 : decode cX10_find 1 = .ok (.istore_n 3, 1) := by decide +kernel
theorem dX10_find_2 : decode cX10_find 2 = .ok (.iload_n 3, 1) := by decide +kernel
theorem dX10_find_3 : decode cX10_find 3 = .ok (.aload_n 0, 1) := by decide +kernel
theorem dX10_find_4 : decode cX10_find 4 = .ok (.getfield 54, 3) := by decide +kernel
theorem dX10_find_7 : decode cX10_find 7 = .ok (.if_icmp .ge 31, 3) := by decide +kernel
theorem dX10_find_10 : decode cX10_find 10 = .ok (.iload_n 3, 1) := by decide +kernel
theorem dX10_find_11 : decode cX10_find 11 = .ok (.aload_n 0, 1) := by decide +kernel
theorem dX10_find_12 : decode cX10_find 12 = .ok (.getfield 21, 3) := by decide +kernel
theorem dX10_find_15 : decode cX10_find 15 = .ok (.arraylength, 1) := by decide +kernel
theorem dX10_find_16 : decode cX10_find 16 = .ok (.if_icmp .ge 22, 3) := by decide +kernel
theorem dX10_find_19 : decode cX10_find 19 = .ok (.aload_n 0, 1) := by decide +kernel
theorem dX10_find_20 : decode cX10_find 20 = .ok (.getfield 21, 3) := by decide +kernel
theorem dX10_find_23 : decode cX10_find 23 = .ok (.iload_n 3, 1) := by decide +kernel
theorem dX10_find_24 : decode cX10_find 24 = .ok (.laload, 1) := by decide +kernel
theorem dX10_find_25 : decode cX10_find 25 = .ok (.lload_n 1, 1) := by decide +kernel
theorem dX10_find_26 : decode cX10_find 26 = .ok (.lcmp, 1) := by decide +kernel
theorem dX10_find_27 : decode cX10_find 27 = .ok (.ifCond .ne 5, 3) := by decide +kernel
theorem dX10_find_30 : decode cX10_find 30 = .ok (.iload_n 3, 1) := by decide +kernel
theorem dX10_find_31 : decode cX10_find 31 = .ok (.ireturn, 1) := by decide +kernel
theorem dX10_find_32 : decode cX10_find 32 = .ok (.iinc 3 1, 3) := by decide +kernel
theorem dX10_find_35 : decode cX10_find 35 = .ok (.goto (-33), 3) := by decide +kernel
theorem dX10_find_38 : decode cX10_find 38 = .ok (.iconst (-1), 1) := by decide +kernel
theorem dX10_find_39 : decode cX10_find 39 = .ok (.ireturn, 1) := by decide +kernel
theorem dX10_addKind_0 : decode cX10_addKind 0 = .ok (.aload_n 0, 1) := by decide +kernel
theorem dX10_addKind_1 : decode cX10_addKind 1 = .ok (.getfield 9, 3) := by decide +kernel
theorem dX10_addKind_4 : decode cX10_addKind 4 = .ok (.aload_n 0, 1) := by decide +kernel
theorem dX10_addKind_5 : decode cX10_addKind 5 = .ok (.getfield 50, 3) := by decide +kernel
theorem dX10_addKind_8 : decode cX10_addKind 8 = .ok (.iload_n 1, 1) := by decide +kernel
theorem dX10_addKind_9 : decode cX10_addKind 9 = .ok (.invokestatic 57, 3) := by decide +kernel
theorem dX10_addKind_12 : decode cX10_addKind 12 = .ok (.aload_n 0, 1) := by decide +kernel
theorem dX10_addKind_13 : decode cX10_addKind 13 = .ok (.getfield 15, 3) := by decide +kernel
theorem dX10_addKind_16 : decode cX10_addKind 16 = .ok (.aload_n 0, 1) := by decide +kernel
theorem dX10_addKind_17 : decode cX10_addKind 17 = .ok (.getfield 50, 3) := by decide +kernel
theorem dX10_addKind_20 : decode cX10_addKind 20 = .ok (.iload_n 2, 1) := by decide +kernel
theorem dX10_addKind_21 : decode cX10_addKind 21 = .ok (.invokestatic 57, 3) := by decide +kernel
theorem dX10_addKind_24 : decode cX10_addKind 24 = .ok (.aload_n 0, 1) := by decide +kernel
theorem dX10_addKind_25 : decode cX10_addKind 25 = .ok (.getfield 18, 3) := by decide +kernel
theorem dX10_addKind_28 : decode cX10_addKind 28 = .ok (.aload_n 0, 1) := by decide +kernel
theorem dX10_addKind_29 : decode cX10_addKind 29 = .ok (.getfield 50, 3) := by decide +kernel
theorem dX10_addKind_32 : decode cX10_addKind 32 = .ok (.aload_n 0, 1) := by decide +kernel
theorem dX10_addKind_33 : decode cX10_addKind 33 = .ok (.getfield 54, 3) := by decide +kernel
theorem dX10_addKind_36 : decode cX10_addKind 36 = .ok (.invokestatic 57, 3) := by decide +kernel
theorem dX10_addKind_39 : decode cX10_addKind 39 = .ok (.aload_n 0, 1) := by decide +kernel
theorem dX10_addKind_40 : decode cX10_addKind 40 = .ok (.dup, 1) := by decide +kernel
theorem dX10_addKind_41 : decode cX10_addKind 41 = .ok (.getfield 50, 3) := by decide +kernel
theorem dX10_addKind_44 : decode cX10_addKind 44 = .ok (.iconst 1, 1) := by decide +kernel
theorem dX10_addKind_45 : decode cX10_addKind 45 = .ok (.iadd, 1) := by decide +kernel
theorem dX10_addKind_46 : decode cX10_addKind 46 = .ok (.putfield 50, 3) := by decide +kernel
theorem dX10_addKind_49 : decode cX10_addKind 49 = .ok (.return_, 1) := by decide +kernel
theorem dX10_addName_0 : decode cX10_addName 0 = .ok (.aload_n 0, 1) := by decide +kernel
theorem dX10_addName_1 : decode cX10_addName 1 = .ok (.getfield 54, 3) := by decide +kernel
theorem dX10_addName_4 : decode cX10_addName 4 = .ok (.ifCond .lt 47, 3) := by decide +kernel
theorem dX10_addName_7 : decode cX10_addName 7 = .ok (.aload_n 0, 1) := by decide +kernel
theorem dX10_addName_8 : decode cX10_addName 8 = .ok (.getfield 54, 3) := by decide +kernel
theorem dX10_addName_11 : decode cX10_addName 11 = .ok (.aload_n 0, 1) := by decide +kernel
theorem dX10_addName_12 : decode cX10_addName 12 = .ok (.getfield 21, 3) := by decide +kernel
theorem dX10_addName_15 : decode cX10_addName 15 = .ok (.arraylength, 1) := by decide +kernel
theorem dX10_addName_16 : decode cX10_addName 16 = .ok (.if_icmp .ge 35, 3) := by decide +kernel
theorem dX10_addName_19 : decode cX10_addName 19 = .ok (.aload_n 0, 1) := by decide +kernel
theorem dX10_addName_20 : decode cX10_addName 20 = .ok (.getfield 21, 3) := by decide +kernel
theorem dX10_addName_23 : decode cX10_addName 23 = .ok (.aload_n 0, 1) := by decide +kernel
theorem dX10_addName_24 : decode cX10_addName 24 = .ok (.getfield 54, 3) := by decide +kernel
theorem dX10_addName_27 : decode cX10_addName 27 = .ok (.lload_n 1, 1) := by decide +kernel
theorem dX10_addName_28 : decode cX10_addName 28 = .ok (.lastore, 1) := by decide +kernel
theorem dX10_addName_29 : decode cX10_addName 29 = .ok (.aload_n 0, 1) := by decide +kernel
theorem dX10_addName_30 : decode cX10_addName 30 = .ok (.getfield 25, 3) := by decide +kernel
theorem dX10_addName_33 : decode cX10_addName 33 = .ok (.aload_n 0, 1) := by decide +kernel
theorem dX10_addName_34 : decode cX10_addName 34 = .ok (.getfield 54, 3) := by decide +kernel
theorem dX10_addName_37 : decode cX10_addName 37 = .ok (.iload_n 3, 1) := by decide +kernel
theorem dX10_addName_38 : decode cX10_addName 38 = .ok (.invokestatic 57, 3) := by decide +kernel
theorem dX10_addName_41 : decode cX10_addName 41 = .ok (.aload_n 0, 1) := by decide +kernel
theorem dX10_addName_42 : decode cX10_addName 42 = .ok (.dup, 1) := by decide +kernel
theorem dX10_addName_43 : decode cX10_addName 43 = .ok (.getfield 54, 3) := by decide +kernel
theorem dX10_addName_46 : decode cX10_addName 46 = .ok (.iconst 1, 1) := by decide +kernel
theorem dX10_addName_47 : decode cX10_addName 47 = .ok (.iadd, 1) := by decide +kernel
theorem dX10_addName_48 : decode cX10_addName 48 = .ok (.putfield 54, 3) := by decide +kernel
theorem dX10_addName_51 : decode cX10_addName 51 = .ok (.return_, 1) := by decide +kernel
theorem dX10_unlikeness_0 : decode cX10_unlikeness 0 = .ok (.aload_n 0, 1) := by decide +kernel
theorem dX10_unlikeness_1 : decode cX10_unlikeness 1 = .ok (.getfield 28, 3) := by decide +kernel
theorem dX10_unlikeness_4 : decode cX10_unlikeness 4 = .ok (.iload_n 1, 1) := by decide +kernel
theorem dX10_unlikeness_5 : decode cX10_unlikeness 5 = .ok (.bipush 8, 2) := by decide +kernel
theorem dX10_unlikeness_7 : decode cX10_unlikeness 7 = .ok (.imul, 1) := by decide +kernel
theorem dX10_unlikeness_8 : decode cX10_unlikeness 8 = .ok (.iload_n 2, 1) := by decide +kernel
theorem dX10_unlikeness_9 : decode cX10_unlikeness 9 = .ok (.iadd, 1) := by decide +kernel
theorem dX10_unlikeness_10 : decode cX10_unlikeness 10 = .ok (.invokestatic 88, 3) := by decide +kernel
theorem dX10_unlikeness_13 : decode cX10_unlikeness 13 = .ok (.ireturn, 1) := by decide +kernel
theorem dX10_tellUnlike_0 : decode cX10_tellUnlike 0 = .ok (.aload_n 0, 1) := by decide +kernel
theorem dX10_tellUnlike_1 : decode cX10_tellUnlike 1 = .ok (.getfield 28, 3) := by decide +kernel
theorem dX10_tellUnlike_4 : decode cX10_tellUnlike 4 = .ok (.iload_n 1, 1) := by decide +kernel
theorem dX10_tellUnlike_5 : decode cX10_tellUnlike 5 = .ok (.bipush 8, 2) := by decide +kernel
theorem dX10_tellUnlike_7 : decode cX10_tellUnlike 7 = .ok (.imul, 1) := by decide +kernel
theorem dX10_tellUnlike_8 : decode cX10_tellUnlike 8 = .ok (.iload_n 2, 1) := by decide +kernel
theorem dX10_tellUnlike_9 : decode cX10_tellUnlike 9 = .ok (.iadd, 1) := by decide +kernel
theorem dX10_tellUnlike_10 : decode cX10_tellUnlike 10 = .ok (.iload_n 3, 1) := by decide +kernel
theorem dX10_tellUnlike_11 : decode cX10_tellUnlike 11 = .ok (.invokestatic 57, 3) := by decide +kernel
theorem dX10_tellUnlike_14 : decode cX10_tellUnlike 14 = .ok (.aload_n 0, 1) := by decide +kernel
theorem dX10_tellUnlike_15 : decode cX10_tellUnlike 15 = .ok (.getfield 28, 3) := by decide +kernel
theorem dX10_tellUnlike_18 : decode cX10_tellUnlike 18 = .ok (.iload_n 2, 1) := by decide +kernel
theorem dX10_tellUnlike_19 : decode cX10_tellUnlike 19 = .ok (.bipush 8, 2) := by decide +kernel
theorem dX10_tellUnlike_21 : decode cX10_tellUnlike 21 = .ok (.imul, 1) := by decide +kernel
theorem dX10_tellUnlike_22 : decode cX10_tellUnlike 22 = .ok (.iload_n 1, 1) := by decide +kernel
theorem dX10_tellUnlike_23 : decode cX10_tellUnlike 23 = .ok (.iadd, 1) := by decide +kernel
theorem dX10_tellUnlike_24 : decode cX10_tellUnlike 24 = .ok (.iload_n 3, 1) := by decide +kernel
theorem dX10_tellUnlike_25 : decode cX10_tellUnlike 25 = .ok (.invokestatic 57, 3) := by decide +kernel
theorem dX10_tellUnlike_28 : decode cX10_tellUnlike 28 = .ok (.return_, 1) := by decide +kernel
theorem dX10_takeLineAway_0 : decode cX10_takeLineAway 0 = .ok (.aload_n 0, 1) := by decide +kernel
theorem dX10_takeLineAway_1 : decode cX10_takeLineAway 1 = .ok (.iconst 0, 1) := by decide +kernel
theorem dX10_takeLineAway_2 : decode cX10_takeLineAway 2 = .ok (.putfield 81, 3) := by decide +kernel
theorem dX10_takeLineAway_5 : decode cX10_takeLineAway 5 = .ok (.iconst 0, 1) := by decide +kernel
theorem dX10_takeLineAway_6 : decode cX10_takeLineAway 6 = .ok (.istore_n 1, 1) := by decide +kernel
theorem dX10_takeLineAway_7 : decode cX10_takeLineAway 7 = .ok (.iload_n 1, 1) := by decide +kernel
theorem dX10_takeLineAway_8 : decode cX10_takeLineAway 8 = .ok (.aload_n 0, 1) := by decide +kernel
theorem dX10_takeLineAway_9 : decode cX10_takeLineAway 9 = .ok (.getfield 34, 3) := by decide +kernel
theorem dX10_takeLineAway_12 : decode cX10_takeLineAway 12 = .ok (.arraylength, 1) := by decide +kernel
theorem dX10_takeLineAway_13 : decode cX10_takeLineAway 13 = .ok (.if_icmp .ge 16, 3) := by decide +kernel
theorem dX10_takeLineAway_16 : decode cX10_takeLineAway 16 = .ok (.aload_n 0, 1) := by decide +kernel
theorem dX10_takeLineAway_17 : decode cX10_takeLineAway 17 = .ok (.getfield 34, 3) := by decide +kernel
theorem dX10_takeLineAway_20 : decode cX10_takeLineAway 20 = .ok (.iload_n 1, 1) := by decide +kernel
theorem dX10_takeLineAway_21 : decode cX10_takeLineAway 21 = .ok (.iconst 0, 1) := by decide +kernel
theorem dX10_takeLineAway_22 : decode cX10_takeLineAway 22 = .ok (.iastore, 1) := by decide +kernel
theorem dX10_takeLineAway_23 : decode cX10_takeLineAway 23 = .ok (.iinc 1 1, 3) := by decide +kernel
theorem dX10_takeLineAway_26 : decode cX10_takeLineAway 26 = .ok (.goto (-19), 3) := by decide +kernel
theorem dX10_takeLineAway_29 : decode cX10_takeLineAway 29 = .ok (.return_, 1) := by decide +kernel
theorem dX10_hang_0 : decode cX10_hang 0 = .ok (.aload_n 0, 1) := by decide +kernel
theorem dX10_hang_1 : decode cX10_hang 1 = .ok (.getfield 34, 3) := by decide +kernel
theorem dX10_hang_4 : decode cX10_hang 4 = .ok (.iload_n 1, 1) := by decide +kernel
theorem dX10_hang_5 : decode cX10_hang 5 = .ok (.invokestatic 88, 3) := by decide +kernel
theorem dX10_hang_8 : decode cX10_hang 8 = .ok (.aload_n 0, 1) := by decide +kernel
theorem dX10_hang_9 : decode cX10_hang 9 = .ok (.getfield 9, 3) := by decide +kernel
theorem dX10_hang_12 : decode cX10_hang 12 = .ok (.iload_n 1, 1) := by decide +kernel
theorem dX10_hang_13 : decode cX10_hang 13 = .ok (.invokestatic 88, 3) := by decide +kernel
theorem dX10_hang_16 : decode cX10_hang 16 = .ok (.if_icmp .lt 5, 3) := by decide +kernel
theorem dX10_hang_19 : decode cX10_hang 19 = .ok (.iconst 0, 1) := by decide +kernel
theorem dX10_hang_20 : decode cX10_hang 20 = .ok (.ireturn, 1) := by decide +kernel
theorem dX10_hang_21 : decode cX10_hang 21 = .ok (.aload_n 0, 1) := by decide +kernel
theorem dX10_hang_22 : decode cX10_hang 22 = .ok (.getfield 34, 3) := by decide +kernel
theorem dX10_hang_25 : decode cX10_hang 25 = .ok (.iload_n 1, 1) := by decide +kernel
theorem dX10_hang_26 : decode cX10_hang 26 = .ok (.iconst 1, 1) := by decide +kernel
theorem dX10_hang_27 : decode cX10_hang 27 = .ok (.invokestatic 92, 3) := by decide +kernel
theorem dX10_hang_30 : decode cX10_hang 30 = .ok (.aload_n 0, 1) := by decide +kernel
theorem dX10_hang_31 : decode cX10_hang 31 = .ok (.getfield 31, 3) := by decide +kernel
theorem dX10_hang_34 : decode cX10_hang 34 = .ok (.aload_n 0, 1) := by decide +kernel
theorem dX10_hang_35 : decode cX10_hang 35 = .ok (.getfield 81, 3) := by decide +kernel
theorem dX10_hang_38 : decode cX10_hang 38 = .ok (.iload_n 1, 1) := by decide +kernel
theorem dX10_hang_39 : decode cX10_hang 39 = .ok (.invokestatic 57, 3) := by decide +kernel
theorem dX10_hang_42 : decode cX10_hang 42 = .ok (.aload_n 0, 1) := by decide +kernel
theorem dX10_hang_43 : decode cX10_hang 43 = .ok (.dup, 1) := by decide +kernel
theorem dX10_hang_44 : decode cX10_hang 44 = .ok (.getfield 81, 3) := by decide +kernel
theorem dX10_hang_47 : decode cX10_hang 47 = .ok (.iconst 1, 1) := by decide +kernel
theorem dX10_hang_48 : decode cX10_hang 48 = .ok (.iadd, 1) := by decide +kernel
theorem dX10_hang_49 : decode cX10_hang 49 = .ok (.putfield 81, 3) := by decide +kernel
theorem dX10_hang_52 : decode cX10_hang 52 = .ok (.iconst 1, 1) := by decide +kernel
theorem dX10_hang_53 : decode cX10_hang 53 = .ok (.ireturn, 1) := by decide +kernel
theorem dX10_mostOut_0 : decode cX10_mostOut 0 = .ok (.iconst 0, 1) := by decide +kernel
theorem dX10_mostOut_1 : decode cX10_mostOut 1 = .ok (.istore_n 3, 1) := by decide +kernel
theorem dX10_mostOut_2 : decode cX10_mostOut 2 = .ok (.iload_n 3, 1) := by decide +kernel
theorem dX10_mostOut_3 : decode cX10_mostOut 3 = .ok (.aload_n 0, 1) := by decide +kernel
theorem dX10_mostOut_4 : decode cX10_mostOut 4 = .ok (.getfield 37, 3) := by decide +kernel
theorem dX10_mostOut_7 : decode cX10_mostOut 7 = .ok (.arraylength, 1) := by decide +kernel
theorem dX10_mostOut_8 : decode cX10_mostOut 8 = .ok (.if_icmp .ge 16, 3) := by decide +kernel
theorem dX10_mostOut_11 : decode cX10_mostOut 11 = .ok (.aload_n 0, 1) := by decide +kernel
theorem dX10_mostOut_12 : decode cX10_mostOut 12 = .ok (.getfield 37, 3) := by decide +kernel
theorem dX10_mostOut_15 : decode cX10_mostOut 15 = .ok (.iload_n 3, 1) := by decide +kernel
theorem dX10_mostOut_16 : decode cX10_mostOut 16 = .ok (.iconst 0, 1) := by decide +kernel
theorem dX10_mostOut_17 : decode cX10_mostOut 17 = .ok (.iastore, 1) := by decide +kernel
theorem dX10_mostOut_18 : decode cX10_mostOut 18 = .ok (.iinc 3 1, 3) := by decide +kernel
theorem dX10_mostOut_21 : decode cX10_mostOut 21 = .ok (.goto (-19), 3) := by decide +kernel
theorem dX10_mostOut_24 : decode cX10_mostOut 24 = .ok (.iconst 0, 1) := by decide +kernel
theorem dX10_mostOut_25 : decode cX10_mostOut 25 = .ok (.istore_n 3, 1) := by decide +kernel
theorem dX10_mostOut_26 : decode cX10_mostOut 26 = .ok (.iconst 0, 1) := by decide +kernel
theorem dX10_mostOut_27 : decode cX10_mostOut 27 = .ok (.istore 4, 2) := by decide +kernel
theorem dX10_mostOut_29 : decode cX10_mostOut 29 = .ok (.aload_n 0, 1) := by decide +kernel
theorem dX10_mostOut_30 : decode cX10_mostOut 30 = .ok (.getfield 81, 3) := by decide +kernel
theorem dX10_mostOut_33 : decode cX10_mostOut 33 = .ok (.iconst 1, 1) := by decide +kernel
theorem dX10_mostOut_34 : decode cX10_mostOut 34 = .ok (.isub, 1) := by decide +kernel
theorem dX10_mostOut_35 : decode cX10_mostOut 35 = .ok (.istore 5, 2) := by decide +kernel
theorem dX10_mostOut_37 : decode cX10_mostOut 37 = .ok (.iload 5, 2) := by decide +kernel
theorem dX10_mostOut_39 : decode cX10_mostOut 39 = .ok (.ifCond .lt 100, 3) := by decide +kernel
theorem dX10_mostOut_42 : decode cX10_mostOut 42 = .ok (.aload_n 0, 1) := by decide +kernel
theorem dX10_mostOut_43 : decode cX10_mostOut 43 = .ok (.getfield 31, 3) := by decide +kernel
theorem dX10_mostOut_46 : decode cX10_mostOut 46 = .ok (.iload 5, 2) := by decide +kernel
theorem dX10_mostOut_48 : decode cX10_mostOut 48 = .ok (.iload_n 1, 1) := by decide +kernel
theorem dX10_mostOut_49 : decode cX10_mostOut 49 = .ok (.if_icmp .ne 7, 3) := by decide +kernel
theorem dX10_mostOut_52 : decode cX10_mostOut 52 = .ok (.iload_n 2, 1) := by decide +kernel
theorem dX10_mostOut_53 : decode cX10_mostOut 53 = .ok (.goto 15, 3) := by decide +kernel
theorem dX10_mostOut_56 : decode cX10_mostOut 56 = .ok (.iload 5, 2) := by decide +kernel
theorem dX10_mostOut_58 : decode cX10_mostOut 58 = .ok (.iload_n 2, 1) := by decide +kernel
theorem dX10_mostOut_59 : decode cX10_mostOut 59 = .ok (.if_icmp .ne 7, 3) := by decide +kernel
theorem dX10_mostOut_62 : decode cX10_mostOut 62 = .ok (.iload_n 1, 1) := by decide +kernel
theorem dX10_mostOut_63 : decode cX10_mostOut 63 = .ok (.goto 5, 3) := by decide +kernel
theorem dX10_mostOut_66 : decode cX10_mostOut 66 = .ok (.iload 5, 2) := by decide +kernel
theorem dX10_mostOut_68 : decode cX10_mostOut 68 = .ok (.invokestatic 88, 3) := by decide +kernel
theorem dX10_mostOut_71 : decode cX10_mostOut 71 = .ok (.istore 6, 2) := by decide +kernel
theorem dX10_mostOut_73 : decode cX10_mostOut 73 = .ok (.aload_n 0, 1) := by decide +kernel
theorem dX10_mostOut_74 : decode cX10_mostOut 74 = .ok (.getfield 15, 3) := by decide +kernel
theorem dX10_mostOut_77 : decode cX10_mostOut 77 = .ok (.iload 6, 2) := by decide +kernel
theorem dX10_mostOut_79 : decode cX10_mostOut 79 = .ok (.invokestatic 88, 3) := by decide +kernel
theorem dX10_mostOut_82 : decode cX10_mostOut 82 = .ok (.istore 7, 2) := by decide +kernel
theorem dX10_mostOut_84 : decode cX10_mostOut 84 = .ok (.aload_n 0, 1) := by decide +kernel
theorem dX10_mostOut_85 : decode cX10_mostOut 85 = .ok (.getfield 37, 3) := by decide +kernel
theorem dX10_mostOut_88 : decode cX10_mostOut 88 = .ok (.iload 7, 2) := by decide +kernel
theorem dX10_mostOut_90 : decode cX10_mostOut 90 = .ok (.invokestatic 88, 3) := by decide +kernel
theorem dX10_mostOut_93 : decode cX10_mostOut 93 = .ok (.ifCond .le 19, 3) := by decide +kernel
theorem dX10_mostOut_96 : decode cX10_mostOut 96 = .ok (.aload_n 0, 1) := by decide +kernel
theorem dX10_mostOut_97 : decode cX10_mostOut 97 = .ok (.getfield 37, 3) := by decide +kernel
theorem dX10_mostOut_100 : decode cX10_mostOut 100 = .ok (.iload 7, 2) := by decide +kernel
theorem dX10_mostOut_102 : decode cX10_mostOut 102 = .ok (.iconst (-1), 1) := by decide +kernel
theorem dX10_mostOut_103 : decode cX10_mostOut 103 = .ok (.invokestatic 92, 3) := by decide +kernel
theorem dX10_mostOut_106 : decode cX10_mostOut 106 = .ok (.iinc 3 (-1), 3) := by decide +kernel
theorem dX10_mostOut_109 : decode cX10_mostOut 109 = .ok (.goto 16, 3) := by decide +kernel
theorem dX10_mostOut_112 : decode cX10_mostOut 112 = .ok (.aload_n 0, 1) := by decide +kernel
theorem dX10_mostOut_113 : decode cX10_mostOut 113 = .ok (.getfield 37, 3) := by decide +kernel
theorem dX10_mostOut_116 : decode cX10_mostOut 116 = .ok (.iload 6, 2) := by decide +kernel
theorem dX10_mostOut_118 : decode cX10_mostOut 118 = .ok (.iconst 1, 1) := by decide +kernel
theorem dX10_mostOut_119 : decode cX10_mostOut 119 = .ok (.invokestatic 92, 3) := by decide +kernel
theorem dX10_mostOut_122 : decode cX10_mostOut 122 = .ok (.iinc 3 1, 3) := by decide +kernel
theorem dX10_mostOut_125 : decode cX10_mostOut 125 = .ok (.iload 4, 2) := by decide +kernel
theorem dX10_mostOut_127 : decode cX10_mostOut 127 = .ok (.iload_n 3, 1) := by decide +kernel
theorem dX10_mostOut_128 : decode cX10_mostOut 128 = .ok (.invokestatic 95, 3) := by decide +kernel
theorem dX10_mostOut_131 : decode cX10_mostOut 131 = .ok (.istore 4, 2) := by decide +kernel
theorem dX10_mostOut_133 : decode cX10_mostOut 133 = .ok (.iinc 5 (-1), 3) := by decide +kernel
theorem dX10_mostOut_136 : decode cX10_mostOut 136 = .ok (.goto (-99), 3) := by decide +kernel
theorem dX10_mostOut_139 : decode cX10_mostOut 139 = .ok (.iload 4, 2) := by decide +kernel
theorem dX10_mostOut_141 : decode cX10_mostOut 141 = .ok (.ireturn, 1) := by decide +kernel
theorem dX11_init_0 : decode cX11_init 0 = .ok (.aload_n 0, 1) := by decide +kernel
theorem dX11_init_1 : decode cX11_init 1 = .ok (.invokespecial 1, 3) := by decide +kernel
theorem dX11_init_4 : decode cX11_init 4 = .ok (.aload_n 0, 1) := by decide +kernel
theorem dX11_init_5 : decode cX11_init 5 = .ok (.new 7, 3) := by decide +kernel
theorem dX11_init_8 : decode cX11_init 8 = .ok (.dup, 1) := by decide +kernel
theorem dX11_init_9 : decode cX11_init 9 = .ok (.invokespecial 9, 3) := by decide +kernel
theorem dX11_init_12 : decode cX11_init 12 = .ok (.putfield 10, 3) := by decide +kernel
theorem dX11_init_15 : decode cX11_init 15 = .ok (.aload_n 0, 1) := by decide +kernel
theorem dX11_init_16 : decode cX11_init 16 = .ok (.aload_n 0, 1) := by decide +kernel
theorem dX11_init_17 : decode cX11_init 17 = .ok (.getfield 10, 3) := by decide +kernel
theorem dX11_init_20 : decode cX11_init 20 = .ok (.getfield 16, 3) := by decide +kernel
theorem dX11_init_23 : decode cX11_init 23 = .ok (.putfield 20, 3) := by decide +kernel
theorem dX11_init_26 : decode cX11_init 26 = .ok (.aload_n 0, 1) := by decide +kernel
theorem dX11_init_27 : decode cX11_init 27 = .ok (.aload_n 0, 1) := by decide +kernel
theorem dX11_init_28 : decode cX11_init 28 = .ok (.getfield 20, 3) := by decide +kernel
theorem dX11_init_31 : decode cX11_init 31 = .ok (.getfield 21, 3) := by decide +kernel
theorem dX11_init_34 : decode cX11_init 34 = .ok (.putfield 27, 3) := by decide +kernel
theorem dX11_init_37 : decode cX11_init 37 = .ok (.aload_n 0, 1) := by decide +kernel
theorem dX11_init_38 : decode cX11_init 38 = .ok (.new 28, 3) := by decide +kernel
theorem dX11_init_41 : decode cX11_init 41 = .ok (.dup, 1) := by decide +kernel
theorem dX11_init_42 : decode cX11_init 42 = .ok (.invokespecial 30, 3) := by decide +kernel
theorem dX11_init_45 : decode cX11_init 45 = .ok (.putfield 31, 3) := by decide +kernel
theorem dX11_init_48 : decode cX11_init 48 = .ok (.aload_n 0, 1) := by decide +kernel
theorem dX11_init_49 : decode cX11_init 49 = .ok (.iconst (-1), 1) := by decide +kernel
theorem dX11_init_50 : decode cX11_init 50 = .ok (.putfield 35, 3) := by decide +kernel
theorem dX11_init_53 : decode cX11_init 53 = .ok (.aload_n 0, 1) := by decide +kernel
theorem dX11_init_54 : decode cX11_init 54 = .ok (.new 39, 3) := by decide +kernel
theorem dX11_init_57 : decode cX11_init 57 = .ok (.dup, 1) := by decide +kernel
theorem dX11_init_58 : decode cX11_init 58 = .ok (.invokespecial 41, 3) := by decide +kernel
theorem dX11_init_61 : decode cX11_init 61 = .ok (.putfield 42, 3) := by decide +kernel
theorem dX11_init_64 : decode cX11_init 64 = .ok (.aload_n 0, 1) := by decide +kernel
theorem dX11_init_65 : decode cX11_init 65 = .ok (.new 39, 3) := by decide +kernel
theorem dX11_init_68 : decode cX11_init 68 = .ok (.dup, 1) := by decide +kernel
theorem dX11_init_69 : decode cX11_init 69 = .ok (.invokespecial 41, 3) := by decide +kernel
theorem dX11_init_72 : decode cX11_init 72 = .ok (.putfield 46, 3) := by decide +kernel
theorem dX11_init_75 : decode cX11_init 75 = .ok (.aload_n 0, 1) := by decide +kernel
theorem dX11_init_76 : decode cX11_init 76 = .ok (.bipush 40, 2) := by decide +kernel
theorem dX11_init_78 : decode cX11_init 78 = .ok (.anewarray 39, 3) := by decide +kernel
theorem dX11_init_81 : decode cX11_init 81 = .ok (.putfield 49, 3) := by decide +kernel
theorem dX11_init_84 : decode cX11_init 84 = .ok (.aload_n 0, 1) := by decide +kernel
theorem dX11_init_85 : decode cX11_init 85 = .ok (.iconst 3, 1) := by decide +kernel
theorem dX11_init_86 : decode cX11_init 86 = .ok (.anewarray 39, 3) := by decide +kernel
theorem dX11_init_89 : decode cX11_init 89 = .ok (.putfield 53, 3) := by decide +kernel
theorem dX11_init_92 : decode cX11_init 92 = .ok (.aload_n 0, 1) := by decide +kernel
theorem dX11_init_93 : decode cX11_init 93 = .ok (.iconst 3, 1) := by decide +kernel
theorem dX11_init_94 : decode cX11_init 94 = .ok (.newarray .boolean, 2) := by decide +kernel
theorem dX11_init_96 : decode cX11_init 96 = .ok (.putfield 56, 3) := by decide +kernel
theorem dX11_init_99 : decode cX11_init 99 = .ok (.aload_n 0, 1) := by decide +kernel
theorem dX11_init_100 : decode cX11_init 100 = .ok (.new 60, 3) := by decide +kernel
theorem dX11_init_103 : decode cX11_init 103 = .ok (.dup, 1) := by decide +kernel
theorem dX11_init_104 : decode cX11_init 104 = .ok (.invokespecial 62, 3) := by decide +kernel
theorem dX11_init_107 : decode cX11_init 107 = .ok (.putfield 63, 3) := by decide +kernel
theorem dX11_init_110 : decode cX11_init 110 = .ok (.aload_n 0, 1) := by decide +kernel
theorem dX11_init_111 : decode cX11_init 111 = .ok (.new 67, 3) := by decide +kernel
theorem dX11_init_114 : decode cX11_init 114 = .ok (.dup, 1) := by decide +kernel
theorem dX11_init_115 : decode cX11_init 115 = .ok (.invokespecial 69, 3) := by decide +kernel
theorem dX11_init_118 : decode cX11_init 118 = .ok (.putfield 70, 3) := by decide +kernel
theorem dX11_init_121 : decode cX11_init 121 = .ok (.aload_n 0, 1) := by decide +kernel
theorem dX11_init_122 : decode cX11_init 122 = .ok (.new 74, 3) := by decide +kernel
theorem dX11_init_125 : decode cX11_init 125 = .ok (.dup, 1) := by decide +kernel
theorem dX11_init_126 : decode cX11_init 126 = .ok (.invokespecial 76, 3) := by decide +kernel
theorem dX11_init_129 : decode cX11_init 129 = .ok (.putfield 77, 3) := by decide +kernel
theorem dX11_init_132 : decode cX11_init 132 = .ok (.aload_n 0, 1) := by decide +kernel
theorem dX11_init_133 : decode cX11_init 133 = .ok (.new 81, 3) := by decide +kernel
theorem dX11_init_136 : decode cX11_init 136 = .ok (.dup, 1) := by decide +kernel
theorem dX11_init_137 : decode cX11_init 137 = .ok (.invokespecial 83, 3) := by decide +kernel
theorem dX11_init_140 : decode cX11_init 140 = .ok (.putfield 84, 3) := by decide +kernel
theorem dX11_init_143 : decode cX11_init 143 = .ok (.iconst 0, 1) := by decide +kernel
theorem dX11_init_144 : decode cX11_init 144 = .ok (.istore_n 1, 1) := by decide +kernel
theorem dX11_init_145 : decode cX11_init 145 = .ok (.iload_n 1, 1) := by decide +kernel
theorem dX11_init_146 : decode cX11_init 146 = .ok (.aload_n 0, 1) := by decide +kernel
theorem dX11_init_147 : decode cX11_init 147 = .ok (.getfield 49, 3) := by decide +kernel
theorem dX11_init_150 : decode cX11_init 150 = .ok (.arraylength, 1) := by decide +kernel
theorem dX11_init_151 : decode cX11_init 151 = .ok (.if_icmp .ge 22, 3) := by decide +kernel
theorem dX11_init_154 : decode cX11_init 154 = .ok (.aload_n 0, 1) := by decide +kernel
theorem dX11_init_155 : decode cX11_init 155 = .ok (.getfield 49, 3) := by decide +kernel
theorem dX11_init_158 : decode cX11_init 158 = .ok (.iload_n 1, 1) := by decide +kernel
theorem dX11_init_159 : decode cX11_init 159 = .ok (.new 39, 3) := by decide +kernel
theorem dX11_init_162 : decode cX11_init 162 = .ok (.dup, 1) := by decide +kernel
theorem dX11_init_163 : decode cX11_init 163 = .ok (.invokespecial 41, 3) := by decide +kernel
theorem dX11_init_166 : decode cX11_init 166 = .ok (.aastore, 1) := by decide +kernel
theorem dX11_init_167 : decode cX11_init 167 = .ok (.iinc 1 1, 3) := by decide +kernel
theorem dX11_init_170 : decode cX11_init 170 = .ok (.goto (-25), 3) := by decide +kernel
theorem dX11_init_173 : decode cX11_init 173 = .ok (.iconst 0, 1) := by decide +kernel
theorem dX11_init_174 : decode cX11_init 174 = .ok (.istore_n 1, 1) := by decide +kernel
theorem dX11_init_175 : decode cX11_init 175 = .ok (.iload_n 1, 1) := by decide +kernel
theorem dX11_init_176 : decode cX11_init 176 = .ok (.aload_n 0, 1) := by decide +kernel
theorem dX11_init_177 : decode cX11_init 177 = .ok (.getfield 53, 3) := by decide +kernel
theorem dX11_init_180 : decode cX11_init 180 = .ok (.arraylength, 1) := by decide +kernel
theorem dX11_init_181 : decode cX11_init 181 = .ok (.if_icmp .ge 22, 3) := by decide +kernel
theorem dX11_init_184 : decode cX11_init 184 = .ok (.aload_n 0, 1) := by decide +kernel
theorem dX11_init_185 : decode cX11_init 185 = .ok (.getfield 53, 3) := by decide +kernel
theorem dX11_init_188 : decode cX11_init 188 = .ok (.iload_n 1, 1) := by decide +kernel
theorem dX11_init_189 : decode cX11_init 189 = .ok (.new 39, 3) := by decide +kernel
theorem dX11_init_192 : decode cX11_init 192 = .ok (.dup, 1) := by decide +kernel
theorem dX11_init_193 : decode cX11_init 193 = .ok (.invokespecial 41, 3) := by decide +kernel
theorem dX11_init_196 : decode cX11_init 196 = .ok (.aastore, 1) := by decide +kernel
theorem dX11_init_197 : decode cX11_init 197 = .ok (.iinc 1 1, 3) := by decide +kernel
theorem dX11_init_200 : decode cX11_init 200 = .ok (.goto (-25), 3) := by decide +kernel
theorem dX11_init_203 : decode cX11_init 203 = .ok (.return_, 1) := by decide +kernel
theorem dX11_feed_0 : decode cX11_feed 0 = .ok (.aload_n 0, 1) := by decide +kernel
theorem dX11_feed_1 : decode cX11_feed 1 = .ok (.getfield 27, 3) := by decide +kernel
theorem dX11_feed_4 : decode cX11_feed 4 = .ok (.getfield 88, 3) := by decide +kernel
theorem dX11_feed_7 : decode cX11_feed 7 = .ok (.bipush 20, 2) := by decide +kernel
theorem dX11_feed_9 : decode cX11_feed 9 = .ok (.iadd, 1) := by decide +kernel
theorem dX11_feed_10 : decode cX11_feed 10 = .ok (.sipush 2000, 3) := by decide +kernel
theorem dX11_feed_13 : decode cX11_feed 13 = .ok (.if_icmp .le 5, 3) := by decide +kernel
theorem dX11_feed_16 : decode cX11_feed 16 = .ok (.iconst (-1), 1) := by decide +kernel
theorem dX11_feed_17 : decode cX11_feed 17 = .ok (.ireturn, 1) := by decide +kernel
theorem dX11_feed_18 : decode cX11_feed 18 = .ok (.aload_n 0, 1) := by decide +kernel
theorem dX11_feed_19 : decode cX11_feed 19 = .ok (.getfield 27, 3) := by decide +kernel
theorem dX11_feed_22 : decode cX11_feed 22 = .ok (.iload_n 1, 1) := by decide +kernel
theorem dX11_feed_23 : decode cX11_feed 23 = .ok (.invokevirtual 93, 3) := by decide +kernel
theorem dX11_feed_26 : decode cX11_feed 26 = .ok (.aload_n 0, 1) := by decide +kernel
theorem dX11_feed_27 : decode cX11_feed 27 = .ok (.getfield 27, 3) := by decide +kernel
theorem dX11_feed_30 : decode cX11_feed 30 = .ok (.iload_n 2, 1) := by decide +kernel
theorem dX11_feed_31 : decode cX11_feed 31 = .ok (.invokevirtual 93, 3) := by decide +kernel
theorem dX11_feed_34 : decode cX11_feed 34 = .ok (.aload_n 0, 1) := by decide +kernel
theorem dX11_feed_35 : decode cX11_feed 35 = .ok (.getfield 27, 3) := by decide +kernel
theorem dX11_feed_38 : decode cX11_feed 38 = .ok (.iload_n 3, 1) := by decide +kernel
theorem dX11_feed_39 : decode cX11_feed 39 = .ok (.invokevirtual 93, 3) := by decide +kernel
theorem dX11_feed_42 : decode cX11_feed 42 = .ok (.aload_n 0, 1) := by decide +kernel
theorem dX11_feed_43 : decode cX11_feed 43 = .ok (.getfield 27, 3) := by decide +kernel
theorem dX11_feed_46 : decode cX11_feed 46 = .ok (.iload 4, 2) := by decide +kernel
theorem dX11_feed_48 : decode cX11_feed 48 = .ok (.invokevirtual 93, 3) := by decide +kernel
theorem dX11_feed_51 : decode cX11_feed 51 = .ok (.aload_n 0, 1) := by decide +kernel
theorem dX11_feed_52 : decode cX11_feed 52 = .ok (.getfield 27, 3) := by decide +kernel
theorem dX11_feed_55 : decode cX11_feed 55 = .ok (.iload 5, 2) := by decide +kernel
theorem dX11_feed_57 : decode cX11_feed 57 = .ok (.invokevirtual 93, 3) := by decide +kernel
theorem dX11_feed_60 : decode cX11_feed 60 = .ok (.aload_n 0, 1) := by decide +kernel
theorem dX11_feed_61 : decode cX11_feed 61 = .ok (.getfield 27, 3) := by decide +kernel
theorem dX11_feed_64 : decode cX11_feed 64 = .ok (.getfield 88, 3) := by decide +kernel
theorem dX11_feed_67 : decode cX11_feed 67 = .ok (.ireturn, 1) := by decide +kernel
theorem dX11_back_0 : decode cX11_back 0 = .ok (.iload_n 1, 1) := by decide +kernel
theorem dX11_back_1 : decode cX11_back 1 = .ok (.ifCond .lt 14, 3) := by decide +kernel
theorem dX11_back_4 : decode cX11_back 4 = .ok (.iload_n 1, 1) := by decide +kernel
theorem dX11_back_5 : decode cX11_back 5 = .ok (.aload_n 0, 1) := by decide +kernel
theorem dX11_back_6 : decode cX11_back 6 = .ok (.getfield 27, 3) := by decide +kernel
theorem dX11_back_9 : decode cX11_back 9 = .ok (.getfield 88, 3) := by decide +kernel
theorem dX11_back_12 : decode cX11_back 12 = .ok (.if_icmp .le 5, 3) := by decide +kernel
theorem dX11_back_15 : decode cX11_back 15 = .ok (.iconst (-1), 1) := by decide +kernel
theorem dX11_back_16 : decode cX11_back 16 = .ok (.ireturn, 1) := by decide +kernel
theorem dX11_back_17 : decode cX11_back 17 = .ok (.aload_n 0, 1) := by decide +kernel
theorem dX11_back_18 : decode cX11_back 18 = .ok (.getfield 27, 3) := by decide +kernel
theorem dX11_back_21 : decode cX11_back 21 = .ok (.dup, 1) := by decide +kernel
theorem dX11_back_22 : decode cX11_back 22 = .ok (.getfield 88, 3) := by decide +kernel
theorem dX11_back_25 : decode cX11_back 25 = .ok (.iload_n 1, 1) := by decide +kernel
theorem dX11_back_26 : decode cX11_back 26 = .ok (.isub, 1) := by decide +kernel
theorem dX11_back_27 : decode cX11_back 27 = .ok (.putfield 88, 3) := by decide +kernel
theorem dX11_back_30 : decode cX11_back 30 = .ok (.aload_n 0, 1) := by decide +kernel
theorem dX11_back_31 : decode cX11_back 31 = .ok (.getfield 27, 3) := by decide +kernel
theorem dX11_back_34 : decode cX11_back 34 = .ok (.getfield 88, 3) := by decide +kernel
theorem dX11_back_37 : decode cX11_back 37 = .ok (.ireturn, 1) := by decide +kernel
theorem dX11_read_0 : decode cX11_read 0 = .ok (.aload_n 0, 1) := by decide +kernel
theorem dX11_read_1 : decode cX11_read 1 = .ok (.getfield 27, 3) := by decide +kernel
theorem dX11_read_4 : decode cX11_read 4 = .ok (.invokevirtual 97, 3) := by decide +kernel
theorem dX11_read_7 : decode cX11_read 7 = .ok (.aload_n 0, 1) := by decide +kernel
theorem dX11_read_8 : decode cX11_read 8 = .ok (.getfield 27, 3) := by decide +kernel
theorem dX11_read_11 : decode cX11_read 11 = .ok (.iconst 0, 1) := by decide +kernel
theorem dX11_read_12 : decode cX11_read 12 = .ok (.putfield 88, 3) := by decide +kernel
theorem dX11_read_15 : decode cX11_read 15 = .ok (.aload_n 0, 1) := by decide +kernel
theorem dX11_read_16 : decode cX11_read 16 = .ok (.getfield 20, 3) := by decide +kernel
theorem dX11_read_19 : decode cX11_read 19 = .ok (.invokevirtual 100, 3) := by decide +kernel
theorem dX11_read_22 : decode cX11_read 22 = .ok (.istore_n 1, 1) := by decide +kernel
theorem dX11_read_23 : decode cX11_read 23 = .ok (.aload_n 0, 1) := by decide +kernel
theorem dX11_read_24 : decode cX11_read 24 = .ok (.getfield 20, 3) := by decide +kernel
theorem dX11_read_27 : decode cX11_read 27 = .ok (.getfield 104, 3) := by decide +kernel
theorem dX11_read_30 : decode cX11_read 30 = .ok (.istore_n 2, 1) := by decide +kernel
theorem dX11_read_31 : decode cX11_read 31 = .ok (.iload_n 1, 1) := by decide +kernel
theorem dX11_read_32 : decode cX11_read 32 = .ok (.ifCond .ne 19, 3) := by decide +kernel
theorem dX11_read_35 : decode cX11_read 35 = .ok (.aload_n 0, 1) := by decide +kernel
theorem dX11_read_36 : decode cX11_read 36 = .ok (.getfield 10, 3) := by decide +kernel
theorem dX11_read_39 : decode cX11_read 39 = .ok (.invokevirtual 107, 3) := by decide +kernel
theorem dX11_read_42 : decode cX11_read 42 = .ok (.istore_n 1, 1) := by decide +kernel
theorem dX11_read_43 : decode cX11_read 43 = .ok (.aload_n 0, 1) := by decide +kernel
theorem dX11_read_44 : decode cX11_read 44 = .ok (.getfield 10, 3) := by decide +kernel
theorem dX11_read_47 : decode cX11_read 47 = .ok (.getfield 110, 3) := by decide +kernel
theorem dX11_read_50 : decode cX11_read 50 = .ok (.istore_n 2, 1) := by decide +kernel
theorem dX11_read_51 : decode cX11_read 51 = .ok (.iload_n 1, 1) := by decide +kernel
theorem dX11_read_52 : decode cX11_read 52 = .ok (.ifCond .eq 17, 3) := by decide +kernel
theorem dX11_read_55 : decode cX11_read 55 = .ok (.aload_n 0, 1) := by decide +kernel
theorem dX11_read_56 : decode cX11_read 56 = .ok (.aload_n 0, 1) := by decide +kernel
theorem dX11_read_57 : decode cX11_read 57 = .ok (.getfield 27, 3) := by decide +kernel
theorem dX11_read_60 : decode cX11_read 60 = .ok (.iload_n 2, 1) := by decide +kernel
theorem dX11_read_61 : decode cX11_read 61 = .ok (.invokevirtual 113, 3) := by decide +kernel
theorem dX11_read_64 : decode cX11_read 64 = .ok (.putfield 35, 3) := by decide +kernel
theorem dX11_read_67 : decode cX11_read 67 = .ok (.iload_n 1, 1) := by decide +kernel
theorem dX11_read_68 : decode cX11_read 68 = .ok (.ireturn, 1) := by decide +kernel
theorem dX11_read_69 : decode cX11_read 69 = .ok (.aload_n 0, 1) := by decide +kernel
theorem dX11_read_70 : decode cX11_read 70 = .ok (.iconst (-1), 1) := by decide +kernel
theorem dX11_read_71 : decode cX11_read 71 = .ok (.putfield 35, 3) := by decide +kernel
theorem dX11_read_74 : decode cX11_read 74 = .ok (.aload_n 0, 1) := by decide +kernel
theorem dX11_read_75 : decode cX11_read 75 = .ok (.getfield 31, 3) := by decide +kernel
theorem dX11_read_78 : decode cX11_read 78 = .ok (.aload_n 0, 1) := by decide +kernel
theorem dX11_read_79 : decode cX11_read 79 = .ok (.getfield 10, 3) := by decide +kernel
theorem dX11_read_82 : decode cX11_read 82 = .ok (.getfield 117, 3) := by decide +kernel
theorem dX11_read_85 : decode cX11_read 85 = .ok (.invokevirtual 120, 3) := by decide +kernel
theorem dX11_read_88 : decode cX11_read 88 = .ok (.aload_n 0, 1) := by decide +kernel
theorem dX11_read_89 : decode cX11_read 89 = .ok (.invokevirtual 124, 3) := by decide +kernel
theorem dX11_read_92 : decode cX11_read 92 = .ok (.iconst 0, 1) := by decide +kernel
theorem dX11_read_93 : decode cX11_read 93 = .ok (.ireturn, 1) := by decide +kernel
theorem dX11_place_0 : decode cX11_place 0 = .ok (.aload_n 0, 1) := by decide +kernel
theorem dX11_place_1 : decode cX11_place 1 = .ok (.getfield 35, 3) := by decide +kernel
theorem dX11_place_4 : decode cX11_place 4 = .ok (.ireturn, 1) := by decide +kernel
theorem dX11_kind_0 : decode cX11_kind 0 = .ok (.aload_n 0, 1) := by decide +kernel
theorem dX11_kind_1 : decode cX11_kind 1 = .ok (.iload_n 1, 1) := by decide +kernel
theorem dX11_kind_2 : decode cX11_kind 2 = .ok (.invokevirtual 127, 3) := by decide +kernel
theorem dX11_kind_5 : decode cX11_kind 5 = .ok (.ifCond .ne 5, 3) := by decide +kernel
theorem dX11_kind_8 : decode cX11_kind 8 = .ok (.iconst (-1), 1) := by decide +kernel
theorem dX11_kind_9 : decode cX11_kind 9 = .ok (.ireturn, 1) := by decide +kernel
theorem dX11_kind_10 : decode cX11_kind 10 = .ok (.iload_n 2, 1) := by decide +kernel
theorem dX11_kind_11 : decode cX11_kind 11 = .ok (.tableswitch 123 0 5 #[37, 49, 61, 73, 85, 111], 37) := by decide +kernel
theorem dX11_kind_48 : decode cX11_kind 48 = .ok (.aload_n 0, 1) := by decide +kernel
theorem dX11_kind_49 : decode cX11_kind 49 = .ok (.getfield 42, 3) := by decide +kernel
theorem dX11_kind_52 : decode cX11_kind 52 = .ok (.getfield 131, 3) := by decide +kernel
theorem dX11_kind_55 : decode cX11_kind 55 = .ok (.iload_n 1, 1) := by decide +kernel
theorem dX11_kind_56 : decode cX11_kind 56 = .ok (.invokestatic 135, 3) := by decide +kernel
theorem dX11_kind_59 : decode cX11_kind 59 = .ok (.ireturn, 1) := by decide +kernel
theorem dX11_kind_60 : decode cX11_kind 60 = .ok (.aload_n 0, 1) := by decide +kernel
theorem dX11_kind_61 : decode cX11_kind 61 = .ok (.getfield 42, 3) := by decide +kernel
theorem dX11_kind_64 : decode cX11_kind 64 = .ok (.getfield 139, 3) := by decide +kernel
theorem dX11_kind_67 : decode cX11_kind 67 = .ok (.iload_n 1, 1) := by decide +kernel
theorem dX11_kind_68 : decode cX11_kind 68 = .ok (.invokestatic 135, 3) := by decide +kernel
theorem dX11_kind_71 : decode cX11_kind 71 = .ok (.ireturn, 1) := by decide +kernel
theorem dX11_kind_72 : decode cX11_kind 72 = .ok (.aload_n 0, 1) := by decide +kernel
theorem dX11_kind_73 : decode cX11_kind 73 = .ok (.getfield 31, 3) := by decide +kernel
theorem dX11_kind_76 : decode cX11_kind 76 = .ok (.getfield 142, 3) := by decide +kernel
theorem dX11_kind_79 : decode cX11_kind 79 = .ok (.iload_n 1, 1) := by decide +kernel
theorem dX11_kind_80 : decode cX11_kind 80 = .ok (.invokestatic 135, 3) := by decide +kernel
theorem dX11_kind_83 : decode cX11_kind 83 = .ok (.ireturn, 1) := by decide +kernel
theorem dX11_kind_84 : decode cX11_kind 84 = .ok (.aload_n 0, 1) := by decide +kernel
theorem dX11_kind_85 : decode cX11_kind 85 = .ok (.getfield 31, 3) := by decide +kernel
theorem dX11_kind_88 : decode cX11_kind 88 = .ok (.getfield 145, 3) := by decide +kernel
theorem dX11_kind_91 : decode cX11_kind 91 = .ok (.iload_n 1, 1) := by decide +kernel
theorem dX11_kind_92 : decode cX11_kind 92 = .ok (.invokestatic 135, 3) := by decide +kernel
theorem dX11_kind_95 : decode cX11_kind 95 = .ok (.ireturn, 1) := by decide +kernel
theorem dX11_kind_96 : decode cX11_kind 96 = .ok (.aload_n 0, 1) := by decide +kernel
theorem dX11_kind_97 : decode cX11_kind 97 = .ok (.getfield 42, 3) := by decide +kernel
theorem dX11_kind_100 : decode cX11_kind 100 = .ok (.getfield 148, 3) := by decide +kernel
theorem dX11_kind_103 : decode cX11_kind 103 = .ok (.iload_n 1, 1) := by decide +kernel
theorem dX11_kind_104 : decode cX11_kind 104 = .ok (.aload_n 0, 1) := by decide +kernel
theorem dX11_kind_105 : decode cX11_kind 105 = .ok (.getfield 31, 3) := by decide +kernel
theorem dX11_kind_108 : decode cX11_kind 108 = .ok (.getfield 145, 3) := by decide +kernel
theorem dX11_kind_111 : decode cX11_kind 111 = .ok (.iload_n 1, 1) := by decide +kernel
theorem dX11_kind_112 : decode cX11_kind 112 = .ok (.invokestatic 135, 3) := by decide +kernel
theorem dX11_kind_115 : decode cX11_kind 115 = .ok (.invokestatic 151, 3) := by decide +kernel
theorem dX11_kind_118 : decode cX11_kind 118 = .ok (.invokestatic 135, 3) := by decide +kernel
theorem dX11_kind_121 : decode cX11_kind 121 = .ok (.ireturn, 1) := by decide +kernel
theorem dX11_kind_122 : decode cX11_kind 122 = .ok (.aload_n 0, 1) := by decide +kernel
theorem dX11_kind_123 : decode cX11_kind 123 = .ok (.getfield 31, 3) := by decide +kernel
theorem dX11_kind_126 : decode cX11_kind 126 = .ok (.getfield 157, 3) := by decide +kernel
theorem dX11_kind_129 : decode cX11_kind 129 = .ok (.iload_n 1, 1) := by decide +kernel
theorem dX11_kind_130 : decode cX11_kind 130 = .ok (.invokestatic 135, 3) := by decide +kernel
theorem dX11_kind_133 : decode cX11_kind 133 = .ok (.ireturn, 1) := by decide +kernel
theorem dX11_kind_134 : decode cX11_kind 134 = .ok (.iconst (-1), 1) := by decide +kernel
theorem dX11_kind_135 : decode cX11_kind 135 = .ok (.ireturn, 1) := by decide +kernel
theorem dX11_unlike_0 : decode cX11_unlike 0 = .ok (.iload_n 1, 1) := by decide +kernel
theorem dX11_unlike_1 : decode cX11_unlike 1 = .ok (.ifCond .lt 29, 3) := by decide +kernel
theorem dX11_unlike_4 : decode cX11_unlike 4 = .ok (.iload_n 1, 1) := by decide +kernel
theorem dX11_unlike_5 : decode cX11_unlike 5 = .ok (.aload_n 0, 1) := by decide +kernel
theorem dX11_unlike_6 : decode cX11_unlike 6 = .ok (.getfield 31, 3) := by decide +kernel
theorem dX11_unlike_9 : decode cX11_unlike 9 = .ok (.getfield 160, 3) := by decide +kernel
theorem dX11_unlike_12 : decode cX11_unlike 12 = .ok (.if_icmp .ge 18, 3) := by decide +kernel
theorem dX11_unlike_15 : decode cX11_unlike 15 = .ok (.iload_n 2, 1) := by decide +kernel
theorem dX11_unlike_16 : decode cX11_unlike 16 = .ok (.ifCond .lt 14, 3) := by decide +kernel
theorem dX11_unlike_19 : decode cX11_unlike 19 = .ok (.iload_n 2, 1) := by decide +kernel
theorem dX11_unlike_20 : decode cX11_unlike 20 = .ok (.aload_n 0, 1) := by decide +kernel
theorem dX11_unlike_21 : decode cX11_unlike 21 = .ok (.getfield 31, 3) := by decide +kernel
theorem dX11_unlike_24 : decode cX11_unlike 24 = .ok (.getfield 160, 3) := by decide +kernel
theorem dX11_unlike_27 : decode cX11_unlike 27 = .ok (.if_icmp .lt 5, 3) := by decide +kernel
theorem dX11_unlike_30 : decode cX11_unlike 30 = .ok (.iconst (-1), 1) := by decide +kernel
theorem dX11_unlike_31 : decode cX11_unlike 31 = .ok (.ireturn, 1) := by decide +kernel
theorem dX11_unlike_32 : decode cX11_unlike 32 = .ok (.aload_n 0, 1) := by decide +kernel
theorem dX11_unlike_33 : decode cX11_unlike 33 = .ok (.getfield 31, 3) := by decide +kernel
theorem dX11_unlike_36 : decode cX11_unlike 36 = .ok (.iload_n 1, 1) := by decide +kernel
theorem dX11_unlike_37 : decode cX11_unlike 37 = .ok (.iload_n 2, 1) := by decide +kernel
theorem dX11_unlike_38 : decode cX11_unlike 38 = .ok (.invokevirtual 163, 3) := by decide +kernel
theorem dX11_unlike_41 : decode cX11_unlike 41 = .ok (.ireturn, 1) := by decide +kernel
theorem dX11_draw_0 : decode cX11_draw 0 = .ok (.aload_n 0, 1) := by decide +kernel
theorem dX11_draw_1 : decode cX11_draw 1 = .ok (.iload_n 1, 1) := by decide +kernel
theorem dX11_draw_2 : decode cX11_draw 2 = .ok (.invokevirtual 127, 3) := by decide +kernel
theorem dX11_draw_5 : decode cX11_draw 5 = .ok (.ifCond .eq 18, 3) := by decide +kernel
theorem dX11_draw_8 : decode cX11_draw 8 = .ok (.aload_n 0, 1) := by decide +kernel
theorem dX11_draw_9 : decode cX11_draw 9 = .ok (.getfield 42, 3) := by decide +kernel
theorem dX11_draw_12 : decode cX11_draw 12 = .ok (.getfield 131, 3) := by decide +kernel
theorem dX11_draw_15 : decode cX11_draw 15 = .ok (.iload_n 1, 1) := by decide +kernel
theorem dX11_draw_16 : decode cX11_draw 16 = .ok (.invokestatic 135, 3) := by decide +kernel
theorem dX11_draw_19 : decode cX11_draw 19 = .ok (.iconst 1, 1) := by decide +kernel
theorem dX11_draw_20 : decode cX11_draw 20 = .ok (.if_icmp .ge 5, 3) := by decide +kernel
theorem dX11_draw_23 : decode cX11_draw 23 = .ok (.iconst (-1), 1) := by decide +kernel
theorem dX11_draw_24 : decode cX11_draw 24 = .ok (.ireturn, 1) := by decide +kernel
theorem dX11_draw_25 : decode cX11_draw 25 = .ok (.aload_n 0, 1) := by decide +kernel
theorem dX11_draw_26 : decode cX11_draw 26 = .ok (.getfield 42, 3) := by decide +kernel
theorem dX11_draw_29 : decode cX11_draw 29 = .ok (.getfield 166, 3) := by decide +kernel
theorem dX11_draw_32 : decode cX11_draw 32 = .ok (.ifCond .eq 5, 3) := by decide +kernel
theorem dX11_draw_35 : decode cX11_draw 35 = .ok (.iconst 3, 1) := by decide +kernel
theorem dX11_draw_36 : decode cX11_draw 36 = .ok (.ireturn, 1) := by decide +kernel
theorem dX11_draw_37 : decode cX11_draw 37 = .ok (.aload_n 0, 1) := by decide +kernel
theorem dX11_draw_38 : decode cX11_draw 38 = .ok (.invokevirtual 170, 3) := by decide +kernel
theorem dX11_draw_41 : decode cX11_draw 41 = .ok (.aload_n 0, 1) := by decide +kernel
theorem dX11_draw_42 : decode cX11_draw 42 = .ok (.getfield 42, 3) := by decide +kernel
theorem dX11_draw_45 : decode cX11_draw 45 = .ok (.aload_n 0, 1) := by decide +kernel
theorem dX11_draw_46 : decode cX11_draw 46 = .ok (.getfield 31, 3) := by decide +kernel
theorem dX11_draw_49 : decode cX11_draw 49 = .ok (.iload_n 1, 1) := by decide +kernel
theorem dX11_draw_50 : decode cX11_draw 50 = .ok (.aload_n 0, 1) := by decide +kernel
theorem dX11_draw_51 : decode cX11_draw 51 = .ok (.getfield 31, 3) := by decide +kernel
theorem dX11_draw_54 : decode cX11_draw 54 = .ok (.getfield 173, 3) := by decide +kernel
theorem dX11_draw_57 : decode cX11_draw 57 = .ok (.invokevirtual 176, 3) := by decide +kernel
theorem dX11_draw_60 : decode cX11_draw 60 = .ok (.ireturn, 1) := by decide +kernel
theorem dX11_lot_0 : decode cX11_lot 0 = .ok (.aload_n 0, 1) := by decide +kernel
theorem dX11_lot_1 : decode cX11_lot 1 = .ok (.getfield 42, 3) := by decide +kernel
theorem dX11_lot_4 : decode cX11_lot 4 = .ok (.getfield 131, 3) := by decide +kernel
theorem dX11_lot_7 : decode cX11_lot 7 = .ok (.invokestatic 180, 3) := by decide +kernel
theorem dX11_lot_10 : decode cX11_lot 10 = .ok (.ifCond .ne 6, 3) := by decide +kernel
theorem dX11_lot_13 : decode cX11_lot 13 = .ok (.bipush (-2), 2) := by decide +kernel
theorem dX11_lot_15 : decode cX11_lot 15 = .ok (.ireturn, 1) := by decide +kernel
theorem dX11_lot_16 : decode cX11_lot 16 = .ok (.aload_n 0, 1) := by decide +kernel
theorem dX11_lot_17 : decode cX11_lot 17 = .ok (.getfield 42, 3) := by decide +kernel
theorem dX11_lot_20 : decode cX11_lot 20 = .ok (.getfield 166, 3) := by decide +kernel
theorem dX11_lot_23 : decode cX11_lot 23 = .ok (.ifCond .eq 5, 3) := by decide +kernel
theorem dX11_lot_26 : decode cX11_lot 26 = .ok (.iconst 3, 1) := by decide +kernel
theorem dX11_lot_27 : decode cX11_lot 27 = .ok (.ireturn, 1) := by decide +kernel
theorem dX11_lot_28 : decode cX11_lot 28 = .ok (.aload_n 0, 1) := by decide +kernel
theorem dX11_lot_29 : decode cX11_lot 29 = .ok (.invokevirtual 170, 3) := by decide +kernel
theorem dX11_lot_32 : decode cX11_lot 32 = .ok (.aload_n 0, 1) := by decide +kernel
theorem dX11_lot_33 : decode cX11_lot 33 = .ok (.getfield 42, 3) := by decide +kernel
theorem dX11_lot_36 : decode cX11_lot 36 = .ok (.aload_n 0, 1) := by decide +kernel
theorem dX11_lot_37 : decode cX11_lot 37 = .ok (.getfield 31, 3) := by decide +kernel
theorem dX11_lot_40 : decode cX11_lot 40 = .ok (.getfield 184, 3) := by decide +kernel
theorem dX11_lot_43 : decode cX11_lot 43 = .ok (.invokevirtual 187, 3) := by decide +kernel
theorem dX11_lot_46 : decode cX11_lot 46 = .ok (.istore_n 1, 1) := by decide +kernel
theorem dX11_lot_47 : decode cX11_lot 47 = .ok (.bipush 10, 2) := by decide +kernel
theorem dX11_lot_49 : decode cX11_lot 49 = .ok (.iload_n 1, 1) := by decide +kernel
theorem dX11_lot_50 : decode cX11_lot 50 = .ok (.imul, 1) := by decide +kernel
theorem dX11_lot_51 : decode cX11_lot 51 = .ok (.aload_n 0, 1) := by decide +kernel
theorem dX11_lot_52 : decode cX11_lot 52 = .ok (.getfield 42, 3) := by decide +kernel
theorem dX11_lot_55 : decode cX11_lot 55 = .ok (.aload_n 0, 1) := by decide +kernel
theorem dX11_lot_56 : decode cX11_lot 56 = .ok (.getfield 31, 3) := by decide +kernel
theorem dX11_lot_59 : decode cX11_lot 59 = .ok (.iload_n 1, 1) := by decide +kernel
theorem dX11_lot_60 : decode cX11_lot 60 = .ok (.aload_n 0, 1) := by decide +kernel
theorem dX11_lot_61 : decode cX11_lot 61 = .ok (.getfield 31, 3) := by decide +kernel
theorem dX11_lot_64 : decode cX11_lot 64 = .ok (.getfield 173, 3) := by decide +kernel
theorem dX11_lot_67 : decode cX11_lot 67 = .ok (.invokevirtual 176, 3) := by decide +kernel
theorem dX11_lot_70 : decode cX11_lot 70 = .ok (.iadd, 1) := by decide +kernel
theorem dX11_lot_71 : decode cX11_lot 71 = .ok (.ireturn, 1) := by decide +kernel
theorem dX11_take_0 : decode cX11_take 0 = .ok (.aload_n 0, 1) := by decide +kernel
theorem dX11_take_1 : decode cX11_take 1 = .ok (.iload_n 1, 1) := by decide +kernel
theorem dX11_take_2 : decode cX11_take 2 = .ok (.invokevirtual 127, 3) := by decide +kernel
theorem dX11_take_5 : decode cX11_take 5 = .ok (.ifCond .eq 18, 3) := by decide +kernel
theorem dX11_take_8 : decode cX11_take 8 = .ok (.aload_n 0, 1) := by decide +kernel
theorem dX11_take_9 : decode cX11_take 9 = .ok (.getfield 42, 3) := by decide +kernel
theorem dX11_take_12 : decode cX11_take 12 = .ok (.getfield 139, 3) := by decide +kernel
theorem dX11_take_15 : decode cX11_take 15 = .ok (.iload_n 1, 1) := by decide +kernel
theorem dX11_take_16 : decode cX11_take 16 = .ok (.invokestatic 135, 3) := by decide +kernel
theorem dX11_take_19 : decode cX11_take 19 = .ok (.iconst 1, 1) := by decide +kernel
theorem dX11_take_20 : decode cX11_take 20 = .ok (.if_icmp .ge 5, 3) := by decide +kernel
theorem dX11_take_23 : decode cX11_take 23 = .ok (.iconst 0, 1) := by decide +kernel
theorem dX11_take_24 : decode cX11_take 24 = .ok (.ireturn, 1) := by decide +kernel
theorem dX11_take_25 : decode cX11_take 25 = .ok (.aload_n 0, 1) := by decide +kernel
theorem dX11_take_26 : decode cX11_take 26 = .ok (.invokevirtual 170, 3) := by decide +kernel
theorem dX11_take_29 : decode cX11_take 29 = .ok (.aload_n 0, 1) := by decide +kernel
theorem dX11_take_30 : decode cX11_take 30 = .ok (.getfield 42, 3) := by decide +kernel
theorem dX11_take_33 : decode cX11_take 33 = .ok (.iload_n 1, 1) := by decide +kernel
theorem dX11_take_34 : decode cX11_take 34 = .ok (.invokevirtual 190, 3) := by decide +kernel
theorem dX11_take_37 : decode cX11_take 37 = .ok (.iconst 1, 1) := by decide +kernel
theorem dX11_take_38 : decode cX11_take 38 = .ok (.ireturn, 1) := by decide +kernel
theorem dX11_undo_0 : decode cX11_undo 0 = .ok (.aload_n 0, 1) := by decide +kernel
theorem dX11_undo_1 : decode cX11_undo 1 = .ok (.getfield 193, 3) := by decide +kernel
theorem dX11_undo_4 : decode cX11_undo 4 = .ok (.iconst 1, 1) := by decide +kernel
theorem dX11_undo_5 : decode cX11_undo 5 = .ok (.if_icmp .ge 5, 3) := by decide +kernel
theorem dX11_undo_8 : decode cX11_undo 8 = .ok (.iconst 0, 1) := by decide +kernel
theorem dX11_undo_9 : decode cX11_undo 9 = .ok (.ireturn, 1) := by decide +kernel
theorem dX11_undo_10 : decode cX11_undo 10 = .ok (.aload_n 0, 1) := by decide +kernel
theorem dX11_undo_11 : decode cX11_undo 11 = .ok (.dup, 1) := by decide +kernel
theorem dX11_undo_12 : decode cX11_undo 12 = .ok (.getfield 193, 3) := by decide +kernel
theorem dX11_undo_15 : decode cX11_undo 15 = .ok (.iconst 1, 1) := by decide +kernel
theorem dX11_undo_16 : decode cX11_undo 16 = .ok (.isub, 1) := by decide +kernel
theorem dX11_undo_17 : decode cX11_undo 17 = .ok (.putfield 193, 3) := by decide +kernel
theorem dX11_undo_20 : decode cX11_undo 20 = .ok (.aload_n 0, 1) := by decide +kernel
theorem dX11_undo_21 : decode cX11_undo 21 = .ok (.getfield 42, 3) := by decide +kernel
theorem dX11_undo_24 : decode cX11_undo 24 = .ok (.aload_n 0, 1) := by decide +kernel
theorem dX11_undo_25 : decode cX11_undo 25 = .ok (.getfield 49, 3) := by decide +kernel
theorem dX11_undo_28 : decode cX11_undo 28 = .ok (.aload_n 0, 1) := by decide +kernel
theorem dX11_undo_29 : decode cX11_undo 29 = .ok (.getfield 196, 3) := by decide +kernel
theorem dX11_undo_32 : decode cX11_undo 32 = .ok (.aload_n 0, 1) := by decide +kernel
theorem dX11_undo_33 : decode cX11_undo 33 = .ok (.getfield 193, 3) := by decide +kernel
theorem dX11_undo_36 : decode cX11_undo 36 = .ok (.iadd, 1) := by decide +kernel
theorem dX11_undo_37 : decode cX11_undo 37 = .ok (.bipush 40, 2) := by decide +kernel
theorem dX11_undo_39 : decode cX11_undo 39 = .ok (.invokestatic 199, 3) := by decide +kernel
theorem dX11_undo_42 : decode cX11_undo 42 = .ok (.aaload, 1) := by decide +kernel
theorem dX11_undo_43 : decode cX11_undo 43 = .ok (.invokevirtual 202, 3) := by decide +kernel
theorem dX11_undo_46 : decode cX11_undo 46 = .ok (.iconst 1, 1) := by decide +kernel
theorem dX11_undo_47 : decode cX11_undo 47 = .ok (.ireturn, 1) := by decide +kernel
theorem dX11_within_0 : decode cX11_within 0 = .ok (.iload_n 1, 1) := by decide +kernel
theorem dX11_within_1 : decode cX11_within 1 = .ok (.ifCond .lt 9, 3) := by decide +kernel
theorem dX11_within_4 : decode cX11_within 4 = .ok (.iload_n 1, 1) := by decide +kernel
theorem dX11_within_5 : decode cX11_within 5 = .ok (.bipush 18, 2) := by decide +kernel
theorem dX11_within_7 : decode cX11_within 7 = .ok (.if_icmp .le 7, 3) := by decide +kernel
theorem dX11_within_10 : decode cX11_within 10 = .ok (.ldc2_w 205, 3) := by decide +kernel
theorem dX11_within_13 : decode cX11_within 13 = .ok (.lreturn, 1) := by decide +kernel
theorem dX11_within_14 : decode cX11_within 14 = .ok (.aload_n 0, 1) := by decide +kernel
theorem dX11_within_15 : decode cX11_within 15 = .ok (.getfield 63, 3) := by decide +kernel
theorem dX11_within_18 : decode cX11_within 18 = .ok (.aload_n 0, 1) := by decide +kernel
theorem dX11_within_19 : decode cX11_within 19 = .ok (.getfield 42, 3) := by decide +kernel
theorem dX11_within_22 : decode cX11_within 22 = .ok (.aload_n 0, 1) := by decide +kernel
theorem dX11_within_23 : decode cX11_within 23 = .ok (.getfield 31, 3) := by decide +kernel
theorem dX11_within_26 : decode cX11_within 26 = .ok (.invokevirtual 207, 3) := by decide +kernel
theorem dX11_within_29 : decode cX11_within 29 = .ok (.aload_n 0, 1) := by decide +kernel
theorem dX11_within_30 : decode cX11_within 30 = .ok (.getfield 63, 3) := by decide +kernel
theorem dX11_within_33 : decode cX11_within 33 = .ok (.iload_n 1, 1) := by decide +kernel
theorem dX11_within_34 : decode cX11_within 34 = .ok (.invokevirtual 211, 3) := by decide +kernel
theorem dX11_within_37 : decode cX11_within 37 = .ok (.lreturn, 1) := by decide +kernel
theorem dX11_lies_0 : decode cX11_lies 0 = .ok (.iload_n 1, 1) := by decide +kernel
theorem dX11_lies_1 : decode cX11_lies 1 = .ok (.ifCond .lt 17, 3) := by decide +kernel
theorem dX11_lies_4 : decode cX11_lies 4 = .ok (.iload_n 1, 1) := by decide +kernel
theorem dX11_lies_5 : decode cX11_lies 5 = .ok (.aload_n 0, 1) := by decide +kernel
theorem dX11_lies_6 : decode cX11_lies 6 = .ok (.getfield 42, 3) := by decide +kernel
theorem dX11_lies_9 : decode cX11_lies 9 = .ok (.getfield 131, 3) := by decide +kernel
theorem dX11_lies_12 : decode cX11_lies 12 = .ok (.invokestatic 180, 3) := by decide +kernel
theorem dX11_lies_15 : decode cX11_lies 15 = .ok (.if_icmp .le 7, 3) := by decide +kernel
theorem dX11_lies_18 : decode cX11_lies 18 = .ok (.ldc2_w 205, 3) := by decide +kernel
theorem dX11_lies_21 : decode cX11_lies 21 = .ok (.lreturn, 1) := by decide +kernel
theorem dX11_lies_22 : decode cX11_lies 22 = .ok (.aload_n 0, 1) := by decide +kernel
theorem dX11_lies_23 : decode cX11_lies 23 = .ok (.getfield 63, 3) := by decide +kernel
theorem dX11_lies_26 : decode cX11_lies 26 = .ok (.aload_n 0, 1) := by decide +kernel
theorem dX11_lies_27 : decode cX11_lies 27 = .ok (.getfield 42, 3) := by decide +kernel
theorem dX11_lies_30 : decode cX11_lies 30 = .ok (.aload_n 0, 1) := by decide +kernel
theorem dX11_lies_31 : decode cX11_lies 31 = .ok (.getfield 31, 3) := by decide +kernel
theorem dX11_lies_34 : decode cX11_lies 34 = .ok (.invokevirtual 207, 3) := by decide +kernel
theorem dX11_lies_37 : decode cX11_lies 37 = .ok (.aload_n 0, 1) := by decide +kernel
theorem dX11_lies_38 : decode cX11_lies 38 = .ok (.getfield 63, 3) := by decide +kernel
theorem dX11_lies_41 : decode cX11_lies 41 = .ok (.iload_n 1, 1) := by decide +kernel
theorem dX11_lies_42 : decode cX11_lies 42 = .ok (.invokevirtual 215, 3) := by decide +kernel
theorem dX11_lies_45 : decode cX11_lies 45 = .ok (.lreturn, 1) := by decide +kernel
theorem dX11_mosts_0 : decode cX11_mosts 0 = .ok (.aload_n 0, 1) := by decide +kernel
theorem dX11_mosts_1 : decode cX11_mosts 1 = .ok (.getfield 63, 3) := by decide +kernel
theorem dX11_mosts_4 : decode cX11_mosts 4 = .ok (.aload_n 0, 1) := by decide +kernel
theorem dX11_mosts_5 : decode cX11_mosts 5 = .ok (.getfield 42, 3) := by decide +kernel
theorem dX11_mosts_8 : decode cX11_mosts 8 = .ok (.aload_n 0, 1) := by decide +kernel
theorem dX11_mosts_9 : decode cX11_mosts 9 = .ok (.getfield 31, 3) := by decide +kernel
theorem dX11_mosts_12 : decode cX11_mosts 12 = .ok (.invokevirtual 207, 3) := by decide +kernel
theorem dX11_mosts_15 : decode cX11_mosts 15 = .ok (.aload_n 0, 1) := by decide +kernel
theorem dX11_mosts_16 : decode cX11_mosts 16 = .ok (.getfield 63, 3) := by decide +kernel
theorem dX11_mosts_19 : decode cX11_mosts 19 = .ok (.invokevirtual 218, 3) := by decide +kernel
theorem dX11_mosts_22 : decode cX11_mosts 22 = .ok (.lreturn, 1) := by decide +kernel
theorem dX11_sure_0 : decode cX11_sure 0 = .ok (.iload_n 2, 1) := by decide +kernel
theorem dX11_sure_1 : decode cX11_sure 1 = .ok (.iconst 1, 1) := by decide +kernel
theorem dX11_sure_2 : decode cX11_sure 2 = .ok (.if_icmp .lt 18, 3) := by decide +kernel
theorem dX11_sure_5 : decode cX11_sure 5 = .ok (.iload_n 2, 1) := by decide +kernel
theorem dX11_sure_6 : decode cX11_sure 6 = .ok (.bipush 99, 2) := by decide +kernel
theorem dX11_sure_8 : decode cX11_sure 8 = .ok (.if_icmp .gt 12, 3) := by decide +kernel
theorem dX11_sure_11 : decode cX11_sure 11 = .ok (.iload_n 1, 1) := by decide +kernel
theorem dX11_sure_12 : decode cX11_sure 12 = .ok (.ifCond .lt 8, 3) := by decide +kernel
theorem dX11_sure_15 : decode cX11_sure 15 = .ok (.iload_n 1, 1) := by decide +kernel
theorem dX11_sure_16 : decode cX11_sure 16 = .ok (.iload_n 2, 1) := by decide +kernel
theorem dX11_sure_17 : decode cX11_sure 17 = .ok (.if_icmp .le 5, 3) := by decide +kernel
theorem dX11_sure_20 : decode cX11_sure 20 = .ok (.iconst (-1), 1) := by decide +kernel
theorem dX11_sure_21 : decode cX11_sure 21 = .ok (.ireturn, 1) := by decide +kernel
theorem dX11_sure_22 : decode cX11_sure 22 = .ok (.aload_n 0, 1) := by decide +kernel
theorem dX11_sure_23 : decode cX11_sure 23 = .ok (.getfield 63, 3) := by decide +kernel
theorem dX11_sure_26 : decode cX11_sure 26 = .ok (.aload_n 0, 1) := by decide +kernel
theorem dX11_sure_27 : decode cX11_sure 27 = .ok (.getfield 42, 3) := by decide +kernel
theorem dX11_sure_30 : decode cX11_sure 30 = .ok (.aload_n 0, 1) := by decide +kernel
theorem dX11_sure_31 : decode cX11_sure 31 = .ok (.getfield 31, 3) := by decide +kernel
theorem dX11_sure_34 : decode cX11_sure 34 = .ok (.invokevirtual 207, 3) := by decide +kernel
theorem dX11_sure_37 : decode cX11_sure 37 = .ok (.aload_n 0, 1) := by decide +kernel
theorem dX11_sure_38 : decode cX11_sure 38 = .ok (.getfield 63, 3) := by decide +kernel
theorem dX11_sure_41 : decode cX11_sure 41 = .ok (.iload_n 1, 1) := by decide +kernel
theorem dX11_sure_42 : decode cX11_sure 42 = .ok (.iload_n 2, 1) := by decide +kernel
theorem dX11_sure_43 : decode cX11_sure 43 = .ok (.invokevirtual 222, 3) := by decide +kernel
theorem dX11_sure_46 : decode cX11_sure 46 = .ok (.ireturn, 1) := by decide +kernel
theorem dX11_evening_0 : decode cX11_evening 0 = .ok (.iload_n 1, 1) := by decide +kernel
theorem dX11_evening_1 : decode cX11_evening 1 = .ok (.iconst 1, 1) := by decide +kernel
theorem dX11_evening_2 : decode cX11_evening 2 = .ok (.if_icmp .lt 10, 3) := by decide +kernel
theorem dX11_evening_5 : decode cX11_evening 5 = .ok (.iload_n 1, 1) := by decide +kernel
theorem dX11_evening_6 : decode cX11_evening 6 = .ok (.sipush 500, 3) := by decide +kernel
theorem dX11_evening_9 : decode cX11_evening 9 = .ok (.if_icmp .le 5, 3) := by decide +kernel
theorem dX11_evening_12 : decode cX11_evening 12 = .ok (.iconst (-1), 1) := by decide +kernel
theorem dX11_evening_13 : decode cX11_evening 13 = .ok (.ireturn, 1) := by decide +kernel
theorem dX11_evening_14 : decode cX11_evening 14 = .ok (.aload_n 0, 1) := by decide +kernel
theorem dX11_evening_15 : decode cX11_evening 15 = .ok (.getfield 46, 3) := by decide +kernel
theorem dX11_evening_18 : decode cX11_evening 18 = .ok (.aload_n 0, 1) := by decide +kernel
theorem dX11_evening_19 : decode cX11_evening 19 = .ok (.getfield 42, 3) := by decide +kernel
theorem dX11_evening_22 : decode cX11_evening 22 = .ok (.invokevirtual 202, 3) := by decide +kernel
theorem dX11_evening_25 : decode cX11_evening 25 = .ok (.aload_n 0, 1) := by decide +kernel
theorem dX11_evening_26 : decode cX11_evening 26 = .ok (.getfield 46, 3) := by decide +kernel
theorem dX11_evening_29 : decode cX11_evening 29 = .ok (.aload_n 0, 1) := by decide +kernel
theorem dX11_evening_30 : decode cX11_evening 30 = .ok (.getfield 31, 3) := by decide +kernel
theorem dX11_evening_33 : decode cX11_evening 33 = .ok (.aload_n 0, 1) := by decide +kernel
theorem dX11_evening_34 : decode cX11_evening 34 = .ok (.getfield 31, 3) := by decide +kernel
theorem dX11_evening_37 : decode cX11_evening 37 = .ok (.getfield 184, 3) := by decide +kernel
theorem dX11_evening_40 : decode cX11_evening 40 = .ok (.aload_n 0, 1) := by decide +kernel
theorem dX11_evening_41 : decode cX11_evening 41 = .ok (.getfield 31, 3) := by decide +kernel
theorem dX11_evening_44 : decode cX11_evening 44 = .ok (.getfield 173, 3) := by decide +kernel
theorem dX11_evening_47 : decode cX11_evening 47 = .ok (.iload_n 1, 1) := by decide +kernel
theorem dX11_evening_48 : decode cX11_evening 48 = .ok (.invokevirtual 225, 3) := by decide +kernel
theorem dX11_evening_51 : decode cX11_evening 51 = .ok (.ireturn, 1) := by decide +kernel
theorem dX11_soonest_0 : decode cX11_soonest 0 = .ok (.iload_n 1, 1) := by decide +kernel
theorem dX11_soonest_1 : decode cX11_soonest 1 = .ok (.iconst 1, 1) := by decide +kernel
theorem dX11_soonest_2 : decode cX11_soonest 2 = .ok (.if_icmp .lt 18, 3) := by decide +kernel
theorem dX11_soonest_5 : decode cX11_soonest 5 = .ok (.iload_n 1, 1) := by decide +kernel
theorem dX11_soonest_6 : decode cX11_soonest 6 = .ok (.bipush 30, 2) := by decide +kernel
theorem dX11_soonest_8 : decode cX11_soonest 8 = .ok (.if_icmp .gt 12, 3) := by decide +kernel
theorem dX11_soonest_11 : decode cX11_soonest 11 = .ok (.iload_n 2, 1) := by decide +kernel
theorem dX11_soonest_12 : decode cX11_soonest 12 = .ok (.ifCond .lt 8, 3) := by decide +kernel
theorem dX11_soonest_15 : decode cX11_soonest 15 = .ok (.iload_n 2, 1) := by decide +kernel
theorem dX11_soonest_16 : decode cX11_soonest 16 = .ok (.iconst 1, 1) := by decide +kernel
theorem dX11_soonest_17 : decode cX11_soonest 17 = .ok (.if_icmp .le 5, 3) := by decide +kernel
theorem dX11_soonest_20 : decode cX11_soonest 20 = .ok (.iconst (-1), 1) := by decide +kernel
theorem dX11_soonest_21 : decode cX11_soonest 21 = .ok (.ireturn, 1) := by decide +kernel
theorem dX11_soonest_22 : decode cX11_soonest 22 = .ok (.iconst 0, 1) := by decide +kernel
theorem dX11_soonest_23 : decode cX11_soonest 23 = .ok (.istore_n 3, 1) := by decide +kernel
theorem dX11_soonest_24 : decode cX11_soonest 24 = .ok (.aload_n 0, 1) := by decide +kernel
theorem dX11_soonest_25 : decode cX11_soonest 25 = .ok (.iload_n 1, 1) := by decide +kernel
theorem dX11_soonest_26 : decode cX11_soonest 26 = .ok (.iconst 0, 1) := by decide +kernel
theorem dX11_soonest_27 : decode cX11_soonest 27 = .ok (.invokevirtual 229, 3) := by decide +kernel
theorem dX11_soonest_30 : decode cX11_soonest 30 = .ok (.istore 4, 2) := by decide +kernel
theorem dX11_soonest_32 : decode cX11_soonest 32 = .ok (.iconst 1, 1) := by decide +kernel
theorem dX11_soonest_33 : decode cX11_soonest 33 = .ok (.istore 5, 2) := by decide +kernel
theorem dX11_soonest_35 : decode cX11_soonest 35 = .ok (.iload 5, 2) := by decide +kernel
theorem dX11_soonest_37 : decode cX11_soonest 37 = .ok (.iconst 3, 1) := by decide +kernel
theorem dX11_soonest_38 : decode cX11_soonest 38 = .ok (.if_icmp .gt 32, 3) := by decide +kernel
theorem dX11_soonest_41 : decode cX11_soonest 41 = .ok (.aload_n 0, 1) := by decide +kernel
theorem dX11_soonest_42 : decode cX11_soonest 42 = .ok (.iload_n 1, 1) := by decide +kernel
theorem dX11_soonest_43 : decode cX11_soonest 43 = .ok (.iload 5, 2) := by decide +kernel
theorem dX11_soonest_45 : decode cX11_soonest 45 = .ok (.invokevirtual 229, 3) := by decide +kernel
theorem dX11_soonest_48 : decode cX11_soonest 48 = .ok (.istore 6, 2) := by decide +kernel
theorem dX11_soonest_50 : decode cX11_soonest 50 = .ok (.iload 6, 2) := by decide +kernel
theorem dX11_soonest_52 : decode cX11_soonest 52 = .ok (.iload 4, 2) := by decide +kernel
theorem dX11_soonest_54 : decode cX11_soonest 54 = .ok (.if_icmp .ge 10, 3) := by decide +kernel
theorem dX11_soonest_57 : decode cX11_soonest 57 = .ok (.iload 5, 2) := by decide +kernel
theorem dX11_soonest_59 : decode cX11_soonest 59 = .ok (.istore_n 3, 1) := by decide +kernel
theorem dX11_soonest_60 : decode cX11_soonest 60 = .ok (.iload 6, 2) := by decide +kernel
theorem dX11_soonest_62 : decode cX11_soonest 62 = .ok (.istore 4, 2) := by decide +kernel
theorem dX11_soonest_64 : decode cX11_soonest 64 = .ok (.iinc 5 1, 3) := by decide +kernel
theorem dX11_soonest_67 : decode cX11_soonest 67 = .ok (.goto (-32), 3) := by decide +kernel
theorem dX11_soonest_70 : decode cX11_soonest 70 = .ok (.iload_n 2, 1) := by decide +kernel
theorem dX11_soonest_71 : decode cX11_soonest 71 = .ok (.ifCond .ne 7, 3) := by decide +kernel
theorem dX11_soonest_74 : decode cX11_soonest 74 = .ok (.iload_n 3, 1) := by decide +kernel
theorem dX11_soonest_75 : decode cX11_soonest 75 = .ok (.goto 5, 3) := by decide +kernel
theorem dX11_soonest_78 : decode cX11_soonest 78 = .ok (.iload 4, 2) := by decide +kernel
theorem dX11_soonest_80 : decode cX11_soonest 80 = .ok (.ireturn, 1) := by decide +kernel
theorem dX11_line_0 : decode cX11_line 0 = .ok (.aload_n 0, 1) := by decide +kernel
theorem dX11_line_1 : decode cX11_line 1 = .ok (.getfield 31, 3) := by decide +kernel
theorem dX11_line_4 : decode cX11_line 4 = .ok (.iconst 0, 1) := by decide +kernel
theorem dX11_line_5 : decode cX11_line 5 = .ok (.iconst 0, 1) := by decide +kernel
theorem dX11_line_6 : decode cX11_line 6 = .ok (.invokevirtual 232, 3) := by decide +kernel
theorem dX11_line_9 : decode cX11_line 9 = .ok (.ireturn, 1) := by decide +kernel
theorem dX11_exchange_0 : decode cX11_exchange 0 = .ok (.iload_n 1, 1) := by decide +kernel
theorem dX11_exchange_1 : decode cX11_exchange 1 = .ok (.ifCond .lt 8, 3) := by decide +kernel
theorem dX11_exchange_4 : decode cX11_exchange 4 = .ok (.iload_n 1, 1) := by decide +kernel
theorem dX11_exchange_5 : decode cX11_exchange 5 = .ok (.iconst 1, 1) := by decide +kernel
theorem dX11_exchange_6 : decode cX11_exchange 6 = .ok (.if_icmp .le 5, 3) := by decide +kernel
theorem dX11_exchange_9 : decode cX11_exchange 9 = .ok (.iconst (-1), 1) := by decide +kernel
theorem dX11_exchange_10 : decode cX11_exchange 10 = .ok (.ireturn, 1) := by decide +kernel
theorem dX11_exchange_11 : decode cX11_exchange 11 = .ok (.aload_n 0, 1) := by decide +kernel
theorem dX11_exchange_12 : decode cX11_exchange 12 = .ok (.getfield 31, 3) := by decide +kernel
theorem dX11_exchange_15 : decode cX11_exchange 15 = .ok (.iconst 0, 1) := by decide +kernel
theorem dX11_exchange_16 : decode cX11_exchange 16 = .ok (.iconst 0, 1) := by decide +kernel
theorem dX11_exchange_17 : decode cX11_exchange 17 = .ok (.invokevirtual 232, 3) := by decide +kernel
theorem dX11_exchange_20 : decode cX11_exchange 20 = .ok (.istore_n 2, 1) := by decide +kernel
theorem dX11_exchange_21 : decode cX11_exchange 21 = .ok (.bipush (-2), 2) := by decide +kernel
theorem dX11_exchange_23 : decode cX11_exchange 23 = .ok (.istore_n 3, 1) := by decide +kernel
theorem dX11_exchange_24 : decode cX11_exchange 24 = .ok (.iconst 0, 1) := by decide +kernel
theorem dX11_exchange_25 : decode cX11_exchange 25 = .ok (.istore 4, 2) := by decide +kernel
theorem dX11_exchange_27 : decode cX11_exchange 27 = .ok (.iload 4, 2) := by decide +kernel
theorem dX11_exchange_29 : decode cX11_exchange 29 = .ok (.aload_n 0, 1) := by decide +kernel
theorem dX11_exchange_30 : decode cX11_exchange 30 = .ok (.getfield 31, 3) := by decide +kernel
theorem dX11_exchange_33 : decode cX11_exchange 33 = .ok (.getfield 235, 3) := by decide +kernel
theorem dX11_exchange_36 : decode cX11_exchange 36 = .ok (.if_icmp .ge 64, 3) := by decide +kernel
theorem dX11_exchange_39 : decode cX11_exchange 39 = .ok (.iload 4, 2) := by decide +kernel
theorem dX11_exchange_41 : decode cX11_exchange 41 = .ok (.iconst 1, 1) := by decide +kernel
theorem dX11_exchange_42 : decode cX11_exchange 42 = .ok (.iadd, 1) := by decide +kernel
theorem dX11_exchange_43 : decode cX11_exchange 43 = .ok (.istore 5, 2) := by decide +kernel
theorem dX11_exchange_45 : decode cX11_exchange 45 = .ok (.iload 5, 2) := by decide +kernel
theorem dX11_exchange_47 : decode cX11_exchange 47 = .ok (.aload_n 0, 1) := by decide +kernel
theorem dX11_exchange_48 : decode cX11_exchange 48 = .ok (.getfield 31, 3) := by decide +kernel
theorem dX11_exchange_51 : decode cX11_exchange 51 = .ok (.getfield 235, 3) := by decide +kernel
theorem dX11_exchange_54 : decode cX11_exchange 54 = .ok (.if_icmp .ge 40, 3) := by decide +kernel
theorem dX11_exchange_57 : decode cX11_exchange 57 = .ok (.aload_n 0, 1) := by decide +kernel
theorem dX11_exchange_58 : decode cX11_exchange 58 = .ok (.getfield 31, 3) := by decide +kernel
theorem dX11_exchange_61 : decode cX11_exchange 61 = .ok (.iload 4, 2) := by decide +kernel
theorem dX11_exchange_63 : decode cX11_exchange 63 = .ok (.iload 5, 2) := by decide +kernel
theorem dX11_exchange_65 : decode cX11_exchange 65 = .ok (.invokevirtual 232, 3) := by decide +kernel
theorem dX11_exchange_68 : decode cX11_exchange 68 = .ok (.istore 6, 2) := by decide +kernel
theorem dX11_exchange_70 : decode cX11_exchange 70 = .ok (.iload 6, 2) := by decide +kernel
theorem dX11_exchange_72 : decode cX11_exchange 72 = .ok (.iload_n 2, 1) := by decide +kernel
theorem dX11_exchange_73 : decode cX11_exchange 73 = .ok (.if_icmp .ge 15, 3) := by decide +kernel
theorem dX11_exchange_76 : decode cX11_exchange 76 = .ok (.iload 6, 2) := by decide +kernel
theorem dX11_exchange_78 : decode cX11_exchange 78 = .ok (.istore_n 2, 1) := by decide +kernel
theorem dX11_exchange_79 : decode cX11_exchange 79 = .ok (.bipush 100, 2) := by decide +kernel
theorem dX11_exchange_81 : decode cX11_exchange 81 = .ok (.iload 4, 2) := by decide +kernel
theorem dX11_exchange_83 : decode cX11_exchange 83 = .ok (.imul, 1) := by decide +kernel
theorem dX11_exchange_84 : decode cX11_exchange 84 = .ok (.iload 5, 2) := by decide +kernel
theorem dX11_exchange_86 : decode cX11_exchange 86 = .ok (.iadd, 1) := by decide +kernel
theorem dX11_exchange_87 : decode cX11_exchange 87 = .ok (.istore_n 3, 1) := by decide +kernel
theorem dX11_exchange_88 : decode cX11_exchange 88 = .ok (.iinc 5 1, 3) := by decide +kernel
theorem dX11_exchange_91 : decode cX11_exchange 91 = .ok (.goto (-46), 3) := by decide +kernel
theorem dX11_exchange_94 : decode cX11_exchange 94 = .ok (.iinc 4 1, 3) := by decide +kernel
theorem dX11_exchange_97 : decode cX11_exchange 97 = .ok (.goto (-70), 3) := by decide +kernel
theorem dX11_exchange_100 : decode cX11_exchange 100 = .ok (.iload_n 1, 1) := by decide +kernel
theorem dX11_exchange_101 : decode cX11_exchange 101 = .ok (.ifCond .ne 7, 3) := by decide +kernel
theorem dX11_exchange_104 : decode cX11_exchange 104 = .ok (.iload_n 3, 1) := by decide +kernel
theorem dX11_exchange_105 : decode cX11_exchange 105 = .ok (.goto 4, 3) := by decide +kernel
theorem dX11_exchange_108 : decode cX11_exchange 108 = .ok (.iload_n 2, 1) := by decide +kernel
theorem dX11_exchange_109 : decode cX11_exchange 109 = .ok (.ireturn, 1) := by decide +kernel
theorem dX11_odd_0 : decode cX11_odd 0 = .ok (.iload_n 1, 1) := by decide +kernel
theorem dX11_odd_1 : decode cX11_odd 1 = .ok (.ifCond .lt 8, 3) := by decide +kernel
theorem dX11_odd_4 : decode cX11_odd 4 = .ok (.iload_n 1, 1) := by decide +kernel
theorem dX11_odd_5 : decode cX11_odd 5 = .ok (.iconst 1, 1) := by decide +kernel
theorem dX11_odd_6 : decode cX11_odd 6 = .ok (.if_icmp .le 5, 3) := by decide +kernel
theorem dX11_odd_9 : decode cX11_odd 9 = .ok (.iconst (-1), 1) := by decide +kernel
theorem dX11_odd_10 : decode cX11_odd 10 = .ok (.ireturn, 1) := by decide +kernel
theorem dX11_odd_11 : decode cX11_odd 11 = .ok (.aload_n 0, 1) := by decide +kernel
theorem dX11_odd_12 : decode cX11_odd 12 = .ok (.getfield 70, 3) := by decide +kernel
theorem dX11_odd_15 : decode cX11_odd 15 = .ok (.aload_n 0, 1) := by decide +kernel
theorem dX11_odd_16 : decode cX11_odd 16 = .ok (.getfield 42, 3) := by decide +kernel
theorem dX11_odd_19 : decode cX11_odd 19 = .ok (.getfield 139, 3) := by decide +kernel
theorem dX11_odd_22 : decode cX11_odd 22 = .ok (.aload_n 0, 1) := by decide +kernel
theorem dX11_odd_23 : decode cX11_odd 23 = .ok (.getfield 31, 3) := by decide +kernel
theorem dX11_odd_26 : decode cX11_odd 26 = .ok (.invokevirtual 238, 3) := by decide +kernel
theorem dX11_odd_29 : decode cX11_odd 29 = .ok (.iload_n 1, 1) := by decide +kernel
theorem dX11_odd_30 : decode cX11_odd 30 = .ok (.ifCond .ne 13, 3) := by decide +kernel
theorem dX11_odd_33 : decode cX11_odd 33 = .ok (.aload_n 0, 1) := by decide +kernel
theorem dX11_odd_34 : decode cX11_odd 34 = .ok (.getfield 70, 3) := by decide +kernel
theorem dX11_odd_37 : decode cX11_odd 37 = .ok (.getfield 242, 3) := by decide +kernel
theorem dX11_odd_40 : decode cX11_odd 40 = .ok (.goto 10, 3) := by decide +kernel
theorem dX11_odd_43 : decode cX11_odd 43 = .ok (.aload_n 0, 1) := by decide +kernel
theorem dX11_odd_44 : decode cX11_odd 44 = .ok (.getfield 70, 3) := by decide +kernel
theorem dX11_odd_47 : decode cX11_odd 47 = .ok (.getfield 245, 3) := by decide +kernel
theorem dX11_odd_50 : decode cX11_odd 50 = .ok (.ireturn, 1) := by decide +kernel
theorem dX11_lost_0 : decode cX11_lost 0 = .ok (.iload_n 1, 1) := by decide +kernel
theorem dX11_lost_1 : decode cX11_lost 1 = .ok (.ifCond .lt 29, 3) := by decide +kernel
theorem dX11_lost_4 : decode cX11_lost 4 = .ok (.iload_n 1, 1) := by decide +kernel
theorem dX11_lost_5 : decode cX11_lost 5 = .ok (.bipush 18, 2) := by decide +kernel
theorem dX11_lost_7 : decode cX11_lost 7 = .ok (.if_icmp .gt 23, 3) := by decide +kernel
theorem dX11_lost_10 : decode cX11_lost 10 = .ok (.iload_n 3, 1) := by decide +kernel
theorem dX11_lost_11 : decode cX11_lost 11 = .ok (.iconst 1, 1) := by decide +kernel
theorem dX11_lost_12 : decode cX11_lost 12 = .ok (.if_icmp .lt 18, 3) := by decide +kernel
theorem dX11_lost_15 : decode cX11_lost 15 = .ok (.iload_n 3, 1) := by decide +kernel
theorem dX11_lost_16 : decode cX11_lost 16 = .ok (.bipush 9, 2) := by decide +kernel
theorem dX11_lost_18 : decode cX11_lost 18 = .ok (.if_icmp .gt 12, 3) := by decide +kernel
theorem dX11_lost_21 : decode cX11_lost 21 = .ok (.iload_n 2, 1) := by decide +kernel
theorem dX11_lost_22 : decode cX11_lost 22 = .ok (.ifCond .lt 8, 3) := by decide +kernel
theorem dX11_lost_25 : decode cX11_lost 25 = .ok (.iload_n 2, 1) := by decide +kernel
theorem dX11_lost_26 : decode cX11_lost 26 = .ok (.iload_n 3, 1) := by decide +kernel
theorem dX11_lost_27 : decode cX11_lost 27 = .ok (.if_icmp .le 7, 3) := by decide +kernel
theorem dX11_lost_30 : decode cX11_lost 30 = .ok (.ldc2_w 205, 3) := by decide +kernel
theorem dX11_lost_33 : decode cX11_lost 33 = .ok (.lreturn, 1) := by decide +kernel
theorem dX11_lost_34 : decode cX11_lost 34 = .ok (.aload_n 0, 1) := by decide +kernel
theorem dX11_lost_35 : decode cX11_lost 35 = .ok (.getfield 77, 3) := by decide +kernel
theorem dX11_lost_38 : decode cX11_lost 38 = .ok (.aload_n 0, 1) := by decide +kernel
theorem dX11_lost_39 : decode cX11_lost 39 = .ok (.getfield 42, 3) := by decide +kernel
theorem dX11_lost_42 : decode cX11_lost 42 = .ok (.aload_n 0, 1) := by decide +kernel
theorem dX11_lost_43 : decode cX11_lost 43 = .ok (.getfield 31, 3) := by decide +kernel
theorem dX11_lost_46 : decode cX11_lost 46 = .ok (.iload_n 1, 1) := by decide +kernel
theorem dX11_lost_47 : decode cX11_lost 47 = .ok (.iload_n 2, 1) := by decide +kernel
theorem dX11_lost_48 : decode cX11_lost 48 = .ok (.iload_n 3, 1) := by decide +kernel
theorem dX11_lost_49 : decode cX11_lost 49 = .ok (.invokevirtual 248, 3) := by decide +kernel
theorem dX11_lost_52 : decode cX11_lost 52 = .ok (.lreturn, 1) := by decide +kernel
theorem dX11_years_0 : decode cX11_years 0 = .ok (.iload_n 1, 1) := by decide +kernel
theorem dX11_years_1 : decode cX11_years 1 = .ok (.iconst 1, 1) := by decide +kernel
theorem dX11_years_2 : decode cX11_years 2 = .ok (.if_icmp .lt 19, 3) := by decide +kernel
theorem dX11_years_5 : decode cX11_years 5 = .ok (.iload_n 1, 1) := by decide +kernel
theorem dX11_years_6 : decode cX11_years 6 = .ok (.sipush 200, 3) := by decide +kernel
theorem dX11_years_9 : decode cX11_years 9 = .ok (.if_icmp .gt 12, 3) := by decide +kernel
theorem dX11_years_12 : decode cX11_years 12 = .ok (.iload_n 2, 1) := by decide +kernel
theorem dX11_years_13 : decode cX11_years 13 = .ok (.ifCond .lt 8, 3) := by decide +kernel
theorem dX11_years_16 : decode cX11_years 16 = .ok (.iload_n 2, 1) := by decide +kernel
theorem dX11_years_17 : decode cX11_years 17 = .ok (.iconst 2, 1) := by decide +kernel
theorem dX11_years_18 : decode cX11_years 18 = .ok (.if_icmp .le 5, 3) := by decide +kernel
theorem dX11_years_21 : decode cX11_years 21 = .ok (.iconst (-1), 1) := by decide +kernel
theorem dX11_years_22 : decode cX11_years 22 = .ok (.ireturn, 1) := by decide +kernel
theorem dX11_years_23 : decode cX11_years 23 = .ok (.aload_n 0, 1) := by decide +kernel
theorem dX11_years_24 : decode cX11_years 24 = .ok (.getfield 77, 3) := by decide +kernel
theorem dX11_years_27 : decode cX11_years 27 = .ok (.aload_n 0, 1) := by decide +kernel
theorem dX11_years_28 : decode cX11_years 28 = .ok (.getfield 31, 3) := by decide +kernel
theorem dX11_years_31 : decode cX11_years 31 = .ok (.iload_n 1, 1) := by decide +kernel
theorem dX11_years_32 : decode cX11_years 32 = .ok (.invokevirtual 252, 3) := by decide +kernel
theorem dX11_years_35 : decode cX11_years 35 = .ok (.iload_n 2, 1) := by decide +kernel
theorem dX11_years_36 : decode cX11_years 36 = .ok (.lookupswitch 56 #[(0, 28), (1, 42)], 28) := by decide +kernel
theorem dX11_years_64 : decode cX11_years 64 = .ok (.aload_n 0, 1) := by decide +kernel
theorem dX11_years_65 : decode cX11_years 65 = .ok (.getfield 77, 3) := by decide +kernel
theorem dX11_years_68 : decode cX11_years 68 = .ok (.getfield 256, 3) := by decide +kernel
theorem dX11_years_71 : decode cX11_years 71 = .ok (.iload_n 1, 1) := by decide +kernel
theorem dX11_years_72 : decode cX11_years 72 = .ok (.iconst 1, 1) := by decide +kernel
theorem dX11_years_73 : decode cX11_years 73 = .ok (.isub, 1) := by decide +kernel
theorem dX11_years_74 : decode cX11_years 74 = .ok (.invokestatic 135, 3) := by decide +kernel
theorem dX11_years_77 : decode cX11_years 77 = .ok (.ireturn, 1) := by decide +kernel
theorem dX11_years_78 : decode cX11_years 78 = .ok (.aload_n 0, 1) := by decide +kernel
theorem dX11_years_79 : decode cX11_years 79 = .ok (.getfield 77, 3) := by decide +kernel
theorem dX11_years_82 : decode cX11_years 82 = .ok (.getfield 259, 3) := by decide +kernel
theorem dX11_years_85 : decode cX11_years 85 = .ok (.iload_n 1, 1) := by decide +kernel
theorem dX11_years_86 : decode cX11_years 86 = .ok (.iconst 1, 1) := by decide +kernel
theorem dX11_years_87 : decode cX11_years 87 = .ok (.isub, 1) := by decide +kernel
theorem dX11_years_88 : decode cX11_years 88 = .ok (.invokestatic 135, 3) := by decide +kernel
theorem dX11_years_91 : decode cX11_years 91 = .ok (.ireturn, 1) := by decide +kernel
theorem dX11_years_92 : decode cX11_years 92 = .ok (.aload_n 0, 1) := by decide +kernel
theorem dX11_years_93 : decode cX11_years 93 = .ok (.getfield 77, 3) := by decide +kernel
theorem dX11_years_96 : decode cX11_years 96 = .ok (.getfield 262, 3) := by decide +kernel
theorem dX11_years_99 : decode cX11_years 99 = .ok (.ifCond .lt 24, 3) := by decide +kernel
theorem dX11_years_102 : decode cX11_years 102 = .ok (.aload_n 0, 1) := by decide +kernel
theorem dX11_years_103 : decode cX11_years 103 = .ok (.getfield 77, 3) := by decide +kernel
theorem dX11_years_106 : decode cX11_years 106 = .ok (.getfield 262, 3) := by decide +kernel
theorem dX11_years_109 : decode cX11_years 109 = .ok (.iload_n 1, 1) := by decide +kernel
theorem dX11_years_110 : decode cX11_years 110 = .ok (.if_icmp .ge 13, 3) := by decide +kernel
theorem dX11_years_113 : decode cX11_years 113 = .ok (.aload_n 0, 1) := by decide +kernel
theorem dX11_years_114 : decode cX11_years 114 = .ok (.getfield 77, 3) := by decide +kernel
theorem dX11_years_117 : decode cX11_years 117 = .ok (.getfield 262, 3) := by decide +kernel
theorem dX11_years_120 : decode cX11_years 120 = .ok (.goto 5, 3) := by decide +kernel
theorem dX11_years_123 : decode cX11_years 123 = .ok (.bipush (-2), 2) := by decide +kernel
theorem dX11_years_125 : decode cX11_years 125 = .ok (.ireturn, 1) := by decide +kernel
theorem dX11_see_0 : decode cX11_see 0 = .ok (.aload_n 0, 1) := by decide +kernel
theorem dX11_see_1 : decode cX11_see 1 = .ok (.iload_n 1, 1) := by decide +kernel
theorem dX11_see_2 : decode cX11_see 2 = .ok (.invokevirtual 127, 3) := by decide +kernel
theorem dX11_see_5 : decode cX11_see 5 = .ok (.ifCond .eq 13, 3) := by decide +kernel
theorem dX11_see_8 : decode cX11_see 8 = .ok (.iload_n 2, 1) := by decide +kernel
theorem dX11_see_9 : decode cX11_see 9 = .ok (.ifCond .lt 9, 3) := by decide +kernel
theorem dX11_see_12 : decode cX11_see 12 = .ok (.iload_n 2, 1) := by decide +kernel
theorem dX11_see_13 : decode cX11_see 13 = .ok (.bipush 18, 2) := by decide +kernel
theorem dX11_see_15 : decode cX11_see 15 = .ok (.if_icmp .le 5, 3) := by decide +kernel
theorem dX11_see_18 : decode cX11_see 18 = .ok (.iconst (-1), 1) := by decide +kernel
theorem dX11_see_19 : decode cX11_see 19 = .ok (.ireturn, 1) := by decide +kernel
theorem dX11_see_20 : decode cX11_see 20 = .ok (.aload_n 0, 1) := by decide +kernel
theorem dX11_see_21 : decode cX11_see 21 = .ok (.getfield 84, 3) := by decide +kernel
theorem dX11_see_24 : decode cX11_see 24 = .ok (.iload_n 1, 1) := by decide +kernel
theorem dX11_see_25 : decode cX11_see 25 = .ok (.iload_n 2, 1) := by decide +kernel
theorem dX11_see_26 : decode cX11_see 26 = .ok (.invokevirtual 265, 3) := by decide +kernel
theorem dX11_see_29 : decode cX11_see 29 = .ok (.ireturn, 1) := by decide +kernel
theorem dX11_forget_0 : decode cX11_forget 0 = .ok (.aload_n 0, 1) := by decide +kernel
theorem dX11_forget_1 : decode cX11_forget 1 = .ok (.getfield 84, 3) := by decide +kernel
theorem dX11_forget_4 : decode cX11_forget 4 = .ok (.getfield 268, 3) := by decide +kernel
theorem dX11_forget_7 : decode cX11_forget 7 = .ok (.istore_n 1, 1) := by decide +kernel
theorem dX11_forget_8 : decode cX11_forget 8 = .ok (.aload_n 0, 1) := by decide +kernel
theorem dX11_forget_9 : decode cX11_forget 9 = .ok (.getfield 84, 3) := by decide +kernel
theorem dX11_forget_12 : decode cX11_forget 12 = .ok (.iconst 0, 1) := by decide +kernel
theorem dX11_forget_13 : decode cX11_forget 13 = .ok (.putfield 268, 3) := by decide +kernel
theorem dX11_forget_16 : decode cX11_forget 16 = .ok (.iload_n 1, 1) := by decide +kernel
theorem dX11_forget_17 : decode cX11_forget 17 = .ok (.ireturn, 1) := by decide +kernel
theorem dX11_rows_0 : decode cX11_rows 0 = .ok (.iload_n 1, 1) := by decide +kernel
theorem dX11_rows_1 : decode cX11_rows 1 = .ok (.ifCond .lt 24, 3) := by decide +kernel
theorem dX11_rows_4 : decode cX11_rows 4 = .ok (.iload_n 1, 1) := by decide +kernel
theorem dX11_rows_5 : decode cX11_rows 5 = .ok (.aload_n 0, 1) := by decide +kernel
theorem dX11_rows_6 : decode cX11_rows 6 = .ok (.getfield 84, 3) := by decide +kernel
theorem dX11_rows_9 : decode cX11_rows 9 = .ok (.getfield 268, 3) := by decide +kernel
theorem dX11_rows_12 : decode cX11_rows 12 = .ok (.if_icmp .gt 13, 3) := by decide +kernel
theorem dX11_rows_15 : decode cX11_rows 15 = .ok (.iload_n 2, 1) := by decide +kernel
theorem dX11_rows_16 : decode cX11_rows 16 = .ok (.ifCond .lt 9, 3) := by decide +kernel
theorem dX11_rows_19 : decode cX11_rows 19 = .ok (.iload_n 2, 1) := by decide +kernel
theorem dX11_rows_20 : decode cX11_rows 20 = .ok (.bipush 18, 2) := by decide +kernel
theorem dX11_rows_22 : decode cX11_rows 22 = .ok (.if_icmp .le 7, 3) := by decide +kernel
theorem dX11_rows_25 : decode cX11_rows 25 = .ok (.ldc2_w 205, 3) := by decide +kernel
theorem dX11_rows_28 : decode cX11_rows 28 = .ok (.lreturn, 1) := by decide +kernel
theorem dX11_rows_29 : decode cX11_rows 29 = .ok (.aload_n 0, 1) := by decide +kernel
theorem dX11_rows_30 : decode cX11_rows 30 = .ok (.getfield 84, 3) := by decide +kernel
theorem dX11_rows_33 : decode cX11_rows 33 = .ok (.aload_n 0, 1) := by decide +kernel
theorem dX11_rows_34 : decode cX11_rows 34 = .ok (.getfield 31, 3) := by decide +kernel
theorem dX11_rows_37 : decode cX11_rows 37 = .ok (.iload_n 1, 1) := by decide +kernel
theorem dX11_rows_38 : decode cX11_rows 38 = .ok (.iload_n 2, 1) := by decide +kernel
theorem dX11_rows_39 : decode cX11_rows 39 = .ok (.iconst (-1), 1) := by decide +kernel
theorem dX11_rows_40 : decode cX11_rows 40 = .ok (.iconst 0, 1) := by decide +kernel
theorem dX11_rows_41 : decode cX11_rows 41 = .ok (.invokevirtual 271, 3) := by decide +kernel
theorem dX11_rows_44 : decode cX11_rows 44 = .ok (.lreturn, 1) := by decide +kernel
theorem dX11_span_0 : decode cX11_span 0 = .ok (.iload_n 1, 1) := by decide +kernel
theorem dX11_span_1 : decode cX11_span 1 = .ok (.ifCond .lt 32, 3) := by decide +kernel
theorem dX11_span_4 : decode cX11_span 4 = .ok (.iload_n 1, 1) := by decide +kernel
theorem dX11_span_5 : decode cX11_span 5 = .ok (.aload_n 0, 1) := by decide +kernel
theorem dX11_span_6 : decode cX11_span 6 = .ok (.getfield 84, 3) := by decide +kernel
theorem dX11_span_9 : decode cX11_span 9 = .ok (.getfield 268, 3) := by decide +kernel
theorem dX11_span_12 : decode cX11_span 12 = .ok (.if_icmp .gt 21, 3) := by decide +kernel
theorem dX11_span_15 : decode cX11_span 15 = .ok (.iload_n 2, 1) := by decide +kernel
theorem dX11_span_16 : decode cX11_span 16 = .ok (.ifCond .lt 17, 3) := by decide +kernel
theorem dX11_span_19 : decode cX11_span 19 = .ok (.iload_n 2, 1) := by decide +kernel
theorem dX11_span_20 : decode cX11_span 20 = .ok (.bipush 18, 2) := by decide +kernel
theorem dX11_span_22 : decode cX11_span 22 = .ok (.if_icmp .gt 11, 3) := by decide +kernel
theorem dX11_span_25 : decode cX11_span 25 = .ok (.aload_n 0, 1) := by decide +kernel
theorem dX11_span_26 : decode cX11_span 26 = .ok (.iload_n 3, 1) := by decide +kernel
theorem dX11_span_27 : decode cX11_span 27 = .ok (.invokevirtual 127, 3) := by decide +kernel
theorem dX11_span_30 : decode cX11_span 30 = .ok (.ifCond .ne 5, 3) := by decide +kernel
theorem dX11_span_33 : decode cX11_span 33 = .ok (.iconst (-1), 1) := by decide +kernel
theorem dX11_span_34 : decode cX11_span 34 = .ok (.ireturn, 1) := by decide +kernel
theorem dX11_span_35 : decode cX11_span 35 = .ok (.iconst (-1), 1) := by decide +kernel
theorem dX11_span_36 : decode cX11_span 36 = .ok (.istore 4, 2) := by decide +kernel
theorem dX11_span_38 : decode cX11_span 38 = .ok (.iconst (-1), 1) := by decide +kernel
theorem dX11_span_39 : decode cX11_span 39 = .ok (.istore 5, 2) := by decide +kernel
theorem dX11_span_41 : decode cX11_span 41 = .ok (.iconst 0, 1) := by decide +kernel
theorem dX11_span_42 : decode cX11_span 42 = .ok (.istore 6, 2) := by decide +kernel
theorem dX11_span_44 : decode cX11_span 44 = .ok (.iload 6, 2) := by decide +kernel
theorem dX11_span_46 : decode cX11_span 46 = .ok (.bipush 9, 2) := by decide +kernel
theorem dX11_span_48 : decode cX11_span 48 = .ok (.if_icmp .gt 49, 3) := by decide +kernel
theorem dX11_span_51 : decode cX11_span 51 = .ok (.aload_n 0, 1) := by decide +kernel
theorem dX11_span_52 : decode cX11_span 52 = .ok (.getfield 84, 3) := by decide +kernel
theorem dX11_span_55 : decode cX11_span 55 = .ok (.aload_n 0, 1) := by decide +kernel
theorem dX11_span_56 : decode cX11_span 56 = .ok (.getfield 31, 3) := by decide +kernel
theorem dX11_span_59 : decode cX11_span 59 = .ok (.iload_n 1, 1) := by decide +kernel
theorem dX11_span_60 : decode cX11_span 60 = .ok (.iload_n 2, 1) := by decide +kernel
theorem dX11_span_61 : decode cX11_span 61 = .ok (.iload_n 3, 1) := by decide +kernel
theorem dX11_span_62 : decode cX11_span 62 = .ok (.iload 6, 2) := by decide +kernel
theorem dX11_span_64 : decode cX11_span 64 = .ok (.invokevirtual 271, 3) := by decide +kernel
theorem dX11_span_67 : decode cX11_span 67 = .ok (.lconst 0, 1) := by decide +kernel
theorem dX11_span_68 : decode cX11_span 68 = .ok (.lcmp, 1) := by decide +kernel
theorem dX11_span_69 : decode cX11_span 69 = .ok (.ifCond .le 22, 3) := by decide +kernel
theorem dX11_span_72 : decode cX11_span 72 = .ok (.iload 4, 2) := by decide +kernel
theorem dX11_span_74 : decode cX11_span 74 = .ok (.iconst (-1), 1) := by decide +kernel
theorem dX11_span_75 : decode cX11_span 75 = .ok (.if_icmp .ne 8, 3) := by decide +kernel
theorem dX11_span_78 : decode cX11_span 78 = .ok (.iload 6, 2) := by decide +kernel
theorem dX11_span_80 : decode cX11_span 80 = .ok (.goto 5, 3) := by decide +kernel
theorem dX11_span_83 : decode cX11_span 83 = .ok (.iload 4, 2) := by decide +kernel
theorem dX11_span_85 : decode cX11_span 85 = .ok (.istore 4, 2) := by decide +kernel
theorem dX11_span_87 : decode cX11_span 87 = .ok (.iload 6, 2) := by decide +kernel
theorem dX11_span_89 : decode cX11_span 89 = .ok (.istore 5, 2) := by decide +kernel
theorem dX11_span_91 : decode cX11_span 91 = .ok (.iinc 6 1, 3) := by decide +kernel
theorem dX11_span_94 : decode cX11_span 94 = .ok (.goto (-50), 3) := by decide +kernel
theorem dX11_span_97 : decode cX11_span 97 = .ok (.iload 4, 2) := by decide +kernel
theorem dX11_span_99 : decode cX11_span 99 = .ok (.iconst (-1), 1) := by decide +kernel
theorem dX11_span_100 : decode cX11_span 100 = .ok (.if_icmp .ne 8, 3) := by decide +kernel
theorem dX11_span_103 : decode cX11_span 103 = .ok (.bipush (-2), 2) := by decide +kernel
theorem dX11_span_105 : decode cX11_span 105 = .ok (.goto 11, 3) := by decide +kernel
theorem dX11_span_108 : decode cX11_span 108 = .ok (.bipush 100, 2) := by decide +kernel
theorem dX11_span_110 : decode cX11_span 110 = .ok (.iload 4, 2) := by decide +kernel
theorem dX11_span_112 : decode cX11_span 112 = .ok (.imul, 1) := by decide +kernel
theorem dX11_span_113 : decode cX11_span 113 = .ok (.iload 5, 2) := by decide +kernel
theorem dX11_span_115 : decode cX11_span 115 = .ok (.iadd, 1) := by decide +kernel
theorem dX11_span_116 : decode cX11_span 116 = .ok (.ireturn, 1) := by decide +kernel
theorem dX11_hold_0 : decode cX11_hold 0 = .ok (.iload_n 1, 1) := by decide +kernel
theorem dX11_hold_1 : decode cX11_hold 1 = .ok (.ifCond .lt 8, 3) := by decide +kernel
theorem dX11_hold_4 : decode cX11_hold 4 = .ok (.iload_n 1, 1) := by decide +kernel
theorem dX11_hold_5 : decode cX11_hold 5 = .ok (.iconst 3, 1) := by decide +kernel
theorem dX11_hold_6 : decode cX11_hold 6 = .ok (.if_icmp .lt 5, 3) := by decide +kernel
theorem dX11_hold_9 : decode cX11_hold 9 = .ok (.iconst 0, 1) := by decide +kernel
theorem dX11_hold_10 : decode cX11_hold 10 = .ok (.ireturn, 1) := by decide +kernel
theorem dX11_hold_11 : decode cX11_hold 11 = .ok (.aload_n 0, 1) := by decide +kernel
theorem dX11_hold_12 : decode cX11_hold 12 = .ok (.getfield 53, 3) := by decide +kernel
theorem dX11_hold_15 : decode cX11_hold 15 = .ok (.iload_n 1, 1) := by decide +kernel
theorem dX11_hold_16 : decode cX11_hold 16 = .ok (.aaload, 1) := by decide +kernel
theorem dX11_hold_17 : decode cX11_hold 17 = .ok (.aload_n 0, 1) := by decide +kernel
theorem dX11_hold_18 : decode cX11_hold 18 = .ok (.getfield 42, 3) := by decide +kernel
theorem dX11_hold_21 : decode cX11_hold 21 = .ok (.invokevirtual 202, 3) := by decide +kernel
theorem dX11_hold_24 : decode cX11_hold 24 = .ok (.aload_n 0, 1) := by decide +kernel
theorem dX11_hold_25 : decode cX11_hold 25 = .ok (.getfield 56, 3) := by decide +kernel
theorem dX11_hold_28 : decode cX11_hold 28 = .ok (.iload_n 1, 1) := by decide +kernel
theorem dX11_hold_29 : decode cX11_hold 29 = .ok (.iconst 1, 1) := by decide +kernel
theorem dX11_hold_30 : decode cX11_hold 30 = .ok (.bastore, 1) := by decide +kernel
theorem dX11_hold_31 : decode cX11_hold 31 = .ok (.iconst 1, 1) := by decide +kernel
theorem dX11_hold_32 : decode cX11_hold 32 = .ok (.ireturn, 1) := by decide +kernel
theorem dX11_restore_0 : decode cX11_restore 0 = .ok (.iload_n 1, 1) := by decide +kernel
theorem dX11_restore_1 : decode cX11_restore 1 = .ok (.ifCond .lt 17, 3) := by decide +kernel
theorem dX11_restore_4 : decode cX11_restore 4 = .ok (.iload_n 1, 1) := by decide +kernel
theorem dX11_restore_5 : decode cX11_restore 5 = .ok (.iconst 3, 1) := by decide +kernel
theorem dX11_restore_6 : decode cX11_restore 6 = .ok (.if_icmp .ge 12, 3) := by decide +kernel
theorem dX11_restore_9 : decode cX11_restore 9 = .ok (.aload_n 0, 1) := by decide +kernel
theorem dX11_restore_10 : decode cX11_restore 10 = .ok (.getfield 56, 3) := by decide +kernel
theorem dX11_restore_13 : decode cX11_restore 13 = .ok (.iload_n 1, 1) := by decide +kernel
theorem dX11_restore_14 : decode cX11_restore 14 = .ok (.baload, 1) := by decide +kernel
theorem dX11_restore_15 : decode cX11_restore 15 = .ok (.ifCond .ne 5, 3) := by decide +kernel
theorem dX11_restore_18 : decode cX11_restore 18 = .ok (.iconst 0, 1) := by decide +kernel
theorem dX11_restore_19 : decode cX11_restore 19 = .ok (.ireturn, 1) := by decide +kernel
theorem dX11_restore_20 : decode cX11_restore 20 = .ok (.aload_n 0, 1) := by decide +kernel
theorem dX11_restore_21 : decode cX11_restore 21 = .ok (.getfield 42, 3) := by decide +kernel
theorem dX11_restore_24 : decode cX11_restore 24 = .ok (.aload_n 0, 1) := by decide +kernel
theorem dX11_restore_25 : decode cX11_restore 25 = .ok (.getfield 53, 3) := by decide +kernel
theorem dX11_restore_28 : decode cX11_restore 28 = .ok (.iload_n 1, 1) := by decide +kernel
theorem dX11_restore_29 : decode cX11_restore 29 = .ok (.aaload, 1) := by decide +kernel
theorem dX11_restore_30 : decode cX11_restore 30 = .ok (.invokevirtual 202, 3) := by decide +kernel
theorem dX11_restore_33 : decode cX11_restore 33 = .ok (.aload_n 0, 1) := by decide +kernel
theorem dX11_restore_34 : decode cX11_restore 34 = .ok (.iconst 0, 1) := by decide +kernel
theorem dX11_restore_35 : decode cX11_restore 35 = .ok (.putfield 193, 3) := by decide +kernel
theorem dX11_restore_38 : decode cX11_restore 38 = .ok (.iconst 1, 1) := by decide +kernel
theorem dX11_restore_39 : decode cX11_restore 39 = .ok (.ireturn, 1) := by decide +kernel
theorem dX11_count_0 : decode cX11_count 0 = .ok (.iload_n 1, 1) := by decide +kernel
theorem dX11_count_1 : decode cX11_count 1 = .ok (.tableswitch 201 0 14 #[75, 83, 91, 102, 113, 124, 135, 143, 151, 159, 167, 175, 183, 188, 196], 75) := by decide +kernel
theorem dX11_count_76 : decode cX11_count 76 = .ok (.aload_n 0, 1) := by decide +kernel
theorem dX11_count_77 : decode cX11_count 77 = .ok (.getfield 31, 3) := by decide +kernel
theorem dX11_count_80 : decode cX11_count 80 = .ok (.getfield 275, 3) := by decide +kernel
theorem dX11_count_83 : decode cX11_count 83 = .ok (.ireturn, 1) := by decide +kernel
theorem dX11_count_84 : decode cX11_count 84 = .ok (.aload_n 0, 1) := by decide +kernel
theorem dX11_count_85 : decode cX11_count 85 = .ok (.getfield 31, 3) := by decide +kernel
theorem dX11_count_88 : decode cX11_count 88 = .ok (.getfield 160, 3) := by decide +kernel
theorem dX11_count_91 : decode cX11_count 91 = .ok (.ireturn, 1) := by decide +kernel
theorem dX11_count_92 : decode cX11_count 92 = .ok (.aload_n 0, 1) := by decide +kernel
theorem dX11_count_93 : decode cX11_count 93 = .ok (.getfield 31, 3) := by decide +kernel
theorem dX11_count_96 : decode cX11_count 96 = .ok (.getfield 142, 3) := by decide +kernel
theorem dX11_count_99 : decode cX11_count 99 = .ok (.invokestatic 180, 3) := by decide +kernel
theorem dX11_count_102 : decode cX11_count 102 = .ok (.ireturn, 1) := by decide +kernel
theorem dX11_count_103 : decode cX11_count 103 = .ok (.aload_n 0, 1) := by decide +kernel
theorem dX11_count_104 : decode cX11_count 104 = .ok (.getfield 42, 3) := by decide +kernel
theorem dX11_count_107 : decode cX11_count 107 = .ok (.getfield 131, 3) := by decide +kernel
theorem dX11_count_110 : decode cX11_count 110 = .ok (.invokestatic 180, 3) := by decide +kernel
theorem dX11_count_113 : decode cX11_count 113 = .ok (.ireturn, 1) := by decide +kernel
theorem dX11_count_114 : decode cX11_count 114 = .ok (.aload_n 0, 1) := by decide +kernel
theorem dX11_count_115 : decode cX11_count 115 = .ok (.getfield 42, 3) := by decide +kernel
theorem dX11_count_118 : decode cX11_count 118 = .ok (.getfield 139, 3) := by decide +kernel
theorem dX11_count_121 : decode cX11_count 121 = .ok (.invokestatic 180, 3) := by decide +kernel
theorem dX11_count_124 : decode cX11_count 124 = .ok (.ireturn, 1) := by decide +kernel
theorem dX11_count_125 : decode cX11_count 125 = .ok (.aload_n 0, 1) := by decide +kernel
theorem dX11_count_126 : decode cX11_count 126 = .ok (.getfield 42, 3) := by decide +kernel
theorem dX11_count_129 : decode cX11_count 129 = .ok (.getfield 148, 3) := by decide +kernel
theorem dX11_count_132 : decode cX11_count 132 = .ok (.invokestatic 180, 3) := by decide +kernel
theorem dX11_count_135 : decode cX11_count 135 = .ok (.ireturn, 1) := by decide +kernel
theorem dX11_count_136 : decode cX11_count 136 = .ok (.aload_n 0, 1) := by decide +kernel
theorem dX11_count_137 : decode cX11_count 137 = .ok (.getfield 31, 3) := by decide +kernel
theorem dX11_count_140 : decode cX11_count 140 = .ok (.getfield 278, 3) := by decide +kernel
theorem dX11_count_143 : decode cX11_count 143 = .ok (.ireturn, 1) := by decide +kernel
theorem dX11_count_144 : decode cX11_count 144 = .ok (.aload_n 0, 1) := by decide +kernel
theorem dX11_count_145 : decode cX11_count 145 = .ok (.getfield 31, 3) := by decide +kernel
theorem dX11_count_148 : decode cX11_count 148 = .ok (.getfield 173, 3) := by decide +kernel
theorem dX11_count_151 : decode cX11_count 151 = .ok (.ireturn, 1) := by decide +kernel
theorem dX11_count_152 : decode cX11_count 152 = .ok (.aload_n 0, 1) := by decide +kernel
theorem dX11_count_153 : decode cX11_count 153 = .ok (.getfield 42, 3) := by decide +kernel
theorem dX11_count_156 : decode cX11_count 156 = .ok (.getfield 281, 3) := by decide +kernel
theorem dX11_count_159 : decode cX11_count 159 = .ok (.ireturn, 1) := by decide +kernel
theorem dX11_count_160 : decode cX11_count 160 = .ok (.aload_n 0, 1) := by decide +kernel
theorem dX11_count_161 : decode cX11_count 161 = .ok (.getfield 31, 3) := by decide +kernel
theorem dX11_count_164 : decode cX11_count 164 = .ok (.getfield 235, 3) := by decide +kernel
theorem dX11_count_167 : decode cX11_count 167 = .ok (.ireturn, 1) := by decide +kernel
theorem dX11_count_168 : decode cX11_count 168 = .ok (.aload_n 0, 1) := by decide +kernel
theorem dX11_count_169 : decode cX11_count 169 = .ok (.getfield 31, 3) := by decide +kernel
theorem dX11_count_172 : decode cX11_count 172 = .ok (.getfield 284, 3) := by decide +kernel
theorem dX11_count_175 : decode cX11_count 175 = .ok (.ireturn, 1) := by decide +kernel
theorem dX11_count_176 : decode cX11_count 176 = .ok (.aload_n 0, 1) := by decide +kernel
theorem dX11_count_177 : decode cX11_count 177 = .ok (.getfield 27, 3) := by decide +kernel
theorem dX11_count_180 : decode cX11_count 180 = .ok (.getfield 88, 3) := by decide +kernel
theorem dX11_count_183 : decode cX11_count 183 = .ok (.ireturn, 1) := by decide +kernel
theorem dX11_count_184 : decode cX11_count 184 = .ok (.aload_n 0, 1) := by decide +kernel
theorem dX11_count_185 : decode cX11_count 185 = .ok (.getfield 193, 3) := by decide +kernel
theorem dX11_count_188 : decode cX11_count 188 = .ok (.ireturn, 1) := by decide +kernel
theorem dX11_count_189 : decode cX11_count 189 = .ok (.aload_n 0, 1) := by decide +kernel
theorem dX11_count_190 : decode cX11_count 190 = .ok (.getfield 84, 3) := by decide +kernel
theorem dX11_count_193 : decode cX11_count 193 = .ok (.getfield 268, 3) := by decide +kernel
theorem dX11_count_196 : decode cX11_count 196 = .ok (.ireturn, 1) := by decide +kernel
theorem dX11_count_197 : decode cX11_count 197 = .ok (.aload_n 0, 1) := by decide +kernel
theorem dX11_count_198 : decode cX11_count 198 = .ok (.invokevirtual 287, 3) := by decide +kernel
theorem dX11_count_201 : decode cX11_count 201 = .ok (.ireturn, 1) := by decide +kernel
theorem dX11_count_202 : decode cX11_count 202 = .ok (.iconst (-1), 1) := by decide +kernel
theorem dX11_count_203 : decode cX11_count 203 = .ok (.ireturn, 1) := by decide +kernel
theorem dX11_isKind_0 : decode cX11_isKind 0 = .ok (.iload_n 1, 1) := by decide +kernel
theorem dX11_isKind_1 : decode cX11_isKind 1 = .ok (.ifCond .lt 18, 3) := by decide +kernel
theorem dX11_isKind_4 : decode cX11_isKind 4 = .ok (.iload_n 1, 1) := by decide +kernel
theorem dX11_isKind_5 : decode cX11_isKind 5 = .ok (.aload_n 0, 1) := by decide +kernel
theorem dX11_isKind_6 : decode cX11_isKind 6 = .ok (.getfield 31, 3) := by decide +kernel
theorem dX11_isKind_9 : decode cX11_isKind 9 = .ok (.getfield 275, 3) := by decide +kernel
theorem dX11_isKind_12 : decode cX11_isKind 12 = .ok (.if_icmp .ge 7, 3) := by decide +kernel
theorem dX11_isKind_15 : decode cX11_isKind 15 = .ok (.iconst 1, 1) := by decide +kernel
theorem dX11_isKind_16 : decode cX11_isKind 16 = .ok (.goto 4, 3) := by decide +kernel
theorem dX11_isKind_19 : decode cX11_isKind 19 = .ok (.iconst 0, 1) := by decide +kernel
theorem dX11_isKind_20 : decode cX11_isKind 20 = .ok (.ireturn, 1) := by decide +kernel
theorem dX11_beginAnew_0 : decode cX11_beginAnew 0 = .ok (.aload_n 0, 1) := by decide +kernel
theorem dX11_beginAnew_1 : decode cX11_beginAnew 1 = .ok (.getfield 42, 3) := by decide +kernel
theorem dX11_beginAnew_4 : decode cX11_beginAnew 4 = .ok (.aload_n 0, 1) := by decide +kernel
theorem dX11_beginAnew_5 : decode cX11_beginAnew 5 = .ok (.getfield 31, 3) := by decide +kernel
theorem dX11_beginAnew_8 : decode cX11_beginAnew 8 = .ok (.invokevirtual 290, 3) := by decide +kernel
theorem dX11_beginAnew_11 : decode cX11_beginAnew 11 = .ok (.aload_n 0, 1) := by decide +kernel
theorem dX11_beginAnew_12 : decode cX11_beginAnew 12 = .ok (.getfield 77, 3) := by decide +kernel
theorem dX11_beginAnew_15 : decode cX11_beginAnew 15 = .ok (.aload_n 0, 1) := by decide +kernel
theorem dX11_beginAnew_16 : decode cX11_beginAnew 16 = .ok (.getfield 31, 3) := by decide +kernel
theorem dX11_beginAnew_19 : decode cX11_beginAnew 19 = .ok (.invokevirtual 293, 3) := by decide +kernel
theorem dX11_beginAnew_22 : decode cX11_beginAnew 22 = .ok (.aload_n 0, 1) := by decide +kernel
theorem dX11_beginAnew_23 : decode cX11_beginAnew 23 = .ok (.getfield 84, 3) := by decide +kernel
theorem dX11_beginAnew_26 : decode cX11_beginAnew 26 = .ok (.iconst 0, 1) := by decide +kernel
theorem dX11_beginAnew_27 : decode cX11_beginAnew 27 = .ok (.putfield 268, 3) := by decide +kernel
theorem dX11_beginAnew_30 : decode cX11_beginAnew 30 = .ok (.aload_n 0, 1) := by decide +kernel
theorem dX11_beginAnew_31 : decode cX11_beginAnew 31 = .ok (.iconst 0, 1) := by decide +kernel
theorem dX11_beginAnew_32 : decode cX11_beginAnew 32 = .ok (.putfield 193, 3) := by decide +kernel
theorem dX11_beginAnew_35 : decode cX11_beginAnew 35 = .ok (.iconst 0, 1) := by decide +kernel
theorem dX11_beginAnew_36 : decode cX11_beginAnew 36 = .ok (.istore_n 1, 1) := by decide +kernel
theorem dX11_beginAnew_37 : decode cX11_beginAnew 37 = .ok (.iload_n 1, 1) := by decide +kernel
theorem dX11_beginAnew_38 : decode cX11_beginAnew 38 = .ok (.aload_n 0, 1) := by decide +kernel
theorem dX11_beginAnew_39 : decode cX11_beginAnew 39 = .ok (.getfield 56, 3) := by decide +kernel
theorem dX11_beginAnew_42 : decode cX11_beginAnew 42 = .ok (.arraylength, 1) := by decide +kernel
theorem dX11_beginAnew_43 : decode cX11_beginAnew 43 = .ok (.if_icmp .ge 16, 3) := by decide +kernel
theorem dX11_beginAnew_46 : decode cX11_beginAnew 46 = .ok (.aload_n 0, 1) := by decide +kernel
theorem dX11_beginAnew_47 : decode cX11_beginAnew 47 = .ok (.getfield 56, 3) := by decide +kernel
theorem dX11_beginAnew_50 : decode cX11_beginAnew 50 = .ok (.iload_n 1, 1) := by decide +kernel
theorem dX11_beginAnew_51 : decode cX11_beginAnew 51 = .ok (.iconst 0, 1) := by decide +kernel
theorem dX11_beginAnew_52 : decode cX11_beginAnew 52 = .ok (.bastore, 1) := by decide +kernel
theorem dX11_beginAnew_53 : decode cX11_beginAnew 53 = .ok (.iinc 1 1, 3) := by decide +kernel
theorem dX11_beginAnew_56 : decode cX11_beginAnew 56 = .ok (.goto (-19), 3) := by decide +kernel
theorem dX11_beginAnew_59 : decode cX11_beginAnew 59 = .ok (.return_, 1) := by decide +kernel
theorem dX11_remember_0 : decode cX11_remember 0 = .ok (.aload_n 0, 1) := by decide +kernel
theorem dX11_remember_1 : decode cX11_remember 1 = .ok (.getfield 49, 3) := by decide +kernel
theorem dX11_remember_4 : decode cX11_remember 4 = .ok (.aload_n 0, 1) := by decide +kernel
theorem dX11_remember_5 : decode cX11_remember 5 = .ok (.getfield 196, 3) := by decide +kernel
theorem dX11_remember_8 : decode cX11_remember 8 = .ok (.aload_n 0, 1) := by decide +kernel
theorem dX11_remember_9 : decode cX11_remember 9 = .ok (.getfield 193, 3) := by decide +kernel
theorem dX11_remember_12 : decode cX11_remember 12 = .ok (.iadd, 1) := by decide +kernel
theorem dX11_remember_13 : decode cX11_remember 13 = .ok (.bipush 40, 2) := by decide +kernel
theorem dX11_remember_15 : decode cX11_remember 15 = .ok (.invokestatic 199, 3) := by decide +kernel
theorem dX11_remember_18 : decode cX11_remember 18 = .ok (.aaload, 1) := by decide +kernel
theorem dX11_remember_19 : decode cX11_remember 19 = .ok (.aload_n 0, 1) := by decide +kernel
theorem dX11_remember_20 : decode cX11_remember 20 = .ok (.getfield 42, 3) := by decide +kernel
theorem dX11_remember_23 : decode cX11_remember 23 = .ok (.invokevirtual 202, 3) := by decide +kernel
theorem dX11_remember_26 : decode cX11_remember 26 = .ok (.aload_n 0, 1) := by decide +kernel
theorem dX11_remember_27 : decode cX11_remember 27 = .ok (.getfield 193, 3) := by decide +kernel
theorem dX11_remember_30 : decode cX11_remember 30 = .ok (.bipush 40, 2) := by decide +kernel
theorem dX11_remember_32 : decode cX11_remember 32 = .ok (.if_icmp .ge 16, 3) := by decide +kernel
theorem dX11_remember_35 : decode cX11_remember 35 = .ok (.aload_n 0, 1) := by decide +kernel
theorem dX11_remember_36 : decode cX11_remember 36 = .ok (.dup, 1) := by decide +kernel
theorem dX11_remember_37 : decode cX11_remember 37 = .ok (.getfield 193, 3) := by decide +kernel
theorem dX11_remember_40 : decode cX11_remember 40 = .ok (.iconst 1, 1) := by decide +kernel
theorem dX11_remember_41 : decode cX11_remember 41 = .ok (.iadd, 1) := by decide +kernel
theorem dX11_remember_42 : decode cX11_remember 42 = .ok (.putfield 193, 3) := by decide +kernel
theorem dX11_remember_45 : decode cX11_remember 45 = .ok (.goto 16, 3) := by decide +kernel
theorem dX11_remember_48 : decode cX11_remember 48 = .ok (.aload_n 0, 1) := by decide +kernel
theorem dX11_remember_49 : decode cX11_remember 49 = .ok (.aload_n 0, 1) := by decide +kernel
theorem dX11_remember_50 : decode cX11_remember 50 = .ok (.getfield 196, 3) := by decide +kernel
theorem dX11_remember_53 : decode cX11_remember 53 = .ok (.iconst 1, 1) := by decide +kernel
theorem dX11_remember_54 : decode cX11_remember 54 = .ok (.iadd, 1) := by decide +kernel
theorem dX11_remember_55 : decode cX11_remember 55 = .ok (.bipush 40, 2) := by decide +kernel
theorem dX11_remember_57 : decode cX11_remember 57 = .ok (.irem, 1) := by decide +kernel
theorem dX11_remember_58 : decode cX11_remember 58 = .ok (.putfield 196, 3) := by decide +kernel
theorem dX11_remember_61 : decode cX11_remember 61 = .ok (.return_, 1) := by decide +kernel
theorem dX11_slotsHeld_0 : decode cX11_slotsHeld 0 = .ok (.iconst 0, 1) := by decide +kernel
theorem dX11_slotsHeld_1 : decode cX11_slotsHeld 1 = .ok (.istore_n 1, 1) := by decide +kernel
theorem dX11_slotsHeld_2 : decode cX11_slotsHeld 2 = .ok (.iconst 0, 1) := by decide +kernel
theorem dX11_slotsHeld_3 : decode cX11_slotsHeld 3 = .ok (.istore_n 2, 1) := by decide +kernel
theorem dX11_slotsHeld_4 : decode cX11_slotsHeld 4 = .ok (.iload_n 2, 1) := by decide +kernel
theorem dX11_slotsHeld_5 : decode cX11_slotsHeld 5 = .ok (.aload_n 0, 1) := by decide +kernel
theorem dX11_slotsHeld_6 : decode cX11_slotsHeld 6 = .ok (.getfield 56, 3) := by decide +kernel
theorem dX11_slotsHeld_9 : decode cX11_slotsHeld 9 = .ok (.arraylength, 1) := by decide +kernel
theorem dX11_slotsHeld_10 : decode cX11_slotsHeld 10 = .ok (.if_icmp .ge 26, 3) := by decide +kernel
theorem dX11_slotsHeld_13 : decode cX11_slotsHeld 13 = .ok (.iload_n 1, 1) := by decide +kernel
theorem dX11_slotsHeld_14 : decode cX11_slotsHeld 14 = .ok (.aload_n 0, 1) := by decide +kernel
theorem dX11_slotsHeld_15 : decode cX11_slotsHeld 15 = .ok (.getfield 56, 3) := by decide +kernel
theorem dX11_slotsHeld_18 : decode cX11_slotsHeld 18 = .ok (.iload_n 2, 1) := by decide +kernel
theorem dX11_slotsHeld_19 : decode cX11_slotsHeld 19 = .ok (.baload, 1) := by decide +kernel
theorem dX11_slotsHeld_20 : decode cX11_slotsHeld 20 = .ok (.ifCond .eq 7, 3) := by decide +kernel
theorem dX11_slotsHeld_23 : decode cX11_slotsHeld 23 = .ok (.iconst 1, 1) := by decide +kernel
theorem dX11_slotsHeld_24 : decode cX11_slotsHeld 24 = .ok (.goto 4, 3) := by decide +kernel
theorem dX11_slotsHeld_27 : decode cX11_slotsHeld 27 = .ok (.iconst 0, 1) := by decide +kernel
theorem dX11_slotsHeld_28 : decode cX11_slotsHeld 28 = .ok (.iadd, 1) := by decide +kernel
theorem dX11_slotsHeld_29 : decode cX11_slotsHeld 29 = .ok (.istore_n 1, 1) := by decide +kernel
theorem dX11_slotsHeld_30 : decode cX11_slotsHeld 30 = .ok (.iinc 2 1, 3) := by decide +kernel
theorem dX11_slotsHeld_33 : decode cX11_slotsHeld 33 = .ok (.goto (-29), 3) := by decide +kernel
theorem dX11_slotsHeld_36 : decode cX11_slotsHeld 36 = .ok (.iload_n 1, 1) := by decide +kernel
theorem dX11_slotsHeld_37 : decode cX11_slotsHeld 37 = .ok (.ireturn, 1) := by decide +kernel
theorem dX11_sumOfEvenings_0 : decode cX11_sumOfEvenings 0 = .ok (.iconst 0, 1) := by decide +kernel
theorem dX11_sumOfEvenings_1 : decode cX11_sumOfEvenings 1 = .ok (.istore_n 3, 1) := by decide +kernel
theorem dX11_sumOfEvenings_2 : decode cX11_sumOfEvenings 2 = .ok (.iconst 0, 1) := by decide +kernel
theorem dX11_sumOfEvenings_3 : decode cX11_sumOfEvenings 3 = .ok (.istore 4, 2) := by decide +kernel
theorem dX11_sumOfEvenings_5 : decode cX11_sumOfEvenings 5 = .ok (.iload 4, 2) := by decide +kernel
theorem dX11_sumOfEvenings_7 : decode cX11_sumOfEvenings 7 = .ok (.iload_n 1, 1) := by decide +kernel
theorem dX11_sumOfEvenings_8 : decode cX11_sumOfEvenings 8 = .ok (.if_icmp .ge 63, 3) := by decide +kernel
theorem dX11_sumOfEvenings_11 : decode cX11_sumOfEvenings 11 = .ok (.aload_n 0, 1) := by decide +kernel
theorem dX11_sumOfEvenings_12 : decode cX11_sumOfEvenings 12 = .ok (.getfield 46, 3) := by decide +kernel
theorem dX11_sumOfEvenings_15 : decode cX11_sumOfEvenings 15 = .ok (.aload_n 0, 1) := by decide +kernel
theorem dX11_sumOfEvenings_16 : decode cX11_sumOfEvenings 16 = .ok (.getfield 42, 3) := by decide +kernel
theorem dX11_sumOfEvenings_19 : decode cX11_sumOfEvenings 19 = .ok (.invokevirtual 202, 3) := by decide +kernel
theorem dX11_sumOfEvenings_22 : decode cX11_sumOfEvenings 22 = .ok (.aload_n 0, 1) := by decide +kernel
theorem dX11_sumOfEvenings_23 : decode cX11_sumOfEvenings 23 = .ok (.getfield 46, 3) := by decide +kernel
theorem dX11_sumOfEvenings_26 : decode cX11_sumOfEvenings 26 = .ok (.aload_n 0, 1) := by decide +kernel
theorem dX11_sumOfEvenings_27 : decode cX11_sumOfEvenings 27 = .ok (.getfield 31, 3) := by decide +kernel
theorem dX11_sumOfEvenings_30 : decode cX11_sumOfEvenings 30 = .ok (.iload 4, 2) := by decide +kernel
theorem dX11_sumOfEvenings_32 : decode cX11_sumOfEvenings 32 = .ok (.iload_n 2, 1) := by decide +kernel
theorem dX11_sumOfEvenings_33 : decode cX11_sumOfEvenings 33 = .ok (.sipush 200, 3) := by decide +kernel
theorem dX11_sumOfEvenings_36 : decode cX11_sumOfEvenings 36 = .ok (.invokevirtual 225, 3) := by decide +kernel
theorem dX11_sumOfEvenings_39 : decode cX11_sumOfEvenings 39 = .ok (.istore 5, 2) := by decide +kernel
theorem dX11_sumOfEvenings_41 : decode cX11_sumOfEvenings 41 = .ok (.iload_n 3, 1) := by decide +kernel
theorem dX11_sumOfEvenings_42 : decode cX11_sumOfEvenings 42 = .ok (.aload_n 0, 1) := by decide +kernel
theorem dX11_sumOfEvenings_43 : decode cX11_sumOfEvenings 43 = .ok (.getfield 46, 3) := by decide +kernel
theorem dX11_sumOfEvenings_46 : decode cX11_sumOfEvenings 46 = .ok (.getfield 131, 3) := by decide +kernel
theorem dX11_sumOfEvenings_49 : decode cX11_sumOfEvenings 49 = .ok (.invokestatic 180, 3) := by decide +kernel
theorem dX11_sumOfEvenings_52 : decode cX11_sumOfEvenings 52 = .ok (.ifCond .le 9, 3) := by decide +kernel
theorem dX11_sumOfEvenings_55 : decode cX11_sumOfEvenings 55 = .ok (.sipush 500, 3) := by decide +kernel
theorem dX11_sumOfEvenings_58 : decode cX11_sumOfEvenings 58 = .ok (.goto 5, 3) := by decide +kernel
theorem dX11_sumOfEvenings_61 : decode cX11_sumOfEvenings 61 = .ok (.iload 5, 2) := by decide +kernel
theorem dX11_sumOfEvenings_63 : decode cX11_sumOfEvenings 63 = .ok (.iadd, 1) := by decide +kernel
theorem dX11_sumOfEvenings_64 : decode cX11_sumOfEvenings 64 = .ok (.istore_n 3, 1) := by decide +kernel
theorem dX11_sumOfEvenings_65 : decode cX11_sumOfEvenings 65 = .ok (.iinc 4 1, 3) := by decide +kernel
theorem dX11_sumOfEvenings_68 : decode cX11_sumOfEvenings 68 = .ok (.goto (-63), 3) := by decide +kernel
theorem dX11_sumOfEvenings_71 : decode cX11_sumOfEvenings 71 = .ok (.iload_n 3, 1) := by decide +kernel
theorem dX11_sumOfEvenings_72 : decode cX11_sumOfEvenings 72 = .ok (.ireturn, 1) := by decide +kernel
theorem dX11_chance_0 : decode cX11_chance 0 = .ok (.iload_n 1, 1) := by decide +kernel
theorem dX11_chance_1 : decode cX11_chance 1 = .ok (.bipush 26, 2) := by decide +kernel
theorem dX11_chance_3 : decode cX11_chance 3 = .ok (.invokestatic 294, 3) := by decide +kernel
theorem dX11_chance_6 : decode cX11_chance 6 = .ok (.iload_n 2, 1) := by decide +kernel
theorem dX11_chance_7 : decode cX11_chance 7 = .ok (.invokestatic 294, 3) := by decide +kernel
theorem dX11_chance_10 : decode cX11_chance 10 = .ok (.istore_n 3, 1) := by decide +kernel
theorem dX11_chance_11 : decode cX11_chance 11 = .ok (.iload_n 0, 1) := by decide +kernel
theorem dX11_chance_12 : decode cX11_chance 12 = .ok (.iconst 1, 1) := by decide +kernel
theorem dX11_chance_13 : decode cX11_chance 13 = .ok (.if_icmp .ge 7, 3) := by decide +kernel
theorem dX11_chance_16 : decode cX11_chance 16 = .ok (.iconst 0, 1) := by decide +kernel
theorem dX11_chance_17 : decode cX11_chance 17 = .ok (.goto 8, 3) := by decide +kernel
theorem dX11_chance_20 : decode cX11_chance 20 = .ok (.iload_n 3, 1) := by decide +kernel
theorem dX11_chance_21 : decode cX11_chance 21 = .ok (.iconst 1, 1) := by decide +kernel
theorem dX11_chance_22 : decode cX11_chance 22 = .ok (.iushr, 1) := by decide +kernel
theorem dX11_chance_23 : decode cX11_chance 23 = .ok (.iload_n 0, 1) := by decide +kernel
theorem dX11_chance_24 : decode cX11_chance 24 = .ok (.irem, 1) := by decide +kernel
theorem dX11_chance_25 : decode cX11_chance 25 = .ok (.ireturn, 1) := by decide +kernel
theorem dX11_mixed_0 : decode cX11_mixed 0 = .ok (.iload_n 0, 1) := by decide +kernel
theorem dX11_mixed_1 : decode cX11_mixed 1 = .ok (.iload_n 1, 1) := by decide +kernel
theorem dX11_mixed_2 : decode cX11_mixed 2 = .ok (.ixor, 1) := by decide +kernel
theorem dX11_mixed_3 : decode cX11_mixed 3 = .ok (.ldc_w 297, 3) := by decide +kernel
theorem dX11_mixed_6 : decode cX11_mixed 6 = .ok (.imul, 1) := by decide +kernel
theorem dX11_mixed_7 : decode cX11_mixed 7 = .ok (.sipush 12345, 3) := by decide +kernel
theorem dX11_mixed_10 : decode cX11_mixed 10 = .ok (.iadd, 1) := by decide +kernel
theorem dX11_mixed_11 : decode cX11_mixed 11 = .ok (.istore_n 2, 1) := by decide +kernel
theorem dX11_mixed_12 : decode cX11_mixed 12 = .ok (.iload_n 2, 1) := by decide +kernel
theorem dX11_mixed_13 : decode cX11_mixed 13 = .ok (.iload_n 2, 1) := by decide +kernel
theorem dX11_mixed_14 : decode cX11_mixed 14 = .ok (.bipush 15, 2) := by decide +kernel
theorem dX11_mixed_16 : decode cX11_mixed 16 = .ok (.iushr, 1) := by decide +kernel
theorem dX11_mixed_17 : decode cX11_mixed 17 = .ok (.ixor, 1) := by decide +kernel
theorem dX11_mixed_18 : decode cX11_mixed 18 = .ok (.ireturn, 1) := by decide +kernel
theorem dX11_at_0 : decode cX11_at 0 = .ok (.iload_n 1, 1) := by decide +kernel
theorem dX11_at_1 : decode cX11_at 1 = .ok (.ifCond .lt 15, 3) := by decide +kernel
theorem dX11_at_4 : decode cX11_at 4 = .ok (.iload_n 1, 1) := by decide +kernel
theorem dX11_at_5 : decode cX11_at 5 = .ok (.aload_n 0, 1) := by decide +kernel
theorem dX11_at_6 : decode cX11_at 6 = .ok (.arraylength, 1) := by decide +kernel
theorem dX11_at_7 : decode cX11_at 7 = .ok (.if_icmp .ge 9, 3) := by decide +kernel
theorem dX11_at_10 : decode cX11_at 10 = .ok (.aload_n 0, 1) := by decide +kernel
theorem dX11_at_11 : decode cX11_at 11 = .ok (.iload_n 1, 1) := by decide +kernel
theorem dX11_at_12 : decode cX11_at 12 = .ok (.iaload, 1) := by decide +kernel
theorem dX11_at_13 : decode cX11_at 13 = .ok (.goto 4, 3) := by decide +kernel
theorem dX11_at_16 : decode cX11_at 16 = .ok (.iconst 0, 1) := by decide +kernel
theorem dX11_at_17 : decode cX11_at 17 = .ok (.ireturn, 1) := by decide +kernel
theorem dX11_longAt_0 : decode cX11_longAt 0 = .ok (.iload_n 1, 1) := by decide +kernel
theorem dX11_longAt_1 : decode cX11_longAt 1 = .ok (.ifCond .lt 15, 3) := by decide +kernel
theorem dX11_longAt_4 : decode cX11_longAt 4 = .ok (.iload_n 1, 1) := by decide +kernel
theorem dX11_longAt_5 : decode cX11_longAt 5 = .ok (.aload_n 0, 1) := by decide +kernel
theorem dX11_longAt_6 : decode cX11_longAt 6 = .ok (.arraylength, 1) := by decide +kernel
theorem dX11_longAt_7 : decode cX11_longAt 7 = .ok (.if_icmp .ge 9, 3) := by decide +kernel
theorem dX11_longAt_10 : decode cX11_longAt 10 = .ok (.aload_n 0, 1) := by decide +kernel
theorem dX11_longAt_11 : decode cX11_longAt 11 = .ok (.iload_n 1, 1) := by decide +kernel
theorem dX11_longAt_12 : decode cX11_longAt 12 = .ok (.laload, 1) := by decide +kernel
theorem dX11_longAt_13 : decode cX11_longAt 13 = .ok (.goto 4, 3) := by decide +kernel
theorem dX11_longAt_16 : decode cX11_longAt 16 = .ok (.lconst 0, 1) := by decide +kernel
theorem dX11_longAt_17 : decode cX11_longAt 17 = .ok (.lreturn, 1) := by decide +kernel
theorem dX11_put_0 : decode cX11_put 0 = .ok (.iload_n 1, 1) := by decide +kernel
theorem dX11_put_1 : decode cX11_put 1 = .ok (.ifCond .lt 13, 3) := by decide +kernel
theorem dX11_put_4 : decode cX11_put 4 = .ok (.iload_n 1, 1) := by decide +kernel
theorem dX11_put_5 : decode cX11_put 5 = .ok (.aload_n 0, 1) := by decide +kernel
theorem dX11_put_6 : decode cX11_put 6 = .ok (.arraylength, 1) := by decide +kernel
theorem dX11_put_7 : decode cX11_put 7 = .ok (.if_icmp .ge 7, 3) := by decide +kernel
theorem dX11_put_10 : decode cX11_put 10 = .ok (.aload_n 0, 1) := by decide +kernel
theorem dX11_put_11 : decode cX11_put 11 = .ok (.iload_n 1, 1) := by decide +kernel
theorem dX11_put_12 : decode cX11_put 12 = .ok (.iload_n 2, 1) := by decide +kernel
theorem dX11_put_13 : decode cX11_put 13 = .ok (.iastore, 1) := by decide +kernel
theorem dX11_put_14 : decode cX11_put 14 = .ok (.return_, 1) := by decide +kernel
theorem dX11_add_0 : decode cX11_add 0 = .ok (.iload_n 1, 1) := by decide +kernel
theorem dX11_add_1 : decode cX11_add 1 = .ok (.ifCond .lt 16, 3) := by decide +kernel
theorem dX11_add_4 : decode cX11_add 4 = .ok (.iload_n 1, 1) := by decide +kernel
theorem dX11_add_5 : decode cX11_add 5 = .ok (.aload_n 0, 1) := by decide +kernel
theorem dX11_add_6 : decode cX11_add 6 = .ok (.arraylength, 1) := by decide +kernel
theorem dX11_add_7 : decode cX11_add 7 = .ok (.if_icmp .ge 10, 3) := by decide +kernel
theorem dX11_add_10 : decode cX11_add 10 = .ok (.aload_n 0, 1) := by decide +kernel
theorem dX11_add_11 : decode cX11_add 11 = .ok (.iload_n 1, 1) := by decide +kernel
theorem dX11_add_12 : decode cX11_add 12 = .ok (.dup2, 1) := by decide +kernel
theorem dX11_add_13 : decode cX11_add 13 = .ok (.iaload, 1) := by decide +kernel
theorem dX11_add_14 : decode cX11_add 14 = .ok (.iload_n 2, 1) := by decide +kernel
theorem dX11_add_15 : decode cX11_add 15 = .ok (.iadd, 1) := by decide +kernel
theorem dX11_add_16 : decode cX11_add 16 = .ok (.iastore, 1) := by decide +kernel
theorem dX11_add_17 : decode cX11_add 17 = .ok (.return_, 1) := by decide +kernel
theorem dX11_total_0 : decode cX11_total 0 = .ok (.iconst 0, 1) := by decide +kernel
theorem dX11_total_1 : decode cX11_total 1 = .ok (.istore_n 1, 1) := by decide +kernel
theorem dX11_total_2 : decode cX11_total 2 = .ok (.iconst 0, 1) := by decide +kernel
theorem dX11_total_3 : decode cX11_total 3 = .ok (.istore_n 2, 1) := by decide +kernel
theorem dX11_total_4 : decode cX11_total 4 = .ok (.iload_n 2, 1) := by decide +kernel
theorem dX11_total_5 : decode cX11_total 5 = .ok (.aload_n 0, 1) := by decide +kernel
theorem dX11_total_6 : decode cX11_total 6 = .ok (.arraylength, 1) := by decide +kernel
theorem dX11_total_7 : decode cX11_total 7 = .ok (.if_icmp .ge 15, 3) := by decide +kernel
theorem dX11_total_10 : decode cX11_total 10 = .ok (.iload_n 1, 1) := by decide +kernel
theorem dX11_total_11 : decode cX11_total 11 = .ok (.aload_n 0, 1) := by decide +kernel
theorem dX11_total_12 : decode cX11_total 12 = .ok (.iload_n 2, 1) := by decide +kernel
theorem dX11_total_13 : decode cX11_total 13 = .ok (.iaload, 1) := by decide +kernel
theorem dX11_total_14 : decode cX11_total 14 = .ok (.iadd, 1) := by decide +kernel
theorem dX11_total_15 : decode cX11_total 15 = .ok (.istore_n 1, 1) := by decide +kernel
theorem dX11_total_16 : decode cX11_total 16 = .ok (.iinc 2 1, 3) := by decide +kernel
theorem dX11_total_19 : decode cX11_total 19 = .ok (.goto (-15), 3) := by decide +kernel
theorem dX11_total_22 : decode cX11_total 22 = .ok (.iload_n 1, 1) := by decide +kernel
theorem dX11_total_23 : decode cX11_total 23 = .ok (.ireturn, 1) := by decide +kernel
theorem dX11_copyRow_0 : decode cX11_copyRow 0 = .ok (.iconst 0, 1) := by decide +kernel
theorem dX11_copyRow_1 : decode cX11_copyRow 1 = .ok (.istore_n 2, 1) := by decide +kernel
theorem dX11_copyRow_2 : decode cX11_copyRow 2 = .ok (.iload_n 2, 1) := by decide +kernel
theorem dX11_copyRow_3 : decode cX11_copyRow 3 = .ok (.aload_n 0, 1) := by decide +kernel
theorem dX11_copyRow_4 : decode cX11_copyRow 4 = .ok (.arraylength, 1) := by decide +kernel
theorem dX11_copyRow_5 : decode cX11_copyRow 5 = .ok (.if_icmp .ge 21, 3) := by decide +kernel
theorem dX11_copyRow_8 : decode cX11_copyRow 8 = .ok (.iload_n 2, 1) := by decide +kernel
theorem dX11_copyRow_9 : decode cX11_copyRow 9 = .ok (.aload_n 1, 1) := by decide +kernel
theorem dX11_copyRow_10 : decode cX11_copyRow 10 = .ok (.arraylength, 1) := by decide +kernel
theorem dX11_copyRow_11 : decode cX11_copyRow 11 = .ok (.if_icmp .ge 15, 3) := by decide +kernel
theorem dX11_copyRow_14 : decode cX11_copyRow 14 = .ok (.aload_n 1, 1) := by decide +kernel
theorem dX11_copyRow_15 : decode cX11_copyRow 15 = .ok (.iload_n 2, 1) := by decide +kernel
theorem dX11_copyRow_16 : decode cX11_copyRow 16 = .ok (.aload_n 0, 1) := by decide +kernel
theorem dX11_copyRow_17 : decode cX11_copyRow 17 = .ok (.iload_n 2, 1) := by decide +kernel
theorem dX11_copyRow_18 : decode cX11_copyRow 18 = .ok (.iaload, 1) := by decide +kernel
theorem dX11_copyRow_19 : decode cX11_copyRow 19 = .ok (.iastore, 1) := by decide +kernel
theorem dX11_copyRow_20 : decode cX11_copyRow 20 = .ok (.iinc 2 1, 3) := by decide +kernel
theorem dX11_copyRow_23 : decode cX11_copyRow 23 = .ok (.goto (-21), 3) := by decide +kernel
theorem dX11_copyRow_26 : decode cX11_copyRow 26 = .ok (.return_, 1) := by decide +kernel
theorem dX11_sameRow_0 : decode cX11_sameRow 0 = .ok (.aload_n 0, 1) := by decide +kernel
theorem dX11_sameRow_1 : decode cX11_sameRow 1 = .ok (.arraylength, 1) := by decide +kernel
theorem dX11_sameRow_2 : decode cX11_sameRow 2 = .ok (.aload_n 1, 1) := by decide +kernel
theorem dX11_sameRow_3 : decode cX11_sameRow 3 = .ok (.arraylength, 1) := by decide +kernel
theorem dX11_sameRow_4 : decode cX11_sameRow 4 = .ok (.if_icmp .ne 7, 3) := by decide +kernel
theorem dX11_sameRow_7 : decode cX11_sameRow 7 = .ok (.iconst 1, 1) := by decide +kernel
theorem dX11_sameRow_8 : decode cX11_sameRow 8 = .ok (.goto 4, 3) := by decide +kernel
theorem dX11_sameRow_11 : decode cX11_sameRow 11 = .ok (.iconst 0, 1) := by decide +kernel
theorem dX11_sameRow_12 : decode cX11_sameRow 12 = .ok (.istore_n 2, 1) := by decide +kernel
theorem dX11_sameRow_13 : decode cX11_sameRow 13 = .ok (.iconst 0, 1) := by decide +kernel
theorem dX11_sameRow_14 : decode cX11_sameRow 14 = .ok (.istore_n 3, 1) := by decide +kernel
theorem dX11_sameRow_15 : decode cX11_sameRow 15 = .ok (.iload_n 2, 1) := by decide +kernel
theorem dX11_sameRow_16 : decode cX11_sameRow 16 = .ok (.ifCond .eq 36, 3) := by decide +kernel
theorem dX11_sameRow_19 : decode cX11_sameRow 19 = .ok (.iload_n 3, 1) := by decide +kernel
theorem dX11_sameRow_20 : decode cX11_sameRow 20 = .ok (.aload_n 0, 1) := by decide +kernel
theorem dX11_sameRow_21 : decode cX11_sameRow 21 = .ok (.arraylength, 1) := by decide +kernel
theorem dX11_sameRow_22 : decode cX11_sameRow 22 = .ok (.if_icmp .ge 30, 3) := by decide +kernel
theorem dX11_sameRow_25 : decode cX11_sameRow 25 = .ok (.iload_n 3, 1) := by decide +kernel
theorem dX11_sameRow_26 : decode cX11_sameRow 26 = .ok (.aload_n 1, 1) := by decide +kernel
theorem dX11_sameRow_27 : decode cX11_sameRow 27 = .ok (.arraylength, 1) := by decide +kernel
theorem dX11_sameRow_28 : decode cX11_sameRow 28 = .ok (.if_icmp .ge 24, 3) := by decide +kernel
theorem dX11_sameRow_31 : decode cX11_sameRow 31 = .ok (.aload_n 0, 1) := by decide +kernel
theorem dX11_sameRow_32 : decode cX11_sameRow 32 = .ok (.iload_n 3, 1) := by decide +kernel
theorem dX11_sameRow_33 : decode cX11_sameRow 33 = .ok (.iaload, 1) := by decide +kernel
theorem dX11_sameRow_34 : decode cX11_sameRow 34 = .ok (.aload_n 1, 1) := by decide +kernel
theorem dX11_sameRow_35 : decode cX11_sameRow 35 = .ok (.iload_n 3, 1) := by decide +kernel
theorem dX11_sameRow_36 : decode cX11_sameRow 36 = .ok (.iaload, 1) := by decide +kernel
theorem dX11_sameRow_37 : decode cX11_sameRow 37 = .ok (.if_icmp .ne 7, 3) := by decide +kernel
theorem dX11_sameRow_40 : decode cX11_sameRow 40 = .ok (.iconst 1, 1) := by decide +kernel
theorem dX11_sameRow_41 : decode cX11_sameRow 41 = .ok (.goto 4, 3) := by decide +kernel
theorem dX11_sameRow_44 : decode cX11_sameRow 44 = .ok (.iconst 0, 1) := by decide +kernel
theorem dX11_sameRow_45 : decode cX11_sameRow 45 = .ok (.istore_n 2, 1) := by decide +kernel
theorem dX11_sameRow_46 : decode cX11_sameRow 46 = .ok (.iinc 3 1, 3) := by decide +kernel
theorem dX11_sameRow_49 : decode cX11_sameRow 49 = .ok (.goto (-34), 3) := by decide +kernel
theorem dX11_sameRow_52 : decode cX11_sameRow 52 = .ok (.iload_n 2, 1) := by decide +kernel
theorem dX11_sameRow_53 : decode cX11_sameRow 53 = .ok (.ireturn, 1) := by decide +kernel
theorem dX11_factorial_0 : decode cX11_factorial 0 = .ok (.lconst 1, 1) := by decide +kernel
theorem dX11_factorial_1 : decode cX11_factorial 1 = .ok (.lstore_n 1, 1) := by decide +kernel
theorem dX11_factorial_2 : decode cX11_factorial 2 = .ok (.iconst 2, 1) := by decide +kernel
theorem dX11_factorial_3 : decode cX11_factorial 3 = .ok (.istore_n 3, 1) := by decide +kernel
theorem dX11_factorial_4 : decode cX11_factorial 4 = .ok (.iload_n 3, 1) := by decide +kernel
theorem dX11_factorial_5 : decode cX11_factorial 5 = .ok (.iload_n 0, 1) := by decide +kernel
theorem dX11_factorial_6 : decode cX11_factorial 6 = .ok (.if_icmp .gt 14, 3) := by decide +kernel
theorem dX11_factorial_9 : decode cX11_factorial 9 = .ok (.lload_n 1, 1) := by decide +kernel
theorem dX11_factorial_10 : decode cX11_factorial 10 = .ok (.iload_n 3, 1) := by decide +kernel
theorem dX11_factorial_11 : decode cX11_factorial 11 = .ok (.i2l, 1) := by decide +kernel
theorem dX11_factorial_12 : decode cX11_factorial 12 = .ok (.lmul, 1) := by decide +kernel
theorem dX11_factorial_13 : decode cX11_factorial 13 = .ok (.lstore_n 1, 1) := by decide +kernel
theorem dX11_factorial_14 : decode cX11_factorial 14 = .ok (.iinc 3 1, 3) := by decide +kernel
theorem dX11_factorial_17 : decode cX11_factorial 17 = .ok (.goto (-13), 3) := by decide +kernel
theorem dX11_factorial_20 : decode cX11_factorial 20 = .ok (.lload_n 1, 1) := by decide +kernel
theorem dX11_factorial_21 : decode cX11_factorial 21 = .ok (.lreturn, 1) := by decide +kernel
theorem dX11_choose_0 : decode cX11_choose 0 = .ok (.iload_n 1, 1) := by decide +kernel
theorem dX11_choose_1 : decode cX11_choose 1 = .ok (.ifCond .lt 8, 3) := by decide +kernel
theorem dX11_choose_4 : decode cX11_choose 4 = .ok (.iload_n 1, 1) := by decide +kernel
theorem dX11_choose_5 : decode cX11_choose 5 = .ok (.iload_n 0, 1) := by decide +kernel
theorem dX11_choose_6 : decode cX11_choose 6 = .ok (.if_icmp .le 7, 3) := by decide +kernel
theorem dX11_choose_9 : decode cX11_choose 9 = .ok (.lconst 0, 1) := by decide +kernel
theorem dX11_choose_10 : decode cX11_choose 10 = .ok (.goto 4, 3) := by decide +kernel
theorem dX11_choose_13 : decode cX11_choose 13 = .ok (.lconst 1, 1) := by decide +kernel
theorem dX11_choose_14 : decode cX11_choose 14 = .ok (.lstore_n 2, 1) := by decide +kernel
theorem dX11_choose_15 : decode cX11_choose 15 = .ok (.iconst 0, 1) := by decide +kernel
theorem dX11_choose_16 : decode cX11_choose 16 = .ok (.istore 4, 2) := by decide +kernel
theorem dX11_choose_18 : decode cX11_choose 18 = .ok (.iload 4, 2) := by decide +kernel
theorem dX11_choose_20 : decode cX11_choose 20 = .ok (.iload_n 1, 1) := by decide +kernel
theorem dX11_choose_21 : decode cX11_choose 21 = .ok (.if_icmp .ge 29, 3) := by decide +kernel
theorem dX11_choose_24 : decode cX11_choose 24 = .ok (.iload 4, 2) := by decide +kernel
theorem dX11_choose_26 : decode cX11_choose 26 = .ok (.iload_n 0, 1) := by decide +kernel
theorem dX11_choose_27 : decode cX11_choose 27 = .ok (.if_icmp .ge 23, 3) := by decide +kernel
theorem dX11_choose_30 : decode cX11_choose 30 = .ok (.lload_n 2, 1) := by decide +kernel
theorem dX11_choose_31 : decode cX11_choose 31 = .ok (.iload_n 0, 1) := by decide +kernel
theorem dX11_choose_32 : decode cX11_choose 32 = .ok (.iload 4, 2) := by decide +kernel
theorem dX11_choose_34 : decode cX11_choose 34 = .ok (.isub, 1) := by decide +kernel
theorem dX11_choose_35 : decode cX11_choose 35 = .ok (.i2l, 1) := by decide +kernel
theorem dX11_choose_36 : decode cX11_choose 36 = .ok (.lmul, 1) := by decide +kernel
theorem dX11_choose_37 : decode cX11_choose 37 = .ok (.iload 4, 2) := by decide +kernel
theorem dX11_choose_39 : decode cX11_choose 39 = .ok (.iconst 1, 1) := by decide +kernel
theorem dX11_choose_40 : decode cX11_choose 40 = .ok (.iadd, 1) := by decide +kernel
theorem dX11_choose_41 : decode cX11_choose 41 = .ok (.i2l, 1) := by decide +kernel
theorem dX11_choose_42 : decode cX11_choose 42 = .ok (.ldiv, 1) := by decide +kernel
theorem dX11_choose_43 : decode cX11_choose 43 = .ok (.lstore_n 2, 1) := by decide +kernel
theorem dX11_choose_44 : decode cX11_choose 44 = .ok (.iinc 4 1, 3) := by decide +kernel
theorem dX11_choose_47 : decode cX11_choose 47 = .ok (.goto (-29), 3) := by decide +kernel
theorem dX11_choose_50 : decode cX11_choose 50 = .ok (.lload_n 2, 1) := by decide +kernel
theorem dX11_choose_51 : decode cX11_choose 51 = .ok (.lreturn, 1) := by decide +kernel
theorem dX11_power_0 : decode cX11_power 0 = .ok (.lconst 1, 1) := by decide +kernel
theorem dX11_power_1 : decode cX11_power 1 = .ok (.lstore_n 2, 1) := by decide +kernel
theorem dX11_power_2 : decode cX11_power 2 = .ok (.iconst 0, 1) := by decide +kernel
theorem dX11_power_3 : decode cX11_power 3 = .ok (.istore 4, 2) := by decide +kernel
theorem dX11_power_5 : decode cX11_power 5 = .ok (.iload 4, 2) := by decide +kernel
theorem dX11_power_7 : decode cX11_power 7 = .ok (.iload_n 1, 1) := by decide +kernel
theorem dX11_power_8 : decode cX11_power 8 = .ok (.if_icmp .ge 14, 3) := by decide +kernel
theorem dX11_power_11 : decode cX11_power 11 = .ok (.lload_n 2, 1) := by decide +kernel
theorem dX11_power_12 : decode cX11_power 12 = .ok (.iload_n 0, 1) := by decide +kernel
theorem dX11_power_13 : decode cX11_power 13 = .ok (.i2l, 1) := by decide +kernel
theorem dX11_power_14 : decode cX11_power 14 = .ok (.lmul, 1) := by decide +kernel
theorem dX11_power_15 : decode cX11_power 15 = .ok (.lstore_n 2, 1) := by decide +kernel
theorem dX11_power_16 : decode cX11_power 16 = .ok (.iinc 4 1, 3) := by decide +kernel
theorem dX11_power_19 : decode cX11_power 19 = .ok (.goto (-14), 3) := by decide +kernel
theorem dX11_power_22 : decode cX11_power 22 = .ok (.lload_n 2, 1) := by decide +kernel
theorem dX11_power_23 : decode cX11_power 23 = .ok (.lreturn, 1) := by decide +kernel
